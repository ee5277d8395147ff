/-! the segments of the program, printed by wip/whole/segs.py -/
-- method 194: MillTownModel.<init>()V
theorem c_194_0 : pg_cd 194 0 = (5, 1, 0, 0, 0) := by decide +kernel
theorem c_194_1 : pg_cd 194 1 = (61, 0, 1, 0, 0) := by decide +kernel
theorem c_194_4 : pg_cd 194 4 = (5, 1, 0, 0, 0) := by decide +kernel
theorem c_194_5 : pg_cd 194 5 = (1, 2, 7, 0, 112300) := by decide +kernel
theorem c_194_7 : pg_cd 194 7 = (59, 2, 0, 0, 0) := by decide +kernel
theorem c_194_9 : pg_cd 194 9 = (49, 12, 8, 0, 0) := by decide +kernel
theorem c_194_12 : pg_cd 194 12 = (5, 1, 0, 0, 0) := by decide +kernel
theorem c_194_13 : pg_cd 194 13 = (1, 2, 7, 0, 112300) := by decide +kernel
theorem c_194_15 : pg_cd 194 15 = (59, 2, 0, 0, 0) := by decide +kernel
theorem c_194_17 : pg_cd 194 17 = (49, 12, 14, 1, 0) := by decide +kernel
theorem c_194_20 : pg_cd 194 20 = (5, 1, 0, 0, 0) := by decide +kernel
theorem c_194_21 : pg_cd 194 21 = (1, 2, 7, 0, 112300) := by decide +kernel
theorem c_194_23 : pg_cd 194 23 = (59, 2, 0, 0, 0) := by decide +kernel
theorem c_194_25 : pg_cd 194 25 = (49, 12, 17, 2, 0) := by decide +kernel
theorem c_194_28 : pg_cd 194 28 = (5, 1, 0, 0, 0) := by decide +kernel
theorem c_194_29 : pg_cd 194 29 = (1, 3, 0, 0, 300) := by decide +kernel
theorem c_194_32 : pg_cd 194 32 = (59, 2, 0, 0, 0) := by decide +kernel
theorem c_194_34 : pg_cd 194 34 = (49, 12, 20, 3, 0) := by decide +kernel
theorem c_194_37 : pg_cd 194 37 = (5, 1, 0, 0, 0) := by decide +kernel
theorem c_194_38 : pg_cd 194 38 = (1, 1, 0, 0, (-1)) := by decide +kernel
theorem c_194_39 : pg_cd 194 39 = (46, 12, 23, 5, 0) := by decide +kernel
theorem c_194_42 : pg_cd 194 42 = (5, 1, 0, 0, 0) := by decide +kernel
theorem c_194_43 : pg_cd 194 43 = (1, 1, 0, 0, (-1)) := by decide +kernel
theorem c_194_44 : pg_cd 194 44 = (46, 12, 27, 6, 0) := by decide +kernel
theorem c_194_47 : pg_cd 194 47 = (5, 1, 0, 0, 0) := by decide +kernel
theorem c_194_48 : pg_cd 194 48 = (1, 3, 0, 0, 160) := by decide +kernel
theorem c_194_51 : pg_cd 194 51 = (59, 2, 0, 0, 0) := by decide +kernel
theorem c_194_53 : pg_cd 194 53 = (49, 12, 30, 15, 0) := by decide +kernel
theorem c_194_56 : pg_cd 194 56 = (5, 1, 0, 0, 0) := by decide +kernel
theorem c_194_57 : pg_cd 194 57 = (1, 3, 0, 0, 320) := by decide +kernel
theorem c_194_60 : pg_cd 194 60 = (59, 2, 0, 1, 0) := by decide +kernel
theorem c_194_62 : pg_cd 194 62 = (49, 12, 33, 19, 0) := by decide +kernel
theorem c_194_65 : pg_cd 194 65 = (5, 1, 0, 0, 0) := by decide +kernel
theorem c_194_66 : pg_cd 194 66 = (1, 3, 0, 0, 320) := by decide +kernel
theorem c_194_69 : pg_cd 194 69 = (59, 2, 0, 1, 0) := by decide +kernel
theorem c_194_71 : pg_cd 194 71 = (49, 12, 37, 20, 0) := by decide +kernel
theorem c_194_74 : pg_cd 194 74 = (5, 1, 0, 0, 0) := by decide +kernel
theorem c_194_75 : pg_cd 194 75 = (1, 3, 0, 0, 320) := by decide +kernel
theorem c_194_78 : pg_cd 194 78 = (59, 2, 0, 2, 0) := by decide +kernel
theorem c_194_80 : pg_cd 194 80 = (49, 12, 40, 21, 0) := by decide +kernel
theorem c_194_83 : pg_cd 194 83 = (5, 1, 0, 0, 0) := by decide +kernel
theorem c_194_84 : pg_cd 194 84 = (1, 2, 0, 0, 24) := by decide +kernel
theorem c_194_86 : pg_cd 194 86 = (59, 2, 0, 0, 0) := by decide +kernel
theorem c_194_88 : pg_cd 194 88 = (49, 12, 44, 26, 0) := by decide +kernel
theorem c_194_91 : pg_cd 194 91 = (5, 1, 0, 0, 0) := by decide +kernel
theorem c_194_92 : pg_cd 194 92 = (1, 2, 0, 0, 60) := by decide +kernel
theorem c_194_94 : pg_cd 194 94 = (59, 2, 0, 0, 0) := by decide +kernel
theorem c_194_96 : pg_cd 194 96 = (49, 12, 47, 32, 0) := by decide +kernel
theorem c_194_99 : pg_cd 194 99 = (5, 1, 0, 0, 0) := by decide +kernel
theorem c_194_100 : pg_cd 194 100 = (1, 2, 0, 0, 60) := by decide +kernel
theorem c_194_102 : pg_cd 194 102 = (59, 2, 0, 0, 0) := by decide +kernel
theorem c_194_104 : pg_cd 194 104 = (49, 12, 50, 33, 0) := by decide +kernel
theorem c_194_107 : pg_cd 194 107 = (5, 1, 0, 0, 0) := by decide +kernel
theorem c_194_108 : pg_cd 194 108 = (1, 2, 0, 0, 24) := by decide +kernel
theorem c_194_110 : pg_cd 194 110 = (59, 2, 0, 0, 0) := by decide +kernel
theorem c_194_112 : pg_cd 194 112 = (49, 12, 53, 34, 0) := by decide +kernel
theorem c_194_115 : pg_cd 194 115 = (5, 1, 0, 0, 0) := by decide +kernel
theorem c_194_116 : pg_cd 194 116 = (1, 3, 0, 0, 576) := by decide +kernel
theorem c_194_119 : pg_cd 194 119 = (59, 2, 0, 1, 0) := by decide +kernel
theorem c_194_121 : pg_cd 194 121 = (49, 12, 56, 35, 0) := by decide +kernel
theorem c_194_124 : pg_cd 194 124 = (5, 1, 0, 0, 0) := by decide +kernel
theorem c_194_125 : pg_cd 194 125 = (1, 2, 0, 0, 24) := by decide +kernel
theorem c_194_127 : pg_cd 194 127 = (59, 2, 0, 1, 0) := by decide +kernel
theorem c_194_129 : pg_cd 194 129 = (49, 12, 59, 36, 0) := by decide +kernel
theorem c_194_132 : pg_cd 194 132 = (5, 1, 0, 0, 0) := by decide +kernel
theorem c_194_133 : pg_cd 194 133 = (1, 2, 0, 0, 24) := by decide +kernel
theorem c_194_135 : pg_cd 194 135 = (59, 2, 0, 0, 0) := by decide +kernel
theorem c_194_137 : pg_cd 194 137 = (49, 12, 62, 40, 0) := by decide +kernel
theorem c_194_140 : pg_cd 194 140 = (5, 1, 0, 0, 0) := by decide +kernel
theorem c_194_141 : pg_cd 194 141 = (1, 3, 0, 0, 192) := by decide +kernel
theorem c_194_144 : pg_cd 194 144 = (59, 2, 0, 0, 0) := by decide +kernel
theorem c_194_146 : pg_cd 194 146 = (49, 12, 65, 41, 0) := by decide +kernel
theorem c_194_149 : pg_cd 194 149 = (5, 1, 0, 0, 0) := by decide +kernel
theorem c_194_150 : pg_cd 194 150 = (1, 1, 0, 0, (-1)) := by decide +kernel
theorem c_194_151 : pg_cd 194 151 = (46, 12, 68, 42, 0) := by decide +kernel
theorem c_194_154 : pg_cd 194 154 = (5, 1, 0, 0, 0) := by decide +kernel
theorem c_194_155 : pg_cd 194 155 = (45, 12, 8, 0, 0) := by decide +kernel
theorem c_194_158 : pg_cd 194 158 = (1, 2, 0, 0, 12) := by decide +kernel
theorem c_194_160 : pg_cd 194 160 = (1, 2, 71, 0, 100000) := by decide +kernel
theorem c_194_162 : pg_cd 194 162 = (54, 1, 0, 0, 0) := by decide +kernel
theorem c_194_163 : pg_cd 194 163 = (5, 1, 0, 0, 0) := by decide +kernel
theorem c_194_164 : pg_cd 194 164 = (45, 12, 8, 0, 0) := by decide +kernel
theorem c_194_167 : pg_cd 194 167 = (1, 2, 0, 0, 13) := by decide +kernel
theorem c_194_169 : pg_cd 194 169 = (1, 1, 0, 0, (-1)) := by decide +kernel
theorem c_194_170 : pg_cd 194 170 = (54, 1, 0, 0, 0) := by decide +kernel
theorem c_194_171 : pg_cd 194 171 = (5, 1, 0, 0, 0) := by decide +kernel
theorem c_194_172 : pg_cd 194 172 = (45, 12, 8, 0, 0) := by decide +kernel
theorem c_194_175 : pg_cd 194 175 = (1, 2, 0, 0, 14) := by decide +kernel
theorem c_194_177 : pg_cd 194 177 = (1, 1, 0, 0, (-1)) := by decide +kernel
theorem c_194_178 : pg_cd 194 178 = (54, 1, 0, 0, 0) := by decide +kernel
theorem c_194_179 : pg_cd 194 179 = (1, 1, 0, 0, 0) := by decide +kernel
theorem c_194_180 : pg_cd 194 180 = (6, 1, 0, 1, 0) := by decide +kernel
theorem c_194_181 : pg_cd 194 181 = (3, 1, 0, 1, 0) := by decide +kernel
theorem c_194_182 : pg_cd 194 182 = (1, 2, 0, 0, 6) := by decide +kernel
theorem c_194_184 : pg_cd 194 184 = (37, 3, 0, 3, 73) := by decide +kernel
theorem c_194_187 : pg_cd 194 187 = (5, 1, 0, 0, 0) := by decide +kernel
theorem c_194_188 : pg_cd 194 188 = (45, 12, 8, 0, 0) := by decide +kernel
theorem c_194_191 : pg_cd 194 191 = (1, 2, 0, 0, 20) := by decide +kernel
theorem c_194_193 : pg_cd 194 193 = (1, 2, 0, 0, 8) := by decide +kernel
theorem c_194_195 : pg_cd 194 195 = (3, 1, 0, 1, 0) := by decide +kernel
theorem c_194_196 : pg_cd 194 196 = (12, 1, 0, 0, 0) := by decide +kernel
theorem c_194_197 : pg_cd 194 197 = (10, 1, 0, 0, 0) := by decide +kernel
theorem c_194_198 : pg_cd 194 198 = (1, 1, 0, 0, 1) := by decide +kernel
theorem c_194_199 : pg_cd 194 199 = (10, 1, 0, 0, 0) := by decide +kernel
theorem c_194_200 : pg_cd 194 200 = (1, 2, 0, 0, 60) := by decide +kernel
theorem c_194_202 : pg_cd 194 202 = (54, 1, 0, 0, 0) := by decide +kernel
theorem c_194_203 : pg_cd 194 203 = (5, 1, 0, 0, 0) := by decide +kernel
theorem c_194_204 : pg_cd 194 204 = (45, 12, 8, 0, 0) := by decide +kernel
theorem c_194_207 : pg_cd 194 207 = (1, 2, 0, 0, 20) := by decide +kernel
theorem c_194_209 : pg_cd 194 209 = (1, 2, 0, 0, 8) := by decide +kernel
theorem c_194_211 : pg_cd 194 211 = (3, 1, 0, 1, 0) := by decide +kernel
theorem c_194_212 : pg_cd 194 212 = (12, 1, 0, 0, 0) := by decide +kernel
theorem c_194_213 : pg_cd 194 213 = (10, 1, 0, 0, 0) := by decide +kernel
theorem c_194_214 : pg_cd 194 214 = (1, 1, 0, 0, 2) := by decide +kernel
theorem c_194_215 : pg_cd 194 215 = (10, 1, 0, 0, 0) := by decide +kernel
theorem c_194_216 : pg_cd 194 216 = (1, 2, 0, 0, 30) := by decide +kernel
theorem c_194_218 : pg_cd 194 218 = (54, 1, 0, 0, 0) := by decide +kernel
theorem c_194_219 : pg_cd 194 219 = (5, 1, 0, 0, 0) := by decide +kernel
theorem c_194_220 : pg_cd 194 220 = (45, 12, 8, 0, 0) := by decide +kernel
theorem c_194_223 : pg_cd 194 223 = (1, 2, 0, 0, 20) := by decide +kernel
theorem c_194_225 : pg_cd 194 225 = (1, 2, 0, 0, 8) := by decide +kernel
theorem c_194_227 : pg_cd 194 227 = (3, 1, 0, 1, 0) := by decide +kernel
theorem c_194_228 : pg_cd 194 228 = (12, 1, 0, 0, 0) := by decide +kernel
theorem c_194_229 : pg_cd 194 229 = (10, 1, 0, 0, 0) := by decide +kernel
theorem c_194_230 : pg_cd 194 230 = (1, 1, 0, 0, 3) := by decide +kernel
theorem c_194_231 : pg_cd 194 231 = (10, 1, 0, 0, 0) := by decide +kernel
theorem c_194_232 : pg_cd 194 232 = (1, 2, 0, 0, 10) := by decide +kernel
theorem c_194_234 : pg_cd 194 234 = (54, 1, 0, 0, 0) := by decide +kernel
theorem c_194_235 : pg_cd 194 235 = (5, 1, 0, 0, 0) := by decide +kernel
theorem c_194_236 : pg_cd 194 236 = (45, 12, 8, 0, 0) := by decide +kernel
theorem c_194_239 : pg_cd 194 239 = (1, 2, 0, 0, 20) := by decide +kernel
theorem c_194_241 : pg_cd 194 241 = (1, 2, 0, 0, 8) := by decide +kernel
theorem c_194_243 : pg_cd 194 243 = (3, 1, 0, 1, 0) := by decide +kernel
theorem c_194_244 : pg_cd 194 244 = (12, 1, 0, 0, 0) := by decide +kernel
theorem c_194_245 : pg_cd 194 245 = (10, 1, 0, 0, 0) := by decide +kernel
theorem c_194_246 : pg_cd 194 246 = (1, 2, 0, 0, 6) := by decide +kernel
theorem c_194_248 : pg_cd 194 248 = (10, 1, 0, 0, 0) := by decide +kernel
theorem c_194_249 : pg_cd 194 249 = (1, 1, 0, 0, (-1)) := by decide +kernel
theorem c_194_250 : pg_cd 194 250 = (54, 1, 0, 0, 0) := by decide +kernel
theorem c_194_251 : pg_cd 194 251 = (9, 3, 0, 1, 1) := by decide +kernel
theorem c_194_254 : pg_cd 194 254 = (38, 3, 0, 0, (-73)) := by decide +kernel
theorem c_194_257 : pg_cd 194 257 = (1, 1, 0, 0, 0) := by decide +kernel
theorem c_194_258 : pg_cd 194 258 = (6, 1, 0, 1, 0) := by decide +kernel
theorem c_194_259 : pg_cd 194 259 = (3, 1, 0, 1, 0) := by decide +kernel
theorem c_194_260 : pg_cd 194 260 = (1, 2, 0, 0, 8) := by decide +kernel
theorem c_194_262 : pg_cd 194 262 = (37, 3, 0, 3, 40) := by decide +kernel
theorem c_194_265 : pg_cd 194 265 = (5, 1, 0, 0, 0) := by decide +kernel
theorem c_194_266 : pg_cd 194 266 = (45, 12, 8, 0, 0) := by decide +kernel
theorem c_194_269 : pg_cd 194 269 = (1, 2, 0, 0, 70) := by decide +kernel
theorem c_194_271 : pg_cd 194 271 = (3, 1, 0, 1, 0) := by decide +kernel
theorem c_194_272 : pg_cd 194 272 = (10, 1, 0, 0, 0) := by decide +kernel
theorem c_194_273 : pg_cd 194 273 = (3, 1, 0, 1, 0) := by decide +kernel
theorem c_194_274 : pg_cd 194 274 = (36, 3, 0, 1, 9) := by decide +kernel
theorem c_194_277 : pg_cd 194 277 = (1, 3, 0, 0, 1000) := by decide +kernel
theorem c_194_280 : pg_cd 194 280 = (38, 3, 0, 0, 15) := by decide +kernel
theorem c_194_283 : pg_cd 194 283 = (3, 1, 0, 1, 0) := by decide +kernel
theorem c_194_284 : pg_cd 194 284 = (1, 1, 0, 0, 1) := by decide +kernel
theorem c_194_285 : pg_cd 194 285 = (37, 3, 0, 1, 8) := by decide +kernel
theorem c_194_288 : pg_cd 194 288 = (1, 2, 0, 0, 6) := by decide +kernel
theorem c_194_290 : pg_cd 194 290 = (38, 3, 0, 0, 5) := by decide +kernel
theorem c_194_293 : pg_cd 194 293 = (1, 2, 0, 0, 60) := by decide +kernel
theorem c_194_295 : pg_cd 194 295 = (54, 1, 0, 0, 0) := by decide +kernel
theorem c_194_296 : pg_cd 194 296 = (9, 3, 0, 1, 1) := by decide +kernel
theorem c_194_299 : pg_cd 194 299 = (38, 3, 0, 0, (-40)) := by decide +kernel
theorem c_194_302 : pg_cd 194 302 = (5, 1, 0, 0, 0) := by decide +kernel
theorem c_194_303 : pg_cd 194 303 = (45, 12, 8, 0, 0) := by decide +kernel
theorem c_194_306 : pg_cd 194 306 = (5, 1, 0, 0, 0) := by decide +kernel
theorem c_194_307 : pg_cd 194 307 = (45, 12, 14, 1, 0) := by decide +kernel
theorem c_194_310 : pg_cd 194 310 = (81, 195, 72, 0, 0) := by decide +kernel
theorem c_194_313 : pg_cd 194 313 = (94, 0, 0, 0, 0) := by decide +kernel
theorem mx_194 : pg_mx 194 = 2 := by decide +kernel
theorem m_194 {d : Nat} {h : ab_H} {Q : Option Value → ab_H → Prop} {x0 : Nat} (t : wq d 194 0 [.ref x0, .retAddr 0] [] h Q) : wm d 194 [.ref x0] h Q := by
  unfold wm
  rw [mx_194]
  exact t
set_option maxRecDepth 20000 in
theorem t_194_0 {d : Nat} {h : ab_H} {Q : Option Value → ab_H → Prop} {x0 : Nat} (t : (¬ (112300 : Int32) < 0 ∧ Int32.toNatClampNeg (112300 : Int32) ≤ 1000000) ∧ ∀ h1 : ab_H, h1 = ab_new h 0 (Int32.toNatClampNeg (112300 : Int32)) (Int32.toNatClampNeg (112300 : Int32)) → ab_ok h1 x0 112 = true ∧ ∀ h2 : ab_H, h2 = ab_pr h1 x0 0 (some (ab_n h)) → (¬ (112300 : Int32) < 0 ∧ Int32.toNatClampNeg (112300 : Int32) ≤ 1000000) ∧ ∀ h3 : ab_H, h3 = ab_new h2 0 (Int32.toNatClampNeg (112300 : Int32)) (Int32.toNatClampNeg (112300 : Int32)) → ab_ok h3 x0 112 = true ∧ ∀ h4 : ab_H, h4 = ab_pr h3 x0 1 (some (ab_n h2)) → (¬ (112300 : Int32) < 0 ∧ Int32.toNatClampNeg (112300 : Int32) ≤ 1000000) ∧ ∀ h5 : ab_H, h5 = ab_new h4 0 (Int32.toNatClampNeg (112300 : Int32)) (Int32.toNatClampNeg (112300 : Int32)) → ab_ok h5 x0 112 = true ∧ ∀ h6 : ab_H, h6 = ab_pr h5 x0 2 (some (ab_n h4)) → (¬ (300 : Int32) < 0 ∧ Int32.toNatClampNeg (300 : Int32) ≤ 1000000) ∧ ∀ h7 : ab_H, h7 = ab_new h6 0 (Int32.toNatClampNeg (300 : Int32)) (Int32.toNatClampNeg (300 : Int32)) → ab_ok h7 x0 112 = true ∧ ∀ h8 : ab_H, h8 = ab_pr h7 x0 3 (some (ab_n h6)) → ab_ok h8 x0 112 = true ∧ ∀ h9 : ab_H, h9 = ab_pi h8 x0 5 (-1) → ab_ok h9 x0 112 = true ∧ ∀ h10 : ab_H, h10 = ab_pi h9 x0 6 (-1) → (¬ (160 : Int32) < 0 ∧ Int32.toNatClampNeg (160 : Int32) ≤ 1000000) ∧ ∀ h11 : ab_H, h11 = ab_new h10 0 (Int32.toNatClampNeg (160 : Int32)) (Int32.toNatClampNeg (160 : Int32)) → ab_ok h11 x0 112 = true ∧ ∀ h12 : ab_H, h12 = ab_pr h11 x0 15 (some (ab_n h10)) → (¬ (320 : Int32) < 0 ∧ Int32.toNatClampNeg (320 : Int32) ≤ 1000000) ∧ ∀ h13 : ab_H, h13 = ab_new h12 1 (Int32.toNatClampNeg (320 : Int32)) (Int32.toNatClampNeg (320 : Int32)) → ab_ok h13 x0 112 = true ∧ ∀ h14 : ab_H, h14 = ab_pr h13 x0 19 (some (ab_n h12)) → (¬ (320 : Int32) < 0 ∧ Int32.toNatClampNeg (320 : Int32) ≤ 1000000) ∧ ∀ h15 : ab_H, h15 = ab_new h14 1 (Int32.toNatClampNeg (320 : Int32)) (Int32.toNatClampNeg (320 : Int32)) → ab_ok h15 x0 112 = true ∧ ∀ h16 : ab_H, h16 = ab_pr h15 x0 20 (some (ab_n h14)) → (¬ (320 : Int32) < 0 ∧ Int32.toNatClampNeg (320 : Int32) ≤ 1000000) ∧ ∀ h17 : ab_H, h17 = ab_new h16 2 (Int32.toNatClampNeg (320 : Int32)) (Int32.toNatClampNeg (320 : Int32)) → ab_ok h17 x0 112 = true ∧ ∀ h18 : ab_H, h18 = ab_pr h17 x0 21 (some (ab_n h16)) → (¬ (24 : Int32) < 0 ∧ Int32.toNatClampNeg (24 : Int32) ≤ 1000000) ∧ ∀ h19 : ab_H, h19 = ab_new h18 0 (Int32.toNatClampNeg (24 : Int32)) (Int32.toNatClampNeg (24 : Int32)) → ab_ok h19 x0 112 = true ∧ ∀ h20 : ab_H, h20 = ab_pr h19 x0 26 (some (ab_n h18)) → (¬ (60 : Int32) < 0 ∧ Int32.toNatClampNeg (60 : Int32) ≤ 1000000) ∧ ∀ h21 : ab_H, h21 = ab_new h20 0 (Int32.toNatClampNeg (60 : Int32)) (Int32.toNatClampNeg (60 : Int32)) → ab_ok h21 x0 112 = true ∧ ∀ h22 : ab_H, h22 = ab_pr h21 x0 32 (some (ab_n h20)) → (¬ (60 : Int32) < 0 ∧ Int32.toNatClampNeg (60 : Int32) ≤ 1000000) ∧ ∀ h23 : ab_H, h23 = ab_new h22 0 (Int32.toNatClampNeg (60 : Int32)) (Int32.toNatClampNeg (60 : Int32)) → ab_ok h23 x0 112 = true ∧ ∀ h24 : ab_H, h24 = ab_pr h23 x0 33 (some (ab_n h22)) → (¬ (24 : Int32) < 0 ∧ Int32.toNatClampNeg (24 : Int32) ≤ 1000000) ∧ ∀ h25 : ab_H, h25 = ab_new h24 0 (Int32.toNatClampNeg (24 : Int32)) (Int32.toNatClampNeg (24 : Int32)) → ab_ok h25 x0 112 = true ∧ ∀ h26 : ab_H, h26 = ab_pr h25 x0 34 (some (ab_n h24)) → (¬ (576 : Int32) < 0 ∧ Int32.toNatClampNeg (576 : Int32) ≤ 1000000) ∧ ∀ h27 : ab_H, h27 = ab_new h26 1 (Int32.toNatClampNeg (576 : Int32)) (Int32.toNatClampNeg (576 : Int32)) → ab_ok h27 x0 112 = true ∧ ∀ h28 : ab_H, h28 = ab_pr h27 x0 35 (some (ab_n h26)) → (¬ (24 : Int32) < 0 ∧ Int32.toNatClampNeg (24 : Int32) ≤ 1000000) ∧ ∀ h29 : ab_H, h29 = ab_new h28 1 (Int32.toNatClampNeg (24 : Int32)) (Int32.toNatClampNeg (24 : Int32)) → ab_ok h29 x0 112 = true ∧ ∀ h30 : ab_H, h30 = ab_pr h29 x0 36 (some (ab_n h28)) → (¬ (24 : Int32) < 0 ∧ Int32.toNatClampNeg (24 : Int32) ≤ 1000000) ∧ ∀ h31 : ab_H, h31 = ab_new h30 0 (Int32.toNatClampNeg (24 : Int32)) (Int32.toNatClampNeg (24 : Int32)) → ab_ok h31 x0 112 = true ∧ ∀ h32 : ab_H, h32 = ab_pr h31 x0 40 (some (ab_n h30)) → (¬ (192 : Int32) < 0 ∧ Int32.toNatClampNeg (192 : Int32) ≤ 1000000) ∧ ∀ h33 : ab_H, h33 = ab_new h32 0 (Int32.toNatClampNeg (192 : Int32)) (Int32.toNatClampNeg (192 : Int32)) → ab_ok h33 x0 112 = true ∧ ∀ h34 : ab_H, h34 = ab_pr h33 x0 41 (some (ab_n h32)) → ab_ok h34 x0 112 = true ∧ ∀ h35 : ab_H, h35 = ab_pi h34 x0 42 (-1) → ab_ok h35 x0 112 = true ∧ ∃ j36 : Nat, ab_r h35 x0 0 = some j36 ∧ (ab_ok h35 j36 0 = true ∧ ab_in (12 : Int32) (ab_s h35 j36).2 = true) ∧ ∀ h37 : ab_H, h37 = ab_pi h35 j36 (Int32.toNatClampNeg (12 : Int32)) 100000 → ab_ok h37 x0 112 = true ∧ ∃ j38 : Nat, ab_r h37 x0 0 = some j38 ∧ (ab_ok h37 j38 0 = true ∧ ab_in (13 : Int32) (ab_s h37 j38).2 = true) ∧ ∀ h39 : ab_H, h39 = ab_pi h37 j38 (Int32.toNatClampNeg (13 : Int32)) (-1) → ab_ok h39 x0 112 = true ∧ ∃ j40 : Nat, ab_r h39 x0 0 = some j40 ∧ (ab_ok h39 j40 0 = true ∧ ab_in (14 : Int32) (ab_s h39 j40).2 = true) ∧ ∀ h41 : ab_H, h41 = ab_pi h39 j40 (Int32.toNatClampNeg (14 : Int32)) (-1) → wq d 194 181 [.ref x0, .int 0] [] h41 Q) : wq d 194 0 [.ref x0, .retAddr 0] [] h Q := by
  refine g5 c_194_0 rfl ?_
  refine g61 c_194_1 (Nat.le_of_ble_eq_true rfl) ?_
  refine g5 c_194_4 rfl ?_
  refine g1 c_194_5 k_112300 ?_
  obtain ⟨ho, t⟩ := t
  refine g59 c_194_7 ho (fun h1 eh1 => ?_)
  have t := t h1 eh1
  obtain ⟨ho, t⟩ := t
  refine g49 c_194_9 ho (fun h2 eh2 => ?_)
  have t := t h2 eh2
  refine g5 c_194_12 rfl ?_
  refine g1 c_194_13 k_112300 ?_
  obtain ⟨ho, t⟩ := t
  refine g59 c_194_15 ho (fun h3 eh3 => ?_)
  have t := t h3 eh3
  obtain ⟨ho, t⟩ := t
  refine g49 c_194_17 ho (fun h4 eh4 => ?_)
  have t := t h4 eh4
  refine g5 c_194_20 rfl ?_
  refine g1 c_194_21 k_112300 ?_
  obtain ⟨ho, t⟩ := t
  refine g59 c_194_23 ho (fun h5 eh5 => ?_)
  have t := t h5 eh5
  obtain ⟨ho, t⟩ := t
  refine g49 c_194_25 ho (fun h6 eh6 => ?_)
  have t := t h6 eh6
  refine g5 c_194_28 rfl ?_
  refine g1 c_194_29 k_300 ?_
  obtain ⟨ho, t⟩ := t
  refine g59 c_194_32 ho (fun h7 eh7 => ?_)
  have t := t h7 eh7
  obtain ⟨ho, t⟩ := t
  refine g49 c_194_34 ho (fun h8 eh8 => ?_)
  have t := t h8 eh8
  refine g5 c_194_37 rfl ?_
  refine g1 c_194_38 k_m1 ?_
  obtain ⟨ho, t⟩ := t
  refine g46 c_194_39 ho (fun h9 eh9 => ?_)
  have t := t h9 eh9
  refine g5 c_194_42 rfl ?_
  refine g1 c_194_43 k_m1 ?_
  obtain ⟨ho, t⟩ := t
  refine g46 c_194_44 ho (fun h10 eh10 => ?_)
  have t := t h10 eh10
  refine g5 c_194_47 rfl ?_
  refine g1 c_194_48 k_160 ?_
  obtain ⟨ho, t⟩ := t
  refine g59 c_194_51 ho (fun h11 eh11 => ?_)
  have t := t h11 eh11
  obtain ⟨ho, t⟩ := t
  refine g49 c_194_53 ho (fun h12 eh12 => ?_)
  have t := t h12 eh12
  refine g5 c_194_56 rfl ?_
  refine g1 c_194_57 k_320 ?_
  obtain ⟨ho, t⟩ := t
  refine g59 c_194_60 ho (fun h13 eh13 => ?_)
  have t := t h13 eh13
  obtain ⟨ho, t⟩ := t
  refine g49 c_194_62 ho (fun h14 eh14 => ?_)
  have t := t h14 eh14
  refine g5 c_194_65 rfl ?_
  refine g1 c_194_66 k_320 ?_
  obtain ⟨ho, t⟩ := t
  refine g59 c_194_69 ho (fun h15 eh15 => ?_)
  have t := t h15 eh15
  obtain ⟨ho, t⟩ := t
  refine g49 c_194_71 ho (fun h16 eh16 => ?_)
  have t := t h16 eh16
  refine g5 c_194_74 rfl ?_
  refine g1 c_194_75 k_320 ?_
  obtain ⟨ho, t⟩ := t
  refine g59 c_194_78 ho (fun h17 eh17 => ?_)
  have t := t h17 eh17
  obtain ⟨ho, t⟩ := t
  refine g49 c_194_80 ho (fun h18 eh18 => ?_)
  have t := t h18 eh18
  refine g5 c_194_83 rfl ?_
  refine g1 c_194_84 k_24 ?_
  obtain ⟨ho, t⟩ := t
  refine g59 c_194_86 ho (fun h19 eh19 => ?_)
  have t := t h19 eh19
  obtain ⟨ho, t⟩ := t
  refine g49 c_194_88 ho (fun h20 eh20 => ?_)
  have t := t h20 eh20
  refine g5 c_194_91 rfl ?_
  refine g1 c_194_92 k_60 ?_
  obtain ⟨ho, t⟩ := t
  refine g59 c_194_94 ho (fun h21 eh21 => ?_)
  have t := t h21 eh21
  obtain ⟨ho, t⟩ := t
  refine g49 c_194_96 ho (fun h22 eh22 => ?_)
  have t := t h22 eh22
  refine g5 c_194_99 rfl ?_
  refine g1 c_194_100 k_60 ?_
  obtain ⟨ho, t⟩ := t
  refine g59 c_194_102 ho (fun h23 eh23 => ?_)
  have t := t h23 eh23
  obtain ⟨ho, t⟩ := t
  refine g49 c_194_104 ho (fun h24 eh24 => ?_)
  have t := t h24 eh24
  refine g5 c_194_107 rfl ?_
  refine g1 c_194_108 k_24 ?_
  obtain ⟨ho, t⟩ := t
  refine g59 c_194_110 ho (fun h25 eh25 => ?_)
  have t := t h25 eh25
  obtain ⟨ho, t⟩ := t
  refine g49 c_194_112 ho (fun h26 eh26 => ?_)
  have t := t h26 eh26
  refine g5 c_194_115 rfl ?_
  refine g1 c_194_116 k_576 ?_
  obtain ⟨ho, t⟩ := t
  refine g59 c_194_119 ho (fun h27 eh27 => ?_)
  have t := t h27 eh27
  obtain ⟨ho, t⟩ := t
  refine g49 c_194_121 ho (fun h28 eh28 => ?_)
  have t := t h28 eh28
  refine g5 c_194_124 rfl ?_
  refine g1 c_194_125 k_24 ?_
  obtain ⟨ho, t⟩ := t
  refine g59 c_194_127 ho (fun h29 eh29 => ?_)
  have t := t h29 eh29
  obtain ⟨ho, t⟩ := t
  refine g49 c_194_129 ho (fun h30 eh30 => ?_)
  have t := t h30 eh30
  refine g5 c_194_132 rfl ?_
  refine g1 c_194_133 k_24 ?_
  obtain ⟨ho, t⟩ := t
  refine g59 c_194_135 ho (fun h31 eh31 => ?_)
  have t := t h31 eh31
  obtain ⟨ho, t⟩ := t
  refine g49 c_194_137 ho (fun h32 eh32 => ?_)
  have t := t h32 eh32
  refine g5 c_194_140 rfl ?_
  refine g1 c_194_141 k_192 ?_
  obtain ⟨ho, t⟩ := t
  refine g59 c_194_144 ho (fun h33 eh33 => ?_)
  have t := t h33 eh33
  obtain ⟨ho, t⟩ := t
  refine g49 c_194_146 ho (fun h34 eh34 => ?_)
  have t := t h34 eh34
  refine g5 c_194_149 rfl ?_
  refine g1 c_194_150 k_m1 ?_
  obtain ⟨ho, t⟩ := t
  refine g46 c_194_151 ho (fun h35 eh35 => ?_)
  have t := t h35 eh35
  refine g5 c_194_154 rfl ?_
  obtain ⟨ho, j36, hr, t⟩ := t
  refine g45 c_194_155 ho hr ?_
  refine g1 c_194_158 k_12 ?_
  refine g1 c_194_160 k_100000 ?_
  obtain ⟨ho, t⟩ := t
  refine g54 c_194_162 ho (fun h37 eh37 => ?_)
  have t := t h37 eh37
  refine g5 c_194_163 rfl ?_
  obtain ⟨ho, j38, hr, t⟩ := t
  refine g45 c_194_164 ho hr ?_
  refine g1 c_194_167 k_13 ?_
  refine g1 c_194_169 k_m1 ?_
  obtain ⟨ho, t⟩ := t
  refine g54 c_194_170 ho (fun h39 eh39 => ?_)
  have t := t h39 eh39
  refine g5 c_194_171 rfl ?_
  obtain ⟨ho, j40, hr, t⟩ := t
  refine g45 c_194_172 ho hr ?_
  refine g1 c_194_175 k_14 ?_
  refine g1 c_194_177 k_m1 ?_
  obtain ⟨ho, t⟩ := t
  refine g54 c_194_178 ho (fun h41 eh41 => ?_)
  have t := t h41 eh41
  refine g1 c_194_179 k_0 ?_
  refine g6 (L' := [.ref x0, .int 0]) c_194_180 rfl ?_
  exact t
set_option maxRecDepth 20000 in
theorem t_194_181 {d : Nat} {h : ab_H} {Q : Option Value → ab_H → Prop} {x0 : Nat} {x1 : Int32} (t : if 6 ≤ x1 then (wq d 194 259 [.ref x0, .int 0] [] h Q) else (ab_ok h x0 112 = true ∧ ∃ j1 : Nat, ab_r h x0 0 = some j1 ∧ (ab_ok h j1 0 = true ∧ ab_in ((20 + (8 * x1)) + 1) (ab_s h j1).2 = true) ∧ ∀ h2 : ab_H, h2 = ab_pi h j1 (Int32.toNatClampNeg ((20 + (8 * x1)) + 1)) 60 → ab_ok h2 x0 112 = true ∧ ∃ j3 : Nat, ab_r h2 x0 0 = some j3 ∧ (ab_ok h2 j3 0 = true ∧ ab_in ((20 + (8 * x1)) + 2) (ab_s h2 j3).2 = true) ∧ ∀ h4 : ab_H, h4 = ab_pi h2 j3 (Int32.toNatClampNeg ((20 + (8 * x1)) + 2)) 30 → ab_ok h4 x0 112 = true ∧ ∃ j5 : Nat, ab_r h4 x0 0 = some j5 ∧ (ab_ok h4 j5 0 = true ∧ ab_in ((20 + (8 * x1)) + 3) (ab_s h4 j5).2 = true) ∧ ∀ h6 : ab_H, h6 = ab_pi h4 j5 (Int32.toNatClampNeg ((20 + (8 * x1)) + 3)) 10 → ab_ok h6 x0 112 = true ∧ ∃ j7 : Nat, ab_r h6 x0 0 = some j7 ∧ (ab_ok h6 j7 0 = true ∧ ab_in ((20 + (8 * x1)) + 6) (ab_s h6 j7).2 = true) ∧ ∀ h8 : ab_H, h8 = ab_pi h6 j7 (Int32.toNatClampNeg ((20 + (8 * x1)) + 6)) (-1) → wq d 194 181 [.ref x0, .int (x1 + 1)] [] h8 Q)) : wq d 194 181 [.ref x0, .int x1] [] h Q := by
  refine g3 c_194_181 rfl ?_
  refine g1 c_194_182 k_6 ?_
  refine gcm c_194_184 (gbr t rfl rfl (fun hc t => ?_) (fun hc t => ?_))
  · refine g1 c_194_257 k_0 ?_
    refine g6 (L' := [.ref x0, .int 0]) c_194_258 rfl ?_
    exact t
  · refine g5 c_194_187 rfl ?_
    obtain ⟨ho, j1, hr, t⟩ := t
    refine g45 c_194_188 ho hr ?_
    refine g1 c_194_191 k_20 ?_
    refine g1 c_194_193 k_8 ?_
    refine g3 c_194_195 rfl ?_
    refine g12 c_194_196 ?_
    refine g10 c_194_197 ?_
    refine g1 c_194_198 k_1 ?_
    refine g10 c_194_199 ?_
    refine g1 c_194_200 k_60 ?_
    obtain ⟨ho, t⟩ := t
    refine g54 c_194_202 ho (fun h2 eh2 => ?_)
    have t := t h2 eh2
    refine g5 c_194_203 rfl ?_
    obtain ⟨ho, j3, hr, t⟩ := t
    refine g45 c_194_204 ho hr ?_
    refine g1 c_194_207 k_20 ?_
    refine g1 c_194_209 k_8 ?_
    refine g3 c_194_211 rfl ?_
    refine g12 c_194_212 ?_
    refine g10 c_194_213 ?_
    refine g1 c_194_214 k_2 ?_
    refine g10 c_194_215 ?_
    refine g1 c_194_216 k_30 ?_
    obtain ⟨ho, t⟩ := t
    refine g54 c_194_218 ho (fun h4 eh4 => ?_)
    have t := t h4 eh4
    refine g5 c_194_219 rfl ?_
    obtain ⟨ho, j5, hr, t⟩ := t
    refine g45 c_194_220 ho hr ?_
    refine g1 c_194_223 k_20 ?_
    refine g1 c_194_225 k_8 ?_
    refine g3 c_194_227 rfl ?_
    refine g12 c_194_228 ?_
    refine g10 c_194_229 ?_
    refine g1 c_194_230 k_3 ?_
    refine g10 c_194_231 ?_
    refine g1 c_194_232 k_10 ?_
    obtain ⟨ho, t⟩ := t
    refine g54 c_194_234 ho (fun h6 eh6 => ?_)
    have t := t h6 eh6
    refine g5 c_194_235 rfl ?_
    obtain ⟨ho, j7, hr, t⟩ := t
    refine g45 c_194_236 ho hr ?_
    refine g1 c_194_239 k_20 ?_
    refine g1 c_194_241 k_8 ?_
    refine g3 c_194_243 rfl ?_
    refine g12 c_194_244 ?_
    refine g10 c_194_245 ?_
    refine g1 c_194_246 k_6 ?_
    refine g10 c_194_248 ?_
    refine g1 c_194_249 k_m1 ?_
    obtain ⟨ho, t⟩ := t
    refine g54 c_194_250 ho (fun h8 eh8 => ?_)
    have t := t h8 eh8
    refine g9 (L' := [.ref x0, .int (x1 + 1)]) c_194_251 rfl k_1 rfl ?_
    refine g38 c_194_254 rfl ?_
    exact t
set_option maxRecDepth 20000 in
theorem t_194_259 {d : Nat} {h : ab_H} {Q : Option Value → ab_H → Prop} {x0 : Nat} {x1 : Int32} (t : if 8 ≤ x1 then (ab_ok h x0 112 = true ∧ ∃ j1 : Nat, ab_r h x0 0 = some j1 ∧ ab_ok h x0 112 = true ∧ ∃ j2 : Nat, ab_r h x0 1 = some j2 ∧ wm d 195 [.ref j1, .ref j2] h (fun r9 h9 => wq (d + 1) 194 313 [.ref x0, .int x1] (r9.toList ++ []) h9 Q)) else (ab_ok h x0 112 = true ∧ ∃ j3 : Nat, ab_r h x0 0 = some j3 ∧ if x1 = 0 then ((ab_ok h j3 0 = true ∧ ab_in (70 + x1) (ab_s h j3).2 = true) ∧ ∀ h4 : ab_H, h4 = ab_pi h j3 (Int32.toNatClampNeg (70 + x1)) 1000 → wq (d + 1) 194 259 [.ref x0, .int (x1 + 1)] [] h4 Q) else (if x1 = 1 then ((ab_ok h j3 0 = true ∧ ab_in (70 + x1) (ab_s h j3).2 = true) ∧ ∀ h5 : ab_H, h5 = ab_pi h j3 (Int32.toNatClampNeg (70 + x1)) 6 → wq (d + 1) 194 259 [.ref x0, .int (x1 + 1)] [] h5 Q) else ((ab_ok h j3 0 = true ∧ ab_in (70 + x1) (ab_s h j3).2 = true) ∧ ∀ h6 : ab_H, h6 = ab_pi h j3 (Int32.toNatClampNeg (70 + x1)) 60 → wq (d + 1) 194 259 [.ref x0, .int (x1 + 1)] [] h6 Q)))) : wq (d + 1) 194 259 [.ref x0, .int x1] [] h Q := by
  refine g3 c_194_259 rfl ?_
  refine g1 c_194_260 k_8 ?_
  refine gcm c_194_262 (gbr t rfl rfl (fun hc t => ?_) (fun hc t => ?_))
  · refine g5 c_194_302 rfl ?_
    obtain ⟨ho, j1, hr, t⟩ := t
    refine g45 c_194_303 ho hr ?_
    refine g5 c_194_306 rfl ?_
    obtain ⟨ho, j2, hr, t⟩ := t
    refine g45 c_194_307 ho hr ?_
    exact g81 (As := [.ref j1, .ref j2]) (rest := []) c_194_310 rfl rfl (Nat.le_of_ble_eq_true rfl) (Nat.le_of_ble_eq_true rfl) t
  · refine g5 c_194_265 rfl ?_
    obtain ⟨ho, j3, hr, t⟩ := t
    refine g45 c_194_266 ho hr ?_
    refine g1 c_194_269 k_70 ?_
    refine g3 c_194_271 rfl ?_
    refine g10 c_194_272 ?_
    refine g3 c_194_273 rfl ?_
    refine gif c_194_274 (gbn t (ab_c1 _ _) rfl (fun hc t => ?_) (fun hc t => ?_))
    · refine g1 c_194_277 k_1000 ?_
      refine g38 c_194_280 rfl ?_
      obtain ⟨ho, t⟩ := t
      refine g54 c_194_295 ho (fun h4 eh4 => ?_)
      have t := t h4 eh4
      refine g9 (L' := [.ref x0, .int (x1 + 1)]) c_194_296 rfl k_1 rfl ?_
      refine g38 c_194_299 rfl ?_
      exact t
    · refine g3 c_194_283 rfl ?_
      refine g1 c_194_284 k_1 ?_
      refine gcm c_194_285 (gbn t (ab_c1 _ _) rfl (fun hc t => ?_) (fun hc t => ?_))
      · refine g1 c_194_288 k_6 ?_
        refine g38 c_194_290 rfl ?_
        obtain ⟨ho, t⟩ := t
        refine g54 c_194_295 ho (fun h5 eh5 => ?_)
        have t := t h5 eh5
        refine g9 (L' := [.ref x0, .int (x1 + 1)]) c_194_296 rfl k_1 rfl ?_
        refine g38 c_194_299 rfl ?_
        exact t
      · refine g1 c_194_293 k_60 ?_
        obtain ⟨ho, t⟩ := t
        refine g54 c_194_295 ho (fun h6 eh6 => ?_)
        have t := t h6 eh6
        refine g9 (L' := [.ref x0, .int (x1 + 1)]) c_194_296 rfl k_1 rfl ?_
        refine g38 c_194_299 rfl ?_
        exact t
set_option maxRecDepth 20000 in
theorem t_194_313 {d : Nat} {h : ab_H} {Q : Option Value → ab_H → Prop} {x0 : Nat} {x1 : Int32} (t : Q none h) : wq d 194 313 [.ref x0, .int x1] [] h Q := by
  exact g94 c_194_313 t
-- method 195: MillTownModel.copy([I[I)V
theorem c_195_0 : pg_cd 195 0 = (1, 1, 0, 0, 0) := by decide +kernel
theorem c_195_1 : pg_cd 195 1 = (6, 1, 0, 2, 0) := by decide +kernel
theorem c_195_2 : pg_cd 195 2 = (3, 1, 0, 2, 0) := by decide +kernel
theorem c_195_3 : pg_cd 195 3 = (1, 2, 7, 0, 112300) := by decide +kernel
theorem c_195_5 : pg_cd 195 5 = (37, 3, 0, 3, 15) := by decide +kernel
theorem c_195_8 : pg_cd 195 8 = (5, 1, 0, 1, 0) := by decide +kernel
theorem c_195_9 : pg_cd 195 9 = (3, 1, 0, 2, 0) := by decide +kernel
theorem c_195_10 : pg_cd 195 10 = (5, 1, 0, 0, 0) := by decide +kernel
theorem c_195_11 : pg_cd 195 11 = (3, 1, 0, 2, 0) := by decide +kernel
theorem c_195_12 : pg_cd 195 12 = (50, 1, 0, 0, 0) := by decide +kernel
theorem c_195_13 : pg_cd 195 13 = (54, 1, 0, 0, 0) := by decide +kernel
theorem c_195_14 : pg_cd 195 14 = (9, 3, 0, 2, 1) := by decide +kernel
theorem c_195_17 : pg_cd 195 17 = (38, 3, 0, 0, (-15)) := by decide +kernel
theorem c_195_20 : pg_cd 195 20 = (94, 0, 0, 0, 0) := by decide +kernel
theorem mx_195 : pg_mx 195 = 3 := by decide +kernel
theorem m_195 {d : Nat} {h : ab_H} {Q : Option Value → ab_H → Prop} {x0 : Nat} {x1 : Nat} (t : wq d 195 0 [.ref x0, .ref x1, .retAddr 0] [] h Q) : wm d 195 [.ref x0, .ref x1] h Q := by
  unfold wm
  rw [mx_195]
  exact t
set_option maxRecDepth 20000 in
theorem t_195_0 {d : Nat} {h : ab_H} {Q : Option Value → ab_H → Prop} {x0 : Nat} {x1 : Nat} (t : wq d 195 2 [.ref x0, .ref x1, .int 0] [] h Q) : wq d 195 0 [.ref x0, .ref x1, .retAddr 0] [] h Q := by
  refine g1 c_195_0 k_0 ?_
  refine g6 (L' := [.ref x0, .ref x1, .int 0]) c_195_1 rfl ?_
  exact t
set_option maxRecDepth 20000 in
theorem t_195_2 {d : Nat} {h : ab_H} {Q : Option Value → ab_H → Prop} {x0 : Nat} {x1 : Nat} {x2 : Int32} (t : if 112300 ≤ x2 then (Q none h) else (((x0 = 0 ∨ ab_ok h x0 0 = true) ∧ ab_in x2 (ab_s h x0).2 = true) ∧ (ab_ok h x1 0 = true ∧ ab_in x2 (ab_s h x1).2 = true) ∧ ∀ h1 : ab_H, h1 = ab_pi h x1 (Int32.toNatClampNeg x2) (ab_i h x0 (Int32.toNatClampNeg x2)) → wq d 195 2 [.ref x0, .ref x1, .int (x2 + 1)] [] h1 Q)) : wq d 195 2 [.ref x0, .ref x1, .int x2] [] h Q := by
  refine g3 c_195_2 rfl ?_
  refine g1 c_195_3 k_112300 ?_
  refine gcm c_195_5 (gbr t rfl rfl (fun hc t => ?_) (fun hc t => ?_))
  · exact g94 c_195_20 t
  · refine g5 c_195_8 rfl ?_
    refine g3 c_195_9 rfl ?_
    refine g5 c_195_10 rfl ?_
    refine g3 c_195_11 rfl ?_
    obtain ⟨ho, t⟩ := t
    refine g50 c_195_12 ho ?_
    obtain ⟨ho, t⟩ := t
    refine g54 c_195_13 ho (fun h1 eh1 => ?_)
    have t := t h1 eh1
    refine g9 (L' := [.ref x0, .ref x1, .int (x2 + 1)]) c_195_14 rfl k_1 rfl ?_
    refine g38 c_195_17 rfl ?_
    exact t
-- method 196: MillTownModel.isIn(III)Z
theorem c_196_0 : pg_cd 196 0 = (3, 1, 0, 0, 0) := by decide +kernel
theorem c_196_1 : pg_cd 196 1 = (3, 1, 0, 1, 0) := by decide +kernel
theorem c_196_2 : pg_cd 196 2 = (37, 3, 0, 2, 12) := by decide +kernel
theorem c_196_5 : pg_cd 196 5 = (3, 1, 0, 0, 0) := by decide +kernel
theorem c_196_6 : pg_cd 196 6 = (3, 1, 0, 2, 0) := by decide +kernel
theorem c_196_7 : pg_cd 196 7 = (37, 3, 0, 4, 7) := by decide +kernel
theorem c_196_10 : pg_cd 196 10 = (1, 1, 0, 0, 1) := by decide +kernel
theorem c_196_11 : pg_cd 196 11 = (38, 3, 0, 0, 4) := by decide +kernel
theorem c_196_14 : pg_cd 196 14 = (1, 1, 0, 0, 0) := by decide +kernel
theorem c_196_15 : pg_cd 196 15 = (91, 0, 0, 0, 0) := by decide +kernel
theorem mx_196 : pg_mx 196 = 3 := by decide +kernel
theorem m_196 {d : Nat} {h : ab_H} {Q : Option Value → ab_H → Prop} {x0 : Int32} {x1 : Int32} {x2 : Int32} (t : wq d 196 0 [.int x0, .int x1, .int x2] [] h Q) : wm d 196 [.int x0, .int x1, .int x2] h Q := by
  unfold wm
  rw [mx_196]
  exact t
set_option maxRecDepth 20000 in
theorem t_196_0 {d : Nat} {h : ab_H} {Q : Option Value → ab_H → Prop} {x0 : Int32} {x1 : Int32} {x2 : Int32} (t : if x0 < x1 then (Q (some (.int 0)) h) else (if x2 < x0 then (Q (some (.int 0)) h) else (Q (some (.int 1)) h))) : wq d 196 0 [.int x0, .int x1, .int x2] [] h Q := by
  refine g3 c_196_0 rfl ?_
  refine g3 c_196_1 rfl ?_
  refine gcm c_196_2 (gbr t rfl rfl (fun hc t => ?_) (fun hc t => ?_))
  · refine g1 c_196_14 k_0 ?_
    exact g91 c_196_15 ⟨by decide, t⟩
  · refine g3 c_196_5 rfl ?_
    refine g3 c_196_6 rfl ?_
    refine gcm c_196_7 (gbr t rfl rfl (fun hc t => ?_) (fun hc t => ?_))
    · refine g1 c_196_14 k_0 ?_
      exact g91 c_196_15 ⟨by decide, t⟩
    · refine g1 c_196_10 k_1 ?_
      refine g38 c_196_11 rfl ?_
      exact g91 c_196_15 ⟨by decide, t⟩
-- method 197: MillTownModel.kindAt(II)I
theorem c_197_0 : pg_cd 197 0 = (5, 1, 0, 0, 0) := by decide +kernel
theorem c_197_1 : pg_cd 197 1 = (45, 12, 8, 0, 0) := by decide +kernel
theorem c_197_4 : pg_cd 197 4 = (1, 2, 0, 0, 20) := by decide +kernel
theorem c_197_6 : pg_cd 197 6 = (1, 2, 0, 0, 8) := by decide +kernel
theorem c_197_8 : pg_cd 197 8 = (3, 1, 0, 1, 0) := by decide +kernel
theorem c_197_9 : pg_cd 197 9 = (12, 1, 0, 0, 0) := by decide +kernel
theorem c_197_10 : pg_cd 197 10 = (10, 1, 0, 0, 0) := by decide +kernel
theorem c_197_11 : pg_cd 197 11 = (3, 1, 0, 2, 0) := by decide +kernel
theorem c_197_12 : pg_cd 197 12 = (10, 1, 0, 0, 0) := by decide +kernel
theorem c_197_13 : pg_cd 197 13 = (50, 1, 0, 0, 0) := by decide +kernel
theorem c_197_14 : pg_cd 197 14 = (90, 0, 0, 0, 0) := by decide +kernel
theorem mx_197 : pg_mx 197 = 3 := by decide +kernel
theorem m_197 {d : Nat} {h : ab_H} {Q : Option Value → ab_H → Prop} {x0 : Nat} {x1 : Int32} {x2 : Int32} (t : wq d 197 0 [.ref x0, .int x1, .int x2] [] h Q) : wm d 197 [.ref x0, .int x1, .int x2] h Q := by
  unfold wm
  rw [mx_197]
  exact t
set_option maxRecDepth 20000 in
theorem t_197_0 {d : Nat} {h : ab_H} {Q : Option Value → ab_H → Prop} {x0 : Nat} {x1 : Int32} {x2 : Int32} (t : ab_ok h x0 112 = true ∧ ∃ j1 : Nat, ab_r h x0 0 = some j1 ∧ ((j1 = 0 ∨ ab_ok h j1 0 = true) ∧ ab_in ((20 + (8 * x1)) + x2) (ab_s h j1).2 = true) ∧ Q (some (.int (ab_i h j1 (Int32.toNatClampNeg ((20 + (8 * x1)) + x2))))) h) : wq d 197 0 [.ref x0, .int x1, .int x2] [] h Q := by
  refine g5 c_197_0 rfl ?_
  obtain ⟨ho, j1, hr, t⟩ := t
  refine g45 c_197_1 ho hr ?_
  refine g1 c_197_4 k_20 ?_
  refine g1 c_197_6 k_8 ?_
  refine g3 c_197_8 rfl ?_
  refine g12 c_197_9 ?_
  refine g10 c_197_10 ?_
  refine g3 c_197_11 rfl ?_
  refine g10 c_197_12 ?_
  obtain ⟨ho, t⟩ := t
  refine g50 c_197_13 ho ?_
  exact g90 c_197_14 t
-- method 198: MillTownModel.millAt(II)I
theorem c_198_0 : pg_cd 198 0 = (5, 1, 0, 0, 0) := by decide +kernel
theorem c_198_1 : pg_cd 198 1 = (45, 12, 8, 0, 0) := by decide +kernel
theorem c_198_4 : pg_cd 198 4 = (1, 3, 0, 0, 3300) := by decide +kernel
theorem c_198_7 : pg_cd 198 7 = (1, 2, 0, 0, 16) := by decide +kernel
theorem c_198_9 : pg_cd 198 9 = (3, 1, 0, 1, 0) := by decide +kernel
theorem c_198_10 : pg_cd 198 10 = (12, 1, 0, 0, 0) := by decide +kernel
theorem c_198_11 : pg_cd 198 11 = (10, 1, 0, 0, 0) := by decide +kernel
theorem c_198_12 : pg_cd 198 12 = (3, 1, 0, 2, 0) := by decide +kernel
theorem c_198_13 : pg_cd 198 13 = (10, 1, 0, 0, 0) := by decide +kernel
theorem c_198_14 : pg_cd 198 14 = (50, 1, 0, 0, 0) := by decide +kernel
theorem c_198_15 : pg_cd 198 15 = (90, 0, 0, 0, 0) := by decide +kernel
theorem mx_198 : pg_mx 198 = 3 := by decide +kernel
theorem m_198 {d : Nat} {h : ab_H} {Q : Option Value → ab_H → Prop} {x0 : Nat} {x1 : Int32} {x2 : Int32} (t : wq d 198 0 [.ref x0, .int x1, .int x2] [] h Q) : wm d 198 [.ref x0, .int x1, .int x2] h Q := by
  unfold wm
  rw [mx_198]
  exact t
set_option maxRecDepth 20000 in
theorem t_198_0 {d : Nat} {h : ab_H} {Q : Option Value → ab_H → Prop} {x0 : Nat} {x1 : Int32} {x2 : Int32} (t : ab_ok h x0 112 = true ∧ ∃ j1 : Nat, ab_r h x0 0 = some j1 ∧ ((j1 = 0 ∨ ab_ok h j1 0 = true) ∧ ab_in ((3300 + (16 * x1)) + x2) (ab_s h j1).2 = true) ∧ Q (some (.int (ab_i h j1 (Int32.toNatClampNeg ((3300 + (16 * x1)) + x2))))) h) : wq d 198 0 [.ref x0, .int x1, .int x2] [] h Q := by
  refine g5 c_198_0 rfl ?_
  obtain ⟨ho, j1, hr, t⟩ := t
  refine g45 c_198_1 ho hr ?_
  refine g1 c_198_4 k_3300 ?_
  refine g1 c_198_7 k_16 ?_
  refine g3 c_198_9 rfl ?_
  refine g12 c_198_10 ?_
  refine g10 c_198_11 ?_
  refine g3 c_198_12 rfl ?_
  refine g10 c_198_13 ?_
  obtain ⟨ho, t⟩ := t
  refine g50 c_198_14 ho ?_
  exact g90 c_198_15 t
-- method 199: MillTownModel.personAt(II)I
theorem c_199_0 : pg_cd 199 0 = (5, 1, 0, 0, 0) := by decide +kernel
theorem c_199_1 : pg_cd 199 1 = (45, 12, 8, 0, 0) := by decide +kernel
theorem c_199_4 : pg_cd 199 4 = (1, 3, 0, 0, 3652) := by decide +kernel
theorem c_199_7 : pg_cd 199 7 = (1, 2, 0, 0, 12) := by decide +kernel
theorem c_199_9 : pg_cd 199 9 = (3, 1, 0, 1, 0) := by decide +kernel
theorem c_199_10 : pg_cd 199 10 = (12, 1, 0, 0, 0) := by decide +kernel
theorem c_199_11 : pg_cd 199 11 = (10, 1, 0, 0, 0) := by decide +kernel
theorem c_199_12 : pg_cd 199 12 = (3, 1, 0, 2, 0) := by decide +kernel
theorem c_199_13 : pg_cd 199 13 = (10, 1, 0, 0, 0) := by decide +kernel
theorem c_199_14 : pg_cd 199 14 = (50, 1, 0, 0, 0) := by decide +kernel
theorem c_199_15 : pg_cd 199 15 = (90, 0, 0, 0, 0) := by decide +kernel
theorem mx_199 : pg_mx 199 = 3 := by decide +kernel
theorem m_199 {d : Nat} {h : ab_H} {Q : Option Value → ab_H → Prop} {x0 : Nat} {x1 : Int32} {x2 : Int32} (t : wq d 199 0 [.ref x0, .int x1, .int x2] [] h Q) : wm d 199 [.ref x0, .int x1, .int x2] h Q := by
  unfold wm
  rw [mx_199]
  exact t
set_option maxRecDepth 20000 in
theorem t_199_0 {d : Nat} {h : ab_H} {Q : Option Value → ab_H → Prop} {x0 : Nat} {x1 : Int32} {x2 : Int32} (t : ab_ok h x0 112 = true ∧ ∃ j1 : Nat, ab_r h x0 0 = some j1 ∧ ((j1 = 0 ∨ ab_ok h j1 0 = true) ∧ ab_in ((3652 + (12 * x1)) + x2) (ab_s h j1).2 = true) ∧ Q (some (.int (ab_i h j1 (Int32.toNatClampNeg ((3652 + (12 * x1)) + x2))))) h) : wq d 199 0 [.ref x0, .int x1, .int x2] [] h Q := by
  refine g5 c_199_0 rfl ?_
  obtain ⟨ho, j1, hr, t⟩ := t
  refine g45 c_199_1 ho hr ?_
  refine g1 c_199_4 k_3652 ?_
  refine g1 c_199_7 k_12 ?_
  refine g3 c_199_9 rfl ?_
  refine g12 c_199_10 ?_
  refine g10 c_199_11 ?_
  refine g3 c_199_12 rfl ?_
  refine g10 c_199_13 ?_
  obtain ⟨ho, t⟩ := t
  refine g50 c_199_14 ho ?_
  exact g90 c_199_15 t
-- method 200: MillTownModel.homeAt(II)I
theorem c_200_0 : pg_cd 200 0 = (5, 1, 0, 0, 0) := by decide +kernel
theorem c_200_1 : pg_cd 200 1 = (45, 12, 8, 0, 0) := by decide +kernel
theorem c_200_4 : pg_cd 200 4 = (1, 3, 0, 0, 3460) := by decide +kernel
theorem c_200_7 : pg_cd 200 7 = (1, 2, 0, 0, 8) := by decide +kernel
theorem c_200_9 : pg_cd 200 9 = (3, 1, 0, 1, 0) := by decide +kernel
theorem c_200_10 : pg_cd 200 10 = (12, 1, 0, 0, 0) := by decide +kernel
theorem c_200_11 : pg_cd 200 11 = (10, 1, 0, 0, 0) := by decide +kernel
theorem c_200_12 : pg_cd 200 12 = (3, 1, 0, 2, 0) := by decide +kernel
theorem c_200_13 : pg_cd 200 13 = (10, 1, 0, 0, 0) := by decide +kernel
theorem c_200_14 : pg_cd 200 14 = (50, 1, 0, 0, 0) := by decide +kernel
theorem c_200_15 : pg_cd 200 15 = (90, 0, 0, 0, 0) := by decide +kernel
theorem mx_200 : pg_mx 200 = 3 := by decide +kernel
theorem m_200 {d : Nat} {h : ab_H} {Q : Option Value → ab_H → Prop} {x0 : Nat} {x1 : Int32} {x2 : Int32} (t : wq d 200 0 [.ref x0, .int x1, .int x2] [] h Q) : wm d 200 [.ref x0, .int x1, .int x2] h Q := by
  unfold wm
  rw [mx_200]
  exact t
set_option maxRecDepth 20000 in
theorem t_200_0 {d : Nat} {h : ab_H} {Q : Option Value → ab_H → Prop} {x0 : Nat} {x1 : Int32} {x2 : Int32} (t : ab_ok h x0 112 = true ∧ ∃ j1 : Nat, ab_r h x0 0 = some j1 ∧ ((j1 = 0 ∨ ab_ok h j1 0 = true) ∧ ab_in ((3460 + (8 * x1)) + x2) (ab_s h j1).2 = true) ∧ Q (some (.int (ab_i h j1 (Int32.toNatClampNeg ((3460 + (8 * x1)) + x2))))) h) : wq d 200 0 [.ref x0, .int x1, .int x2] [] h Q := by
  refine g5 c_200_0 rfl ?_
  obtain ⟨ho, j1, hr, t⟩ := t
  refine g45 c_200_1 ho hr ?_
  refine g1 c_200_4 k_3460 ?_
  refine g1 c_200_7 k_8 ?_
  refine g3 c_200_9 rfl ?_
  refine g12 c_200_10 ?_
  refine g10 c_200_11 ?_
  refine g3 c_200_12 rfl ?_
  refine g10 c_200_13 ?_
  obtain ⟨ho, t⟩ := t
  refine g50 c_200_14 ho ?_
  exact g90 c_200_15 t
-- method 201: MillTownModel.isMill(I)Z
theorem c_201_0 : pg_cd 201 0 = (3, 1, 0, 1, 0) := by decide +kernel
theorem c_201_1 : pg_cd 201 1 = (1, 1, 0, 0, 0) := by decide +kernel
theorem c_201_2 : pg_cd 201 2 = (5, 1, 0, 0, 0) := by decide +kernel
theorem c_201_3 : pg_cd 201 3 = (45, 12, 8, 0, 0) := by decide +kernel
theorem c_201_6 : pg_cd 201 6 = (1, 1, 0, 0, 1) := by decide +kernel
theorem c_201_7 : pg_cd 201 7 = (50, 1, 0, 0, 0) := by decide +kernel
theorem c_201_8 : pg_cd 201 8 = (1, 1, 0, 0, 1) := by decide +kernel
theorem c_201_9 : pg_cd 201 9 = (11, 1, 0, 0, 0) := by decide +kernel
theorem c_201_10 : pg_cd 201 10 = (81, 196, 76, 0, 0) := by decide +kernel
theorem c_201_13 : pg_cd 201 13 = (91, 0, 0, 0, 0) := by decide +kernel
theorem mx_201 : pg_mx 201 = 2 := by decide +kernel
theorem m_201 {d : Nat} {h : ab_H} {Q : Option Value → ab_H → Prop} {x0 : Nat} {x1 : Int32} (t : wq d 201 0 [.ref x0, .int x1] [] h Q) : wm d 201 [.ref x0, .int x1] h Q := by
  unfold wm
  rw [mx_201]
  exact t
set_option maxRecDepth 20000 in
theorem t_201_0 {d : Nat} {h : ab_H} {Q : Option Value → ab_H → Prop} {x0 : Nat} {x1 : Int32} (t : ab_ok h x0 112 = true ∧ ∃ j1 : Nat, ab_r h x0 0 = some j1 ∧ ((j1 = 0 ∨ ab_ok h j1 0 = true) ∧ ab_in (1 : Int32) (ab_s h j1).2 = true) ∧ wm d 196 [.int x1, .int 0, .int ((ab_i h j1 (Int32.toNatClampNeg (1 : Int32))) - 1)] h (fun r9 h9 => wq (d + 1) 201 13 [.ref x0, .int x1] (r9.toList ++ []) h9 Q)) : wq (d + 1) 201 0 [.ref x0, .int x1] [] h Q := by
  refine g3 c_201_0 rfl ?_
  refine g1 c_201_1 k_0 ?_
  refine g5 c_201_2 rfl ?_
  obtain ⟨ho, j1, hr, t⟩ := t
  refine g45 c_201_3 ho hr ?_
  refine g1 c_201_6 k_1 ?_
  obtain ⟨ho, t⟩ := t
  refine g50 c_201_7 ho ?_
  refine g1 c_201_8 k_1 ?_
  refine g11 c_201_9 ?_
  exact g81 (As := [.int x1, .int 0, .int ((ab_i h j1 (Int32.toNatClampNeg (1 : Int32))) - 1)]) (rest := []) c_201_10 rfl rfl (Nat.le_of_ble_eq_true rfl) (Nat.le_of_ble_eq_true rfl) t
set_option maxRecDepth 20000 in
theorem t_201_13 {d : Nat} {h : ab_H} {Q : Option Value → ab_H → Prop} {x0 : Nat} {x1 : Int32} {s0 : Int32} (t : (s0 = 0 ∨ s0 = 1) ∧ Q (some (.int s0)) h) : wq d 201 13 [.ref x0, .int x1] [.int s0] h Q := by
  exact g91 c_201_13 t
-- method 202: MillTownModel.isHome(I)Z
theorem c_202_0 : pg_cd 202 0 = (3, 1, 0, 1, 0) := by decide +kernel
theorem c_202_1 : pg_cd 202 1 = (1, 1, 0, 0, 0) := by decide +kernel
theorem c_202_2 : pg_cd 202 2 = (5, 1, 0, 0, 0) := by decide +kernel
theorem c_202_3 : pg_cd 202 3 = (45, 12, 8, 0, 0) := by decide +kernel
theorem c_202_6 : pg_cd 202 6 = (1, 1, 0, 0, 3) := by decide +kernel
theorem c_202_7 : pg_cd 202 7 = (50, 1, 0, 0, 0) := by decide +kernel
theorem c_202_8 : pg_cd 202 8 = (1, 1, 0, 0, 1) := by decide +kernel
theorem c_202_9 : pg_cd 202 9 = (11, 1, 0, 0, 0) := by decide +kernel
theorem c_202_10 : pg_cd 202 10 = (81, 196, 76, 0, 0) := by decide +kernel
theorem c_202_13 : pg_cd 202 13 = (91, 0, 0, 0, 0) := by decide +kernel
theorem mx_202 : pg_mx 202 = 2 := by decide +kernel
theorem m_202 {d : Nat} {h : ab_H} {Q : Option Value → ab_H → Prop} {x0 : Nat} {x1 : Int32} (t : wq d 202 0 [.ref x0, .int x1] [] h Q) : wm d 202 [.ref x0, .int x1] h Q := by
  unfold wm
  rw [mx_202]
  exact t
set_option maxRecDepth 20000 in
theorem t_202_0 {d : Nat} {h : ab_H} {Q : Option Value → ab_H → Prop} {x0 : Nat} {x1 : Int32} (t : ab_ok h x0 112 = true ∧ ∃ j1 : Nat, ab_r h x0 0 = some j1 ∧ ((j1 = 0 ∨ ab_ok h j1 0 = true) ∧ ab_in (3 : Int32) (ab_s h j1).2 = true) ∧ wm d 196 [.int x1, .int 0, .int ((ab_i h j1 (Int32.toNatClampNeg (3 : Int32))) - 1)] h (fun r9 h9 => wq (d + 1) 202 13 [.ref x0, .int x1] (r9.toList ++ []) h9 Q)) : wq (d + 1) 202 0 [.ref x0, .int x1] [] h Q := by
  refine g3 c_202_0 rfl ?_
  refine g1 c_202_1 k_0 ?_
  refine g5 c_202_2 rfl ?_
  obtain ⟨ho, j1, hr, t⟩ := t
  refine g45 c_202_3 ho hr ?_
  refine g1 c_202_6 k_3 ?_
  obtain ⟨ho, t⟩ := t
  refine g50 c_202_7 ho ?_
  refine g1 c_202_8 k_1 ?_
  refine g11 c_202_9 ?_
  exact g81 (As := [.int x1, .int 0, .int ((ab_i h j1 (Int32.toNatClampNeg (3 : Int32))) - 1)]) (rest := []) c_202_10 rfl rfl (Nat.le_of_ble_eq_true rfl) (Nat.le_of_ble_eq_true rfl) t
set_option maxRecDepth 20000 in
theorem t_202_13 {d : Nat} {h : ab_H} {Q : Option Value → ab_H → Prop} {x0 : Nat} {x1 : Int32} {s0 : Int32} (t : (s0 = 0 ∨ s0 = 1) ∧ Q (some (.int s0)) h) : wq d 202 13 [.ref x0, .int x1] [.int s0] h Q := by
  exact g91 c_202_13 t
-- method 203: MillTownModel.isPerson(I)Z
theorem c_203_0 : pg_cd 203 0 = (3, 1, 0, 1, 0) := by decide +kernel
theorem c_203_1 : pg_cd 203 1 = (1, 1, 0, 0, 0) := by decide +kernel
theorem c_203_2 : pg_cd 203 2 = (5, 1, 0, 0, 0) := by decide +kernel
theorem c_203_3 : pg_cd 203 3 = (45, 12, 8, 0, 0) := by decide +kernel
theorem c_203_6 : pg_cd 203 6 = (1, 1, 0, 0, 4) := by decide +kernel
theorem c_203_7 : pg_cd 203 7 = (50, 1, 0, 0, 0) := by decide +kernel
theorem c_203_8 : pg_cd 203 8 = (1, 1, 0, 0, 1) := by decide +kernel
theorem c_203_9 : pg_cd 203 9 = (11, 1, 0, 0, 0) := by decide +kernel
theorem c_203_10 : pg_cd 203 10 = (81, 196, 76, 0, 0) := by decide +kernel
theorem c_203_13 : pg_cd 203 13 = (91, 0, 0, 0, 0) := by decide +kernel
theorem mx_203 : pg_mx 203 = 2 := by decide +kernel
theorem m_203 {d : Nat} {h : ab_H} {Q : Option Value → ab_H → Prop} {x0 : Nat} {x1 : Int32} (t : wq d 203 0 [.ref x0, .int x1] [] h Q) : wm d 203 [.ref x0, .int x1] h Q := by
  unfold wm
  rw [mx_203]
  exact t
set_option maxRecDepth 20000 in
theorem t_203_0 {d : Nat} {h : ab_H} {Q : Option Value → ab_H → Prop} {x0 : Nat} {x1 : Int32} (t : ab_ok h x0 112 = true ∧ ∃ j1 : Nat, ab_r h x0 0 = some j1 ∧ ((j1 = 0 ∨ ab_ok h j1 0 = true) ∧ ab_in (4 : Int32) (ab_s h j1).2 = true) ∧ wm d 196 [.int x1, .int 0, .int ((ab_i h j1 (Int32.toNatClampNeg (4 : Int32))) - 1)] h (fun r9 h9 => wq (d + 1) 203 13 [.ref x0, .int x1] (r9.toList ++ []) h9 Q)) : wq (d + 1) 203 0 [.ref x0, .int x1] [] h Q := by
  refine g3 c_203_0 rfl ?_
  refine g1 c_203_1 k_0 ?_
  refine g5 c_203_2 rfl ?_
  obtain ⟨ho, j1, hr, t⟩ := t
  refine g45 c_203_3 ho hr ?_
  refine g1 c_203_6 k_4 ?_
  obtain ⟨ho, t⟩ := t
  refine g50 c_203_7 ho ?_
  refine g1 c_203_8 k_1 ?_
  refine g11 c_203_9 ?_
  exact g81 (As := [.int x1, .int 0, .int ((ab_i h j1 (Int32.toNatClampNeg (4 : Int32))) - 1)]) (rest := []) c_203_10 rfl rfl (Nat.le_of_ble_eq_true rfl) (Nat.le_of_ble_eq_true rfl) t
set_option maxRecDepth 20000 in
theorem t_203_13 {d : Nat} {h : ab_H} {Q : Option Value → ab_H → Prop} {x0 : Nat} {x1 : Int32} {s0 : Int32} (t : (s0 = 0 ∨ s0 = 1) ∧ Q (some (.int s0)) h) : wq d 203 13 [.ref x0, .int x1] [.int s0] h Q := by
  exact g91 c_203_13 t
-- method 204: MillTownModel.isKind(I)Z
theorem c_204_0 : pg_cd 204 0 = (3, 1, 0, 0, 0) := by decide +kernel
theorem c_204_1 : pg_cd 204 1 = (1, 1, 0, 0, 0) := by decide +kernel
theorem c_204_2 : pg_cd 204 2 = (1, 1, 0, 0, 5) := by decide +kernel
theorem c_204_3 : pg_cd 204 3 = (81, 196, 76, 0, 0) := by decide +kernel
theorem c_204_6 : pg_cd 204 6 = (91, 0, 0, 0, 0) := by decide +kernel
theorem mx_204 : pg_mx 204 = 1 := by decide +kernel
theorem m_204 {d : Nat} {h : ab_H} {Q : Option Value → ab_H → Prop} {x0 : Int32} (t : wq d 204 0 [.int x0] [] h Q) : wm d 204 [.int x0] h Q := by
  unfold wm
  rw [mx_204]
  exact t
set_option maxRecDepth 20000 in
theorem t_204_0 {d : Nat} {h : ab_H} {Q : Option Value → ab_H → Prop} {x0 : Int32} (t : wm d 196 [.int x0, .int 0, .int 5] h (fun r9 h9 => wq (d + 1) 204 6 [.int x0] (r9.toList ++ []) h9 Q)) : wq (d + 1) 204 0 [.int x0] [] h Q := by
  refine g3 c_204_0 rfl ?_
  refine g1 c_204_1 k_0 ?_
  refine g1 c_204_2 k_5 ?_
  exact g81 (As := [.int x0, .int 0, .int 5]) (rest := []) c_204_3 rfl rfl (Nat.le_of_ble_eq_true rfl) (Nat.le_of_ble_eq_true rfl) t
set_option maxRecDepth 20000 in
theorem t_204_6 {d : Nat} {h : ab_H} {Q : Option Value → ab_H → Prop} {x0 : Int32} {s0 : Int32} (t : (s0 = 0 ∨ s0 = 1) ∧ Q (some (.int s0)) h) : wq d 204 6 [.int x0] [.int s0] h Q := by
  exact g91 c_204_6 t
-- method 205: MillTownModel.isWeek(I)Z
theorem c_205_0 : pg_cd 205 0 = (3, 1, 0, 0, 0) := by decide +kernel
theorem c_205_1 : pg_cd 205 1 = (1, 1, 0, 0, 0) := by decide +kernel
theorem c_205_2 : pg_cd 205 2 = (1, 3, 0, 0, 399) := by decide +kernel
theorem c_205_5 : pg_cd 205 5 = (81, 196, 76, 0, 0) := by decide +kernel
theorem c_205_8 : pg_cd 205 8 = (91, 0, 0, 0, 0) := by decide +kernel
theorem mx_205 : pg_mx 205 = 1 := by decide +kernel
theorem m_205 {d : Nat} {h : ab_H} {Q : Option Value → ab_H → Prop} {x0 : Int32} (t : wq d 205 0 [.int x0] [] h Q) : wm d 205 [.int x0] h Q := by
  unfold wm
  rw [mx_205]
  exact t
set_option maxRecDepth 20000 in
theorem t_205_0 {d : Nat} {h : ab_H} {Q : Option Value → ab_H → Prop} {x0 : Int32} (t : wm d 196 [.int x0, .int 0, .int 399] h (fun r9 h9 => wq (d + 1) 205 8 [.int x0] (r9.toList ++ []) h9 Q)) : wq (d + 1) 205 0 [.int x0] [] h Q := by
  refine g3 c_205_0 rfl ?_
  refine g1 c_205_1 k_0 ?_
  refine g1 c_205_2 k_399 ?_
  exact g81 (As := [.int x0, .int 0, .int 399]) (rest := []) c_205_5 rfl rfl (Nat.le_of_ble_eq_true rfl) (Nat.le_of_ble_eq_true rfl) t
set_option maxRecDepth 20000 in
theorem t_205_8 {d : Nat} {h : ab_H} {Q : Option Value → ab_H → Prop} {x0 : Int32} {s0 : Int32} (t : (s0 = 0 ∨ s0 = 1) ∧ Q (some (.int s0)) h) : wq d 205 8 [.int x0] [.int s0] h Q := by
  exact g91 c_205_8 t
-- method 206: MillTownModel.kind(IIIIII)Z
theorem c_206_0 : pg_cd 206 0 = (3, 1, 0, 1, 0) := by decide +kernel
theorem c_206_1 : pg_cd 206 1 = (81, 204, 80, 0, 0) := by decide +kernel
theorem c_206_4 : pg_cd 206 4 = (36, 3, 0, 0, 70) := by decide +kernel
theorem c_206_7 : pg_cd 206 7 = (3, 1, 0, 2, 0) := by decide +kernel
theorem c_206_8 : pg_cd 206 8 = (1, 2, 0, 0, 10) := by decide +kernel
theorem c_206_10 : pg_cd 206 10 = (1, 3, 0, 0, 200) := by decide +kernel
theorem c_206_13 : pg_cd 206 13 = (81, 196, 76, 0, 0) := by decide +kernel
theorem c_206_16 : pg_cd 206 16 = (36, 3, 0, 0, 58) := by decide +kernel
theorem c_206_19 : pg_cd 206 19 = (3, 1, 0, 3, 0) := by decide +kernel
theorem c_206_20 : pg_cd 206 20 = (1, 2, 0, 0, 20) := by decide +kernel
theorem c_206_22 : pg_cd 206 22 = (1, 2, 0, 0, 60) := by decide +kernel
theorem c_206_24 : pg_cd 206 24 = (81, 196, 76, 0, 0) := by decide +kernel
theorem c_206_27 : pg_cd 206 27 = (36, 3, 0, 0, 47) := by decide +kernel
theorem c_206_30 : pg_cd 206 30 = (3, 2, 0, 4, 0) := by decide +kernel
theorem c_206_32 : pg_cd 206 32 = (1, 1, 0, 0, 1) := by decide +kernel
theorem c_206_33 : pg_cd 206 33 = (1, 2, 0, 0, 50) := by decide +kernel
theorem c_206_35 : pg_cd 206 35 = (81, 196, 76, 0, 0) := by decide +kernel
theorem c_206_38 : pg_cd 206 38 = (36, 3, 0, 0, 36) := by decide +kernel
theorem c_206_41 : pg_cd 206 41 = (3, 2, 0, 5, 0) := by decide +kernel
theorem c_206_43 : pg_cd 206 43 = (1, 1, 0, 0, 0) := by decide +kernel
theorem c_206_44 : pg_cd 206 44 = (1, 2, 0, 0, 9) := by decide +kernel
theorem c_206_46 : pg_cd 206 46 = (81, 196, 76, 0, 0) := by decide +kernel
theorem c_206_49 : pg_cd 206 49 = (36, 3, 0, 0, 25) := by decide +kernel
theorem c_206_52 : pg_cd 206 52 = (3, 2, 0, 6, 0) := by decide +kernel
theorem c_206_54 : pg_cd 206 54 = (1, 1, 0, 0, 0) := by decide +kernel
theorem c_206_55 : pg_cd 206 55 = (1, 2, 84, 0, 1073741823) := by decide +kernel
theorem c_206_57 : pg_cd 206 57 = (81, 196, 76, 0, 0) := by decide +kernel
theorem c_206_60 : pg_cd 206 60 = (36, 3, 0, 0, 14) := by decide +kernel
theorem c_206_63 : pg_cd 206 63 = (5, 1, 0, 0, 0) := by decide +kernel
theorem c_206_64 : pg_cd 206 64 = (3, 1, 0, 1, 0) := by decide +kernel
theorem c_206_65 : pg_cd 206 65 = (1, 2, 0, 0, 7) := by decide +kernel
theorem c_206_67 : pg_cd 206 67 = (80, 197, 85, 0, 0) := by decide +kernel
theorem c_206_70 : pg_cd 206 70 = (1, 1, 0, 0, 1) := by decide +kernel
theorem c_206_71 : pg_cd 206 71 = (37, 3, 0, 1, 5) := by decide +kernel
theorem c_206_74 : pg_cd 206 74 = (1, 1, 0, 0, 0) := by decide +kernel
theorem c_206_75 : pg_cd 206 75 = (91, 0, 0, 0, 0) := by decide +kernel
theorem c_206_76 : pg_cd 206 76 = (1, 2, 0, 0, 20) := by decide +kernel
theorem c_206_78 : pg_cd 206 78 = (1, 2, 0, 0, 8) := by decide +kernel
theorem c_206_80 : pg_cd 206 80 = (3, 1, 0, 1, 0) := by decide +kernel
theorem c_206_81 : pg_cd 206 81 = (12, 1, 0, 0, 0) := by decide +kernel
theorem c_206_82 : pg_cd 206 82 = (10, 1, 0, 0, 0) := by decide +kernel
theorem c_206_83 : pg_cd 206 83 = (6, 2, 0, 7, 0) := by decide +kernel
theorem c_206_85 : pg_cd 206 85 = (5, 1, 0, 0, 0) := by decide +kernel
theorem c_206_86 : pg_cd 206 86 = (45, 12, 8, 0, 0) := by decide +kernel
theorem c_206_89 : pg_cd 206 89 = (3, 2, 0, 7, 0) := by decide +kernel
theorem c_206_91 : pg_cd 206 91 = (1, 1, 0, 0, 1) := by decide +kernel
theorem c_206_92 : pg_cd 206 92 = (10, 1, 0, 0, 0) := by decide +kernel
theorem c_206_93 : pg_cd 206 93 = (3, 1, 0, 2, 0) := by decide +kernel
theorem c_206_94 : pg_cd 206 94 = (54, 1, 0, 0, 0) := by decide +kernel
theorem c_206_95 : pg_cd 206 95 = (5, 1, 0, 0, 0) := by decide +kernel
theorem c_206_96 : pg_cd 206 96 = (45, 12, 8, 0, 0) := by decide +kernel
theorem c_206_99 : pg_cd 206 99 = (3, 2, 0, 7, 0) := by decide +kernel
theorem c_206_101 : pg_cd 206 101 = (1, 1, 0, 0, 2) := by decide +kernel
theorem c_206_102 : pg_cd 206 102 = (10, 1, 0, 0, 0) := by decide +kernel
theorem c_206_103 : pg_cd 206 103 = (3, 1, 0, 3, 0) := by decide +kernel
theorem c_206_104 : pg_cd 206 104 = (54, 1, 0, 0, 0) := by decide +kernel
theorem c_206_105 : pg_cd 206 105 = (5, 1, 0, 0, 0) := by decide +kernel
theorem c_206_106 : pg_cd 206 106 = (45, 12, 8, 0, 0) := by decide +kernel
theorem c_206_109 : pg_cd 206 109 = (3, 2, 0, 7, 0) := by decide +kernel
theorem c_206_111 : pg_cd 206 111 = (1, 1, 0, 0, 3) := by decide +kernel
theorem c_206_112 : pg_cd 206 112 = (10, 1, 0, 0, 0) := by decide +kernel
theorem c_206_113 : pg_cd 206 113 = (3, 2, 0, 4, 0) := by decide +kernel
theorem c_206_115 : pg_cd 206 115 = (54, 1, 0, 0, 0) := by decide +kernel
theorem c_206_116 : pg_cd 206 116 = (5, 1, 0, 0, 0) := by decide +kernel
theorem c_206_117 : pg_cd 206 117 = (45, 12, 8, 0, 0) := by decide +kernel
theorem c_206_120 : pg_cd 206 120 = (3, 2, 0, 7, 0) := by decide +kernel
theorem c_206_122 : pg_cd 206 122 = (1, 1, 0, 0, 4) := by decide +kernel
theorem c_206_123 : pg_cd 206 123 = (10, 1, 0, 0, 0) := by decide +kernel
theorem c_206_124 : pg_cd 206 124 = (3, 2, 0, 5, 0) := by decide +kernel
theorem c_206_126 : pg_cd 206 126 = (54, 1, 0, 0, 0) := by decide +kernel
theorem c_206_127 : pg_cd 206 127 = (5, 1, 0, 0, 0) := by decide +kernel
theorem c_206_128 : pg_cd 206 128 = (45, 12, 8, 0, 0) := by decide +kernel
theorem c_206_131 : pg_cd 206 131 = (3, 2, 0, 7, 0) := by decide +kernel
theorem c_206_133 : pg_cd 206 133 = (1, 1, 0, 0, 5) := by decide +kernel
theorem c_206_134 : pg_cd 206 134 = (10, 1, 0, 0, 0) := by decide +kernel
theorem c_206_135 : pg_cd 206 135 = (3, 2, 0, 6, 0) := by decide +kernel
theorem c_206_137 : pg_cd 206 137 = (54, 1, 0, 0, 0) := by decide +kernel
theorem c_206_138 : pg_cd 206 138 = (1, 1, 0, 0, 1) := by decide +kernel
theorem c_206_139 : pg_cd 206 139 = (91, 0, 0, 0, 0) := by decide +kernel
theorem mx_206 : pg_mx 206 = 8 := by decide +kernel
theorem m_206 {d : Nat} {h : ab_H} {Q : Option Value → ab_H → Prop} {x0 : Nat} {x1 : Int32} {x2 : Int32} {x3 : Int32} {x4 : Int32} {x5 : Int32} {x6 : Int32} (t : wq d 206 0 [.ref x0, .int x1, .int x2, .int x3, .int x4, .int x5, .int x6, .retAddr 0] [] h Q) : wm d 206 [.ref x0, .int x1, .int x2, .int x3, .int x4, .int x5, .int x6] h Q := by
  unfold wm
  rw [mx_206]
  exact t
set_option maxRecDepth 20000 in
theorem t_206_0 {d : Nat} {h : ab_H} {Q : Option Value → ab_H → Prop} {x0 : Nat} {x1 : Int32} {x2 : Int32} {x3 : Int32} {x4 : Int32} {x5 : Int32} {x6 : Int32} (t : wm d 204 [.int x1] h (fun r9 h9 => wq (d + 1) 206 4 [.ref x0, .int x1, .int x2, .int x3, .int x4, .int x5, .int x6, .retAddr 0] (r9.toList ++ []) h9 Q)) : wq (d + 1) 206 0 [.ref x0, .int x1, .int x2, .int x3, .int x4, .int x5, .int x6, .retAddr 0] [] h Q := by
  refine g3 c_206_0 rfl ?_
  exact g81 (As := [.int x1]) (rest := []) c_206_1 rfl rfl (Nat.le_of_ble_eq_true rfl) (Nat.le_of_ble_eq_true rfl) t
set_option maxRecDepth 20000 in
theorem t_206_4 {d : Nat} {h : ab_H} {Q : Option Value → ab_H → Prop} {x0 : Nat} {x1 : Int32} {x2 : Int32} {x3 : Int32} {x4 : Int32} {x5 : Int32} {x6 : Int32} {s0 : Int32} (t : if s0 = 0 then (Q (some (.int 0)) h) else (wm d 196 [.int x2, .int 10, .int 200] h (fun r9 h9 => wq (d + 1) 206 16 [.ref x0, .int x1, .int x2, .int x3, .int x4, .int x5, .int x6, .retAddr 0] (r9.toList ++ []) h9 Q))) : wq (d + 1) 206 4 [.ref x0, .int x1, .int x2, .int x3, .int x4, .int x5, .int x6, .retAddr 0] [.int s0] h Q := by
  refine gif c_206_4 (gbr t rfl rfl (fun hc t => ?_) (fun hc t => ?_))
  · refine g1 c_206_74 k_0 ?_
    exact g91 c_206_75 ⟨by decide, t⟩
  · refine g3 c_206_7 rfl ?_
    refine g1 c_206_8 k_10 ?_
    refine g1 c_206_10 k_200 ?_
    exact g81 (As := [.int x2, .int 10, .int 200]) (rest := []) c_206_13 rfl rfl (Nat.le_of_ble_eq_true rfl) (Nat.le_of_ble_eq_true rfl) t
set_option maxRecDepth 20000 in
theorem t_206_16 {d : Nat} {h : ab_H} {Q : Option Value → ab_H → Prop} {x0 : Nat} {x1 : Int32} {x2 : Int32} {x3 : Int32} {x4 : Int32} {x5 : Int32} {x6 : Int32} {s0 : Int32} (t : if s0 = 0 then (Q (some (.int 0)) h) else (wm d 196 [.int x3, .int 20, .int 60] h (fun r9 h9 => wq (d + 1) 206 27 [.ref x0, .int x1, .int x2, .int x3, .int x4, .int x5, .int x6, .retAddr 0] (r9.toList ++ []) h9 Q))) : wq (d + 1) 206 16 [.ref x0, .int x1, .int x2, .int x3, .int x4, .int x5, .int x6, .retAddr 0] [.int s0] h Q := by
  refine gif c_206_16 (gbr t rfl rfl (fun hc t => ?_) (fun hc t => ?_))
  · refine g1 c_206_74 k_0 ?_
    exact g91 c_206_75 ⟨by decide, t⟩
  · refine g3 c_206_19 rfl ?_
    refine g1 c_206_20 k_20 ?_
    refine g1 c_206_22 k_60 ?_
    exact g81 (As := [.int x3, .int 20, .int 60]) (rest := []) c_206_24 rfl rfl (Nat.le_of_ble_eq_true rfl) (Nat.le_of_ble_eq_true rfl) t
set_option maxRecDepth 20000 in
theorem t_206_27 {d : Nat} {h : ab_H} {Q : Option Value → ab_H → Prop} {x0 : Nat} {x1 : Int32} {x2 : Int32} {x3 : Int32} {x4 : Int32} {x5 : Int32} {x6 : Int32} {s0 : Int32} (t : if s0 = 0 then (Q (some (.int 0)) h) else (wm d 196 [.int x4, .int 1, .int 50] h (fun r9 h9 => wq (d + 1) 206 38 [.ref x0, .int x1, .int x2, .int x3, .int x4, .int x5, .int x6, .retAddr 0] (r9.toList ++ []) h9 Q))) : wq (d + 1) 206 27 [.ref x0, .int x1, .int x2, .int x3, .int x4, .int x5, .int x6, .retAddr 0] [.int s0] h Q := by
  refine gif c_206_27 (gbr t rfl rfl (fun hc t => ?_) (fun hc t => ?_))
  · refine g1 c_206_74 k_0 ?_
    exact g91 c_206_75 ⟨by decide, t⟩
  · refine g3 c_206_30 rfl ?_
    refine g1 c_206_32 k_1 ?_
    refine g1 c_206_33 k_50 ?_
    exact g81 (As := [.int x4, .int 1, .int 50]) (rest := []) c_206_35 rfl rfl (Nat.le_of_ble_eq_true rfl) (Nat.le_of_ble_eq_true rfl) t
set_option maxRecDepth 20000 in
theorem t_206_38 {d : Nat} {h : ab_H} {Q : Option Value → ab_H → Prop} {x0 : Nat} {x1 : Int32} {x2 : Int32} {x3 : Int32} {x4 : Int32} {x5 : Int32} {x6 : Int32} {s0 : Int32} (t : if s0 = 0 then (Q (some (.int 0)) h) else (wm d 196 [.int x5, .int 0, .int 9] h (fun r9 h9 => wq (d + 1) 206 49 [.ref x0, .int x1, .int x2, .int x3, .int x4, .int x5, .int x6, .retAddr 0] (r9.toList ++ []) h9 Q))) : wq (d + 1) 206 38 [.ref x0, .int x1, .int x2, .int x3, .int x4, .int x5, .int x6, .retAddr 0] [.int s0] h Q := by
  refine gif c_206_38 (gbr t rfl rfl (fun hc t => ?_) (fun hc t => ?_))
  · refine g1 c_206_74 k_0 ?_
    exact g91 c_206_75 ⟨by decide, t⟩
  · refine g3 c_206_41 rfl ?_
    refine g1 c_206_43 k_0 ?_
    refine g1 c_206_44 k_9 ?_
    exact g81 (As := [.int x5, .int 0, .int 9]) (rest := []) c_206_46 rfl rfl (Nat.le_of_ble_eq_true rfl) (Nat.le_of_ble_eq_true rfl) t
set_option maxRecDepth 20000 in
theorem t_206_49 {d : Nat} {h : ab_H} {Q : Option Value → ab_H → Prop} {x0 : Nat} {x1 : Int32} {x2 : Int32} {x3 : Int32} {x4 : Int32} {x5 : Int32} {x6 : Int32} {s0 : Int32} (t : if s0 = 0 then (Q (some (.int 0)) h) else (wm d 196 [.int x6, .int 0, .int 1073741823] h (fun r9 h9 => wq (d + 1) 206 60 [.ref x0, .int x1, .int x2, .int x3, .int x4, .int x5, .int x6, .retAddr 0] (r9.toList ++ []) h9 Q))) : wq (d + 1) 206 49 [.ref x0, .int x1, .int x2, .int x3, .int x4, .int x5, .int x6, .retAddr 0] [.int s0] h Q := by
  refine gif c_206_49 (gbr t rfl rfl (fun hc t => ?_) (fun hc t => ?_))
  · refine g1 c_206_74 k_0 ?_
    exact g91 c_206_75 ⟨by decide, t⟩
  · refine g3 c_206_52 rfl ?_
    refine g1 c_206_54 k_0 ?_
    refine g1 c_206_55 k_1073741823 ?_
    exact g81 (As := [.int x6, .int 0, .int 1073741823]) (rest := []) c_206_57 rfl rfl (Nat.le_of_ble_eq_true rfl) (Nat.le_of_ble_eq_true rfl) t
set_option maxRecDepth 20000 in
theorem t_206_60 {d : Nat} {h : ab_H} {Q : Option Value → ab_H → Prop} {x0 : Nat} {x1 : Int32} {x2 : Int32} {x3 : Int32} {x4 : Int32} {x5 : Int32} {x6 : Int32} {s0 : Int32} (t : if s0 = 0 then (Q (some (.int 0)) h) else (ab_ok h x0 112 = true ∧ wm d 197 [.ref x0, .int x1, .int 7] h (fun r9 h9 => wq (d + 1) 206 70 [.ref x0, .int x1, .int x2, .int x3, .int x4, .int x5, .int x6, .retAddr 0] (r9.toList ++ []) h9 Q))) : wq (d + 1) 206 60 [.ref x0, .int x1, .int x2, .int x3, .int x4, .int x5, .int x6, .retAddr 0] [.int s0] h Q := by
  refine gif c_206_60 (gbr t rfl rfl (fun hc t => ?_) (fun hc t => ?_))
  · refine g1 c_206_74 k_0 ?_
    exact g91 c_206_75 ⟨by decide, t⟩
  · refine g5 c_206_63 rfl ?_
    refine g3 c_206_64 rfl ?_
    refine g1 c_206_65 k_7 ?_
    exact g80 (As := [.int x1, .int 7]) (rest := []) c_206_67 rfl rfl (Nat.le_of_ble_eq_true rfl) (Nat.le_of_ble_eq_true rfl) t.1 t.2
set_option maxRecDepth 20000 in
theorem t_206_70 {d : Nat} {h : ab_H} {Q : Option Value → ab_H → Prop} {x0 : Nat} {x1 : Int32} {x2 : Int32} {x3 : Int32} {x4 : Int32} {x5 : Int32} {x6 : Int32} {s0 : Int32} (t : if s0 = 1 then (Q (some (.int 0)) h) else (ab_ok h x0 112 = true ∧ ∃ j1 : Nat, ab_r h x0 0 = some j1 ∧ (ab_ok h j1 0 = true ∧ ab_in ((20 + (8 * x1)) + 1) (ab_s h j1).2 = true) ∧ ∀ h2 : ab_H, h2 = ab_pi h j1 (Int32.toNatClampNeg ((20 + (8 * x1)) + 1)) x2 → ab_ok h2 x0 112 = true ∧ ∃ j3 : Nat, ab_r h2 x0 0 = some j3 ∧ (ab_ok h2 j3 0 = true ∧ ab_in ((20 + (8 * x1)) + 2) (ab_s h2 j3).2 = true) ∧ ∀ h4 : ab_H, h4 = ab_pi h2 j3 (Int32.toNatClampNeg ((20 + (8 * x1)) + 2)) x3 → ab_ok h4 x0 112 = true ∧ ∃ j5 : Nat, ab_r h4 x0 0 = some j5 ∧ (ab_ok h4 j5 0 = true ∧ ab_in ((20 + (8 * x1)) + 3) (ab_s h4 j5).2 = true) ∧ ∀ h6 : ab_H, h6 = ab_pi h4 j5 (Int32.toNatClampNeg ((20 + (8 * x1)) + 3)) x4 → ab_ok h6 x0 112 = true ∧ ∃ j7 : Nat, ab_r h6 x0 0 = some j7 ∧ (ab_ok h6 j7 0 = true ∧ ab_in ((20 + (8 * x1)) + 4) (ab_s h6 j7).2 = true) ∧ ∀ h8 : ab_H, h8 = ab_pi h6 j7 (Int32.toNatClampNeg ((20 + (8 * x1)) + 4)) x5 → ab_ok h8 x0 112 = true ∧ ∃ j9 : Nat, ab_r h8 x0 0 = some j9 ∧ (ab_ok h8 j9 0 = true ∧ ab_in ((20 + (8 * x1)) + 5) (ab_s h8 j9).2 = true) ∧ ∀ h10 : ab_H, h10 = ab_pi h8 j9 (Int32.toNatClampNeg ((20 + (8 * x1)) + 5)) x6 → Q (some (.int 1)) h10)) : wq d 206 70 [.ref x0, .int x1, .int x2, .int x3, .int x4, .int x5, .int x6, .retAddr 0] [.int s0] h Q := by
  refine g1 c_206_70 k_1 ?_
  refine gcm c_206_71 (gbn t (ab_c1 _ _) rfl (fun hc t => ?_) (fun hc t => ?_))
  · refine g1 c_206_74 k_0 ?_
    exact g91 c_206_75 ⟨by decide, t⟩
  · refine g1 c_206_76 k_20 ?_
    refine g1 c_206_78 k_8 ?_
    refine g3 c_206_80 rfl ?_
    refine g12 c_206_81 ?_
    refine g10 c_206_82 ?_
    refine g6 (L' := [.ref x0, .int x1, .int x2, .int x3, .int x4, .int x5, .int x6, .int (20 + (8 * x1))]) c_206_83 rfl ?_
    refine g5 c_206_85 rfl ?_
    obtain ⟨ho, j1, hr, t⟩ := t
    refine g45 c_206_86 ho hr ?_
    refine g3 c_206_89 rfl ?_
    refine g1 c_206_91 k_1 ?_
    refine g10 c_206_92 ?_
    refine g3 c_206_93 rfl ?_
    obtain ⟨ho, t⟩ := t
    refine g54 c_206_94 ho (fun h2 eh2 => ?_)
    have t := t h2 eh2
    refine g5 c_206_95 rfl ?_
    obtain ⟨ho, j3, hr, t⟩ := t
    refine g45 c_206_96 ho hr ?_
    refine g3 c_206_99 rfl ?_
    refine g1 c_206_101 k_2 ?_
    refine g10 c_206_102 ?_
    refine g3 c_206_103 rfl ?_
    obtain ⟨ho, t⟩ := t
    refine g54 c_206_104 ho (fun h4 eh4 => ?_)
    have t := t h4 eh4
    refine g5 c_206_105 rfl ?_
    obtain ⟨ho, j5, hr, t⟩ := t
    refine g45 c_206_106 ho hr ?_
    refine g3 c_206_109 rfl ?_
    refine g1 c_206_111 k_3 ?_
    refine g10 c_206_112 ?_
    refine g3 c_206_113 rfl ?_
    obtain ⟨ho, t⟩ := t
    refine g54 c_206_115 ho (fun h6 eh6 => ?_)
    have t := t h6 eh6
    refine g5 c_206_116 rfl ?_
    obtain ⟨ho, j7, hr, t⟩ := t
    refine g45 c_206_117 ho hr ?_
    refine g3 c_206_120 rfl ?_
    refine g1 c_206_122 k_4 ?_
    refine g10 c_206_123 ?_
    refine g3 c_206_124 rfl ?_
    obtain ⟨ho, t⟩ := t
    refine g54 c_206_126 ho (fun h8 eh8 => ?_)
    have t := t h8 eh8
    refine g5 c_206_127 rfl ?_
    obtain ⟨ho, j9, hr, t⟩ := t
    refine g45 c_206_128 ho hr ?_
    refine g3 c_206_131 rfl ?_
    refine g1 c_206_133 k_5 ?_
    refine g10 c_206_134 ?_
    refine g3 c_206_135 rfl ?_
    obtain ⟨ho, t⟩ := t
    refine g54 c_206_137 ho (fun h10 eh10 => ?_)
    have t := t h10 eh10
    refine g1 c_206_138 k_1 ?_
    exact g91 c_206_139 ⟨by decide, t⟩
-- method 207: MillTownModel.price(III)Z
theorem c_207_0 : pg_cd 207 0 = (3, 1, 0, 1, 0) := by decide +kernel
theorem c_207_1 : pg_cd 207 1 = (1, 1, 0, 0, 0) := by decide +kernel
theorem c_207_2 : pg_cd 207 2 = (1, 2, 0, 0, 7) := by decide +kernel
theorem c_207_4 : pg_cd 207 4 = (81, 196, 76, 0, 0) := by decide +kernel
theorem c_207_7 : pg_cd 207 7 = (36, 3, 0, 0, 25) := by decide +kernel
theorem c_207_10 : pg_cd 207 10 = (3, 1, 0, 2, 0) := by decide +kernel
theorem c_207_11 : pg_cd 207 11 = (81, 205, 89, 0, 0) := by decide +kernel
theorem c_207_14 : pg_cd 207 14 = (36, 3, 0, 0, 18) := by decide +kernel
theorem c_207_17 : pg_cd 207 17 = (3, 1, 0, 3, 0) := by decide +kernel
theorem c_207_18 : pg_cd 207 18 = (1, 1, 0, 0, (-1)) := by decide +kernel
theorem c_207_19 : pg_cd 207 19 = (37, 3, 0, 0, 15) := by decide +kernel
theorem c_207_22 : pg_cd 207 22 = (3, 1, 0, 3, 0) := by decide +kernel
theorem c_207_23 : pg_cd 207 23 = (1, 1, 0, 0, 1) := by decide +kernel
theorem c_207_24 : pg_cd 207 24 = (1, 2, 71, 0, 100000) := by decide +kernel
theorem c_207_26 : pg_cd 207 26 = (81, 196, 76, 0, 0) := by decide +kernel
theorem c_207_29 : pg_cd 207 29 = (36, 3, 0, 1, 5) := by decide +kernel
theorem c_207_32 : pg_cd 207 32 = (1, 1, 0, 0, 0) := by decide +kernel
theorem c_207_33 : pg_cd 207 33 = (91, 0, 0, 0, 0) := by decide +kernel
theorem c_207_34 : pg_cd 207 34 = (5, 1, 0, 0, 0) := by decide +kernel
theorem c_207_35 : pg_cd 207 35 = (45, 12, 8, 0, 0) := by decide +kernel
theorem c_207_38 : pg_cd 207 38 = (1, 2, 0, 0, 100) := by decide +kernel
theorem c_207_40 : pg_cd 207 40 = (1, 3, 0, 0, 400) := by decide +kernel
theorem c_207_43 : pg_cd 207 43 = (3, 1, 0, 1, 0) := by decide +kernel
theorem c_207_44 : pg_cd 207 44 = (12, 1, 0, 0, 0) := by decide +kernel
theorem c_207_45 : pg_cd 207 45 = (10, 1, 0, 0, 0) := by decide +kernel
theorem c_207_46 : pg_cd 207 46 = (3, 1, 0, 2, 0) := by decide +kernel
theorem c_207_47 : pg_cd 207 47 = (10, 1, 0, 0, 0) := by decide +kernel
theorem c_207_48 : pg_cd 207 48 = (3, 1, 0, 3, 0) := by decide +kernel
theorem c_207_49 : pg_cd 207 49 = (54, 1, 0, 0, 0) := by decide +kernel
theorem c_207_50 : pg_cd 207 50 = (1, 1, 0, 0, 1) := by decide +kernel
theorem c_207_51 : pg_cd 207 51 = (91, 0, 0, 0, 0) := by decide +kernel
theorem mx_207 : pg_mx 207 = 4 := by decide +kernel
theorem m_207 {d : Nat} {h : ab_H} {Q : Option Value → ab_H → Prop} {x0 : Nat} {x1 : Int32} {x2 : Int32} {x3 : Int32} (t : wq d 207 0 [.ref x0, .int x1, .int x2, .int x3] [] h Q) : wm d 207 [.ref x0, .int x1, .int x2, .int x3] h Q := by
  unfold wm
  rw [mx_207]
  exact t
set_option maxRecDepth 20000 in
theorem t_207_0 {d : Nat} {h : ab_H} {Q : Option Value → ab_H → Prop} {x0 : Nat} {x1 : Int32} {x2 : Int32} {x3 : Int32} (t : wm d 196 [.int x1, .int 0, .int 7] h (fun r9 h9 => wq (d + 1) 207 7 [.ref x0, .int x1, .int x2, .int x3] (r9.toList ++ []) h9 Q)) : wq (d + 1) 207 0 [.ref x0, .int x1, .int x2, .int x3] [] h Q := by
  refine g3 c_207_0 rfl ?_
  refine g1 c_207_1 k_0 ?_
  refine g1 c_207_2 k_7 ?_
  exact g81 (As := [.int x1, .int 0, .int 7]) (rest := []) c_207_4 rfl rfl (Nat.le_of_ble_eq_true rfl) (Nat.le_of_ble_eq_true rfl) t
set_option maxRecDepth 20000 in
theorem t_207_7 {d : Nat} {h : ab_H} {Q : Option Value → ab_H → Prop} {x0 : Nat} {x1 : Int32} {x2 : Int32} {x3 : Int32} {s0 : Int32} (t : if s0 = 0 then (Q (some (.int 0)) h) else (wm d 205 [.int x2] h (fun r9 h9 => wq (d + 1) 207 14 [.ref x0, .int x1, .int x2, .int x3] (r9.toList ++ []) h9 Q))) : wq (d + 1) 207 7 [.ref x0, .int x1, .int x2, .int x3] [.int s0] h Q := by
  refine gif c_207_7 (gbr t rfl rfl (fun hc t => ?_) (fun hc t => ?_))
  · refine g1 c_207_32 k_0 ?_
    exact g91 c_207_33 ⟨by decide, t⟩
  · refine g3 c_207_10 rfl ?_
    exact g81 (As := [.int x2]) (rest := []) c_207_11 rfl rfl (Nat.le_of_ble_eq_true rfl) (Nat.le_of_ble_eq_true rfl) t
set_option maxRecDepth 20000 in
theorem t_207_14 {d : Nat} {h : ab_H} {Q : Option Value → ab_H → Prop} {x0 : Nat} {x1 : Int32} {x2 : Int32} {x3 : Int32} {s0 : Int32} (t : if s0 = 0 then (Q (some (.int 0)) h) else (if x3 = (-1) then (ab_ok h x0 112 = true ∧ ∃ j1 : Nat, ab_r h x0 0 = some j1 ∧ (ab_ok h j1 0 = true ∧ ab_in ((100 + (400 * x1)) + x2) (ab_s h j1).2 = true) ∧ ∀ h2 : ab_H, h2 = ab_pi h j1 (Int32.toNatClampNeg ((100 + (400 * x1)) + x2)) x3 → Q (some (.int 1)) h2) else (wm d 196 [.int x3, .int 1, .int 100000] h (fun r9 h9 => wq (d + 1) 207 29 [.ref x0, .int x1, .int x2, .int x3] (r9.toList ++ []) h9 Q)))) : wq (d + 1) 207 14 [.ref x0, .int x1, .int x2, .int x3] [.int s0] h Q := by
  refine gif c_207_14 (gbr t rfl rfl (fun hc t => ?_) (fun hc t => ?_))
  · refine g1 c_207_32 k_0 ?_
    exact g91 c_207_33 ⟨by decide, t⟩
  · refine g3 c_207_17 rfl ?_
    refine g1 c_207_18 k_m1 ?_
    refine gcm c_207_19 (gbr t rfl rfl (fun hc t => ?_) (fun hc t => ?_))
    · refine g5 c_207_34 rfl ?_
      obtain ⟨ho, j1, hr, t⟩ := t
      refine g45 c_207_35 ho hr ?_
      refine g1 c_207_38 k_100 ?_
      refine g1 c_207_40 k_400 ?_
      refine g3 c_207_43 rfl ?_
      refine g12 c_207_44 ?_
      refine g10 c_207_45 ?_
      refine g3 c_207_46 rfl ?_
      refine g10 c_207_47 ?_
      refine g3 c_207_48 rfl ?_
      obtain ⟨ho, t⟩ := t
      refine g54 c_207_49 ho (fun h2 eh2 => ?_)
      have t := t h2 eh2
      refine g1 c_207_50 k_1 ?_
      exact g91 c_207_51 ⟨by decide, t⟩
    · refine g3 c_207_22 rfl ?_
      refine g1 c_207_23 k_1 ?_
      refine g1 c_207_24 k_100000 ?_
      exact g81 (As := [.int x3, .int 1, .int 100000]) (rest := []) c_207_26 rfl rfl (Nat.le_of_ble_eq_true rfl) (Nat.le_of_ble_eq_true rfl) t
set_option maxRecDepth 20000 in
theorem t_207_29 {d : Nat} {h : ab_H} {Q : Option Value → ab_H → Prop} {x0 : Nat} {x1 : Int32} {x2 : Int32} {x3 : Int32} {s0 : Int32} (t : if s0 = 0 then (Q (some (.int 0)) h) else (ab_ok h x0 112 = true ∧ ∃ j1 : Nat, ab_r h x0 0 = some j1 ∧ (ab_ok h j1 0 = true ∧ ab_in ((100 + (400 * x1)) + x2) (ab_s h j1).2 = true) ∧ ∀ h2 : ab_H, h2 = ab_pi h j1 (Int32.toNatClampNeg ((100 + (400 * x1)) + x2)) x3 → Q (some (.int 1)) h2)) : wq d 207 29 [.ref x0, .int x1, .int x2, .int x3] [.int s0] h Q := by
  refine gif c_207_29 (gbn t (ab_c1 _ _) rfl (fun hc t => ?_) (fun hc t => ?_))
  · refine g1 c_207_32 k_0 ?_
    exact g91 c_207_33 ⟨by decide, t⟩
  · refine g5 c_207_34 rfl ?_
    obtain ⟨ho, j1, hr, t⟩ := t
    refine g45 c_207_35 ho hr ?_
    refine g1 c_207_38 k_100 ?_
    refine g1 c_207_40 k_400 ?_
    refine g3 c_207_43 rfl ?_
    refine g12 c_207_44 ?_
    refine g10 c_207_45 ?_
    refine g3 c_207_46 rfl ?_
    refine g10 c_207_47 ?_
    refine g3 c_207_48 rfl ?_
    obtain ⟨ho, t⟩ := t
    refine g54 c_207_49 ho (fun h2 eh2 => ?_)
    have t := t h2 eh2
    refine g1 c_207_50 k_1 ?_
    exact g91 c_207_51 ⟨by decide, t⟩
-- method 208: MillTownModel.mean(II)Z
theorem c_208_0 : pg_cd 208 0 = (3, 1, 0, 1, 0) := by decide +kernel
theorem c_208_1 : pg_cd 208 1 = (1, 1, 0, 0, 0) := by decide +kernel
theorem c_208_2 : pg_cd 208 2 = (1, 2, 0, 0, 7) := by decide +kernel
theorem c_208_4 : pg_cd 208 4 = (81, 196, 76, 0, 0) := by decide +kernel
theorem c_208_7 : pg_cd 208 7 = (36, 3, 0, 0, 13) := by decide +kernel
theorem c_208_10 : pg_cd 208 10 = (3, 1, 0, 2, 0) := by decide +kernel
theorem c_208_11 : pg_cd 208 11 = (1, 1, 0, 0, 1) := by decide +kernel
theorem c_208_12 : pg_cd 208 12 = (1, 2, 71, 0, 100000) := by decide +kernel
theorem c_208_14 : pg_cd 208 14 = (81, 196, 76, 0, 0) := by decide +kernel
theorem c_208_17 : pg_cd 208 17 = (36, 3, 0, 1, 5) := by decide +kernel
theorem c_208_20 : pg_cd 208 20 = (1, 1, 0, 0, 0) := by decide +kernel
theorem c_208_21 : pg_cd 208 21 = (91, 0, 0, 0, 0) := by decide +kernel
theorem c_208_22 : pg_cd 208 22 = (5, 1, 0, 0, 0) := by decide +kernel
theorem c_208_23 : pg_cd 208 23 = (45, 12, 8, 0, 0) := by decide +kernel
theorem c_208_26 : pg_cd 208 26 = (1, 2, 0, 0, 70) := by decide +kernel
theorem c_208_28 : pg_cd 208 28 = (3, 1, 0, 1, 0) := by decide +kernel
theorem c_208_29 : pg_cd 208 29 = (10, 1, 0, 0, 0) := by decide +kernel
theorem c_208_30 : pg_cd 208 30 = (3, 1, 0, 2, 0) := by decide +kernel
theorem c_208_31 : pg_cd 208 31 = (54, 1, 0, 0, 0) := by decide +kernel
theorem c_208_32 : pg_cd 208 32 = (1, 1, 0, 0, 1) := by decide +kernel
theorem c_208_33 : pg_cd 208 33 = (91, 0, 0, 0, 0) := by decide +kernel
theorem mx_208 : pg_mx 208 = 3 := by decide +kernel
theorem m_208 {d : Nat} {h : ab_H} {Q : Option Value → ab_H → Prop} {x0 : Nat} {x1 : Int32} {x2 : Int32} (t : wq d 208 0 [.ref x0, .int x1, .int x2] [] h Q) : wm d 208 [.ref x0, .int x1, .int x2] h Q := by
  unfold wm
  rw [mx_208]
  exact t
set_option maxRecDepth 20000 in
theorem t_208_0 {d : Nat} {h : ab_H} {Q : Option Value → ab_H → Prop} {x0 : Nat} {x1 : Int32} {x2 : Int32} (t : wm d 196 [.int x1, .int 0, .int 7] h (fun r9 h9 => wq (d + 1) 208 7 [.ref x0, .int x1, .int x2] (r9.toList ++ []) h9 Q)) : wq (d + 1) 208 0 [.ref x0, .int x1, .int x2] [] h Q := by
  refine g3 c_208_0 rfl ?_
  refine g1 c_208_1 k_0 ?_
  refine g1 c_208_2 k_7 ?_
  exact g81 (As := [.int x1, .int 0, .int 7]) (rest := []) c_208_4 rfl rfl (Nat.le_of_ble_eq_true rfl) (Nat.le_of_ble_eq_true rfl) t
set_option maxRecDepth 20000 in
theorem t_208_7 {d : Nat} {h : ab_H} {Q : Option Value → ab_H → Prop} {x0 : Nat} {x1 : Int32} {x2 : Int32} {s0 : Int32} (t : if s0 = 0 then (Q (some (.int 0)) h) else (wm d 196 [.int x2, .int 1, .int 100000] h (fun r9 h9 => wq (d + 1) 208 17 [.ref x0, .int x1, .int x2] (r9.toList ++ []) h9 Q))) : wq (d + 1) 208 7 [.ref x0, .int x1, .int x2] [.int s0] h Q := by
  refine gif c_208_7 (gbr t rfl rfl (fun hc t => ?_) (fun hc t => ?_))
  · refine g1 c_208_20 k_0 ?_
    exact g91 c_208_21 ⟨by decide, t⟩
  · refine g3 c_208_10 rfl ?_
    refine g1 c_208_11 k_1 ?_
    refine g1 c_208_12 k_100000 ?_
    exact g81 (As := [.int x2, .int 1, .int 100000]) (rest := []) c_208_14 rfl rfl (Nat.le_of_ble_eq_true rfl) (Nat.le_of_ble_eq_true rfl) t
set_option maxRecDepth 20000 in
theorem t_208_17 {d : Nat} {h : ab_H} {Q : Option Value → ab_H → Prop} {x0 : Nat} {x1 : Int32} {x2 : Int32} {s0 : Int32} (t : if s0 = 0 then (Q (some (.int 0)) h) else (ab_ok h x0 112 = true ∧ ∃ j1 : Nat, ab_r h x0 0 = some j1 ∧ (ab_ok h j1 0 = true ∧ ab_in (70 + x1) (ab_s h j1).2 = true) ∧ ∀ h2 : ab_H, h2 = ab_pi h j1 (Int32.toNatClampNeg (70 + x1)) x2 → Q (some (.int 1)) h2)) : wq d 208 17 [.ref x0, .int x1, .int x2] [.int s0] h Q := by
  refine gif c_208_17 (gbn t (ab_c1 _ _) rfl (fun hc t => ?_) (fun hc t => ?_))
  · refine g1 c_208_20 k_0 ?_
    exact g91 c_208_21 ⟨by decide, t⟩
  · refine g5 c_208_22 rfl ?_
    obtain ⟨ho, j1, hr, t⟩ := t
    refine g45 c_208_23 ho hr ?_
    refine g1 c_208_26 k_70 ?_
    refine g3 c_208_28 rfl ?_
    refine g10 c_208_29 ?_
    refine g3 c_208_30 rfl ?_
    obtain ⟨ho, t⟩ := t
    refine g54 c_208_31 ho (fun h2 eh2 => ?_)
    have t := t h2 eh2
    refine g1 c_208_32 k_1 ?_
    exact g91 c_208_33 ⟨by decide, t⟩
-- method 209: MillTownModel.priceAt(II)I
theorem c_209_0 : pg_cd 209 0 = (3, 1, 0, 2, 0) := by decide +kernel
theorem c_209_1 : pg_cd 209 1 = (6, 1, 0, 3, 0) := by decide +kernel
theorem c_209_2 : pg_cd 209 2 = (3, 1, 0, 3, 0) := by decide +kernel
theorem c_209_3 : pg_cd 209 3 = (36, 3, 0, 2, 35) := by decide +kernel
theorem c_209_6 : pg_cd 209 6 = (3, 1, 0, 3, 0) := by decide +kernel
theorem c_209_7 : pg_cd 209 7 = (1, 3, 0, 0, 400) := by decide +kernel
theorem c_209_10 : pg_cd 209 10 = (37, 3, 0, 3, 28) := by decide +kernel
theorem c_209_13 : pg_cd 209 13 = (5, 1, 0, 0, 0) := by decide +kernel
theorem c_209_14 : pg_cd 209 14 = (45, 12, 8, 0, 0) := by decide +kernel
theorem c_209_17 : pg_cd 209 17 = (1, 2, 0, 0, 100) := by decide +kernel
theorem c_209_19 : pg_cd 209 19 = (1, 3, 0, 0, 400) := by decide +kernel
theorem c_209_22 : pg_cd 209 22 = (3, 1, 0, 1, 0) := by decide +kernel
theorem c_209_23 : pg_cd 209 23 = (12, 1, 0, 0, 0) := by decide +kernel
theorem c_209_24 : pg_cd 209 24 = (10, 1, 0, 0, 0) := by decide +kernel
theorem c_209_25 : pg_cd 209 25 = (3, 1, 0, 3, 0) := by decide +kernel
theorem c_209_26 : pg_cd 209 26 = (10, 1, 0, 0, 0) := by decide +kernel
theorem c_209_27 : pg_cd 209 27 = (50, 1, 0, 0, 0) := by decide +kernel
theorem c_209_28 : pg_cd 209 28 = (1, 1, 0, 0, (-1)) := by decide +kernel
theorem c_209_29 : pg_cd 209 29 = (37, 3, 0, 1, 9) := by decide +kernel
theorem c_209_32 : pg_cd 209 32 = (9, 3, 0, 3, (-1)) := by decide +kernel
theorem c_209_35 : pg_cd 209 35 = (38, 3, 0, 0, (-33)) := by decide +kernel
theorem c_209_38 : pg_cd 209 38 = (3, 1, 0, 3, 0) := by decide +kernel
theorem c_209_39 : pg_cd 209 39 = (36, 3, 0, 2, 28) := by decide +kernel
theorem c_209_42 : pg_cd 209 42 = (3, 1, 0, 3, 0) := by decide +kernel
theorem c_209_43 : pg_cd 209 43 = (1, 3, 0, 0, 400) := by decide +kernel
theorem c_209_46 : pg_cd 209 46 = (37, 3, 0, 3, 21) := by decide +kernel
theorem c_209_49 : pg_cd 209 49 = (5, 1, 0, 0, 0) := by decide +kernel
theorem c_209_50 : pg_cd 209 50 = (45, 12, 8, 0, 0) := by decide +kernel
theorem c_209_53 : pg_cd 209 53 = (1, 2, 0, 0, 100) := by decide +kernel
theorem c_209_55 : pg_cd 209 55 = (1, 3, 0, 0, 400) := by decide +kernel
theorem c_209_58 : pg_cd 209 58 = (3, 1, 0, 1, 0) := by decide +kernel
theorem c_209_59 : pg_cd 209 59 = (12, 1, 0, 0, 0) := by decide +kernel
theorem c_209_60 : pg_cd 209 60 = (10, 1, 0, 0, 0) := by decide +kernel
theorem c_209_61 : pg_cd 209 61 = (3, 1, 0, 3, 0) := by decide +kernel
theorem c_209_62 : pg_cd 209 62 = (10, 1, 0, 0, 0) := by decide +kernel
theorem c_209_63 : pg_cd 209 63 = (50, 1, 0, 0, 0) := by decide +kernel
theorem c_209_64 : pg_cd 209 64 = (36, 3, 0, 1, 15) := by decide +kernel
theorem c_209_67 : pg_cd 209 67 = (5, 1, 0, 0, 0) := by decide +kernel
theorem c_209_68 : pg_cd 209 68 = (45, 12, 8, 0, 0) := by decide +kernel
theorem c_209_71 : pg_cd 209 71 = (1, 2, 0, 0, 70) := by decide +kernel
theorem c_209_73 : pg_cd 209 73 = (3, 1, 0, 1, 0) := by decide +kernel
theorem c_209_74 : pg_cd 209 74 = (10, 1, 0, 0, 0) := by decide +kernel
theorem c_209_75 : pg_cd 209 75 = (50, 1, 0, 0, 0) := by decide +kernel
theorem c_209_76 : pg_cd 209 76 = (38, 3, 0, 0, 18) := by decide +kernel
theorem c_209_79 : pg_cd 209 79 = (5, 1, 0, 0, 0) := by decide +kernel
theorem c_209_80 : pg_cd 209 80 = (45, 12, 8, 0, 0) := by decide +kernel
theorem c_209_83 : pg_cd 209 83 = (1, 2, 0, 0, 100) := by decide +kernel
theorem c_209_85 : pg_cd 209 85 = (1, 3, 0, 0, 400) := by decide +kernel
theorem c_209_88 : pg_cd 209 88 = (3, 1, 0, 1, 0) := by decide +kernel
theorem c_209_89 : pg_cd 209 89 = (12, 1, 0, 0, 0) := by decide +kernel
theorem c_209_90 : pg_cd 209 90 = (10, 1, 0, 0, 0) := by decide +kernel
theorem c_209_91 : pg_cd 209 91 = (3, 1, 0, 3, 0) := by decide +kernel
theorem c_209_92 : pg_cd 209 92 = (10, 1, 0, 0, 0) := by decide +kernel
theorem c_209_93 : pg_cd 209 93 = (50, 1, 0, 0, 0) := by decide +kernel
theorem c_209_94 : pg_cd 209 94 = (90, 0, 0, 0, 0) := by decide +kernel
theorem mx_209 : pg_mx 209 = 4 := by decide +kernel
theorem m_209 {d : Nat} {h : ab_H} {Q : Option Value → ab_H → Prop} {x0 : Nat} {x1 : Int32} {x2 : Int32} (t : wq d 209 0 [.ref x0, .int x1, .int x2, .retAddr 0] [] h Q) : wm d 209 [.ref x0, .int x1, .int x2] h Q := by
  unfold wm
  rw [mx_209]
  exact t
set_option maxRecDepth 20000 in
theorem t_209_0 {d : Nat} {h : ab_H} {Q : Option Value → ab_H → Prop} {x0 : Nat} {x1 : Int32} {x2 : Int32} (t : wq d 209 2 [.ref x0, .int x1, .int x2, .int x2] [] h Q) : wq d 209 0 [.ref x0, .int x1, .int x2, .retAddr 0] [] h Q := by
  refine g3 c_209_0 rfl ?_
  refine g6 (L' := [.ref x0, .int x1, .int x2, .int x2]) c_209_1 rfl ?_
  exact t
set_option maxRecDepth 20000 in
theorem t_209_2 {d : Nat} {h : ab_H} {Q : Option Value → ab_H → Prop} {x0 : Nat} {x1 : Int32} {x2 : Int32} {x3 : Int32} (t : if x3 < 0 then (if x3 < 0 then (ab_ok h x0 112 = true ∧ ∃ j1 : Nat, ab_r h x0 0 = some j1 ∧ ((j1 = 0 ∨ ab_ok h j1 0 = true) ∧ ab_in (70 + x1) (ab_s h j1).2 = true) ∧ Q (some (.int (ab_i h j1 (Int32.toNatClampNeg (70 + x1))))) h) else (if 400 ≤ x3 then (ab_ok h x0 112 = true ∧ ∃ j2 : Nat, ab_r h x0 0 = some j2 ∧ ((j2 = 0 ∨ ab_ok h j2 0 = true) ∧ ab_in (70 + x1) (ab_s h j2).2 = true) ∧ Q (some (.int (ab_i h j2 (Int32.toNatClampNeg (70 + x1))))) h) else (ab_ok h x0 112 = true ∧ ∃ j3 : Nat, ab_r h x0 0 = some j3 ∧ ((j3 = 0 ∨ ab_ok h j3 0 = true) ∧ ab_in ((100 + (400 * x1)) + x3) (ab_s h j3).2 = true) ∧ if (ab_i h j3 (Int32.toNatClampNeg ((100 + (400 * x1)) + x3))) = 0 then (ab_ok h x0 112 = true ∧ ∃ j4 : Nat, ab_r h x0 0 = some j4 ∧ ((j4 = 0 ∨ ab_ok h j4 0 = true) ∧ ab_in (70 + x1) (ab_s h j4).2 = true) ∧ Q (some (.int (ab_i h j4 (Int32.toNatClampNeg (70 + x1))))) h) else (ab_ok h x0 112 = true ∧ ∃ j5 : Nat, ab_r h x0 0 = some j5 ∧ ((j5 = 0 ∨ ab_ok h j5 0 = true) ∧ ab_in ((100 + (400 * x1)) + x3) (ab_s h j5).2 = true) ∧ Q (some (.int (ab_i h j5 (Int32.toNatClampNeg ((100 + (400 * x1)) + x3))))) h)))) else (if 400 ≤ x3 then (if x3 < 0 then (ab_ok h x0 112 = true ∧ ∃ j6 : Nat, ab_r h x0 0 = some j6 ∧ ((j6 = 0 ∨ ab_ok h j6 0 = true) ∧ ab_in (70 + x1) (ab_s h j6).2 = true) ∧ Q (some (.int (ab_i h j6 (Int32.toNatClampNeg (70 + x1))))) h) else (if 400 ≤ x3 then (ab_ok h x0 112 = true ∧ ∃ j7 : Nat, ab_r h x0 0 = some j7 ∧ ((j7 = 0 ∨ ab_ok h j7 0 = true) ∧ ab_in (70 + x1) (ab_s h j7).2 = true) ∧ Q (some (.int (ab_i h j7 (Int32.toNatClampNeg (70 + x1))))) h) else (ab_ok h x0 112 = true ∧ ∃ j8 : Nat, ab_r h x0 0 = some j8 ∧ ((j8 = 0 ∨ ab_ok h j8 0 = true) ∧ ab_in ((100 + (400 * x1)) + x3) (ab_s h j8).2 = true) ∧ if (ab_i h j8 (Int32.toNatClampNeg ((100 + (400 * x1)) + x3))) = 0 then (ab_ok h x0 112 = true ∧ ∃ j9 : Nat, ab_r h x0 0 = some j9 ∧ ((j9 = 0 ∨ ab_ok h j9 0 = true) ∧ ab_in (70 + x1) (ab_s h j9).2 = true) ∧ Q (some (.int (ab_i h j9 (Int32.toNatClampNeg (70 + x1))))) h) else (ab_ok h x0 112 = true ∧ ∃ j10 : Nat, ab_r h x0 0 = some j10 ∧ ((j10 = 0 ∨ ab_ok h j10 0 = true) ∧ ab_in ((100 + (400 * x1)) + x3) (ab_s h j10).2 = true) ∧ Q (some (.int (ab_i h j10 (Int32.toNatClampNeg ((100 + (400 * x1)) + x3))))) h)))) else (ab_ok h x0 112 = true ∧ ∃ j11 : Nat, ab_r h x0 0 = some j11 ∧ ((j11 = 0 ∨ ab_ok h j11 0 = true) ∧ ab_in ((100 + (400 * x1)) + x3) (ab_s h j11).2 = true) ∧ if (ab_i h j11 (Int32.toNatClampNeg ((100 + (400 * x1)) + x3))) = (-1) then (wq d 209 2 [.ref x0, .int x1, .int x2, .int (x3 + (-1))] [] h Q) else (if x3 < 0 then (ab_ok h x0 112 = true ∧ ∃ j12 : Nat, ab_r h x0 0 = some j12 ∧ ((j12 = 0 ∨ ab_ok h j12 0 = true) ∧ ab_in (70 + x1) (ab_s h j12).2 = true) ∧ Q (some (.int (ab_i h j12 (Int32.toNatClampNeg (70 + x1))))) h) else (if 400 ≤ x3 then (ab_ok h x0 112 = true ∧ ∃ j13 : Nat, ab_r h x0 0 = some j13 ∧ ((j13 = 0 ∨ ab_ok h j13 0 = true) ∧ ab_in (70 + x1) (ab_s h j13).2 = true) ∧ Q (some (.int (ab_i h j13 (Int32.toNatClampNeg (70 + x1))))) h) else (ab_ok h x0 112 = true ∧ ∃ j14 : Nat, ab_r h x0 0 = some j14 ∧ ((j14 = 0 ∨ ab_ok h j14 0 = true) ∧ ab_in ((100 + (400 * x1)) + x3) (ab_s h j14).2 = true) ∧ if (ab_i h j14 (Int32.toNatClampNeg ((100 + (400 * x1)) + x3))) = 0 then (ab_ok h x0 112 = true ∧ ∃ j15 : Nat, ab_r h x0 0 = some j15 ∧ ((j15 = 0 ∨ ab_ok h j15 0 = true) ∧ ab_in (70 + x1) (ab_s h j15).2 = true) ∧ Q (some (.int (ab_i h j15 (Int32.toNatClampNeg (70 + x1))))) h) else (ab_ok h x0 112 = true ∧ ∃ j16 : Nat, ab_r h x0 0 = some j16 ∧ ((j16 = 0 ∨ ab_ok h j16 0 = true) ∧ ab_in ((100 + (400 * x1)) + x3) (ab_s h j16).2 = true) ∧ Q (some (.int (ab_i h j16 (Int32.toNatClampNeg ((100 + (400 * x1)) + x3))))) h))))))) : wq d 209 2 [.ref x0, .int x1, .int x2, .int x3] [] h Q := by
  refine g3 c_209_2 rfl ?_
  refine gif c_209_3 (gbr t rfl rfl (fun hc t => ?_) (fun hc t => ?_))
  · refine g3 c_209_38 rfl ?_
    refine gif c_209_39 (gbr t rfl rfl (fun hc t => ?_) (fun hc t => ?_))
    · refine g5 c_209_67 rfl ?_
      obtain ⟨ho, j1, hr, t⟩ := t
      refine g45 c_209_68 ho hr ?_
      refine g1 c_209_71 k_70 ?_
      refine g3 c_209_73 rfl ?_
      refine g10 c_209_74 ?_
      obtain ⟨ho, t⟩ := t
      refine g50 c_209_75 ho ?_
      refine g38 c_209_76 rfl ?_
      exact g90 c_209_94 t
    · refine g3 c_209_42 rfl ?_
      refine g1 c_209_43 k_400 ?_
      refine gcm c_209_46 (gbr t rfl rfl (fun hc t => ?_) (fun hc t => ?_))
      · refine g5 c_209_67 rfl ?_
        obtain ⟨ho, j2, hr, t⟩ := t
        refine g45 c_209_68 ho hr ?_
        refine g1 c_209_71 k_70 ?_
        refine g3 c_209_73 rfl ?_
        refine g10 c_209_74 ?_
        obtain ⟨ho, t⟩ := t
        refine g50 c_209_75 ho ?_
        refine g38 c_209_76 rfl ?_
        exact g90 c_209_94 t
      · refine g5 c_209_49 rfl ?_
        obtain ⟨ho, j3, hr, t⟩ := t
        refine g45 c_209_50 ho hr ?_
        refine g1 c_209_53 k_100 ?_
        refine g1 c_209_55 k_400 ?_
        refine g3 c_209_58 rfl ?_
        refine g12 c_209_59 ?_
        refine g10 c_209_60 ?_
        refine g3 c_209_61 rfl ?_
        refine g10 c_209_62 ?_
        obtain ⟨ho, t⟩ := t
        refine g50 c_209_63 ho ?_
        refine gif c_209_64 (gbn t (ab_c1 _ _) rfl (fun hc t => ?_) (fun hc t => ?_))
        · refine g5 c_209_67 rfl ?_
          obtain ⟨ho, j4, hr, t⟩ := t
          refine g45 c_209_68 ho hr ?_
          refine g1 c_209_71 k_70 ?_
          refine g3 c_209_73 rfl ?_
          refine g10 c_209_74 ?_
          obtain ⟨ho, t⟩ := t
          refine g50 c_209_75 ho ?_
          refine g38 c_209_76 rfl ?_
          exact g90 c_209_94 t
        · refine g5 c_209_79 rfl ?_
          obtain ⟨ho, j5, hr, t⟩ := t
          refine g45 c_209_80 ho hr ?_
          refine g1 c_209_83 k_100 ?_
          refine g1 c_209_85 k_400 ?_
          refine g3 c_209_88 rfl ?_
          refine g12 c_209_89 ?_
          refine g10 c_209_90 ?_
          refine g3 c_209_91 rfl ?_
          refine g10 c_209_92 ?_
          obtain ⟨ho, t⟩ := t
          refine g50 c_209_93 ho ?_
          exact g90 c_209_94 t
  · refine g3 c_209_6 rfl ?_
    refine g1 c_209_7 k_400 ?_
    refine gcm c_209_10 (gbr t rfl rfl (fun hc t => ?_) (fun hc t => ?_))
    · refine g3 c_209_38 rfl ?_
      refine gif c_209_39 (gbr t rfl rfl (fun hc t => ?_) (fun hc t => ?_))
      · refine g5 c_209_67 rfl ?_
        obtain ⟨ho, j6, hr, t⟩ := t
        refine g45 c_209_68 ho hr ?_
        refine g1 c_209_71 k_70 ?_
        refine g3 c_209_73 rfl ?_
        refine g10 c_209_74 ?_
        obtain ⟨ho, t⟩ := t
        refine g50 c_209_75 ho ?_
        refine g38 c_209_76 rfl ?_
        exact g90 c_209_94 t
      · refine g3 c_209_42 rfl ?_
        refine g1 c_209_43 k_400 ?_
        refine gcm c_209_46 (gbr t rfl rfl (fun hc t => ?_) (fun hc t => ?_))
        · refine g5 c_209_67 rfl ?_
          obtain ⟨ho, j7, hr, t⟩ := t
          refine g45 c_209_68 ho hr ?_
          refine g1 c_209_71 k_70 ?_
          refine g3 c_209_73 rfl ?_
          refine g10 c_209_74 ?_
          obtain ⟨ho, t⟩ := t
          refine g50 c_209_75 ho ?_
          refine g38 c_209_76 rfl ?_
          exact g90 c_209_94 t
        · refine g5 c_209_49 rfl ?_
          obtain ⟨ho, j8, hr, t⟩ := t
          refine g45 c_209_50 ho hr ?_
          refine g1 c_209_53 k_100 ?_
          refine g1 c_209_55 k_400 ?_
          refine g3 c_209_58 rfl ?_
          refine g12 c_209_59 ?_
          refine g10 c_209_60 ?_
          refine g3 c_209_61 rfl ?_
          refine g10 c_209_62 ?_
          obtain ⟨ho, t⟩ := t
          refine g50 c_209_63 ho ?_
          refine gif c_209_64 (gbn t (ab_c1 _ _) rfl (fun hc t => ?_) (fun hc t => ?_))
          · refine g5 c_209_67 rfl ?_
            obtain ⟨ho, j9, hr, t⟩ := t
            refine g45 c_209_68 ho hr ?_
            refine g1 c_209_71 k_70 ?_
            refine g3 c_209_73 rfl ?_
            refine g10 c_209_74 ?_
            obtain ⟨ho, t⟩ := t
            refine g50 c_209_75 ho ?_
            refine g38 c_209_76 rfl ?_
            exact g90 c_209_94 t
          · refine g5 c_209_79 rfl ?_
            obtain ⟨ho, j10, hr, t⟩ := t
            refine g45 c_209_80 ho hr ?_
            refine g1 c_209_83 k_100 ?_
            refine g1 c_209_85 k_400 ?_
            refine g3 c_209_88 rfl ?_
            refine g12 c_209_89 ?_
            refine g10 c_209_90 ?_
            refine g3 c_209_91 rfl ?_
            refine g10 c_209_92 ?_
            obtain ⟨ho, t⟩ := t
            refine g50 c_209_93 ho ?_
            exact g90 c_209_94 t
    · refine g5 c_209_13 rfl ?_
      obtain ⟨ho, j11, hr, t⟩ := t
      refine g45 c_209_14 ho hr ?_
      refine g1 c_209_17 k_100 ?_
      refine g1 c_209_19 k_400 ?_
      refine g3 c_209_22 rfl ?_
      refine g12 c_209_23 ?_
      refine g10 c_209_24 ?_
      refine g3 c_209_25 rfl ?_
      refine g10 c_209_26 ?_
      obtain ⟨ho, t⟩ := t
      refine g50 c_209_27 ho ?_
      refine g1 c_209_28 k_m1 ?_
      refine gcm c_209_29 (gbn t (ab_c1 _ _) rfl (fun hc t => ?_) (fun hc t => ?_))
      · refine g9 (L' := [.ref x0, .int x1, .int x2, .int (x3 + (-1))]) c_209_32 rfl k_m1 rfl ?_
        refine g38 c_209_35 rfl ?_
        exact t
      · refine g3 c_209_38 rfl ?_
        refine gif c_209_39 (gbr t rfl rfl (fun hc t => ?_) (fun hc t => ?_))
        · refine g5 c_209_67 rfl ?_
          obtain ⟨ho, j12, hr, t⟩ := t
          refine g45 c_209_68 ho hr ?_
          refine g1 c_209_71 k_70 ?_
          refine g3 c_209_73 rfl ?_
          refine g10 c_209_74 ?_
          obtain ⟨ho, t⟩ := t
          refine g50 c_209_75 ho ?_
          refine g38 c_209_76 rfl ?_
          exact g90 c_209_94 t
        · refine g3 c_209_42 rfl ?_
          refine g1 c_209_43 k_400 ?_
          refine gcm c_209_46 (gbr t rfl rfl (fun hc t => ?_) (fun hc t => ?_))
          · refine g5 c_209_67 rfl ?_
            obtain ⟨ho, j13, hr, t⟩ := t
            refine g45 c_209_68 ho hr ?_
            refine g1 c_209_71 k_70 ?_
            refine g3 c_209_73 rfl ?_
            refine g10 c_209_74 ?_
            obtain ⟨ho, t⟩ := t
            refine g50 c_209_75 ho ?_
            refine g38 c_209_76 rfl ?_
            exact g90 c_209_94 t
          · refine g5 c_209_49 rfl ?_
            obtain ⟨ho, j14, hr, t⟩ := t
            refine g45 c_209_50 ho hr ?_
            refine g1 c_209_53 k_100 ?_
            refine g1 c_209_55 k_400 ?_
            refine g3 c_209_58 rfl ?_
            refine g12 c_209_59 ?_
            refine g10 c_209_60 ?_
            refine g3 c_209_61 rfl ?_
            refine g10 c_209_62 ?_
            obtain ⟨ho, t⟩ := t
            refine g50 c_209_63 ho ?_
            refine gif c_209_64 (gbn t (ab_c1 _ _) rfl (fun hc t => ?_) (fun hc t => ?_))
            · refine g5 c_209_67 rfl ?_
              obtain ⟨ho, j15, hr, t⟩ := t
              refine g45 c_209_68 ho hr ?_
              refine g1 c_209_71 k_70 ?_
              refine g3 c_209_73 rfl ?_
              refine g10 c_209_74 ?_
              obtain ⟨ho, t⟩ := t
              refine g50 c_209_75 ho ?_
              refine g38 c_209_76 rfl ?_
              exact g90 c_209_94 t
            · refine g5 c_209_79 rfl ?_
              obtain ⟨ho, j16, hr, t⟩ := t
              refine g45 c_209_80 ho hr ?_
              refine g1 c_209_83 k_100 ?_
              refine g1 c_209_85 k_400 ?_
              refine g3 c_209_88 rfl ?_
              refine g12 c_209_89 ?_
              refine g10 c_209_90 ?_
              refine g3 c_209_91 rfl ?_
              refine g10 c_209_92 ?_
              obtain ⟨ho, t⟩ := t
              refine g50 c_209_93 ho ?_
              exact g90 c_209_94 t
-- method 210: MillTownModel.priceOf(II)I
theorem c_210_0 : pg_cd 210 0 = (3, 1, 0, 1, 0) := by decide +kernel
theorem c_210_1 : pg_cd 210 1 = (1, 1, 0, 0, 0) := by decide +kernel
theorem c_210_2 : pg_cd 210 2 = (1, 2, 0, 0, 7) := by decide +kernel
theorem c_210_4 : pg_cd 210 4 = (81, 196, 76, 0, 0) := by decide +kernel
theorem c_210_7 : pg_cd 210 7 = (36, 3, 0, 0, 19) := by decide +kernel
theorem c_210_10 : pg_cd 210 10 = (3, 1, 0, 2, 0) := by decide +kernel
theorem c_210_11 : pg_cd 210 11 = (81, 205, 89, 0, 0) := by decide +kernel
theorem c_210_14 : pg_cd 210 14 = (36, 3, 0, 0, 12) := by decide +kernel
theorem c_210_17 : pg_cd 210 17 = (5, 1, 0, 0, 0) := by decide +kernel
theorem c_210_18 : pg_cd 210 18 = (3, 1, 0, 1, 0) := by decide +kernel
theorem c_210_19 : pg_cd 210 19 = (3, 1, 0, 2, 0) := by decide +kernel
theorem c_210_20 : pg_cd 210 20 = (80, 209, 92, 0, 0) := by decide +kernel
theorem c_210_23 : pg_cd 210 23 = (38, 3, 0, 0, 4) := by decide +kernel
theorem c_210_26 : pg_cd 210 26 = (1, 1, 0, 0, (-1)) := by decide +kernel
theorem c_210_27 : pg_cd 210 27 = (90, 0, 0, 0, 0) := by decide +kernel
theorem mx_210 : pg_mx 210 = 3 := by decide +kernel
theorem m_210 {d : Nat} {h : ab_H} {Q : Option Value → ab_H → Prop} {x0 : Nat} {x1 : Int32} {x2 : Int32} (t : wq d 210 0 [.ref x0, .int x1, .int x2] [] h Q) : wm d 210 [.ref x0, .int x1, .int x2] h Q := by
  unfold wm
  rw [mx_210]
  exact t
set_option maxRecDepth 20000 in
theorem t_210_0 {d : Nat} {h : ab_H} {Q : Option Value → ab_H → Prop} {x0 : Nat} {x1 : Int32} {x2 : Int32} (t : wm d 196 [.int x1, .int 0, .int 7] h (fun r9 h9 => wq (d + 1) 210 7 [.ref x0, .int x1, .int x2] (r9.toList ++ []) h9 Q)) : wq (d + 1) 210 0 [.ref x0, .int x1, .int x2] [] h Q := by
  refine g3 c_210_0 rfl ?_
  refine g1 c_210_1 k_0 ?_
  refine g1 c_210_2 k_7 ?_
  exact g81 (As := [.int x1, .int 0, .int 7]) (rest := []) c_210_4 rfl rfl (Nat.le_of_ble_eq_true rfl) (Nat.le_of_ble_eq_true rfl) t
set_option maxRecDepth 20000 in
theorem t_210_7 {d : Nat} {h : ab_H} {Q : Option Value → ab_H → Prop} {x0 : Nat} {x1 : Int32} {x2 : Int32} {s0 : Int32} (t : if s0 = 0 then (Q (some (.int (-1))) h) else (wm d 205 [.int x2] h (fun r9 h9 => wq (d + 1) 210 14 [.ref x0, .int x1, .int x2] (r9.toList ++ []) h9 Q))) : wq (d + 1) 210 7 [.ref x0, .int x1, .int x2] [.int s0] h Q := by
  refine gif c_210_7 (gbr t rfl rfl (fun hc t => ?_) (fun hc t => ?_))
  · refine g1 c_210_26 k_m1 ?_
    exact g90 c_210_27 t
  · refine g3 c_210_10 rfl ?_
    exact g81 (As := [.int x2]) (rest := []) c_210_11 rfl rfl (Nat.le_of_ble_eq_true rfl) (Nat.le_of_ble_eq_true rfl) t
set_option maxRecDepth 20000 in
theorem t_210_14 {d : Nat} {h : ab_H} {Q : Option Value → ab_H → Prop} {x0 : Nat} {x1 : Int32} {x2 : Int32} {s0 : Int32} (t : if s0 = 0 then (Q (some (.int (-1))) h) else (ab_ok h x0 112 = true ∧ wm d 209 [.ref x0, .int x1, .int x2] h (fun r9 h9 => wq (d + 1) 210 23 [.ref x0, .int x1, .int x2] (r9.toList ++ []) h9 Q))) : wq (d + 1) 210 14 [.ref x0, .int x1, .int x2] [.int s0] h Q := by
  refine gif c_210_14 (gbr t rfl rfl (fun hc t => ?_) (fun hc t => ?_))
  · refine g1 c_210_26 k_m1 ?_
    exact g90 c_210_27 t
  · refine g5 c_210_17 rfl ?_
    refine g3 c_210_18 rfl ?_
    refine g3 c_210_19 rfl ?_
    exact g80 (As := [.int x1, .int x2]) (rest := []) c_210_20 rfl rfl (Nat.le_of_ble_eq_true rfl) (Nat.le_of_ble_eq_true rfl) t.1 t.2
set_option maxRecDepth 20000 in
theorem t_210_23 {d : Nat} {h : ab_H} {Q : Option Value → ab_H → Prop} {x0 : Nat} {x1 : Int32} {x2 : Int32} {s0 : Int32} (t : Q (some (.int s0)) h) : wq d 210 23 [.ref x0, .int x1, .int x2] [.int s0] h Q := by
  refine g38 c_210_23 rfl ?_
  exact g90 c_210_27 t
-- method 211: MillTownModel.mill(IIII)I
theorem c_211_0 : pg_cd 211 0 = (3, 1, 0, 1, 0) := by decide +kernel
theorem c_211_1 : pg_cd 211 1 = (1, 1, 0, 0, 0) := by decide +kernel
theorem c_211_2 : pg_cd 211 2 = (1, 2, 0, 0, 60) := by decide +kernel
theorem c_211_4 : pg_cd 211 4 = (81, 196, 76, 0, 0) := by decide +kernel
theorem c_211_7 : pg_cd 211 7 = (36, 3, 0, 0, 50) := by decide +kernel
theorem c_211_10 : pg_cd 211 10 = (3, 1, 0, 2, 0) := by decide +kernel
theorem c_211_11 : pg_cd 211 11 = (1, 2, 0, 0, 50) := by decide +kernel
theorem c_211_13 : pg_cd 211 13 = (1, 3, 0, 0, 200) := by decide +kernel
theorem c_211_16 : pg_cd 211 16 = (81, 196, 76, 0, 0) := by decide +kernel
theorem c_211_19 : pg_cd 211 19 = (36, 3, 0, 0, 38) := by decide +kernel
theorem c_211_22 : pg_cd 211 22 = (3, 1, 0, 3, 0) := by decide +kernel
theorem c_211_23 : pg_cd 211 23 = (1, 1, 0, 0, 0) := by decide +kernel
theorem c_211_24 : pg_cd 211 24 = (1, 2, 95, 0, 1000000) := by decide +kernel
theorem c_211_26 : pg_cd 211 26 = (81, 196, 76, 0, 0) := by decide +kernel
theorem c_211_29 : pg_cd 211 29 = (36, 3, 0, 0, 28) := by decide +kernel
theorem c_211_32 : pg_cd 211 32 = (3, 2, 0, 4, 0) := by decide +kernel
theorem c_211_34 : pg_cd 211 34 = (1, 3, 0, 0, (-1000)) := by decide +kernel
theorem c_211_37 : pg_cd 211 37 = (1, 3, 0, 0, 1000) := by decide +kernel
theorem c_211_40 : pg_cd 211 40 = (81, 196, 76, 0, 0) := by decide +kernel
theorem c_211_43 : pg_cd 211 43 = (36, 3, 0, 0, 14) := by decide +kernel
theorem c_211_46 : pg_cd 211 46 = (5, 1, 0, 0, 0) := by decide +kernel
theorem c_211_47 : pg_cd 211 47 = (45, 12, 8, 0, 0) := by decide +kernel
theorem c_211_50 : pg_cd 211 50 = (1, 1, 0, 0, 1) := by decide +kernel
theorem c_211_51 : pg_cd 211 51 = (50, 1, 0, 0, 0) := by decide +kernel
theorem c_211_52 : pg_cd 211 52 = (1, 2, 0, 0, 8) := by decide +kernel
theorem c_211_54 : pg_cd 211 54 = (37, 3, 0, 1, 5) := by decide +kernel
theorem c_211_57 : pg_cd 211 57 = (1, 1, 0, 0, (-1)) := by decide +kernel
theorem c_211_58 : pg_cd 211 58 = (90, 0, 0, 0, 0) := by decide +kernel
theorem c_211_59 : pg_cd 211 59 = (1, 3, 0, 0, 3300) := by decide +kernel
theorem c_211_62 : pg_cd 211 62 = (1, 2, 0, 0, 16) := by decide +kernel
theorem c_211_64 : pg_cd 211 64 = (5, 1, 0, 0, 0) := by decide +kernel
theorem c_211_65 : pg_cd 211 65 = (45, 12, 8, 0, 0) := by decide +kernel
theorem c_211_68 : pg_cd 211 68 = (1, 1, 0, 0, 1) := by decide +kernel
theorem c_211_69 : pg_cd 211 69 = (50, 1, 0, 0, 0) := by decide +kernel
theorem c_211_70 : pg_cd 211 70 = (12, 1, 0, 0, 0) := by decide +kernel
theorem c_211_71 : pg_cd 211 71 = (10, 1, 0, 0, 0) := by decide +kernel
theorem c_211_72 : pg_cd 211 72 = (6, 2, 0, 5, 0) := by decide +kernel
theorem c_211_74 : pg_cd 211 74 = (5, 1, 0, 0, 0) := by decide +kernel
theorem c_211_75 : pg_cd 211 75 = (45, 12, 8, 0, 0) := by decide +kernel
theorem c_211_78 : pg_cd 211 78 = (3, 2, 0, 5, 0) := by decide +kernel
theorem c_211_80 : pg_cd 211 80 = (1, 1, 0, 0, 0) := by decide +kernel
theorem c_211_81 : pg_cd 211 81 = (10, 1, 0, 0, 0) := by decide +kernel
theorem c_211_82 : pg_cd 211 82 = (3, 1, 0, 1, 0) := by decide +kernel
theorem c_211_83 : pg_cd 211 83 = (54, 1, 0, 0, 0) := by decide +kernel
theorem c_211_84 : pg_cd 211 84 = (5, 1, 0, 0, 0) := by decide +kernel
theorem c_211_85 : pg_cd 211 85 = (45, 12, 8, 0, 0) := by decide +kernel
theorem c_211_88 : pg_cd 211 88 = (3, 2, 0, 5, 0) := by decide +kernel
theorem c_211_90 : pg_cd 211 90 = (1, 1, 0, 0, 1) := by decide +kernel
theorem c_211_91 : pg_cd 211 91 = (10, 1, 0, 0, 0) := by decide +kernel
theorem c_211_92 : pg_cd 211 92 = (3, 1, 0, 2, 0) := by decide +kernel
theorem c_211_93 : pg_cd 211 93 = (54, 1, 0, 0, 0) := by decide +kernel
theorem c_211_94 : pg_cd 211 94 = (5, 1, 0, 0, 0) := by decide +kernel
theorem c_211_95 : pg_cd 211 95 = (45, 12, 8, 0, 0) := by decide +kernel
theorem c_211_98 : pg_cd 211 98 = (3, 2, 0, 5, 0) := by decide +kernel
theorem c_211_100 : pg_cd 211 100 = (1, 1, 0, 0, 2) := by decide +kernel
theorem c_211_101 : pg_cd 211 101 = (10, 1, 0, 0, 0) := by decide +kernel
theorem c_211_102 : pg_cd 211 102 = (3, 1, 0, 3, 0) := by decide +kernel
theorem c_211_103 : pg_cd 211 103 = (54, 1, 0, 0, 0) := by decide +kernel
theorem c_211_104 : pg_cd 211 104 = (5, 1, 0, 0, 0) := by decide +kernel
theorem c_211_105 : pg_cd 211 105 = (45, 12, 8, 0, 0) := by decide +kernel
theorem c_211_108 : pg_cd 211 108 = (3, 2, 0, 5, 0) := by decide +kernel
theorem c_211_110 : pg_cd 211 110 = (1, 1, 0, 0, 3) := by decide +kernel
theorem c_211_111 : pg_cd 211 111 = (10, 1, 0, 0, 0) := by decide +kernel
theorem c_211_112 : pg_cd 211 112 = (3, 2, 0, 4, 0) := by decide +kernel
theorem c_211_114 : pg_cd 211 114 = (54, 1, 0, 0, 0) := by decide +kernel
theorem c_211_115 : pg_cd 211 115 = (5, 1, 0, 0, 0) := by decide +kernel
theorem c_211_116 : pg_cd 211 116 = (45, 12, 8, 0, 0) := by decide +kernel
theorem c_211_119 : pg_cd 211 119 = (3, 2, 0, 5, 0) := by decide +kernel
theorem c_211_121 : pg_cd 211 121 = (1, 2, 0, 0, 7) := by decide +kernel
theorem c_211_123 : pg_cd 211 123 = (10, 1, 0, 0, 0) := by decide +kernel
theorem c_211_124 : pg_cd 211 124 = (1, 1, 0, 0, (-1)) := by decide +kernel
theorem c_211_125 : pg_cd 211 125 = (54, 1, 0, 0, 0) := by decide +kernel
theorem c_211_126 : pg_cd 211 126 = (5, 1, 0, 0, 0) := by decide +kernel
theorem c_211_127 : pg_cd 211 127 = (45, 12, 8, 0, 0) := by decide +kernel
theorem c_211_130 : pg_cd 211 130 = (3, 2, 0, 5, 0) := by decide +kernel
theorem c_211_132 : pg_cd 211 132 = (1, 2, 0, 0, 9) := by decide +kernel
theorem c_211_134 : pg_cd 211 134 = (10, 1, 0, 0, 0) := by decide +kernel
theorem c_211_135 : pg_cd 211 135 = (1, 1, 0, 0, (-1)) := by decide +kernel
theorem c_211_136 : pg_cd 211 136 = (54, 1, 0, 0, 0) := by decide +kernel
theorem c_211_137 : pg_cd 211 137 = (5, 1, 0, 0, 0) := by decide +kernel
theorem c_211_138 : pg_cd 211 138 = (45, 12, 8, 0, 0) := by decide +kernel
theorem c_211_141 : pg_cd 211 141 = (1, 1, 0, 0, 1) := by decide +kernel
theorem c_211_142 : pg_cd 211 142 = (34, 1, 0, 0, 0) := by decide +kernel
theorem c_211_143 : pg_cd 211 143 = (50, 1, 0, 0, 0) := by decide +kernel
theorem c_211_144 : pg_cd 211 144 = (1, 1, 0, 0, 1) := by decide +kernel
theorem c_211_145 : pg_cd 211 145 = (10, 1, 0, 0, 0) := by decide +kernel
theorem c_211_146 : pg_cd 211 146 = (54, 1, 0, 0, 0) := by decide +kernel
theorem c_211_147 : pg_cd 211 147 = (5, 1, 0, 0, 0) := by decide +kernel
theorem c_211_148 : pg_cd 211 148 = (45, 12, 8, 0, 0) := by decide +kernel
theorem c_211_151 : pg_cd 211 151 = (1, 1, 0, 0, 1) := by decide +kernel
theorem c_211_152 : pg_cd 211 152 = (50, 1, 0, 0, 0) := by decide +kernel
theorem c_211_153 : pg_cd 211 153 = (1, 1, 0, 0, 1) := by decide +kernel
theorem c_211_154 : pg_cd 211 154 = (11, 1, 0, 0, 0) := by decide +kernel
theorem c_211_155 : pg_cd 211 155 = (90, 0, 0, 0, 0) := by decide +kernel
theorem mx_211 : pg_mx 211 = 6 := by decide +kernel
theorem m_211 {d : Nat} {h : ab_H} {Q : Option Value → ab_H → Prop} {x0 : Nat} {x1 : Int32} {x2 : Int32} {x3 : Int32} {x4 : Int32} (t : wq d 211 0 [.ref x0, .int x1, .int x2, .int x3, .int x4, .retAddr 0] [] h Q) : wm d 211 [.ref x0, .int x1, .int x2, .int x3, .int x4] h Q := by
  unfold wm
  rw [mx_211]
  exact t
set_option maxRecDepth 20000 in
theorem t_211_0 {d : Nat} {h : ab_H} {Q : Option Value → ab_H → Prop} {x0 : Nat} {x1 : Int32} {x2 : Int32} {x3 : Int32} {x4 : Int32} (t : wm d 196 [.int x1, .int 0, .int 60] h (fun r9 h9 => wq (d + 1) 211 7 [.ref x0, .int x1, .int x2, .int x3, .int x4, .retAddr 0] (r9.toList ++ []) h9 Q)) : wq (d + 1) 211 0 [.ref x0, .int x1, .int x2, .int x3, .int x4, .retAddr 0] [] h Q := by
  refine g3 c_211_0 rfl ?_
  refine g1 c_211_1 k_0 ?_
  refine g1 c_211_2 k_60 ?_
  exact g81 (As := [.int x1, .int 0, .int 60]) (rest := []) c_211_4 rfl rfl (Nat.le_of_ble_eq_true rfl) (Nat.le_of_ble_eq_true rfl) t
set_option maxRecDepth 20000 in
theorem t_211_7 {d : Nat} {h : ab_H} {Q : Option Value → ab_H → Prop} {x0 : Nat} {x1 : Int32} {x2 : Int32} {x3 : Int32} {x4 : Int32} {s0 : Int32} (t : if s0 = 0 then (Q (some (.int (-1))) h) else (wm d 196 [.int x2, .int 50, .int 200] h (fun r9 h9 => wq (d + 1) 211 19 [.ref x0, .int x1, .int x2, .int x3, .int x4, .retAddr 0] (r9.toList ++ []) h9 Q))) : wq (d + 1) 211 7 [.ref x0, .int x1, .int x2, .int x3, .int x4, .retAddr 0] [.int s0] h Q := by
  refine gif c_211_7 (gbr t rfl rfl (fun hc t => ?_) (fun hc t => ?_))
  · refine g1 c_211_57 k_m1 ?_
    exact g90 c_211_58 t
  · refine g3 c_211_10 rfl ?_
    refine g1 c_211_11 k_50 ?_
    refine g1 c_211_13 k_200 ?_
    exact g81 (As := [.int x2, .int 50, .int 200]) (rest := []) c_211_16 rfl rfl (Nat.le_of_ble_eq_true rfl) (Nat.le_of_ble_eq_true rfl) t
set_option maxRecDepth 20000 in
theorem t_211_19 {d : Nat} {h : ab_H} {Q : Option Value → ab_H → Prop} {x0 : Nat} {x1 : Int32} {x2 : Int32} {x3 : Int32} {x4 : Int32} {s0 : Int32} (t : if s0 = 0 then (Q (some (.int (-1))) h) else (wm d 196 [.int x3, .int 0, .int 1000000] h (fun r9 h9 => wq (d + 1) 211 29 [.ref x0, .int x1, .int x2, .int x3, .int x4, .retAddr 0] (r9.toList ++ []) h9 Q))) : wq (d + 1) 211 19 [.ref x0, .int x1, .int x2, .int x3, .int x4, .retAddr 0] [.int s0] h Q := by
  refine gif c_211_19 (gbr t rfl rfl (fun hc t => ?_) (fun hc t => ?_))
  · refine g1 c_211_57 k_m1 ?_
    exact g90 c_211_58 t
  · refine g3 c_211_22 rfl ?_
    refine g1 c_211_23 k_0 ?_
    refine g1 c_211_24 k_1000000 ?_
    exact g81 (As := [.int x3, .int 0, .int 1000000]) (rest := []) c_211_26 rfl rfl (Nat.le_of_ble_eq_true rfl) (Nat.le_of_ble_eq_true rfl) t
set_option maxRecDepth 20000 in
theorem t_211_29 {d : Nat} {h : ab_H} {Q : Option Value → ab_H → Prop} {x0 : Nat} {x1 : Int32} {x2 : Int32} {x3 : Int32} {x4 : Int32} {s0 : Int32} (t : if s0 = 0 then (Q (some (.int (-1))) h) else (wm d 196 [.int x4, .int (-1000), .int 1000] h (fun r9 h9 => wq (d + 1) 211 43 [.ref x0, .int x1, .int x2, .int x3, .int x4, .retAddr 0] (r9.toList ++ []) h9 Q))) : wq (d + 1) 211 29 [.ref x0, .int x1, .int x2, .int x3, .int x4, .retAddr 0] [.int s0] h Q := by
  refine gif c_211_29 (gbr t rfl rfl (fun hc t => ?_) (fun hc t => ?_))
  · refine g1 c_211_57 k_m1 ?_
    exact g90 c_211_58 t
  · refine g3 c_211_32 rfl ?_
    refine g1 c_211_34 k_m1000 ?_
    refine g1 c_211_37 k_1000 ?_
    exact g81 (As := [.int x4, .int (-1000), .int 1000]) (rest := []) c_211_40 rfl rfl (Nat.le_of_ble_eq_true rfl) (Nat.le_of_ble_eq_true rfl) t
set_option maxRecDepth 20000 in
theorem t_211_43 {d : Nat} {h : ab_H} {Q : Option Value → ab_H → Prop} {x0 : Nat} {x1 : Int32} {x2 : Int32} {x3 : Int32} {x4 : Int32} {s0 : Int32} (t : if s0 = 0 then (Q (some (.int (-1))) h) else (ab_ok h x0 112 = true ∧ ∃ j1 : Nat, ab_r h x0 0 = some j1 ∧ ((j1 = 0 ∨ ab_ok h j1 0 = true) ∧ ab_in (1 : Int32) (ab_s h j1).2 = true) ∧ if (ab_i h j1 (Int32.toNatClampNeg (1 : Int32))) = 8 then (Q (some (.int (-1))) h) else (ab_ok h x0 112 = true ∧ ∃ j2 : Nat, ab_r h x0 0 = some j2 ∧ ((j2 = 0 ∨ ab_ok h j2 0 = true) ∧ ab_in (1 : Int32) (ab_s h j2).2 = true) ∧ ∀ y3 : Int32, y3 = (3300 + (16 * (ab_i h j2 (Int32.toNatClampNeg (1 : Int32))))) → ab_ok h x0 112 = true ∧ ∃ j4 : Nat, ab_r h x0 0 = some j4 ∧ (ab_ok h j4 0 = true ∧ ab_in (y3 + 0) (ab_s h j4).2 = true) ∧ ∀ h5 : ab_H, h5 = ab_pi h j4 (Int32.toNatClampNeg (y3 + 0)) x1 → ab_ok h5 x0 112 = true ∧ ∃ j6 : Nat, ab_r h5 x0 0 = some j6 ∧ (ab_ok h5 j6 0 = true ∧ ab_in (y3 + 1) (ab_s h5 j6).2 = true) ∧ ∀ h7 : ab_H, h7 = ab_pi h5 j6 (Int32.toNatClampNeg (y3 + 1)) x2 → ab_ok h7 x0 112 = true ∧ ∃ j8 : Nat, ab_r h7 x0 0 = some j8 ∧ (ab_ok h7 j8 0 = true ∧ ab_in (y3 + 2) (ab_s h7 j8).2 = true) ∧ ∀ h9 : ab_H, h9 = ab_pi h7 j8 (Int32.toNatClampNeg (y3 + 2)) x3 → ab_ok h9 x0 112 = true ∧ ∃ j10 : Nat, ab_r h9 x0 0 = some j10 ∧ (ab_ok h9 j10 0 = true ∧ ab_in (y3 + 3) (ab_s h9 j10).2 = true) ∧ ∀ h11 : ab_H, h11 = ab_pi h9 j10 (Int32.toNatClampNeg (y3 + 3)) x4 → ab_ok h11 x0 112 = true ∧ ∃ j12 : Nat, ab_r h11 x0 0 = some j12 ∧ (ab_ok h11 j12 0 = true ∧ ab_in (y3 + 7) (ab_s h11 j12).2 = true) ∧ ∀ h13 : ab_H, h13 = ab_pi h11 j12 (Int32.toNatClampNeg (y3 + 7)) (-1) → ab_ok h13 x0 112 = true ∧ ∃ j14 : Nat, ab_r h13 x0 0 = some j14 ∧ (ab_ok h13 j14 0 = true ∧ ab_in (y3 + 9) (ab_s h13 j14).2 = true) ∧ ∀ h15 : ab_H, h15 = ab_pi h13 j14 (Int32.toNatClampNeg (y3 + 9)) (-1) → ab_ok h15 x0 112 = true ∧ ∃ j16 : Nat, ab_r h15 x0 0 = some j16 ∧ ((j16 = 0 ∨ ab_ok h15 j16 0 = true) ∧ ab_in (1 : Int32) (ab_s h15 j16).2 = true) ∧ (ab_ok h15 j16 0 = true ∧ ab_in (1 : Int32) (ab_s h15 j16).2 = true) ∧ ∀ h17 : ab_H, h17 = ab_pi h15 j16 (Int32.toNatClampNeg (1 : Int32)) ((ab_i h15 j16 (Int32.toNatClampNeg (1 : Int32))) + 1) → ab_ok h17 x0 112 = true ∧ ∃ j18 : Nat, ab_r h17 x0 0 = some j18 ∧ ((j18 = 0 ∨ ab_ok h17 j18 0 = true) ∧ ab_in (1 : Int32) (ab_s h17 j18).2 = true) ∧ Q (some (.int ((ab_i h17 j18 (Int32.toNatClampNeg (1 : Int32))) - 1))) h17))) : wq d 211 43 [.ref x0, .int x1, .int x2, .int x3, .int x4, .retAddr 0] [.int s0] h Q := by
  refine gif c_211_43 (gbr t rfl rfl (fun hc t => ?_) (fun hc t => ?_))
  · refine g1 c_211_57 k_m1 ?_
    exact g90 c_211_58 t
  · refine g5 c_211_46 rfl ?_
    obtain ⟨ho, j1, hr, t⟩ := t
    refine g45 c_211_47 ho hr ?_
    refine g1 c_211_50 k_1 ?_
    obtain ⟨ho, t⟩ := t
    refine g50 c_211_51 ho ?_
    refine g1 c_211_52 k_8 ?_
    refine gcm c_211_54 (gbn t (ab_c1 _ _) rfl (fun hc t => ?_) (fun hc t => ?_))
    · refine g1 c_211_57 k_m1 ?_
      exact g90 c_211_58 t
    · refine g1 c_211_59 k_3300 ?_
      refine g1 c_211_62 k_16 ?_
      refine g5 c_211_64 rfl ?_
      obtain ⟨ho, j2, hr, t⟩ := t
      refine g45 c_211_65 ho hr ?_
      refine g1 c_211_68 k_1 ?_
      obtain ⟨ho, t⟩ := t
      refine g50 c_211_69 ho ?_
      refine g12 c_211_70 ?_
      refine g10 c_211_71 ?_
      refine g6y (Lf := fun y3 => [.ref x0, .int x1, .int x2, .int x3, .int x4, .int y3]) c_211_72 (fun _ => rfl) (fun y3 ey3 => ?_)
      have t := t y3 ey3
      refine g5 c_211_74 rfl ?_
      obtain ⟨ho, j4, hr, t⟩ := t
      refine g45 c_211_75 ho hr ?_
      refine g3 c_211_78 rfl ?_
      refine g1 c_211_80 k_0 ?_
      refine g10 c_211_81 ?_
      refine g3 c_211_82 rfl ?_
      obtain ⟨ho, t⟩ := t
      refine g54 c_211_83 ho (fun h5 eh5 => ?_)
      have t := t h5 eh5
      refine g5 c_211_84 rfl ?_
      obtain ⟨ho, j6, hr, t⟩ := t
      refine g45 c_211_85 ho hr ?_
      refine g3 c_211_88 rfl ?_
      refine g1 c_211_90 k_1 ?_
      refine g10 c_211_91 ?_
      refine g3 c_211_92 rfl ?_
      obtain ⟨ho, t⟩ := t
      refine g54 c_211_93 ho (fun h7 eh7 => ?_)
      have t := t h7 eh7
      refine g5 c_211_94 rfl ?_
      obtain ⟨ho, j8, hr, t⟩ := t
      refine g45 c_211_95 ho hr ?_
      refine g3 c_211_98 rfl ?_
      refine g1 c_211_100 k_2 ?_
      refine g10 c_211_101 ?_
      refine g3 c_211_102 rfl ?_
      obtain ⟨ho, t⟩ := t
      refine g54 c_211_103 ho (fun h9 eh9 => ?_)
      have t := t h9 eh9
      refine g5 c_211_104 rfl ?_
      obtain ⟨ho, j10, hr, t⟩ := t
      refine g45 c_211_105 ho hr ?_
      refine g3 c_211_108 rfl ?_
      refine g1 c_211_110 k_3 ?_
      refine g10 c_211_111 ?_
      refine g3 c_211_112 rfl ?_
      obtain ⟨ho, t⟩ := t
      refine g54 c_211_114 ho (fun h11 eh11 => ?_)
      have t := t h11 eh11
      refine g5 c_211_115 rfl ?_
      obtain ⟨ho, j12, hr, t⟩ := t
      refine g45 c_211_116 ho hr ?_
      refine g3 c_211_119 rfl ?_
      refine g1 c_211_121 k_7 ?_
      refine g10 c_211_123 ?_
      refine g1 c_211_124 k_m1 ?_
      obtain ⟨ho, t⟩ := t
      refine g54 c_211_125 ho (fun h13 eh13 => ?_)
      have t := t h13 eh13
      refine g5 c_211_126 rfl ?_
      obtain ⟨ho, j14, hr, t⟩ := t
      refine g45 c_211_127 ho hr ?_
      refine g3 c_211_130 rfl ?_
      refine g1 c_211_132 k_9 ?_
      refine g10 c_211_134 ?_
      refine g1 c_211_135 k_m1 ?_
      obtain ⟨ho, t⟩ := t
      refine g54 c_211_136 ho (fun h15 eh15 => ?_)
      have t := t h15 eh15
      refine g5 c_211_137 rfl ?_
      obtain ⟨ho, j16, hr, t⟩ := t
      refine g45 c_211_138 ho hr ?_
      refine g1 c_211_141 k_1 ?_
      refine g34a c_211_142 ?_
      obtain ⟨ho, t⟩ := t
      refine g50 c_211_143 ho ?_
      refine g1 c_211_144 k_1 ?_
      refine g10 c_211_145 ?_
      obtain ⟨ho, t⟩ := t
      refine g54 c_211_146 ho (fun h17 eh17 => ?_)
      have t := t h17 eh17
      refine g5 c_211_147 rfl ?_
      obtain ⟨ho, j18, hr, t⟩ := t
      refine g45 c_211_148 ho hr ?_
      refine g1 c_211_151 k_1 ?_
      obtain ⟨ho, t⟩ := t
      refine g50 c_211_152 ho ?_
      refine g1 c_211_153 k_1 ?_
      refine g11 c_211_154 ?_
      exact g90 c_211_155 t
-- method 212: MillTownModel.shop(III)I
theorem c_212_0 : pg_cd 212 0 = (3, 1, 0, 1, 0) := by decide +kernel
theorem c_212_1 : pg_cd 212 1 = (1, 1, 0, 0, 0) := by decide +kernel
theorem c_212_2 : pg_cd 212 2 = (1, 2, 71, 0, 100000) := by decide +kernel
theorem c_212_4 : pg_cd 212 4 = (81, 196, 76, 0, 0) := by decide +kernel
theorem c_212_7 : pg_cd 212 7 = (36, 3, 0, 0, 35) := by decide +kernel
theorem c_212_10 : pg_cd 212 10 = (3, 1, 0, 2, 0) := by decide +kernel
theorem c_212_11 : pg_cd 212 11 = (1, 1, 0, 0, 0) := by decide +kernel
theorem c_212_12 : pg_cd 212 12 = (1, 3, 0, 0, 400) := by decide +kernel
theorem c_212_15 : pg_cd 212 15 = (81, 196, 76, 0, 0) := by decide +kernel
theorem c_212_18 : pg_cd 212 18 = (36, 3, 0, 0, 24) := by decide +kernel
theorem c_212_21 : pg_cd 212 21 = (3, 1, 0, 3, 0) := by decide +kernel
theorem c_212_22 : pg_cd 212 22 = (1, 1, 0, 0, 0) := by decide +kernel
theorem c_212_23 : pg_cd 212 23 = (1, 3, 0, 0, 1000) := by decide +kernel
theorem c_212_26 : pg_cd 212 26 = (81, 196, 76, 0, 0) := by decide +kernel
theorem c_212_29 : pg_cd 212 29 = (36, 3, 0, 0, 13) := by decide +kernel
theorem c_212_32 : pg_cd 212 32 = (5, 1, 0, 0, 0) := by decide +kernel
theorem c_212_33 : pg_cd 212 33 = (45, 12, 8, 0, 0) := by decide +kernel
theorem c_212_36 : pg_cd 212 36 = (1, 1, 0, 0, 2) := by decide +kernel
theorem c_212_37 : pg_cd 212 37 = (50, 1, 0, 0, 0) := by decide +kernel
theorem c_212_38 : pg_cd 212 38 = (1, 1, 0, 0, 4) := by decide +kernel
theorem c_212_39 : pg_cd 212 39 = (37, 3, 0, 1, 5) := by decide +kernel
theorem c_212_42 : pg_cd 212 42 = (1, 1, 0, 0, (-1)) := by decide +kernel
theorem c_212_43 : pg_cd 212 43 = (90, 0, 0, 0, 0) := by decide +kernel
theorem c_212_44 : pg_cd 212 44 = (1, 3, 0, 0, 3428) := by decide +kernel
theorem c_212_47 : pg_cd 212 47 = (1, 2, 0, 0, 8) := by decide +kernel
theorem c_212_49 : pg_cd 212 49 = (5, 1, 0, 0, 0) := by decide +kernel
theorem c_212_50 : pg_cd 212 50 = (45, 12, 8, 0, 0) := by decide +kernel
theorem c_212_53 : pg_cd 212 53 = (1, 1, 0, 0, 2) := by decide +kernel
theorem c_212_54 : pg_cd 212 54 = (50, 1, 0, 0, 0) := by decide +kernel
theorem c_212_55 : pg_cd 212 55 = (12, 1, 0, 0, 0) := by decide +kernel
theorem c_212_56 : pg_cd 212 56 = (10, 1, 0, 0, 0) := by decide +kernel
theorem c_212_57 : pg_cd 212 57 = (6, 2, 0, 4, 0) := by decide +kernel
theorem c_212_59 : pg_cd 212 59 = (5, 1, 0, 0, 0) := by decide +kernel
theorem c_212_60 : pg_cd 212 60 = (45, 12, 8, 0, 0) := by decide +kernel
theorem c_212_63 : pg_cd 212 63 = (3, 2, 0, 4, 0) := by decide +kernel
theorem c_212_65 : pg_cd 212 65 = (3, 1, 0, 1, 0) := by decide +kernel
theorem c_212_66 : pg_cd 212 66 = (54, 1, 0, 0, 0) := by decide +kernel
theorem c_212_67 : pg_cd 212 67 = (5, 1, 0, 0, 0) := by decide +kernel
theorem c_212_68 : pg_cd 212 68 = (45, 12, 8, 0, 0) := by decide +kernel
theorem c_212_71 : pg_cd 212 71 = (3, 2, 0, 4, 0) := by decide +kernel
theorem c_212_73 : pg_cd 212 73 = (1, 1, 0, 0, 1) := by decide +kernel
theorem c_212_74 : pg_cd 212 74 = (10, 1, 0, 0, 0) := by decide +kernel
theorem c_212_75 : pg_cd 212 75 = (3, 1, 0, 2, 0) := by decide +kernel
theorem c_212_76 : pg_cd 212 76 = (54, 1, 0, 0, 0) := by decide +kernel
theorem c_212_77 : pg_cd 212 77 = (5, 1, 0, 0, 0) := by decide +kernel
theorem c_212_78 : pg_cd 212 78 = (45, 12, 8, 0, 0) := by decide +kernel
theorem c_212_81 : pg_cd 212 81 = (3, 2, 0, 4, 0) := by decide +kernel
theorem c_212_83 : pg_cd 212 83 = (1, 1, 0, 0, 2) := by decide +kernel
theorem c_212_84 : pg_cd 212 84 = (10, 1, 0, 0, 0) := by decide +kernel
theorem c_212_85 : pg_cd 212 85 = (3, 1, 0, 3, 0) := by decide +kernel
theorem c_212_86 : pg_cd 212 86 = (54, 1, 0, 0, 0) := by decide +kernel
theorem c_212_87 : pg_cd 212 87 = (5, 1, 0, 0, 0) := by decide +kernel
theorem c_212_88 : pg_cd 212 88 = (45, 12, 8, 0, 0) := by decide +kernel
theorem c_212_91 : pg_cd 212 91 = (1, 1, 0, 0, 2) := by decide +kernel
theorem c_212_92 : pg_cd 212 92 = (34, 1, 0, 0, 0) := by decide +kernel
theorem c_212_93 : pg_cd 212 93 = (50, 1, 0, 0, 0) := by decide +kernel
theorem c_212_94 : pg_cd 212 94 = (1, 1, 0, 0, 1) := by decide +kernel
theorem c_212_95 : pg_cd 212 95 = (10, 1, 0, 0, 0) := by decide +kernel
theorem c_212_96 : pg_cd 212 96 = (54, 1, 0, 0, 0) := by decide +kernel
theorem c_212_97 : pg_cd 212 97 = (5, 1, 0, 0, 0) := by decide +kernel
theorem c_212_98 : pg_cd 212 98 = (45, 12, 8, 0, 0) := by decide +kernel
theorem c_212_101 : pg_cd 212 101 = (1, 1, 0, 0, 2) := by decide +kernel
theorem c_212_102 : pg_cd 212 102 = (50, 1, 0, 0, 0) := by decide +kernel
theorem c_212_103 : pg_cd 212 103 = (1, 1, 0, 0, 1) := by decide +kernel
theorem c_212_104 : pg_cd 212 104 = (11, 1, 0, 0, 0) := by decide +kernel
theorem c_212_105 : pg_cd 212 105 = (90, 0, 0, 0, 0) := by decide +kernel
theorem mx_212 : pg_mx 212 = 5 := by decide +kernel
theorem m_212 {d : Nat} {h : ab_H} {Q : Option Value → ab_H → Prop} {x0 : Nat} {x1 : Int32} {x2 : Int32} {x3 : Int32} (t : wq d 212 0 [.ref x0, .int x1, .int x2, .int x3, .retAddr 0] [] h Q) : wm d 212 [.ref x0, .int x1, .int x2, .int x3] h Q := by
  unfold wm
  rw [mx_212]
  exact t
set_option maxRecDepth 20000 in
theorem t_212_0 {d : Nat} {h : ab_H} {Q : Option Value → ab_H → Prop} {x0 : Nat} {x1 : Int32} {x2 : Int32} {x3 : Int32} (t : wm d 196 [.int x1, .int 0, .int 100000] h (fun r9 h9 => wq (d + 1) 212 7 [.ref x0, .int x1, .int x2, .int x3, .retAddr 0] (r9.toList ++ []) h9 Q)) : wq (d + 1) 212 0 [.ref x0, .int x1, .int x2, .int x3, .retAddr 0] [] h Q := by
  refine g3 c_212_0 rfl ?_
  refine g1 c_212_1 k_0 ?_
  refine g1 c_212_2 k_100000 ?_
  exact g81 (As := [.int x1, .int 0, .int 100000]) (rest := []) c_212_4 rfl rfl (Nat.le_of_ble_eq_true rfl) (Nat.le_of_ble_eq_true rfl) t
set_option maxRecDepth 20000 in
theorem t_212_7 {d : Nat} {h : ab_H} {Q : Option Value → ab_H → Prop} {x0 : Nat} {x1 : Int32} {x2 : Int32} {x3 : Int32} {s0 : Int32} (t : if s0 = 0 then (Q (some (.int (-1))) h) else (wm d 196 [.int x2, .int 0, .int 400] h (fun r9 h9 => wq (d + 1) 212 18 [.ref x0, .int x1, .int x2, .int x3, .retAddr 0] (r9.toList ++ []) h9 Q))) : wq (d + 1) 212 7 [.ref x0, .int x1, .int x2, .int x3, .retAddr 0] [.int s0] h Q := by
  refine gif c_212_7 (gbr t rfl rfl (fun hc t => ?_) (fun hc t => ?_))
  · refine g1 c_212_42 k_m1 ?_
    exact g90 c_212_43 t
  · refine g3 c_212_10 rfl ?_
    refine g1 c_212_11 k_0 ?_
    refine g1 c_212_12 k_400 ?_
    exact g81 (As := [.int x2, .int 0, .int 400]) (rest := []) c_212_15 rfl rfl (Nat.le_of_ble_eq_true rfl) (Nat.le_of_ble_eq_true rfl) t
set_option maxRecDepth 20000 in
theorem t_212_18 {d : Nat} {h : ab_H} {Q : Option Value → ab_H → Prop} {x0 : Nat} {x1 : Int32} {x2 : Int32} {x3 : Int32} {s0 : Int32} (t : if s0 = 0 then (Q (some (.int (-1))) h) else (wm d 196 [.int x3, .int 0, .int 1000] h (fun r9 h9 => wq (d + 1) 212 29 [.ref x0, .int x1, .int x2, .int x3, .retAddr 0] (r9.toList ++ []) h9 Q))) : wq (d + 1) 212 18 [.ref x0, .int x1, .int x2, .int x3, .retAddr 0] [.int s0] h Q := by
  refine gif c_212_18 (gbr t rfl rfl (fun hc t => ?_) (fun hc t => ?_))
  · refine g1 c_212_42 k_m1 ?_
    exact g90 c_212_43 t
  · refine g3 c_212_21 rfl ?_
    refine g1 c_212_22 k_0 ?_
    refine g1 c_212_23 k_1000 ?_
    exact g81 (As := [.int x3, .int 0, .int 1000]) (rest := []) c_212_26 rfl rfl (Nat.le_of_ble_eq_true rfl) (Nat.le_of_ble_eq_true rfl) t
set_option maxRecDepth 20000 in
theorem t_212_29 {d : Nat} {h : ab_H} {Q : Option Value → ab_H → Prop} {x0 : Nat} {x1 : Int32} {x2 : Int32} {x3 : Int32} {s0 : Int32} (t : if s0 = 0 then (Q (some (.int (-1))) h) else (ab_ok h x0 112 = true ∧ ∃ j1 : Nat, ab_r h x0 0 = some j1 ∧ ((j1 = 0 ∨ ab_ok h j1 0 = true) ∧ ab_in (2 : Int32) (ab_s h j1).2 = true) ∧ if (ab_i h j1 (Int32.toNatClampNeg (2 : Int32))) = 4 then (Q (some (.int (-1))) h) else (ab_ok h x0 112 = true ∧ ∃ j2 : Nat, ab_r h x0 0 = some j2 ∧ ((j2 = 0 ∨ ab_ok h j2 0 = true) ∧ ab_in (2 : Int32) (ab_s h j2).2 = true) ∧ ∀ y3 : Int32, y3 = (3428 + (8 * (ab_i h j2 (Int32.toNatClampNeg (2 : Int32))))) → ab_ok h x0 112 = true ∧ ∃ j4 : Nat, ab_r h x0 0 = some j4 ∧ (ab_ok h j4 0 = true ∧ ab_in y3 (ab_s h j4).2 = true) ∧ ∀ h5 : ab_H, h5 = ab_pi h j4 (Int32.toNatClampNeg y3) x1 → ab_ok h5 x0 112 = true ∧ ∃ j6 : Nat, ab_r h5 x0 0 = some j6 ∧ (ab_ok h5 j6 0 = true ∧ ab_in (y3 + 1) (ab_s h5 j6).2 = true) ∧ ∀ h7 : ab_H, h7 = ab_pi h5 j6 (Int32.toNatClampNeg (y3 + 1)) x2 → ab_ok h7 x0 112 = true ∧ ∃ j8 : Nat, ab_r h7 x0 0 = some j8 ∧ (ab_ok h7 j8 0 = true ∧ ab_in (y3 + 2) (ab_s h7 j8).2 = true) ∧ ∀ h9 : ab_H, h9 = ab_pi h7 j8 (Int32.toNatClampNeg (y3 + 2)) x3 → ab_ok h9 x0 112 = true ∧ ∃ j10 : Nat, ab_r h9 x0 0 = some j10 ∧ ((j10 = 0 ∨ ab_ok h9 j10 0 = true) ∧ ab_in (2 : Int32) (ab_s h9 j10).2 = true) ∧ (ab_ok h9 j10 0 = true ∧ ab_in (2 : Int32) (ab_s h9 j10).2 = true) ∧ ∀ h11 : ab_H, h11 = ab_pi h9 j10 (Int32.toNatClampNeg (2 : Int32)) ((ab_i h9 j10 (Int32.toNatClampNeg (2 : Int32))) + 1) → ab_ok h11 x0 112 = true ∧ ∃ j12 : Nat, ab_r h11 x0 0 = some j12 ∧ ((j12 = 0 ∨ ab_ok h11 j12 0 = true) ∧ ab_in (2 : Int32) (ab_s h11 j12).2 = true) ∧ Q (some (.int ((ab_i h11 j12 (Int32.toNatClampNeg (2 : Int32))) - 1))) h11))) : wq d 212 29 [.ref x0, .int x1, .int x2, .int x3, .retAddr 0] [.int s0] h Q := by
  refine gif c_212_29 (gbr t rfl rfl (fun hc t => ?_) (fun hc t => ?_))
  · refine g1 c_212_42 k_m1 ?_
    exact g90 c_212_43 t
  · refine g5 c_212_32 rfl ?_
    obtain ⟨ho, j1, hr, t⟩ := t
    refine g45 c_212_33 ho hr ?_
    refine g1 c_212_36 k_2 ?_
    obtain ⟨ho, t⟩ := t
    refine g50 c_212_37 ho ?_
    refine g1 c_212_38 k_4 ?_
    refine gcm c_212_39 (gbn t (ab_c1 _ _) rfl (fun hc t => ?_) (fun hc t => ?_))
    · refine g1 c_212_42 k_m1 ?_
      exact g90 c_212_43 t
    · refine g1 c_212_44 k_3428 ?_
      refine g1 c_212_47 k_8 ?_
      refine g5 c_212_49 rfl ?_
      obtain ⟨ho, j2, hr, t⟩ := t
      refine g45 c_212_50 ho hr ?_
      refine g1 c_212_53 k_2 ?_
      obtain ⟨ho, t⟩ := t
      refine g50 c_212_54 ho ?_
      refine g12 c_212_55 ?_
      refine g10 c_212_56 ?_
      refine g6y (Lf := fun y3 => [.ref x0, .int x1, .int x2, .int x3, .int y3]) c_212_57 (fun _ => rfl) (fun y3 ey3 => ?_)
      have t := t y3 ey3
      refine g5 c_212_59 rfl ?_
      obtain ⟨ho, j4, hr, t⟩ := t
      refine g45 c_212_60 ho hr ?_
      refine g3 c_212_63 rfl ?_
      refine g3 c_212_65 rfl ?_
      obtain ⟨ho, t⟩ := t
      refine g54 c_212_66 ho (fun h5 eh5 => ?_)
      have t := t h5 eh5
      refine g5 c_212_67 rfl ?_
      obtain ⟨ho, j6, hr, t⟩ := t
      refine g45 c_212_68 ho hr ?_
      refine g3 c_212_71 rfl ?_
      refine g1 c_212_73 k_1 ?_
      refine g10 c_212_74 ?_
      refine g3 c_212_75 rfl ?_
      obtain ⟨ho, t⟩ := t
      refine g54 c_212_76 ho (fun h7 eh7 => ?_)
      have t := t h7 eh7
      refine g5 c_212_77 rfl ?_
      obtain ⟨ho, j8, hr, t⟩ := t
      refine g45 c_212_78 ho hr ?_
      refine g3 c_212_81 rfl ?_
      refine g1 c_212_83 k_2 ?_
      refine g10 c_212_84 ?_
      refine g3 c_212_85 rfl ?_
      obtain ⟨ho, t⟩ := t
      refine g54 c_212_86 ho (fun h9 eh9 => ?_)
      have t := t h9 eh9
      refine g5 c_212_87 rfl ?_
      obtain ⟨ho, j10, hr, t⟩ := t
      refine g45 c_212_88 ho hr ?_
      refine g1 c_212_91 k_2 ?_
      refine g34a c_212_92 ?_
      obtain ⟨ho, t⟩ := t
      refine g50 c_212_93 ho ?_
      refine g1 c_212_94 k_1 ?_
      refine g10 c_212_95 ?_
      obtain ⟨ho, t⟩ := t
      refine g54 c_212_96 ho (fun h11 eh11 => ?_)
      have t := t h11 eh11
      refine g5 c_212_97 rfl ?_
      obtain ⟨ho, j12, hr, t⟩ := t
      refine g45 c_212_98 ho hr ?_
      refine g1 c_212_101 k_2 ?_
      obtain ⟨ho, t⟩ := t
      refine g50 c_212_102 ho ?_
      refine g1 c_212_103 k_1 ?_
      refine g11 c_212_104 ?_
      exact g90 c_212_105 t
-- method 213: MillTownModel.home(II)I
theorem c_213_0 : pg_cd 213 0 = (3, 1, 0, 1, 0) := by decide +kernel
theorem c_213_1 : pg_cd 213 1 = (1, 1, 0, 0, 0) := by decide +kernel
theorem c_213_2 : pg_cd 213 2 = (5, 1, 0, 0, 0) := by decide +kernel
theorem c_213_3 : pg_cd 213 3 = (45, 12, 8, 0, 0) := by decide +kernel
theorem c_213_6 : pg_cd 213 6 = (1, 1, 0, 0, 2) := by decide +kernel
theorem c_213_7 : pg_cd 213 7 = (50, 1, 0, 0, 0) := by decide +kernel
theorem c_213_8 : pg_cd 213 8 = (1, 1, 0, 0, 1) := by decide +kernel
theorem c_213_9 : pg_cd 213 9 = (11, 1, 0, 0, 0) := by decide +kernel
theorem c_213_10 : pg_cd 213 10 = (81, 196, 76, 0, 0) := by decide +kernel
theorem c_213_13 : pg_cd 213 13 = (36, 3, 0, 0, 25) := by decide +kernel
theorem c_213_16 : pg_cd 213 16 = (3, 1, 0, 2, 0) := by decide +kernel
theorem c_213_17 : pg_cd 213 17 = (1, 1, 0, 0, 0) := by decide +kernel
theorem c_213_18 : pg_cd 213 18 = (1, 3, 0, 0, 10000) := by decide +kernel
theorem c_213_21 : pg_cd 213 21 = (81, 196, 76, 0, 0) := by decide +kernel
theorem c_213_24 : pg_cd 213 24 = (36, 3, 0, 0, 14) := by decide +kernel
theorem c_213_27 : pg_cd 213 27 = (5, 1, 0, 0, 0) := by decide +kernel
theorem c_213_28 : pg_cd 213 28 = (45, 12, 8, 0, 0) := by decide +kernel
theorem c_213_31 : pg_cd 213 31 = (1, 1, 0, 0, 3) := by decide +kernel
theorem c_213_32 : pg_cd 213 32 = (50, 1, 0, 0, 0) := by decide +kernel
theorem c_213_33 : pg_cd 213 33 = (1, 2, 0, 0, 24) := by decide +kernel
theorem c_213_35 : pg_cd 213 35 = (37, 3, 0, 1, 5) := by decide +kernel
theorem c_213_38 : pg_cd 213 38 = (1, 1, 0, 0, (-1)) := by decide +kernel
theorem c_213_39 : pg_cd 213 39 = (90, 0, 0, 0, 0) := by decide +kernel
theorem c_213_40 : pg_cd 213 40 = (1, 3, 0, 0, 3460) := by decide +kernel
theorem c_213_43 : pg_cd 213 43 = (1, 2, 0, 0, 8) := by decide +kernel
theorem c_213_45 : pg_cd 213 45 = (5, 1, 0, 0, 0) := by decide +kernel
theorem c_213_46 : pg_cd 213 46 = (45, 12, 8, 0, 0) := by decide +kernel
theorem c_213_49 : pg_cd 213 49 = (1, 1, 0, 0, 3) := by decide +kernel
theorem c_213_50 : pg_cd 213 50 = (50, 1, 0, 0, 0) := by decide +kernel
theorem c_213_51 : pg_cd 213 51 = (12, 1, 0, 0, 0) := by decide +kernel
theorem c_213_52 : pg_cd 213 52 = (10, 1, 0, 0, 0) := by decide +kernel
theorem c_213_53 : pg_cd 213 53 = (6, 1, 0, 3, 0) := by decide +kernel
theorem c_213_54 : pg_cd 213 54 = (5, 1, 0, 0, 0) := by decide +kernel
theorem c_213_55 : pg_cd 213 55 = (45, 12, 8, 0, 0) := by decide +kernel
theorem c_213_58 : pg_cd 213 58 = (3, 1, 0, 3, 0) := by decide +kernel
theorem c_213_59 : pg_cd 213 59 = (1, 1, 0, 0, 0) := by decide +kernel
theorem c_213_60 : pg_cd 213 60 = (10, 1, 0, 0, 0) := by decide +kernel
theorem c_213_61 : pg_cd 213 61 = (3, 1, 0, 1, 0) := by decide +kernel
theorem c_213_62 : pg_cd 213 62 = (54, 1, 0, 0, 0) := by decide +kernel
theorem c_213_63 : pg_cd 213 63 = (5, 1, 0, 0, 0) := by decide +kernel
theorem c_213_64 : pg_cd 213 64 = (45, 12, 8, 0, 0) := by decide +kernel
theorem c_213_67 : pg_cd 213 67 = (3, 1, 0, 3, 0) := by decide +kernel
theorem c_213_68 : pg_cd 213 68 = (1, 1, 0, 0, 1) := by decide +kernel
theorem c_213_69 : pg_cd 213 69 = (10, 1, 0, 0, 0) := by decide +kernel
theorem c_213_70 : pg_cd 213 70 = (3, 1, 0, 2, 0) := by decide +kernel
theorem c_213_71 : pg_cd 213 71 = (54, 1, 0, 0, 0) := by decide +kernel
theorem c_213_72 : pg_cd 213 72 = (5, 1, 0, 0, 0) := by decide +kernel
theorem c_213_73 : pg_cd 213 73 = (45, 12, 8, 0, 0) := by decide +kernel
theorem c_213_76 : pg_cd 213 76 = (1, 1, 0, 0, 3) := by decide +kernel
theorem c_213_77 : pg_cd 213 77 = (34, 1, 0, 0, 0) := by decide +kernel
theorem c_213_78 : pg_cd 213 78 = (50, 1, 0, 0, 0) := by decide +kernel
theorem c_213_79 : pg_cd 213 79 = (1, 1, 0, 0, 1) := by decide +kernel
theorem c_213_80 : pg_cd 213 80 = (10, 1, 0, 0, 0) := by decide +kernel
theorem c_213_81 : pg_cd 213 81 = (54, 1, 0, 0, 0) := by decide +kernel
theorem c_213_82 : pg_cd 213 82 = (5, 1, 0, 0, 0) := by decide +kernel
theorem c_213_83 : pg_cd 213 83 = (45, 12, 8, 0, 0) := by decide +kernel
theorem c_213_86 : pg_cd 213 86 = (1, 1, 0, 0, 3) := by decide +kernel
theorem c_213_87 : pg_cd 213 87 = (50, 1, 0, 0, 0) := by decide +kernel
theorem c_213_88 : pg_cd 213 88 = (1, 1, 0, 0, 1) := by decide +kernel
theorem c_213_89 : pg_cd 213 89 = (11, 1, 0, 0, 0) := by decide +kernel
theorem c_213_90 : pg_cd 213 90 = (90, 0, 0, 0, 0) := by decide +kernel
theorem mx_213 : pg_mx 213 = 4 := by decide +kernel
theorem m_213 {d : Nat} {h : ab_H} {Q : Option Value → ab_H → Prop} {x0 : Nat} {x1 : Int32} {x2 : Int32} (t : wq d 213 0 [.ref x0, .int x1, .int x2, .retAddr 0] [] h Q) : wm d 213 [.ref x0, .int x1, .int x2] h Q := by
  unfold wm
  rw [mx_213]
  exact t
set_option maxRecDepth 20000 in
theorem t_213_0 {d : Nat} {h : ab_H} {Q : Option Value → ab_H → Prop} {x0 : Nat} {x1 : Int32} {x2 : Int32} (t : ab_ok h x0 112 = true ∧ ∃ j1 : Nat, ab_r h x0 0 = some j1 ∧ ((j1 = 0 ∨ ab_ok h j1 0 = true) ∧ ab_in (2 : Int32) (ab_s h j1).2 = true) ∧ wm d 196 [.int x1, .int 0, .int ((ab_i h j1 (Int32.toNatClampNeg (2 : Int32))) - 1)] h (fun r9 h9 => wq (d + 1) 213 13 [.ref x0, .int x1, .int x2, .retAddr 0] (r9.toList ++ []) h9 Q)) : wq (d + 1) 213 0 [.ref x0, .int x1, .int x2, .retAddr 0] [] h Q := by
  refine g3 c_213_0 rfl ?_
  refine g1 c_213_1 k_0 ?_
  refine g5 c_213_2 rfl ?_
  obtain ⟨ho, j1, hr, t⟩ := t
  refine g45 c_213_3 ho hr ?_
  refine g1 c_213_6 k_2 ?_
  obtain ⟨ho, t⟩ := t
  refine g50 c_213_7 ho ?_
  refine g1 c_213_8 k_1 ?_
  refine g11 c_213_9 ?_
  exact g81 (As := [.int x1, .int 0, .int ((ab_i h j1 (Int32.toNatClampNeg (2 : Int32))) - 1)]) (rest := []) c_213_10 rfl rfl (Nat.le_of_ble_eq_true rfl) (Nat.le_of_ble_eq_true rfl) t
set_option maxRecDepth 20000 in
theorem t_213_13 {d : Nat} {h : ab_H} {Q : Option Value → ab_H → Prop} {x0 : Nat} {x1 : Int32} {x2 : Int32} {s0 : Int32} (t : if s0 = 0 then (Q (some (.int (-1))) h) else (wm d 196 [.int x2, .int 0, .int 10000] h (fun r9 h9 => wq (d + 1) 213 24 [.ref x0, .int x1, .int x2, .retAddr 0] (r9.toList ++ []) h9 Q))) : wq (d + 1) 213 13 [.ref x0, .int x1, .int x2, .retAddr 0] [.int s0] h Q := by
  refine gif c_213_13 (gbr t rfl rfl (fun hc t => ?_) (fun hc t => ?_))
  · refine g1 c_213_38 k_m1 ?_
    exact g90 c_213_39 t
  · refine g3 c_213_16 rfl ?_
    refine g1 c_213_17 k_0 ?_
    refine g1 c_213_18 k_10000 ?_
    exact g81 (As := [.int x2, .int 0, .int 10000]) (rest := []) c_213_21 rfl rfl (Nat.le_of_ble_eq_true rfl) (Nat.le_of_ble_eq_true rfl) t
set_option maxRecDepth 20000 in
theorem t_213_24 {d : Nat} {h : ab_H} {Q : Option Value → ab_H → Prop} {x0 : Nat} {x1 : Int32} {x2 : Int32} {s0 : Int32} (t : if s0 = 0 then (Q (some (.int (-1))) h) else (ab_ok h x0 112 = true ∧ ∃ j1 : Nat, ab_r h x0 0 = some j1 ∧ ((j1 = 0 ∨ ab_ok h j1 0 = true) ∧ ab_in (3 : Int32) (ab_s h j1).2 = true) ∧ if (ab_i h j1 (Int32.toNatClampNeg (3 : Int32))) = 24 then (Q (some (.int (-1))) h) else (ab_ok h x0 112 = true ∧ ∃ j2 : Nat, ab_r h x0 0 = some j2 ∧ ((j2 = 0 ∨ ab_ok h j2 0 = true) ∧ ab_in (3 : Int32) (ab_s h j2).2 = true) ∧ ∀ y3 : Int32, y3 = (3460 + (8 * (ab_i h j2 (Int32.toNatClampNeg (3 : Int32))))) → ab_ok h x0 112 = true ∧ ∃ j4 : Nat, ab_r h x0 0 = some j4 ∧ (ab_ok h j4 0 = true ∧ ab_in (y3 + 0) (ab_s h j4).2 = true) ∧ ∀ h5 : ab_H, h5 = ab_pi h j4 (Int32.toNatClampNeg (y3 + 0)) x1 → ab_ok h5 x0 112 = true ∧ ∃ j6 : Nat, ab_r h5 x0 0 = some j6 ∧ (ab_ok h5 j6 0 = true ∧ ab_in (y3 + 1) (ab_s h5 j6).2 = true) ∧ ∀ h7 : ab_H, h7 = ab_pi h5 j6 (Int32.toNatClampNeg (y3 + 1)) x2 → ab_ok h7 x0 112 = true ∧ ∃ j8 : Nat, ab_r h7 x0 0 = some j8 ∧ ((j8 = 0 ∨ ab_ok h7 j8 0 = true) ∧ ab_in (3 : Int32) (ab_s h7 j8).2 = true) ∧ (ab_ok h7 j8 0 = true ∧ ab_in (3 : Int32) (ab_s h7 j8).2 = true) ∧ ∀ h9 : ab_H, h9 = ab_pi h7 j8 (Int32.toNatClampNeg (3 : Int32)) ((ab_i h7 j8 (Int32.toNatClampNeg (3 : Int32))) + 1) → ab_ok h9 x0 112 = true ∧ ∃ j10 : Nat, ab_r h9 x0 0 = some j10 ∧ ((j10 = 0 ∨ ab_ok h9 j10 0 = true) ∧ ab_in (3 : Int32) (ab_s h9 j10).2 = true) ∧ Q (some (.int ((ab_i h9 j10 (Int32.toNatClampNeg (3 : Int32))) - 1))) h9))) : wq d 213 24 [.ref x0, .int x1, .int x2, .retAddr 0] [.int s0] h Q := by
  refine gif c_213_24 (gbr t rfl rfl (fun hc t => ?_) (fun hc t => ?_))
  · refine g1 c_213_38 k_m1 ?_
    exact g90 c_213_39 t
  · refine g5 c_213_27 rfl ?_
    obtain ⟨ho, j1, hr, t⟩ := t
    refine g45 c_213_28 ho hr ?_
    refine g1 c_213_31 k_3 ?_
    obtain ⟨ho, t⟩ := t
    refine g50 c_213_32 ho ?_
    refine g1 c_213_33 k_24 ?_
    refine gcm c_213_35 (gbn t (ab_c1 _ _) rfl (fun hc t => ?_) (fun hc t => ?_))
    · refine g1 c_213_38 k_m1 ?_
      exact g90 c_213_39 t
    · refine g1 c_213_40 k_3460 ?_
      refine g1 c_213_43 k_8 ?_
      refine g5 c_213_45 rfl ?_
      obtain ⟨ho, j2, hr, t⟩ := t
      refine g45 c_213_46 ho hr ?_
      refine g1 c_213_49 k_3 ?_
      obtain ⟨ho, t⟩ := t
      refine g50 c_213_50 ho ?_
      refine g12 c_213_51 ?_
      refine g10 c_213_52 ?_
      refine g6y (Lf := fun y3 => [.ref x0, .int x1, .int x2, .int y3]) c_213_53 (fun _ => rfl) (fun y3 ey3 => ?_)
      have t := t y3 ey3
      refine g5 c_213_54 rfl ?_
      obtain ⟨ho, j4, hr, t⟩ := t
      refine g45 c_213_55 ho hr ?_
      refine g3 c_213_58 rfl ?_
      refine g1 c_213_59 k_0 ?_
      refine g10 c_213_60 ?_
      refine g3 c_213_61 rfl ?_
      obtain ⟨ho, t⟩ := t
      refine g54 c_213_62 ho (fun h5 eh5 => ?_)
      have t := t h5 eh5
      refine g5 c_213_63 rfl ?_
      obtain ⟨ho, j6, hr, t⟩ := t
      refine g45 c_213_64 ho hr ?_
      refine g3 c_213_67 rfl ?_
      refine g1 c_213_68 k_1 ?_
      refine g10 c_213_69 ?_
      refine g3 c_213_70 rfl ?_
      obtain ⟨ho, t⟩ := t
      refine g54 c_213_71 ho (fun h7 eh7 => ?_)
      have t := t h7 eh7
      refine g5 c_213_72 rfl ?_
      obtain ⟨ho, j8, hr, t⟩ := t
      refine g45 c_213_73 ho hr ?_
      refine g1 c_213_76 k_3 ?_
      refine g34a c_213_77 ?_
      obtain ⟨ho, t⟩ := t
      refine g50 c_213_78 ho ?_
      refine g1 c_213_79 k_1 ?_
      refine g10 c_213_80 ?_
      obtain ⟨ho, t⟩ := t
      refine g54 c_213_81 ho (fun h9 eh9 => ?_)
      have t := t h9 eh9
      refine g5 c_213_82 rfl ?_
      obtain ⟨ho, j10, hr, t⟩ := t
      refine g45 c_213_83 ho hr ?_
      refine g1 c_213_86 k_3 ?_
      obtain ⟨ho, t⟩ := t
      refine g50 c_213_87 ho ?_
      refine g1 c_213_88 k_1 ?_
      refine g11 c_213_89 ?_
      exact g90 c_213_90 t
-- method 214: MillTownModel.person(III)I
theorem c_214_0 : pg_cd 214 0 = (5, 1, 0, 0, 0) := by decide +kernel
theorem c_214_1 : pg_cd 214 1 = (3, 1, 0, 1, 0) := by decide +kernel
theorem c_214_2 : pg_cd 214 2 = (80, 202, 96, 0, 0) := by decide +kernel
theorem c_214_5 : pg_cd 214 5 = (36, 3, 0, 0, 44) := by decide +kernel
theorem c_214_8 : pg_cd 214 8 = (5, 1, 0, 0, 0) := by decide +kernel
theorem c_214_9 : pg_cd 214 9 = (3, 1, 0, 1, 0) := by decide +kernel
theorem c_214_10 : pg_cd 214 10 = (1, 1, 0, 0, 3) := by decide +kernel
theorem c_214_11 : pg_cd 214 11 = (80, 200, 99, 0, 0) := by decide +kernel
theorem c_214_14 : pg_cd 214 14 = (1, 1, 0, 0, 1) := by decide +kernel
theorem c_214_15 : pg_cd 214 15 = (37, 3, 0, 0, 34) := by decide +kernel
theorem c_214_18 : pg_cd 214 18 = (3, 1, 0, 2, 0) := by decide +kernel
theorem c_214_19 : pg_cd 214 19 = (1, 1, 0, 0, 5) := by decide +kernel
theorem c_214_20 : pg_cd 214 20 = (1, 2, 0, 0, 80) := by decide +kernel
theorem c_214_22 : pg_cd 214 22 = (81, 196, 76, 0, 0) := by decide +kernel
theorem c_214_25 : pg_cd 214 25 = (36, 3, 0, 0, 24) := by decide +kernel
theorem c_214_28 : pg_cd 214 28 = (3, 1, 0, 3, 0) := by decide +kernel
theorem c_214_29 : pg_cd 214 29 = (1, 1, 0, 0, 1) := by decide +kernel
theorem c_214_30 : pg_cd 214 30 = (1, 2, 0, 0, 10) := by decide +kernel
theorem c_214_32 : pg_cd 214 32 = (81, 196, 76, 0, 0) := by decide +kernel
theorem c_214_35 : pg_cd 214 35 = (36, 3, 0, 0, 14) := by decide +kernel
theorem c_214_38 : pg_cd 214 38 = (5, 1, 0, 0, 0) := by decide +kernel
theorem c_214_39 : pg_cd 214 39 = (45, 12, 8, 0, 0) := by decide +kernel
theorem c_214_42 : pg_cd 214 42 = (1, 1, 0, 0, 4) := by decide +kernel
theorem c_214_43 : pg_cd 214 43 = (50, 1, 0, 0, 0) := by decide +kernel
theorem c_214_44 : pg_cd 214 44 = (1, 2, 0, 0, 60) := by decide +kernel
theorem c_214_46 : pg_cd 214 46 = (37, 3, 0, 1, 5) := by decide +kernel
theorem c_214_49 : pg_cd 214 49 = (1, 1, 0, 0, (-1)) := by decide +kernel
theorem c_214_50 : pg_cd 214 50 = (90, 0, 0, 0, 0) := by decide +kernel
theorem c_214_51 : pg_cd 214 51 = (1, 3, 0, 0, 3652) := by decide +kernel
theorem c_214_54 : pg_cd 214 54 = (1, 2, 0, 0, 12) := by decide +kernel
theorem c_214_56 : pg_cd 214 56 = (5, 1, 0, 0, 0) := by decide +kernel
theorem c_214_57 : pg_cd 214 57 = (45, 12, 8, 0, 0) := by decide +kernel
theorem c_214_60 : pg_cd 214 60 = (1, 1, 0, 0, 4) := by decide +kernel
theorem c_214_61 : pg_cd 214 61 = (50, 1, 0, 0, 0) := by decide +kernel
theorem c_214_62 : pg_cd 214 62 = (12, 1, 0, 0, 0) := by decide +kernel
theorem c_214_63 : pg_cd 214 63 = (10, 1, 0, 0, 0) := by decide +kernel
theorem c_214_64 : pg_cd 214 64 = (6, 2, 0, 4, 0) := by decide +kernel
theorem c_214_66 : pg_cd 214 66 = (5, 1, 0, 0, 0) := by decide +kernel
theorem c_214_67 : pg_cd 214 67 = (45, 12, 8, 0, 0) := by decide +kernel
theorem c_214_70 : pg_cd 214 70 = (3, 2, 0, 4, 0) := by decide +kernel
theorem c_214_72 : pg_cd 214 72 = (1, 1, 0, 0, 0) := by decide +kernel
theorem c_214_73 : pg_cd 214 73 = (10, 1, 0, 0, 0) := by decide +kernel
theorem c_214_74 : pg_cd 214 74 = (3, 1, 0, 1, 0) := by decide +kernel
theorem c_214_75 : pg_cd 214 75 = (54, 1, 0, 0, 0) := by decide +kernel
theorem c_214_76 : pg_cd 214 76 = (5, 1, 0, 0, 0) := by decide +kernel
theorem c_214_77 : pg_cd 214 77 = (45, 12, 8, 0, 0) := by decide +kernel
theorem c_214_80 : pg_cd 214 80 = (3, 2, 0, 4, 0) := by decide +kernel
theorem c_214_82 : pg_cd 214 82 = (1, 1, 0, 0, 1) := by decide +kernel
theorem c_214_83 : pg_cd 214 83 = (10, 1, 0, 0, 0) := by decide +kernel
theorem c_214_84 : pg_cd 214 84 = (3, 1, 0, 2, 0) := by decide +kernel
theorem c_214_85 : pg_cd 214 85 = (54, 1, 0, 0, 0) := by decide +kernel
theorem c_214_86 : pg_cd 214 86 = (5, 1, 0, 0, 0) := by decide +kernel
theorem c_214_87 : pg_cd 214 87 = (45, 12, 8, 0, 0) := by decide +kernel
theorem c_214_90 : pg_cd 214 90 = (3, 2, 0, 4, 0) := by decide +kernel
theorem c_214_92 : pg_cd 214 92 = (1, 1, 0, 0, 2) := by decide +kernel
theorem c_214_93 : pg_cd 214 93 = (10, 1, 0, 0, 0) := by decide +kernel
theorem c_214_94 : pg_cd 214 94 = (3, 1, 0, 3, 0) := by decide +kernel
theorem c_214_95 : pg_cd 214 95 = (54, 1, 0, 0, 0) := by decide +kernel
theorem c_214_96 : pg_cd 214 96 = (5, 1, 0, 0, 0) := by decide +kernel
theorem c_214_97 : pg_cd 214 97 = (45, 12, 8, 0, 0) := by decide +kernel
theorem c_214_100 : pg_cd 214 100 = (3, 2, 0, 4, 0) := by decide +kernel
theorem c_214_102 : pg_cd 214 102 = (1, 1, 0, 0, 4) := by decide +kernel
theorem c_214_103 : pg_cd 214 103 = (10, 1, 0, 0, 0) := by decide +kernel
theorem c_214_104 : pg_cd 214 104 = (1, 1, 0, 0, (-1)) := by decide +kernel
theorem c_214_105 : pg_cd 214 105 = (54, 1, 0, 0, 0) := by decide +kernel
theorem c_214_106 : pg_cd 214 106 = (5, 1, 0, 0, 0) := by decide +kernel
theorem c_214_107 : pg_cd 214 107 = (45, 12, 8, 0, 0) := by decide +kernel
theorem c_214_110 : pg_cd 214 110 = (3, 2, 0, 4, 0) := by decide +kernel
theorem c_214_112 : pg_cd 214 112 = (1, 2, 0, 0, 6) := by decide +kernel
theorem c_214_114 : pg_cd 214 114 = (10, 1, 0, 0, 0) := by decide +kernel
theorem c_214_115 : pg_cd 214 115 = (1, 1, 0, 0, (-1)) := by decide +kernel
theorem c_214_116 : pg_cd 214 116 = (54, 1, 0, 0, 0) := by decide +kernel
theorem c_214_117 : pg_cd 214 117 = (5, 1, 0, 0, 0) := by decide +kernel
theorem c_214_118 : pg_cd 214 118 = (45, 12, 8, 0, 0) := by decide +kernel
theorem c_214_121 : pg_cd 214 121 = (1, 1, 0, 0, 4) := by decide +kernel
theorem c_214_122 : pg_cd 214 122 = (34, 1, 0, 0, 0) := by decide +kernel
theorem c_214_123 : pg_cd 214 123 = (50, 1, 0, 0, 0) := by decide +kernel
theorem c_214_124 : pg_cd 214 124 = (1, 1, 0, 0, 1) := by decide +kernel
theorem c_214_125 : pg_cd 214 125 = (10, 1, 0, 0, 0) := by decide +kernel
theorem c_214_126 : pg_cd 214 126 = (54, 1, 0, 0, 0) := by decide +kernel
theorem c_214_127 : pg_cd 214 127 = (5, 1, 0, 0, 0) := by decide +kernel
theorem c_214_128 : pg_cd 214 128 = (45, 12, 8, 0, 0) := by decide +kernel
theorem c_214_131 : pg_cd 214 131 = (1, 1, 0, 0, 4) := by decide +kernel
theorem c_214_132 : pg_cd 214 132 = (50, 1, 0, 0, 0) := by decide +kernel
theorem c_214_133 : pg_cd 214 133 = (1, 1, 0, 0, 1) := by decide +kernel
theorem c_214_134 : pg_cd 214 134 = (11, 1, 0, 0, 0) := by decide +kernel
theorem c_214_135 : pg_cd 214 135 = (90, 0, 0, 0, 0) := by decide +kernel
theorem mx_214 : pg_mx 214 = 5 := by decide +kernel
theorem m_214 {d : Nat} {h : ab_H} {Q : Option Value → ab_H → Prop} {x0 : Nat} {x1 : Int32} {x2 : Int32} {x3 : Int32} (t : wq d 214 0 [.ref x0, .int x1, .int x2, .int x3, .retAddr 0] [] h Q) : wm d 214 [.ref x0, .int x1, .int x2, .int x3] h Q := by
  unfold wm
  rw [mx_214]
  exact t
set_option maxRecDepth 20000 in
theorem t_214_0 {d : Nat} {h : ab_H} {Q : Option Value → ab_H → Prop} {x0 : Nat} {x1 : Int32} {x2 : Int32} {x3 : Int32} (t : ab_ok h x0 112 = true ∧ wm d 202 [.ref x0, .int x1] h (fun r9 h9 => wq (d + 1) 214 5 [.ref x0, .int x1, .int x2, .int x3, .retAddr 0] (r9.toList ++ []) h9 Q)) : wq (d + 1) 214 0 [.ref x0, .int x1, .int x2, .int x3, .retAddr 0] [] h Q := by
  refine g5 c_214_0 rfl ?_
  refine g3 c_214_1 rfl ?_
  exact g80 (As := [.int x1]) (rest := []) c_214_2 rfl rfl (Nat.le_of_ble_eq_true rfl) (Nat.le_of_ble_eq_true rfl) t.1 t.2
set_option maxRecDepth 20000 in
theorem t_214_5 {d : Nat} {h : ab_H} {Q : Option Value → ab_H → Prop} {x0 : Nat} {x1 : Int32} {x2 : Int32} {x3 : Int32} {s0 : Int32} (t : if s0 = 0 then (Q (some (.int (-1))) h) else (ab_ok h x0 112 = true ∧ wm d 200 [.ref x0, .int x1, .int 3] h (fun r9 h9 => wq (d + 1) 214 14 [.ref x0, .int x1, .int x2, .int x3, .retAddr 0] (r9.toList ++ []) h9 Q))) : wq (d + 1) 214 5 [.ref x0, .int x1, .int x2, .int x3, .retAddr 0] [.int s0] h Q := by
  refine gif c_214_5 (gbr t rfl rfl (fun hc t => ?_) (fun hc t => ?_))
  · refine g1 c_214_49 k_m1 ?_
    exact g90 c_214_50 t
  · refine g5 c_214_8 rfl ?_
    refine g3 c_214_9 rfl ?_
    refine g1 c_214_10 k_3 ?_
    exact g80 (As := [.int x1, .int 3]) (rest := []) c_214_11 rfl rfl (Nat.le_of_ble_eq_true rfl) (Nat.le_of_ble_eq_true rfl) t.1 t.2
set_option maxRecDepth 20000 in
theorem t_214_14 {d : Nat} {h : ab_H} {Q : Option Value → ab_H → Prop} {x0 : Nat} {x1 : Int32} {x2 : Int32} {x3 : Int32} {s0 : Int32} (t : if s0 = 1 then (Q (some (.int (-1))) h) else (wm d 196 [.int x2, .int 5, .int 80] h (fun r9 h9 => wq (d + 1) 214 25 [.ref x0, .int x1, .int x2, .int x3, .retAddr 0] (r9.toList ++ []) h9 Q))) : wq (d + 1) 214 14 [.ref x0, .int x1, .int x2, .int x3, .retAddr 0] [.int s0] h Q := by
  refine g1 c_214_14 k_1 ?_
  refine gcm c_214_15 (gbr t rfl rfl (fun hc t => ?_) (fun hc t => ?_))
  · refine g1 c_214_49 k_m1 ?_
    exact g90 c_214_50 t
  · refine g3 c_214_18 rfl ?_
    refine g1 c_214_19 k_5 ?_
    refine g1 c_214_20 k_80 ?_
    exact g81 (As := [.int x2, .int 5, .int 80]) (rest := []) c_214_22 rfl rfl (Nat.le_of_ble_eq_true rfl) (Nat.le_of_ble_eq_true rfl) t
set_option maxRecDepth 20000 in
theorem t_214_25 {d : Nat} {h : ab_H} {Q : Option Value → ab_H → Prop} {x0 : Nat} {x1 : Int32} {x2 : Int32} {x3 : Int32} {s0 : Int32} (t : if s0 = 0 then (Q (some (.int (-1))) h) else (wm d 196 [.int x3, .int 1, .int 10] h (fun r9 h9 => wq (d + 1) 214 35 [.ref x0, .int x1, .int x2, .int x3, .retAddr 0] (r9.toList ++ []) h9 Q))) : wq (d + 1) 214 25 [.ref x0, .int x1, .int x2, .int x3, .retAddr 0] [.int s0] h Q := by
  refine gif c_214_25 (gbr t rfl rfl (fun hc t => ?_) (fun hc t => ?_))
  · refine g1 c_214_49 k_m1 ?_
    exact g90 c_214_50 t
  · refine g3 c_214_28 rfl ?_
    refine g1 c_214_29 k_1 ?_
    refine g1 c_214_30 k_10 ?_
    exact g81 (As := [.int x3, .int 1, .int 10]) (rest := []) c_214_32 rfl rfl (Nat.le_of_ble_eq_true rfl) (Nat.le_of_ble_eq_true rfl) t
set_option maxRecDepth 20000 in
theorem t_214_35 {d : Nat} {h : ab_H} {Q : Option Value → ab_H → Prop} {x0 : Nat} {x1 : Int32} {x2 : Int32} {x3 : Int32} {s0 : Int32} (t : if s0 = 0 then (Q (some (.int (-1))) h) else (ab_ok h x0 112 = true ∧ ∃ j1 : Nat, ab_r h x0 0 = some j1 ∧ ((j1 = 0 ∨ ab_ok h j1 0 = true) ∧ ab_in (4 : Int32) (ab_s h j1).2 = true) ∧ if (ab_i h j1 (Int32.toNatClampNeg (4 : Int32))) = 60 then (Q (some (.int (-1))) h) else (ab_ok h x0 112 = true ∧ ∃ j2 : Nat, ab_r h x0 0 = some j2 ∧ ((j2 = 0 ∨ ab_ok h j2 0 = true) ∧ ab_in (4 : Int32) (ab_s h j2).2 = true) ∧ ∀ y3 : Int32, y3 = (3652 + (12 * (ab_i h j2 (Int32.toNatClampNeg (4 : Int32))))) → ab_ok h x0 112 = true ∧ ∃ j4 : Nat, ab_r h x0 0 = some j4 ∧ (ab_ok h j4 0 = true ∧ ab_in (y3 + 0) (ab_s h j4).2 = true) ∧ ∀ h5 : ab_H, h5 = ab_pi h j4 (Int32.toNatClampNeg (y3 + 0)) x1 → ab_ok h5 x0 112 = true ∧ ∃ j6 : Nat, ab_r h5 x0 0 = some j6 ∧ (ab_ok h5 j6 0 = true ∧ ab_in (y3 + 1) (ab_s h5 j6).2 = true) ∧ ∀ h7 : ab_H, h7 = ab_pi h5 j6 (Int32.toNatClampNeg (y3 + 1)) x2 → ab_ok h7 x0 112 = true ∧ ∃ j8 : Nat, ab_r h7 x0 0 = some j8 ∧ (ab_ok h7 j8 0 = true ∧ ab_in (y3 + 2) (ab_s h7 j8).2 = true) ∧ ∀ h9 : ab_H, h9 = ab_pi h7 j8 (Int32.toNatClampNeg (y3 + 2)) x3 → ab_ok h9 x0 112 = true ∧ ∃ j10 : Nat, ab_r h9 x0 0 = some j10 ∧ (ab_ok h9 j10 0 = true ∧ ab_in (y3 + 4) (ab_s h9 j10).2 = true) ∧ ∀ h11 : ab_H, h11 = ab_pi h9 j10 (Int32.toNatClampNeg (y3 + 4)) (-1) → ab_ok h11 x0 112 = true ∧ ∃ j12 : Nat, ab_r h11 x0 0 = some j12 ∧ (ab_ok h11 j12 0 = true ∧ ab_in (y3 + 6) (ab_s h11 j12).2 = true) ∧ ∀ h13 : ab_H, h13 = ab_pi h11 j12 (Int32.toNatClampNeg (y3 + 6)) (-1) → ab_ok h13 x0 112 = true ∧ ∃ j14 : Nat, ab_r h13 x0 0 = some j14 ∧ ((j14 = 0 ∨ ab_ok h13 j14 0 = true) ∧ ab_in (4 : Int32) (ab_s h13 j14).2 = true) ∧ (ab_ok h13 j14 0 = true ∧ ab_in (4 : Int32) (ab_s h13 j14).2 = true) ∧ ∀ h15 : ab_H, h15 = ab_pi h13 j14 (Int32.toNatClampNeg (4 : Int32)) ((ab_i h13 j14 (Int32.toNatClampNeg (4 : Int32))) + 1) → ab_ok h15 x0 112 = true ∧ ∃ j16 : Nat, ab_r h15 x0 0 = some j16 ∧ ((j16 = 0 ∨ ab_ok h15 j16 0 = true) ∧ ab_in (4 : Int32) (ab_s h15 j16).2 = true) ∧ Q (some (.int ((ab_i h15 j16 (Int32.toNatClampNeg (4 : Int32))) - 1))) h15))) : wq d 214 35 [.ref x0, .int x1, .int x2, .int x3, .retAddr 0] [.int s0] h Q := by
  refine gif c_214_35 (gbr t rfl rfl (fun hc t => ?_) (fun hc t => ?_))
  · refine g1 c_214_49 k_m1 ?_
    exact g90 c_214_50 t
  · refine g5 c_214_38 rfl ?_
    obtain ⟨ho, j1, hr, t⟩ := t
    refine g45 c_214_39 ho hr ?_
    refine g1 c_214_42 k_4 ?_
    obtain ⟨ho, t⟩ := t
    refine g50 c_214_43 ho ?_
    refine g1 c_214_44 k_60 ?_
    refine gcm c_214_46 (gbn t (ab_c1 _ _) rfl (fun hc t => ?_) (fun hc t => ?_))
    · refine g1 c_214_49 k_m1 ?_
      exact g90 c_214_50 t
    · refine g1 c_214_51 k_3652 ?_
      refine g1 c_214_54 k_12 ?_
      refine g5 c_214_56 rfl ?_
      obtain ⟨ho, j2, hr, t⟩ := t
      refine g45 c_214_57 ho hr ?_
      refine g1 c_214_60 k_4 ?_
      obtain ⟨ho, t⟩ := t
      refine g50 c_214_61 ho ?_
      refine g12 c_214_62 ?_
      refine g10 c_214_63 ?_
      refine g6y (Lf := fun y3 => [.ref x0, .int x1, .int x2, .int x3, .int y3]) c_214_64 (fun _ => rfl) (fun y3 ey3 => ?_)
      have t := t y3 ey3
      refine g5 c_214_66 rfl ?_
      obtain ⟨ho, j4, hr, t⟩ := t
      refine g45 c_214_67 ho hr ?_
      refine g3 c_214_70 rfl ?_
      refine g1 c_214_72 k_0 ?_
      refine g10 c_214_73 ?_
      refine g3 c_214_74 rfl ?_
      obtain ⟨ho, t⟩ := t
      refine g54 c_214_75 ho (fun h5 eh5 => ?_)
      have t := t h5 eh5
      refine g5 c_214_76 rfl ?_
      obtain ⟨ho, j6, hr, t⟩ := t
      refine g45 c_214_77 ho hr ?_
      refine g3 c_214_80 rfl ?_
      refine g1 c_214_82 k_1 ?_
      refine g10 c_214_83 ?_
      refine g3 c_214_84 rfl ?_
      obtain ⟨ho, t⟩ := t
      refine g54 c_214_85 ho (fun h7 eh7 => ?_)
      have t := t h7 eh7
      refine g5 c_214_86 rfl ?_
      obtain ⟨ho, j8, hr, t⟩ := t
      refine g45 c_214_87 ho hr ?_
      refine g3 c_214_90 rfl ?_
      refine g1 c_214_92 k_2 ?_
      refine g10 c_214_93 ?_
      refine g3 c_214_94 rfl ?_
      obtain ⟨ho, t⟩ := t
      refine g54 c_214_95 ho (fun h9 eh9 => ?_)
      have t := t h9 eh9
      refine g5 c_214_96 rfl ?_
      obtain ⟨ho, j10, hr, t⟩ := t
      refine g45 c_214_97 ho hr ?_
      refine g3 c_214_100 rfl ?_
      refine g1 c_214_102 k_4 ?_
      refine g10 c_214_103 ?_
      refine g1 c_214_104 k_m1 ?_
      obtain ⟨ho, t⟩ := t
      refine g54 c_214_105 ho (fun h11 eh11 => ?_)
      have t := t h11 eh11
      refine g5 c_214_106 rfl ?_
      obtain ⟨ho, j12, hr, t⟩ := t
      refine g45 c_214_107 ho hr ?_
      refine g3 c_214_110 rfl ?_
      refine g1 c_214_112 k_6 ?_
      refine g10 c_214_114 ?_
      refine g1 c_214_115 k_m1 ?_
      obtain ⟨ho, t⟩ := t
      refine g54 c_214_116 ho (fun h13 eh13 => ?_)
      have t := t h13 eh13
      refine g5 c_214_117 rfl ?_
      obtain ⟨ho, j14, hr, t⟩ := t
      refine g45 c_214_118 ho hr ?_
      refine g1 c_214_121 k_4 ?_
      refine g34a c_214_122 ?_
      obtain ⟨ho, t⟩ := t
      refine g50 c_214_123 ho ?_
      refine g1 c_214_124 k_1 ?_
      refine g10 c_214_125 ?_
      obtain ⟨ho, t⟩ := t
      refine g54 c_214_126 ho (fun h15 eh15 => ?_)
      have t := t h15 eh15
      refine g5 c_214_127 rfl ?_
      obtain ⟨ho, j16, hr, t⟩ := t
      refine g45 c_214_128 ho hr ?_
      refine g1 c_214_131 k_4 ?_
      obtain ⟨ho, t⟩ := t
      refine g50 c_214_132 ho ?_
      refine g1 c_214_133 k_1 ?_
      refine g11 c_214_134 ?_
      exact g90 c_214_135 t
-- method 215: MillTownModel.had(II)I
theorem c_215_0 : pg_cd 215 0 = (1, 1, 0, 0, 0) := by decide +kernel
theorem c_215_1 : pg_cd 215 1 = (6, 1, 0, 3, 0) := by decide +kernel
theorem c_215_2 : pg_cd 215 2 = (1, 1, 0, 0, 0) := by decide +kernel
theorem c_215_3 : pg_cd 215 3 = (6, 2, 0, 4, 0) := by decide +kernel
theorem c_215_5 : pg_cd 215 5 = (3, 2, 0, 4, 0) := by decide +kernel
theorem c_215_7 : pg_cd 215 7 = (5, 1, 0, 0, 0) := by decide +kernel
theorem c_215_8 : pg_cd 215 8 = (45, 12, 8, 0, 0) := by decide +kernel
theorem c_215_11 : pg_cd 215 11 = (1, 1, 0, 0, 4) := by decide +kernel
theorem c_215_12 : pg_cd 215 12 = (50, 1, 0, 0, 0) := by decide +kernel
theorem c_215_13 : pg_cd 215 13 = (37, 3, 0, 3, 51) := by decide +kernel
theorem c_215_16 : pg_cd 215 16 = (3, 2, 0, 4, 0) := by decide +kernel
theorem c_215_18 : pg_cd 215 18 = (3, 1, 0, 2, 0) := by decide +kernel
theorem c_215_19 : pg_cd 215 19 = (37, 3, 0, 0, 39) := by decide +kernel
theorem c_215_22 : pg_cd 215 22 = (5, 1, 0, 0, 0) := by decide +kernel
theorem c_215_23 : pg_cd 215 23 = (3, 2, 0, 4, 0) := by decide +kernel
theorem c_215_25 : pg_cd 215 25 = (1, 1, 0, 0, 4) := by decide +kernel
theorem c_215_26 : pg_cd 215 26 = (80, 199, 102, 0, 0) := by decide +kernel
theorem c_215_29 : pg_cd 215 29 = (3, 1, 0, 1, 0) := by decide +kernel
theorem c_215_30 : pg_cd 215 30 = (37, 3, 0, 1, 28) := by decide +kernel
theorem c_215_33 : pg_cd 215 33 = (5, 1, 0, 0, 0) := by decide +kernel
theorem c_215_34 : pg_cd 215 34 = (3, 2, 0, 4, 0) := by decide +kernel
theorem c_215_36 : pg_cd 215 36 = (1, 1, 0, 0, 3) := by decide +kernel
theorem c_215_37 : pg_cd 215 37 = (80, 199, 102, 0, 0) := by decide +kernel
theorem c_215_40 : pg_cd 215 40 = (1, 1, 0, 0, 1) := by decide +kernel
theorem c_215_41 : pg_cd 215 41 = (1, 1, 0, 0, 2) := by decide +kernel
theorem c_215_42 : pg_cd 215 42 = (81, 196, 76, 0, 0) := by decide +kernel
theorem c_215_45 : pg_cd 215 45 = (36, 3, 0, 0, 13) := by decide +kernel
theorem c_215_48 : pg_cd 215 48 = (3, 1, 0, 3, 0) := by decide +kernel
theorem c_215_49 : pg_cd 215 49 = (5, 1, 0, 0, 0) := by decide +kernel
theorem c_215_50 : pg_cd 215 50 = (3, 2, 0, 4, 0) := by decide +kernel
theorem c_215_52 : pg_cd 215 52 = (1, 1, 0, 0, 5) := by decide +kernel
theorem c_215_53 : pg_cd 215 53 = (80, 199, 102, 0, 0) := by decide +kernel
theorem c_215_56 : pg_cd 215 56 = (10, 1, 0, 0, 0) := by decide +kernel
theorem c_215_57 : pg_cd 215 57 = (6, 1, 0, 3, 0) := by decide +kernel
theorem c_215_58 : pg_cd 215 58 = (9, 3, 0, 4, 1) := by decide +kernel
theorem c_215_61 : pg_cd 215 61 = (38, 3, 0, 0, (-56)) := by decide +kernel
theorem c_215_64 : pg_cd 215 64 = (3, 1, 0, 3, 0) := by decide +kernel
theorem c_215_65 : pg_cd 215 65 = (90, 0, 0, 0, 0) := by decide +kernel
theorem mx_215 : pg_mx 215 = 5 := by decide +kernel
theorem m_215 {d : Nat} {h : ab_H} {Q : Option Value → ab_H → Prop} {x0 : Nat} {x1 : Int32} {x2 : Int32} (t : wq d 215 0 [.ref x0, .int x1, .int x2, .retAddr 0, .retAddr 0] [] h Q) : wm d 215 [.ref x0, .int x1, .int x2] h Q := by
  unfold wm
  rw [mx_215]
  exact t
set_option maxRecDepth 20000 in
theorem t_215_0 {d : Nat} {h : ab_H} {Q : Option Value → ab_H → Prop} {x0 : Nat} {x1 : Int32} {x2 : Int32} (t : wq d 215 5 [.ref x0, .int x1, .int x2, .int 0, .int 0] [] h Q) : wq d 215 0 [.ref x0, .int x1, .int x2, .retAddr 0, .retAddr 0] [] h Q := by
  refine g1 c_215_0 k_0 ?_
  refine g6 (L' := [.ref x0, .int x1, .int x2, .int 0, .retAddr 0]) c_215_1 rfl ?_
  refine g1 c_215_2 k_0 ?_
  refine g6 (L' := [.ref x0, .int x1, .int x2, .int 0, .int 0]) c_215_3 rfl ?_
  exact t
set_option maxRecDepth 20000 in
theorem t_215_5 {d : Nat} {h : ab_H} {Q : Option Value → ab_H → Prop} {x0 : Nat} {x1 : Int32} {x2 : Int32} {x3 : Int32} {x4 : Int32} (t : ab_ok h x0 112 = true ∧ ∃ j1 : Nat, ab_r h x0 0 = some j1 ∧ ((j1 = 0 ∨ ab_ok h j1 0 = true) ∧ ab_in (4 : Int32) (ab_s h j1).2 = true) ∧ if (ab_i h j1 (Int32.toNatClampNeg (4 : Int32))) ≤ x4 then (Q (some (.int x3)) h) else (if x4 = x2 then (wq (d + 1) 215 5 [.ref x0, .int x1, .int x2, .int x3, .int (x4 + 1)] [] h Q) else (ab_ok h x0 112 = true ∧ wm d 199 [.ref x0, .int x4, .int 4] h (fun r9 h9 => wq (d + 1) 215 29 [.ref x0, .int x1, .int x2, .int x3, .int x4] (r9.toList ++ []) h9 Q)))) : wq (d + 1) 215 5 [.ref x0, .int x1, .int x2, .int x3, .int x4] [] h Q := by
  refine g3 c_215_5 rfl ?_
  refine g5 c_215_7 rfl ?_
  obtain ⟨ho, j1, hr, t⟩ := t
  refine g45 c_215_8 ho hr ?_
  refine g1 c_215_11 k_4 ?_
  obtain ⟨ho, t⟩ := t
  refine g50 c_215_12 ho ?_
  refine gcm c_215_13 (gbr t rfl rfl (fun hc t => ?_) (fun hc t => ?_))
  · refine g3 c_215_64 rfl ?_
    exact g90 c_215_65 t
  · refine g3 c_215_16 rfl ?_
    refine g3 c_215_18 rfl ?_
    refine gcm c_215_19 (gbr t rfl rfl (fun hc t => ?_) (fun hc t => ?_))
    · refine g9 (L' := [.ref x0, .int x1, .int x2, .int x3, .int (x4 + 1)]) c_215_58 rfl k_1 rfl ?_
      refine g38 c_215_61 rfl ?_
      exact t
    · refine g5 c_215_22 rfl ?_
      refine g3 c_215_23 rfl ?_
      refine g1 c_215_25 k_4 ?_
      exact g80 (As := [.int x4, .int 4]) (rest := []) c_215_26 rfl rfl (Nat.le_of_ble_eq_true rfl) (Nat.le_of_ble_eq_true rfl) t.1 t.2
set_option maxRecDepth 20000 in
theorem t_215_29 {d : Nat} {h : ab_H} {Q : Option Value → ab_H → Prop} {x0 : Nat} {x1 : Int32} {x2 : Int32} {x3 : Int32} {x4 : Int32} {s0 : Int32} (t : if s0 = x1 then (ab_ok h x0 112 = true ∧ wm d 199 [.ref x0, .int x4, .int 3] h (fun r9 h9 => wq (d + 1) 215 40 [.ref x0, .int x1, .int x2, .int x3, .int x4] (r9.toList ++ []) h9 Q)) else (wq (d + 1) 215 5 [.ref x0, .int x1, .int x2, .int x3, .int (x4 + 1)] [] h Q)) : wq (d + 1) 215 29 [.ref x0, .int x1, .int x2, .int x3, .int x4] [.int s0] h Q := by
  refine g3 c_215_29 rfl ?_
  refine gcm c_215_30 (gbn t (ab_c1 _ _) rfl (fun hc t => ?_) (fun hc t => ?_))
  · refine g5 c_215_33 rfl ?_
    refine g3 c_215_34 rfl ?_
    refine g1 c_215_36 k_3 ?_
    exact g80 (As := [.int x4, .int 3]) (rest := []) c_215_37 rfl rfl (Nat.le_of_ble_eq_true rfl) (Nat.le_of_ble_eq_true rfl) t.1 t.2
  · refine g9 (L' := [.ref x0, .int x1, .int x2, .int x3, .int (x4 + 1)]) c_215_58 rfl k_1 rfl ?_
    refine g38 c_215_61 rfl ?_
    exact t
set_option maxRecDepth 20000 in
theorem t_215_40 {d : Nat} {h : ab_H} {Q : Option Value → ab_H → Prop} {x0 : Nat} {x1 : Int32} {x2 : Int32} {x3 : Int32} {x4 : Int32} {s0 : Int32} (t : wm d 196 [.int s0, .int 1, .int 2] h (fun r9 h9 => wq (d + 1) 215 45 [.ref x0, .int x1, .int x2, .int x3, .int x4] (r9.toList ++ []) h9 Q)) : wq (d + 1) 215 40 [.ref x0, .int x1, .int x2, .int x3, .int x4] [.int s0] h Q := by
  refine g1 c_215_40 k_1 ?_
  refine g1 c_215_41 k_2 ?_
  exact g81 (As := [.int s0, .int 1, .int 2]) (rest := []) c_215_42 rfl rfl (Nat.le_of_ble_eq_true rfl) (Nat.le_of_ble_eq_true rfl) t
set_option maxRecDepth 20000 in
theorem t_215_45 {d : Nat} {h : ab_H} {Q : Option Value → ab_H → Prop} {x0 : Nat} {x1 : Int32} {x2 : Int32} {x3 : Int32} {x4 : Int32} {s0 : Int32} (t : if s0 = 0 then (wq (d + 1) 215 5 [.ref x0, .int x1, .int x2, .int x3, .int (x4 + 1)] [] h Q) else (ab_ok h x0 112 = true ∧ wm d 199 [.ref x0, .int x4, .int 5] h (fun r9 h9 => wq (d + 1) 215 56 [.ref x0, .int x1, .int x2, .int x3, .int x4] (r9.toList ++ [.int x3]) h9 Q))) : wq (d + 1) 215 45 [.ref x0, .int x1, .int x2, .int x3, .int x4] [.int s0] h Q := by
  refine gif c_215_45 (gbr t rfl rfl (fun hc t => ?_) (fun hc t => ?_))
  · refine g9 (L' := [.ref x0, .int x1, .int x2, .int x3, .int (x4 + 1)]) c_215_58 rfl k_1 rfl ?_
    refine g38 c_215_61 rfl ?_
    exact t
  · refine g3 c_215_48 rfl ?_
    refine g5 c_215_49 rfl ?_
    refine g3 c_215_50 rfl ?_
    refine g1 c_215_52 k_5 ?_
    exact g80 (As := [.int x4, .int 5]) (rest := [.int x3]) c_215_53 rfl rfl (Nat.le_of_ble_eq_true rfl) (Nat.le_of_ble_eq_true rfl) t.1 t.2
set_option maxRecDepth 20000 in
theorem t_215_56 {d : Nat} {h : ab_H} {Q : Option Value → ab_H → Prop} {x0 : Nat} {x1 : Int32} {x2 : Int32} {x3 : Int32} {x4 : Int32} {s0 : Int32} {s1 : Int32} (t : wq d 215 5 [.ref x0, .int x1, .int x2, .int (s0 + s1), .int (x4 + 1)] [] h Q) : wq d 215 56 [.ref x0, .int x1, .int x2, .int x3, .int x4] [.int s1, .int s0] h Q := by
  refine g10 c_215_56 ?_
  refine g6 (L' := [.ref x0, .int x1, .int x2, .int (s0 + s1), .int x4]) c_215_57 rfl ?_
  refine g9 (L' := [.ref x0, .int x1, .int x2, .int (s0 + s1), .int (x4 + 1)]) c_215_58 rfl k_1 rfl ?_
  refine g38 c_215_61 rfl ?_
  exact t
-- method 216: MillTownModel.endOne(I)V
theorem c_216_0 : pg_cd 216 0 = (1, 3, 0, 0, 3652) := by decide +kernel
theorem c_216_3 : pg_cd 216 3 = (1, 2, 0, 0, 12) := by decide +kernel
theorem c_216_5 : pg_cd 216 5 = (3, 1, 0, 1, 0) := by decide +kernel
theorem c_216_6 : pg_cd 216 6 = (12, 1, 0, 0, 0) := by decide +kernel
theorem c_216_7 : pg_cd 216 7 = (10, 1, 0, 0, 0) := by decide +kernel
theorem c_216_8 : pg_cd 216 8 = (6, 1, 0, 2, 0) := by decide +kernel
theorem c_216_9 : pg_cd 216 9 = (5, 1, 0, 0, 0) := by decide +kernel
theorem c_216_10 : pg_cd 216 10 = (45, 12, 8, 0, 0) := by decide +kernel
theorem c_216_13 : pg_cd 216 13 = (3, 1, 0, 2, 0) := by decide +kernel
theorem c_216_14 : pg_cd 216 14 = (1, 1, 0, 0, 3) := by decide +kernel
theorem c_216_15 : pg_cd 216 15 = (10, 1, 0, 0, 0) := by decide +kernel
theorem c_216_16 : pg_cd 216 16 = (1, 1, 0, 0, 0) := by decide +kernel
theorem c_216_17 : pg_cd 216 17 = (54, 1, 0, 0, 0) := by decide +kernel
theorem c_216_18 : pg_cd 216 18 = (5, 1, 0, 0, 0) := by decide +kernel
theorem c_216_19 : pg_cd 216 19 = (45, 12, 8, 0, 0) := by decide +kernel
theorem c_216_22 : pg_cd 216 22 = (3, 1, 0, 2, 0) := by decide +kernel
theorem c_216_23 : pg_cd 216 23 = (1, 1, 0, 0, 4) := by decide +kernel
theorem c_216_24 : pg_cd 216 24 = (10, 1, 0, 0, 0) := by decide +kernel
theorem c_216_25 : pg_cd 216 25 = (1, 1, 0, 0, (-1)) := by decide +kernel
theorem c_216_26 : pg_cd 216 26 = (54, 1, 0, 0, 0) := by decide +kernel
theorem c_216_27 : pg_cd 216 27 = (5, 1, 0, 0, 0) := by decide +kernel
theorem c_216_28 : pg_cd 216 28 = (45, 12, 8, 0, 0) := by decide +kernel
theorem c_216_31 : pg_cd 216 31 = (3, 1, 0, 2, 0) := by decide +kernel
theorem c_216_32 : pg_cd 216 32 = (1, 1, 0, 0, 5) := by decide +kernel
theorem c_216_33 : pg_cd 216 33 = (10, 1, 0, 0, 0) := by decide +kernel
theorem c_216_34 : pg_cd 216 34 = (1, 1, 0, 0, 0) := by decide +kernel
theorem c_216_35 : pg_cd 216 35 = (54, 1, 0, 0, 0) := by decide +kernel
theorem c_216_36 : pg_cd 216 36 = (5, 1, 0, 0, 0) := by decide +kernel
theorem c_216_37 : pg_cd 216 37 = (45, 12, 8, 0, 0) := by decide +kernel
theorem c_216_40 : pg_cd 216 40 = (3, 1, 0, 2, 0) := by decide +kernel
theorem c_216_41 : pg_cd 216 41 = (1, 2, 0, 0, 6) := by decide +kernel
theorem c_216_43 : pg_cd 216 43 = (10, 1, 0, 0, 0) := by decide +kernel
theorem c_216_44 : pg_cd 216 44 = (1, 1, 0, 0, (-1)) := by decide +kernel
theorem c_216_45 : pg_cd 216 45 = (54, 1, 0, 0, 0) := by decide +kernel
theorem c_216_46 : pg_cd 216 46 = (5, 1, 0, 0, 0) := by decide +kernel
theorem c_216_47 : pg_cd 216 47 = (45, 12, 8, 0, 0) := by decide +kernel
theorem c_216_50 : pg_cd 216 50 = (3, 1, 0, 2, 0) := by decide +kernel
theorem c_216_51 : pg_cd 216 51 = (1, 2, 0, 0, 7) := by decide +kernel
theorem c_216_53 : pg_cd 216 53 = (10, 1, 0, 0, 0) := by decide +kernel
theorem c_216_54 : pg_cd 216 54 = (1, 1, 0, 0, 0) := by decide +kernel
theorem c_216_55 : pg_cd 216 55 = (54, 1, 0, 0, 0) := by decide +kernel
theorem c_216_56 : pg_cd 216 56 = (94, 0, 0, 0, 0) := by decide +kernel
theorem mx_216 : pg_mx 216 = 3 := by decide +kernel
theorem m_216 {d : Nat} {h : ab_H} {Q : Option Value → ab_H → Prop} {x0 : Nat} {x1 : Int32} (t : wq d 216 0 [.ref x0, .int x1, .retAddr 0] [] h Q) : wm d 216 [.ref x0, .int x1] h Q := by
  unfold wm
  rw [mx_216]
  exact t
set_option maxRecDepth 20000 in
theorem t_216_0 {d : Nat} {h : ab_H} {Q : Option Value → ab_H → Prop} {x0 : Nat} {x1 : Int32} (t : ab_ok h x0 112 = true ∧ ∃ j1 : Nat, ab_r h x0 0 = some j1 ∧ (ab_ok h j1 0 = true ∧ ab_in ((3652 + (12 * x1)) + 3) (ab_s h j1).2 = true) ∧ ∀ h2 : ab_H, h2 = ab_pi h j1 (Int32.toNatClampNeg ((3652 + (12 * x1)) + 3)) 0 → ab_ok h2 x0 112 = true ∧ ∃ j3 : Nat, ab_r h2 x0 0 = some j3 ∧ (ab_ok h2 j3 0 = true ∧ ab_in ((3652 + (12 * x1)) + 4) (ab_s h2 j3).2 = true) ∧ ∀ h4 : ab_H, h4 = ab_pi h2 j3 (Int32.toNatClampNeg ((3652 + (12 * x1)) + 4)) (-1) → ab_ok h4 x0 112 = true ∧ ∃ j5 : Nat, ab_r h4 x0 0 = some j5 ∧ (ab_ok h4 j5 0 = true ∧ ab_in ((3652 + (12 * x1)) + 5) (ab_s h4 j5).2 = true) ∧ ∀ h6 : ab_H, h6 = ab_pi h4 j5 (Int32.toNatClampNeg ((3652 + (12 * x1)) + 5)) 0 → ab_ok h6 x0 112 = true ∧ ∃ j7 : Nat, ab_r h6 x0 0 = some j7 ∧ (ab_ok h6 j7 0 = true ∧ ab_in ((3652 + (12 * x1)) + 6) (ab_s h6 j7).2 = true) ∧ ∀ h8 : ab_H, h8 = ab_pi h6 j7 (Int32.toNatClampNeg ((3652 + (12 * x1)) + 6)) (-1) → ab_ok h8 x0 112 = true ∧ ∃ j9 : Nat, ab_r h8 x0 0 = some j9 ∧ (ab_ok h8 j9 0 = true ∧ ab_in ((3652 + (12 * x1)) + 7) (ab_s h8 j9).2 = true) ∧ ∀ h10 : ab_H, h10 = ab_pi h8 j9 (Int32.toNatClampNeg ((3652 + (12 * x1)) + 7)) 0 → Q none h10) : wq d 216 0 [.ref x0, .int x1, .retAddr 0] [] h Q := by
  refine g1 c_216_0 k_3652 ?_
  refine g1 c_216_3 k_12 ?_
  refine g3 c_216_5 rfl ?_
  refine g12 c_216_6 ?_
  refine g10 c_216_7 ?_
  refine g6 (L' := [.ref x0, .int x1, .int (3652 + (12 * x1))]) c_216_8 rfl ?_
  refine g5 c_216_9 rfl ?_
  obtain ⟨ho, j1, hr, t⟩ := t
  refine g45 c_216_10 ho hr ?_
  refine g3 c_216_13 rfl ?_
  refine g1 c_216_14 k_3 ?_
  refine g10 c_216_15 ?_
  refine g1 c_216_16 k_0 ?_
  obtain ⟨ho, t⟩ := t
  refine g54 c_216_17 ho (fun h2 eh2 => ?_)
  have t := t h2 eh2
  refine g5 c_216_18 rfl ?_
  obtain ⟨ho, j3, hr, t⟩ := t
  refine g45 c_216_19 ho hr ?_
  refine g3 c_216_22 rfl ?_
  refine g1 c_216_23 k_4 ?_
  refine g10 c_216_24 ?_
  refine g1 c_216_25 k_m1 ?_
  obtain ⟨ho, t⟩ := t
  refine g54 c_216_26 ho (fun h4 eh4 => ?_)
  have t := t h4 eh4
  refine g5 c_216_27 rfl ?_
  obtain ⟨ho, j5, hr, t⟩ := t
  refine g45 c_216_28 ho hr ?_
  refine g3 c_216_31 rfl ?_
  refine g1 c_216_32 k_5 ?_
  refine g10 c_216_33 ?_
  refine g1 c_216_34 k_0 ?_
  obtain ⟨ho, t⟩ := t
  refine g54 c_216_35 ho (fun h6 eh6 => ?_)
  have t := t h6 eh6
  refine g5 c_216_36 rfl ?_
  obtain ⟨ho, j7, hr, t⟩ := t
  refine g45 c_216_37 ho hr ?_
  refine g3 c_216_40 rfl ?_
  refine g1 c_216_41 k_6 ?_
  refine g10 c_216_43 ?_
  refine g1 c_216_44 k_m1 ?_
  obtain ⟨ho, t⟩ := t
  refine g54 c_216_45 ho (fun h8 eh8 => ?_)
  have t := t h8 eh8
  refine g5 c_216_46 rfl ?_
  obtain ⟨ho, j9, hr, t⟩ := t
  refine g45 c_216_47 ho hr ?_
  refine g3 c_216_50 rfl ?_
  refine g1 c_216_51 k_7 ?_
  refine g10 c_216_53 ?_
  refine g1 c_216_54 k_0 ?_
  obtain ⟨ho, t⟩ := t
  refine g54 c_216_55 ho (fun h10 eh10 => ?_)
  have t := t h10 eh10
  exact g94 c_216_56 t
-- method 217: MillTownModel.endWork(I)V
theorem c_217_0 : pg_cd 217 0 = (5, 1, 0, 0, 0) := by decide +kernel
theorem c_217_1 : pg_cd 217 1 = (3, 1, 0, 1, 0) := by decide +kernel
theorem c_217_2 : pg_cd 217 2 = (1, 1, 0, 0, 3) := by decide +kernel
theorem c_217_3 : pg_cd 217 3 = (80, 199, 102, 0, 0) := by decide +kernel
theorem c_217_6 : pg_cd 217 6 = (1, 1, 0, 0, 1) := by decide +kernel
theorem c_217_7 : pg_cd 217 7 = (37, 3, 0, 1, 47) := by decide +kernel
theorem c_217_10 : pg_cd 217 10 = (1, 1, 0, 0, 0) := by decide +kernel
theorem c_217_11 : pg_cd 217 11 = (6, 1, 0, 2, 0) := by decide +kernel
theorem c_217_12 : pg_cd 217 12 = (3, 1, 0, 2, 0) := by decide +kernel
theorem c_217_13 : pg_cd 217 13 = (5, 1, 0, 0, 0) := by decide +kernel
theorem c_217_14 : pg_cd 217 14 = (45, 12, 8, 0, 0) := by decide +kernel
theorem c_217_17 : pg_cd 217 17 = (1, 1, 0, 0, 4) := by decide +kernel
theorem c_217_18 : pg_cd 217 18 = (50, 1, 0, 0, 0) := by decide +kernel
theorem c_217_19 : pg_cd 217 19 = (37, 3, 0, 3, 35) := by decide +kernel
theorem c_217_22 : pg_cd 217 22 = (5, 1, 0, 0, 0) := by decide +kernel
theorem c_217_23 : pg_cd 217 23 = (3, 1, 0, 2, 0) := by decide +kernel
theorem c_217_24 : pg_cd 217 24 = (1, 1, 0, 0, 3) := by decide +kernel
theorem c_217_25 : pg_cd 217 25 = (80, 199, 102, 0, 0) := by decide +kernel
theorem c_217_28 : pg_cd 217 28 = (1, 1, 0, 0, 2) := by decide +kernel
theorem c_217_29 : pg_cd 217 29 = (37, 3, 0, 1, 19) := by decide +kernel
theorem c_217_32 : pg_cd 217 32 = (5, 1, 0, 0, 0) := by decide +kernel
theorem c_217_33 : pg_cd 217 33 = (3, 1, 0, 2, 0) := by decide +kernel
theorem c_217_34 : pg_cd 217 34 = (1, 2, 0, 0, 6) := by decide +kernel
theorem c_217_36 : pg_cd 217 36 = (80, 199, 102, 0, 0) := by decide +kernel
theorem c_217_39 : pg_cd 217 39 = (3, 1, 0, 1, 0) := by decide +kernel
theorem c_217_40 : pg_cd 217 40 = (37, 3, 0, 1, 8) := by decide +kernel
theorem c_217_43 : pg_cd 217 43 = (5, 1, 0, 0, 0) := by decide +kernel
theorem c_217_44 : pg_cd 217 44 = (3, 1, 0, 2, 0) := by decide +kernel
theorem c_217_45 : pg_cd 217 45 = (80, 216, 105, 0, 0) := by decide +kernel
theorem c_217_48 : pg_cd 217 48 = (9, 3, 0, 2, 1) := by decide +kernel
theorem c_217_51 : pg_cd 217 51 = (38, 3, 0, 0, (-39)) := by decide +kernel
theorem c_217_54 : pg_cd 217 54 = (5, 1, 0, 0, 0) := by decide +kernel
theorem c_217_55 : pg_cd 217 55 = (3, 1, 0, 1, 0) := by decide +kernel
theorem c_217_56 : pg_cd 217 56 = (80, 216, 105, 0, 0) := by decide +kernel
theorem c_217_59 : pg_cd 217 59 = (94, 0, 0, 0, 0) := by decide +kernel
theorem mx_217 : pg_mx 217 = 3 := by decide +kernel
theorem m_217 {d : Nat} {h : ab_H} {Q : Option Value → ab_H → Prop} {x0 : Nat} {x1 : Int32} (t : wq d 217 0 [.ref x0, .int x1, .retAddr 0] [] h Q) : wm d 217 [.ref x0, .int x1] h Q := by
  unfold wm
  rw [mx_217]
  exact t
set_option maxRecDepth 20000 in
theorem t_217_0 {d : Nat} {h : ab_H} {Q : Option Value → ab_H → Prop} {x0 : Nat} {x1 : Int32} (t : ab_ok h x0 112 = true ∧ wm d 199 [.ref x0, .int x1, .int 3] h (fun r9 h9 => wq (d + 1) 217 6 [.ref x0, .int x1, .retAddr 0] (r9.toList ++ []) h9 Q)) : wq (d + 1) 217 0 [.ref x0, .int x1, .retAddr 0] [] h Q := by
  refine g5 c_217_0 rfl ?_
  refine g3 c_217_1 rfl ?_
  refine g1 c_217_2 k_3 ?_
  exact g80 (As := [.int x1, .int 3]) (rest := []) c_217_3 rfl rfl (Nat.le_of_ble_eq_true rfl) (Nat.le_of_ble_eq_true rfl) t.1 t.2
set_option maxRecDepth 20000 in
theorem t_217_6 {d : Nat} {h : ab_H} {Q : Option Value → ab_H → Prop} {x0 : Nat} {x1 : Int32} {s0 : Int32} (t : if s0 = 1 then (wq (d + 1) 217 12 [.ref x0, .int x1, .int 0] [] h Q) else (ab_ok h x0 112 = true ∧ wm d 216 [.ref x0, .int x1] h (fun r9 h9 => wq (d + 1) 217 59 [.ref x0, .int x1, .retAddr 0] (r9.toList ++ []) h9 Q))) : wq (d + 1) 217 6 [.ref x0, .int x1, .retAddr 0] [.int s0] h Q := by
  refine g1 c_217_6 k_1 ?_
  refine gcm c_217_7 (gbn t (ab_c1 _ _) rfl (fun hc t => ?_) (fun hc t => ?_))
  · refine g1 c_217_10 k_0 ?_
    refine g6 (L' := [.ref x0, .int x1, .int 0]) c_217_11 rfl ?_
    exact t
  · refine g5 c_217_54 rfl ?_
    refine g3 c_217_55 rfl ?_
    exact g80 (As := [.int x1]) (rest := []) c_217_56 rfl rfl (Nat.le_of_ble_eq_true rfl) (Nat.le_of_ble_eq_true rfl) t.1 t.2
set_option maxRecDepth 20000 in
theorem t_217_12 {d : Nat} {h : ab_H} {Q : Option Value → ab_H → Prop} {x0 : Nat} {x1 : Int32} {x2 : Int32} (t : ab_ok h x0 112 = true ∧ ∃ j1 : Nat, ab_r h x0 0 = some j1 ∧ ((j1 = 0 ∨ ab_ok h j1 0 = true) ∧ ab_in (4 : Int32) (ab_s h j1).2 = true) ∧ if (ab_i h j1 (Int32.toNatClampNeg (4 : Int32))) ≤ x2 then (ab_ok h x0 112 = true ∧ wm d 216 [.ref x0, .int x1] h (fun r9 h9 => wq (d + 1) 217 59 [.ref x0, .int x1, .int x2] (r9.toList ++ []) h9 Q)) else (ab_ok h x0 112 = true ∧ wm d 199 [.ref x0, .int x2, .int 3] h (fun r9 h9 => wq (d + 1) 217 28 [.ref x0, .int x1, .int x2] (r9.toList ++ []) h9 Q))) : wq (d + 1) 217 12 [.ref x0, .int x1, .int x2] [] h Q := by
  refine g3 c_217_12 rfl ?_
  refine g5 c_217_13 rfl ?_
  obtain ⟨ho, j1, hr, t⟩ := t
  refine g45 c_217_14 ho hr ?_
  refine g1 c_217_17 k_4 ?_
  obtain ⟨ho, t⟩ := t
  refine g50 c_217_18 ho ?_
  refine gcm c_217_19 (gbr t rfl rfl (fun hc t => ?_) (fun hc t => ?_))
  · refine g5 c_217_54 rfl ?_
    refine g3 c_217_55 rfl ?_
    exact g80 (As := [.int x1]) (rest := []) c_217_56 rfl rfl (Nat.le_of_ble_eq_true rfl) (Nat.le_of_ble_eq_true rfl) t.1 t.2
  · refine g5 c_217_22 rfl ?_
    refine g3 c_217_23 rfl ?_
    refine g1 c_217_24 k_3 ?_
    exact g80 (As := [.int x2, .int 3]) (rest := []) c_217_25 rfl rfl (Nat.le_of_ble_eq_true rfl) (Nat.le_of_ble_eq_true rfl) t.1 t.2
set_option maxRecDepth 20000 in
theorem t_217_28 {d : Nat} {h : ab_H} {Q : Option Value → ab_H → Prop} {x0 : Nat} {x1 : Int32} {x2 : Int32} {s0 : Int32} (t : if s0 = 2 then (ab_ok h x0 112 = true ∧ wm d 199 [.ref x0, .int x2, .int 6] h (fun r9 h9 => wq (d + 1) 217 39 [.ref x0, .int x1, .int x2] (r9.toList ++ []) h9 Q)) else (wq (d + 1) 217 12 [.ref x0, .int x1, .int (x2 + 1)] [] h Q)) : wq (d + 1) 217 28 [.ref x0, .int x1, .int x2] [.int s0] h Q := by
  refine g1 c_217_28 k_2 ?_
  refine gcm c_217_29 (gbn t (ab_c1 _ _) rfl (fun hc t => ?_) (fun hc t => ?_))
  · refine g5 c_217_32 rfl ?_
    refine g3 c_217_33 rfl ?_
    refine g1 c_217_34 k_6 ?_
    exact g80 (As := [.int x2, .int 6]) (rest := []) c_217_36 rfl rfl (Nat.le_of_ble_eq_true rfl) (Nat.le_of_ble_eq_true rfl) t.1 t.2
  · refine g9 (L' := [.ref x0, .int x1, .int (x2 + 1)]) c_217_48 rfl k_1 rfl ?_
    refine g38 c_217_51 rfl ?_
    exact t
set_option maxRecDepth 20000 in
theorem t_217_39 {d : Nat} {h : ab_H} {Q : Option Value → ab_H → Prop} {x0 : Nat} {x1 : Int32} {x2 : Int32} {s0 : Int32} (t : if s0 = x1 then (ab_ok h x0 112 = true ∧ wm d 216 [.ref x0, .int x2] h (fun r9 h9 => wq (d + 1) 217 48 [.ref x0, .int x1, .int x2] (r9.toList ++ []) h9 Q)) else (wq (d + 1) 217 12 [.ref x0, .int x1, .int (x2 + 1)] [] h Q)) : wq (d + 1) 217 39 [.ref x0, .int x1, .int x2] [.int s0] h Q := by
  refine g3 c_217_39 rfl ?_
  refine gcm c_217_40 (gbn t (ab_c1 _ _) rfl (fun hc t => ?_) (fun hc t => ?_))
  · refine g5 c_217_43 rfl ?_
    refine g3 c_217_44 rfl ?_
    exact g80 (As := [.int x2]) (rest := []) c_217_45 rfl rfl (Nat.le_of_ble_eq_true rfl) (Nat.le_of_ble_eq_true rfl) t.1 t.2
  · refine g9 (L' := [.ref x0, .int x1, .int (x2 + 1)]) c_217_48 rfl k_1 rfl ?_
    refine g38 c_217_51 rfl ?_
    exact t
set_option maxRecDepth 20000 in
theorem t_217_48 {d : Nat} {h : ab_H} {Q : Option Value → ab_H → Prop} {x0 : Nat} {x1 : Int32} {x2 : Int32} (t : wq d 217 12 [.ref x0, .int x1, .int (x2 + 1)] [] h Q) : wq d 217 48 [.ref x0, .int x1, .int x2] [] h Q := by
  refine g9 (L' := [.ref x0, .int x1, .int (x2 + 1)]) c_217_48 rfl k_1 rfl ?_
  refine g38 c_217_51 rfl ?_
  exact t
set_option maxRecDepth 20000 in
theorem t_217_59 {d : Nat} {h : ab_H} {Q : Option Value → ab_H → Prop} {x0 : Nat} {x1 : Int32} (t : Q none h) : wq d 217 59 [.ref x0, .int x1, .retAddr 0] [] h Q := by
  exact g94 c_217_59 t
-- method 218: MillTownModel.work(IIII)Z
theorem c_218_0 : pg_cd 218 0 = (5, 1, 0, 0, 0) := by decide +kernel
theorem c_218_1 : pg_cd 218 1 = (3, 1, 0, 1, 0) := by decide +kernel
theorem c_218_2 : pg_cd 218 2 = (80, 203, 109, 0, 0) := by decide +kernel
theorem c_218_5 : pg_cd 218 5 = (36, 3, 0, 0, 27) := by decide +kernel
theorem c_218_8 : pg_cd 218 8 = (3, 1, 0, 2, 0) := by decide +kernel
theorem c_218_9 : pg_cd 218 9 = (1, 1, 0, 0, 0) := by decide +kernel
theorem c_218_10 : pg_cd 218 10 = (1, 1, 0, 0, 4) := by decide +kernel
theorem c_218_11 : pg_cd 218 11 = (81, 196, 76, 0, 0) := by decide +kernel
theorem c_218_14 : pg_cd 218 14 = (36, 3, 0, 0, 18) := by decide +kernel
theorem c_218_17 : pg_cd 218 17 = (5, 1, 0, 0, 0) := by decide +kernel
theorem c_218_18 : pg_cd 218 18 = (5, 1, 0, 0, 0) := by decide +kernel
theorem c_218_19 : pg_cd 218 19 = (3, 1, 0, 1, 0) := by decide +kernel
theorem c_218_20 : pg_cd 218 20 = (1, 1, 0, 0, 0) := by decide +kernel
theorem c_218_21 : pg_cd 218 21 = (80, 199, 102, 0, 0) := by decide +kernel
theorem c_218_24 : pg_cd 218 24 = (1, 1, 0, 0, 3) := by decide +kernel
theorem c_218_25 : pg_cd 218 25 = (80, 200, 99, 0, 0) := by decide +kernel
theorem c_218_28 : pg_cd 218 28 = (1, 1, 0, 0, 1) := by decide +kernel
theorem c_218_29 : pg_cd 218 29 = (37, 3, 0, 1, 5) := by decide +kernel
theorem c_218_32 : pg_cd 218 32 = (1, 1, 0, 0, 0) := by decide +kernel
theorem c_218_33 : pg_cd 218 33 = (91, 0, 0, 0, 0) := by decide +kernel
theorem c_218_34 : pg_cd 218 34 = (3, 1, 0, 2, 0) := by decide +kernel
theorem c_218_35 : pg_cd 218 35 = (36, 3, 0, 1, 10) := by decide +kernel
theorem c_218_38 : pg_cd 218 38 = (5, 1, 0, 0, 0) := by decide +kernel
theorem c_218_39 : pg_cd 218 39 = (3, 1, 0, 1, 0) := by decide +kernel
theorem c_218_40 : pg_cd 218 40 = (80, 217, 112, 0, 0) := by decide +kernel
theorem c_218_43 : pg_cd 218 43 = (1, 1, 0, 0, 1) := by decide +kernel
theorem c_218_44 : pg_cd 218 44 = (91, 0, 0, 0, 0) := by decide +kernel
theorem c_218_45 : pg_cd 218 45 = (3, 1, 0, 2, 0) := by decide +kernel
theorem c_218_46 : pg_cd 218 46 = (1, 1, 0, 0, 2) := by decide +kernel
theorem c_218_47 : pg_cd 218 47 = (37, 3, 0, 1, 28) := by decide +kernel
theorem c_218_50 : pg_cd 218 50 = (5, 1, 0, 0, 0) := by decide +kernel
theorem c_218_51 : pg_cd 218 51 = (3, 1, 0, 3, 0) := by decide +kernel
theorem c_218_52 : pg_cd 218 52 = (80, 203, 109, 0, 0) := by decide +kernel
theorem c_218_55 : pg_cd 218 55 = (36, 3, 0, 0, 18) := by decide +kernel
theorem c_218_58 : pg_cd 218 58 = (3, 1, 0, 3, 0) := by decide +kernel
theorem c_218_59 : pg_cd 218 59 = (3, 1, 0, 1, 0) := by decide +kernel
theorem c_218_60 : pg_cd 218 60 = (37, 3, 0, 0, 13) := by decide +kernel
theorem c_218_63 : pg_cd 218 63 = (5, 1, 0, 0, 0) := by decide +kernel
theorem c_218_64 : pg_cd 218 64 = (3, 1, 0, 3, 0) := by decide +kernel
theorem c_218_65 : pg_cd 218 65 = (1, 1, 0, 0, 3) := by decide +kernel
theorem c_218_66 : pg_cd 218 66 = (80, 199, 102, 0, 0) := by decide +kernel
theorem c_218_69 : pg_cd 218 69 = (1, 1, 0, 0, 1) := by decide +kernel
theorem c_218_70 : pg_cd 218 70 = (37, 3, 0, 0, 5) := by decide +kernel
theorem c_218_73 : pg_cd 218 73 = (1, 1, 0, 0, 0) := by decide +kernel
theorem c_218_74 : pg_cd 218 74 = (91, 0, 0, 0, 0) := by decide +kernel
theorem c_218_75 : pg_cd 218 75 = (3, 1, 0, 2, 0) := by decide +kernel
theorem c_218_76 : pg_cd 218 76 = (1, 1, 0, 0, 2) := by decide +kernel
theorem c_218_77 : pg_cd 218 77 = (37, 3, 0, 0, 13) := by decide +kernel
theorem c_218_80 : pg_cd 218 80 = (5, 1, 0, 0, 0) := by decide +kernel
theorem c_218_81 : pg_cd 218 81 = (3, 1, 0, 3, 0) := by decide +kernel
theorem c_218_82 : pg_cd 218 82 = (80, 201, 115, 0, 0) := by decide +kernel
theorem c_218_85 : pg_cd 218 85 = (36, 3, 0, 1, 5) := by decide +kernel
theorem c_218_88 : pg_cd 218 88 = (1, 1, 0, 0, 0) := by decide +kernel
theorem c_218_89 : pg_cd 218 89 = (91, 0, 0, 0, 0) := by decide +kernel
theorem c_218_90 : pg_cd 218 90 = (3, 1, 0, 2, 0) := by decide +kernel
theorem c_218_91 : pg_cd 218 91 = (1, 1, 0, 0, 2) := by decide +kernel
theorem c_218_92 : pg_cd 218 92 = (37, 3, 0, 1, 12) := by decide +kernel
theorem c_218_95 : pg_cd 218 95 = (5, 1, 0, 0, 0) := by decide +kernel
theorem c_218_96 : pg_cd 218 96 = (3, 1, 0, 3, 0) := by decide +kernel
theorem c_218_97 : pg_cd 218 97 = (1, 1, 0, 0, 4) := by decide +kernel
theorem c_218_98 : pg_cd 218 98 = (80, 199, 102, 0, 0) := by decide +kernel
theorem c_218_101 : pg_cd 218 101 = (38, 3, 0, 0, 4) := by decide +kernel
theorem c_218_104 : pg_cd 218 104 = (3, 1, 0, 3, 0) := by decide +kernel
theorem c_218_105 : pg_cd 218 105 = (6, 2, 0, 5, 0) := by decide +kernel
theorem c_218_107 : pg_cd 218 107 = (5, 1, 0, 0, 0) := by decide +kernel
theorem c_218_108 : pg_cd 218 108 = (3, 2, 0, 5, 0) := by decide +kernel
theorem c_218_110 : pg_cd 218 110 = (1, 1, 0, 0, 5) := by decide +kernel
theorem c_218_111 : pg_cd 218 111 = (80, 198, 118, 0, 0) := by decide +kernel
theorem c_218_114 : pg_cd 218 114 = (1, 1, 0, 0, 1) := by decide +kernel
theorem c_218_115 : pg_cd 218 115 = (37, 3, 0, 0, 33) := by decide +kernel
theorem c_218_118 : pg_cd 218 118 = (3, 2, 0, 4, 0) := by decide +kernel
theorem c_218_120 : pg_cd 218 120 = (1, 1, 0, 0, 1) := by decide +kernel
theorem c_218_121 : pg_cd 218 121 = (3, 1, 0, 2, 0) := by decide +kernel
theorem c_218_122 : pg_cd 218 122 = (1, 1, 0, 0, 1) := by decide +kernel
theorem c_218_123 : pg_cd 218 123 = (37, 3, 0, 1, 8) := by decide +kernel
theorem c_218_126 : pg_cd 218 126 = (1, 2, 0, 0, 6) := by decide +kernel
theorem c_218_128 : pg_cd 218 128 = (38, 3, 0, 0, 14) := by decide +kernel
theorem c_218_131 : pg_cd 218 131 = (3, 1, 0, 2, 0) := by decide +kernel
theorem c_218_132 : pg_cd 218 132 = (1, 1, 0, 0, 2) := by decide +kernel
theorem c_218_133 : pg_cd 218 133 = (37, 3, 0, 1, 7) := by decide +kernel
theorem c_218_136 : pg_cd 218 136 = (1, 1, 0, 0, 2) := by decide +kernel
theorem c_218_137 : pg_cd 218 137 = (38, 3, 0, 0, 5) := by decide +kernel
theorem c_218_140 : pg_cd 218 140 = (1, 2, 0, 0, 50) := by decide +kernel
theorem c_218_142 : pg_cd 218 142 = (81, 196, 76, 0, 0) := by decide +kernel
theorem c_218_145 : pg_cd 218 145 = (36, 3, 0, 1, 5) := by decide +kernel
theorem c_218_148 : pg_cd 218 148 = (1, 1, 0, 0, 0) := by decide +kernel
theorem c_218_149 : pg_cd 218 149 = (91, 0, 0, 0, 0) := by decide +kernel
theorem c_218_150 : pg_cd 218 150 = (3, 1, 0, 2, 0) := by decide +kernel
theorem c_218_151 : pg_cd 218 151 = (1, 1, 0, 0, 4) := by decide +kernel
theorem c_218_152 : pg_cd 218 152 = (37, 3, 0, 1, 14) := by decide +kernel
theorem c_218_155 : pg_cd 218 155 = (5, 1, 0, 0, 0) := by decide +kernel
theorem c_218_156 : pg_cd 218 156 = (3, 1, 0, 1, 0) := by decide +kernel
theorem c_218_157 : pg_cd 218 157 = (1, 1, 0, 0, 1) := by decide +kernel
theorem c_218_158 : pg_cd 218 158 = (80, 199, 102, 0, 0) := by decide +kernel
theorem c_218_161 : pg_cd 218 161 = (1, 2, 0, 0, 18) := by decide +kernel
theorem c_218_163 : pg_cd 218 163 = (37, 3, 0, 3, 28) := by decide +kernel
theorem c_218_166 : pg_cd 218 166 = (3, 1, 0, 2, 0) := by decide +kernel
theorem c_218_167 : pg_cd 218 167 = (1, 1, 0, 0, 2) := by decide +kernel
theorem c_218_168 : pg_cd 218 168 = (37, 3, 0, 4, 25) := by decide +kernel
theorem c_218_171 : pg_cd 218 171 = (5, 1, 0, 0, 0) := by decide +kernel
theorem c_218_172 : pg_cd 218 172 = (3, 2, 0, 5, 0) := by decide +kernel
theorem c_218_174 : pg_cd 218 174 = (3, 1, 0, 1, 0) := by decide +kernel
theorem c_218_175 : pg_cd 218 175 = (80, 215, 121, 0, 0) := by decide +kernel
theorem c_218_178 : pg_cd 218 178 = (3, 2, 0, 4, 0) := by decide +kernel
theorem c_218_180 : pg_cd 218 180 = (10, 1, 0, 0, 0) := by decide +kernel
theorem c_218_181 : pg_cd 218 181 = (5, 1, 0, 0, 0) := by decide +kernel
theorem c_218_182 : pg_cd 218 182 = (3, 2, 0, 5, 0) := by decide +kernel
theorem c_218_184 : pg_cd 218 184 = (1, 1, 0, 0, 0) := by decide +kernel
theorem c_218_185 : pg_cd 218 185 = (80, 198, 118, 0, 0) := by decide +kernel
theorem c_218_188 : pg_cd 218 188 = (37, 3, 0, 5, 5) := by decide +kernel
theorem c_218_191 : pg_cd 218 191 = (1, 1, 0, 0, 0) := by decide +kernel
theorem c_218_192 : pg_cd 218 192 = (91, 0, 0, 0, 0) := by decide +kernel
theorem c_218_193 : pg_cd 218 193 = (5, 1, 0, 0, 0) := by decide +kernel
theorem c_218_194 : pg_cd 218 194 = (3, 1, 0, 1, 0) := by decide +kernel
theorem c_218_195 : pg_cd 218 195 = (80, 217, 112, 0, 0) := by decide +kernel
theorem c_218_198 : pg_cd 218 198 = (1, 3, 0, 0, 3652) := by decide +kernel
theorem c_218_201 : pg_cd 218 201 = (1, 2, 0, 0, 12) := by decide +kernel
theorem c_218_203 : pg_cd 218 203 = (3, 1, 0, 1, 0) := by decide +kernel
theorem c_218_204 : pg_cd 218 204 = (12, 1, 0, 0, 0) := by decide +kernel
theorem c_218_205 : pg_cd 218 205 = (10, 1, 0, 0, 0) := by decide +kernel
theorem c_218_206 : pg_cd 218 206 = (6, 2, 0, 6, 0) := by decide +kernel
theorem c_218_208 : pg_cd 218 208 = (5, 1, 0, 0, 0) := by decide +kernel
theorem c_218_209 : pg_cd 218 209 = (45, 12, 8, 0, 0) := by decide +kernel
theorem c_218_212 : pg_cd 218 212 = (3, 2, 0, 6, 0) := by decide +kernel
theorem c_218_214 : pg_cd 218 214 = (1, 1, 0, 0, 3) := by decide +kernel
theorem c_218_215 : pg_cd 218 215 = (10, 1, 0, 0, 0) := by decide +kernel
theorem c_218_216 : pg_cd 218 216 = (3, 1, 0, 2, 0) := by decide +kernel
theorem c_218_217 : pg_cd 218 217 = (54, 1, 0, 0, 0) := by decide +kernel
theorem c_218_218 : pg_cd 218 218 = (5, 1, 0, 0, 0) := by decide +kernel
theorem c_218_219 : pg_cd 218 219 = (45, 12, 8, 0, 0) := by decide +kernel
theorem c_218_222 : pg_cd 218 222 = (3, 2, 0, 6, 0) := by decide +kernel
theorem c_218_224 : pg_cd 218 224 = (1, 1, 0, 0, 4) := by decide +kernel
theorem c_218_225 : pg_cd 218 225 = (10, 1, 0, 0, 0) := by decide +kernel
theorem c_218_226 : pg_cd 218 226 = (3, 2, 0, 5, 0) := by decide +kernel
theorem c_218_228 : pg_cd 218 228 = (54, 1, 0, 0, 0) := by decide +kernel
theorem c_218_229 : pg_cd 218 229 = (5, 1, 0, 0, 0) := by decide +kernel
theorem c_218_230 : pg_cd 218 230 = (45, 12, 8, 0, 0) := by decide +kernel
theorem c_218_233 : pg_cd 218 233 = (3, 2, 0, 6, 0) := by decide +kernel
theorem c_218_235 : pg_cd 218 235 = (1, 1, 0, 0, 5) := by decide +kernel
theorem c_218_236 : pg_cd 218 236 = (10, 1, 0, 0, 0) := by decide +kernel
theorem c_218_237 : pg_cd 218 237 = (3, 2, 0, 4, 0) := by decide +kernel
theorem c_218_239 : pg_cd 218 239 = (54, 1, 0, 0, 0) := by decide +kernel
theorem c_218_240 : pg_cd 218 240 = (5, 1, 0, 0, 0) := by decide +kernel
theorem c_218_241 : pg_cd 218 241 = (45, 12, 8, 0, 0) := by decide +kernel
theorem c_218_244 : pg_cd 218 244 = (3, 2, 0, 6, 0) := by decide +kernel
theorem c_218_246 : pg_cd 218 246 = (1, 2, 0, 0, 6) := by decide +kernel
theorem c_218_248 : pg_cd 218 248 = (10, 1, 0, 0, 0) := by decide +kernel
theorem c_218_249 : pg_cd 218 249 = (3, 1, 0, 2, 0) := by decide +kernel
theorem c_218_250 : pg_cd 218 250 = (1, 1, 0, 0, 2) := by decide +kernel
theorem c_218_251 : pg_cd 218 251 = (37, 3, 0, 1, 7) := by decide +kernel
theorem c_218_254 : pg_cd 218 254 = (3, 1, 0, 3, 0) := by decide +kernel
theorem c_218_255 : pg_cd 218 255 = (38, 3, 0, 0, 4) := by decide +kernel
theorem c_218_258 : pg_cd 218 258 = (1, 1, 0, 0, (-1)) := by decide +kernel
theorem c_218_259 : pg_cd 218 259 = (54, 1, 0, 0, 0) := by decide +kernel
theorem c_218_260 : pg_cd 218 260 = (1, 1, 0, 0, 1) := by decide +kernel
theorem c_218_261 : pg_cd 218 261 = (91, 0, 0, 0, 0) := by decide +kernel
theorem mx_218 : pg_mx 218 = 7 := by decide +kernel
theorem m_218 {d : Nat} {h : ab_H} {Q : Option Value → ab_H → Prop} {x0 : Nat} {x1 : Int32} {x2 : Int32} {x3 : Int32} {x4 : Int32} (t : wq d 218 0 [.ref x0, .int x1, .int x2, .int x3, .int x4, .retAddr 0, .retAddr 0] [] h Q) : wm d 218 [.ref x0, .int x1, .int x2, .int x3, .int x4] h Q := by
  unfold wm
  rw [mx_218]
  exact t
set_option maxRecDepth 20000 in
theorem t_218_0 {d : Nat} {h : ab_H} {Q : Option Value → ab_H → Prop} {x0 : Nat} {x1 : Int32} {x2 : Int32} {x3 : Int32} {x4 : Int32} (t : ab_ok h x0 112 = true ∧ wm d 203 [.ref x0, .int x1] h (fun r9 h9 => wq (d + 1) 218 5 [.ref x0, .int x1, .int x2, .int x3, .int x4, .retAddr 0, .retAddr 0] (r9.toList ++ []) h9 Q)) : wq (d + 1) 218 0 [.ref x0, .int x1, .int x2, .int x3, .int x4, .retAddr 0, .retAddr 0] [] h Q := by
  refine g5 c_218_0 rfl ?_
  refine g3 c_218_1 rfl ?_
  exact g80 (As := [.int x1]) (rest := []) c_218_2 rfl rfl (Nat.le_of_ble_eq_true rfl) (Nat.le_of_ble_eq_true rfl) t.1 t.2
set_option maxRecDepth 20000 in
theorem t_218_5 {d : Nat} {h : ab_H} {Q : Option Value → ab_H → Prop} {x0 : Nat} {x1 : Int32} {x2 : Int32} {x3 : Int32} {x4 : Int32} {s0 : Int32} (t : if s0 = 0 then (Q (some (.int 0)) h) else (wm d 196 [.int x2, .int 0, .int 4] h (fun r9 h9 => wq (d + 1) 218 14 [.ref x0, .int x1, .int x2, .int x3, .int x4, .retAddr 0, .retAddr 0] (r9.toList ++ []) h9 Q))) : wq (d + 1) 218 5 [.ref x0, .int x1, .int x2, .int x3, .int x4, .retAddr 0, .retAddr 0] [.int s0] h Q := by
  refine gif c_218_5 (gbr t rfl rfl (fun hc t => ?_) (fun hc t => ?_))
  · refine g1 c_218_32 k_0 ?_
    exact g91 c_218_33 ⟨by decide, t⟩
  · refine g3 c_218_8 rfl ?_
    refine g1 c_218_9 k_0 ?_
    refine g1 c_218_10 k_4 ?_
    exact g81 (As := [.int x2, .int 0, .int 4]) (rest := []) c_218_11 rfl rfl (Nat.le_of_ble_eq_true rfl) (Nat.le_of_ble_eq_true rfl) t
set_option maxRecDepth 20000 in
theorem t_218_14 {d : Nat} {h : ab_H} {Q : Option Value → ab_H → Prop} {x0 : Nat} {x1 : Int32} {x2 : Int32} {x3 : Int32} {x4 : Int32} {s0 : Int32} (t : if s0 = 0 then (Q (some (.int 0)) h) else (ab_ok h x0 112 = true ∧ wm d 199 [.ref x0, .int x1, .int 0] h (fun r9 h9 => wq (d + 1) 218 24 [.ref x0, .int x1, .int x2, .int x3, .int x4, .retAddr 0, .retAddr 0] (r9.toList ++ [.ref x0]) h9 Q))) : wq (d + 1) 218 14 [.ref x0, .int x1, .int x2, .int x3, .int x4, .retAddr 0, .retAddr 0] [.int s0] h Q := by
  refine gif c_218_14 (gbr t rfl rfl (fun hc t => ?_) (fun hc t => ?_))
  · refine g1 c_218_32 k_0 ?_
    exact g91 c_218_33 ⟨by decide, t⟩
  · refine g5 c_218_17 rfl ?_
    refine g5 c_218_18 rfl ?_
    refine g3 c_218_19 rfl ?_
    refine g1 c_218_20 k_0 ?_
    exact g80 (As := [.int x1, .int 0]) (rest := [.ref x0]) c_218_21 rfl rfl (Nat.le_of_ble_eq_true rfl) (Nat.le_of_ble_eq_true rfl) t.1 t.2
set_option maxRecDepth 20000 in
theorem t_218_24 {d : Nat} {h : ab_H} {Q : Option Value → ab_H → Prop} {x0 : Nat} {x1 : Int32} {x2 : Int32} {x3 : Int32} {x4 : Int32} {s0 : Nat} {s1 : Int32} (t : ab_ok h s0 112 = true ∧ wm d 200 [.ref s0, .int s1, .int 3] h (fun r9 h9 => wq (d + 1) 218 28 [.ref x0, .int x1, .int x2, .int x3, .int x4, .retAddr 0, .retAddr 0] (r9.toList ++ []) h9 Q)) : wq (d + 1) 218 24 [.ref x0, .int x1, .int x2, .int x3, .int x4, .retAddr 0, .retAddr 0] [.int s1, .ref s0] h Q := by
  refine g1 c_218_24 k_3 ?_
  exact g80 (As := [.int s1, .int 3]) (rest := []) c_218_25 rfl rfl (Nat.le_of_ble_eq_true rfl) (Nat.le_of_ble_eq_true rfl) t.1 t.2
set_option maxRecDepth 20000 in
theorem t_218_28 {d : Nat} {h : ab_H} {Q : Option Value → ab_H → Prop} {x0 : Nat} {x1 : Int32} {x2 : Int32} {x3 : Int32} {x4 : Int32} {s0 : Int32} (t : if s0 = 1 then (Q (some (.int 0)) h) else (if x2 = 0 then (ab_ok h x0 112 = true ∧ wm d 217 [.ref x0, .int x1] h (fun r9 h9 => wq (d + 1) 218 43 [.ref x0, .int x1, .int x2, .int x3, .int x4, .retAddr 0, .retAddr 0] (r9.toList ++ []) h9 Q)) else (if x2 = 2 then (ab_ok h x0 112 = true ∧ wm d 203 [.ref x0, .int x3] h (fun r9 h9 => wq (d + 1) 218 55 [.ref x0, .int x1, .int x2, .int x3, .int x4, .retAddr 0, .retAddr 0] (r9.toList ++ []) h9 Q)) else (if x2 = 2 then (if x2 = 2 then (ab_ok h x0 112 = true ∧ wm d 199 [.ref x0, .int x3, .int 4] h (fun r9 h9 => wq (d + 1) 218 101 [.ref x0, .int x1, .int x2, .int x3, .int x4, .retAddr 0, .retAddr 0] (r9.toList ++ []) h9 Q)) else (ab_ok h x0 112 = true ∧ wm d 198 [.ref x0, .int x3, .int 5] h (fun r9 h9 => wq (d + 1) 218 114 [.ref x0, .int x1, .int x2, .int x3, .int x4, .int x3, .retAddr 0] (r9.toList ++ []) h9 Q))) else (ab_ok h x0 112 = true ∧ wm d 201 [.ref x0, .int x3] h (fun r9 h9 => wq (d + 1) 218 85 [.ref x0, .int x1, .int x2, .int x3, .int x4, .retAddr 0, .retAddr 0] (r9.toList ++ []) h9 Q)))))) : wq (d + 1) 218 28 [.ref x0, .int x1, .int x2, .int x3, .int x4, .retAddr 0, .retAddr 0] [.int s0] h Q := by
  refine g1 c_218_28 k_1 ?_
  refine gcm c_218_29 (gbn t (ab_c1 _ _) rfl (fun hc t => ?_) (fun hc t => ?_))
  · refine g1 c_218_32 k_0 ?_
    exact g91 c_218_33 ⟨by decide, t⟩
  · refine g3 c_218_34 rfl ?_
    refine gif c_218_35 (gbn t (ab_c1 _ _) rfl (fun hc t => ?_) (fun hc t => ?_))
    · refine g5 c_218_38 rfl ?_
      refine g3 c_218_39 rfl ?_
      exact g80 (As := [.int x1]) (rest := []) c_218_40 rfl rfl (Nat.le_of_ble_eq_true rfl) (Nat.le_of_ble_eq_true rfl) t.1 t.2
    · refine g3 c_218_45 rfl ?_
      refine g1 c_218_46 k_2 ?_
      refine gcm c_218_47 (gbn t (ab_c1 _ _) rfl (fun hc t => ?_) (fun hc t => ?_))
      · refine g5 c_218_50 rfl ?_
        refine g3 c_218_51 rfl ?_
        exact g80 (As := [.int x3]) (rest := []) c_218_52 rfl rfl (Nat.le_of_ble_eq_true rfl) (Nat.le_of_ble_eq_true rfl) t.1 t.2
      · refine g3 c_218_75 rfl ?_
        refine g1 c_218_76 k_2 ?_
        refine gcm c_218_77 (gbr t rfl rfl (fun hc t => ?_) (fun hc t => ?_))
        · refine g3 c_218_90 rfl ?_
          refine g1 c_218_91 k_2 ?_
          refine gcm c_218_92 (gbn t (ab_c1 _ _) rfl (fun hc t => ?_) (fun hc t => ?_))
          · refine g5 c_218_95 rfl ?_
            refine g3 c_218_96 rfl ?_
            refine g1 c_218_97 k_4 ?_
            exact g80 (As := [.int x3, .int 4]) (rest := []) c_218_98 rfl rfl (Nat.le_of_ble_eq_true rfl) (Nat.le_of_ble_eq_true rfl) t.1 t.2
          · refine g3 c_218_104 rfl ?_
            refine g6 (L' := [.ref x0, .int x1, .int x2, .int x3, .int x4, .int x3, .retAddr 0]) c_218_105 rfl ?_
            refine g5 c_218_107 rfl ?_
            refine g3 c_218_108 rfl ?_
            refine g1 c_218_110 k_5 ?_
            exact g80 (As := [.int x3, .int 5]) (rest := []) c_218_111 rfl rfl (Nat.le_of_ble_eq_true rfl) (Nat.le_of_ble_eq_true rfl) t.1 t.2
        · refine g5 c_218_80 rfl ?_
          refine g3 c_218_81 rfl ?_
          exact g80 (As := [.int x3]) (rest := []) c_218_82 rfl rfl (Nat.le_of_ble_eq_true rfl) (Nat.le_of_ble_eq_true rfl) t.1 t.2
set_option maxRecDepth 20000 in
theorem t_218_43 {d : Nat} {h : ab_H} {Q : Option Value → ab_H → Prop} {x0 : Nat} {x1 : Int32} {x2 : Int32} {x3 : Int32} {x4 : Int32} (t : Q (some (.int 1)) h) : wq d 218 43 [.ref x0, .int x1, .int x2, .int x3, .int x4, .retAddr 0, .retAddr 0] [] h Q := by
  refine g1 c_218_43 k_1 ?_
  exact g91 c_218_44 ⟨by decide, t⟩
set_option maxRecDepth 20000 in
theorem t_218_55 {d : Nat} {h : ab_H} {Q : Option Value → ab_H → Prop} {x0 : Nat} {x1 : Int32} {x2 : Int32} {x3 : Int32} {x4 : Int32} {s0 : Int32} (t : if s0 = 0 then (Q (some (.int 0)) h) else (if x3 = x1 then (Q (some (.int 0)) h) else (ab_ok h x0 112 = true ∧ wm d 199 [.ref x0, .int x3, .int 3] h (fun r9 h9 => wq (d + 1) 218 69 [.ref x0, .int x1, .int x2, .int x3, .int x4, .retAddr 0, .retAddr 0] (r9.toList ++ []) h9 Q)))) : wq (d + 1) 218 55 [.ref x0, .int x1, .int x2, .int x3, .int x4, .retAddr 0, .retAddr 0] [.int s0] h Q := by
  refine gif c_218_55 (gbr t rfl rfl (fun hc t => ?_) (fun hc t => ?_))
  · refine g1 c_218_73 k_0 ?_
    exact g91 c_218_74 ⟨by decide, t⟩
  · refine g3 c_218_58 rfl ?_
    refine g3 c_218_59 rfl ?_
    refine gcm c_218_60 (gbr t rfl rfl (fun hc t => ?_) (fun hc t => ?_))
    · refine g1 c_218_73 k_0 ?_
      exact g91 c_218_74 ⟨by decide, t⟩
    · refine g5 c_218_63 rfl ?_
      refine g3 c_218_64 rfl ?_
      refine g1 c_218_65 k_3 ?_
      exact g80 (As := [.int x3, .int 3]) (rest := []) c_218_66 rfl rfl (Nat.le_of_ble_eq_true rfl) (Nat.le_of_ble_eq_true rfl) t.1 t.2
set_option maxRecDepth 20000 in
theorem t_218_69 {d : Nat} {h : ab_H} {Q : Option Value → ab_H → Prop} {x0 : Nat} {x1 : Int32} {x2 : Int32} {x3 : Int32} {x4 : Int32} {s0 : Int32} (t : if s0 = 1 then (if x2 = 2 then (if x2 = 2 then (ab_ok h x0 112 = true ∧ wm d 199 [.ref x0, .int x3, .int 4] h (fun r9 h9 => wq (d + 1) 218 101 [.ref x0, .int x1, .int x2, .int x3, .int x4, .retAddr 0, .retAddr 0] (r9.toList ++ []) h9 Q)) else (ab_ok h x0 112 = true ∧ wm d 198 [.ref x0, .int x3, .int 5] h (fun r9 h9 => wq (d + 1) 218 114 [.ref x0, .int x1, .int x2, .int x3, .int x4, .int x3, .retAddr 0] (r9.toList ++ []) h9 Q))) else (ab_ok h x0 112 = true ∧ wm d 201 [.ref x0, .int x3] h (fun r9 h9 => wq (d + 1) 218 85 [.ref x0, .int x1, .int x2, .int x3, .int x4, .retAddr 0, .retAddr 0] (r9.toList ++ []) h9 Q))) else (Q (some (.int 0)) h)) : wq (d + 1) 218 69 [.ref x0, .int x1, .int x2, .int x3, .int x4, .retAddr 0, .retAddr 0] [.int s0] h Q := by
  refine g1 c_218_69 k_1 ?_
  refine gcm c_218_70 (gbr t rfl rfl (fun hc t => ?_) (fun hc t => ?_))
  · refine g3 c_218_75 rfl ?_
    refine g1 c_218_76 k_2 ?_
    refine gcm c_218_77 (gbr t rfl rfl (fun hc t => ?_) (fun hc t => ?_))
    · refine g3 c_218_90 rfl ?_
      refine g1 c_218_91 k_2 ?_
      refine gcm c_218_92 (gbn t (ab_c1 _ _) rfl (fun hc t => ?_) (fun hc t => ?_))
      · refine g5 c_218_95 rfl ?_
        refine g3 c_218_96 rfl ?_
        refine g1 c_218_97 k_4 ?_
        exact g80 (As := [.int x3, .int 4]) (rest := []) c_218_98 rfl rfl (Nat.le_of_ble_eq_true rfl) (Nat.le_of_ble_eq_true rfl) t.1 t.2
      · refine g3 c_218_104 rfl ?_
        refine g6 (L' := [.ref x0, .int x1, .int x2, .int x3, .int x4, .int x3, .retAddr 0]) c_218_105 rfl ?_
        refine g5 c_218_107 rfl ?_
        refine g3 c_218_108 rfl ?_
        refine g1 c_218_110 k_5 ?_
        exact g80 (As := [.int x3, .int 5]) (rest := []) c_218_111 rfl rfl (Nat.le_of_ble_eq_true rfl) (Nat.le_of_ble_eq_true rfl) t.1 t.2
    · refine g5 c_218_80 rfl ?_
      refine g3 c_218_81 rfl ?_
      exact g80 (As := [.int x3]) (rest := []) c_218_82 rfl rfl (Nat.le_of_ble_eq_true rfl) (Nat.le_of_ble_eq_true rfl) t.1 t.2
  · refine g1 c_218_73 k_0 ?_
    exact g91 c_218_74 ⟨by decide, t⟩
set_option maxRecDepth 20000 in
theorem t_218_85 {d : Nat} {h : ab_H} {Q : Option Value → ab_H → Prop} {x0 : Nat} {x1 : Int32} {x2 : Int32} {x3 : Int32} {x4 : Int32} {s0 : Int32} (t : if s0 = 0 then (Q (some (.int 0)) h) else (if x2 = 2 then (ab_ok h x0 112 = true ∧ wm d 199 [.ref x0, .int x3, .int 4] h (fun r9 h9 => wq (d + 1) 218 101 [.ref x0, .int x1, .int x2, .int x3, .int x4, .retAddr 0, .retAddr 0] (r9.toList ++ []) h9 Q)) else (ab_ok h x0 112 = true ∧ wm d 198 [.ref x0, .int x3, .int 5] h (fun r9 h9 => wq (d + 1) 218 114 [.ref x0, .int x1, .int x2, .int x3, .int x4, .int x3, .retAddr 0] (r9.toList ++ []) h9 Q)))) : wq (d + 1) 218 85 [.ref x0, .int x1, .int x2, .int x3, .int x4, .retAddr 0, .retAddr 0] [.int s0] h Q := by
  refine gif c_218_85 (gbn t (ab_c1 _ _) rfl (fun hc t => ?_) (fun hc t => ?_))
  · refine g1 c_218_88 k_0 ?_
    exact g91 c_218_89 ⟨by decide, t⟩
  · refine g3 c_218_90 rfl ?_
    refine g1 c_218_91 k_2 ?_
    refine gcm c_218_92 (gbn t (ab_c1 _ _) rfl (fun hc t => ?_) (fun hc t => ?_))
    · refine g5 c_218_95 rfl ?_
      refine g3 c_218_96 rfl ?_
      refine g1 c_218_97 k_4 ?_
      exact g80 (As := [.int x3, .int 4]) (rest := []) c_218_98 rfl rfl (Nat.le_of_ble_eq_true rfl) (Nat.le_of_ble_eq_true rfl) t.1 t.2
    · refine g3 c_218_104 rfl ?_
      refine g6 (L' := [.ref x0, .int x1, .int x2, .int x3, .int x4, .int x3, .retAddr 0]) c_218_105 rfl ?_
      refine g5 c_218_107 rfl ?_
      refine g3 c_218_108 rfl ?_
      refine g1 c_218_110 k_5 ?_
      exact g80 (As := [.int x3, .int 5]) (rest := []) c_218_111 rfl rfl (Nat.le_of_ble_eq_true rfl) (Nat.le_of_ble_eq_true rfl) t.1 t.2
set_option maxRecDepth 20000 in
theorem t_218_101 {d : Nat} {h : ab_H} {Q : Option Value → ab_H → Prop} {x0 : Nat} {x1 : Int32} {x2 : Int32} {x3 : Int32} {x4 : Int32} {s0 : Int32} (t : ab_ok h x0 112 = true ∧ wm d 198 [.ref x0, .int s0, .int 5] h (fun r9 h9 => wq (d + 1) 218 114 [.ref x0, .int x1, .int x2, .int x3, .int x4, .int s0, .retAddr 0] (r9.toList ++ []) h9 Q)) : wq (d + 1) 218 101 [.ref x0, .int x1, .int x2, .int x3, .int x4, .retAddr 0, .retAddr 0] [.int s0] h Q := by
  refine g38 c_218_101 rfl ?_
  refine g6 (L' := [.ref x0, .int x1, .int x2, .int x3, .int x4, .int s0, .retAddr 0]) c_218_105 rfl ?_
  refine g5 c_218_107 rfl ?_
  refine g3 c_218_108 rfl ?_
  refine g1 c_218_110 k_5 ?_
  exact g80 (As := [.int s0, .int 5]) (rest := []) c_218_111 rfl rfl (Nat.le_of_ble_eq_true rfl) (Nat.le_of_ble_eq_true rfl) t.1 t.2
set_option maxRecDepth 20000 in
theorem t_218_114 {d : Nat} {h : ab_H} {Q : Option Value → ab_H → Prop} {x0 : Nat} {x1 : Int32} {x2 : Int32} {x3 : Int32} {x4 : Int32} {x5 : Int32} {s0 : Int32} (t : if s0 = 1 then (Q (some (.int 0)) h) else (if x2 = 1 then (wm d 196 [.int x4, .int 1, .int 6] h (fun r9 h9 => wq (d + 1) 218 145 [.ref x0, .int x1, .int x2, .int x3, .int x4, .int x5, .retAddr 0] (r9.toList ++ []) h9 Q)) else (if x2 = 2 then (wm d 196 [.int x4, .int 1, .int 2] h (fun r9 h9 => wq (d + 1) 218 145 [.ref x0, .int x1, .int x2, .int x3, .int x4, .int x5, .retAddr 0] (r9.toList ++ []) h9 Q)) else (wm d 196 [.int x4, .int 1, .int 50] h (fun r9 h9 => wq (d + 1) 218 145 [.ref x0, .int x1, .int x2, .int x3, .int x4, .int x5, .retAddr 0] (r9.toList ++ []) h9 Q))))) : wq (d + 1) 218 114 [.ref x0, .int x1, .int x2, .int x3, .int x4, .int x5, .retAddr 0] [.int s0] h Q := by
  refine g1 c_218_114 k_1 ?_
  refine gcm c_218_115 (gbr t rfl rfl (fun hc t => ?_) (fun hc t => ?_))
  · refine g1 c_218_148 k_0 ?_
    exact g91 c_218_149 ⟨by decide, t⟩
  · refine g3 c_218_118 rfl ?_
    refine g1 c_218_120 k_1 ?_
    refine g3 c_218_121 rfl ?_
    refine g1 c_218_122 k_1 ?_
    refine gcm c_218_123 (gbn t (ab_c1 _ _) rfl (fun hc t => ?_) (fun hc t => ?_))
    · refine g1 c_218_126 k_6 ?_
      refine g38 c_218_128 rfl ?_
      exact g81 (As := [.int x4, .int 1, .int 6]) (rest := []) c_218_142 rfl rfl (Nat.le_of_ble_eq_true rfl) (Nat.le_of_ble_eq_true rfl) t
    · refine g3 c_218_131 rfl ?_
      refine g1 c_218_132 k_2 ?_
      refine gcm c_218_133 (gbn t (ab_c1 _ _) rfl (fun hc t => ?_) (fun hc t => ?_))
      · refine g1 c_218_136 k_2 ?_
        refine g38 c_218_137 rfl ?_
        exact g81 (As := [.int x4, .int 1, .int 2]) (rest := []) c_218_142 rfl rfl (Nat.le_of_ble_eq_true rfl) (Nat.le_of_ble_eq_true rfl) t
      · refine g1 c_218_140 k_50 ?_
        exact g81 (As := [.int x4, .int 1, .int 50]) (rest := []) c_218_142 rfl rfl (Nat.le_of_ble_eq_true rfl) (Nat.le_of_ble_eq_true rfl) t
set_option maxRecDepth 20000 in
theorem t_218_145 {d : Nat} {h : ab_H} {Q : Option Value → ab_H → Prop} {x0 : Nat} {x1 : Int32} {x2 : Int32} {x3 : Int32} {x4 : Int32} {x5 : Int32} {s0 : Int32} (t : if s0 = 0 then (Q (some (.int 0)) h) else (if x2 = 4 then (ab_ok h x0 112 = true ∧ wm d 199 [.ref x0, .int x1, .int 1] h (fun r9 h9 => wq (d + 1) 218 161 [.ref x0, .int x1, .int x2, .int x3, .int x4, .int x5, .retAddr 0] (r9.toList ++ []) h9 Q)) else (if 2 < x2 then (ab_ok h x0 112 = true ∧ wm d 217 [.ref x0, .int x1] h (fun r9 h9 => wq (d + 1) 218 198 [.ref x0, .int x1, .int x2, .int x3, .int x4, .int x5, .retAddr 0] (r9.toList ++ []) h9 Q)) else (ab_ok h x0 112 = true ∧ wm d 215 [.ref x0, .int x5, .int x1] h (fun r9 h9 => wq (d + 1) 218 178 [.ref x0, .int x1, .int x2, .int x3, .int x4, .int x5, .retAddr 0] (r9.toList ++ []) h9 Q))))) : wq (d + 1) 218 145 [.ref x0, .int x1, .int x2, .int x3, .int x4, .int x5, .retAddr 0] [.int s0] h Q := by
  refine gif c_218_145 (gbn t (ab_c1 _ _) rfl (fun hc t => ?_) (fun hc t => ?_))
  · refine g1 c_218_148 k_0 ?_
    exact g91 c_218_149 ⟨by decide, t⟩
  · refine g3 c_218_150 rfl ?_
    refine g1 c_218_151 k_4 ?_
    refine gcm c_218_152 (gbn t (ab_c1 _ _) rfl (fun hc t => ?_) (fun hc t => ?_))
    · refine g5 c_218_155 rfl ?_
      refine g3 c_218_156 rfl ?_
      refine g1 c_218_157 k_1 ?_
      exact g80 (As := [.int x1, .int 1]) (rest := []) c_218_158 rfl rfl (Nat.le_of_ble_eq_true rfl) (Nat.le_of_ble_eq_true rfl) t.1 t.2
    · refine g3 c_218_166 rfl ?_
      refine g1 c_218_167 k_2 ?_
      refine gcm c_218_168 (gbr t rfl rfl (fun hc t => ?_) (fun hc t => ?_))
      · refine g5 c_218_193 rfl ?_
        refine g3 c_218_194 rfl ?_
        exact g80 (As := [.int x1]) (rest := []) c_218_195 rfl rfl (Nat.le_of_ble_eq_true rfl) (Nat.le_of_ble_eq_true rfl) t.1 t.2
      · refine g5 c_218_171 rfl ?_
        refine g3 c_218_172 rfl ?_
        refine g3 c_218_174 rfl ?_
        exact g80 (As := [.int x5, .int x1]) (rest := []) c_218_175 rfl rfl (Nat.le_of_ble_eq_true rfl) (Nat.le_of_ble_eq_true rfl) t.1 t.2
set_option maxRecDepth 20000 in
theorem t_218_161 {d : Nat} {h : ab_H} {Q : Option Value → ab_H → Prop} {x0 : Nat} {x1 : Int32} {x2 : Int32} {x3 : Int32} {x4 : Int32} {x5 : Int32} {s0 : Int32} (t : if 18 ≤ s0 then (Q (some (.int 0)) h) else (if 2 < x2 then (ab_ok h x0 112 = true ∧ wm d 217 [.ref x0, .int x1] h (fun r9 h9 => wq (d + 1) 218 198 [.ref x0, .int x1, .int x2, .int x3, .int x4, .int x5, .retAddr 0] (r9.toList ++ []) h9 Q)) else (ab_ok h x0 112 = true ∧ wm d 215 [.ref x0, .int x5, .int x1] h (fun r9 h9 => wq (d + 1) 218 178 [.ref x0, .int x1, .int x2, .int x3, .int x4, .int x5, .retAddr 0] (r9.toList ++ []) h9 Q)))) : wq (d + 1) 218 161 [.ref x0, .int x1, .int x2, .int x3, .int x4, .int x5, .retAddr 0] [.int s0] h Q := by
  refine g1 c_218_161 k_18 ?_
  refine gcm c_218_163 (gbr t rfl rfl (fun hc t => ?_) (fun hc t => ?_))
  · refine g1 c_218_191 k_0 ?_
    exact g91 c_218_192 ⟨by decide, t⟩
  · refine g3 c_218_166 rfl ?_
    refine g1 c_218_167 k_2 ?_
    refine gcm c_218_168 (gbr t rfl rfl (fun hc t => ?_) (fun hc t => ?_))
    · refine g5 c_218_193 rfl ?_
      refine g3 c_218_194 rfl ?_
      exact g80 (As := [.int x1]) (rest := []) c_218_195 rfl rfl (Nat.le_of_ble_eq_true rfl) (Nat.le_of_ble_eq_true rfl) t.1 t.2
    · refine g5 c_218_171 rfl ?_
      refine g3 c_218_172 rfl ?_
      refine g3 c_218_174 rfl ?_
      exact g80 (As := [.int x5, .int x1]) (rest := []) c_218_175 rfl rfl (Nat.le_of_ble_eq_true rfl) (Nat.le_of_ble_eq_true rfl) t.1 t.2
set_option maxRecDepth 20000 in
theorem t_218_178 {d : Nat} {h : ab_H} {Q : Option Value → ab_H → Prop} {x0 : Nat} {x1 : Int32} {x2 : Int32} {x3 : Int32} {x4 : Int32} {x5 : Int32} {s0 : Int32} (t : ab_ok h x0 112 = true ∧ wm d 198 [.ref x0, .int x5, .int 0] h (fun r9 h9 => wq (d + 1) 218 188 [.ref x0, .int x1, .int x2, .int x3, .int x4, .int x5, .retAddr 0] (r9.toList ++ [.int (s0 + x4)]) h9 Q)) : wq (d + 1) 218 178 [.ref x0, .int x1, .int x2, .int x3, .int x4, .int x5, .retAddr 0] [.int s0] h Q := by
  refine g3 c_218_178 rfl ?_
  refine g10 c_218_180 ?_
  refine g5 c_218_181 rfl ?_
  refine g3 c_218_182 rfl ?_
  refine g1 c_218_184 k_0 ?_
  exact g80 (As := [.int x5, .int 0]) (rest := [.int (s0 + x4)]) c_218_185 rfl rfl (Nat.le_of_ble_eq_true rfl) (Nat.le_of_ble_eq_true rfl) t.1 t.2
set_option maxRecDepth 20000 in
theorem t_218_188 {d : Nat} {h : ab_H} {Q : Option Value → ab_H → Prop} {x0 : Nat} {x1 : Int32} {x2 : Int32} {x3 : Int32} {x4 : Int32} {x5 : Int32} {s0 : Int32} {s1 : Int32} (t : if s0 ≤ s1 then (ab_ok h x0 112 = true ∧ wm d 217 [.ref x0, .int x1] h (fun r9 h9 => wq (d + 1) 218 198 [.ref x0, .int x1, .int x2, .int x3, .int x4, .int x5, .retAddr 0] (r9.toList ++ []) h9 Q)) else (Q (some (.int 0)) h)) : wq (d + 1) 218 188 [.ref x0, .int x1, .int x2, .int x3, .int x4, .int x5, .retAddr 0] [.int s1, .int s0] h Q := by
  refine gcm c_218_188 (gbr t rfl rfl (fun hc t => ?_) (fun hc t => ?_))
  · refine g5 c_218_193 rfl ?_
    refine g3 c_218_194 rfl ?_
    exact g80 (As := [.int x1]) (rest := []) c_218_195 rfl rfl (Nat.le_of_ble_eq_true rfl) (Nat.le_of_ble_eq_true rfl) t.1 t.2
  · refine g1 c_218_191 k_0 ?_
    exact g91 c_218_192 ⟨by decide, t⟩
set_option maxRecDepth 20000 in
theorem t_218_198 {d : Nat} {h : ab_H} {Q : Option Value → ab_H → Prop} {x0 : Nat} {x1 : Int32} {x2 : Int32} {x3 : Int32} {x4 : Int32} {x5 : Int32} (t : ab_ok h x0 112 = true ∧ ∃ j1 : Nat, ab_r h x0 0 = some j1 ∧ (ab_ok h j1 0 = true ∧ ab_in ((3652 + (12 * x1)) + 3) (ab_s h j1).2 = true) ∧ ∀ h2 : ab_H, h2 = ab_pi h j1 (Int32.toNatClampNeg ((3652 + (12 * x1)) + 3)) x2 → ab_ok h2 x0 112 = true ∧ ∃ j3 : Nat, ab_r h2 x0 0 = some j3 ∧ (ab_ok h2 j3 0 = true ∧ ab_in ((3652 + (12 * x1)) + 4) (ab_s h2 j3).2 = true) ∧ ∀ h4 : ab_H, h4 = ab_pi h2 j3 (Int32.toNatClampNeg ((3652 + (12 * x1)) + 4)) x5 → ab_ok h4 x0 112 = true ∧ ∃ j5 : Nat, ab_r h4 x0 0 = some j5 ∧ (ab_ok h4 j5 0 = true ∧ ab_in ((3652 + (12 * x1)) + 5) (ab_s h4 j5).2 = true) ∧ ∀ h6 : ab_H, h6 = ab_pi h4 j5 (Int32.toNatClampNeg ((3652 + (12 * x1)) + 5)) x4 → ab_ok h6 x0 112 = true ∧ ∃ j7 : Nat, ab_r h6 x0 0 = some j7 ∧ if x2 = 2 then ((ab_ok h6 j7 0 = true ∧ ab_in ((3652 + (12 * x1)) + 6) (ab_s h6 j7).2 = true) ∧ ∀ h8 : ab_H, h8 = ab_pi h6 j7 (Int32.toNatClampNeg ((3652 + (12 * x1)) + 6)) x3 → Q (some (.int 1)) h8) else ((ab_ok h6 j7 0 = true ∧ ab_in ((3652 + (12 * x1)) + 6) (ab_s h6 j7).2 = true) ∧ ∀ h9 : ab_H, h9 = ab_pi h6 j7 (Int32.toNatClampNeg ((3652 + (12 * x1)) + 6)) (-1) → Q (some (.int 1)) h9)) : wq d 218 198 [.ref x0, .int x1, .int x2, .int x3, .int x4, .int x5, .retAddr 0] [] h Q := by
  refine g1 c_218_198 k_3652 ?_
  refine g1 c_218_201 k_12 ?_
  refine g3 c_218_203 rfl ?_
  refine g12 c_218_204 ?_
  refine g10 c_218_205 ?_
  refine g6 (L' := [.ref x0, .int x1, .int x2, .int x3, .int x4, .int x5, .int (3652 + (12 * x1))]) c_218_206 rfl ?_
  refine g5 c_218_208 rfl ?_
  obtain ⟨ho, j1, hr, t⟩ := t
  refine g45 c_218_209 ho hr ?_
  refine g3 c_218_212 rfl ?_
  refine g1 c_218_214 k_3 ?_
  refine g10 c_218_215 ?_
  refine g3 c_218_216 rfl ?_
  obtain ⟨ho, t⟩ := t
  refine g54 c_218_217 ho (fun h2 eh2 => ?_)
  have t := t h2 eh2
  refine g5 c_218_218 rfl ?_
  obtain ⟨ho, j3, hr, t⟩ := t
  refine g45 c_218_219 ho hr ?_
  refine g3 c_218_222 rfl ?_
  refine g1 c_218_224 k_4 ?_
  refine g10 c_218_225 ?_
  refine g3 c_218_226 rfl ?_
  obtain ⟨ho, t⟩ := t
  refine g54 c_218_228 ho (fun h4 eh4 => ?_)
  have t := t h4 eh4
  refine g5 c_218_229 rfl ?_
  obtain ⟨ho, j5, hr, t⟩ := t
  refine g45 c_218_230 ho hr ?_
  refine g3 c_218_233 rfl ?_
  refine g1 c_218_235 k_5 ?_
  refine g10 c_218_236 ?_
  refine g3 c_218_237 rfl ?_
  obtain ⟨ho, t⟩ := t
  refine g54 c_218_239 ho (fun h6 eh6 => ?_)
  have t := t h6 eh6
  refine g5 c_218_240 rfl ?_
  obtain ⟨ho, j7, hr, t⟩ := t
  refine g45 c_218_241 ho hr ?_
  refine g3 c_218_244 rfl ?_
  refine g1 c_218_246 k_6 ?_
  refine g10 c_218_248 ?_
  refine g3 c_218_249 rfl ?_
  refine g1 c_218_250 k_2 ?_
  refine gcm c_218_251 (gbn t (ab_c1 _ _) rfl (fun hc t => ?_) (fun hc t => ?_))
  · refine g3 c_218_254 rfl ?_
    refine g38 c_218_255 rfl ?_
    obtain ⟨ho, t⟩ := t
    refine g54 c_218_259 ho (fun h8 eh8 => ?_)
    have t := t h8 eh8
    refine g1 c_218_260 k_1 ?_
    exact g91 c_218_261 ⟨by decide, t⟩
  · refine g1 c_218_258 k_m1 ?_
    obtain ⟨ho, t⟩ := t
    refine g54 c_218_259 ho (fun h9 eh9 => ?_)
    have t := t h9 eh9
    refine g1 c_218_260 k_1 ?_
    exact g91 c_218_261 ⟨by decide, t⟩
-- method 219: MillTownModel.force(IIII)I
theorem c_219_0 : pg_cd 219 0 = (3, 1, 0, 1, 0) := by decide +kernel
theorem c_219_1 : pg_cd 219 1 = (1, 1, 0, 0, 0) := by decide +kernel
theorem c_219_2 : pg_cd 219 2 = (5, 1, 0, 0, 0) := by decide +kernel
theorem c_219_3 : pg_cd 219 3 = (45, 12, 8, 0, 0) := by decide +kernel
theorem c_219_6 : pg_cd 219 6 = (1, 1, 0, 0, 5) := by decide +kernel
theorem c_219_7 : pg_cd 219 7 = (50, 1, 0, 0, 0) := by decide +kernel
theorem c_219_8 : pg_cd 219 8 = (1, 1, 0, 0, 1) := by decide +kernel
theorem c_219_9 : pg_cd 219 9 = (11, 1, 0, 0, 0) := by decide +kernel
theorem c_219_10 : pg_cd 219 10 = (81, 196, 76, 0, 0) := by decide +kernel
theorem c_219_13 : pg_cd 219 13 = (36, 3, 0, 0, 56) := by decide +kernel
theorem c_219_16 : pg_cd 219 16 = (3, 1, 0, 2, 0) := by decide +kernel
theorem c_219_17 : pg_cd 219 17 = (1, 1, 0, 0, (-1)) := by decide +kernel
theorem c_219_18 : pg_cd 219 18 = (37, 3, 0, 0, 11) := by decide +kernel
theorem c_219_21 : pg_cd 219 21 = (5, 1, 0, 0, 0) := by decide +kernel
theorem c_219_22 : pg_cd 219 22 = (3, 1, 0, 2, 0) := by decide +kernel
theorem c_219_23 : pg_cd 219 23 = (80, 201, 115, 0, 0) := by decide +kernel
theorem c_219_26 : pg_cd 219 26 = (36, 3, 0, 0, 43) := by decide +kernel
theorem c_219_29 : pg_cd 219 29 = (3, 1, 0, 3, 0) := by decide +kernel
theorem c_219_30 : pg_cd 219 30 = (5, 1, 0, 0, 0) := by decide +kernel
theorem c_219_31 : pg_cd 219 31 = (45, 12, 8, 0, 0) := by decide +kernel
theorem c_219_34 : pg_cd 219 34 = (1, 1, 0, 0, 0) := by decide +kernel
theorem c_219_35 : pg_cd 219 35 = (50, 1, 0, 0, 0) := by decide +kernel
theorem c_219_36 : pg_cd 219 36 = (1, 3, 0, 0, 399) := by decide +kernel
theorem c_219_39 : pg_cd 219 39 = (81, 196, 76, 0, 0) := by decide +kernel
theorem c_219_42 : pg_cd 219 42 = (36, 3, 0, 0, 27) := by decide +kernel
theorem c_219_45 : pg_cd 219 45 = (3, 2, 0, 4, 0) := by decide +kernel
theorem c_219_47 : pg_cd 219 47 = (3, 1, 0, 3, 0) := by decide +kernel
theorem c_219_48 : pg_cd 219 48 = (1, 3, 0, 0, 399) := by decide +kernel
theorem c_219_51 : pg_cd 219 51 = (81, 196, 76, 0, 0) := by decide +kernel
theorem c_219_54 : pg_cd 219 54 = (36, 3, 0, 0, 15) := by decide +kernel
theorem c_219_57 : pg_cd 219 57 = (5, 1, 0, 0, 0) := by decide +kernel
theorem c_219_58 : pg_cd 219 58 = (45, 12, 8, 0, 0) := by decide +kernel
theorem c_219_61 : pg_cd 219 61 = (1, 2, 0, 0, 6) := by decide +kernel
theorem c_219_63 : pg_cd 219 63 = (50, 1, 0, 0, 0) := by decide +kernel
theorem c_219_64 : pg_cd 219 64 = (1, 2, 0, 0, 60) := by decide +kernel
theorem c_219_66 : pg_cd 219 66 = (37, 3, 0, 1, 5) := by decide +kernel
theorem c_219_69 : pg_cd 219 69 = (1, 1, 0, 0, (-1)) := by decide +kernel
theorem c_219_70 : pg_cd 219 70 = (90, 0, 0, 0, 0) := by decide +kernel
theorem c_219_71 : pg_cd 219 71 = (5, 1, 0, 0, 0) := by decide +kernel
theorem c_219_72 : pg_cd 219 72 = (3, 1, 0, 1, 0) := by decide +kernel
theorem c_219_73 : pg_cd 219 73 = (3, 1, 0, 2, 0) := by decide +kernel
theorem c_219_74 : pg_cd 219 74 = (3, 1, 0, 3, 0) := by decide +kernel
theorem c_219_75 : pg_cd 219 75 = (3, 2, 0, 4, 0) := by decide +kernel
theorem c_219_77 : pg_cd 219 77 = (80, 220, 124, 0, 0) := by decide +kernel
theorem c_219_80 : pg_cd 219 80 = (5, 1, 0, 0, 0) := by decide +kernel
theorem c_219_81 : pg_cd 219 81 = (45, 12, 8, 0, 0) := by decide +kernel
theorem c_219_84 : pg_cd 219 84 = (1, 2, 0, 0, 6) := by decide +kernel
theorem c_219_86 : pg_cd 219 86 = (50, 1, 0, 0, 0) := by decide +kernel
theorem c_219_87 : pg_cd 219 87 = (1, 1, 0, 0, 1) := by decide +kernel
theorem c_219_88 : pg_cd 219 88 = (11, 1, 0, 0, 0) := by decide +kernel
theorem c_219_89 : pg_cd 219 89 = (90, 0, 0, 0, 0) := by decide +kernel
theorem mx_219 : pg_mx 219 = 5 := by decide +kernel
theorem m_219 {d : Nat} {h : ab_H} {Q : Option Value → ab_H → Prop} {x0 : Nat} {x1 : Int32} {x2 : Int32} {x3 : Int32} {x4 : Int32} (t : wq d 219 0 [.ref x0, .int x1, .int x2, .int x3, .int x4] [] h Q) : wm d 219 [.ref x0, .int x1, .int x2, .int x3, .int x4] h Q := by
  unfold wm
  rw [mx_219]
  exact t
set_option maxRecDepth 20000 in
theorem t_219_0 {d : Nat} {h : ab_H} {Q : Option Value → ab_H → Prop} {x0 : Nat} {x1 : Int32} {x2 : Int32} {x3 : Int32} {x4 : Int32} (t : ab_ok h x0 112 = true ∧ ∃ j1 : Nat, ab_r h x0 0 = some j1 ∧ ((j1 = 0 ∨ ab_ok h j1 0 = true) ∧ ab_in (5 : Int32) (ab_s h j1).2 = true) ∧ wm d 196 [.int x1, .int 0, .int ((ab_i h j1 (Int32.toNatClampNeg (5 : Int32))) - 1)] h (fun r9 h9 => wq (d + 1) 219 13 [.ref x0, .int x1, .int x2, .int x3, .int x4] (r9.toList ++ []) h9 Q)) : wq (d + 1) 219 0 [.ref x0, .int x1, .int x2, .int x3, .int x4] [] h Q := by
  refine g3 c_219_0 rfl ?_
  refine g1 c_219_1 k_0 ?_
  refine g5 c_219_2 rfl ?_
  obtain ⟨ho, j1, hr, t⟩ := t
  refine g45 c_219_3 ho hr ?_
  refine g1 c_219_6 k_5 ?_
  obtain ⟨ho, t⟩ := t
  refine g50 c_219_7 ho ?_
  refine g1 c_219_8 k_1 ?_
  refine g11 c_219_9 ?_
  exact g81 (As := [.int x1, .int 0, .int ((ab_i h j1 (Int32.toNatClampNeg (5 : Int32))) - 1)]) (rest := []) c_219_10 rfl rfl (Nat.le_of_ble_eq_true rfl) (Nat.le_of_ble_eq_true rfl) t
set_option maxRecDepth 20000 in
theorem t_219_13 {d : Nat} {h : ab_H} {Q : Option Value → ab_H → Prop} {x0 : Nat} {x1 : Int32} {x2 : Int32} {x3 : Int32} {x4 : Int32} {s0 : Int32} (t : if s0 = 0 then (Q (some (.int (-1))) h) else (if x2 = (-1) then (ab_ok h x0 112 = true ∧ ∃ j1 : Nat, ab_r h x0 0 = some j1 ∧ ((j1 = 0 ∨ ab_ok h j1 0 = true) ∧ ab_in (0 : Int32) (ab_s h j1).2 = true) ∧ wm d 196 [.int x3, .int (ab_i h j1 (Int32.toNatClampNeg (0 : Int32))), .int 399] h (fun r9 h9 => wq (d + 1) 219 42 [.ref x0, .int x1, .int x2, .int x3, .int x4] (r9.toList ++ []) h9 Q)) else (ab_ok h x0 112 = true ∧ wm d 201 [.ref x0, .int x2] h (fun r9 h9 => wq (d + 1) 219 26 [.ref x0, .int x1, .int x2, .int x3, .int x4] (r9.toList ++ []) h9 Q)))) : wq (d + 1) 219 13 [.ref x0, .int x1, .int x2, .int x3, .int x4] [.int s0] h Q := by
  refine gif c_219_13 (gbr t rfl rfl (fun hc t => ?_) (fun hc t => ?_))
  · refine g1 c_219_69 k_m1 ?_
    exact g90 c_219_70 t
  · refine g3 c_219_16 rfl ?_
    refine g1 c_219_17 k_m1 ?_
    refine gcm c_219_18 (gbr t rfl rfl (fun hc t => ?_) (fun hc t => ?_))
    · refine g3 c_219_29 rfl ?_
      refine g5 c_219_30 rfl ?_
      obtain ⟨ho, j1, hr, t⟩ := t
      refine g45 c_219_31 ho hr ?_
      refine g1 c_219_34 k_0 ?_
      obtain ⟨ho, t⟩ := t
      refine g50 c_219_35 ho ?_
      refine g1 c_219_36 k_399 ?_
      exact g81 (As := [.int x3, .int (ab_i h j1 (Int32.toNatClampNeg (0 : Int32))), .int 399]) (rest := []) c_219_39 rfl rfl (Nat.le_of_ble_eq_true rfl) (Nat.le_of_ble_eq_true rfl) t
    · refine g5 c_219_21 rfl ?_
      refine g3 c_219_22 rfl ?_
      exact g80 (As := [.int x2]) (rest := []) c_219_23 rfl rfl (Nat.le_of_ble_eq_true rfl) (Nat.le_of_ble_eq_true rfl) t.1 t.2
set_option maxRecDepth 20000 in
theorem t_219_26 {d : Nat} {h : ab_H} {Q : Option Value → ab_H → Prop} {x0 : Nat} {x1 : Int32} {x2 : Int32} {x3 : Int32} {x4 : Int32} {s0 : Int32} (t : if s0 = 0 then (Q (some (.int (-1))) h) else (ab_ok h x0 112 = true ∧ ∃ j1 : Nat, ab_r h x0 0 = some j1 ∧ ((j1 = 0 ∨ ab_ok h j1 0 = true) ∧ ab_in (0 : Int32) (ab_s h j1).2 = true) ∧ wm d 196 [.int x3, .int (ab_i h j1 (Int32.toNatClampNeg (0 : Int32))), .int 399] h (fun r9 h9 => wq (d + 1) 219 42 [.ref x0, .int x1, .int x2, .int x3, .int x4] (r9.toList ++ []) h9 Q))) : wq (d + 1) 219 26 [.ref x0, .int x1, .int x2, .int x3, .int x4] [.int s0] h Q := by
  refine gif c_219_26 (gbr t rfl rfl (fun hc t => ?_) (fun hc t => ?_))
  · refine g1 c_219_69 k_m1 ?_
    exact g90 c_219_70 t
  · refine g3 c_219_29 rfl ?_
    refine g5 c_219_30 rfl ?_
    obtain ⟨ho, j1, hr, t⟩ := t
    refine g45 c_219_31 ho hr ?_
    refine g1 c_219_34 k_0 ?_
    obtain ⟨ho, t⟩ := t
    refine g50 c_219_35 ho ?_
    refine g1 c_219_36 k_399 ?_
    exact g81 (As := [.int x3, .int (ab_i h j1 (Int32.toNatClampNeg (0 : Int32))), .int 399]) (rest := []) c_219_39 rfl rfl (Nat.le_of_ble_eq_true rfl) (Nat.le_of_ble_eq_true rfl) t
set_option maxRecDepth 20000 in
theorem t_219_42 {d : Nat} {h : ab_H} {Q : Option Value → ab_H → Prop} {x0 : Nat} {x1 : Int32} {x2 : Int32} {x3 : Int32} {x4 : Int32} {s0 : Int32} (t : if s0 = 0 then (Q (some (.int (-1))) h) else (wm d 196 [.int x4, .int x3, .int 399] h (fun r9 h9 => wq (d + 1) 219 54 [.ref x0, .int x1, .int x2, .int x3, .int x4] (r9.toList ++ []) h9 Q))) : wq (d + 1) 219 42 [.ref x0, .int x1, .int x2, .int x3, .int x4] [.int s0] h Q := by
  refine gif c_219_42 (gbr t rfl rfl (fun hc t => ?_) (fun hc t => ?_))
  · refine g1 c_219_69 k_m1 ?_
    exact g90 c_219_70 t
  · refine g3 c_219_45 rfl ?_
    refine g3 c_219_47 rfl ?_
    refine g1 c_219_48 k_399 ?_
    exact g81 (As := [.int x4, .int x3, .int 399]) (rest := []) c_219_51 rfl rfl (Nat.le_of_ble_eq_true rfl) (Nat.le_of_ble_eq_true rfl) t
set_option maxRecDepth 20000 in
theorem t_219_54 {d : Nat} {h : ab_H} {Q : Option Value → ab_H → Prop} {x0 : Nat} {x1 : Int32} {x2 : Int32} {x3 : Int32} {x4 : Int32} {s0 : Int32} (t : if s0 = 0 then (Q (some (.int (-1))) h) else (ab_ok h x0 112 = true ∧ ∃ j1 : Nat, ab_r h x0 0 = some j1 ∧ ((j1 = 0 ∨ ab_ok h j1 0 = true) ∧ ab_in (6 : Int32) (ab_s h j1).2 = true) ∧ if (ab_i h j1 (Int32.toNatClampNeg (6 : Int32))) = 60 then (Q (some (.int (-1))) h) else (ab_ok h x0 112 = true ∧ wm d 220 [.ref x0, .int x1, .int x2, .int x3, .int x4] h (fun r9 h9 => wq (d + 1) 219 80 [.ref x0, .int x1, .int x2, .int x3, .int x4] (r9.toList ++ []) h9 Q)))) : wq (d + 1) 219 54 [.ref x0, .int x1, .int x2, .int x3, .int x4] [.int s0] h Q := by
  refine gif c_219_54 (gbr t rfl rfl (fun hc t => ?_) (fun hc t => ?_))
  · refine g1 c_219_69 k_m1 ?_
    exact g90 c_219_70 t
  · refine g5 c_219_57 rfl ?_
    obtain ⟨ho, j1, hr, t⟩ := t
    refine g45 c_219_58 ho hr ?_
    refine g1 c_219_61 k_6 ?_
    obtain ⟨ho, t⟩ := t
    refine g50 c_219_63 ho ?_
    refine g1 c_219_64 k_60 ?_
    refine gcm c_219_66 (gbn t (ab_c1 _ _) rfl (fun hc t => ?_) (fun hc t => ?_))
    · refine g1 c_219_69 k_m1 ?_
      exact g90 c_219_70 t
    · refine g5 c_219_71 rfl ?_
      refine g3 c_219_72 rfl ?_
      refine g3 c_219_73 rfl ?_
      refine g3 c_219_74 rfl ?_
      refine g3 c_219_75 rfl ?_
      exact g80 (As := [.int x1, .int x2, .int x3, .int x4]) (rest := []) c_219_77 rfl rfl (Nat.le_of_ble_eq_true rfl) (Nat.le_of_ble_eq_true rfl) t.1 t.2
set_option maxRecDepth 20000 in
theorem t_219_80 {d : Nat} {h : ab_H} {Q : Option Value → ab_H → Prop} {x0 : Nat} {x1 : Int32} {x2 : Int32} {x3 : Int32} {x4 : Int32} (t : ab_ok h x0 112 = true ∧ ∃ j1 : Nat, ab_r h x0 0 = some j1 ∧ ((j1 = 0 ∨ ab_ok h j1 0 = true) ∧ ab_in (6 : Int32) (ab_s h j1).2 = true) ∧ Q (some (.int ((ab_i h j1 (Int32.toNatClampNeg (6 : Int32))) - 1))) h) : wq d 219 80 [.ref x0, .int x1, .int x2, .int x3, .int x4] [] h Q := by
  refine g5 c_219_80 rfl ?_
  obtain ⟨ho, j1, hr, t⟩ := t
  refine g45 c_219_81 ho hr ?_
  refine g1 c_219_84 k_6 ?_
  obtain ⟨ho, t⟩ := t
  refine g50 c_219_86 ho ?_
  refine g1 c_219_87 k_1 ?_
  refine g11 c_219_88 ?_
  exact g90 c_219_89 t
-- method 220: MillTownModel.putForce(IIII)V
theorem c_220_0 : pg_cd 220 0 = (1, 3, 0, 0, 5012) := by decide +kernel
theorem c_220_3 : pg_cd 220 3 = (1, 2, 0, 0, 8) := by decide +kernel
theorem c_220_5 : pg_cd 220 5 = (5, 1, 0, 0, 0) := by decide +kernel
theorem c_220_6 : pg_cd 220 6 = (45, 12, 8, 0, 0) := by decide +kernel
theorem c_220_9 : pg_cd 220 9 = (1, 2, 0, 0, 6) := by decide +kernel
theorem c_220_11 : pg_cd 220 11 = (50, 1, 0, 0, 0) := by decide +kernel
theorem c_220_12 : pg_cd 220 12 = (12, 1, 0, 0, 0) := by decide +kernel
theorem c_220_13 : pg_cd 220 13 = (10, 1, 0, 0, 0) := by decide +kernel
theorem c_220_14 : pg_cd 220 14 = (6, 2, 0, 5, 0) := by decide +kernel
theorem c_220_16 : pg_cd 220 16 = (5, 1, 0, 0, 0) := by decide +kernel
theorem c_220_17 : pg_cd 220 17 = (45, 12, 8, 0, 0) := by decide +kernel
theorem c_220_20 : pg_cd 220 20 = (3, 2, 0, 5, 0) := by decide +kernel
theorem c_220_22 : pg_cd 220 22 = (3, 1, 0, 1, 0) := by decide +kernel
theorem c_220_23 : pg_cd 220 23 = (54, 1, 0, 0, 0) := by decide +kernel
theorem c_220_24 : pg_cd 220 24 = (5, 1, 0, 0, 0) := by decide +kernel
theorem c_220_25 : pg_cd 220 25 = (45, 12, 8, 0, 0) := by decide +kernel
theorem c_220_28 : pg_cd 220 28 = (3, 2, 0, 5, 0) := by decide +kernel
theorem c_220_30 : pg_cd 220 30 = (1, 1, 0, 0, 1) := by decide +kernel
theorem c_220_31 : pg_cd 220 31 = (10, 1, 0, 0, 0) := by decide +kernel
theorem c_220_32 : pg_cd 220 32 = (3, 1, 0, 2, 0) := by decide +kernel
theorem c_220_33 : pg_cd 220 33 = (54, 1, 0, 0, 0) := by decide +kernel
theorem c_220_34 : pg_cd 220 34 = (5, 1, 0, 0, 0) := by decide +kernel
theorem c_220_35 : pg_cd 220 35 = (45, 12, 8, 0, 0) := by decide +kernel
theorem c_220_38 : pg_cd 220 38 = (3, 2, 0, 5, 0) := by decide +kernel
theorem c_220_40 : pg_cd 220 40 = (1, 1, 0, 0, 2) := by decide +kernel
theorem c_220_41 : pg_cd 220 41 = (10, 1, 0, 0, 0) := by decide +kernel
theorem c_220_42 : pg_cd 220 42 = (3, 1, 0, 3, 0) := by decide +kernel
theorem c_220_43 : pg_cd 220 43 = (54, 1, 0, 0, 0) := by decide +kernel
theorem c_220_44 : pg_cd 220 44 = (5, 1, 0, 0, 0) := by decide +kernel
theorem c_220_45 : pg_cd 220 45 = (45, 12, 8, 0, 0) := by decide +kernel
theorem c_220_48 : pg_cd 220 48 = (3, 2, 0, 5, 0) := by decide +kernel
theorem c_220_50 : pg_cd 220 50 = (1, 1, 0, 0, 3) := by decide +kernel
theorem c_220_51 : pg_cd 220 51 = (10, 1, 0, 0, 0) := by decide +kernel
theorem c_220_52 : pg_cd 220 52 = (3, 2, 0, 4, 0) := by decide +kernel
theorem c_220_54 : pg_cd 220 54 = (54, 1, 0, 0, 0) := by decide +kernel
theorem c_220_55 : pg_cd 220 55 = (5, 1, 0, 0, 0) := by decide +kernel
theorem c_220_56 : pg_cd 220 56 = (45, 12, 8, 0, 0) := by decide +kernel
theorem c_220_59 : pg_cd 220 59 = (3, 2, 0, 5, 0) := by decide +kernel
theorem c_220_61 : pg_cd 220 61 = (1, 1, 0, 0, 4) := by decide +kernel
theorem c_220_62 : pg_cd 220 62 = (10, 1, 0, 0, 0) := by decide +kernel
theorem c_220_63 : pg_cd 220 63 = (5, 1, 0, 0, 0) := by decide +kernel
theorem c_220_64 : pg_cd 220 64 = (45, 12, 8, 0, 0) := by decide +kernel
theorem c_220_67 : pg_cd 220 67 = (1, 1, 0, 0, 0) := by decide +kernel
theorem c_220_68 : pg_cd 220 68 = (50, 1, 0, 0, 0) := by decide +kernel
theorem c_220_69 : pg_cd 220 69 = (54, 1, 0, 0, 0) := by decide +kernel
theorem c_220_70 : pg_cd 220 70 = (5, 1, 0, 0, 0) := by decide +kernel
theorem c_220_71 : pg_cd 220 71 = (45, 12, 8, 0, 0) := by decide +kernel
theorem c_220_74 : pg_cd 220 74 = (1, 2, 0, 0, 6) := by decide +kernel
theorem c_220_76 : pg_cd 220 76 = (34, 1, 0, 0, 0) := by decide +kernel
theorem c_220_77 : pg_cd 220 77 = (50, 1, 0, 0, 0) := by decide +kernel
theorem c_220_78 : pg_cd 220 78 = (1, 1, 0, 0, 1) := by decide +kernel
theorem c_220_79 : pg_cd 220 79 = (10, 1, 0, 0, 0) := by decide +kernel
theorem c_220_80 : pg_cd 220 80 = (54, 1, 0, 0, 0) := by decide +kernel
theorem c_220_81 : pg_cd 220 81 = (94, 0, 0, 0, 0) := by decide +kernel
theorem mx_220 : pg_mx 220 = 6 := by decide +kernel
theorem m_220 {d : Nat} {h : ab_H} {Q : Option Value → ab_H → Prop} {x0 : Nat} {x1 : Int32} {x2 : Int32} {x3 : Int32} {x4 : Int32} (t : wq d 220 0 [.ref x0, .int x1, .int x2, .int x3, .int x4, .retAddr 0] [] h Q) : wm d 220 [.ref x0, .int x1, .int x2, .int x3, .int x4] h Q := by
  unfold wm
  rw [mx_220]
  exact t
set_option maxRecDepth 20000 in
theorem t_220_0 {d : Nat} {h : ab_H} {Q : Option Value → ab_H → Prop} {x0 : Nat} {x1 : Int32} {x2 : Int32} {x3 : Int32} {x4 : Int32} (t : ab_ok h x0 112 = true ∧ ∃ j1 : Nat, ab_r h x0 0 = some j1 ∧ ((j1 = 0 ∨ ab_ok h j1 0 = true) ∧ ab_in (6 : Int32) (ab_s h j1).2 = true) ∧ ∀ y2 : Int32, y2 = (5012 + (8 * (ab_i h j1 (Int32.toNatClampNeg (6 : Int32))))) → ab_ok h x0 112 = true ∧ ∃ j3 : Nat, ab_r h x0 0 = some j3 ∧ (ab_ok h j3 0 = true ∧ ab_in y2 (ab_s h j3).2 = true) ∧ ∀ h4 : ab_H, h4 = ab_pi h j3 (Int32.toNatClampNeg y2) x1 → ab_ok h4 x0 112 = true ∧ ∃ j5 : Nat, ab_r h4 x0 0 = some j5 ∧ (ab_ok h4 j5 0 = true ∧ ab_in (y2 + 1) (ab_s h4 j5).2 = true) ∧ ∀ h6 : ab_H, h6 = ab_pi h4 j5 (Int32.toNatClampNeg (y2 + 1)) x2 → ab_ok h6 x0 112 = true ∧ ∃ j7 : Nat, ab_r h6 x0 0 = some j7 ∧ (ab_ok h6 j7 0 = true ∧ ab_in (y2 + 2) (ab_s h6 j7).2 = true) ∧ ∀ h8 : ab_H, h8 = ab_pi h6 j7 (Int32.toNatClampNeg (y2 + 2)) x3 → ab_ok h8 x0 112 = true ∧ ∃ j9 : Nat, ab_r h8 x0 0 = some j9 ∧ (ab_ok h8 j9 0 = true ∧ ab_in (y2 + 3) (ab_s h8 j9).2 = true) ∧ ∀ h10 : ab_H, h10 = ab_pi h8 j9 (Int32.toNatClampNeg (y2 + 3)) x4 → ab_ok h10 x0 112 = true ∧ ∃ j11 : Nat, ab_r h10 x0 0 = some j11 ∧ ab_ok h10 x0 112 = true ∧ ∃ j12 : Nat, ab_r h10 x0 0 = some j12 ∧ ((j12 = 0 ∨ ab_ok h10 j12 0 = true) ∧ ab_in (0 : Int32) (ab_s h10 j12).2 = true) ∧ (ab_ok h10 j11 0 = true ∧ ab_in (y2 + 4) (ab_s h10 j11).2 = true) ∧ ∀ h13 : ab_H, h13 = ab_pi h10 j11 (Int32.toNatClampNeg (y2 + 4)) (ab_i h10 j12 (Int32.toNatClampNeg (0 : Int32))) → ab_ok h13 x0 112 = true ∧ ∃ j14 : Nat, ab_r h13 x0 0 = some j14 ∧ ((j14 = 0 ∨ ab_ok h13 j14 0 = true) ∧ ab_in (6 : Int32) (ab_s h13 j14).2 = true) ∧ (ab_ok h13 j14 0 = true ∧ ab_in (6 : Int32) (ab_s h13 j14).2 = true) ∧ ∀ h15 : ab_H, h15 = ab_pi h13 j14 (Int32.toNatClampNeg (6 : Int32)) ((ab_i h13 j14 (Int32.toNatClampNeg (6 : Int32))) + 1) → Q none h15) : wq d 220 0 [.ref x0, .int x1, .int x2, .int x3, .int x4, .retAddr 0] [] h Q := by
  refine g1 c_220_0 k_5012 ?_
  refine g1 c_220_3 k_8 ?_
  refine g5 c_220_5 rfl ?_
  obtain ⟨ho, j1, hr, t⟩ := t
  refine g45 c_220_6 ho hr ?_
  refine g1 c_220_9 k_6 ?_
  obtain ⟨ho, t⟩ := t
  refine g50 c_220_11 ho ?_
  refine g12 c_220_12 ?_
  refine g10 c_220_13 ?_
  refine g6y (Lf := fun y2 => [.ref x0, .int x1, .int x2, .int x3, .int x4, .int y2]) c_220_14 (fun _ => rfl) (fun y2 ey2 => ?_)
  have t := t y2 ey2
  refine g5 c_220_16 rfl ?_
  obtain ⟨ho, j3, hr, t⟩ := t
  refine g45 c_220_17 ho hr ?_
  refine g3 c_220_20 rfl ?_
  refine g3 c_220_22 rfl ?_
  obtain ⟨ho, t⟩ := t
  refine g54 c_220_23 ho (fun h4 eh4 => ?_)
  have t := t h4 eh4
  refine g5 c_220_24 rfl ?_
  obtain ⟨ho, j5, hr, t⟩ := t
  refine g45 c_220_25 ho hr ?_
  refine g3 c_220_28 rfl ?_
  refine g1 c_220_30 k_1 ?_
  refine g10 c_220_31 ?_
  refine g3 c_220_32 rfl ?_
  obtain ⟨ho, t⟩ := t
  refine g54 c_220_33 ho (fun h6 eh6 => ?_)
  have t := t h6 eh6
  refine g5 c_220_34 rfl ?_
  obtain ⟨ho, j7, hr, t⟩ := t
  refine g45 c_220_35 ho hr ?_
  refine g3 c_220_38 rfl ?_
  refine g1 c_220_40 k_2 ?_
  refine g10 c_220_41 ?_
  refine g3 c_220_42 rfl ?_
  obtain ⟨ho, t⟩ := t
  refine g54 c_220_43 ho (fun h8 eh8 => ?_)
  have t := t h8 eh8
  refine g5 c_220_44 rfl ?_
  obtain ⟨ho, j9, hr, t⟩ := t
  refine g45 c_220_45 ho hr ?_
  refine g3 c_220_48 rfl ?_
  refine g1 c_220_50 k_3 ?_
  refine g10 c_220_51 ?_
  refine g3 c_220_52 rfl ?_
  obtain ⟨ho, t⟩ := t
  refine g54 c_220_54 ho (fun h10 eh10 => ?_)
  have t := t h10 eh10
  refine g5 c_220_55 rfl ?_
  obtain ⟨ho, j11, hr, t⟩ := t
  refine g45 c_220_56 ho hr ?_
  refine g3 c_220_59 rfl ?_
  refine g1 c_220_61 k_4 ?_
  refine g10 c_220_62 ?_
  refine g5 c_220_63 rfl ?_
  obtain ⟨ho, j12, hr, t⟩ := t
  refine g45 c_220_64 ho hr ?_
  refine g1 c_220_67 k_0 ?_
  obtain ⟨ho, t⟩ := t
  refine g50 c_220_68 ho ?_
  obtain ⟨ho, t⟩ := t
  refine g54 c_220_69 ho (fun h13 eh13 => ?_)
  have t := t h13 eh13
  refine g5 c_220_70 rfl ?_
  obtain ⟨ho, j14, hr, t⟩ := t
  refine g45 c_220_71 ho hr ?_
  refine g1 c_220_74 k_6 ?_
  refine g34a c_220_76 ?_
  obtain ⟨ho, t⟩ := t
  refine g50 c_220_77 ho ?_
  refine g1 c_220_78 k_1 ?_
  refine g10 c_220_79 ?_
  obtain ⟨ho, t⟩ := t
  refine g54 c_220_80 ho (fun h15 eh15 => ?_)
  have t := t h15 eh15
  exact g94 c_220_81 t
-- method 221: MillTownModel.order(IIIII)I
theorem c_221_0 : pg_cd 221 0 = (3, 1, 0, 1, 0) := by decide +kernel
theorem c_221_1 : pg_cd 221 1 = (81, 204, 80, 0, 0) := by decide +kernel
theorem c_221_4 : pg_cd 221 4 = (36, 3, 0, 0, 67) := by decide +kernel
theorem c_221_7 : pg_cd 221 7 = (3, 1, 0, 2, 0) := by decide +kernel
theorem c_221_8 : pg_cd 221 8 = (1, 1, 0, 0, 1) := by decide +kernel
theorem c_221_9 : pg_cd 221 9 = (1, 3, 0, 0, 500) := by decide +kernel
theorem c_221_12 : pg_cd 221 12 = (81, 196, 76, 0, 0) := by decide +kernel
theorem c_221_15 : pg_cd 221 15 = (36, 3, 0, 0, 56) := by decide +kernel
theorem c_221_18 : pg_cd 221 18 = (3, 1, 0, 3, 0) := by decide +kernel
theorem c_221_19 : pg_cd 221 19 = (1, 1, 0, 0, 1) := by decide +kernel
theorem c_221_20 : pg_cd 221 20 = (1, 3, 0, 0, 10000) := by decide +kernel
theorem c_221_23 : pg_cd 221 23 = (81, 196, 76, 0, 0) := by decide +kernel
theorem c_221_26 : pg_cd 221 26 = (36, 3, 0, 0, 45) := by decide +kernel
theorem c_221_29 : pg_cd 221 29 = (3, 2, 0, 4, 0) := by decide +kernel
theorem c_221_31 : pg_cd 221 31 = (5, 1, 0, 0, 0) := by decide +kernel
theorem c_221_32 : pg_cd 221 32 = (45, 12, 8, 0, 0) := by decide +kernel
theorem c_221_35 : pg_cd 221 35 = (1, 1, 0, 0, 0) := by decide +kernel
theorem c_221_36 : pg_cd 221 36 = (50, 1, 0, 0, 0) := by decide +kernel
theorem c_221_37 : pg_cd 221 37 = (1, 3, 0, 0, 399) := by decide +kernel
theorem c_221_40 : pg_cd 221 40 = (81, 196, 76, 0, 0) := by decide +kernel
theorem c_221_43 : pg_cd 221 43 = (36, 3, 0, 0, 28) := by decide +kernel
theorem c_221_46 : pg_cd 221 46 = (3, 2, 0, 5, 0) := by decide +kernel
theorem c_221_48 : pg_cd 221 48 = (3, 2, 0, 4, 0) := by decide +kernel
theorem c_221_50 : pg_cd 221 50 = (1, 3, 0, 0, 399) := by decide +kernel
theorem c_221_53 : pg_cd 221 53 = (81, 196, 76, 0, 0) := by decide +kernel
theorem c_221_56 : pg_cd 221 56 = (36, 3, 0, 0, 15) := by decide +kernel
theorem c_221_59 : pg_cd 221 59 = (5, 1, 0, 0, 0) := by decide +kernel
theorem c_221_60 : pg_cd 221 60 = (45, 12, 8, 0, 0) := by decide +kernel
theorem c_221_63 : pg_cd 221 63 = (1, 2, 0, 0, 7) := by decide +kernel
theorem c_221_65 : pg_cd 221 65 = (50, 1, 0, 0, 0) := by decide +kernel
theorem c_221_66 : pg_cd 221 66 = (1, 2, 0, 0, 80) := by decide +kernel
theorem c_221_68 : pg_cd 221 68 = (37, 3, 0, 1, 5) := by decide +kernel
theorem c_221_71 : pg_cd 221 71 = (1, 1, 0, 0, (-1)) := by decide +kernel
theorem c_221_72 : pg_cd 221 72 = (90, 0, 0, 0, 0) := by decide +kernel
theorem c_221_73 : pg_cd 221 73 = (1, 3, 0, 0, 4372) := by decide +kernel
theorem c_221_76 : pg_cd 221 76 = (1, 2, 0, 0, 8) := by decide +kernel
theorem c_221_78 : pg_cd 221 78 = (5, 1, 0, 0, 0) := by decide +kernel
theorem c_221_79 : pg_cd 221 79 = (45, 12, 8, 0, 0) := by decide +kernel
theorem c_221_82 : pg_cd 221 82 = (1, 2, 0, 0, 7) := by decide +kernel
theorem c_221_84 : pg_cd 221 84 = (50, 1, 0, 0, 0) := by decide +kernel
theorem c_221_85 : pg_cd 221 85 = (12, 1, 0, 0, 0) := by decide +kernel
theorem c_221_86 : pg_cd 221 86 = (10, 1, 0, 0, 0) := by decide +kernel
theorem c_221_87 : pg_cd 221 87 = (6, 2, 0, 6, 0) := by decide +kernel
theorem c_221_89 : pg_cd 221 89 = (5, 1, 0, 0, 0) := by decide +kernel
theorem c_221_90 : pg_cd 221 90 = (45, 12, 8, 0, 0) := by decide +kernel
theorem c_221_93 : pg_cd 221 93 = (3, 2, 0, 6, 0) := by decide +kernel
theorem c_221_95 : pg_cd 221 95 = (3, 1, 0, 1, 0) := by decide +kernel
theorem c_221_96 : pg_cd 221 96 = (54, 1, 0, 0, 0) := by decide +kernel
theorem c_221_97 : pg_cd 221 97 = (5, 1, 0, 0, 0) := by decide +kernel
theorem c_221_98 : pg_cd 221 98 = (45, 12, 8, 0, 0) := by decide +kernel
theorem c_221_101 : pg_cd 221 101 = (3, 2, 0, 6, 0) := by decide +kernel
theorem c_221_103 : pg_cd 221 103 = (1, 1, 0, 0, 1) := by decide +kernel
theorem c_221_104 : pg_cd 221 104 = (10, 1, 0, 0, 0) := by decide +kernel
theorem c_221_105 : pg_cd 221 105 = (3, 1, 0, 2, 0) := by decide +kernel
theorem c_221_106 : pg_cd 221 106 = (54, 1, 0, 0, 0) := by decide +kernel
theorem c_221_107 : pg_cd 221 107 = (5, 1, 0, 0, 0) := by decide +kernel
theorem c_221_108 : pg_cd 221 108 = (45, 12, 8, 0, 0) := by decide +kernel
theorem c_221_111 : pg_cd 221 111 = (3, 2, 0, 6, 0) := by decide +kernel
theorem c_221_113 : pg_cd 221 113 = (1, 1, 0, 0, 2) := by decide +kernel
theorem c_221_114 : pg_cd 221 114 = (10, 1, 0, 0, 0) := by decide +kernel
theorem c_221_115 : pg_cd 221 115 = (3, 1, 0, 3, 0) := by decide +kernel
theorem c_221_116 : pg_cd 221 116 = (54, 1, 0, 0, 0) := by decide +kernel
theorem c_221_117 : pg_cd 221 117 = (5, 1, 0, 0, 0) := by decide +kernel
theorem c_221_118 : pg_cd 221 118 = (45, 12, 8, 0, 0) := by decide +kernel
theorem c_221_121 : pg_cd 221 121 = (3, 2, 0, 6, 0) := by decide +kernel
theorem c_221_123 : pg_cd 221 123 = (1, 1, 0, 0, 3) := by decide +kernel
theorem c_221_124 : pg_cd 221 124 = (10, 1, 0, 0, 0) := by decide +kernel
theorem c_221_125 : pg_cd 221 125 = (3, 2, 0, 4, 0) := by decide +kernel
theorem c_221_127 : pg_cd 221 127 = (54, 1, 0, 0, 0) := by decide +kernel
theorem c_221_128 : pg_cd 221 128 = (5, 1, 0, 0, 0) := by decide +kernel
theorem c_221_129 : pg_cd 221 129 = (45, 12, 8, 0, 0) := by decide +kernel
theorem c_221_132 : pg_cd 221 132 = (3, 2, 0, 6, 0) := by decide +kernel
theorem c_221_134 : pg_cd 221 134 = (1, 1, 0, 0, 4) := by decide +kernel
theorem c_221_135 : pg_cd 221 135 = (10, 1, 0, 0, 0) := by decide +kernel
theorem c_221_136 : pg_cd 221 136 = (3, 2, 0, 5, 0) := by decide +kernel
theorem c_221_138 : pg_cd 221 138 = (54, 1, 0, 0, 0) := by decide +kernel
theorem c_221_139 : pg_cd 221 139 = (5, 1, 0, 0, 0) := by decide +kernel
theorem c_221_140 : pg_cd 221 140 = (45, 12, 8, 0, 0) := by decide +kernel
theorem c_221_143 : pg_cd 221 143 = (1, 2, 0, 0, 20) := by decide +kernel
theorem c_221_145 : pg_cd 221 145 = (1, 2, 0, 0, 8) := by decide +kernel
theorem c_221_147 : pg_cd 221 147 = (3, 1, 0, 1, 0) := by decide +kernel
theorem c_221_148 : pg_cd 221 148 = (12, 1, 0, 0, 0) := by decide +kernel
theorem c_221_149 : pg_cd 221 149 = (10, 1, 0, 0, 0) := by decide +kernel
theorem c_221_150 : pg_cd 221 150 = (1, 2, 0, 0, 7) := by decide +kernel
theorem c_221_152 : pg_cd 221 152 = (10, 1, 0, 0, 0) := by decide +kernel
theorem c_221_153 : pg_cd 221 153 = (1, 1, 0, 0, 1) := by decide +kernel
theorem c_221_154 : pg_cd 221 154 = (54, 1, 0, 0, 0) := by decide +kernel
theorem c_221_155 : pg_cd 221 155 = (5, 1, 0, 0, 0) := by decide +kernel
theorem c_221_156 : pg_cd 221 156 = (45, 12, 8, 0, 0) := by decide +kernel
theorem c_221_159 : pg_cd 221 159 = (1, 2, 0, 0, 7) := by decide +kernel
theorem c_221_161 : pg_cd 221 161 = (34, 1, 0, 0, 0) := by decide +kernel
theorem c_221_162 : pg_cd 221 162 = (50, 1, 0, 0, 0) := by decide +kernel
theorem c_221_163 : pg_cd 221 163 = (1, 1, 0, 0, 1) := by decide +kernel
theorem c_221_164 : pg_cd 221 164 = (10, 1, 0, 0, 0) := by decide +kernel
theorem c_221_165 : pg_cd 221 165 = (54, 1, 0, 0, 0) := by decide +kernel
theorem c_221_166 : pg_cd 221 166 = (5, 1, 0, 0, 0) := by decide +kernel
theorem c_221_167 : pg_cd 221 167 = (45, 12, 8, 0, 0) := by decide +kernel
theorem c_221_170 : pg_cd 221 170 = (1, 2, 0, 0, 7) := by decide +kernel
theorem c_221_172 : pg_cd 221 172 = (50, 1, 0, 0, 0) := by decide +kernel
theorem c_221_173 : pg_cd 221 173 = (1, 1, 0, 0, 1) := by decide +kernel
theorem c_221_174 : pg_cd 221 174 = (11, 1, 0, 0, 0) := by decide +kernel
theorem c_221_175 : pg_cd 221 175 = (90, 0, 0, 0, 0) := by decide +kernel
theorem mx_221 : pg_mx 221 = 7 := by decide +kernel
theorem m_221 {d : Nat} {h : ab_H} {Q : Option Value → ab_H → Prop} {x0 : Nat} {x1 : Int32} {x2 : Int32} {x3 : Int32} {x4 : Int32} {x5 : Int32} (t : wq d 221 0 [.ref x0, .int x1, .int x2, .int x3, .int x4, .int x5, .retAddr 0] [] h Q) : wm d 221 [.ref x0, .int x1, .int x2, .int x3, .int x4, .int x5] h Q := by
  unfold wm
  rw [mx_221]
  exact t
set_option maxRecDepth 20000 in
theorem t_221_0 {d : Nat} {h : ab_H} {Q : Option Value → ab_H → Prop} {x0 : Nat} {x1 : Int32} {x2 : Int32} {x3 : Int32} {x4 : Int32} {x5 : Int32} (t : wm d 204 [.int x1] h (fun r9 h9 => wq (d + 1) 221 4 [.ref x0, .int x1, .int x2, .int x3, .int x4, .int x5, .retAddr 0] (r9.toList ++ []) h9 Q)) : wq (d + 1) 221 0 [.ref x0, .int x1, .int x2, .int x3, .int x4, .int x5, .retAddr 0] [] h Q := by
  refine g3 c_221_0 rfl ?_
  exact g81 (As := [.int x1]) (rest := []) c_221_1 rfl rfl (Nat.le_of_ble_eq_true rfl) (Nat.le_of_ble_eq_true rfl) t
set_option maxRecDepth 20000 in
theorem t_221_4 {d : Nat} {h : ab_H} {Q : Option Value → ab_H → Prop} {x0 : Nat} {x1 : Int32} {x2 : Int32} {x3 : Int32} {x4 : Int32} {x5 : Int32} {s0 : Int32} (t : if s0 = 0 then (Q (some (.int (-1))) h) else (wm d 196 [.int x2, .int 1, .int 500] h (fun r9 h9 => wq (d + 1) 221 15 [.ref x0, .int x1, .int x2, .int x3, .int x4, .int x5, .retAddr 0] (r9.toList ++ []) h9 Q))) : wq (d + 1) 221 4 [.ref x0, .int x1, .int x2, .int x3, .int x4, .int x5, .retAddr 0] [.int s0] h Q := by
  refine gif c_221_4 (gbr t rfl rfl (fun hc t => ?_) (fun hc t => ?_))
  · refine g1 c_221_71 k_m1 ?_
    exact g90 c_221_72 t
  · refine g3 c_221_7 rfl ?_
    refine g1 c_221_8 k_1 ?_
    refine g1 c_221_9 k_500 ?_
    exact g81 (As := [.int x2, .int 1, .int 500]) (rest := []) c_221_12 rfl rfl (Nat.le_of_ble_eq_true rfl) (Nat.le_of_ble_eq_true rfl) t
set_option maxRecDepth 20000 in
theorem t_221_15 {d : Nat} {h : ab_H} {Q : Option Value → ab_H → Prop} {x0 : Nat} {x1 : Int32} {x2 : Int32} {x3 : Int32} {x4 : Int32} {x5 : Int32} {s0 : Int32} (t : if s0 = 0 then (Q (some (.int (-1))) h) else (wm d 196 [.int x3, .int 1, .int 10000] h (fun r9 h9 => wq (d + 1) 221 26 [.ref x0, .int x1, .int x2, .int x3, .int x4, .int x5, .retAddr 0] (r9.toList ++ []) h9 Q))) : wq (d + 1) 221 15 [.ref x0, .int x1, .int x2, .int x3, .int x4, .int x5, .retAddr 0] [.int s0] h Q := by
  refine gif c_221_15 (gbr t rfl rfl (fun hc t => ?_) (fun hc t => ?_))
  · refine g1 c_221_71 k_m1 ?_
    exact g90 c_221_72 t
  · refine g3 c_221_18 rfl ?_
    refine g1 c_221_19 k_1 ?_
    refine g1 c_221_20 k_10000 ?_
    exact g81 (As := [.int x3, .int 1, .int 10000]) (rest := []) c_221_23 rfl rfl (Nat.le_of_ble_eq_true rfl) (Nat.le_of_ble_eq_true rfl) t
set_option maxRecDepth 20000 in
theorem t_221_26 {d : Nat} {h : ab_H} {Q : Option Value → ab_H → Prop} {x0 : Nat} {x1 : Int32} {x2 : Int32} {x3 : Int32} {x4 : Int32} {x5 : Int32} {s0 : Int32} (t : if s0 = 0 then (Q (some (.int (-1))) h) else (ab_ok h x0 112 = true ∧ ∃ j1 : Nat, ab_r h x0 0 = some j1 ∧ ((j1 = 0 ∨ ab_ok h j1 0 = true) ∧ ab_in (0 : Int32) (ab_s h j1).2 = true) ∧ wm d 196 [.int x4, .int (ab_i h j1 (Int32.toNatClampNeg (0 : Int32))), .int 399] h (fun r9 h9 => wq (d + 1) 221 43 [.ref x0, .int x1, .int x2, .int x3, .int x4, .int x5, .retAddr 0] (r9.toList ++ []) h9 Q))) : wq (d + 1) 221 26 [.ref x0, .int x1, .int x2, .int x3, .int x4, .int x5, .retAddr 0] [.int s0] h Q := by
  refine gif c_221_26 (gbr t rfl rfl (fun hc t => ?_) (fun hc t => ?_))
  · refine g1 c_221_71 k_m1 ?_
    exact g90 c_221_72 t
  · refine g3 c_221_29 rfl ?_
    refine g5 c_221_31 rfl ?_
    obtain ⟨ho, j1, hr, t⟩ := t
    refine g45 c_221_32 ho hr ?_
    refine g1 c_221_35 k_0 ?_
    obtain ⟨ho, t⟩ := t
    refine g50 c_221_36 ho ?_
    refine g1 c_221_37 k_399 ?_
    exact g81 (As := [.int x4, .int (ab_i h j1 (Int32.toNatClampNeg (0 : Int32))), .int 399]) (rest := []) c_221_40 rfl rfl (Nat.le_of_ble_eq_true rfl) (Nat.le_of_ble_eq_true rfl) t
set_option maxRecDepth 20000 in
theorem t_221_43 {d : Nat} {h : ab_H} {Q : Option Value → ab_H → Prop} {x0 : Nat} {x1 : Int32} {x2 : Int32} {x3 : Int32} {x4 : Int32} {x5 : Int32} {s0 : Int32} (t : if s0 = 0 then (Q (some (.int (-1))) h) else (wm d 196 [.int x5, .int x4, .int 399] h (fun r9 h9 => wq (d + 1) 221 56 [.ref x0, .int x1, .int x2, .int x3, .int x4, .int x5, .retAddr 0] (r9.toList ++ []) h9 Q))) : wq (d + 1) 221 43 [.ref x0, .int x1, .int x2, .int x3, .int x4, .int x5, .retAddr 0] [.int s0] h Q := by
  refine gif c_221_43 (gbr t rfl rfl (fun hc t => ?_) (fun hc t => ?_))
  · refine g1 c_221_71 k_m1 ?_
    exact g90 c_221_72 t
  · refine g3 c_221_46 rfl ?_
    refine g3 c_221_48 rfl ?_
    refine g1 c_221_50 k_399 ?_
    exact g81 (As := [.int x5, .int x4, .int 399]) (rest := []) c_221_53 rfl rfl (Nat.le_of_ble_eq_true rfl) (Nat.le_of_ble_eq_true rfl) t
set_option maxRecDepth 20000 in
theorem t_221_56 {d : Nat} {h : ab_H} {Q : Option Value → ab_H → Prop} {x0 : Nat} {x1 : Int32} {x2 : Int32} {x3 : Int32} {x4 : Int32} {x5 : Int32} {s0 : Int32} (t : if s0 = 0 then (Q (some (.int (-1))) h) else (ab_ok h x0 112 = true ∧ ∃ j1 : Nat, ab_r h x0 0 = some j1 ∧ ((j1 = 0 ∨ ab_ok h j1 0 = true) ∧ ab_in (7 : Int32) (ab_s h j1).2 = true) ∧ if (ab_i h j1 (Int32.toNatClampNeg (7 : Int32))) = 80 then (Q (some (.int (-1))) h) else (ab_ok h x0 112 = true ∧ ∃ j2 : Nat, ab_r h x0 0 = some j2 ∧ ((j2 = 0 ∨ ab_ok h j2 0 = true) ∧ ab_in (7 : Int32) (ab_s h j2).2 = true) ∧ ∀ y3 : Int32, y3 = (4372 + (8 * (ab_i h j2 (Int32.toNatClampNeg (7 : Int32))))) → ab_ok h x0 112 = true ∧ ∃ j4 : Nat, ab_r h x0 0 = some j4 ∧ (ab_ok h j4 0 = true ∧ ab_in y3 (ab_s h j4).2 = true) ∧ ∀ h5 : ab_H, h5 = ab_pi h j4 (Int32.toNatClampNeg y3) x1 → ab_ok h5 x0 112 = true ∧ ∃ j6 : Nat, ab_r h5 x0 0 = some j6 ∧ (ab_ok h5 j6 0 = true ∧ ab_in (y3 + 1) (ab_s h5 j6).2 = true) ∧ ∀ h7 : ab_H, h7 = ab_pi h5 j6 (Int32.toNatClampNeg (y3 + 1)) x2 → ab_ok h7 x0 112 = true ∧ ∃ j8 : Nat, ab_r h7 x0 0 = some j8 ∧ (ab_ok h7 j8 0 = true ∧ ab_in (y3 + 2) (ab_s h7 j8).2 = true) ∧ ∀ h9 : ab_H, h9 = ab_pi h7 j8 (Int32.toNatClampNeg (y3 + 2)) x3 → ab_ok h9 x0 112 = true ∧ ∃ j10 : Nat, ab_r h9 x0 0 = some j10 ∧ (ab_ok h9 j10 0 = true ∧ ab_in (y3 + 3) (ab_s h9 j10).2 = true) ∧ ∀ h11 : ab_H, h11 = ab_pi h9 j10 (Int32.toNatClampNeg (y3 + 3)) x4 → ab_ok h11 x0 112 = true ∧ ∃ j12 : Nat, ab_r h11 x0 0 = some j12 ∧ (ab_ok h11 j12 0 = true ∧ ab_in (y3 + 4) (ab_s h11 j12).2 = true) ∧ ∀ h13 : ab_H, h13 = ab_pi h11 j12 (Int32.toNatClampNeg (y3 + 4)) x5 → ab_ok h13 x0 112 = true ∧ ∃ j14 : Nat, ab_r h13 x0 0 = some j14 ∧ (ab_ok h13 j14 0 = true ∧ ab_in ((20 + (8 * x1)) + 7) (ab_s h13 j14).2 = true) ∧ ∀ h15 : ab_H, h15 = ab_pi h13 j14 (Int32.toNatClampNeg ((20 + (8 * x1)) + 7)) 1 → ab_ok h15 x0 112 = true ∧ ∃ j16 : Nat, ab_r h15 x0 0 = some j16 ∧ ((j16 = 0 ∨ ab_ok h15 j16 0 = true) ∧ ab_in (7 : Int32) (ab_s h15 j16).2 = true) ∧ (ab_ok h15 j16 0 = true ∧ ab_in (7 : Int32) (ab_s h15 j16).2 = true) ∧ ∀ h17 : ab_H, h17 = ab_pi h15 j16 (Int32.toNatClampNeg (7 : Int32)) ((ab_i h15 j16 (Int32.toNatClampNeg (7 : Int32))) + 1) → ab_ok h17 x0 112 = true ∧ ∃ j18 : Nat, ab_r h17 x0 0 = some j18 ∧ ((j18 = 0 ∨ ab_ok h17 j18 0 = true) ∧ ab_in (7 : Int32) (ab_s h17 j18).2 = true) ∧ Q (some (.int ((ab_i h17 j18 (Int32.toNatClampNeg (7 : Int32))) - 1))) h17))) : wq d 221 56 [.ref x0, .int x1, .int x2, .int x3, .int x4, .int x5, .retAddr 0] [.int s0] h Q := by
  refine gif c_221_56 (gbr t rfl rfl (fun hc t => ?_) (fun hc t => ?_))
  · refine g1 c_221_71 k_m1 ?_
    exact g90 c_221_72 t
  · refine g5 c_221_59 rfl ?_
    obtain ⟨ho, j1, hr, t⟩ := t
    refine g45 c_221_60 ho hr ?_
    refine g1 c_221_63 k_7 ?_
    obtain ⟨ho, t⟩ := t
    refine g50 c_221_65 ho ?_
    refine g1 c_221_66 k_80 ?_
    refine gcm c_221_68 (gbn t (ab_c1 _ _) rfl (fun hc t => ?_) (fun hc t => ?_))
    · refine g1 c_221_71 k_m1 ?_
      exact g90 c_221_72 t
    · refine g1 c_221_73 k_4372 ?_
      refine g1 c_221_76 k_8 ?_
      refine g5 c_221_78 rfl ?_
      obtain ⟨ho, j2, hr, t⟩ := t
      refine g45 c_221_79 ho hr ?_
      refine g1 c_221_82 k_7 ?_
      obtain ⟨ho, t⟩ := t
      refine g50 c_221_84 ho ?_
      refine g12 c_221_85 ?_
      refine g10 c_221_86 ?_
      refine g6y (Lf := fun y3 => [.ref x0, .int x1, .int x2, .int x3, .int x4, .int x5, .int y3]) c_221_87 (fun _ => rfl) (fun y3 ey3 => ?_)
      have t := t y3 ey3
      refine g5 c_221_89 rfl ?_
      obtain ⟨ho, j4, hr, t⟩ := t
      refine g45 c_221_90 ho hr ?_
      refine g3 c_221_93 rfl ?_
      refine g3 c_221_95 rfl ?_
      obtain ⟨ho, t⟩ := t
      refine g54 c_221_96 ho (fun h5 eh5 => ?_)
      have t := t h5 eh5
      refine g5 c_221_97 rfl ?_
      obtain ⟨ho, j6, hr, t⟩ := t
      refine g45 c_221_98 ho hr ?_
      refine g3 c_221_101 rfl ?_
      refine g1 c_221_103 k_1 ?_
      refine g10 c_221_104 ?_
      refine g3 c_221_105 rfl ?_
      obtain ⟨ho, t⟩ := t
      refine g54 c_221_106 ho (fun h7 eh7 => ?_)
      have t := t h7 eh7
      refine g5 c_221_107 rfl ?_
      obtain ⟨ho, j8, hr, t⟩ := t
      refine g45 c_221_108 ho hr ?_
      refine g3 c_221_111 rfl ?_
      refine g1 c_221_113 k_2 ?_
      refine g10 c_221_114 ?_
      refine g3 c_221_115 rfl ?_
      obtain ⟨ho, t⟩ := t
      refine g54 c_221_116 ho (fun h9 eh9 => ?_)
      have t := t h9 eh9
      refine g5 c_221_117 rfl ?_
      obtain ⟨ho, j10, hr, t⟩ := t
      refine g45 c_221_118 ho hr ?_
      refine g3 c_221_121 rfl ?_
      refine g1 c_221_123 k_3 ?_
      refine g10 c_221_124 ?_
      refine g3 c_221_125 rfl ?_
      obtain ⟨ho, t⟩ := t
      refine g54 c_221_127 ho (fun h11 eh11 => ?_)
      have t := t h11 eh11
      refine g5 c_221_128 rfl ?_
      obtain ⟨ho, j12, hr, t⟩ := t
      refine g45 c_221_129 ho hr ?_
      refine g3 c_221_132 rfl ?_
      refine g1 c_221_134 k_4 ?_
      refine g10 c_221_135 ?_
      refine g3 c_221_136 rfl ?_
      obtain ⟨ho, t⟩ := t
      refine g54 c_221_138 ho (fun h13 eh13 => ?_)
      have t := t h13 eh13
      refine g5 c_221_139 rfl ?_
      obtain ⟨ho, j14, hr, t⟩ := t
      refine g45 c_221_140 ho hr ?_
      refine g1 c_221_143 k_20 ?_
      refine g1 c_221_145 k_8 ?_
      refine g3 c_221_147 rfl ?_
      refine g12 c_221_148 ?_
      refine g10 c_221_149 ?_
      refine g1 c_221_150 k_7 ?_
      refine g10 c_221_152 ?_
      refine g1 c_221_153 k_1 ?_
      obtain ⟨ho, t⟩ := t
      refine g54 c_221_154 ho (fun h15 eh15 => ?_)
      have t := t h15 eh15
      refine g5 c_221_155 rfl ?_
      obtain ⟨ho, j16, hr, t⟩ := t
      refine g45 c_221_156 ho hr ?_
      refine g1 c_221_159 k_7 ?_
      refine g34a c_221_161 ?_
      obtain ⟨ho, t⟩ := t
      refine g50 c_221_162 ho ?_
      refine g1 c_221_163 k_1 ?_
      refine g10 c_221_164 ?_
      obtain ⟨ho, t⟩ := t
      refine g54 c_221_165 ho (fun h17 eh17 => ?_)
      have t := t h17 eh17
      refine g5 c_221_166 rfl ?_
      obtain ⟨ho, j18, hr, t⟩ := t
      refine g45 c_221_167 ho hr ?_
      refine g1 c_221_170 k_7 ?_
      obtain ⟨ho, t⟩ := t
      refine g50 c_221_172 ho ?_
      refine g1 c_221_173 k_1 ?_
      refine g11 c_221_174 ?_
      exact g90 c_221_175 t
-- method 222: MillTownModel.terms(II)Z
theorem c_222_0 : pg_cd 222 0 = (3, 1, 0, 1, 0) := by decide +kernel
theorem c_222_1 : pg_cd 222 1 = (1, 1, 0, 0, 0) := by decide +kernel
theorem c_222_2 : pg_cd 222 2 = (1, 3, 0, 0, 1000) := by decide +kernel
theorem c_222_5 : pg_cd 222 5 = (81, 196, 76, 0, 0) := by decide +kernel
theorem c_222_8 : pg_cd 222 8 = (36, 3, 0, 0, 13) := by decide +kernel
theorem c_222_11 : pg_cd 222 11 = (3, 1, 0, 2, 0) := by decide +kernel
theorem c_222_12 : pg_cd 222 12 = (1, 1, 0, 0, 1) := by decide +kernel
theorem c_222_13 : pg_cd 222 13 = (1, 2, 71, 0, 100000) := by decide +kernel
theorem c_222_15 : pg_cd 222 15 = (81, 196, 76, 0, 0) := by decide +kernel
theorem c_222_18 : pg_cd 222 18 = (36, 3, 0, 1, 5) := by decide +kernel
theorem c_222_21 : pg_cd 222 21 = (1, 1, 0, 0, 0) := by decide +kernel
theorem c_222_22 : pg_cd 222 22 = (91, 0, 0, 0, 0) := by decide +kernel
theorem c_222_23 : pg_cd 222 23 = (5, 1, 0, 0, 0) := by decide +kernel
theorem c_222_24 : pg_cd 222 24 = (45, 12, 8, 0, 0) := by decide +kernel
theorem c_222_27 : pg_cd 222 27 = (1, 2, 0, 0, 11) := by decide +kernel
theorem c_222_29 : pg_cd 222 29 = (3, 1, 0, 1, 0) := by decide +kernel
theorem c_222_30 : pg_cd 222 30 = (54, 1, 0, 0, 0) := by decide +kernel
theorem c_222_31 : pg_cd 222 31 = (5, 1, 0, 0, 0) := by decide +kernel
theorem c_222_32 : pg_cd 222 32 = (45, 12, 8, 0, 0) := by decide +kernel
theorem c_222_35 : pg_cd 222 35 = (1, 2, 0, 0, 12) := by decide +kernel
theorem c_222_37 : pg_cd 222 37 = (3, 1, 0, 2, 0) := by decide +kernel
theorem c_222_38 : pg_cd 222 38 = (54, 1, 0, 0, 0) := by decide +kernel
theorem c_222_39 : pg_cd 222 39 = (1, 1, 0, 0, 1) := by decide +kernel
theorem c_222_40 : pg_cd 222 40 = (91, 0, 0, 0, 0) := by decide +kernel
theorem mx_222 : pg_mx 222 = 3 := by decide +kernel
theorem m_222 {d : Nat} {h : ab_H} {Q : Option Value → ab_H → Prop} {x0 : Nat} {x1 : Int32} {x2 : Int32} (t : wq d 222 0 [.ref x0, .int x1, .int x2] [] h Q) : wm d 222 [.ref x0, .int x1, .int x2] h Q := by
  unfold wm
  rw [mx_222]
  exact t
set_option maxRecDepth 20000 in
theorem t_222_0 {d : Nat} {h : ab_H} {Q : Option Value → ab_H → Prop} {x0 : Nat} {x1 : Int32} {x2 : Int32} (t : wm d 196 [.int x1, .int 0, .int 1000] h (fun r9 h9 => wq (d + 1) 222 8 [.ref x0, .int x1, .int x2] (r9.toList ++ []) h9 Q)) : wq (d + 1) 222 0 [.ref x0, .int x1, .int x2] [] h Q := by
  refine g3 c_222_0 rfl ?_
  refine g1 c_222_1 k_0 ?_
  refine g1 c_222_2 k_1000 ?_
  exact g81 (As := [.int x1, .int 0, .int 1000]) (rest := []) c_222_5 rfl rfl (Nat.le_of_ble_eq_true rfl) (Nat.le_of_ble_eq_true rfl) t
set_option maxRecDepth 20000 in
theorem t_222_8 {d : Nat} {h : ab_H} {Q : Option Value → ab_H → Prop} {x0 : Nat} {x1 : Int32} {x2 : Int32} {s0 : Int32} (t : if s0 = 0 then (Q (some (.int 0)) h) else (wm d 196 [.int x2, .int 1, .int 100000] h (fun r9 h9 => wq (d + 1) 222 18 [.ref x0, .int x1, .int x2] (r9.toList ++ []) h9 Q))) : wq (d + 1) 222 8 [.ref x0, .int x1, .int x2] [.int s0] h Q := by
  refine gif c_222_8 (gbr t rfl rfl (fun hc t => ?_) (fun hc t => ?_))
  · refine g1 c_222_21 k_0 ?_
    exact g91 c_222_22 ⟨by decide, t⟩
  · refine g3 c_222_11 rfl ?_
    refine g1 c_222_12 k_1 ?_
    refine g1 c_222_13 k_100000 ?_
    exact g81 (As := [.int x2, .int 1, .int 100000]) (rest := []) c_222_15 rfl rfl (Nat.le_of_ble_eq_true rfl) (Nat.le_of_ble_eq_true rfl) t
set_option maxRecDepth 20000 in
theorem t_222_18 {d : Nat} {h : ab_H} {Q : Option Value → ab_H → Prop} {x0 : Nat} {x1 : Int32} {x2 : Int32} {s0 : Int32} (t : if s0 = 0 then (Q (some (.int 0)) h) else (ab_ok h x0 112 = true ∧ ∃ j1 : Nat, ab_r h x0 0 = some j1 ∧ (ab_ok h j1 0 = true ∧ ab_in (11 : Int32) (ab_s h j1).2 = true) ∧ ∀ h2 : ab_H, h2 = ab_pi h j1 (Int32.toNatClampNeg (11 : Int32)) x1 → ab_ok h2 x0 112 = true ∧ ∃ j3 : Nat, ab_r h2 x0 0 = some j3 ∧ (ab_ok h2 j3 0 = true ∧ ab_in (12 : Int32) (ab_s h2 j3).2 = true) ∧ ∀ h4 : ab_H, h4 = ab_pi h2 j3 (Int32.toNatClampNeg (12 : Int32)) x2 → Q (some (.int 1)) h4)) : wq d 222 18 [.ref x0, .int x1, .int x2] [.int s0] h Q := by
  refine gif c_222_18 (gbn t (ab_c1 _ _) rfl (fun hc t => ?_) (fun hc t => ?_))
  · refine g1 c_222_21 k_0 ?_
    exact g91 c_222_22 ⟨by decide, t⟩
  · refine g5 c_222_23 rfl ?_
    obtain ⟨ho, j1, hr, t⟩ := t
    refine g45 c_222_24 ho hr ?_
    refine g1 c_222_27 k_11 ?_
    refine g3 c_222_29 rfl ?_
    obtain ⟨ho, t⟩ := t
    refine g54 c_222_30 ho (fun h2 eh2 => ?_)
    have t := t h2 eh2
    refine g5 c_222_31 rfl ?_
    obtain ⟨ho, j3, hr, t⟩ := t
    refine g45 c_222_32 ho hr ?_
    refine g1 c_222_35 k_12 ?_
    refine g3 c_222_37 rfl ?_
    obtain ⟨ho, t⟩ := t
    refine g54 c_222_38 ho (fun h4 eh4 => ?_)
    have t := t h4 eh4
    refine g1 c_222_39 k_1 ?_
    exact g91 c_222_40 ⟨by decide, t⟩
-- method 223: MillTownModel.fund(III)Z
theorem c_223_0 : pg_cd 223 0 = (3, 1, 0, 1, 0) := by decide +kernel
theorem c_223_1 : pg_cd 223 1 = (1, 1, 0, 0, 0) := by decide +kernel
theorem c_223_2 : pg_cd 223 2 = (1, 2, 71, 0, 100000) := by decide +kernel
theorem c_223_4 : pg_cd 223 4 = (81, 196, 76, 0, 0) := by decide +kernel
theorem c_223_7 : pg_cd 223 7 = (36, 3, 0, 0, 24) := by decide +kernel
theorem c_223_10 : pg_cd 223 10 = (3, 1, 0, 2, 0) := by decide +kernel
theorem c_223_11 : pg_cd 223 11 = (1, 1, 0, 0, 0) := by decide +kernel
theorem c_223_12 : pg_cd 223 12 = (1, 2, 0, 0, 50) := by decide +kernel
theorem c_223_14 : pg_cd 223 14 = (81, 196, 76, 0, 0) := by decide +kernel
theorem c_223_17 : pg_cd 223 17 = (36, 3, 0, 0, 14) := by decide +kernel
theorem c_223_20 : pg_cd 223 20 = (3, 1, 0, 3, 0) := by decide +kernel
theorem c_223_21 : pg_cd 223 21 = (1, 1, 0, 0, 0) := by decide +kernel
theorem c_223_22 : pg_cd 223 22 = (1, 3, 0, 0, 500) := by decide +kernel
theorem c_223_25 : pg_cd 223 25 = (81, 196, 76, 0, 0) := by decide +kernel
theorem c_223_28 : pg_cd 223 28 = (36, 3, 0, 1, 5) := by decide +kernel
theorem c_223_31 : pg_cd 223 31 = (1, 1, 0, 0, 0) := by decide +kernel
theorem c_223_32 : pg_cd 223 32 = (91, 0, 0, 0, 0) := by decide +kernel
theorem c_223_33 : pg_cd 223 33 = (5, 1, 0, 0, 0) := by decide +kernel
theorem c_223_34 : pg_cd 223 34 = (45, 12, 8, 0, 0) := by decide +kernel
theorem c_223_37 : pg_cd 223 37 = (1, 2, 0, 0, 8) := by decide +kernel
theorem c_223_39 : pg_cd 223 39 = (34, 1, 0, 0, 0) := by decide +kernel
theorem c_223_40 : pg_cd 223 40 = (50, 1, 0, 0, 0) := by decide +kernel
theorem c_223_41 : pg_cd 223 41 = (3, 1, 0, 1, 0) := by decide +kernel
theorem c_223_42 : pg_cd 223 42 = (10, 1, 0, 0, 0) := by decide +kernel
theorem c_223_43 : pg_cd 223 43 = (54, 1, 0, 0, 0) := by decide +kernel
theorem c_223_44 : pg_cd 223 44 = (5, 1, 0, 0, 0) := by decide +kernel
theorem c_223_45 : pg_cd 223 45 = (45, 12, 8, 0, 0) := by decide +kernel
theorem c_223_48 : pg_cd 223 48 = (1, 2, 0, 0, 9) := by decide +kernel
theorem c_223_50 : pg_cd 223 50 = (3, 1, 0, 2, 0) := by decide +kernel
theorem c_223_51 : pg_cd 223 51 = (54, 1, 0, 0, 0) := by decide +kernel
theorem c_223_52 : pg_cd 223 52 = (5, 1, 0, 0, 0) := by decide +kernel
theorem c_223_53 : pg_cd 223 53 = (45, 12, 8, 0, 0) := by decide +kernel
theorem c_223_56 : pg_cd 223 56 = (1, 2, 0, 0, 10) := by decide +kernel
theorem c_223_58 : pg_cd 223 58 = (3, 1, 0, 3, 0) := by decide +kernel
theorem c_223_59 : pg_cd 223 59 = (54, 1, 0, 0, 0) := by decide +kernel
theorem c_223_60 : pg_cd 223 60 = (1, 1, 0, 0, 1) := by decide +kernel
theorem c_223_61 : pg_cd 223 61 = (91, 0, 0, 0, 0) := by decide +kernel
theorem mx_223 : pg_mx 223 = 4 := by decide +kernel
theorem m_223 {d : Nat} {h : ab_H} {Q : Option Value → ab_H → Prop} {x0 : Nat} {x1 : Int32} {x2 : Int32} {x3 : Int32} (t : wq d 223 0 [.ref x0, .int x1, .int x2, .int x3] [] h Q) : wm d 223 [.ref x0, .int x1, .int x2, .int x3] h Q := by
  unfold wm
  rw [mx_223]
  exact t
set_option maxRecDepth 20000 in
theorem t_223_0 {d : Nat} {h : ab_H} {Q : Option Value → ab_H → Prop} {x0 : Nat} {x1 : Int32} {x2 : Int32} {x3 : Int32} (t : wm d 196 [.int x1, .int 0, .int 100000] h (fun r9 h9 => wq (d + 1) 223 7 [.ref x0, .int x1, .int x2, .int x3] (r9.toList ++ []) h9 Q)) : wq (d + 1) 223 0 [.ref x0, .int x1, .int x2, .int x3] [] h Q := by
  refine g3 c_223_0 rfl ?_
  refine g1 c_223_1 k_0 ?_
  refine g1 c_223_2 k_100000 ?_
  exact g81 (As := [.int x1, .int 0, .int 100000]) (rest := []) c_223_4 rfl rfl (Nat.le_of_ble_eq_true rfl) (Nat.le_of_ble_eq_true rfl) t
set_option maxRecDepth 20000 in
theorem t_223_7 {d : Nat} {h : ab_H} {Q : Option Value → ab_H → Prop} {x0 : Nat} {x1 : Int32} {x2 : Int32} {x3 : Int32} {s0 : Int32} (t : if s0 = 0 then (Q (some (.int 0)) h) else (wm d 196 [.int x2, .int 0, .int 50] h (fun r9 h9 => wq (d + 1) 223 17 [.ref x0, .int x1, .int x2, .int x3] (r9.toList ++ []) h9 Q))) : wq (d + 1) 223 7 [.ref x0, .int x1, .int x2, .int x3] [.int s0] h Q := by
  refine gif c_223_7 (gbr t rfl rfl (fun hc t => ?_) (fun hc t => ?_))
  · refine g1 c_223_31 k_0 ?_
    exact g91 c_223_32 ⟨by decide, t⟩
  · refine g3 c_223_10 rfl ?_
    refine g1 c_223_11 k_0 ?_
    refine g1 c_223_12 k_50 ?_
    exact g81 (As := [.int x2, .int 0, .int 50]) (rest := []) c_223_14 rfl rfl (Nat.le_of_ble_eq_true rfl) (Nat.le_of_ble_eq_true rfl) t
set_option maxRecDepth 20000 in
theorem t_223_17 {d : Nat} {h : ab_H} {Q : Option Value → ab_H → Prop} {x0 : Nat} {x1 : Int32} {x2 : Int32} {x3 : Int32} {s0 : Int32} (t : if s0 = 0 then (Q (some (.int 0)) h) else (wm d 196 [.int x3, .int 0, .int 500] h (fun r9 h9 => wq (d + 1) 223 28 [.ref x0, .int x1, .int x2, .int x3] (r9.toList ++ []) h9 Q))) : wq (d + 1) 223 17 [.ref x0, .int x1, .int x2, .int x3] [.int s0] h Q := by
  refine gif c_223_17 (gbr t rfl rfl (fun hc t => ?_) (fun hc t => ?_))
  · refine g1 c_223_31 k_0 ?_
    exact g91 c_223_32 ⟨by decide, t⟩
  · refine g3 c_223_20 rfl ?_
    refine g1 c_223_21 k_0 ?_
    refine g1 c_223_22 k_500 ?_
    exact g81 (As := [.int x3, .int 0, .int 500]) (rest := []) c_223_25 rfl rfl (Nat.le_of_ble_eq_true rfl) (Nat.le_of_ble_eq_true rfl) t
set_option maxRecDepth 20000 in
theorem t_223_28 {d : Nat} {h : ab_H} {Q : Option Value → ab_H → Prop} {x0 : Nat} {x1 : Int32} {x2 : Int32} {x3 : Int32} {s0 : Int32} (t : if s0 = 0 then (Q (some (.int 0)) h) else (ab_ok h x0 112 = true ∧ ∃ j1 : Nat, ab_r h x0 0 = some j1 ∧ ((j1 = 0 ∨ ab_ok h j1 0 = true) ∧ ab_in (8 : Int32) (ab_s h j1).2 = true) ∧ (ab_ok h j1 0 = true ∧ ab_in (8 : Int32) (ab_s h j1).2 = true) ∧ ∀ h2 : ab_H, h2 = ab_pi h j1 (Int32.toNatClampNeg (8 : Int32)) ((ab_i h j1 (Int32.toNatClampNeg (8 : Int32))) + x1) → ab_ok h2 x0 112 = true ∧ ∃ j3 : Nat, ab_r h2 x0 0 = some j3 ∧ (ab_ok h2 j3 0 = true ∧ ab_in (9 : Int32) (ab_s h2 j3).2 = true) ∧ ∀ h4 : ab_H, h4 = ab_pi h2 j3 (Int32.toNatClampNeg (9 : Int32)) x2 → ab_ok h4 x0 112 = true ∧ ∃ j5 : Nat, ab_r h4 x0 0 = some j5 ∧ (ab_ok h4 j5 0 = true ∧ ab_in (10 : Int32) (ab_s h4 j5).2 = true) ∧ ∀ h6 : ab_H, h6 = ab_pi h4 j5 (Int32.toNatClampNeg (10 : Int32)) x3 → Q (some (.int 1)) h6)) : wq d 223 28 [.ref x0, .int x1, .int x2, .int x3] [.int s0] h Q := by
  refine gif c_223_28 (gbn t (ab_c1 _ _) rfl (fun hc t => ?_) (fun hc t => ?_))
  · refine g1 c_223_31 k_0 ?_
    exact g91 c_223_32 ⟨by decide, t⟩
  · refine g5 c_223_33 rfl ?_
    obtain ⟨ho, j1, hr, t⟩ := t
    refine g45 c_223_34 ho hr ?_
    refine g1 c_223_37 k_8 ?_
    refine g34a c_223_39 ?_
    obtain ⟨ho, t⟩ := t
    refine g50 c_223_40 ho ?_
    refine g3 c_223_41 rfl ?_
    refine g10 c_223_42 ?_
    obtain ⟨ho, t⟩ := t
    refine g54 c_223_43 ho (fun h2 eh2 => ?_)
    have t := t h2 eh2
    refine g5 c_223_44 rfl ?_
    obtain ⟨ho, j3, hr, t⟩ := t
    refine g45 c_223_45 ho hr ?_
    refine g1 c_223_48 k_9 ?_
    refine g3 c_223_50 rfl ?_
    obtain ⟨ho, t⟩ := t
    refine g54 c_223_51 ho (fun h4 eh4 => ?_)
    have t := t h4 eh4
    refine g5 c_223_52 rfl ?_
    obtain ⟨ho, j5, hr, t⟩ := t
    refine g45 c_223_53 ho hr ?_
    refine g1 c_223_56 k_10 ?_
    refine g3 c_223_58 rfl ?_
    obtain ⟨ho, t⟩ := t
    refine g54 c_223_59 ho (fun h6 eh6 => ?_)
    have t := t h6 eh6
    refine g1 c_223_60 k_1 ?_
    exact g91 c_223_61 ⟨by decide, t⟩
-- method 224: MillTownModel.strike(IZ)Z
theorem c_224_0 : pg_cd 224 0 = (5, 1, 0, 0, 0) := by decide +kernel
theorem c_224_1 : pg_cd 224 1 = (3, 1, 0, 1, 0) := by decide +kernel
theorem c_224_2 : pg_cd 224 2 = (80, 201, 115, 0, 0) := by decide +kernel
theorem c_224_5 : pg_cd 224 5 = (36, 3, 0, 0, 33) := by decide +kernel
theorem c_224_8 : pg_cd 224 8 = (5, 1, 0, 0, 0) := by decide +kernel
theorem c_224_9 : pg_cd 224 9 = (3, 1, 0, 1, 0) := by decide +kernel
theorem c_224_10 : pg_cd 224 10 = (1, 1, 0, 0, 5) := by decide +kernel
theorem c_224_11 : pg_cd 224 11 = (80, 198, 118, 0, 0) := by decide +kernel
theorem c_224_14 : pg_cd 224 14 = (1, 1, 0, 0, 1) := by decide +kernel
theorem c_224_15 : pg_cd 224 15 = (37, 3, 0, 0, 23) := by decide +kernel
theorem c_224_18 : pg_cd 224 18 = (5, 1, 0, 0, 0) := by decide +kernel
theorem c_224_19 : pg_cd 224 19 = (3, 1, 0, 1, 0) := by decide +kernel
theorem c_224_20 : pg_cd 224 20 = (1, 2, 0, 0, 6) := by decide +kernel
theorem c_224_22 : pg_cd 224 22 = (80, 198, 118, 0, 0) := by decide +kernel
theorem c_224_25 : pg_cd 224 25 = (1, 1, 0, 0, 1) := by decide +kernel
theorem c_224_26 : pg_cd 224 26 = (37, 3, 0, 1, 7) := by decide +kernel
theorem c_224_29 : pg_cd 224 29 = (1, 1, 0, 0, 1) := by decide +kernel
theorem c_224_30 : pg_cd 224 30 = (38, 3, 0, 0, 4) := by decide +kernel
theorem c_224_33 : pg_cd 224 33 = (1, 1, 0, 0, 0) := by decide +kernel
theorem c_224_34 : pg_cd 224 34 = (3, 1, 0, 2, 0) := by decide +kernel
theorem c_224_35 : pg_cd 224 35 = (37, 3, 0, 1, 5) := by decide +kernel
theorem c_224_38 : pg_cd 224 38 = (1, 1, 0, 0, 0) := by decide +kernel
theorem c_224_39 : pg_cd 224 39 = (91, 0, 0, 0, 0) := by decide +kernel
theorem c_224_40 : pg_cd 224 40 = (5, 1, 0, 0, 0) := by decide +kernel
theorem c_224_41 : pg_cd 224 41 = (45, 12, 8, 0, 0) := by decide +kernel
theorem c_224_44 : pg_cd 224 44 = (1, 3, 0, 0, 3300) := by decide +kernel
theorem c_224_47 : pg_cd 224 47 = (1, 2, 0, 0, 16) := by decide +kernel
theorem c_224_49 : pg_cd 224 49 = (3, 1, 0, 1, 0) := by decide +kernel
theorem c_224_50 : pg_cd 224 50 = (12, 1, 0, 0, 0) := by decide +kernel
theorem c_224_51 : pg_cd 224 51 = (10, 1, 0, 0, 0) := by decide +kernel
theorem c_224_52 : pg_cd 224 52 = (1, 2, 0, 0, 6) := by decide +kernel
theorem c_224_54 : pg_cd 224 54 = (10, 1, 0, 0, 0) := by decide +kernel
theorem c_224_55 : pg_cd 224 55 = (3, 1, 0, 2, 0) := by decide +kernel
theorem c_224_56 : pg_cd 224 56 = (36, 3, 0, 0, 7) := by decide +kernel
theorem c_224_59 : pg_cd 224 59 = (1, 1, 0, 0, 1) := by decide +kernel
theorem c_224_60 : pg_cd 224 60 = (38, 3, 0, 0, 4) := by decide +kernel
theorem c_224_63 : pg_cd 224 63 = (1, 1, 0, 0, 0) := by decide +kernel
theorem c_224_64 : pg_cd 224 64 = (54, 1, 0, 0, 0) := by decide +kernel
theorem c_224_65 : pg_cd 224 65 = (1, 1, 0, 0, 1) := by decide +kernel
theorem c_224_66 : pg_cd 224 66 = (91, 0, 0, 0, 0) := by decide +kernel
theorem mx_224 : pg_mx 224 = 3 := by decide +kernel
theorem m_224 {d : Nat} {h : ab_H} {Q : Option Value → ab_H → Prop} {x0 : Nat} {x1 : Int32} {x2 : Int32} (t : wq d 224 0 [.ref x0, .int x1, .int x2] [] h Q) : wm d 224 [.ref x0, .int x1, .int x2] h Q := by
  unfold wm
  rw [mx_224]
  exact t
set_option maxRecDepth 20000 in
theorem t_224_0 {d : Nat} {h : ab_H} {Q : Option Value → ab_H → Prop} {x0 : Nat} {x1 : Int32} {x2 : Int32} (t : ab_ok h x0 112 = true ∧ wm d 201 [.ref x0, .int x1] h (fun r9 h9 => wq (d + 1) 224 5 [.ref x0, .int x1, .int x2] (r9.toList ++ []) h9 Q)) : wq (d + 1) 224 0 [.ref x0, .int x1, .int x2] [] h Q := by
  refine g5 c_224_0 rfl ?_
  refine g3 c_224_1 rfl ?_
  exact g80 (As := [.int x1]) (rest := []) c_224_2 rfl rfl (Nat.le_of_ble_eq_true rfl) (Nat.le_of_ble_eq_true rfl) t.1 t.2
set_option maxRecDepth 20000 in
theorem t_224_5 {d : Nat} {h : ab_H} {Q : Option Value → ab_H → Prop} {x0 : Nat} {x1 : Int32} {x2 : Int32} {s0 : Int32} (t : if s0 = 0 then (Q (some (.int 0)) h) else (ab_ok h x0 112 = true ∧ wm d 198 [.ref x0, .int x1, .int 5] h (fun r9 h9 => wq (d + 1) 224 14 [.ref x0, .int x1, .int x2] (r9.toList ++ []) h9 Q))) : wq (d + 1) 224 5 [.ref x0, .int x1, .int x2] [.int s0] h Q := by
  refine gif c_224_5 (gbr t rfl rfl (fun hc t => ?_) (fun hc t => ?_))
  · refine g1 c_224_38 k_0 ?_
    exact g91 c_224_39 ⟨by decide, t⟩
  · refine g5 c_224_8 rfl ?_
    refine g3 c_224_9 rfl ?_
    refine g1 c_224_10 k_5 ?_
    exact g80 (As := [.int x1, .int 5]) (rest := []) c_224_11 rfl rfl (Nat.le_of_ble_eq_true rfl) (Nat.le_of_ble_eq_true rfl) t.1 t.2
set_option maxRecDepth 20000 in
theorem t_224_14 {d : Nat} {h : ab_H} {Q : Option Value → ab_H → Prop} {x0 : Nat} {x1 : Int32} {x2 : Int32} {s0 : Int32} (t : if s0 = 1 then (Q (some (.int 0)) h) else (ab_ok h x0 112 = true ∧ wm d 198 [.ref x0, .int x1, .int 6] h (fun r9 h9 => wq (d + 1) 224 25 [.ref x0, .int x1, .int x2] (r9.toList ++ []) h9 Q))) : wq (d + 1) 224 14 [.ref x0, .int x1, .int x2] [.int s0] h Q := by
  refine g1 c_224_14 k_1 ?_
  refine gcm c_224_15 (gbr t rfl rfl (fun hc t => ?_) (fun hc t => ?_))
  · refine g1 c_224_38 k_0 ?_
    exact g91 c_224_39 ⟨by decide, t⟩
  · refine g5 c_224_18 rfl ?_
    refine g3 c_224_19 rfl ?_
    refine g1 c_224_20 k_6 ?_
    exact g80 (As := [.int x1, .int 6]) (rest := []) c_224_22 rfl rfl (Nat.le_of_ble_eq_true rfl) (Nat.le_of_ble_eq_true rfl) t.1 t.2
set_option maxRecDepth 20000 in
theorem t_224_25 {d : Nat} {h : ab_H} {Q : Option Value → ab_H → Prop} {x0 : Nat} {x1 : Int32} {x2 : Int32} {s0 : Int32} (t : if s0 = 1 then (if (1 : Int32) = x2 then (Q (some (.int 0)) h) else (ab_ok h x0 112 = true ∧ ∃ j1 : Nat, ab_r h x0 0 = some j1 ∧ if x2 = 0 then ((ab_ok h j1 0 = true ∧ ab_in ((3300 + (16 * x1)) + 6) (ab_s h j1).2 = true) ∧ ∀ h2 : ab_H, h2 = ab_pi h j1 (Int32.toNatClampNeg ((3300 + (16 * x1)) + 6)) 0 → Q (some (.int 1)) h2) else ((ab_ok h j1 0 = true ∧ ab_in ((3300 + (16 * x1)) + 6) (ab_s h j1).2 = true) ∧ ∀ h3 : ab_H, h3 = ab_pi h j1 (Int32.toNatClampNeg ((3300 + (16 * x1)) + 6)) 1 → Q (some (.int 1)) h3))) else (if (0 : Int32) = x2 then (Q (some (.int 0)) h) else (ab_ok h x0 112 = true ∧ ∃ j4 : Nat, ab_r h x0 0 = some j4 ∧ if x2 = 0 then ((ab_ok h j4 0 = true ∧ ab_in ((3300 + (16 * x1)) + 6) (ab_s h j4).2 = true) ∧ ∀ h5 : ab_H, h5 = ab_pi h j4 (Int32.toNatClampNeg ((3300 + (16 * x1)) + 6)) 0 → Q (some (.int 1)) h5) else ((ab_ok h j4 0 = true ∧ ab_in ((3300 + (16 * x1)) + 6) (ab_s h j4).2 = true) ∧ ∀ h6 : ab_H, h6 = ab_pi h j4 (Int32.toNatClampNeg ((3300 + (16 * x1)) + 6)) 1 → Q (some (.int 1)) h6)))) : wq d 224 25 [.ref x0, .int x1, .int x2] [.int s0] h Q := by
  refine g1 c_224_25 k_1 ?_
  refine gcm c_224_26 (gbn t (ab_c1 _ _) rfl (fun hc t => ?_) (fun hc t => ?_))
  · refine g1 c_224_29 k_1 ?_
    refine g38 c_224_30 rfl ?_
    refine g3 c_224_34 rfl ?_
    refine gcm c_224_35 (gbn t (ab_c1 _ _) rfl (fun hc t => ?_) (fun hc t => ?_))
    · refine g1 c_224_38 k_0 ?_
      exact g91 c_224_39 ⟨by decide, t⟩
    · refine g5 c_224_40 rfl ?_
      obtain ⟨ho, j1, hr, t⟩ := t
      refine g45 c_224_41 ho hr ?_
      refine g1 c_224_44 k_3300 ?_
      refine g1 c_224_47 k_16 ?_
      refine g3 c_224_49 rfl ?_
      refine g12 c_224_50 ?_
      refine g10 c_224_51 ?_
      refine g1 c_224_52 k_6 ?_
      refine g10 c_224_54 ?_
      refine g3 c_224_55 rfl ?_
      refine gif c_224_56 (gbr t rfl rfl (fun hc t => ?_) (fun hc t => ?_))
      · refine g1 c_224_63 k_0 ?_
        obtain ⟨ho, t⟩ := t
        refine g54 c_224_64 ho (fun h2 eh2 => ?_)
        have t := t h2 eh2
        refine g1 c_224_65 k_1 ?_
        exact g91 c_224_66 ⟨by decide, t⟩
      · refine g1 c_224_59 k_1 ?_
        refine g38 c_224_60 rfl ?_
        obtain ⟨ho, t⟩ := t
        refine g54 c_224_64 ho (fun h3 eh3 => ?_)
        have t := t h3 eh3
        refine g1 c_224_65 k_1 ?_
        exact g91 c_224_66 ⟨by decide, t⟩
  · refine g1 c_224_33 k_0 ?_
    refine g3 c_224_34 rfl ?_
    refine gcm c_224_35 (gbn t (ab_c1 _ _) rfl (fun hc t => ?_) (fun hc t => ?_))
    · refine g1 c_224_38 k_0 ?_
      exact g91 c_224_39 ⟨by decide, t⟩
    · refine g5 c_224_40 rfl ?_
      obtain ⟨ho, j4, hr, t⟩ := t
      refine g45 c_224_41 ho hr ?_
      refine g1 c_224_44 k_3300 ?_
      refine g1 c_224_47 k_16 ?_
      refine g3 c_224_49 rfl ?_
      refine g12 c_224_50 ?_
      refine g10 c_224_51 ?_
      refine g1 c_224_52 k_6 ?_
      refine g10 c_224_54 ?_
      refine g3 c_224_55 rfl ?_
      refine gif c_224_56 (gbr t rfl rfl (fun hc t => ?_) (fun hc t => ?_))
      · refine g1 c_224_63 k_0 ?_
        obtain ⟨ho, t⟩ := t
        refine g54 c_224_64 ho (fun h5 eh5 => ?_)
        have t := t h5 eh5
        refine g1 c_224_65 k_1 ?_
        exact g91 c_224_66 ⟨by decide, t⟩
      · refine g1 c_224_59 k_1 ?_
        refine g38 c_224_60 rfl ?_
        obtain ⟨ho, t⟩ := t
        refine g54 c_224_64 ho (fun h6 eh6 => ?_)
        have t := t h6 eh6
        refine g1 c_224_65 k_1 ?_
        exact g91 c_224_66 ⟨by decide, t⟩
-- method 225: MillTownModel.four(I)V
theorem c_225_0 : pg_cd 225 0 = (1, 2, 0, 0, 24) := by decide +kernel
theorem c_225_2 : pg_cd 225 2 = (6, 1, 0, 2, 0) := by decide +kernel
theorem c_225_3 : pg_cd 225 3 = (3, 1, 0, 2, 0) := by decide +kernel
theorem c_225_4 : pg_cd 225 4 = (36, 3, 0, 2, 35) := by decide +kernel
theorem c_225_7 : pg_cd 225 7 = (5, 1, 0, 0, 0) := by decide +kernel
theorem c_225_8 : pg_cd 225 8 = (45, 12, 20, 3, 0) := by decide +kernel
theorem c_225_11 : pg_cd 225 11 = (5, 1, 0, 0, 0) := by decide +kernel
theorem c_225_12 : pg_cd 225 12 = (43, 12, 128, 4, 0) := by decide +kernel
theorem c_225_15 : pg_cd 225 15 = (3, 1, 0, 1, 0) := by decide +kernel
theorem c_225_16 : pg_cd 225 16 = (3, 1, 0, 2, 0) := by decide +kernel
theorem c_225_17 : pg_cd 225 17 = (19, 1, 0, 0, 0) := by decide +kernel
theorem c_225_18 : pg_cd 225 18 = (1, 3, 0, 0, 255) := by decide +kernel
theorem c_225_21 : pg_cd 225 21 = (13, 1, 0, 0, 0) := by decide +kernel
theorem c_225_22 : pg_cd 225 22 = (54, 1, 0, 0, 0) := by decide +kernel
theorem c_225_23 : pg_cd 225 23 = (5, 1, 0, 0, 0) := by decide +kernel
theorem c_225_24 : pg_cd 225 24 = (33, 1, 0, 0, 0) := by decide +kernel
theorem c_225_25 : pg_cd 225 25 = (43, 12, 128, 4, 0) := by decide +kernel
theorem c_225_28 : pg_cd 225 28 = (1, 1, 0, 0, 1) := by decide +kernel
theorem c_225_29 : pg_cd 225 29 = (10, 1, 0, 0, 0) := by decide +kernel
theorem c_225_30 : pg_cd 225 30 = (46, 12, 128, 4, 0) := by decide +kernel
theorem c_225_33 : pg_cd 225 33 = (9, 3, 0, 2, (-8)) := by decide +kernel
theorem c_225_36 : pg_cd 225 36 = (38, 3, 0, 0, (-33)) := by decide +kernel
theorem c_225_39 : pg_cd 225 39 = (94, 0, 0, 0, 0) := by decide +kernel
theorem mx_225 : pg_mx 225 = 3 := by decide +kernel
theorem m_225 {d : Nat} {h : ab_H} {Q : Option Value → ab_H → Prop} {x0 : Nat} {x1 : Int32} (t : wq d 225 0 [.ref x0, .int x1, .retAddr 0] [] h Q) : wm d 225 [.ref x0, .int x1] h Q := by
  unfold wm
  rw [mx_225]
  exact t
set_option maxRecDepth 20000 in
theorem t_225_0 {d : Nat} {h : ab_H} {Q : Option Value → ab_H → Prop} {x0 : Nat} {x1 : Int32} (t : wq d 225 3 [.ref x0, .int x1, .int 24] [] h Q) : wq d 225 0 [.ref x0, .int x1, .retAddr 0] [] h Q := by
  refine g1 c_225_0 k_24 ?_
  refine g6 (L' := [.ref x0, .int x1, .int 24]) c_225_2 rfl ?_
  exact t
set_option maxRecDepth 20000 in
theorem t_225_3 {d : Nat} {h : ab_H} {Q : Option Value → ab_H → Prop} {x0 : Nat} {x1 : Int32} {x2 : Int32} (t : if x2 < 0 then (Q none h) else (ab_ok h x0 112 = true ∧ ∃ j1 : Nat, ab_r h x0 3 = some j1 ∧ ab_ok h x0 112 = true ∧ (ab_ok h j1 0 = true ∧ ab_in (ab_i h x0 4) (ab_s h j1).2 = true) ∧ ∀ h2 : ab_H, h2 = ab_pi h j1 (Int32.toNatClampNeg (ab_i h x0 4)) ((x1 >>> (x2 &&& 31)) &&& 255) → ab_ok h2 x0 112 = true ∧ ab_ok h2 x0 112 = true ∧ ∀ h3 : ab_H, h3 = ab_pi h2 x0 4 ((ab_i h2 x0 4) + 1) → wq d 225 3 [.ref x0, .int x1, .int (x2 + (-8))] [] h3 Q)) : wq d 225 3 [.ref x0, .int x1, .int x2] [] h Q := by
  refine g3 c_225_3 rfl ?_
  refine gif c_225_4 (gbr t rfl rfl (fun hc t => ?_) (fun hc t => ?_))
  · exact g94 c_225_39 t
  · refine g5 c_225_7 rfl ?_
    obtain ⟨ho, j1, hr, t⟩ := t
    refine g45 c_225_8 ho hr ?_
    refine g5 c_225_11 rfl ?_
    obtain ⟨ho, t⟩ := t
    refine g43 c_225_12 ho ?_
    refine g3 c_225_15 rfl ?_
    refine g3 c_225_16 rfl ?_
    refine g19 c_225_17 ?_
    refine g1 c_225_18 k_255 ?_
    refine g13 c_225_21 ?_
    obtain ⟨ho, t⟩ := t
    refine g54 c_225_22 ho (fun h2 eh2 => ?_)
    have t := t h2 eh2
    refine g5 c_225_23 rfl ?_
    refine g33a c_225_24 ?_
    obtain ⟨ho, t⟩ := t
    refine g43 c_225_25 ho ?_
    refine g1 c_225_28 k_1 ?_
    refine g10 c_225_29 ?_
    obtain ⟨ho, t⟩ := t
    refine g46 c_225_30 ho (fun h3 eh3 => ?_)
    have t := t h3 eh3
    refine g9 (L' := [.ref x0, .int x1, .int (x2 + (-8))]) c_225_33 rfl k_m8 rfl ?_
    refine g38 c_225_36 rfl ?_
    exact t
-- method 226: MillTownModel.feed(IIIII)I
theorem c_226_0 : pg_cd 226 0 = (5, 1, 0, 0, 0) := by decide +kernel
theorem c_226_1 : pg_cd 226 1 = (43, 12, 128, 4, 0) := by decide +kernel
theorem c_226_4 : pg_cd 226 4 = (1, 2, 0, 0, 20) := by decide +kernel
theorem c_226_6 : pg_cd 226 6 = (10, 1, 0, 0, 0) := by decide +kernel
theorem c_226_7 : pg_cd 226 7 = (1, 3, 0, 0, 300) := by decide +kernel
theorem c_226_10 : pg_cd 226 10 = (37, 3, 0, 5, 5) := by decide +kernel
theorem c_226_13 : pg_cd 226 13 = (1, 1, 0, 0, (-1)) := by decide +kernel
theorem c_226_14 : pg_cd 226 14 = (90, 0, 0, 0, 0) := by decide +kernel
theorem c_226_15 : pg_cd 226 15 = (5, 1, 0, 0, 0) := by decide +kernel
theorem c_226_16 : pg_cd 226 16 = (3, 1, 0, 1, 0) := by decide +kernel
theorem c_226_17 : pg_cd 226 17 = (80, 225, 131, 0, 0) := by decide +kernel
theorem c_226_20 : pg_cd 226 20 = (5, 1, 0, 0, 0) := by decide +kernel
theorem c_226_21 : pg_cd 226 21 = (3, 1, 0, 2, 0) := by decide +kernel
theorem c_226_22 : pg_cd 226 22 = (80, 225, 131, 0, 0) := by decide +kernel
theorem c_226_25 : pg_cd 226 25 = (5, 1, 0, 0, 0) := by decide +kernel
theorem c_226_26 : pg_cd 226 26 = (3, 1, 0, 3, 0) := by decide +kernel
theorem c_226_27 : pg_cd 226 27 = (80, 225, 131, 0, 0) := by decide +kernel
theorem c_226_30 : pg_cd 226 30 = (5, 1, 0, 0, 0) := by decide +kernel
theorem c_226_31 : pg_cd 226 31 = (3, 2, 0, 4, 0) := by decide +kernel
theorem c_226_33 : pg_cd 226 33 = (80, 225, 131, 0, 0) := by decide +kernel
theorem c_226_36 : pg_cd 226 36 = (5, 1, 0, 0, 0) := by decide +kernel
theorem c_226_37 : pg_cd 226 37 = (3, 2, 0, 5, 0) := by decide +kernel
theorem c_226_39 : pg_cd 226 39 = (80, 225, 131, 0, 0) := by decide +kernel
theorem c_226_42 : pg_cd 226 42 = (5, 1, 0, 0, 0) := by decide +kernel
theorem c_226_43 : pg_cd 226 43 = (43, 12, 128, 4, 0) := by decide +kernel
theorem c_226_46 : pg_cd 226 46 = (90, 0, 0, 0, 0) := by decide +kernel
theorem mx_226 : pg_mx 226 = 6 := by decide +kernel
theorem m_226 {d : Nat} {h : ab_H} {Q : Option Value → ab_H → Prop} {x0 : Nat} {x1 : Int32} {x2 : Int32} {x3 : Int32} {x4 : Int32} {x5 : Int32} (t : wq d 226 0 [.ref x0, .int x1, .int x2, .int x3, .int x4, .int x5] [] h Q) : wm d 226 [.ref x0, .int x1, .int x2, .int x3, .int x4, .int x5] h Q := by
  unfold wm
  rw [mx_226]
  exact t
set_option maxRecDepth 20000 in
theorem t_226_0 {d : Nat} {h : ab_H} {Q : Option Value → ab_H → Prop} {x0 : Nat} {x1 : Int32} {x2 : Int32} {x3 : Int32} {x4 : Int32} {x5 : Int32} (t : ab_ok h x0 112 = true ∧ if ((ab_i h x0 4) + 20) ≤ 300 then (ab_ok h x0 112 = true ∧ wm d 225 [.ref x0, .int x1] h (fun r9 h9 => wq (d + 1) 226 20 [.ref x0, .int x1, .int x2, .int x3, .int x4, .int x5] (r9.toList ++ []) h9 Q)) else (Q (some (.int (-1))) h)) : wq (d + 1) 226 0 [.ref x0, .int x1, .int x2, .int x3, .int x4, .int x5] [] h Q := by
  refine g5 c_226_0 rfl ?_
  obtain ⟨ho, t⟩ := t
  refine g43 c_226_1 ho ?_
  refine g1 c_226_4 k_20 ?_
  refine g10 c_226_6 ?_
  refine g1 c_226_7 k_300 ?_
  refine gcm c_226_10 (gbr t rfl rfl (fun hc t => ?_) (fun hc t => ?_))
  · refine g5 c_226_15 rfl ?_
    refine g3 c_226_16 rfl ?_
    exact g80 (As := [.int x1]) (rest := []) c_226_17 rfl rfl (Nat.le_of_ble_eq_true rfl) (Nat.le_of_ble_eq_true rfl) t.1 t.2
  · refine g1 c_226_13 k_m1 ?_
    exact g90 c_226_14 t
set_option maxRecDepth 20000 in
theorem t_226_20 {d : Nat} {h : ab_H} {Q : Option Value → ab_H → Prop} {x0 : Nat} {x1 : Int32} {x2 : Int32} {x3 : Int32} {x4 : Int32} {x5 : Int32} (t : ab_ok h x0 112 = true ∧ wm d 225 [.ref x0, .int x2] h (fun r9 h9 => wq (d + 1) 226 25 [.ref x0, .int x1, .int x2, .int x3, .int x4, .int x5] (r9.toList ++ []) h9 Q)) : wq (d + 1) 226 20 [.ref x0, .int x1, .int x2, .int x3, .int x4, .int x5] [] h Q := by
  refine g5 c_226_20 rfl ?_
  refine g3 c_226_21 rfl ?_
  exact g80 (As := [.int x2]) (rest := []) c_226_22 rfl rfl (Nat.le_of_ble_eq_true rfl) (Nat.le_of_ble_eq_true rfl) t.1 t.2
set_option maxRecDepth 20000 in
theorem t_226_25 {d : Nat} {h : ab_H} {Q : Option Value → ab_H → Prop} {x0 : Nat} {x1 : Int32} {x2 : Int32} {x3 : Int32} {x4 : Int32} {x5 : Int32} (t : ab_ok h x0 112 = true ∧ wm d 225 [.ref x0, .int x3] h (fun r9 h9 => wq (d + 1) 226 30 [.ref x0, .int x1, .int x2, .int x3, .int x4, .int x5] (r9.toList ++ []) h9 Q)) : wq (d + 1) 226 25 [.ref x0, .int x1, .int x2, .int x3, .int x4, .int x5] [] h Q := by
  refine g5 c_226_25 rfl ?_
  refine g3 c_226_26 rfl ?_
  exact g80 (As := [.int x3]) (rest := []) c_226_27 rfl rfl (Nat.le_of_ble_eq_true rfl) (Nat.le_of_ble_eq_true rfl) t.1 t.2
set_option maxRecDepth 20000 in
theorem t_226_30 {d : Nat} {h : ab_H} {Q : Option Value → ab_H → Prop} {x0 : Nat} {x1 : Int32} {x2 : Int32} {x3 : Int32} {x4 : Int32} {x5 : Int32} (t : ab_ok h x0 112 = true ∧ wm d 225 [.ref x0, .int x4] h (fun r9 h9 => wq (d + 1) 226 36 [.ref x0, .int x1, .int x2, .int x3, .int x4, .int x5] (r9.toList ++ []) h9 Q)) : wq (d + 1) 226 30 [.ref x0, .int x1, .int x2, .int x3, .int x4, .int x5] [] h Q := by
  refine g5 c_226_30 rfl ?_
  refine g3 c_226_31 rfl ?_
  exact g80 (As := [.int x4]) (rest := []) c_226_33 rfl rfl (Nat.le_of_ble_eq_true rfl) (Nat.le_of_ble_eq_true rfl) t.1 t.2
set_option maxRecDepth 20000 in
theorem t_226_36 {d : Nat} {h : ab_H} {Q : Option Value → ab_H → Prop} {x0 : Nat} {x1 : Int32} {x2 : Int32} {x3 : Int32} {x4 : Int32} {x5 : Int32} (t : ab_ok h x0 112 = true ∧ wm d 225 [.ref x0, .int x5] h (fun r9 h9 => wq (d + 1) 226 42 [.ref x0, .int x1, .int x2, .int x3, .int x4, .int x5] (r9.toList ++ []) h9 Q)) : wq (d + 1) 226 36 [.ref x0, .int x1, .int x2, .int x3, .int x4, .int x5] [] h Q := by
  refine g5 c_226_36 rfl ?_
  refine g3 c_226_37 rfl ?_
  exact g80 (As := [.int x5]) (rest := []) c_226_39 rfl rfl (Nat.le_of_ble_eq_true rfl) (Nat.le_of_ble_eq_true rfl) t.1 t.2
set_option maxRecDepth 20000 in
theorem t_226_42 {d : Nat} {h : ab_H} {Q : Option Value → ab_H → Prop} {x0 : Nat} {x1 : Int32} {x2 : Int32} {x3 : Int32} {x4 : Int32} {x5 : Int32} (t : ab_ok h x0 112 = true ∧ Q (some (.int (ab_i h x0 4))) h) : wq d 226 42 [.ref x0, .int x1, .int x2, .int x3, .int x4, .int x5] [] h Q := by
  refine g5 c_226_42 rfl ?_
  obtain ⟨ho, t⟩ := t
  refine g43 c_226_43 ho ?_
  exact g90 c_226_46 t
-- method 227: MillTownModel.end(I)I
theorem c_227_0 : pg_cd 227 0 = (3, 1, 0, 1, 0) := by decide +kernel
theorem c_227_1 : pg_cd 227 1 = (1, 1, 0, 0, 0) := by decide +kernel
theorem c_227_2 : pg_cd 227 2 = (5, 1, 0, 0, 0) := by decide +kernel
theorem c_227_3 : pg_cd 227 3 = (43, 12, 128, 4, 0) := by decide +kernel
theorem c_227_6 : pg_cd 227 6 = (81, 196, 76, 0, 0) := by decide +kernel
theorem c_227_9 : pg_cd 227 9 = (36, 3, 0, 1, 5) := by decide +kernel
theorem c_227_12 : pg_cd 227 12 = (1, 1, 0, 0, (-1)) := by decide +kernel
theorem c_227_13 : pg_cd 227 13 = (90, 0, 0, 0, 0) := by decide +kernel
theorem c_227_14 : pg_cd 227 14 = (5, 1, 0, 0, 0) := by decide +kernel
theorem c_227_15 : pg_cd 227 15 = (3, 1, 0, 1, 0) := by decide +kernel
theorem c_227_16 : pg_cd 227 16 = (46, 12, 128, 4, 0) := by decide +kernel
theorem c_227_19 : pg_cd 227 19 = (3, 1, 0, 1, 0) := by decide +kernel
theorem c_227_20 : pg_cd 227 20 = (90, 0, 0, 0, 0) := by decide +kernel
theorem mx_227 : pg_mx 227 = 2 := by decide +kernel
theorem m_227 {d : Nat} {h : ab_H} {Q : Option Value → ab_H → Prop} {x0 : Nat} {x1 : Int32} (t : wq d 227 0 [.ref x0, .int x1] [] h Q) : wm d 227 [.ref x0, .int x1] h Q := by
  unfold wm
  rw [mx_227]
  exact t
set_option maxRecDepth 20000 in
theorem t_227_0 {d : Nat} {h : ab_H} {Q : Option Value → ab_H → Prop} {x0 : Nat} {x1 : Int32} (t : ab_ok h x0 112 = true ∧ wm d 196 [.int x1, .int 0, .int (ab_i h x0 4)] h (fun r9 h9 => wq (d + 1) 227 9 [.ref x0, .int x1] (r9.toList ++ []) h9 Q)) : wq (d + 1) 227 0 [.ref x0, .int x1] [] h Q := by
  refine g3 c_227_0 rfl ?_
  refine g1 c_227_1 k_0 ?_
  refine g5 c_227_2 rfl ?_
  obtain ⟨ho, t⟩ := t
  refine g43 c_227_3 ho ?_
  exact g81 (As := [.int x1, .int 0, .int (ab_i h x0 4)]) (rest := []) c_227_6 rfl rfl (Nat.le_of_ble_eq_true rfl) (Nat.le_of_ble_eq_true rfl) t
set_option maxRecDepth 20000 in
theorem t_227_9 {d : Nat} {h : ab_H} {Q : Option Value → ab_H → Prop} {x0 : Nat} {x1 : Int32} {s0 : Int32} (t : if s0 = 0 then (Q (some (.int (-1))) h) else (ab_ok h x0 112 = true ∧ ∀ h1 : ab_H, h1 = ab_pi h x0 4 x1 → Q (some (.int x1)) h1)) : wq d 227 9 [.ref x0, .int x1] [.int s0] h Q := by
  refine gif c_227_9 (gbn t (ab_c1 _ _) rfl (fun hc t => ?_) (fun hc t => ?_))
  · refine g1 c_227_12 k_m1 ?_
    exact g90 c_227_13 t
  · refine g5 c_227_14 rfl ?_
    refine g3 c_227_15 rfl ?_
    obtain ⟨ho, t⟩ := t
    refine g46 c_227_16 ho (fun h1 eh1 => ?_)
    have t := t h1 eh1
    refine g3 c_227_19 rfl ?_
    exact g90 c_227_20 t
-- method 228: MillTownModel.see(I)I
theorem c_228_0 : pg_cd 228 0 = (3, 1, 0, 1, 0) := by decide +kernel
theorem c_228_1 : pg_cd 228 1 = (5, 1, 0, 0, 0) := by decide +kernel
theorem c_228_2 : pg_cd 228 2 = (43, 12, 128, 4, 0) := by decide +kernel
theorem c_228_5 : pg_cd 228 5 = (37, 3, 0, 3, 12) := by decide +kernel
theorem c_228_8 : pg_cd 228 8 = (5, 1, 0, 0, 0) := by decide +kernel
theorem c_228_9 : pg_cd 228 9 = (45, 12, 20, 3, 0) := by decide +kernel
theorem c_228_12 : pg_cd 228 12 = (3, 1, 0, 1, 0) := by decide +kernel
theorem c_228_13 : pg_cd 228 13 = (50, 1, 0, 0, 0) := by decide +kernel
theorem c_228_14 : pg_cd 228 14 = (38, 3, 0, 0, 4) := by decide +kernel
theorem c_228_17 : pg_cd 228 17 = (1, 1, 0, 0, (-1)) := by decide +kernel
theorem c_228_18 : pg_cd 228 18 = (90, 0, 0, 0, 0) := by decide +kernel
theorem mx_228 : pg_mx 228 = 2 := by decide +kernel
theorem m_228 {d : Nat} {h : ab_H} {Q : Option Value → ab_H → Prop} {x0 : Nat} {x1 : Int32} (t : wq d 228 0 [.ref x0, .int x1] [] h Q) : wm d 228 [.ref x0, .int x1] h Q := by
  unfold wm
  rw [mx_228]
  exact t
set_option maxRecDepth 20000 in
theorem t_228_0 {d : Nat} {h : ab_H} {Q : Option Value → ab_H → Prop} {x0 : Nat} {x1 : Int32} (t : ab_ok h x0 112 = true ∧ if (ab_i h x0 4) ≤ x1 then (Q (some (.int (-1))) h) else (ab_ok h x0 112 = true ∧ ∃ j1 : Nat, ab_r h x0 3 = some j1 ∧ ((j1 = 0 ∨ ab_ok h j1 0 = true) ∧ ab_in x1 (ab_s h j1).2 = true) ∧ Q (some (.int (ab_i h j1 (Int32.toNatClampNeg x1)))) h)) : wq d 228 0 [.ref x0, .int x1] [] h Q := by
  refine g3 c_228_0 rfl ?_
  refine g5 c_228_1 rfl ?_
  obtain ⟨ho, t⟩ := t
  refine g43 c_228_2 ho ?_
  refine gcm c_228_5 (gbr t rfl rfl (fun hc t => ?_) (fun hc t => ?_))
  · refine g1 c_228_17 k_m1 ?_
    exact g90 c_228_18 t
  · refine g5 c_228_8 rfl ?_
    obtain ⟨ho, j1, hr, t⟩ := t
    refine g45 c_228_9 ho hr ?_
    refine g3 c_228_12 rfl ?_
    obtain ⟨ho, t⟩ := t
    refine g50 c_228_13 ho ?_
    refine g38 c_228_14 rfl ?_
    exact g90 c_228_18 t
-- method 229: MillTownModel.isLetter(I)Z
theorem c_229_0 : pg_cd 229 0 = (3, 1, 0, 0, 0) := by decide +kernel
theorem c_229_1 : pg_cd 229 1 = (1, 2, 0, 0, 97) := by decide +kernel
theorem c_229_3 : pg_cd 229 3 = (1, 2, 0, 0, 122) := by decide +kernel
theorem c_229_5 : pg_cd 229 5 = (81, 196, 76, 0, 0) := by decide +kernel
theorem c_229_8 : pg_cd 229 8 = (36, 3, 0, 1, 14) := by decide +kernel
theorem c_229_11 : pg_cd 229 11 = (3, 1, 0, 0, 0) := by decide +kernel
theorem c_229_12 : pg_cd 229 12 = (1, 2, 0, 0, 65) := by decide +kernel
theorem c_229_14 : pg_cd 229 14 = (1, 2, 0, 0, 90) := by decide +kernel
theorem c_229_16 : pg_cd 229 16 = (81, 196, 76, 0, 0) := by decide +kernel
theorem c_229_19 : pg_cd 229 19 = (36, 3, 0, 0, 7) := by decide +kernel
theorem c_229_22 : pg_cd 229 22 = (1, 1, 0, 0, 1) := by decide +kernel
theorem c_229_23 : pg_cd 229 23 = (38, 3, 0, 0, 4) := by decide +kernel
theorem c_229_26 : pg_cd 229 26 = (1, 1, 0, 0, 0) := by decide +kernel
theorem c_229_27 : pg_cd 229 27 = (91, 0, 0, 0, 0) := by decide +kernel
theorem mx_229 : pg_mx 229 = 1 := by decide +kernel
theorem m_229 {d : Nat} {h : ab_H} {Q : Option Value → ab_H → Prop} {x0 : Int32} (t : wq d 229 0 [.int x0] [] h Q) : wm d 229 [.int x0] h Q := by
  unfold wm
  rw [mx_229]
  exact t
set_option maxRecDepth 20000 in
theorem t_229_0 {d : Nat} {h : ab_H} {Q : Option Value → ab_H → Prop} {x0 : Int32} (t : wm d 196 [.int x0, .int 97, .int 122] h (fun r9 h9 => wq (d + 1) 229 8 [.int x0] (r9.toList ++ []) h9 Q)) : wq (d + 1) 229 0 [.int x0] [] h Q := by
  refine g3 c_229_0 rfl ?_
  refine g1 c_229_1 k_97 ?_
  refine g1 c_229_3 k_122 ?_
  exact g81 (As := [.int x0, .int 97, .int 122]) (rest := []) c_229_5 rfl rfl (Nat.le_of_ble_eq_true rfl) (Nat.le_of_ble_eq_true rfl) t
set_option maxRecDepth 20000 in
theorem t_229_8 {d : Nat} {h : ab_H} {Q : Option Value → ab_H → Prop} {x0 : Int32} {s0 : Int32} (t : if s0 = 0 then (wm d 196 [.int x0, .int 65, .int 90] h (fun r9 h9 => wq (d + 1) 229 19 [.int x0] (r9.toList ++ []) h9 Q)) else (Q (some (.int 1)) h)) : wq (d + 1) 229 8 [.int x0] [.int s0] h Q := by
  refine gif c_229_8 (gbn t (ab_c1 _ _) rfl (fun hc t => ?_) (fun hc t => ?_))
  · refine g3 c_229_11 rfl ?_
    refine g1 c_229_12 k_65 ?_
    refine g1 c_229_14 k_90 ?_
    exact g81 (As := [.int x0, .int 65, .int 90]) (rest := []) c_229_16 rfl rfl (Nat.le_of_ble_eq_true rfl) (Nat.le_of_ble_eq_true rfl) t
  · refine g1 c_229_22 k_1 ?_
    refine g38 c_229_23 rfl ?_
    exact g91 c_229_27 ⟨by decide, t⟩
set_option maxRecDepth 20000 in
theorem t_229_19 {d : Nat} {h : ab_H} {Q : Option Value → ab_H → Prop} {x0 : Int32} {s0 : Int32} (t : if s0 = 0 then (Q (some (.int 0)) h) else (Q (some (.int 1)) h)) : wq d 229 19 [.int x0] [.int s0] h Q := by
  refine gif c_229_19 (gbr t rfl rfl (fun hc t => ?_) (fun hc t => ?_))
  · refine g1 c_229_26 k_0 ?_
    exact g91 c_229_27 ⟨by decide, t⟩
  · refine g1 c_229_22 k_1 ?_
    refine g38 c_229_23 rfl ?_
    exact g91 c_229_27 ⟨by decide, t⟩
-- method 230: MillTownModel.isDigit(I)Z
theorem c_230_0 : pg_cd 230 0 = (3, 1, 0, 0, 0) := by decide +kernel
theorem c_230_1 : pg_cd 230 1 = (1, 2, 0, 0, 48) := by decide +kernel
theorem c_230_3 : pg_cd 230 3 = (1, 2, 0, 0, 57) := by decide +kernel
theorem c_230_5 : pg_cd 230 5 = (81, 196, 76, 0, 0) := by decide +kernel
theorem c_230_8 : pg_cd 230 8 = (91, 0, 0, 0, 0) := by decide +kernel
theorem mx_230 : pg_mx 230 = 1 := by decide +kernel
theorem m_230 {d : Nat} {h : ab_H} {Q : Option Value → ab_H → Prop} {x0 : Int32} (t : wq d 230 0 [.int x0] [] h Q) : wm d 230 [.int x0] h Q := by
  unfold wm
  rw [mx_230]
  exact t
set_option maxRecDepth 20000 in
theorem t_230_0 {d : Nat} {h : ab_H} {Q : Option Value → ab_H → Prop} {x0 : Int32} (t : wm d 196 [.int x0, .int 48, .int 57] h (fun r9 h9 => wq (d + 1) 230 8 [.int x0] (r9.toList ++ []) h9 Q)) : wq (d + 1) 230 0 [.int x0] [] h Q := by
  refine g3 c_230_0 rfl ?_
  refine g1 c_230_1 k_48 ?_
  refine g1 c_230_3 k_57 ?_
  exact g81 (As := [.int x0, .int 48, .int 57]) (rest := []) c_230_5 rfl rfl (Nat.le_of_ble_eq_true rfl) (Nat.le_of_ble_eq_true rfl) t
set_option maxRecDepth 20000 in
theorem t_230_8 {d : Nat} {h : ab_H} {Q : Option Value → ab_H → Prop} {x0 : Int32} {s0 : Int32} (t : (s0 = 0 ∨ s0 = 1) ∧ Q (some (.int s0)) h) : wq d 230 8 [.int x0] [.int s0] h Q := by
  exact g91 c_230_8 t
-- method 231: MillTownModel.nextToken()V
theorem c_231_0 : pg_cd 231 0 = (5, 1, 0, 0, 0) := by decide +kernel
theorem c_231_1 : pg_cd 231 1 = (5, 1, 0, 0, 0) := by decide +kernel
theorem c_231_2 : pg_cd 231 2 = (43, 12, 134, 7, 0) := by decide +kernel
theorem c_231_5 : pg_cd 231 5 = (80, 228, 137, 0, 0) := by decide +kernel
theorem c_231_8 : pg_cd 231 8 = (1, 2, 0, 0, 32) := by decide +kernel
theorem c_231_10 : pg_cd 231 10 = (37, 3, 0, 0, 16) := by decide +kernel
theorem c_231_13 : pg_cd 231 13 = (5, 1, 0, 0, 0) := by decide +kernel
theorem c_231_14 : pg_cd 231 14 = (5, 1, 0, 0, 0) := by decide +kernel
theorem c_231_15 : pg_cd 231 15 = (43, 12, 134, 7, 0) := by decide +kernel
theorem c_231_18 : pg_cd 231 18 = (80, 228, 137, 0, 0) := by decide +kernel
theorem c_231_21 : pg_cd 231 21 = (1, 2, 0, 0, 10) := by decide +kernel
theorem c_231_23 : pg_cd 231 23 = (37, 3, 0, 1, 16) := by decide +kernel
theorem c_231_26 : pg_cd 231 26 = (5, 1, 0, 0, 0) := by decide +kernel
theorem c_231_27 : pg_cd 231 27 = (33, 1, 0, 0, 0) := by decide +kernel
theorem c_231_28 : pg_cd 231 28 = (43, 12, 134, 7, 0) := by decide +kernel
theorem c_231_31 : pg_cd 231 31 = (1, 1, 0, 0, 1) := by decide +kernel
theorem c_231_32 : pg_cd 231 32 = (10, 1, 0, 0, 0) := by decide +kernel
theorem c_231_33 : pg_cd 231 33 = (46, 12, 134, 7, 0) := by decide +kernel
theorem c_231_36 : pg_cd 231 36 = (38, 3, 0, 0, (-36)) := by decide +kernel
theorem c_231_39 : pg_cd 231 39 = (5, 1, 0, 0, 0) := by decide +kernel
theorem c_231_40 : pg_cd 231 40 = (5, 1, 0, 0, 0) := by decide +kernel
theorem c_231_41 : pg_cd 231 41 = (43, 12, 134, 7, 0) := by decide +kernel
theorem c_231_44 : pg_cd 231 44 = (46, 12, 141, 8, 0) := by decide +kernel
theorem c_231_47 : pg_cd 231 47 = (5, 1, 0, 0, 0) := by decide +kernel
theorem c_231_48 : pg_cd 231 48 = (5, 1, 0, 0, 0) := by decide +kernel
theorem c_231_49 : pg_cd 231 49 = (43, 12, 134, 7, 0) := by decide +kernel
theorem c_231_52 : pg_cd 231 52 = (80, 228, 137, 0, 0) := by decide +kernel
theorem c_231_55 : pg_cd 231 55 = (6, 1, 0, 1, 0) := by decide +kernel
theorem c_231_56 : pg_cd 231 56 = (3, 1, 0, 1, 0) := by decide +kernel
theorem c_231_57 : pg_cd 231 57 = (36, 3, 0, 3, 11) := by decide +kernel
theorem c_231_60 : pg_cd 231 60 = (5, 1, 0, 0, 0) := by decide +kernel
theorem c_231_61 : pg_cd 231 61 = (1, 1, 0, 0, 0) := by decide +kernel
theorem c_231_62 : pg_cd 231 62 = (46, 12, 144, 9, 0) := by decide +kernel
theorem c_231_65 : pg_cd 231 65 = (38, 3, 0, 0, 330) := by decide +kernel
theorem c_231_68 : pg_cd 231 68 = (3, 1, 0, 1, 0) := by decide +kernel
theorem c_231_69 : pg_cd 231 69 = (81, 230, 147, 0, 0) := by decide +kernel
theorem c_231_72 : pg_cd 231 72 = (36, 3, 0, 0, 72) := by decide +kernel
theorem c_231_75 : pg_cd 231 75 = (5, 1, 0, 0, 0) := by decide +kernel
theorem c_231_76 : pg_cd 231 76 = (1, 1, 0, 0, 1) := by decide +kernel
theorem c_231_77 : pg_cd 231 77 = (46, 12, 144, 9, 0) := by decide +kernel
theorem c_231_80 : pg_cd 231 80 = (5, 1, 0, 0, 0) := by decide +kernel
theorem c_231_81 : pg_cd 231 81 = (1, 1, 0, 0, 0) := by decide +kernel
theorem c_231_82 : pg_cd 231 82 = (46, 12, 150, 10, 0) := by decide +kernel
theorem c_231_85 : pg_cd 231 85 = (5, 1, 0, 0, 0) := by decide +kernel
theorem c_231_86 : pg_cd 231 86 = (5, 1, 0, 0, 0) := by decide +kernel
theorem c_231_87 : pg_cd 231 87 = (43, 12, 134, 7, 0) := by decide +kernel
theorem c_231_90 : pg_cd 231 90 = (80, 228, 137, 0, 0) := by decide +kernel
theorem c_231_93 : pg_cd 231 93 = (81, 230, 147, 0, 0) := by decide +kernel
theorem c_231_96 : pg_cd 231 96 = (36, 3, 0, 0, 299) := by decide +kernel
theorem c_231_99 : pg_cd 231 99 = (5, 1, 0, 0, 0) := by decide +kernel
theorem c_231_100 : pg_cd 231 100 = (43, 12, 150, 10, 0) := by decide +kernel
theorem c_231_103 : pg_cd 231 103 = (1, 2, 71, 0, 100000) := by decide +kernel
theorem c_231_105 : pg_cd 231 105 = (37, 3, 0, 3, 26) := by decide +kernel
theorem c_231_108 : pg_cd 231 108 = (5, 1, 0, 0, 0) := by decide +kernel
theorem c_231_109 : pg_cd 231 109 = (1, 2, 0, 0, 10) := by decide +kernel
theorem c_231_111 : pg_cd 231 111 = (5, 1, 0, 0, 0) := by decide +kernel
theorem c_231_112 : pg_cd 231 112 = (43, 12, 150, 10, 0) := by decide +kernel
theorem c_231_115 : pg_cd 231 115 = (12, 1, 0, 0, 0) := by decide +kernel
theorem c_231_116 : pg_cd 231 116 = (5, 1, 0, 0, 0) := by decide +kernel
theorem c_231_117 : pg_cd 231 117 = (5, 1, 0, 0, 0) := by decide +kernel
theorem c_231_118 : pg_cd 231 118 = (43, 12, 134, 7, 0) := by decide +kernel
theorem c_231_121 : pg_cd 231 121 = (80, 228, 137, 0, 0) := by decide +kernel
theorem c_231_124 : pg_cd 231 124 = (10, 1, 0, 0, 0) := by decide +kernel
theorem c_231_125 : pg_cd 231 125 = (1, 2, 0, 0, 48) := by decide +kernel
theorem c_231_127 : pg_cd 231 127 = (11, 1, 0, 0, 0) := by decide +kernel
theorem c_231_128 : pg_cd 231 128 = (46, 12, 150, 10, 0) := by decide +kernel
theorem c_231_131 : pg_cd 231 131 = (5, 1, 0, 0, 0) := by decide +kernel
theorem c_231_132 : pg_cd 231 132 = (33, 1, 0, 0, 0) := by decide +kernel
theorem c_231_133 : pg_cd 231 133 = (43, 12, 134, 7, 0) := by decide +kernel
theorem c_231_136 : pg_cd 231 136 = (1, 1, 0, 0, 1) := by decide +kernel
theorem c_231_137 : pg_cd 231 137 = (10, 1, 0, 0, 0) := by decide +kernel
theorem c_231_138 : pg_cd 231 138 = (46, 12, 134, 7, 0) := by decide +kernel
theorem c_231_141 : pg_cd 231 141 = (38, 3, 0, 0, (-56)) := by decide +kernel
theorem c_231_144 : pg_cd 231 144 = (3, 1, 0, 1, 0) := by decide +kernel
theorem c_231_145 : pg_cd 231 145 = (81, 229, 153, 0, 0) := by decide +kernel
theorem c_231_148 : pg_cd 231 148 = (36, 3, 0, 0, 96) := by decide +kernel
theorem c_231_151 : pg_cd 231 151 = (5, 1, 0, 0, 0) := by decide +kernel
theorem c_231_152 : pg_cd 231 152 = (1, 1, 0, 0, 2) := by decide +kernel
theorem c_231_153 : pg_cd 231 153 = (46, 12, 144, 9, 0) := by decide +kernel
theorem c_231_156 : pg_cd 231 156 = (5, 1, 0, 0, 0) := by decide +kernel
theorem c_231_157 : pg_cd 231 157 = (2, 1, 0, 0, 0) := by decide +kernel
theorem c_231_158 : pg_cd 231 158 = (48, 12, 156, 11, 0) := by decide +kernel
theorem c_231_161 : pg_cd 231 161 = (5, 1, 0, 0, 0) := by decide +kernel
theorem c_231_162 : pg_cd 231 162 = (5, 1, 0, 0, 0) := by decide +kernel
theorem c_231_163 : pg_cd 231 163 = (43, 12, 134, 7, 0) := by decide +kernel
theorem c_231_166 : pg_cd 231 166 = (80, 228, 137, 0, 0) := by decide +kernel
theorem c_231_169 : pg_cd 231 169 = (81, 229, 153, 0, 0) := by decide +kernel
theorem c_231_172 : pg_cd 231 172 = (36, 3, 0, 0, 51) := by decide +kernel
theorem c_231_175 : pg_cd 231 175 = (5, 1, 0, 0, 0) := by decide +kernel
theorem c_231_176 : pg_cd 231 176 = (43, 12, 134, 7, 0) := by decide +kernel
theorem c_231_179 : pg_cd 231 179 = (5, 1, 0, 0, 0) := by decide +kernel
theorem c_231_180 : pg_cd 231 180 = (43, 12, 141, 8, 0) := by decide +kernel
theorem c_231_183 : pg_cd 231 183 = (11, 1, 0, 0, 0) := by decide +kernel
theorem c_231_184 : pg_cd 231 184 = (1, 2, 0, 0, 6) := by decide +kernel
theorem c_231_186 : pg_cd 231 186 = (37, 3, 0, 3, 24) := by decide +kernel
theorem c_231_189 : pg_cd 231 189 = (5, 1, 0, 0, 0) := by decide +kernel
theorem c_231_190 : pg_cd 231 190 = (5, 1, 0, 0, 0) := by decide +kernel
theorem c_231_191 : pg_cd 231 191 = (44, 12, 156, 11, 0) := by decide +kernel
theorem c_231_194 : pg_cd 231 194 = (1, 2, 0, 0, 8) := by decide +kernel
theorem c_231_196 : pg_cd 231 196 = (32, 1, 0, 0, 0) := by decide +kernel
theorem c_231_197 : pg_cd 231 197 = (5, 1, 0, 0, 0) := by decide +kernel
theorem c_231_198 : pg_cd 231 198 = (5, 1, 0, 0, 0) := by decide +kernel
theorem c_231_199 : pg_cd 231 199 = (43, 12, 134, 7, 0) := by decide +kernel
theorem c_231_202 : pg_cd 231 202 = (80, 228, 137, 0, 0) := by decide +kernel
theorem c_231_205 : pg_cd 231 205 = (31, 1, 0, 0, 0) := by decide +kernel
theorem c_231_206 : pg_cd 231 206 = (25, 1, 0, 0, 0) := by decide +kernel
theorem c_231_207 : pg_cd 231 207 = (48, 12, 156, 11, 0) := by decide +kernel
theorem c_231_210 : pg_cd 231 210 = (5, 1, 0, 0, 0) := by decide +kernel
theorem c_231_211 : pg_cd 231 211 = (33, 1, 0, 0, 0) := by decide +kernel
theorem c_231_212 : pg_cd 231 212 = (43, 12, 134, 7, 0) := by decide +kernel
theorem c_231_215 : pg_cd 231 215 = (1, 1, 0, 0, 1) := by decide +kernel
theorem c_231_216 : pg_cd 231 216 = (10, 1, 0, 0, 0) := by decide +kernel
theorem c_231_217 : pg_cd 231 217 = (46, 12, 134, 7, 0) := by decide +kernel
theorem c_231_220 : pg_cd 231 220 = (38, 3, 0, 0, (-59)) := by decide +kernel
theorem c_231_223 : pg_cd 231 223 = (5, 1, 0, 0, 0) := by decide +kernel
theorem c_231_224 : pg_cd 231 224 = (43, 12, 134, 7, 0) := by decide +kernel
theorem c_231_227 : pg_cd 231 227 = (5, 1, 0, 0, 0) := by decide +kernel
theorem c_231_228 : pg_cd 231 228 = (43, 12, 141, 8, 0) := by decide +kernel
theorem c_231_231 : pg_cd 231 231 = (11, 1, 0, 0, 0) := by decide +kernel
theorem c_231_232 : pg_cd 231 232 = (1, 1, 0, 0, 5) := by decide +kernel
theorem c_231_233 : pg_cd 231 233 = (37, 3, 0, 5, 162) := by decide +kernel
theorem c_231_236 : pg_cd 231 236 = (5, 1, 0, 0, 0) := by decide +kernel
theorem c_231_237 : pg_cd 231 237 = (2, 1, 0, 0, 0) := by decide +kernel
theorem c_231_238 : pg_cd 231 238 = (48, 12, 156, 11, 0) := by decide +kernel
theorem c_231_241 : pg_cd 231 241 = (38, 3, 0, 0, 154) := by decide +kernel
theorem c_231_244 : pg_cd 231 244 = (5, 1, 0, 0, 0) := by decide +kernel
theorem c_231_245 : pg_cd 231 245 = (33, 1, 0, 0, 0) := by decide +kernel
theorem c_231_246 : pg_cd 231 246 = (43, 12, 134, 7, 0) := by decide +kernel
theorem c_231_249 : pg_cd 231 249 = (1, 1, 0, 0, 1) := by decide +kernel
theorem c_231_250 : pg_cd 231 250 = (10, 1, 0, 0, 0) := by decide +kernel
theorem c_231_251 : pg_cd 231 251 = (46, 12, 134, 7, 0) := by decide +kernel
theorem c_231_254 : pg_cd 231 254 = (3, 1, 0, 1, 0) := by decide +kernel
theorem c_231_255 : pg_cd 231 255 = (1, 2, 0, 0, 60) := by decide +kernel
theorem c_231_257 : pg_cd 231 257 = (37, 3, 0, 0, 69) := by decide +kernel
theorem c_231_260 : pg_cd 231 260 = (3, 1, 0, 1, 0) := by decide +kernel
theorem c_231_261 : pg_cd 231 261 = (1, 2, 0, 0, 62) := by decide +kernel
theorem c_231_263 : pg_cd 231 263 = (37, 3, 0, 0, 63) := by decide +kernel
theorem c_231_266 : pg_cd 231 266 = (3, 1, 0, 1, 0) := by decide +kernel
theorem c_231_267 : pg_cd 231 267 = (1, 2, 0, 0, 61) := by decide +kernel
theorem c_231_269 : pg_cd 231 269 = (37, 3, 0, 0, 57) := by decide +kernel
theorem c_231_272 : pg_cd 231 272 = (3, 1, 0, 1, 0) := by decide +kernel
theorem c_231_273 : pg_cd 231 273 = (1, 2, 0, 0, 35) := by decide +kernel
theorem c_231_275 : pg_cd 231 275 = (37, 3, 0, 0, 51) := by decide +kernel
theorem c_231_278 : pg_cd 231 278 = (3, 1, 0, 1, 0) := by decide +kernel
theorem c_231_279 : pg_cd 231 279 = (1, 2, 0, 0, 43) := by decide +kernel
theorem c_231_281 : pg_cd 231 281 = (37, 3, 0, 0, 45) := by decide +kernel
theorem c_231_284 : pg_cd 231 284 = (3, 1, 0, 1, 0) := by decide +kernel
theorem c_231_285 : pg_cd 231 285 = (1, 2, 0, 0, 45) := by decide +kernel
theorem c_231_287 : pg_cd 231 287 = (37, 3, 0, 0, 39) := by decide +kernel
theorem c_231_290 : pg_cd 231 290 = (3, 1, 0, 1, 0) := by decide +kernel
theorem c_231_291 : pg_cd 231 291 = (1, 2, 0, 0, 42) := by decide +kernel
theorem c_231_293 : pg_cd 231 293 = (37, 3, 0, 0, 33) := by decide +kernel
theorem c_231_296 : pg_cd 231 296 = (3, 1, 0, 1, 0) := by decide +kernel
theorem c_231_297 : pg_cd 231 297 = (1, 2, 0, 0, 47) := by decide +kernel
theorem c_231_299 : pg_cd 231 299 = (37, 3, 0, 0, 27) := by decide +kernel
theorem c_231_302 : pg_cd 231 302 = (3, 1, 0, 1, 0) := by decide +kernel
theorem c_231_303 : pg_cd 231 303 = (1, 2, 0, 0, 40) := by decide +kernel
theorem c_231_305 : pg_cd 231 305 = (37, 3, 0, 0, 21) := by decide +kernel
theorem c_231_308 : pg_cd 231 308 = (3, 1, 0, 1, 0) := by decide +kernel
theorem c_231_309 : pg_cd 231 309 = (1, 2, 0, 0, 41) := by decide +kernel
theorem c_231_311 : pg_cd 231 311 = (37, 3, 0, 0, 15) := by decide +kernel
theorem c_231_314 : pg_cd 231 314 = (3, 1, 0, 1, 0) := by decide +kernel
theorem c_231_315 : pg_cd 231 315 = (1, 2, 0, 0, 44) := by decide +kernel
theorem c_231_317 : pg_cd 231 317 = (37, 3, 0, 0, 9) := by decide +kernel
theorem c_231_320 : pg_cd 231 320 = (3, 1, 0, 1, 0) := by decide +kernel
theorem c_231_321 : pg_cd 231 321 = (1, 2, 0, 0, 59) := by decide +kernel
theorem c_231_323 : pg_cd 231 323 = (37, 3, 0, 1, 7) := by decide +kernel
theorem c_231_326 : pg_cd 231 326 = (1, 1, 0, 0, 1) := by decide +kernel
theorem c_231_327 : pg_cd 231 327 = (38, 3, 0, 0, 4) := by decide +kernel
theorem c_231_330 : pg_cd 231 330 = (1, 1, 0, 0, 0) := by decide +kernel
theorem c_231_331 : pg_cd 231 331 = (6, 1, 0, 2, 0) := by decide +kernel
theorem c_231_332 : pg_cd 231 332 = (5, 1, 0, 0, 0) := by decide +kernel
theorem c_231_333 : pg_cd 231 333 = (3, 1, 0, 2, 0) := by decide +kernel
theorem c_231_334 : pg_cd 231 334 = (36, 3, 0, 0, 7) := by decide +kernel
theorem c_231_337 : pg_cd 231 337 = (3, 1, 0, 1, 0) := by decide +kernel
theorem c_231_338 : pg_cd 231 338 = (38, 3, 0, 0, 4) := by decide +kernel
theorem c_231_341 : pg_cd 231 341 = (1, 1, 0, 0, 3) := by decide +kernel
theorem c_231_342 : pg_cd 231 342 = (46, 12, 144, 9, 0) := by decide +kernel
theorem c_231_345 : pg_cd 231 345 = (3, 1, 0, 1, 0) := by decide +kernel
theorem c_231_346 : pg_cd 231 346 = (1, 2, 0, 0, 60) := by decide +kernel
theorem c_231_348 : pg_cd 231 348 = (37, 3, 0, 0, 9) := by decide +kernel
theorem c_231_351 : pg_cd 231 351 = (3, 1, 0, 1, 0) := by decide +kernel
theorem c_231_352 : pg_cd 231 352 = (1, 2, 0, 0, 62) := by decide +kernel
theorem c_231_354 : pg_cd 231 354 = (37, 3, 0, 1, 41) := by decide +kernel
theorem c_231_357 : pg_cd 231 357 = (5, 1, 0, 0, 0) := by decide +kernel
theorem c_231_358 : pg_cd 231 358 = (5, 1, 0, 0, 0) := by decide +kernel
theorem c_231_359 : pg_cd 231 359 = (43, 12, 134, 7, 0) := by decide +kernel
theorem c_231_362 : pg_cd 231 362 = (80, 228, 137, 0, 0) := by decide +kernel
theorem c_231_365 : pg_cd 231 365 = (1, 2, 0, 0, 61) := by decide +kernel
theorem c_231_367 : pg_cd 231 367 = (37, 3, 0, 1, 28) := by decide +kernel
theorem c_231_370 : pg_cd 231 370 = (5, 1, 0, 0, 0) := by decide +kernel
theorem c_231_371 : pg_cd 231 371 = (33, 1, 0, 0, 0) := by decide +kernel
theorem c_231_372 : pg_cd 231 372 = (43, 12, 134, 7, 0) := by decide +kernel
theorem c_231_375 : pg_cd 231 375 = (1, 1, 0, 0, 1) := by decide +kernel
theorem c_231_376 : pg_cd 231 376 = (10, 1, 0, 0, 0) := by decide +kernel
theorem c_231_377 : pg_cd 231 377 = (46, 12, 134, 7, 0) := by decide +kernel
theorem c_231_380 : pg_cd 231 380 = (5, 1, 0, 0, 0) := by decide +kernel
theorem c_231_381 : pg_cd 231 381 = (3, 1, 0, 1, 0) := by decide +kernel
theorem c_231_382 : pg_cd 231 382 = (1, 2, 0, 0, 60) := by decide +kernel
theorem c_231_384 : pg_cd 231 384 = (37, 3, 0, 1, 7) := by decide +kernel
theorem c_231_387 : pg_cd 231 387 = (1, 1, 0, 0, 4) := by decide +kernel
theorem c_231_388 : pg_cd 231 388 = (38, 3, 0, 0, 4) := by decide +kernel
theorem c_231_391 : pg_cd 231 391 = (1, 1, 0, 0, 5) := by decide +kernel
theorem c_231_392 : pg_cd 231 392 = (46, 12, 144, 9, 0) := by decide +kernel
theorem c_231_395 : pg_cd 231 395 = (94, 0, 0, 0, 0) := by decide +kernel
theorem mx_231 : pg_mx 231 = 3 := by decide +kernel
theorem m_231 {d : Nat} {h : ab_H} {Q : Option Value → ab_H → Prop} {x0 : Nat} (t : wq d 231 0 [.ref x0, .retAddr 0, .retAddr 0] [] h Q) : wm d 231 [.ref x0] h Q := by
  unfold wm
  rw [mx_231]
  exact t
set_option maxRecDepth 20000 in
theorem t_231_0 {d : Nat} {h : ab_H} {Q : Option Value → ab_H → Prop} {x0 : Nat} (t : ab_ok h x0 112 = true ∧ ab_ok h x0 112 = true ∧ wm d 228 [.ref x0, .int (ab_i h x0 7)] h (fun r9 h9 => wq (d + 1) 231 8 [.ref x0, .retAddr 0, .retAddr 0] (r9.toList ++ []) h9 Q)) : wq (d + 1) 231 0 [.ref x0, .retAddr 0, .retAddr 0] [] h Q := by
  refine g5 c_231_0 rfl ?_
  refine g5 c_231_1 rfl ?_
  obtain ⟨ho, t⟩ := t
  refine g43 c_231_2 ho ?_
  exact g80 (As := [.int (ab_i h x0 7)]) (rest := []) c_231_5 rfl rfl (Nat.le_of_ble_eq_true rfl) (Nat.le_of_ble_eq_true rfl) t.1 t.2
set_option maxRecDepth 20000 in
theorem t_231_8 {d : Nat} {h : ab_H} {Q : Option Value → ab_H → Prop} {x0 : Nat} {s0 : Int32} (t : if s0 = 32 then (wq (d + 1) 231 26 [.ref x0, .retAddr 0, .retAddr 0] [] h Q) else (ab_ok h x0 112 = true ∧ ab_ok h x0 112 = true ∧ wm d 228 [.ref x0, .int (ab_i h x0 7)] h (fun r9 h9 => wq (d + 1) 231 21 [.ref x0, .retAddr 0, .retAddr 0] (r9.toList ++ []) h9 Q))) : wq (d + 1) 231 8 [.ref x0, .retAddr 0, .retAddr 0] [.int s0] h Q := by
  refine g1 c_231_8 k_32 ?_
  refine gcm c_231_10 (gbr t rfl rfl (fun hc t => ?_) (fun hc t => ?_))
  · exact t
  · refine g5 c_231_13 rfl ?_
    refine g5 c_231_14 rfl ?_
    obtain ⟨ho, t⟩ := t
    refine g43 c_231_15 ho ?_
    exact g80 (As := [.int (ab_i h x0 7)]) (rest := []) c_231_18 rfl rfl (Nat.le_of_ble_eq_true rfl) (Nat.le_of_ble_eq_true rfl) t.1 t.2
set_option maxRecDepth 20000 in
theorem t_231_21 {d : Nat} {h : ab_H} {Q : Option Value → ab_H → Prop} {x0 : Nat} {s0 : Int32} (t : if s0 = 10 then (wq (d + 1) 231 26 [.ref x0, .retAddr 0, .retAddr 0] [] h Q) else (ab_ok h x0 112 = true ∧ ab_ok h x0 112 = true ∧ ∀ h1 : ab_H, h1 = ab_pi h x0 8 (ab_i h x0 7) → ab_ok h1 x0 112 = true ∧ ab_ok h1 x0 112 = true ∧ wm d 228 [.ref x0, .int (ab_i h1 x0 7)] h1 (fun r9 h9 => wq (d + 1) 231 55 [.ref x0, .retAddr 0, .retAddr 0] (r9.toList ++ []) h9 Q))) : wq (d + 1) 231 21 [.ref x0, .retAddr 0, .retAddr 0] [.int s0] h Q := by
  refine g1 c_231_21 k_10 ?_
  refine gcm c_231_23 (gbn t (ab_c1 _ _) rfl (fun hc t => ?_) (fun hc t => ?_))
  · exact t
  · refine g5 c_231_39 rfl ?_
    refine g5 c_231_40 rfl ?_
    obtain ⟨ho, t⟩ := t
    refine g43 c_231_41 ho ?_
    obtain ⟨ho, t⟩ := t
    refine g46 c_231_44 ho (fun h1 eh1 => ?_)
    have t := t h1 eh1
    refine g5 c_231_47 rfl ?_
    refine g5 c_231_48 rfl ?_
    obtain ⟨ho, t⟩ := t
    refine g43 c_231_49 ho ?_
    exact g80 (As := [.int (ab_i h1 x0 7)]) (rest := []) c_231_52 rfl rfl (Nat.le_of_ble_eq_true rfl) (Nat.le_of_ble_eq_true rfl) t.1 t.2
set_option maxRecDepth 20000 in
theorem t_231_26 {d : Nat} {h : ab_H} {Q : Option Value → ab_H → Prop} {x0 : Nat} (t : ab_ok h x0 112 = true ∧ ab_ok h x0 112 = true ∧ ∀ h1 : ab_H, h1 = ab_pi h x0 7 ((ab_i h x0 7) + 1) → wq d 231 0 [.ref x0, .retAddr 0, .retAddr 0] [] h1 Q) : wq d 231 26 [.ref x0, .retAddr 0, .retAddr 0] [] h Q := by
  refine g5 c_231_26 rfl ?_
  refine g33a c_231_27 ?_
  obtain ⟨ho, t⟩ := t
  refine g43 c_231_28 ho ?_
  refine g1 c_231_31 k_1 ?_
  refine g10 c_231_32 ?_
  obtain ⟨ho, t⟩ := t
  refine g46 c_231_33 ho (fun h1 eh1 => ?_)
  have t := t h1 eh1
  refine g38 c_231_36 rfl ?_
  exact t
set_option maxRecDepth 20000 in
theorem t_231_55 {d : Nat} {h : ab_H} {Q : Option Value → ab_H → Prop} {x0 : Nat} {s0 : Int32} (t : if 0 ≤ s0 then (wm d 230 [.int s0] h (fun r9 h9 => wq (d + 1) 231 72 [.ref x0, .int s0, .retAddr 0] (r9.toList ++ []) h9 Q)) else (ab_ok h x0 112 = true ∧ ∀ h1 : ab_H, h1 = ab_pi h x0 9 0 → wq (d + 1) 231 395 [.ref x0, .int s0, .retAddr 0] [] h1 Q)) : wq (d + 1) 231 55 [.ref x0, .retAddr 0, .retAddr 0] [.int s0] h Q := by
  refine g6 (L' := [.ref x0, .int s0, .retAddr 0]) c_231_55 rfl ?_
  refine g3 c_231_56 rfl ?_
  refine gif c_231_57 (gbr t rfl rfl (fun hc t => ?_) (fun hc t => ?_))
  · refine g3 c_231_68 rfl ?_
    exact g81 (As := [.int s0]) (rest := []) c_231_69 rfl rfl (Nat.le_of_ble_eq_true rfl) (Nat.le_of_ble_eq_true rfl) t
  · refine g5 c_231_60 rfl ?_
    refine g1 c_231_61 k_0 ?_
    obtain ⟨ho, t⟩ := t
    refine g46 c_231_62 ho (fun h1 eh1 => ?_)
    have t := t h1 eh1
    refine g38 c_231_65 rfl ?_
    exact t
set_option maxRecDepth 20000 in
theorem t_231_72 {d : Nat} {h : ab_H} {Q : Option Value → ab_H → Prop} {x0 : Nat} {x1 : Int32} {s0 : Int32} (t : if s0 = 0 then (wm d 229 [.int x1] h (fun r9 h9 => wq (d + 1) 231 148 [.ref x0, .int x1, .retAddr 0] (r9.toList ++ []) h9 Q)) else (ab_ok h x0 112 = true ∧ ∀ h1 : ab_H, h1 = ab_pi h x0 9 1 → ab_ok h1 x0 112 = true ∧ ∀ h2 : ab_H, h2 = ab_pi h1 x0 10 0 → wq (d + 1) 231 85 [.ref x0, .int x1, .retAddr 0] [] h2 Q)) : wq (d + 1) 231 72 [.ref x0, .int x1, .retAddr 0] [.int s0] h Q := by
  refine gif c_231_72 (gbr t rfl rfl (fun hc t => ?_) (fun hc t => ?_))
  · refine g3 c_231_144 rfl ?_
    exact g81 (As := [.int x1]) (rest := []) c_231_145 rfl rfl (Nat.le_of_ble_eq_true rfl) (Nat.le_of_ble_eq_true rfl) t
  · refine g5 c_231_75 rfl ?_
    refine g1 c_231_76 k_1 ?_
    obtain ⟨ho, t⟩ := t
    refine g46 c_231_77 ho (fun h1 eh1 => ?_)
    have t := t h1 eh1
    refine g5 c_231_80 rfl ?_
    refine g1 c_231_81 k_0 ?_
    obtain ⟨ho, t⟩ := t
    refine g46 c_231_82 ho (fun h2 eh2 => ?_)
    have t := t h2 eh2
    exact t
set_option maxRecDepth 20000 in
theorem t_231_85 {d : Nat} {h : ab_H} {Q : Option Value → ab_H → Prop} {x0 : Nat} {x1 : Int32} (t : ab_ok h x0 112 = true ∧ ab_ok h x0 112 = true ∧ wm d 228 [.ref x0, .int (ab_i h x0 7)] h (fun r9 h9 => wq (d + 1) 231 93 [.ref x0, .int x1, .retAddr 0] (r9.toList ++ []) h9 Q)) : wq (d + 1) 231 85 [.ref x0, .int x1, .retAddr 0] [] h Q := by
  refine g5 c_231_85 rfl ?_
  refine g5 c_231_86 rfl ?_
  obtain ⟨ho, t⟩ := t
  refine g43 c_231_87 ho ?_
  exact g80 (As := [.int (ab_i h x0 7)]) (rest := []) c_231_90 rfl rfl (Nat.le_of_ble_eq_true rfl) (Nat.le_of_ble_eq_true rfl) t.1 t.2
set_option maxRecDepth 20000 in
theorem t_231_93 {d : Nat} {h : ab_H} {Q : Option Value → ab_H → Prop} {x0 : Nat} {x1 : Int32} {s0 : Int32} (t : wm d 230 [.int s0] h (fun r9 h9 => wq (d + 1) 231 96 [.ref x0, .int x1, .retAddr 0] (r9.toList ++ []) h9 Q)) : wq (d + 1) 231 93 [.ref x0, .int x1, .retAddr 0] [.int s0] h Q := by
  exact g81 (As := [.int s0]) (rest := []) c_231_93 rfl rfl (Nat.le_of_ble_eq_true rfl) (Nat.le_of_ble_eq_true rfl) t
set_option maxRecDepth 20000 in
theorem t_231_96 {d : Nat} {h : ab_H} {Q : Option Value → ab_H → Prop} {x0 : Nat} {x1 : Int32} {s0 : Int32} (t : if s0 = 0 then (wq (d + 1) 231 395 [.ref x0, .int x1, .retAddr 0] [] h Q) else (ab_ok h x0 112 = true ∧ if 100000 ≤ (ab_i h x0 10) then (wq (d + 1) 231 131 [.ref x0, .int x1, .retAddr 0] [] h Q) else (ab_ok h x0 112 = true ∧ ab_ok h x0 112 = true ∧ ab_ok h x0 112 = true ∧ wm d 228 [.ref x0, .int (ab_i h x0 7)] h (fun r9 h9 => wq (d + 1) 231 124 [.ref x0, .int x1, .retAddr 0] (r9.toList ++ [.int (10 * (ab_i h x0 10)), .ref x0]) h9 Q)))) : wq (d + 1) 231 96 [.ref x0, .int x1, .retAddr 0] [.int s0] h Q := by
  refine gif c_231_96 (gbr t rfl rfl (fun hc t => ?_) (fun hc t => ?_))
  · exact t
  · refine g5 c_231_99 rfl ?_
    obtain ⟨ho, t⟩ := t
    refine g43 c_231_100 ho ?_
    refine g1 c_231_103 k_100000 ?_
    refine gcm c_231_105 (gbr t rfl rfl (fun hc t => ?_) (fun hc t => ?_))
    · exact t
    · refine g5 c_231_108 rfl ?_
      refine g1 c_231_109 k_10 ?_
      refine g5 c_231_111 rfl ?_
      obtain ⟨ho, t⟩ := t
      refine g43 c_231_112 ho ?_
      refine g12 c_231_115 ?_
      refine g5 c_231_116 rfl ?_
      refine g5 c_231_117 rfl ?_
      obtain ⟨ho, t⟩ := t
      refine g43 c_231_118 ho ?_
      exact g80 (As := [.int (ab_i h x0 7)]) (rest := [.int (10 * (ab_i h x0 10)), .ref x0]) c_231_121 rfl rfl (Nat.le_of_ble_eq_true rfl) (Nat.le_of_ble_eq_true rfl) t.1 t.2
set_option maxRecDepth 20000 in
theorem t_231_124 {d : Nat} {h : ab_H} {Q : Option Value → ab_H → Prop} {x0 : Nat} {x1 : Int32} {s0 : Nat} {s1 : Int32} {s2 : Int32} (t : ab_ok h s0 112 = true ∧ ∀ h1 : ab_H, h1 = ab_pi h s0 10 ((s1 + s2) - 48) → wq d 231 131 [.ref x0, .int x1, .retAddr 0] [] h1 Q) : wq d 231 124 [.ref x0, .int x1, .retAddr 0] [.int s2, .int s1, .ref s0] h Q := by
  refine g10 c_231_124 ?_
  refine g1 c_231_125 k_48 ?_
  refine g11 c_231_127 ?_
  obtain ⟨ho, t⟩ := t
  refine g46 c_231_128 ho (fun h1 eh1 => ?_)
  have t := t h1 eh1
  exact t
set_option maxRecDepth 20000 in
theorem t_231_131 {d : Nat} {h : ab_H} {Q : Option Value → ab_H → Prop} {x0 : Nat} {x1 : Int32} (t : ab_ok h x0 112 = true ∧ ab_ok h x0 112 = true ∧ ∀ h1 : ab_H, h1 = ab_pi h x0 7 ((ab_i h x0 7) + 1) → wq d 231 85 [.ref x0, .int x1, .retAddr 0] [] h1 Q) : wq d 231 131 [.ref x0, .int x1, .retAddr 0] [] h Q := by
  refine g5 c_231_131 rfl ?_
  refine g33a c_231_132 ?_
  obtain ⟨ho, t⟩ := t
  refine g43 c_231_133 ho ?_
  refine g1 c_231_136 k_1 ?_
  refine g10 c_231_137 ?_
  obtain ⟨ho, t⟩ := t
  refine g46 c_231_138 ho (fun h1 eh1 => ?_)
  have t := t h1 eh1
  refine g38 c_231_141 rfl ?_
  exact t
set_option maxRecDepth 20000 in
theorem t_231_148 {d : Nat} {h : ab_H} {Q : Option Value → ab_H → Prop} {x0 : Nat} {x1 : Int32} {s0 : Int32} (t : if s0 = 0 then (ab_ok h x0 112 = true ∧ ab_ok h x0 112 = true ∧ ∀ h1 : ab_H, h1 = ab_pi h x0 7 ((ab_i h x0 7) + 1) → if x1 = 60 then (wq d 231 326 [.ref x0, .int x1, .retAddr 0] [] h1 Q) else (if x1 = 62 then (wq d 231 326 [.ref x0, .int x1, .retAddr 0] [] h1 Q) else (if x1 = 61 then (wq d 231 326 [.ref x0, .int x1, .retAddr 0] [] h1 Q) else (if x1 = 35 then (wq d 231 326 [.ref x0, .int x1, .retAddr 0] [] h1 Q) else (if x1 = 43 then (wq d 231 326 [.ref x0, .int x1, .retAddr 0] [] h1 Q) else (if x1 = 45 then (wq d 231 326 [.ref x0, .int x1, .retAddr 0] [] h1 Q) else (if x1 = 42 then (wq d 231 326 [.ref x0, .int x1, .retAddr 0] [] h1 Q) else (if x1 = 47 then (wq d 231 326 [.ref x0, .int x1, .retAddr 0] [] h1 Q) else (if x1 = 40 then (wq d 231 326 [.ref x0, .int x1, .retAddr 0] [] h1 Q) else (if x1 = 41 then (wq d 231 326 [.ref x0, .int x1, .retAddr 0] [] h1 Q) else (if x1 = 44 then (wq d 231 326 [.ref x0, .int x1, .retAddr 0] [] h1 Q) else (if x1 = 59 then (wq d 231 326 [.ref x0, .int x1, .retAddr 0] [] h1 Q) else (wq d 231 331 [.ref x0, .int x1, .retAddr 0] [.int 0] h1 Q))))))))))))) else (ab_ok h x0 112 = true ∧ ∀ h2 : ab_H, h2 = ab_pi h x0 9 2 → ab_ok h2 x0 112 = true ∧ ∀ h3 : ab_H, h3 = ab_pl h2 x0 11 0 → wq d 231 161 [.ref x0, .int x1, .retAddr 0] [] h3 Q)) : wq d 231 148 [.ref x0, .int x1, .retAddr 0] [.int s0] h Q := by
  refine gif c_231_148 (gbr t rfl rfl (fun hc t => ?_) (fun hc t => ?_))
  · refine g5 c_231_244 rfl ?_
    refine g33a c_231_245 ?_
    obtain ⟨ho, t⟩ := t
    refine g43 c_231_246 ho ?_
    refine g1 c_231_249 k_1 ?_
    refine g10 c_231_250 ?_
    obtain ⟨ho, t⟩ := t
    refine g46 c_231_251 ho (fun h1 eh1 => ?_)
    have t := t h1 eh1
    refine g3 c_231_254 rfl ?_
    refine g1 c_231_255 k_60 ?_
    refine gcm c_231_257 (gbr t rfl rfl (fun hc t => ?_) (fun hc t => ?_))
    · exact t
    · refine g3 c_231_260 rfl ?_
      refine g1 c_231_261 k_62 ?_
      refine gcm c_231_263 (gbr t rfl rfl (fun hc t => ?_) (fun hc t => ?_))
      · exact t
      · refine g3 c_231_266 rfl ?_
        refine g1 c_231_267 k_61 ?_
        refine gcm c_231_269 (gbr t rfl rfl (fun hc t => ?_) (fun hc t => ?_))
        · exact t
        · refine g3 c_231_272 rfl ?_
          refine g1 c_231_273 k_35 ?_
          refine gcm c_231_275 (gbr t rfl rfl (fun hc t => ?_) (fun hc t => ?_))
          · exact t
          · refine g3 c_231_278 rfl ?_
            refine g1 c_231_279 k_43 ?_
            refine gcm c_231_281 (gbr t rfl rfl (fun hc t => ?_) (fun hc t => ?_))
            · exact t
            · refine g3 c_231_284 rfl ?_
              refine g1 c_231_285 k_45 ?_
              refine gcm c_231_287 (gbr t rfl rfl (fun hc t => ?_) (fun hc t => ?_))
              · exact t
              · refine g3 c_231_290 rfl ?_
                refine g1 c_231_291 k_42 ?_
                refine gcm c_231_293 (gbr t rfl rfl (fun hc t => ?_) (fun hc t => ?_))
                · exact t
                · refine g3 c_231_296 rfl ?_
                  refine g1 c_231_297 k_47 ?_
                  refine gcm c_231_299 (gbr t rfl rfl (fun hc t => ?_) (fun hc t => ?_))
                  · exact t
                  · refine g3 c_231_302 rfl ?_
                    refine g1 c_231_303 k_40 ?_
                    refine gcm c_231_305 (gbr t rfl rfl (fun hc t => ?_) (fun hc t => ?_))
                    · exact t
                    · refine g3 c_231_308 rfl ?_
                      refine g1 c_231_309 k_41 ?_
                      refine gcm c_231_311 (gbr t rfl rfl (fun hc t => ?_) (fun hc t => ?_))
                      · exact t
                      · refine g3 c_231_314 rfl ?_
                        refine g1 c_231_315 k_44 ?_
                        refine gcm c_231_317 (gbr t rfl rfl (fun hc t => ?_) (fun hc t => ?_))
                        · exact t
                        · refine g3 c_231_320 rfl ?_
                          refine g1 c_231_321 k_59 ?_
                          refine gcm c_231_323 (gbn t (ab_c1 _ _) rfl (fun hc t => ?_) (fun hc t => ?_))
                          · exact t
                          · refine g1 c_231_330 k_0 ?_
                            exact t
  · refine g5 c_231_151 rfl ?_
    refine g1 c_231_152 k_2 ?_
    obtain ⟨ho, t⟩ := t
    refine g46 c_231_153 ho (fun h2 eh2 => ?_)
    have t := t h2 eh2
    refine g5 c_231_156 rfl ?_
    refine g2 c_231_157 kl_0 ?_
    obtain ⟨ho, t⟩ := t
    refine g48 c_231_158 ho (fun h3 eh3 => ?_)
    have t := t h3 eh3
    exact t
set_option maxRecDepth 20000 in
theorem t_231_161 {d : Nat} {h : ab_H} {Q : Option Value → ab_H → Prop} {x0 : Nat} {x1 : Int32} (t : ab_ok h x0 112 = true ∧ ab_ok h x0 112 = true ∧ wm d 228 [.ref x0, .int (ab_i h x0 7)] h (fun r9 h9 => wq (d + 1) 231 169 [.ref x0, .int x1, .retAddr 0] (r9.toList ++ []) h9 Q)) : wq (d + 1) 231 161 [.ref x0, .int x1, .retAddr 0] [] h Q := by
  refine g5 c_231_161 rfl ?_
  refine g5 c_231_162 rfl ?_
  obtain ⟨ho, t⟩ := t
  refine g43 c_231_163 ho ?_
  exact g80 (As := [.int (ab_i h x0 7)]) (rest := []) c_231_166 rfl rfl (Nat.le_of_ble_eq_true rfl) (Nat.le_of_ble_eq_true rfl) t.1 t.2
set_option maxRecDepth 20000 in
theorem t_231_169 {d : Nat} {h : ab_H} {Q : Option Value → ab_H → Prop} {x0 : Nat} {x1 : Int32} {s0 : Int32} (t : wm d 229 [.int s0] h (fun r9 h9 => wq (d + 1) 231 172 [.ref x0, .int x1, .retAddr 0] (r9.toList ++ []) h9 Q)) : wq (d + 1) 231 169 [.ref x0, .int x1, .retAddr 0] [.int s0] h Q := by
  exact g81 (As := [.int s0]) (rest := []) c_231_169 rfl rfl (Nat.le_of_ble_eq_true rfl) (Nat.le_of_ble_eq_true rfl) t
set_option maxRecDepth 20000 in
theorem t_231_172 {d : Nat} {h : ab_H} {Q : Option Value → ab_H → Prop} {x0 : Nat} {x1 : Int32} {s0 : Int32} (t : if s0 = 0 then (ab_ok h x0 112 = true ∧ ab_ok h x0 112 = true ∧ if ((ab_i h x0 7) - (ab_i h x0 8)) ≤ 5 then (wq (d + 1) 231 395 [.ref x0, .int x1, .retAddr 0] [] h Q) else (ab_ok h x0 112 = true ∧ ∀ h1 : ab_H, h1 = ab_pl h x0 11 0 → wq (d + 1) 231 395 [.ref x0, .int x1, .retAddr 0] [] h1 Q)) else (ab_ok h x0 112 = true ∧ ab_ok h x0 112 = true ∧ if 6 ≤ ((ab_i h x0 7) - (ab_i h x0 8)) then (wq (d + 1) 231 210 [.ref x0, .int x1, .retAddr 0] [] h Q) else (ab_ok h x0 112 = true ∧ ab_ok h x0 112 = true ∧ ab_ok h x0 112 = true ∧ wm d 228 [.ref x0, .int (ab_i h x0 7)] h (fun r9 h9 => wq (d + 1) 231 205 [.ref x0, .int x1, .retAddr 0] (r9.toList ++ [.long ((ab_l h x0 11) <<< (Int32.toInt64 8 &&& 63)), .ref x0]) h9 Q)))) : wq (d + 1) 231 172 [.ref x0, .int x1, .retAddr 0] [.int s0] h Q := by
  refine gif c_231_172 (gbr t rfl rfl (fun hc t => ?_) (fun hc t => ?_))
  · refine g5 c_231_223 rfl ?_
    obtain ⟨ho, t⟩ := t
    refine g43 c_231_224 ho ?_
    refine g5 c_231_227 rfl ?_
    obtain ⟨ho, t⟩ := t
    refine g43 c_231_228 ho ?_
    refine g11 c_231_231 ?_
    refine g1 c_231_232 k_5 ?_
    refine gcm c_231_233 (gbr t rfl rfl (fun hc t => ?_) (fun hc t => ?_))
    · exact t
    · refine g5 c_231_236 rfl ?_
      refine g2 c_231_237 kl_0 ?_
      obtain ⟨ho, t⟩ := t
      refine g48 c_231_238 ho (fun h1 eh1 => ?_)
      have t := t h1 eh1
      refine g38 c_231_241 rfl ?_
      exact t
  · refine g5 c_231_175 rfl ?_
    obtain ⟨ho, t⟩ := t
    refine g43 c_231_176 ho ?_
    refine g5 c_231_179 rfl ?_
    obtain ⟨ho, t⟩ := t
    refine g43 c_231_180 ho ?_
    refine g11 c_231_183 ?_
    refine g1 c_231_184 k_6 ?_
    refine gcm c_231_186 (gbr t rfl rfl (fun hc t => ?_) (fun hc t => ?_))
    · exact t
    · refine g5 c_231_189 rfl ?_
      refine g5 c_231_190 rfl ?_
      obtain ⟨ho, t⟩ := t
      refine g44 c_231_191 ho ?_
      refine g1 c_231_194 k_8 ?_
      refine g32 c_231_196 ?_
      refine g5 c_231_197 rfl ?_
      refine g5 c_231_198 rfl ?_
      obtain ⟨ho, t⟩ := t
      refine g43 c_231_199 ho ?_
      exact g80 (As := [.int (ab_i h x0 7)]) (rest := [.long ((ab_l h x0 11) <<< (Int32.toInt64 8 &&& 63)), .ref x0]) c_231_202 rfl rfl (Nat.le_of_ble_eq_true rfl) (Nat.le_of_ble_eq_true rfl) t.1 t.2
set_option maxRecDepth 20000 in
theorem t_231_205 {d : Nat} {h : ab_H} {Q : Option Value → ab_H → Prop} {x0 : Nat} {x1 : Int32} {s0 : Nat} {s1 : Int64} {s2 : Int32} (t : ab_ok h s0 112 = true ∧ ∀ h1 : ab_H, h1 = ab_pl h s0 11 (s1 ||| (Int32.toInt64 s2)) → wq d 231 210 [.ref x0, .int x1, .retAddr 0] [] h1 Q) : wq d 231 205 [.ref x0, .int x1, .retAddr 0] [.int s2, .long s1, .ref s0] h Q := by
  refine g31 c_231_205 ?_
  refine g25 c_231_206 ?_
  obtain ⟨ho, t⟩ := t
  refine g48 c_231_207 ho (fun h1 eh1 => ?_)
  have t := t h1 eh1
  exact t
set_option maxRecDepth 20000 in
theorem t_231_210 {d : Nat} {h : ab_H} {Q : Option Value → ab_H → Prop} {x0 : Nat} {x1 : Int32} (t : ab_ok h x0 112 = true ∧ ab_ok h x0 112 = true ∧ ∀ h1 : ab_H, h1 = ab_pi h x0 7 ((ab_i h x0 7) + 1) → wq d 231 161 [.ref x0, .int x1, .retAddr 0] [] h1 Q) : wq d 231 210 [.ref x0, .int x1, .retAddr 0] [] h Q := by
  refine g5 c_231_210 rfl ?_
  refine g33a c_231_211 ?_
  obtain ⟨ho, t⟩ := t
  refine g43 c_231_212 ho ?_
  refine g1 c_231_215 k_1 ?_
  refine g10 c_231_216 ?_
  obtain ⟨ho, t⟩ := t
  refine g46 c_231_217 ho (fun h1 eh1 => ?_)
  have t := t h1 eh1
  refine g38 c_231_220 rfl ?_
  exact t
set_option maxRecDepth 20000 in
theorem t_231_326 {d : Nat} {h : ab_H} {Q : Option Value → ab_H → Prop} {x0 : Nat} {x1 : Int32} (t : wq d 231 331 [.ref x0, .int x1, .retAddr 0] [.int 1] h Q) : wq d 231 326 [.ref x0, .int x1, .retAddr 0] [] h Q := by
  refine g1 c_231_326 k_1 ?_
  refine g38 c_231_327 rfl ?_
  exact t
set_option maxRecDepth 20000 in
theorem t_231_331 {d : Nat} {h : ab_H} {Q : Option Value → ab_H → Prop} {x0 : Nat} {x1 : Int32} {s0 : Int32} (t : if s0 = 0 then (wq d 231 342 [.ref x0, .int x1, .int s0] [.int 3, .ref x0] h Q) else (wq d 231 342 [.ref x0, .int x1, .int s0] [.int x1, .ref x0] h Q)) : wq d 231 331 [.ref x0, .int x1, .retAddr 0] [.int s0] h Q := by
  refine g6 (L' := [.ref x0, .int x1, .int s0]) c_231_331 rfl ?_
  refine g5 c_231_332 rfl ?_
  refine g3 c_231_333 rfl ?_
  refine gif c_231_334 (gbr t rfl rfl (fun hc t => ?_) (fun hc t => ?_))
  · refine g1 c_231_341 k_3 ?_
    exact t
  · refine g3 c_231_337 rfl ?_
    refine g38 c_231_338 rfl ?_
    exact t
set_option maxRecDepth 20000 in
theorem t_231_342 {d : Nat} {h : ab_H} {Q : Option Value → ab_H → Prop} {x0 : Nat} {x1 : Int32} {x2 : Int32} {s0 : Nat} {s1 : Int32} (t : ab_ok h s0 112 = true ∧ ∀ h1 : ab_H, h1 = ab_pi h s0 9 s1 → if x1 = 60 then (wq d 231 357 [.ref x0, .int x1, .int x2] [] h1 Q) else (if x1 = 62 then (wq d 231 357 [.ref x0, .int x1, .int x2] [] h1 Q) else (wq d 231 395 [.ref x0, .int x1, .int x2] [] h1 Q))) : wq d 231 342 [.ref x0, .int x1, .int x2] [.int s1, .ref s0] h Q := by
  obtain ⟨ho, t⟩ := t
  refine g46 c_231_342 ho (fun h1 eh1 => ?_)
  have t := t h1 eh1
  refine g3 c_231_345 rfl ?_
  refine g1 c_231_346 k_60 ?_
  refine gcm c_231_348 (gbr t rfl rfl (fun hc t => ?_) (fun hc t => ?_))
  · exact t
  · refine g3 c_231_351 rfl ?_
    refine g1 c_231_352 k_62 ?_
    refine gcm c_231_354 (gbn t (ab_c1 _ _) rfl (fun hc t => ?_) (fun hc t => ?_))
    · exact t
    · exact t
set_option maxRecDepth 20000 in
theorem t_231_357 {d : Nat} {h : ab_H} {Q : Option Value → ab_H → Prop} {x0 : Nat} {x1 : Int32} {x2 : Int32} (t : ab_ok h x0 112 = true ∧ ab_ok h x0 112 = true ∧ wm d 228 [.ref x0, .int (ab_i h x0 7)] h (fun r9 h9 => wq (d + 1) 231 365 [.ref x0, .int x1, .int x2] (r9.toList ++ []) h9 Q)) : wq (d + 1) 231 357 [.ref x0, .int x1, .int x2] [] h Q := by
  refine g5 c_231_357 rfl ?_
  refine g5 c_231_358 rfl ?_
  obtain ⟨ho, t⟩ := t
  refine g43 c_231_359 ho ?_
  exact g80 (As := [.int (ab_i h x0 7)]) (rest := []) c_231_362 rfl rfl (Nat.le_of_ble_eq_true rfl) (Nat.le_of_ble_eq_true rfl) t.1 t.2
set_option maxRecDepth 20000 in
theorem t_231_365 {d : Nat} {h : ab_H} {Q : Option Value → ab_H → Prop} {x0 : Nat} {x1 : Int32} {x2 : Int32} {s0 : Int32} (t : if s0 = 61 then (ab_ok h x0 112 = true ∧ ab_ok h x0 112 = true ∧ ∀ h1 : ab_H, h1 = ab_pi h x0 7 ((ab_i h x0 7) + 1) → if x1 = 60 then (wq d 231 392 [.ref x0, .int x1, .int x2] [.int 4, .ref x0] h1 Q) else (wq d 231 392 [.ref x0, .int x1, .int x2] [.int 5, .ref x0] h1 Q)) else (wq d 231 395 [.ref x0, .int x1, .int x2] [] h Q)) : wq d 231 365 [.ref x0, .int x1, .int x2] [.int s0] h Q := by
  refine g1 c_231_365 k_61 ?_
  refine gcm c_231_367 (gbn t (ab_c1 _ _) rfl (fun hc t => ?_) (fun hc t => ?_))
  · refine g5 c_231_370 rfl ?_
    refine g33a c_231_371 ?_
    obtain ⟨ho, t⟩ := t
    refine g43 c_231_372 ho ?_
    refine g1 c_231_375 k_1 ?_
    refine g10 c_231_376 ?_
    obtain ⟨ho, t⟩ := t
    refine g46 c_231_377 ho (fun h1 eh1 => ?_)
    have t := t h1 eh1
    refine g5 c_231_380 rfl ?_
    refine g3 c_231_381 rfl ?_
    refine g1 c_231_382 k_60 ?_
    refine gcm c_231_384 (gbn t (ab_c1 _ _) rfl (fun hc t => ?_) (fun hc t => ?_))
    · refine g1 c_231_387 k_4 ?_
      refine g38 c_231_388 rfl ?_
      exact t
    · refine g1 c_231_391 k_5 ?_
      exact t
  · exact t
set_option maxRecDepth 20000 in
theorem t_231_392 {d : Nat} {h : ab_H} {Q : Option Value → ab_H → Prop} {x0 : Nat} {x1 : Int32} {x2 : Int32} {s0 : Nat} {s1 : Int32} (t : ab_ok h s0 112 = true ∧ ∀ h1 : ab_H, h1 = ab_pi h s0 9 s1 → wq d 231 395 [.ref x0, .int x1, .int x2] [] h1 Q) : wq d 231 392 [.ref x0, .int x1, .int x2] [.int s1, .ref s0] h Q := by
  obtain ⟨ho, t⟩ := t
  refine g46 c_231_392 ho (fun h1 eh1 => ?_)
  have t := t h1 eh1
  exact t
set_option maxRecDepth 20000 in
theorem t_231_395 {d : Nat} {h : ab_H} {Q : Option Value → ab_H → Prop} {x0 : Nat} {x1 : Int32} (t : Q none h) : wq d 231 395 [.ref x0, .int x1, .retAddr 0] [] h Q := by
  exact g94 c_231_395 t
-- method 232: MillTownModel.w3(III)J
theorem c_232_0 : pg_cd 232 0 = (3, 1, 0, 0, 0) := by decide +kernel
theorem c_232_1 : pg_cd 232 1 = (31, 1, 0, 0, 0) := by decide +kernel
theorem c_232_2 : pg_cd 232 2 = (1, 2, 0, 0, 8) := by decide +kernel
theorem c_232_4 : pg_cd 232 4 = (32, 1, 0, 0, 0) := by decide +kernel
theorem c_232_5 : pg_cd 232 5 = (3, 1, 0, 1, 0) := by decide +kernel
theorem c_232_6 : pg_cd 232 6 = (31, 1, 0, 0, 0) := by decide +kernel
theorem c_232_7 : pg_cd 232 7 = (25, 1, 0, 0, 0) := by decide +kernel
theorem c_232_8 : pg_cd 232 8 = (1, 2, 0, 0, 8) := by decide +kernel
theorem c_232_10 : pg_cd 232 10 = (32, 1, 0, 0, 0) := by decide +kernel
theorem c_232_11 : pg_cd 232 11 = (3, 1, 0, 2, 0) := by decide +kernel
theorem c_232_12 : pg_cd 232 12 = (31, 1, 0, 0, 0) := by decide +kernel
theorem c_232_13 : pg_cd 232 13 = (25, 1, 0, 0, 0) := by decide +kernel
theorem c_232_14 : pg_cd 232 14 = (92, 0, 0, 0, 0) := by decide +kernel
theorem mx_232 : pg_mx 232 = 3 := by decide +kernel
theorem m_232 {d : Nat} {h : ab_H} {Q : Option Value → ab_H → Prop} {x0 : Int32} {x1 : Int32} {x2 : Int32} (t : wq d 232 0 [.int x0, .int x1, .int x2] [] h Q) : wm d 232 [.int x0, .int x1, .int x2] h Q := by
  unfold wm
  rw [mx_232]
  exact t
set_option maxRecDepth 20000 in
theorem t_232_0 {d : Nat} {h : ab_H} {Q : Option Value → ab_H → Prop} {x0 : Int32} {x1 : Int32} {x2 : Int32} (t : Q (some (.long (((((Int32.toInt64 x0) <<< (Int32.toInt64 8 &&& 63)) ||| (Int32.toInt64 x1)) <<< (Int32.toInt64 8 &&& 63)) ||| (Int32.toInt64 x2)))) h) : wq d 232 0 [.int x0, .int x1, .int x2] [] h Q := by
  refine g3 c_232_0 rfl ?_
  refine g31 c_232_1 ?_
  refine g1 c_232_2 k_8 ?_
  refine g32 c_232_4 ?_
  refine g3 c_232_5 rfl ?_
  refine g31 c_232_6 ?_
  refine g25 c_232_7 ?_
  refine g1 c_232_8 k_8 ?_
  refine g32 c_232_10 ?_
  refine g3 c_232_11 rfl ?_
  refine g31 c_232_12 ?_
  refine g25 c_232_13 ?_
  exact g92 c_232_14 t
-- method 233: MillTownModel.w5(IIIII)J
theorem c_233_0 : pg_cd 233 0 = (3, 1, 0, 0, 0) := by decide +kernel
theorem c_233_1 : pg_cd 233 1 = (3, 1, 0, 1, 0) := by decide +kernel
theorem c_233_2 : pg_cd 233 2 = (3, 1, 0, 2, 0) := by decide +kernel
theorem c_233_3 : pg_cd 233 3 = (81, 232, 160, 0, 0) := by decide +kernel
theorem c_233_6 : pg_cd 233 6 = (1, 2, 0, 0, 8) := by decide +kernel
theorem c_233_8 : pg_cd 233 8 = (32, 1, 0, 0, 0) := by decide +kernel
theorem c_233_9 : pg_cd 233 9 = (3, 1, 0, 3, 0) := by decide +kernel
theorem c_233_10 : pg_cd 233 10 = (31, 1, 0, 0, 0) := by decide +kernel
theorem c_233_11 : pg_cd 233 11 = (25, 1, 0, 0, 0) := by decide +kernel
theorem c_233_12 : pg_cd 233 12 = (1, 2, 0, 0, 8) := by decide +kernel
theorem c_233_14 : pg_cd 233 14 = (32, 1, 0, 0, 0) := by decide +kernel
theorem c_233_15 : pg_cd 233 15 = (3, 2, 0, 4, 0) := by decide +kernel
theorem c_233_17 : pg_cd 233 17 = (31, 1, 0, 0, 0) := by decide +kernel
theorem c_233_18 : pg_cd 233 18 = (25, 1, 0, 0, 0) := by decide +kernel
theorem c_233_19 : pg_cd 233 19 = (92, 0, 0, 0, 0) := by decide +kernel
theorem mx_233 : pg_mx 233 = 5 := by decide +kernel
theorem m_233 {d : Nat} {h : ab_H} {Q : Option Value → ab_H → Prop} {x0 : Int32} {x1 : Int32} {x2 : Int32} {x3 : Int32} {x4 : Int32} (t : wq d 233 0 [.int x0, .int x1, .int x2, .int x3, .int x4] [] h Q) : wm d 233 [.int x0, .int x1, .int x2, .int x3, .int x4] h Q := by
  unfold wm
  rw [mx_233]
  exact t
set_option maxRecDepth 20000 in
theorem t_233_0 {d : Nat} {h : ab_H} {Q : Option Value → ab_H → Prop} {x0 : Int32} {x1 : Int32} {x2 : Int32} {x3 : Int32} {x4 : Int32} (t : wm d 232 [.int x0, .int x1, .int x2] h (fun r9 h9 => wq (d + 1) 233 6 [.int x0, .int x1, .int x2, .int x3, .int x4] (r9.toList ++ []) h9 Q)) : wq (d + 1) 233 0 [.int x0, .int x1, .int x2, .int x3, .int x4] [] h Q := by
  refine g3 c_233_0 rfl ?_
  refine g3 c_233_1 rfl ?_
  refine g3 c_233_2 rfl ?_
  exact g81 (As := [.int x0, .int x1, .int x2]) (rest := []) c_233_3 rfl rfl (Nat.le_of_ble_eq_true rfl) (Nat.le_of_ble_eq_true rfl) t
set_option maxRecDepth 20000 in
theorem t_233_6 {d : Nat} {h : ab_H} {Q : Option Value → ab_H → Prop} {x0 : Int32} {x1 : Int32} {x2 : Int32} {x3 : Int32} {x4 : Int32} {s0 : Int64} (t : Q (some (.long ((((s0 <<< (Int32.toInt64 8 &&& 63)) ||| (Int32.toInt64 x3)) <<< (Int32.toInt64 8 &&& 63)) ||| (Int32.toInt64 x4)))) h) : wq d 233 6 [.int x0, .int x1, .int x2, .int x3, .int x4] [.long s0] h Q := by
  refine g1 c_233_6 k_8 ?_
  refine g32 c_233_8 ?_
  refine g3 c_233_9 rfl ?_
  refine g31 c_233_10 ?_
  refine g25 c_233_11 ?_
  refine g1 c_233_12 k_8 ?_
  refine g32 c_233_14 ?_
  refine g3 c_233_15 rfl ?_
  refine g31 c_233_17 ?_
  refine g25 c_233_18 ?_
  exact g92 c_233_19 t
-- method 234: MillTownModel.w4(IIII)J
theorem c_234_0 : pg_cd 234 0 = (3, 1, 0, 0, 0) := by decide +kernel
theorem c_234_1 : pg_cd 234 1 = (3, 1, 0, 1, 0) := by decide +kernel
theorem c_234_2 : pg_cd 234 2 = (3, 1, 0, 2, 0) := by decide +kernel
theorem c_234_3 : pg_cd 234 3 = (81, 232, 160, 0, 0) := by decide +kernel
theorem c_234_6 : pg_cd 234 6 = (1, 2, 0, 0, 8) := by decide +kernel
theorem c_234_8 : pg_cd 234 8 = (32, 1, 0, 0, 0) := by decide +kernel
theorem c_234_9 : pg_cd 234 9 = (3, 1, 0, 3, 0) := by decide +kernel
theorem c_234_10 : pg_cd 234 10 = (31, 1, 0, 0, 0) := by decide +kernel
theorem c_234_11 : pg_cd 234 11 = (25, 1, 0, 0, 0) := by decide +kernel
theorem c_234_12 : pg_cd 234 12 = (92, 0, 0, 0, 0) := by decide +kernel
theorem mx_234 : pg_mx 234 = 4 := by decide +kernel
theorem m_234 {d : Nat} {h : ab_H} {Q : Option Value → ab_H → Prop} {x0 : Int32} {x1 : Int32} {x2 : Int32} {x3 : Int32} (t : wq d 234 0 [.int x0, .int x1, .int x2, .int x3] [] h Q) : wm d 234 [.int x0, .int x1, .int x2, .int x3] h Q := by
  unfold wm
  rw [mx_234]
  exact t
set_option maxRecDepth 20000 in
theorem t_234_0 {d : Nat} {h : ab_H} {Q : Option Value → ab_H → Prop} {x0 : Int32} {x1 : Int32} {x2 : Int32} {x3 : Int32} (t : wm d 232 [.int x0, .int x1, .int x2] h (fun r9 h9 => wq (d + 1) 234 6 [.int x0, .int x1, .int x2, .int x3] (r9.toList ++ []) h9 Q)) : wq (d + 1) 234 0 [.int x0, .int x1, .int x2, .int x3] [] h Q := by
  refine g3 c_234_0 rfl ?_
  refine g3 c_234_1 rfl ?_
  refine g3 c_234_2 rfl ?_
  exact g81 (As := [.int x0, .int x1, .int x2]) (rest := []) c_234_3 rfl rfl (Nat.le_of_ble_eq_true rfl) (Nat.le_of_ble_eq_true rfl) t
set_option maxRecDepth 20000 in
theorem t_234_6 {d : Nat} {h : ab_H} {Q : Option Value → ab_H → Prop} {x0 : Int32} {x1 : Int32} {x2 : Int32} {x3 : Int32} {s0 : Int64} (t : Q (some (.long ((s0 <<< (Int32.toInt64 8 &&& 63)) ||| (Int32.toInt64 x3)))) h) : wq d 234 6 [.int x0, .int x1, .int x2, .int x3] [.long s0] h Q := by
  refine g1 c_234_6 k_8 ?_
  refine g32 c_234_8 ?_
  refine g3 c_234_9 rfl ?_
  refine g31 c_234_10 ?_
  refine g25 c_234_11 ?_
  exact g92 c_234_12 t
-- method 235: MillTownModel.isWord(J)Z
theorem c_235_0 : pg_cd 235 0 = (5, 1, 0, 0, 0) := by decide +kernel
theorem c_235_1 : pg_cd 235 1 = (43, 12, 144, 9, 0) := by decide +kernel
theorem c_235_4 : pg_cd 235 4 = (1, 1, 0, 0, 2) := by decide +kernel
theorem c_235_5 : pg_cd 235 5 = (37, 3, 0, 1, 16) := by decide +kernel
theorem c_235_8 : pg_cd 235 8 = (5, 1, 0, 0, 0) := by decide +kernel
theorem c_235_9 : pg_cd 235 9 = (44, 12, 156, 11, 0) := by decide +kernel
theorem c_235_12 : pg_cd 235 12 = (4, 1, 0, 1, 0) := by decide +kernel
theorem c_235_13 : pg_cd 235 13 = (28, 1, 0, 0, 0) := by decide +kernel
theorem c_235_14 : pg_cd 235 14 = (36, 3, 0, 1, 7) := by decide +kernel
theorem c_235_17 : pg_cd 235 17 = (1, 1, 0, 0, 1) := by decide +kernel
theorem c_235_18 : pg_cd 235 18 = (38, 3, 0, 0, 4) := by decide +kernel
theorem c_235_21 : pg_cd 235 21 = (1, 1, 0, 0, 0) := by decide +kernel
theorem c_235_22 : pg_cd 235 22 = (91, 0, 0, 0, 0) := by decide +kernel
theorem mx_235 : pg_mx 235 = 3 := by decide +kernel
theorem m_235 {d : Nat} {h : ab_H} {Q : Option Value → ab_H → Prop} {x0 : Nat} {x1 : Int64} (t : wq d 235 0 [.ref x0, .long x1, .retAddr 0] [] h Q) : wm d 235 [.ref x0, .long x1] h Q := by
  unfold wm
  rw [mx_235]
  exact t
set_option maxRecDepth 20000 in
theorem t_235_0 {d : Nat} {h : ab_H} {Q : Option Value → ab_H → Prop} {x0 : Nat} {x1 : Int64} (t : ab_ok h x0 112 = true ∧ if (ab_i h x0 9) = 2 then (ab_ok h x0 112 = true ∧ if (lg_cmp (ab_l h x0 11) x1) = 0 then (Q (some (.int 1)) h) else (Q (some (.int 0)) h)) else (Q (some (.int 0)) h)) : wq d 235 0 [.ref x0, .long x1, .retAddr 0] [] h Q := by
  refine g5 c_235_0 rfl ?_
  obtain ⟨ho, t⟩ := t
  refine g43 c_235_1 ho ?_
  refine g1 c_235_4 k_2 ?_
  refine gcm c_235_5 (gbn t (ab_c1 _ _) rfl (fun hc t => ?_) (fun hc t => ?_))
  · refine g5 c_235_8 rfl ?_
    obtain ⟨ho, t⟩ := t
    refine g44 c_235_9 ho ?_
    refine g4 c_235_12 rfl ?_
    refine g28 c_235_13 ?_
    refine gif c_235_14 (gbn t (ab_c1 _ _) rfl (fun hc t => ?_) (fun hc t => ?_))
    · refine g1 c_235_17 k_1 ?_
      refine g38 c_235_18 rfl ?_
      exact g91 c_235_22 ⟨by decide, t⟩
    · refine g1 c_235_21 k_0 ?_
      exact g91 c_235_22 ⟨by decide, t⟩
  · refine g1 c_235_21 k_0 ?_
    exact g91 c_235_22 ⟨by decide, t⟩
-- method 236: MillTownModel.need(J)I
theorem c_236_0 : pg_cd 236 0 = (5, 1, 0, 0, 0) := by decide +kernel
theorem c_236_1 : pg_cd 236 1 = (4, 1, 0, 1, 0) := by decide +kernel
theorem c_236_2 : pg_cd 236 2 = (80, 235, 164, 0, 0) := by decide +kernel
theorem c_236_5 : pg_cd 236 5 = (36, 3, 0, 1, 5) := by decide +kernel
theorem c_236_8 : pg_cd 236 8 = (1, 1, 0, 0, 1) := by decide +kernel
theorem c_236_9 : pg_cd 236 9 = (90, 0, 0, 0, 0) := by decide +kernel
theorem c_236_10 : pg_cd 236 10 = (5, 1, 0, 0, 0) := by decide +kernel
theorem c_236_11 : pg_cd 236 11 = (80, 231, 168, 0, 0) := by decide +kernel
theorem c_236_14 : pg_cd 236 14 = (1, 1, 0, 0, 0) := by decide +kernel
theorem c_236_15 : pg_cd 236 15 = (90, 0, 0, 0, 0) := by decide +kernel
theorem mx_236 : pg_mx 236 = 3 := by decide +kernel
theorem m_236 {d : Nat} {h : ab_H} {Q : Option Value → ab_H → Prop} {x0 : Nat} {x1 : Int64} (t : wq d 236 0 [.ref x0, .long x1, .retAddr 0] [] h Q) : wm d 236 [.ref x0, .long x1] h Q := by
  unfold wm
  rw [mx_236]
  exact t
set_option maxRecDepth 20000 in
theorem t_236_0 {d : Nat} {h : ab_H} {Q : Option Value → ab_H → Prop} {x0 : Nat} {x1 : Int64} (t : ab_ok h x0 112 = true ∧ wm d 235 [.ref x0, .long x1] h (fun r9 h9 => wq (d + 1) 236 5 [.ref x0, .long x1, .retAddr 0] (r9.toList ++ []) h9 Q)) : wq (d + 1) 236 0 [.ref x0, .long x1, .retAddr 0] [] h Q := by
  refine g5 c_236_0 rfl ?_
  refine g4 c_236_1 rfl ?_
  exact g80 (As := [.long x1]) (rest := []) c_236_2 rfl rfl (Nat.le_of_ble_eq_true rfl) (Nat.le_of_ble_eq_true rfl) t.1 t.2
set_option maxRecDepth 20000 in
theorem t_236_5 {d : Nat} {h : ab_H} {Q : Option Value → ab_H → Prop} {x0 : Nat} {x1 : Int64} {s0 : Int32} (t : if s0 = 0 then (Q (some (.int 1)) h) else (ab_ok h x0 112 = true ∧ wm d 231 [.ref x0] h (fun r9 h9 => wq (d + 1) 236 14 [.ref x0, .long x1, .retAddr 0] (r9.toList ++ []) h9 Q))) : wq (d + 1) 236 5 [.ref x0, .long x1, .retAddr 0] [.int s0] h Q := by
  refine gif c_236_5 (gbn t (ab_c1 _ _) rfl (fun hc t => ?_) (fun hc t => ?_))
  · refine g1 c_236_8 k_1 ?_
    exact g90 c_236_9 t
  · refine g5 c_236_10 rfl ?_
    exact g80 (As := []) (rest := []) c_236_11 rfl rfl (Nat.le_of_ble_eq_true rfl) (Nat.le_of_ble_eq_true rfl) t.1 t.2
set_option maxRecDepth 20000 in
theorem t_236_14 {d : Nat} {h : ab_H} {Q : Option Value → ab_H → Prop} {x0 : Nat} {x1 : Int64} (t : Q (some (.int 0)) h) : wq d 236 14 [.ref x0, .long x1, .retAddr 0] [] h Q := by
  refine g1 c_236_14 k_0 ?_
  exact g90 c_236_15 t
-- method 237: MillTownModel.take(III)I
theorem c_237_0 : pg_cd 237 0 = (5, 1, 0, 0, 0) := by decide +kernel
theorem c_237_1 : pg_cd 237 1 = (43, 12, 144, 9, 0) := by decide +kernel
theorem c_237_4 : pg_cd 237 4 = (1, 1, 0, 0, 1) := by decide +kernel
theorem c_237_5 : pg_cd 237 5 = (37, 3, 0, 0, 5) := by decide +kernel
theorem c_237_8 : pg_cd 237 8 = (1, 1, 0, 0, 1) := by decide +kernel
theorem c_237_9 : pg_cd 237 9 = (90, 0, 0, 0, 0) := by decide +kernel
theorem c_237_10 : pg_cd 237 10 = (5, 1, 0, 0, 0) := by decide +kernel
theorem c_237_11 : pg_cd 237 11 = (43, 12, 150, 10, 0) := by decide +kernel
theorem c_237_14 : pg_cd 237 14 = (3, 1, 0, 1, 0) := by decide +kernel
theorem c_237_15 : pg_cd 237 15 = (3, 1, 0, 2, 0) := by decide +kernel
theorem c_237_16 : pg_cd 237 16 = (81, 196, 76, 0, 0) := by decide +kernel
theorem c_237_19 : pg_cd 237 19 = (36, 3, 0, 1, 5) := by decide +kernel
theorem c_237_22 : pg_cd 237 22 = (1, 1, 0, 0, 2) := by decide +kernel
theorem c_237_23 : pg_cd 237 23 = (90, 0, 0, 0, 0) := by decide +kernel
theorem c_237_24 : pg_cd 237 24 = (5, 1, 0, 0, 0) := by decide +kernel
theorem c_237_25 : pg_cd 237 25 = (45, 12, 8, 0, 0) := by decide +kernel
theorem c_237_28 : pg_cd 237 28 = (3, 1, 0, 3, 0) := by decide +kernel
theorem c_237_29 : pg_cd 237 29 = (5, 1, 0, 0, 0) := by decide +kernel
theorem c_237_30 : pg_cd 237 30 = (43, 12, 150, 10, 0) := by decide +kernel
theorem c_237_33 : pg_cd 237 33 = (54, 1, 0, 0, 0) := by decide +kernel
theorem c_237_34 : pg_cd 237 34 = (5, 1, 0, 0, 0) := by decide +kernel
theorem c_237_35 : pg_cd 237 35 = (80, 231, 168, 0, 0) := by decide +kernel
theorem c_237_38 : pg_cd 237 38 = (1, 1, 0, 0, 0) := by decide +kernel
theorem c_237_39 : pg_cd 237 39 = (90, 0, 0, 0, 0) := by decide +kernel
theorem mx_237 : pg_mx 237 = 4 := by decide +kernel
theorem m_237 {d : Nat} {h : ab_H} {Q : Option Value → ab_H → Prop} {x0 : Nat} {x1 : Int32} {x2 : Int32} {x3 : Int32} (t : wq d 237 0 [.ref x0, .int x1, .int x2, .int x3] [] h Q) : wm d 237 [.ref x0, .int x1, .int x2, .int x3] h Q := by
  unfold wm
  rw [mx_237]
  exact t
set_option maxRecDepth 20000 in
theorem t_237_0 {d : Nat} {h : ab_H} {Q : Option Value → ab_H → Prop} {x0 : Nat} {x1 : Int32} {x2 : Int32} {x3 : Int32} (t : ab_ok h x0 112 = true ∧ if (ab_i h x0 9) = 1 then (ab_ok h x0 112 = true ∧ wm d 196 [.int (ab_i h x0 10), .int x1, .int x2] h (fun r9 h9 => wq (d + 1) 237 19 [.ref x0, .int x1, .int x2, .int x3] (r9.toList ++ []) h9 Q)) else (Q (some (.int 1)) h)) : wq (d + 1) 237 0 [.ref x0, .int x1, .int x2, .int x3] [] h Q := by
  refine g5 c_237_0 rfl ?_
  obtain ⟨ho, t⟩ := t
  refine g43 c_237_1 ho ?_
  refine g1 c_237_4 k_1 ?_
  refine gcm c_237_5 (gbr t rfl rfl (fun hc t => ?_) (fun hc t => ?_))
  · refine g5 c_237_10 rfl ?_
    obtain ⟨ho, t⟩ := t
    refine g43 c_237_11 ho ?_
    refine g3 c_237_14 rfl ?_
    refine g3 c_237_15 rfl ?_
    exact g81 (As := [.int (ab_i h x0 10), .int x1, .int x2]) (rest := []) c_237_16 rfl rfl (Nat.le_of_ble_eq_true rfl) (Nat.le_of_ble_eq_true rfl) t
  · refine g1 c_237_8 k_1 ?_
    exact g90 c_237_9 t
set_option maxRecDepth 20000 in
theorem t_237_19 {d : Nat} {h : ab_H} {Q : Option Value → ab_H → Prop} {x0 : Nat} {x1 : Int32} {x2 : Int32} {x3 : Int32} {s0 : Int32} (t : if s0 = 0 then (Q (some (.int 2)) h) else (ab_ok h x0 112 = true ∧ ∃ j1 : Nat, ab_r h x0 0 = some j1 ∧ ab_ok h x0 112 = true ∧ (ab_ok h j1 0 = true ∧ ab_in x3 (ab_s h j1).2 = true) ∧ ∀ h2 : ab_H, h2 = ab_pi h j1 (Int32.toNatClampNeg x3) (ab_i h x0 10) → ab_ok h2 x0 112 = true ∧ wm d 231 [.ref x0] h2 (fun r9 h9 => wq (d + 1) 237 38 [.ref x0, .int x1, .int x2, .int x3] (r9.toList ++ []) h9 Q))) : wq (d + 1) 237 19 [.ref x0, .int x1, .int x2, .int x3] [.int s0] h Q := by
  refine gif c_237_19 (gbn t (ab_c1 _ _) rfl (fun hc t => ?_) (fun hc t => ?_))
  · refine g1 c_237_22 k_2 ?_
    exact g90 c_237_23 t
  · refine g5 c_237_24 rfl ?_
    obtain ⟨ho, j1, hr, t⟩ := t
    refine g45 c_237_25 ho hr ?_
    refine g3 c_237_28 rfl ?_
    refine g5 c_237_29 rfl ?_
    obtain ⟨ho, t⟩ := t
    refine g43 c_237_30 ho ?_
    obtain ⟨ho, t⟩ := t
    refine g54 c_237_33 ho (fun h2 eh2 => ?_)
    have t := t h2 eh2
    refine g5 c_237_34 rfl ?_
    exact g80 (As := []) (rest := []) c_237_35 rfl rfl (Nat.le_of_ble_eq_true rfl) (Nat.le_of_ble_eq_true rfl) t.1 t.2
set_option maxRecDepth 20000 in
theorem t_237_38 {d : Nat} {h : ab_H} {Q : Option Value → ab_H → Prop} {x0 : Nat} {x1 : Int32} {x2 : Int32} {x3 : Int32} (t : Q (some (.int 0)) h) : wq d 237 38 [.ref x0, .int x1, .int x2, .int x3] [] h Q := by
  refine g1 c_237_38 k_0 ?_
  exact g90 c_237_39 t
-- method 238: MillTownModel.emit(II)V
theorem c_238_0 : pg_cd 238 0 = (5, 1, 0, 0, 0) := by decide +kernel
theorem c_238_1 : pg_cd 238 1 = (45, 12, 8, 0, 0) := by decide +kernel
theorem c_238_4 : pg_cd 238 4 = (5, 1, 0, 0, 0) := by decide +kernel
theorem c_238_5 : pg_cd 238 5 = (43, 12, 171, 12, 0) := by decide +kernel
theorem c_238_8 : pg_cd 238 8 = (1, 3, 0, 0, 200) := by decide +kernel
theorem c_238_11 : pg_cd 238 11 = (10, 1, 0, 0, 0) := by decide +kernel
theorem c_238_12 : pg_cd 238 12 = (1, 1, 0, 0, 2) := by decide +kernel
theorem c_238_13 : pg_cd 238 13 = (5, 1, 0, 0, 0) := by decide +kernel
theorem c_238_14 : pg_cd 238 14 = (43, 12, 174, 14, 0) := by decide +kernel
theorem c_238_17 : pg_cd 238 17 = (12, 1, 0, 0, 0) := by decide +kernel
theorem c_238_18 : pg_cd 238 18 = (10, 1, 0, 0, 0) := by decide +kernel
theorem c_238_19 : pg_cd 238 19 = (3, 1, 0, 1, 0) := by decide +kernel
theorem c_238_20 : pg_cd 238 20 = (54, 1, 0, 0, 0) := by decide +kernel
theorem c_238_21 : pg_cd 238 21 = (5, 1, 0, 0, 0) := by decide +kernel
theorem c_238_22 : pg_cd 238 22 = (45, 12, 8, 0, 0) := by decide +kernel
theorem c_238_25 : pg_cd 238 25 = (5, 1, 0, 0, 0) := by decide +kernel
theorem c_238_26 : pg_cd 238 26 = (43, 12, 171, 12, 0) := by decide +kernel
theorem c_238_29 : pg_cd 238 29 = (1, 3, 0, 0, 200) := by decide +kernel
theorem c_238_32 : pg_cd 238 32 = (10, 1, 0, 0, 0) := by decide +kernel
theorem c_238_33 : pg_cd 238 33 = (1, 1, 0, 0, 2) := by decide +kernel
theorem c_238_34 : pg_cd 238 34 = (5, 1, 0, 0, 0) := by decide +kernel
theorem c_238_35 : pg_cd 238 35 = (43, 12, 174, 14, 0) := by decide +kernel
theorem c_238_38 : pg_cd 238 38 = (12, 1, 0, 0, 0) := by decide +kernel
theorem c_238_39 : pg_cd 238 39 = (10, 1, 0, 0, 0) := by decide +kernel
theorem c_238_40 : pg_cd 238 40 = (1, 1, 0, 0, 1) := by decide +kernel
theorem c_238_41 : pg_cd 238 41 = (10, 1, 0, 0, 0) := by decide +kernel
theorem c_238_42 : pg_cd 238 42 = (3, 1, 0, 2, 0) := by decide +kernel
theorem c_238_43 : pg_cd 238 43 = (54, 1, 0, 0, 0) := by decide +kernel
theorem c_238_44 : pg_cd 238 44 = (5, 1, 0, 0, 0) := by decide +kernel
theorem c_238_45 : pg_cd 238 45 = (33, 1, 0, 0, 0) := by decide +kernel
theorem c_238_46 : pg_cd 238 46 = (43, 12, 174, 14, 0) := by decide +kernel
theorem c_238_49 : pg_cd 238 49 = (1, 1, 0, 0, 1) := by decide +kernel
theorem c_238_50 : pg_cd 238 50 = (10, 1, 0, 0, 0) := by decide +kernel
theorem c_238_51 : pg_cd 238 51 = (46, 12, 174, 14, 0) := by decide +kernel
theorem c_238_54 : pg_cd 238 54 = (94, 0, 0, 0, 0) := by decide +kernel
theorem mx_238 : pg_mx 238 = 3 := by decide +kernel
theorem m_238 {d : Nat} {h : ab_H} {Q : Option Value → ab_H → Prop} {x0 : Nat} {x1 : Int32} {x2 : Int32} (t : wq d 238 0 [.ref x0, .int x1, .int x2] [] h Q) : wm d 238 [.ref x0, .int x1, .int x2] h Q := by
  unfold wm
  rw [mx_238]
  exact t
set_option maxRecDepth 20000 in
theorem t_238_0 {d : Nat} {h : ab_H} {Q : Option Value → ab_H → Prop} {x0 : Nat} {x1 : Int32} {x2 : Int32} (t : ab_ok h x0 112 = true ∧ ∃ j1 : Nat, ab_r h x0 0 = some j1 ∧ ab_ok h x0 112 = true ∧ ab_ok h x0 112 = true ∧ (ab_ok h j1 0 = true ∧ ab_in (((ab_i h x0 12) + 200) + (2 * (ab_i h x0 14))) (ab_s h j1).2 = true) ∧ ∀ h2 : ab_H, h2 = ab_pi h j1 (Int32.toNatClampNeg (((ab_i h x0 12) + 200) + (2 * (ab_i h x0 14)))) x1 → ab_ok h2 x0 112 = true ∧ ∃ j3 : Nat, ab_r h2 x0 0 = some j3 ∧ ab_ok h2 x0 112 = true ∧ ab_ok h2 x0 112 = true ∧ (ab_ok h2 j3 0 = true ∧ ab_in ((((ab_i h2 x0 12) + 200) + (2 * (ab_i h2 x0 14))) + 1) (ab_s h2 j3).2 = true) ∧ ∀ h4 : ab_H, h4 = ab_pi h2 j3 (Int32.toNatClampNeg ((((ab_i h2 x0 12) + 200) + (2 * (ab_i h2 x0 14))) + 1)) x2 → ab_ok h4 x0 112 = true ∧ ab_ok h4 x0 112 = true ∧ ∀ h5 : ab_H, h5 = ab_pi h4 x0 14 ((ab_i h4 x0 14) + 1) → Q none h5) : wq d 238 0 [.ref x0, .int x1, .int x2] [] h Q := by
  refine g5 c_238_0 rfl ?_
  obtain ⟨ho, j1, hr, t⟩ := t
  refine g45 c_238_1 ho hr ?_
  refine g5 c_238_4 rfl ?_
  obtain ⟨ho, t⟩ := t
  refine g43 c_238_5 ho ?_
  refine g1 c_238_8 k_200 ?_
  refine g10 c_238_11 ?_
  refine g1 c_238_12 k_2 ?_
  refine g5 c_238_13 rfl ?_
  obtain ⟨ho, t⟩ := t
  refine g43 c_238_14 ho ?_
  refine g12 c_238_17 ?_
  refine g10 c_238_18 ?_
  refine g3 c_238_19 rfl ?_
  obtain ⟨ho, t⟩ := t
  refine g54 c_238_20 ho (fun h2 eh2 => ?_)
  have t := t h2 eh2
  refine g5 c_238_21 rfl ?_
  obtain ⟨ho, j3, hr, t⟩ := t
  refine g45 c_238_22 ho hr ?_
  refine g5 c_238_25 rfl ?_
  obtain ⟨ho, t⟩ := t
  refine g43 c_238_26 ho ?_
  refine g1 c_238_29 k_200 ?_
  refine g10 c_238_32 ?_
  refine g1 c_238_33 k_2 ?_
  refine g5 c_238_34 rfl ?_
  obtain ⟨ho, t⟩ := t
  refine g43 c_238_35 ho ?_
  refine g12 c_238_38 ?_
  refine g10 c_238_39 ?_
  refine g1 c_238_40 k_1 ?_
  refine g10 c_238_41 ?_
  refine g3 c_238_42 rfl ?_
  obtain ⟨ho, t⟩ := t
  refine g54 c_238_43 ho (fun h4 eh4 => ?_)
  have t := t h4 eh4
  refine g5 c_238_44 rfl ?_
  refine g33a c_238_45 ?_
  obtain ⟨ho, t⟩ := t
  refine g43 c_238_46 ho ?_
  refine g1 c_238_49 k_1 ?_
  refine g10 c_238_50 ?_
  obtain ⟨ho, t⟩ := t
  refine g46 c_238_51 ho (fun h5 eh5 => ?_)
  have t := t h5 eh5
  exact g94 c_238_54 t
-- method 239: MillTownModel.push(I)V
theorem c_239_0 : pg_cd 239 0 = (5, 1, 0, 0, 0) := by decide +kernel
theorem c_239_1 : pg_cd 239 1 = (45, 12, 30, 15, 0) := by decide +kernel
theorem c_239_4 : pg_cd 239 4 = (5, 1, 0, 0, 0) := by decide +kernel
theorem c_239_5 : pg_cd 239 5 = (43, 12, 177, 16, 0) := by decide +kernel
theorem c_239_8 : pg_cd 239 8 = (3, 1, 0, 1, 0) := by decide +kernel
theorem c_239_9 : pg_cd 239 9 = (54, 1, 0, 0, 0) := by decide +kernel
theorem c_239_10 : pg_cd 239 10 = (5, 1, 0, 0, 0) := by decide +kernel
theorem c_239_11 : pg_cd 239 11 = (33, 1, 0, 0, 0) := by decide +kernel
theorem c_239_12 : pg_cd 239 12 = (43, 12, 177, 16, 0) := by decide +kernel
theorem c_239_15 : pg_cd 239 15 = (1, 1, 0, 0, 1) := by decide +kernel
theorem c_239_16 : pg_cd 239 16 = (10, 1, 0, 0, 0) := by decide +kernel
theorem c_239_17 : pg_cd 239 17 = (46, 12, 177, 16, 0) := by decide +kernel
theorem c_239_20 : pg_cd 239 20 = (94, 0, 0, 0, 0) := by decide +kernel
theorem mx_239 : pg_mx 239 = 2 := by decide +kernel
theorem m_239 {d : Nat} {h : ab_H} {Q : Option Value → ab_H → Prop} {x0 : Nat} {x1 : Int32} (t : wq d 239 0 [.ref x0, .int x1] [] h Q) : wm d 239 [.ref x0, .int x1] h Q := by
  unfold wm
  rw [mx_239]
  exact t
set_option maxRecDepth 20000 in
theorem t_239_0 {d : Nat} {h : ab_H} {Q : Option Value → ab_H → Prop} {x0 : Nat} {x1 : Int32} (t : ab_ok h x0 112 = true ∧ ∃ j1 : Nat, ab_r h x0 15 = some j1 ∧ ab_ok h x0 112 = true ∧ (ab_ok h j1 0 = true ∧ ab_in (ab_i h x0 16) (ab_s h j1).2 = true) ∧ ∀ h2 : ab_H, h2 = ab_pi h j1 (Int32.toNatClampNeg (ab_i h x0 16)) x1 → ab_ok h2 x0 112 = true ∧ ab_ok h2 x0 112 = true ∧ ∀ h3 : ab_H, h3 = ab_pi h2 x0 16 ((ab_i h2 x0 16) + 1) → Q none h3) : wq d 239 0 [.ref x0, .int x1] [] h Q := by
  refine g5 c_239_0 rfl ?_
  obtain ⟨ho, j1, hr, t⟩ := t
  refine g45 c_239_1 ho hr ?_
  refine g5 c_239_4 rfl ?_
  obtain ⟨ho, t⟩ := t
  refine g43 c_239_5 ho ?_
  refine g3 c_239_8 rfl ?_
  obtain ⟨ho, t⟩ := t
  refine g54 c_239_9 ho (fun h2 eh2 => ?_)
  have t := t h2 eh2
  refine g5 c_239_10 rfl ?_
  refine g33a c_239_11 ?_
  obtain ⟨ho, t⟩ := t
  refine g43 c_239_12 ho ?_
  refine g1 c_239_15 k_1 ?_
  refine g10 c_239_16 ?_
  obtain ⟨ho, t⟩ := t
  refine g46 c_239_17 ho (fun h3 eh3 => ?_)
  have t := t h3 eh3
  exact g94 c_239_20 t
-- method 240: MillTownModel.whole()V
theorem c_240_0 : pg_cd 240 0 = (5, 1, 0, 0, 0) := by decide +kernel
theorem c_240_1 : pg_cd 240 1 = (1, 1, 0, 0, 1) := by decide +kernel
theorem c_240_2 : pg_cd 240 2 = (47, 12, 180, 18, 0) := by decide +kernel
theorem c_240_5 : pg_cd 240 5 = (5, 1, 0, 0, 0) := by decide +kernel
theorem c_240_6 : pg_cd 240 6 = (43, 12, 177, 16, 0) := by decide +kernel
theorem c_240_9 : pg_cd 240 9 = (36, 3, 0, 5, 47) := by decide +kernel
theorem c_240_12 : pg_cd 240 12 = (5, 1, 0, 0, 0) := by decide +kernel
theorem c_240_13 : pg_cd 240 13 = (45, 12, 30, 15, 0) := by decide +kernel
theorem c_240_16 : pg_cd 240 16 = (5, 1, 0, 0, 0) := by decide +kernel
theorem c_240_17 : pg_cd 240 17 = (43, 12, 177, 16, 0) := by decide +kernel
theorem c_240_20 : pg_cd 240 20 = (1, 1, 0, 0, 1) := by decide +kernel
theorem c_240_21 : pg_cd 240 21 = (11, 1, 0, 0, 0) := by decide +kernel
theorem c_240_22 : pg_cd 240 22 = (50, 1, 0, 0, 0) := by decide +kernel
theorem c_240_23 : pg_cd 240 23 = (1, 1, 0, 0, 2) := by decide +kernel
theorem c_240_24 : pg_cd 240 24 = (37, 3, 0, 1, 32) := by decide +kernel
theorem c_240_27 : pg_cd 240 27 = (5, 1, 0, 0, 0) := by decide +kernel
theorem c_240_28 : pg_cd 240 28 = (33, 1, 0, 0, 0) := by decide +kernel
theorem c_240_29 : pg_cd 240 29 = (43, 12, 177, 16, 0) := by decide +kernel
theorem c_240_32 : pg_cd 240 32 = (1, 1, 0, 0, 1) := by decide +kernel
theorem c_240_33 : pg_cd 240 33 = (11, 1, 0, 0, 0) := by decide +kernel
theorem c_240_34 : pg_cd 240 34 = (46, 12, 177, 16, 0) := by decide +kernel
theorem c_240_37 : pg_cd 240 37 = (5, 1, 0, 0, 0) := by decide +kernel
theorem c_240_38 : pg_cd 240 38 = (33, 1, 0, 0, 0) := by decide +kernel
theorem c_240_39 : pg_cd 240 39 = (43, 12, 184, 17, 0) := by decide +kernel
theorem c_240_42 : pg_cd 240 42 = (1, 1, 0, 0, 1) := by decide +kernel
theorem c_240_43 : pg_cd 240 43 = (11, 1, 0, 0, 0) := by decide +kernel
theorem c_240_44 : pg_cd 240 44 = (46, 12, 184, 17, 0) := by decide +kernel
theorem c_240_47 : pg_cd 240 47 = (5, 1, 0, 0, 0) := by decide +kernel
theorem c_240_48 : pg_cd 240 48 = (1, 1, 0, 0, 2) := by decide +kernel
theorem c_240_49 : pg_cd 240 49 = (1, 1, 0, 0, 0) := by decide +kernel
theorem c_240_50 : pg_cd 240 50 = (80, 238, 187, 0, 0) := by decide +kernel
theorem c_240_53 : pg_cd 240 53 = (38, 3, 0, 0, (-48)) := by decide +kernel
theorem c_240_56 : pg_cd 240 56 = (94, 0, 0, 0, 0) := by decide +kernel
theorem mx_240 : pg_mx 240 = 1 := by decide +kernel
theorem m_240 {d : Nat} {h : ab_H} {Q : Option Value → ab_H → Prop} {x0 : Nat} (t : wq d 240 0 [.ref x0] [] h Q) : wm d 240 [.ref x0] h Q := by
  unfold wm
  rw [mx_240]
  exact t
set_option maxRecDepth 20000 in
theorem t_240_0 {d : Nat} {h : ab_H} {Q : Option Value → ab_H → Prop} {x0 : Nat} (t : ab_ok h x0 112 = true ∧ ∀ h1 : ab_H, h1 = ab_pi h x0 18 1 → wq d 240 5 [.ref x0] [] h1 Q) : wq d 240 0 [.ref x0] [] h Q := by
  refine g5 c_240_0 rfl ?_
  refine g1 c_240_1 k_1 ?_
  obtain ⟨ho, t⟩ := t
  refine g47 c_240_2 ⟨ho, by decide⟩ (fun h1 eh1 => ?_)
  have t := t h1 eh1
  exact t
set_option maxRecDepth 20000 in
theorem t_240_5 {d : Nat} {h : ab_H} {Q : Option Value → ab_H → Prop} {x0 : Nat} (t : ab_ok h x0 112 = true ∧ if (ab_i h x0 16) ≤ 0 then (Q none h) else (ab_ok h x0 112 = true ∧ ∃ j1 : Nat, ab_r h x0 15 = some j1 ∧ ab_ok h x0 112 = true ∧ ((j1 = 0 ∨ ab_ok h j1 0 = true) ∧ ab_in ((ab_i h x0 16) - 1) (ab_s h j1).2 = true) ∧ if (ab_i h j1 (Int32.toNatClampNeg ((ab_i h x0 16) - 1))) = 2 then (ab_ok h x0 112 = true ∧ ab_ok h x0 112 = true ∧ ∀ h2 : ab_H, h2 = ab_pi h x0 16 ((ab_i h x0 16) - 1) → ab_ok h2 x0 112 = true ∧ ab_ok h2 x0 112 = true ∧ ∀ h3 : ab_H, h3 = ab_pi h2 x0 17 ((ab_i h2 x0 17) - 1) → ab_ok h3 x0 112 = true ∧ wm d 238 [.ref x0, .int 2, .int 0] h3 (fun r9 h9 => wq (d + 1) 240 53 [.ref x0] (r9.toList ++ []) h9 Q)) else (Q none h))) : wq (d + 1) 240 5 [.ref x0] [] h Q := by
  refine g5 c_240_5 rfl ?_
  obtain ⟨ho, t⟩ := t
  refine g43 c_240_6 ho ?_
  refine gif c_240_9 (gbr t rfl rfl (fun hc t => ?_) (fun hc t => ?_))
  · exact g94 c_240_56 t
  · refine g5 c_240_12 rfl ?_
    obtain ⟨ho, j1, hr, t⟩ := t
    refine g45 c_240_13 ho hr ?_
    refine g5 c_240_16 rfl ?_
    obtain ⟨ho, t⟩ := t
    refine g43 c_240_17 ho ?_
    refine g1 c_240_20 k_1 ?_
    refine g11 c_240_21 ?_
    obtain ⟨ho, t⟩ := t
    refine g50 c_240_22 ho ?_
    refine g1 c_240_23 k_2 ?_
    refine gcm c_240_24 (gbn t (ab_c1 _ _) rfl (fun hc t => ?_) (fun hc t => ?_))
    · refine g5 c_240_27 rfl ?_
      refine g33a c_240_28 ?_
      obtain ⟨ho, t⟩ := t
      refine g43 c_240_29 ho ?_
      refine g1 c_240_32 k_1 ?_
      refine g11 c_240_33 ?_
      obtain ⟨ho, t⟩ := t
      refine g46 c_240_34 ho (fun h2 eh2 => ?_)
      have t := t h2 eh2
      refine g5 c_240_37 rfl ?_
      refine g33a c_240_38 ?_
      obtain ⟨ho, t⟩ := t
      refine g43 c_240_39 ho ?_
      refine g1 c_240_42 k_1 ?_
      refine g11 c_240_43 ?_
      obtain ⟨ho, t⟩ := t
      refine g46 c_240_44 ho (fun h3 eh3 => ?_)
      have t := t h3 eh3
      refine g5 c_240_47 rfl ?_
      refine g1 c_240_48 k_2 ?_
      refine g1 c_240_49 k_0 ?_
      exact g80 (As := [.int 2, .int 0]) (rest := []) c_240_50 rfl rfl (Nat.le_of_ble_eq_true rfl) (Nat.le_of_ble_eq_true rfl) t.1 t.2
    · exact g94 c_240_56 t
set_option maxRecDepth 20000 in
theorem t_240_53 {d : Nat} {h : ab_H} {Q : Option Value → ab_H → Prop} {x0 : Nat} (t : wq d 240 5 [.ref x0] [] h Q) : wq d 240 53 [.ref x0] [] h Q := by
  refine g38 c_240_53 rfl ?_
  exact t
-- method 241: MillTownModel.settle(I)V
theorem c_241_0 : pg_cd 241 0 = (5, 1, 0, 0, 0) := by decide +kernel
theorem c_241_1 : pg_cd 241 1 = (43, 12, 177, 16, 0) := by decide +kernel
theorem c_241_4 : pg_cd 241 4 = (36, 3, 0, 5, 61) := by decide +kernel
theorem c_241_7 : pg_cd 241 7 = (5, 1, 0, 0, 0) := by decide +kernel
theorem c_241_8 : pg_cd 241 8 = (45, 12, 30, 15, 0) := by decide +kernel
theorem c_241_11 : pg_cd 241 11 = (5, 1, 0, 0, 0) := by decide +kernel
theorem c_241_12 : pg_cd 241 12 = (43, 12, 177, 16, 0) := by decide +kernel
theorem c_241_15 : pg_cd 241 15 = (1, 1, 0, 0, 1) := by decide +kernel
theorem c_241_16 : pg_cd 241 16 = (11, 1, 0, 0, 0) := by decide +kernel
theorem c_241_17 : pg_cd 241 17 = (50, 1, 0, 0, 0) := by decide +kernel
theorem c_241_18 : pg_cd 241 18 = (1, 2, 0, 0, 40) := by decide +kernel
theorem c_241_20 : pg_cd 241 20 = (37, 3, 0, 3, 45) := by decide +kernel
theorem c_241_23 : pg_cd 241 23 = (5, 1, 0, 0, 0) := by decide +kernel
theorem c_241_24 : pg_cd 241 24 = (45, 12, 30, 15, 0) := by decide +kernel
theorem c_241_27 : pg_cd 241 27 = (5, 1, 0, 0, 0) := by decide +kernel
theorem c_241_28 : pg_cd 241 28 = (43, 12, 177, 16, 0) := by decide +kernel
theorem c_241_31 : pg_cd 241 31 = (1, 1, 0, 0, 1) := by decide +kernel
theorem c_241_32 : pg_cd 241 32 = (11, 1, 0, 0, 0) := by decide +kernel
theorem c_241_33 : pg_cd 241 33 = (50, 1, 0, 0, 0) := by decide +kernel
theorem c_241_34 : pg_cd 241 34 = (3, 1, 0, 1, 0) := by decide +kernel
theorem c_241_35 : pg_cd 241 35 = (37, 3, 0, 2, 30) := by decide +kernel
theorem c_241_38 : pg_cd 241 38 = (5, 1, 0, 0, 0) := by decide +kernel
theorem c_241_39 : pg_cd 241 39 = (33, 1, 0, 0, 0) := by decide +kernel
theorem c_241_40 : pg_cd 241 40 = (43, 12, 177, 16, 0) := by decide +kernel
theorem c_241_43 : pg_cd 241 43 = (1, 1, 0, 0, 1) := by decide +kernel
theorem c_241_44 : pg_cd 241 44 = (11, 1, 0, 0, 0) := by decide +kernel
theorem c_241_45 : pg_cd 241 45 = (46, 12, 177, 16, 0) := by decide +kernel
theorem c_241_48 : pg_cd 241 48 = (5, 1, 0, 0, 0) := by decide +kernel
theorem c_241_49 : pg_cd 241 49 = (5, 1, 0, 0, 0) := by decide +kernel
theorem c_241_50 : pg_cd 241 50 = (45, 12, 30, 15, 0) := by decide +kernel
theorem c_241_53 : pg_cd 241 53 = (5, 1, 0, 0, 0) := by decide +kernel
theorem c_241_54 : pg_cd 241 54 = (43, 12, 177, 16, 0) := by decide +kernel
theorem c_241_57 : pg_cd 241 57 = (50, 1, 0, 0, 0) := by decide +kernel
theorem c_241_58 : pg_cd 241 58 = (1, 1, 0, 0, 0) := by decide +kernel
theorem c_241_59 : pg_cd 241 59 = (80, 238, 187, 0, 0) := by decide +kernel
theorem c_241_62 : pg_cd 241 62 = (38, 3, 0, 0, (-62)) := by decide +kernel
theorem c_241_65 : pg_cd 241 65 = (94, 0, 0, 0, 0) := by decide +kernel
theorem mx_241 : pg_mx 241 = 2 := by decide +kernel
theorem m_241 {d : Nat} {h : ab_H} {Q : Option Value → ab_H → Prop} {x0 : Nat} {x1 : Int32} (t : wq d 241 0 [.ref x0, .int x1] [] h Q) : wm d 241 [.ref x0, .int x1] h Q := by
  unfold wm
  rw [mx_241]
  exact t
set_option maxRecDepth 20000 in
theorem t_241_0 {d : Nat} {h : ab_H} {Q : Option Value → ab_H → Prop} {x0 : Nat} {x1 : Int32} (t : ab_ok h x0 112 = true ∧ if (ab_i h x0 16) ≤ 0 then (Q none h) else (ab_ok h x0 112 = true ∧ ∃ j1 : Nat, ab_r h x0 15 = some j1 ∧ ab_ok h x0 112 = true ∧ ((j1 = 0 ∨ ab_ok h j1 0 = true) ∧ ab_in ((ab_i h x0 16) - 1) (ab_s h j1).2 = true) ∧ if 40 ≤ (ab_i h j1 (Int32.toNatClampNeg ((ab_i h x0 16) - 1))) then (Q none h) else (ab_ok h x0 112 = true ∧ ∃ j2 : Nat, ab_r h x0 15 = some j2 ∧ ab_ok h x0 112 = true ∧ ((j2 = 0 ∨ ab_ok h j2 0 = true) ∧ ab_in ((ab_i h x0 16) - 1) (ab_s h j2).2 = true) ∧ if (ab_i h j2 (Int32.toNatClampNeg ((ab_i h x0 16) - 1))) < x1 then (Q none h) else (ab_ok h x0 112 = true ∧ ab_ok h x0 112 = true ∧ ∀ h3 : ab_H, h3 = ab_pi h x0 16 ((ab_i h x0 16) - 1) → ab_ok h3 x0 112 = true ∧ ∃ j4 : Nat, ab_r h3 x0 15 = some j4 ∧ ab_ok h3 x0 112 = true ∧ ((j4 = 0 ∨ ab_ok h3 j4 0 = true) ∧ ab_in (ab_i h3 x0 16) (ab_s h3 j4).2 = true) ∧ ab_ok h3 x0 112 = true ∧ wm d 238 [.ref x0, .int (ab_i h3 j4 (Int32.toNatClampNeg (ab_i h3 x0 16))), .int 0] h3 (fun r9 h9 => wq (d + 1) 241 62 [.ref x0, .int x1] (r9.toList ++ []) h9 Q))))) : wq (d + 1) 241 0 [.ref x0, .int x1] [] h Q := by
  refine g5 c_241_0 rfl ?_
  obtain ⟨ho, t⟩ := t
  refine g43 c_241_1 ho ?_
  refine gif c_241_4 (gbr t rfl rfl (fun hc t => ?_) (fun hc t => ?_))
  · exact g94 c_241_65 t
  · refine g5 c_241_7 rfl ?_
    obtain ⟨ho, j1, hr, t⟩ := t
    refine g45 c_241_8 ho hr ?_
    refine g5 c_241_11 rfl ?_
    obtain ⟨ho, t⟩ := t
    refine g43 c_241_12 ho ?_
    refine g1 c_241_15 k_1 ?_
    refine g11 c_241_16 ?_
    obtain ⟨ho, t⟩ := t
    refine g50 c_241_17 ho ?_
    refine g1 c_241_18 k_40 ?_
    refine gcm c_241_20 (gbr t rfl rfl (fun hc t => ?_) (fun hc t => ?_))
    · exact g94 c_241_65 t
    · refine g5 c_241_23 rfl ?_
      obtain ⟨ho, j2, hr, t⟩ := t
      refine g45 c_241_24 ho hr ?_
      refine g5 c_241_27 rfl ?_
      obtain ⟨ho, t⟩ := t
      refine g43 c_241_28 ho ?_
      refine g1 c_241_31 k_1 ?_
      refine g11 c_241_32 ?_
      obtain ⟨ho, t⟩ := t
      refine g50 c_241_33 ho ?_
      refine g3 c_241_34 rfl ?_
      refine gcm c_241_35 (gbr t rfl rfl (fun hc t => ?_) (fun hc t => ?_))
      · exact g94 c_241_65 t
      · refine g5 c_241_38 rfl ?_
        refine g33a c_241_39 ?_
        obtain ⟨ho, t⟩ := t
        refine g43 c_241_40 ho ?_
        refine g1 c_241_43 k_1 ?_
        refine g11 c_241_44 ?_
        obtain ⟨ho, t⟩ := t
        refine g46 c_241_45 ho (fun h3 eh3 => ?_)
        have t := t h3 eh3
        refine g5 c_241_48 rfl ?_
        refine g5 c_241_49 rfl ?_
        obtain ⟨ho, j4, hr, t⟩ := t
        refine g45 c_241_50 ho hr ?_
        refine g5 c_241_53 rfl ?_
        obtain ⟨ho, t⟩ := t
        refine g43 c_241_54 ho ?_
        obtain ⟨ho, t⟩ := t
        refine g50 c_241_57 ho ?_
        refine g1 c_241_58 k_0 ?_
        exact g80 (As := [.int (ab_i h3 j4 (Int32.toNatClampNeg (ab_i h3 x0 16))), .int 0]) (rest := []) c_241_59 rfl rfl (Nat.le_of_ble_eq_true rfl) (Nat.le_of_ble_eq_true rfl) t.1 t.2
set_option maxRecDepth 20000 in
theorem t_241_62 {d : Nat} {h : ab_H} {Q : Option Value → ab_H → Prop} {x0 : Nat} {x1 : Int32} (t : wq d 241 0 [.ref x0, .int x1] [] h Q) : wq d 241 62 [.ref x0, .int x1] [] h Q := by
  refine g38 c_241_62 rfl ?_
  exact t
-- method 242: MillTownModel.nameOf()I
theorem c_242_0 : pg_cd 242 0 = (5, 1, 0, 0, 0) := by decide +kernel
theorem c_242_1 : pg_cd 242 1 = (43, 12, 144, 9, 0) := by decide +kernel
theorem c_242_4 : pg_cd 242 4 = (1, 1, 0, 0, 2) := by decide +kernel
theorem c_242_5 : pg_cd 242 5 = (37, 3, 0, 0, 5) := by decide +kernel
theorem c_242_8 : pg_cd 242 8 = (1, 1, 0, 0, (-1)) := by decide +kernel
theorem c_242_9 : pg_cd 242 9 = (90, 0, 0, 0, 0) := by decide +kernel
theorem c_242_10 : pg_cd 242 10 = (5, 1, 0, 0, 0) := by decide +kernel
theorem c_242_11 : pg_cd 242 11 = (44, 12, 156, 11, 0) := by decide +kernel
theorem c_242_14 : pg_cd 242 14 = (1, 2, 0, 0, 112) := by decide +kernel
theorem c_242_16 : pg_cd 242 16 = (1, 2, 0, 0, 105) := by decide +kernel
theorem c_242_18 : pg_cd 242 18 = (1, 2, 0, 0, 99) := by decide +kernel
theorem c_242_20 : pg_cd 242 20 = (1, 2, 0, 0, 107) := by decide +kernel
theorem c_242_22 : pg_cd 242 22 = (1, 2, 0, 0, 115) := by decide +kernel
theorem c_242_24 : pg_cd 242 24 = (81, 233, 191, 0, 0) := by decide +kernel
theorem c_242_27 : pg_cd 242 27 = (28, 1, 0, 0, 0) := by decide +kernel
theorem c_242_28 : pg_cd 242 28 = (36, 3, 0, 1, 7) := by decide +kernel
theorem c_242_31 : pg_cd 242 31 = (1, 1, 0, 0, 1) := by decide +kernel
theorem c_242_32 : pg_cd 242 32 = (38, 3, 0, 0, 75) := by decide +kernel
theorem c_242_35 : pg_cd 242 35 = (5, 1, 0, 0, 0) := by decide +kernel
theorem c_242_36 : pg_cd 242 36 = (44, 12, 156, 11, 0) := by decide +kernel
theorem c_242_39 : pg_cd 242 39 = (1, 2, 0, 0, 119) := by decide +kernel
theorem c_242_41 : pg_cd 242 41 = (1, 2, 0, 0, 105) := by decide +kernel
theorem c_242_43 : pg_cd 242 43 = (1, 2, 0, 0, 100) := by decide +kernel
theorem c_242_45 : pg_cd 242 45 = (1, 2, 0, 0, 116) := by decide +kernel
theorem c_242_47 : pg_cd 242 47 = (1, 2, 0, 0, 104) := by decide +kernel
theorem c_242_49 : pg_cd 242 49 = (81, 233, 191, 0, 0) := by decide +kernel
theorem c_242_52 : pg_cd 242 52 = (28, 1, 0, 0, 0) := by decide +kernel
theorem c_242_53 : pg_cd 242 53 = (36, 3, 0, 1, 7) := by decide +kernel
theorem c_242_56 : pg_cd 242 56 = (1, 1, 0, 0, 2) := by decide +kernel
theorem c_242_57 : pg_cd 242 57 = (38, 3, 0, 0, 50) := by decide +kernel
theorem c_242_60 : pg_cd 242 60 = (5, 1, 0, 0, 0) := by decide +kernel
theorem c_242_61 : pg_cd 242 61 = (44, 12, 156, 11, 0) := by decide +kernel
theorem c_242_64 : pg_cd 242 64 = (1, 2, 0, 0, 121) := by decide +kernel
theorem c_242_66 : pg_cd 242 66 = (1, 2, 0, 0, 97) := by decide +kernel
theorem c_242_68 : pg_cd 242 68 = (1, 2, 0, 0, 114) := by decide +kernel
theorem c_242_70 : pg_cd 242 70 = (1, 2, 0, 0, 110) := by decide +kernel
theorem c_242_72 : pg_cd 242 72 = (81, 234, 195, 0, 0) := by decide +kernel
theorem c_242_75 : pg_cd 242 75 = (28, 1, 0, 0, 0) := by decide +kernel
theorem c_242_76 : pg_cd 242 76 = (36, 3, 0, 1, 7) := by decide +kernel
theorem c_242_79 : pg_cd 242 79 = (1, 1, 0, 0, 3) := by decide +kernel
theorem c_242_80 : pg_cd 242 80 = (38, 3, 0, 0, 27) := by decide +kernel
theorem c_242_83 : pg_cd 242 83 = (5, 1, 0, 0, 0) := by decide +kernel
theorem c_242_84 : pg_cd 242 84 = (44, 12, 156, 11, 0) := by decide +kernel
theorem c_242_87 : pg_cd 242 87 = (1, 2, 0, 0, 104) := by decide +kernel
theorem c_242_89 : pg_cd 242 89 = (1, 2, 0, 0, 97) := by decide +kernel
theorem c_242_91 : pg_cd 242 91 = (1, 2, 0, 0, 114) := by decide +kernel
theorem c_242_93 : pg_cd 242 93 = (1, 2, 0, 0, 100) := by decide +kernel
theorem c_242_95 : pg_cd 242 95 = (81, 234, 195, 0, 0) := by decide +kernel
theorem c_242_98 : pg_cd 242 98 = (28, 1, 0, 0, 0) := by decide +kernel
theorem c_242_99 : pg_cd 242 99 = (36, 3, 0, 1, 7) := by decide +kernel
theorem c_242_102 : pg_cd 242 102 = (1, 1, 0, 0, 4) := by decide +kernel
theorem c_242_103 : pg_cd 242 103 = (38, 3, 0, 0, 4) := by decide +kernel
theorem c_242_106 : pg_cd 242 106 = (1, 1, 0, 0, (-1)) := by decide +kernel
theorem c_242_107 : pg_cd 242 107 = (90, 0, 0, 0, 0) := by decide +kernel
theorem mx_242 : pg_mx 242 = 1 := by decide +kernel
theorem m_242 {d : Nat} {h : ab_H} {Q : Option Value → ab_H → Prop} {x0 : Nat} (t : wq d 242 0 [.ref x0] [] h Q) : wm d 242 [.ref x0] h Q := by
  unfold wm
  rw [mx_242]
  exact t
set_option maxRecDepth 20000 in
theorem t_242_0 {d : Nat} {h : ab_H} {Q : Option Value → ab_H → Prop} {x0 : Nat} (t : ab_ok h x0 112 = true ∧ if (ab_i h x0 9) = 2 then (ab_ok h x0 112 = true ∧ wm d 233 [.int 112, .int 105, .int 99, .int 107, .int 115] h (fun r9 h9 => wq (d + 1) 242 27 [.ref x0] (r9.toList ++ [.long (ab_l h x0 11)]) h9 Q)) else (Q (some (.int (-1))) h)) : wq (d + 1) 242 0 [.ref x0] [] h Q := by
  refine g5 c_242_0 rfl ?_
  obtain ⟨ho, t⟩ := t
  refine g43 c_242_1 ho ?_
  refine g1 c_242_4 k_2 ?_
  refine gcm c_242_5 (gbr t rfl rfl (fun hc t => ?_) (fun hc t => ?_))
  · refine g5 c_242_10 rfl ?_
    obtain ⟨ho, t⟩ := t
    refine g44 c_242_11 ho ?_
    refine g1 c_242_14 k_112 ?_
    refine g1 c_242_16 k_105 ?_
    refine g1 c_242_18 k_99 ?_
    refine g1 c_242_20 k_107 ?_
    refine g1 c_242_22 k_115 ?_
    exact g81 (As := [.int 112, .int 105, .int 99, .int 107, .int 115]) (rest := [.long (ab_l h x0 11)]) c_242_24 rfl rfl (Nat.le_of_ble_eq_true rfl) (Nat.le_of_ble_eq_true rfl) t
  · refine g1 c_242_8 k_m1 ?_
    exact g90 c_242_9 t
set_option maxRecDepth 20000 in
theorem t_242_27 {d : Nat} {h : ab_H} {Q : Option Value → ab_H → Prop} {x0 : Nat} {s0 : Int64} {s1 : Int64} (t : if (lg_cmp s0 s1) = 0 then (Q (some (.int 1)) h) else (ab_ok h x0 112 = true ∧ wm d 233 [.int 119, .int 105, .int 100, .int 116, .int 104] h (fun r9 h9 => wq (d + 1) 242 52 [.ref x0] (r9.toList ++ [.long (ab_l h x0 11)]) h9 Q))) : wq (d + 1) 242 27 [.ref x0] [.long s1, .long s0] h Q := by
  refine g28 c_242_27 ?_
  refine gif c_242_28 (gbn t (ab_c1 _ _) rfl (fun hc t => ?_) (fun hc t => ?_))
  · refine g1 c_242_31 k_1 ?_
    refine g38 c_242_32 rfl ?_
    exact g90 c_242_107 t
  · refine g5 c_242_35 rfl ?_
    obtain ⟨ho, t⟩ := t
    refine g44 c_242_36 ho ?_
    refine g1 c_242_39 k_119 ?_
    refine g1 c_242_41 k_105 ?_
    refine g1 c_242_43 k_100 ?_
    refine g1 c_242_45 k_116 ?_
    refine g1 c_242_47 k_104 ?_
    exact g81 (As := [.int 119, .int 105, .int 100, .int 116, .int 104]) (rest := [.long (ab_l h x0 11)]) c_242_49 rfl rfl (Nat.le_of_ble_eq_true rfl) (Nat.le_of_ble_eq_true rfl) t
set_option maxRecDepth 20000 in
theorem t_242_52 {d : Nat} {h : ab_H} {Q : Option Value → ab_H → Prop} {x0 : Nat} {s0 : Int64} {s1 : Int64} (t : if (lg_cmp s0 s1) = 0 then (Q (some (.int 2)) h) else (ab_ok h x0 112 = true ∧ wm d 234 [.int 121, .int 97, .int 114, .int 110] h (fun r9 h9 => wq (d + 1) 242 75 [.ref x0] (r9.toList ++ [.long (ab_l h x0 11)]) h9 Q))) : wq (d + 1) 242 52 [.ref x0] [.long s1, .long s0] h Q := by
  refine g28 c_242_52 ?_
  refine gif c_242_53 (gbn t (ab_c1 _ _) rfl (fun hc t => ?_) (fun hc t => ?_))
  · refine g1 c_242_56 k_2 ?_
    refine g38 c_242_57 rfl ?_
    exact g90 c_242_107 t
  · refine g5 c_242_60 rfl ?_
    obtain ⟨ho, t⟩ := t
    refine g44 c_242_61 ho ?_
    refine g1 c_242_64 k_121 ?_
    refine g1 c_242_66 k_97 ?_
    refine g1 c_242_68 k_114 ?_
    refine g1 c_242_70 k_110 ?_
    exact g81 (As := [.int 121, .int 97, .int 114, .int 110]) (rest := [.long (ab_l h x0 11)]) c_242_72 rfl rfl (Nat.le_of_ble_eq_true rfl) (Nat.le_of_ble_eq_true rfl) t
set_option maxRecDepth 20000 in
theorem t_242_75 {d : Nat} {h : ab_H} {Q : Option Value → ab_H → Prop} {x0 : Nat} {s0 : Int64} {s1 : Int64} (t : if (lg_cmp s0 s1) = 0 then (Q (some (.int 3)) h) else (ab_ok h x0 112 = true ∧ wm d 234 [.int 104, .int 97, .int 114, .int 100] h (fun r9 h9 => wq (d + 1) 242 98 [.ref x0] (r9.toList ++ [.long (ab_l h x0 11)]) h9 Q))) : wq (d + 1) 242 75 [.ref x0] [.long s1, .long s0] h Q := by
  refine g28 c_242_75 ?_
  refine gif c_242_76 (gbn t (ab_c1 _ _) rfl (fun hc t => ?_) (fun hc t => ?_))
  · refine g1 c_242_79 k_3 ?_
    refine g38 c_242_80 rfl ?_
    exact g90 c_242_107 t
  · refine g5 c_242_83 rfl ?_
    obtain ⟨ho, t⟩ := t
    refine g44 c_242_84 ho ?_
    refine g1 c_242_87 k_104 ?_
    refine g1 c_242_89 k_97 ?_
    refine g1 c_242_91 k_114 ?_
    refine g1 c_242_93 k_100 ?_
    exact g81 (As := [.int 104, .int 97, .int 114, .int 100]) (rest := [.long (ab_l h x0 11)]) c_242_95 rfl rfl (Nat.le_of_ble_eq_true rfl) (Nat.le_of_ble_eq_true rfl) t
set_option maxRecDepth 20000 in
theorem t_242_98 {d : Nat} {h : ab_H} {Q : Option Value → ab_H → Prop} {x0 : Nat} {s0 : Int64} {s1 : Int64} (t : if (lg_cmp s0 s1) = 0 then (Q (some (.int 4)) h) else (Q (some (.int (-1))) h)) : wq d 242 98 [.ref x0] [.long s1, .long s0] h Q := by
  refine g28 c_242_98 ?_
  refine gif c_242_99 (gbn t (ab_c1 _ _) rfl (fun hc t => ?_) (fun hc t => ?_))
  · refine g1 c_242_102 k_4 ?_
    refine g38 c_242_103 rfl ?_
    exact g90 c_242_107 t
  · refine g1 c_242_106 k_m1 ?_
    exact g90 c_242_107 t
-- method 243: MillTownModel.beginOne()I
theorem c_243_0 : pg_cd 243 0 = (5, 1, 0, 0, 0) := by decide +kernel
theorem c_243_1 : pg_cd 243 1 = (43, 12, 144, 9, 0) := by decide +kernel
theorem c_243_4 : pg_cd 243 4 = (1, 1, 0, 0, 1) := by decide +kernel
theorem c_243_5 : pg_cd 243 5 = (37, 3, 0, 1, 34) := by decide +kernel
theorem c_243_8 : pg_cd 243 8 = (5, 1, 0, 0, 0) := by decide +kernel
theorem c_243_9 : pg_cd 243 9 = (43, 12, 150, 10, 0) := by decide +kernel
theorem c_243_12 : pg_cd 243 12 = (1, 3, 0, 0, 9999) := by decide +kernel
theorem c_243_15 : pg_cd 243 15 = (37, 3, 0, 5, 5) := by decide +kernel
theorem c_243_18 : pg_cd 243 18 = (1, 1, 0, 0, 2) := by decide +kernel
theorem c_243_19 : pg_cd 243 19 = (90, 0, 0, 0, 0) := by decide +kernel
theorem c_243_20 : pg_cd 243 20 = (5, 1, 0, 0, 0) := by decide +kernel
theorem c_243_21 : pg_cd 243 21 = (1, 1, 0, 0, 0) := by decide +kernel
theorem c_243_22 : pg_cd 243 22 = (5, 1, 0, 0, 0) := by decide +kernel
theorem c_243_23 : pg_cd 243 23 = (43, 12, 150, 10, 0) := by decide +kernel
theorem c_243_26 : pg_cd 243 26 = (80, 238, 187, 0, 0) := by decide +kernel
theorem c_243_29 : pg_cd 243 29 = (5, 1, 0, 0, 0) := by decide +kernel
theorem c_243_30 : pg_cd 243 30 = (80, 231, 168, 0, 0) := by decide +kernel
theorem c_243_33 : pg_cd 243 33 = (5, 1, 0, 0, 0) := by decide +kernel
theorem c_243_34 : pg_cd 243 34 = (80, 240, 199, 0, 0) := by decide +kernel
theorem c_243_37 : pg_cd 243 37 = (1, 1, 0, 0, 0) := by decide +kernel
theorem c_243_38 : pg_cd 243 38 = (90, 0, 0, 0, 0) := by decide +kernel
theorem c_243_39 : pg_cd 243 39 = (5, 1, 0, 0, 0) := by decide +kernel
theorem c_243_40 : pg_cd 243 40 = (80, 242, 202, 0, 0) := by decide +kernel
theorem c_243_43 : pg_cd 243 43 = (36, 3, 0, 2, 22) := by decide +kernel
theorem c_243_46 : pg_cd 243 46 = (5, 1, 0, 0, 0) := by decide +kernel
theorem c_243_47 : pg_cd 243 47 = (1, 1, 0, 0, 1) := by decide +kernel
theorem c_243_48 : pg_cd 243 48 = (5, 1, 0, 0, 0) := by decide +kernel
theorem c_243_49 : pg_cd 243 49 = (80, 242, 202, 0, 0) := by decide +kernel
theorem c_243_52 : pg_cd 243 52 = (80, 238, 187, 0, 0) := by decide +kernel
theorem c_243_55 : pg_cd 243 55 = (5, 1, 0, 0, 0) := by decide +kernel
theorem c_243_56 : pg_cd 243 56 = (80, 231, 168, 0, 0) := by decide +kernel
theorem c_243_59 : pg_cd 243 59 = (5, 1, 0, 0, 0) := by decide +kernel
theorem c_243_60 : pg_cd 243 60 = (80, 240, 199, 0, 0) := by decide +kernel
theorem c_243_63 : pg_cd 243 63 = (1, 1, 0, 0, 0) := by decide +kernel
theorem c_243_64 : pg_cd 243 64 = (90, 0, 0, 0, 0) := by decide +kernel
theorem c_243_65 : pg_cd 243 65 = (5, 1, 0, 0, 0) := by decide +kernel
theorem c_243_66 : pg_cd 243 66 = (1, 2, 0, 0, 109) := by decide +kernel
theorem c_243_68 : pg_cd 243 68 = (1, 2, 0, 0, 105) := by decide +kernel
theorem c_243_70 : pg_cd 243 70 = (1, 2, 0, 0, 110) := by decide +kernel
theorem c_243_72 : pg_cd 243 72 = (81, 232, 160, 0, 0) := by decide +kernel
theorem c_243_75 : pg_cd 243 75 = (80, 235, 164, 0, 0) := by decide +kernel
theorem c_243_78 : pg_cd 243 78 = (36, 3, 0, 0, 8) := by decide +kernel
theorem c_243_81 : pg_cd 243 81 = (1, 2, 0, 0, 41) := by decide +kernel
theorem c_243_83 : pg_cd 243 83 = (38, 3, 0, 0, 52) := by decide +kernel
theorem c_243_86 : pg_cd 243 86 = (5, 1, 0, 0, 0) := by decide +kernel
theorem c_243_87 : pg_cd 243 87 = (1, 2, 0, 0, 109) := by decide +kernel
theorem c_243_89 : pg_cd 243 89 = (1, 2, 0, 0, 97) := by decide +kernel
theorem c_243_91 : pg_cd 243 91 = (1, 2, 0, 0, 120) := by decide +kernel
theorem c_243_93 : pg_cd 243 93 = (81, 232, 160, 0, 0) := by decide +kernel
theorem c_243_96 : pg_cd 243 96 = (80, 235, 164, 0, 0) := by decide +kernel
theorem c_243_99 : pg_cd 243 99 = (36, 3, 0, 0, 8) := by decide +kernel
theorem c_243_102 : pg_cd 243 102 = (1, 2, 0, 0, 42) := by decide +kernel
theorem c_243_104 : pg_cd 243 104 = (38, 3, 0, 0, 31) := by decide +kernel
theorem c_243_107 : pg_cd 243 107 = (5, 1, 0, 0, 0) := by decide +kernel
theorem c_243_108 : pg_cd 243 108 = (43, 12, 144, 9, 0) := by decide +kernel
theorem c_243_111 : pg_cd 243 111 = (1, 2, 0, 0, 40) := by decide +kernel
theorem c_243_113 : pg_cd 243 113 = (37, 3, 0, 1, 8) := by decide +kernel
theorem c_243_116 : pg_cd 243 116 = (1, 2, 0, 0, 40) := by decide +kernel
theorem c_243_118 : pg_cd 243 118 = (38, 3, 0, 0, 17) := by decide +kernel
theorem c_243_121 : pg_cd 243 121 = (5, 1, 0, 0, 0) := by decide +kernel
theorem c_243_122 : pg_cd 243 122 = (43, 12, 144, 9, 0) := by decide +kernel
theorem c_243_125 : pg_cd 243 125 = (1, 2, 0, 0, 45) := by decide +kernel
theorem c_243_127 : pg_cd 243 127 = (37, 3, 0, 1, 7) := by decide +kernel
theorem c_243_130 : pg_cd 243 130 = (1, 1, 0, 0, 2) := by decide +kernel
theorem c_243_131 : pg_cd 243 131 = (38, 3, 0, 0, 4) := by decide +kernel
theorem c_243_134 : pg_cd 243 134 = (1, 1, 0, 0, 0) := by decide +kernel
theorem c_243_135 : pg_cd 243 135 = (6, 1, 0, 1, 0) := by decide +kernel
theorem c_243_136 : pg_cd 243 136 = (3, 1, 0, 1, 0) := by decide +kernel
theorem c_243_137 : pg_cd 243 137 = (36, 3, 0, 1, 5) := by decide +kernel
theorem c_243_140 : pg_cd 243 140 = (1, 1, 0, 0, 1) := by decide +kernel
theorem c_243_141 : pg_cd 243 141 = (90, 0, 0, 0, 0) := by decide +kernel
theorem c_243_142 : pg_cd 243 142 = (3, 1, 0, 1, 0) := by decide +kernel
theorem c_243_143 : pg_cd 243 143 = (1, 2, 0, 0, 40) := by decide +kernel
theorem c_243_145 : pg_cd 243 145 = (37, 3, 0, 5, 18) := by decide +kernel
theorem c_243_148 : pg_cd 243 148 = (5, 1, 0, 0, 0) := by decide +kernel
theorem c_243_149 : pg_cd 243 149 = (80, 231, 168, 0, 0) := by decide +kernel
theorem c_243_152 : pg_cd 243 152 = (5, 1, 0, 0, 0) := by decide +kernel
theorem c_243_153 : pg_cd 243 153 = (43, 12, 144, 9, 0) := by decide +kernel
theorem c_243_156 : pg_cd 243 156 = (1, 2, 0, 0, 40) := by decide +kernel
theorem c_243_158 : pg_cd 243 158 = (37, 3, 0, 0, 5) := by decide +kernel
theorem c_243_161 : pg_cd 243 161 = (1, 1, 0, 0, 1) := by decide +kernel
theorem c_243_162 : pg_cd 243 162 = (90, 0, 0, 0, 0) := by decide +kernel
theorem c_243_163 : pg_cd 243 163 = (5, 1, 0, 0, 0) := by decide +kernel
theorem c_243_164 : pg_cd 243 164 = (43, 12, 184, 17, 0) := by decide +kernel
theorem c_243_167 : pg_cd 243 167 = (1, 2, 0, 0, 8) := by decide +kernel
theorem c_243_169 : pg_cd 243 169 = (37, 3, 0, 1, 5) := by decide +kernel
theorem c_243_172 : pg_cd 243 172 = (1, 1, 0, 0, 3) := by decide +kernel
theorem c_243_173 : pg_cd 243 173 = (90, 0, 0, 0, 0) := by decide +kernel
theorem c_243_174 : pg_cd 243 174 = (5, 1, 0, 0, 0) := by decide +kernel
theorem c_243_175 : pg_cd 243 175 = (33, 1, 0, 0, 0) := by decide +kernel
theorem c_243_176 : pg_cd 243 176 = (43, 12, 184, 17, 0) := by decide +kernel
theorem c_243_179 : pg_cd 243 179 = (1, 1, 0, 0, 1) := by decide +kernel
theorem c_243_180 : pg_cd 243 180 = (10, 1, 0, 0, 0) := by decide +kernel
theorem c_243_181 : pg_cd 243 181 = (46, 12, 184, 17, 0) := by decide +kernel
theorem c_243_184 : pg_cd 243 184 = (5, 1, 0, 0, 0) := by decide +kernel
theorem c_243_185 : pg_cd 243 185 = (3, 1, 0, 1, 0) := by decide +kernel
theorem c_243_186 : pg_cd 243 186 = (80, 239, 206, 0, 0) := by decide +kernel
theorem c_243_189 : pg_cd 243 189 = (5, 1, 0, 0, 0) := by decide +kernel
theorem c_243_190 : pg_cd 243 190 = (80, 231, 168, 0, 0) := by decide +kernel
theorem c_243_193 : pg_cd 243 193 = (1, 1, 0, 0, 0) := by decide +kernel
theorem c_243_194 : pg_cd 243 194 = (90, 0, 0, 0, 0) := by decide +kernel
theorem mx_243 : pg_mx 243 = 2 := by decide +kernel
theorem m_243 {d : Nat} {h : ab_H} {Q : Option Value → ab_H → Prop} {x0 : Nat} (t : wq d 243 0 [.ref x0, .retAddr 0] [] h Q) : wm d 243 [.ref x0] h Q := by
  unfold wm
  rw [mx_243]
  exact t
set_option maxRecDepth 20000 in
theorem t_243_0 {d : Nat} {h : ab_H} {Q : Option Value → ab_H → Prop} {x0 : Nat} (t : ab_ok h x0 112 = true ∧ if (ab_i h x0 9) = 1 then (ab_ok h x0 112 = true ∧ if (ab_i h x0 10) ≤ 9999 then (ab_ok h x0 112 = true ∧ ab_ok h x0 112 = true ∧ wm d 238 [.ref x0, .int 0, .int (ab_i h x0 10)] h (fun r9 h9 => wq (d + 1) 243 29 [.ref x0, .retAddr 0] (r9.toList ++ []) h9 Q)) else (Q (some (.int 2)) h)) else (ab_ok h x0 112 = true ∧ wm d 242 [.ref x0] h (fun r9 h9 => wq (d + 1) 243 43 [.ref x0, .retAddr 0] (r9.toList ++ []) h9 Q))) : wq (d + 1) 243 0 [.ref x0, .retAddr 0] [] h Q := by
  refine g5 c_243_0 rfl ?_
  obtain ⟨ho, t⟩ := t
  refine g43 c_243_1 ho ?_
  refine g1 c_243_4 k_1 ?_
  refine gcm c_243_5 (gbn t (ab_c1 _ _) rfl (fun hc t => ?_) (fun hc t => ?_))
  · refine g5 c_243_8 rfl ?_
    obtain ⟨ho, t⟩ := t
    refine g43 c_243_9 ho ?_
    refine g1 c_243_12 k_9999 ?_
    refine gcm c_243_15 (gbr t rfl rfl (fun hc t => ?_) (fun hc t => ?_))
    · refine g5 c_243_20 rfl ?_
      refine g1 c_243_21 k_0 ?_
      refine g5 c_243_22 rfl ?_
      obtain ⟨ho, t⟩ := t
      refine g43 c_243_23 ho ?_
      exact g80 (As := [.int 0, .int (ab_i h x0 10)]) (rest := []) c_243_26 rfl rfl (Nat.le_of_ble_eq_true rfl) (Nat.le_of_ble_eq_true rfl) t.1 t.2
    · refine g1 c_243_18 k_2 ?_
      exact g90 c_243_19 t
  · refine g5 c_243_39 rfl ?_
    exact g80 (As := []) (rest := []) c_243_40 rfl rfl (Nat.le_of_ble_eq_true rfl) (Nat.le_of_ble_eq_true rfl) t.1 t.2
set_option maxRecDepth 20000 in
theorem t_243_29 {d : Nat} {h : ab_H} {Q : Option Value → ab_H → Prop} {x0 : Nat} (t : ab_ok h x0 112 = true ∧ wm d 231 [.ref x0] h (fun r9 h9 => wq (d + 1) 243 33 [.ref x0, .retAddr 0] (r9.toList ++ []) h9 Q)) : wq (d + 1) 243 29 [.ref x0, .retAddr 0] [] h Q := by
  refine g5 c_243_29 rfl ?_
  exact g80 (As := []) (rest := []) c_243_30 rfl rfl (Nat.le_of_ble_eq_true rfl) (Nat.le_of_ble_eq_true rfl) t.1 t.2
set_option maxRecDepth 20000 in
theorem t_243_33 {d : Nat} {h : ab_H} {Q : Option Value → ab_H → Prop} {x0 : Nat} (t : ab_ok h x0 112 = true ∧ wm d 240 [.ref x0] h (fun r9 h9 => wq (d + 1) 243 37 [.ref x0, .retAddr 0] (r9.toList ++ []) h9 Q)) : wq (d + 1) 243 33 [.ref x0, .retAddr 0] [] h Q := by
  refine g5 c_243_33 rfl ?_
  exact g80 (As := []) (rest := []) c_243_34 rfl rfl (Nat.le_of_ble_eq_true rfl) (Nat.le_of_ble_eq_true rfl) t.1 t.2
set_option maxRecDepth 20000 in
theorem t_243_37 {d : Nat} {h : ab_H} {Q : Option Value → ab_H → Prop} {x0 : Nat} (t : Q (some (.int 0)) h) : wq d 243 37 [.ref x0, .retAddr 0] [] h Q := by
  refine g1 c_243_37 k_0 ?_
  exact g90 c_243_38 t
set_option maxRecDepth 20000 in
theorem t_243_43 {d : Nat} {h : ab_H} {Q : Option Value → ab_H → Prop} {x0 : Nat} {s0 : Int32} (t : if s0 < 0 then (wm d 232 [.int 109, .int 105, .int 110] h (fun r9 h9 => wq (d + 1) 243 75 [.ref x0, .retAddr 0] (r9.toList ++ [.ref x0]) h9 Q)) else (ab_ok h x0 112 = true ∧ wm d 242 [.ref x0] h (fun r9 h9 => wq (d + 1) 243 52 [.ref x0, .retAddr 0] (r9.toList ++ [.int 1, .ref x0]) h9 Q))) : wq (d + 1) 243 43 [.ref x0, .retAddr 0] [.int s0] h Q := by
  refine gif c_243_43 (gbr t rfl rfl (fun hc t => ?_) (fun hc t => ?_))
  · refine g5 c_243_65 rfl ?_
    refine g1 c_243_66 k_109 ?_
    refine g1 c_243_68 k_105 ?_
    refine g1 c_243_70 k_110 ?_
    exact g81 (As := [.int 109, .int 105, .int 110]) (rest := [.ref x0]) c_243_72 rfl rfl (Nat.le_of_ble_eq_true rfl) (Nat.le_of_ble_eq_true rfl) t
  · refine g5 c_243_46 rfl ?_
    refine g1 c_243_47 k_1 ?_
    refine g5 c_243_48 rfl ?_
    exact g80 (As := []) (rest := [.int 1, .ref x0]) c_243_49 rfl rfl (Nat.le_of_ble_eq_true rfl) (Nat.le_of_ble_eq_true rfl) t.1 t.2
set_option maxRecDepth 20000 in
theorem t_243_52 {d : Nat} {h : ab_H} {Q : Option Value → ab_H → Prop} {x0 : Nat} {s0 : Nat} {s1 : Int32} {s2 : Int32} (t : ab_ok h s0 112 = true ∧ wm d 238 [.ref s0, .int s1, .int s2] h (fun r9 h9 => wq (d + 1) 243 55 [.ref x0, .retAddr 0] (r9.toList ++ []) h9 Q)) : wq (d + 1) 243 52 [.ref x0, .retAddr 0] [.int s2, .int s1, .ref s0] h Q := by
  exact g80 (As := [.int s1, .int s2]) (rest := []) c_243_52 rfl rfl (Nat.le_of_ble_eq_true rfl) (Nat.le_of_ble_eq_true rfl) t.1 t.2
set_option maxRecDepth 20000 in
theorem t_243_55 {d : Nat} {h : ab_H} {Q : Option Value → ab_H → Prop} {x0 : Nat} (t : ab_ok h x0 112 = true ∧ wm d 231 [.ref x0] h (fun r9 h9 => wq (d + 1) 243 59 [.ref x0, .retAddr 0] (r9.toList ++ []) h9 Q)) : wq (d + 1) 243 55 [.ref x0, .retAddr 0] [] h Q := by
  refine g5 c_243_55 rfl ?_
  exact g80 (As := []) (rest := []) c_243_56 rfl rfl (Nat.le_of_ble_eq_true rfl) (Nat.le_of_ble_eq_true rfl) t.1 t.2
set_option maxRecDepth 20000 in
theorem t_243_59 {d : Nat} {h : ab_H} {Q : Option Value → ab_H → Prop} {x0 : Nat} (t : ab_ok h x0 112 = true ∧ wm d 240 [.ref x0] h (fun r9 h9 => wq (d + 1) 243 63 [.ref x0, .retAddr 0] (r9.toList ++ []) h9 Q)) : wq (d + 1) 243 59 [.ref x0, .retAddr 0] [] h Q := by
  refine g5 c_243_59 rfl ?_
  exact g80 (As := []) (rest := []) c_243_60 rfl rfl (Nat.le_of_ble_eq_true rfl) (Nat.le_of_ble_eq_true rfl) t.1 t.2
set_option maxRecDepth 20000 in
theorem t_243_63 {d : Nat} {h : ab_H} {Q : Option Value → ab_H → Prop} {x0 : Nat} (t : Q (some (.int 0)) h) : wq d 243 63 [.ref x0, .retAddr 0] [] h Q := by
  refine g1 c_243_63 k_0 ?_
  exact g90 c_243_64 t
set_option maxRecDepth 20000 in
theorem t_243_75 {d : Nat} {h : ab_H} {Q : Option Value → ab_H → Prop} {x0 : Nat} {s0 : Nat} {s1 : Int64} (t : ab_ok h s0 112 = true ∧ wm d 235 [.ref s0, .long s1] h (fun r9 h9 => wq (d + 1) 243 78 [.ref x0, .retAddr 0] (r9.toList ++ []) h9 Q)) : wq (d + 1) 243 75 [.ref x0, .retAddr 0] [.long s1, .ref s0] h Q := by
  exact g80 (As := [.long s1]) (rest := []) c_243_75 rfl rfl (Nat.le_of_ble_eq_true rfl) (Nat.le_of_ble_eq_true rfl) t.1 t.2
set_option maxRecDepth 20000 in
theorem t_243_78 {d : Nat} {h : ab_H} {Q : Option Value → ab_H → Prop} {x0 : Nat} {s0 : Int32} (t : if s0 = 0 then (wm d 232 [.int 109, .int 97, .int 120] h (fun r9 h9 => wq (d + 1) 243 96 [.ref x0, .retAddr 0] (r9.toList ++ [.ref x0]) h9 Q)) else (if (41 : Int32) = 0 then (Q (some (.int 1)) h) else (if (41 : Int32) ≤ 40 then (ab_ok h x0 112 = true ∧ if (ab_i h x0 17) = 8 then (Q (some (.int 3)) h) else (ab_ok h x0 112 = true ∧ ab_ok h x0 112 = true ∧ ∀ h1 : ab_H, h1 = ab_pi h x0 17 ((ab_i h x0 17) + 1) → ab_ok h1 x0 112 = true ∧ wm d 239 [.ref x0, .int 41] h1 (fun r9 h9 => wq (d + 1) 243 189 [.ref x0, .int 41] (r9.toList ++ []) h9 Q))) else (ab_ok h x0 112 = true ∧ wm d 231 [.ref x0] h (fun r9 h9 => wq (d + 1) 243 152 [.ref x0, .int 41] (r9.toList ++ []) h9 Q))))) : wq (d + 1) 243 78 [.ref x0, .retAddr 0] [.int s0] h Q := by
  refine gif c_243_78 (gbr t rfl rfl (fun hc t => ?_) (fun hc t => ?_))
  · refine g5 c_243_86 rfl ?_
    refine g1 c_243_87 k_109 ?_
    refine g1 c_243_89 k_97 ?_
    refine g1 c_243_91 k_120 ?_
    exact g81 (As := [.int 109, .int 97, .int 120]) (rest := [.ref x0]) c_243_93 rfl rfl (Nat.le_of_ble_eq_true rfl) (Nat.le_of_ble_eq_true rfl) t
  · refine g1 c_243_81 k_41 ?_
    refine g38 c_243_83 rfl ?_
    refine g6 (L' := [.ref x0, .int 41]) c_243_135 rfl ?_
    refine g3 c_243_136 rfl ?_
    refine gif c_243_137 (gbn t (ab_c1 _ _) rfl (fun hc t => ?_) (fun hc t => ?_))
    · refine g1 c_243_140 k_1 ?_
      exact g90 c_243_141 t
    · refine g3 c_243_142 rfl ?_
      refine g1 c_243_143 k_40 ?_
      refine gcm c_243_145 (gbr t rfl rfl (fun hc t => ?_) (fun hc t => ?_))
      · refine g5 c_243_163 rfl ?_
        obtain ⟨ho, t⟩ := t
        refine g43 c_243_164 ho ?_
        refine g1 c_243_167 k_8 ?_
        refine gcm c_243_169 (gbn t (ab_c1 _ _) rfl (fun hc t => ?_) (fun hc t => ?_))
        · refine g1 c_243_172 k_3 ?_
          exact g90 c_243_173 t
        · refine g5 c_243_174 rfl ?_
          refine g33a c_243_175 ?_
          obtain ⟨ho, t⟩ := t
          refine g43 c_243_176 ho ?_
          refine g1 c_243_179 k_1 ?_
          refine g10 c_243_180 ?_
          obtain ⟨ho, t⟩ := t
          refine g46 c_243_181 ho (fun h1 eh1 => ?_)
          have t := t h1 eh1
          refine g5 c_243_184 rfl ?_
          refine g3 c_243_185 rfl ?_
          exact g80 (As := [.int 41]) (rest := []) c_243_186 rfl rfl (Nat.le_of_ble_eq_true rfl) (Nat.le_of_ble_eq_true rfl) t.1 t.2
      · refine g5 c_243_148 rfl ?_
        exact g80 (As := []) (rest := []) c_243_149 rfl rfl (Nat.le_of_ble_eq_true rfl) (Nat.le_of_ble_eq_true rfl) t.1 t.2
set_option maxRecDepth 20000 in
theorem t_243_96 {d : Nat} {h : ab_H} {Q : Option Value → ab_H → Prop} {x0 : Nat} {s0 : Nat} {s1 : Int64} (t : ab_ok h s0 112 = true ∧ wm d 235 [.ref s0, .long s1] h (fun r9 h9 => wq (d + 1) 243 99 [.ref x0, .retAddr 0] (r9.toList ++ []) h9 Q)) : wq (d + 1) 243 96 [.ref x0, .retAddr 0] [.long s1, .ref s0] h Q := by
  exact g80 (As := [.long s1]) (rest := []) c_243_96 rfl rfl (Nat.le_of_ble_eq_true rfl) (Nat.le_of_ble_eq_true rfl) t.1 t.2
set_option maxRecDepth 20000 in
theorem t_243_99 {d : Nat} {h : ab_H} {Q : Option Value → ab_H → Prop} {x0 : Nat} {s0 : Int32} (t : if s0 = 0 then (ab_ok h x0 112 = true ∧ if (ab_i h x0 9) = 40 then (if (40 : Int32) = 0 then (Q (some (.int 1)) h) else (if (40 : Int32) ≤ 40 then (ab_ok h x0 112 = true ∧ if (ab_i h x0 17) = 8 then (Q (some (.int 3)) h) else (ab_ok h x0 112 = true ∧ ab_ok h x0 112 = true ∧ ∀ h1 : ab_H, h1 = ab_pi h x0 17 ((ab_i h x0 17) + 1) → ab_ok h1 x0 112 = true ∧ wm d 239 [.ref x0, .int 40] h1 (fun r9 h9 => wq (d + 1) 243 189 [.ref x0, .int 40] (r9.toList ++ []) h9 Q))) else (ab_ok h x0 112 = true ∧ wm d 231 [.ref x0] h (fun r9 h9 => wq (d + 1) 243 152 [.ref x0, .int 40] (r9.toList ++ []) h9 Q)))) else (ab_ok h x0 112 = true ∧ if (ab_i h x0 9) = 45 then (if (2 : Int32) = 0 then (Q (some (.int 1)) h) else (if (2 : Int32) ≤ 40 then (ab_ok h x0 112 = true ∧ if (ab_i h x0 17) = 8 then (Q (some (.int 3)) h) else (ab_ok h x0 112 = true ∧ ab_ok h x0 112 = true ∧ ∀ h2 : ab_H, h2 = ab_pi h x0 17 ((ab_i h x0 17) + 1) → ab_ok h2 x0 112 = true ∧ wm d 239 [.ref x0, .int 2] h2 (fun r9 h9 => wq (d + 1) 243 189 [.ref x0, .int 2] (r9.toList ++ []) h9 Q))) else (ab_ok h x0 112 = true ∧ wm d 231 [.ref x0] h (fun r9 h9 => wq (d + 1) 243 152 [.ref x0, .int 2] (r9.toList ++ []) h9 Q)))) else (if (0 : Int32) = 0 then (Q (some (.int 1)) h) else (if (0 : Int32) ≤ 40 then (ab_ok h x0 112 = true ∧ if (ab_i h x0 17) = 8 then (Q (some (.int 3)) h) else (ab_ok h x0 112 = true ∧ ab_ok h x0 112 = true ∧ ∀ h3 : ab_H, h3 = ab_pi h x0 17 ((ab_i h x0 17) + 1) → ab_ok h3 x0 112 = true ∧ wm d 239 [.ref x0, .int 0] h3 (fun r9 h9 => wq (d + 1) 243 189 [.ref x0, .int 0] (r9.toList ++ []) h9 Q))) else (ab_ok h x0 112 = true ∧ wm d 231 [.ref x0] h (fun r9 h9 => wq (d + 1) 243 152 [.ref x0, .int 0] (r9.toList ++ []) h9 Q)))))) else (if (42 : Int32) = 0 then (Q (some (.int 1)) h) else (if (42 : Int32) ≤ 40 then (ab_ok h x0 112 = true ∧ if (ab_i h x0 17) = 8 then (Q (some (.int 3)) h) else (ab_ok h x0 112 = true ∧ ab_ok h x0 112 = true ∧ ∀ h4 : ab_H, h4 = ab_pi h x0 17 ((ab_i h x0 17) + 1) → ab_ok h4 x0 112 = true ∧ wm d 239 [.ref x0, .int 42] h4 (fun r9 h9 => wq (d + 1) 243 189 [.ref x0, .int 42] (r9.toList ++ []) h9 Q))) else (ab_ok h x0 112 = true ∧ wm d 231 [.ref x0] h (fun r9 h9 => wq (d + 1) 243 152 [.ref x0, .int 42] (r9.toList ++ []) h9 Q))))) : wq (d + 1) 243 99 [.ref x0, .retAddr 0] [.int s0] h Q := by
  refine gif c_243_99 (gbr t rfl rfl (fun hc t => ?_) (fun hc t => ?_))
  · refine g5 c_243_107 rfl ?_
    obtain ⟨ho, t⟩ := t
    refine g43 c_243_108 ho ?_
    refine g1 c_243_111 k_40 ?_
    refine gcm c_243_113 (gbn t (ab_c1 _ _) rfl (fun hc t => ?_) (fun hc t => ?_))
    · refine g1 c_243_116 k_40 ?_
      refine g38 c_243_118 rfl ?_
      refine g6 (L' := [.ref x0, .int 40]) c_243_135 rfl ?_
      refine g3 c_243_136 rfl ?_
      refine gif c_243_137 (gbn t (ab_c1 _ _) rfl (fun hc t => ?_) (fun hc t => ?_))
      · refine g1 c_243_140 k_1 ?_
        exact g90 c_243_141 t
      · refine g3 c_243_142 rfl ?_
        refine g1 c_243_143 k_40 ?_
        refine gcm c_243_145 (gbr t rfl rfl (fun hc t => ?_) (fun hc t => ?_))
        · refine g5 c_243_163 rfl ?_
          obtain ⟨ho, t⟩ := t
          refine g43 c_243_164 ho ?_
          refine g1 c_243_167 k_8 ?_
          refine gcm c_243_169 (gbn t (ab_c1 _ _) rfl (fun hc t => ?_) (fun hc t => ?_))
          · refine g1 c_243_172 k_3 ?_
            exact g90 c_243_173 t
          · refine g5 c_243_174 rfl ?_
            refine g33a c_243_175 ?_
            obtain ⟨ho, t⟩ := t
            refine g43 c_243_176 ho ?_
            refine g1 c_243_179 k_1 ?_
            refine g10 c_243_180 ?_
            obtain ⟨ho, t⟩ := t
            refine g46 c_243_181 ho (fun h1 eh1 => ?_)
            have t := t h1 eh1
            refine g5 c_243_184 rfl ?_
            refine g3 c_243_185 rfl ?_
            exact g80 (As := [.int 40]) (rest := []) c_243_186 rfl rfl (Nat.le_of_ble_eq_true rfl) (Nat.le_of_ble_eq_true rfl) t.1 t.2
        · refine g5 c_243_148 rfl ?_
          exact g80 (As := []) (rest := []) c_243_149 rfl rfl (Nat.le_of_ble_eq_true rfl) (Nat.le_of_ble_eq_true rfl) t.1 t.2
    · refine g5 c_243_121 rfl ?_
      obtain ⟨ho, t⟩ := t
      refine g43 c_243_122 ho ?_
      refine g1 c_243_125 k_45 ?_
      refine gcm c_243_127 (gbn t (ab_c1 _ _) rfl (fun hc t => ?_) (fun hc t => ?_))
      · refine g1 c_243_130 k_2 ?_
        refine g38 c_243_131 rfl ?_
        refine g6 (L' := [.ref x0, .int 2]) c_243_135 rfl ?_
        refine g3 c_243_136 rfl ?_
        refine gif c_243_137 (gbn t (ab_c1 _ _) rfl (fun hc t => ?_) (fun hc t => ?_))
        · refine g1 c_243_140 k_1 ?_
          exact g90 c_243_141 t
        · refine g3 c_243_142 rfl ?_
          refine g1 c_243_143 k_40 ?_
          refine gcm c_243_145 (gbr t rfl rfl (fun hc t => ?_) (fun hc t => ?_))
          · refine g5 c_243_163 rfl ?_
            obtain ⟨ho, t⟩ := t
            refine g43 c_243_164 ho ?_
            refine g1 c_243_167 k_8 ?_
            refine gcm c_243_169 (gbn t (ab_c1 _ _) rfl (fun hc t => ?_) (fun hc t => ?_))
            · refine g1 c_243_172 k_3 ?_
              exact g90 c_243_173 t
            · refine g5 c_243_174 rfl ?_
              refine g33a c_243_175 ?_
              obtain ⟨ho, t⟩ := t
              refine g43 c_243_176 ho ?_
              refine g1 c_243_179 k_1 ?_
              refine g10 c_243_180 ?_
              obtain ⟨ho, t⟩ := t
              refine g46 c_243_181 ho (fun h2 eh2 => ?_)
              have t := t h2 eh2
              refine g5 c_243_184 rfl ?_
              refine g3 c_243_185 rfl ?_
              exact g80 (As := [.int 2]) (rest := []) c_243_186 rfl rfl (Nat.le_of_ble_eq_true rfl) (Nat.le_of_ble_eq_true rfl) t.1 t.2
          · refine g5 c_243_148 rfl ?_
            exact g80 (As := []) (rest := []) c_243_149 rfl rfl (Nat.le_of_ble_eq_true rfl) (Nat.le_of_ble_eq_true rfl) t.1 t.2
      · refine g1 c_243_134 k_0 ?_
        refine g6 (L' := [.ref x0, .int 0]) c_243_135 rfl ?_
        refine g3 c_243_136 rfl ?_
        refine gif c_243_137 (gbn t (ab_c1 _ _) rfl (fun hc t => ?_) (fun hc t => ?_))
        · refine g1 c_243_140 k_1 ?_
          exact g90 c_243_141 t
        · refine g3 c_243_142 rfl ?_
          refine g1 c_243_143 k_40 ?_
          refine gcm c_243_145 (gbr t rfl rfl (fun hc t => ?_) (fun hc t => ?_))
          · refine g5 c_243_163 rfl ?_
            obtain ⟨ho, t⟩ := t
            refine g43 c_243_164 ho ?_
            refine g1 c_243_167 k_8 ?_
            refine gcm c_243_169 (gbn t (ab_c1 _ _) rfl (fun hc t => ?_) (fun hc t => ?_))
            · refine g1 c_243_172 k_3 ?_
              exact g90 c_243_173 t
            · refine g5 c_243_174 rfl ?_
              refine g33a c_243_175 ?_
              obtain ⟨ho, t⟩ := t
              refine g43 c_243_176 ho ?_
              refine g1 c_243_179 k_1 ?_
              refine g10 c_243_180 ?_
              obtain ⟨ho, t⟩ := t
              refine g46 c_243_181 ho (fun h3 eh3 => ?_)
              have t := t h3 eh3
              refine g5 c_243_184 rfl ?_
              refine g3 c_243_185 rfl ?_
              exact g80 (As := [.int 0]) (rest := []) c_243_186 rfl rfl (Nat.le_of_ble_eq_true rfl) (Nat.le_of_ble_eq_true rfl) t.1 t.2
          · refine g5 c_243_148 rfl ?_
            exact g80 (As := []) (rest := []) c_243_149 rfl rfl (Nat.le_of_ble_eq_true rfl) (Nat.le_of_ble_eq_true rfl) t.1 t.2
  · refine g1 c_243_102 k_42 ?_
    refine g38 c_243_104 rfl ?_
    refine g6 (L' := [.ref x0, .int 42]) c_243_135 rfl ?_
    refine g3 c_243_136 rfl ?_
    refine gif c_243_137 (gbn t (ab_c1 _ _) rfl (fun hc t => ?_) (fun hc t => ?_))
    · refine g1 c_243_140 k_1 ?_
      exact g90 c_243_141 t
    · refine g3 c_243_142 rfl ?_
      refine g1 c_243_143 k_40 ?_
      refine gcm c_243_145 (gbr t rfl rfl (fun hc t => ?_) (fun hc t => ?_))
      · refine g5 c_243_163 rfl ?_
        obtain ⟨ho, t⟩ := t
        refine g43 c_243_164 ho ?_
        refine g1 c_243_167 k_8 ?_
        refine gcm c_243_169 (gbn t (ab_c1 _ _) rfl (fun hc t => ?_) (fun hc t => ?_))
        · refine g1 c_243_172 k_3 ?_
          exact g90 c_243_173 t
        · refine g5 c_243_174 rfl ?_
          refine g33a c_243_175 ?_
          obtain ⟨ho, t⟩ := t
          refine g43 c_243_176 ho ?_
          refine g1 c_243_179 k_1 ?_
          refine g10 c_243_180 ?_
          obtain ⟨ho, t⟩ := t
          refine g46 c_243_181 ho (fun h4 eh4 => ?_)
          have t := t h4 eh4
          refine g5 c_243_184 rfl ?_
          refine g3 c_243_185 rfl ?_
          exact g80 (As := [.int 42]) (rest := []) c_243_186 rfl rfl (Nat.le_of_ble_eq_true rfl) (Nat.le_of_ble_eq_true rfl) t.1 t.2
      · refine g5 c_243_148 rfl ?_
        exact g80 (As := []) (rest := []) c_243_149 rfl rfl (Nat.le_of_ble_eq_true rfl) (Nat.le_of_ble_eq_true rfl) t.1 t.2
set_option maxRecDepth 20000 in
theorem t_243_152 {d : Nat} {h : ab_H} {Q : Option Value → ab_H → Prop} {x0 : Nat} {x1 : Int32} (t : ab_ok h x0 112 = true ∧ if (ab_i h x0 9) = 40 then (ab_ok h x0 112 = true ∧ if (ab_i h x0 17) = 8 then (Q (some (.int 3)) h) else (ab_ok h x0 112 = true ∧ ab_ok h x0 112 = true ∧ ∀ h1 : ab_H, h1 = ab_pi h x0 17 ((ab_i h x0 17) + 1) → ab_ok h1 x0 112 = true ∧ wm d 239 [.ref x0, .int x1] h1 (fun r9 h9 => wq (d + 1) 243 189 [.ref x0, .int x1] (r9.toList ++ []) h9 Q))) else (Q (some (.int 1)) h)) : wq (d + 1) 243 152 [.ref x0, .int x1] [] h Q := by
  refine g5 c_243_152 rfl ?_
  obtain ⟨ho, t⟩ := t
  refine g43 c_243_153 ho ?_
  refine g1 c_243_156 k_40 ?_
  refine gcm c_243_158 (gbr t rfl rfl (fun hc t => ?_) (fun hc t => ?_))
  · refine g5 c_243_163 rfl ?_
    obtain ⟨ho, t⟩ := t
    refine g43 c_243_164 ho ?_
    refine g1 c_243_167 k_8 ?_
    refine gcm c_243_169 (gbn t (ab_c1 _ _) rfl (fun hc t => ?_) (fun hc t => ?_))
    · refine g1 c_243_172 k_3 ?_
      exact g90 c_243_173 t
    · refine g5 c_243_174 rfl ?_
      refine g33a c_243_175 ?_
      obtain ⟨ho, t⟩ := t
      refine g43 c_243_176 ho ?_
      refine g1 c_243_179 k_1 ?_
      refine g10 c_243_180 ?_
      obtain ⟨ho, t⟩ := t
      refine g46 c_243_181 ho (fun h1 eh1 => ?_)
      have t := t h1 eh1
      refine g5 c_243_184 rfl ?_
      refine g3 c_243_185 rfl ?_
      exact g80 (As := [.int x1]) (rest := []) c_243_186 rfl rfl (Nat.le_of_ble_eq_true rfl) (Nat.le_of_ble_eq_true rfl) t.1 t.2
  · refine g1 c_243_161 k_1 ?_
    exact g90 c_243_162 t
set_option maxRecDepth 20000 in
theorem t_243_189 {d : Nat} {h : ab_H} {Q : Option Value → ab_H → Prop} {x0 : Nat} {x1 : Int32} (t : ab_ok h x0 112 = true ∧ wm d 231 [.ref x0] h (fun r9 h9 => wq (d + 1) 243 193 [.ref x0, .int x1] (r9.toList ++ []) h9 Q)) : wq (d + 1) 243 189 [.ref x0, .int x1] [] h Q := by
  refine g5 c_243_189 rfl ?_
  exact g80 (As := []) (rest := []) c_243_190 rfl rfl (Nat.le_of_ble_eq_true rfl) (Nat.le_of_ble_eq_true rfl) t.1 t.2
set_option maxRecDepth 20000 in
theorem t_243_193 {d : Nat} {h : ab_H} {Q : Option Value → ab_H → Prop} {x0 : Nat} {x1 : Int32} (t : Q (some (.int 0)) h) : wq d 243 193 [.ref x0, .int x1] [] h Q := by
  refine g1 c_243_193 k_0 ?_
  exact g90 c_243_194 t
-- method 244: MillTownModel.hasParen()Z
theorem c_244_0 : pg_cd 244 0 = (1, 1, 0, 0, 0) := by decide +kernel
theorem c_244_1 : pg_cd 244 1 = (6, 1, 0, 1, 0) := by decide +kernel
theorem c_244_2 : pg_cd 244 2 = (3, 1, 0, 1, 0) := by decide +kernel
theorem c_244_3 : pg_cd 244 3 = (5, 1, 0, 0, 0) := by decide +kernel
theorem c_244_4 : pg_cd 244 4 = (43, 12, 177, 16, 0) := by decide +kernel
theorem c_244_7 : pg_cd 244 7 = (37, 3, 0, 3, 22) := by decide +kernel
theorem c_244_10 : pg_cd 244 10 = (5, 1, 0, 0, 0) := by decide +kernel
theorem c_244_11 : pg_cd 244 11 = (45, 12, 30, 15, 0) := by decide +kernel
theorem c_244_14 : pg_cd 244 14 = (3, 1, 0, 1, 0) := by decide +kernel
theorem c_244_15 : pg_cd 244 15 = (50, 1, 0, 0, 0) := by decide +kernel
theorem c_244_16 : pg_cd 244 16 = (1, 2, 0, 0, 40) := by decide +kernel
theorem c_244_18 : pg_cd 244 18 = (37, 3, 0, 2, 5) := by decide +kernel
theorem c_244_21 : pg_cd 244 21 = (1, 1, 0, 0, 1) := by decide +kernel
theorem c_244_22 : pg_cd 244 22 = (91, 0, 0, 0, 0) := by decide +kernel
theorem c_244_23 : pg_cd 244 23 = (9, 3, 0, 1, 1) := by decide +kernel
theorem c_244_26 : pg_cd 244 26 = (38, 3, 0, 0, (-24)) := by decide +kernel
theorem c_244_29 : pg_cd 244 29 = (1, 1, 0, 0, 0) := by decide +kernel
theorem c_244_30 : pg_cd 244 30 = (91, 0, 0, 0, 0) := by decide +kernel
theorem mx_244 : pg_mx 244 = 2 := by decide +kernel
theorem m_244 {d : Nat} {h : ab_H} {Q : Option Value → ab_H → Prop} {x0 : Nat} (t : wq d 244 0 [.ref x0, .retAddr 0] [] h Q) : wm d 244 [.ref x0] h Q := by
  unfold wm
  rw [mx_244]
  exact t
set_option maxRecDepth 20000 in
theorem t_244_0 {d : Nat} {h : ab_H} {Q : Option Value → ab_H → Prop} {x0 : Nat} (t : wq d 244 2 [.ref x0, .int 0] [] h Q) : wq d 244 0 [.ref x0, .retAddr 0] [] h Q := by
  refine g1 c_244_0 k_0 ?_
  refine g6 (L' := [.ref x0, .int 0]) c_244_1 rfl ?_
  exact t
set_option maxRecDepth 20000 in
theorem t_244_2 {d : Nat} {h : ab_H} {Q : Option Value → ab_H → Prop} {x0 : Nat} {x1 : Int32} (t : ab_ok h x0 112 = true ∧ if (ab_i h x0 16) ≤ x1 then (Q (some (.int 0)) h) else (ab_ok h x0 112 = true ∧ ∃ j1 : Nat, ab_r h x0 15 = some j1 ∧ ((j1 = 0 ∨ ab_ok h j1 0 = true) ∧ ab_in x1 (ab_s h j1).2 = true) ∧ if (ab_i h j1 (Int32.toNatClampNeg x1)) < 40 then (wq d 244 2 [.ref x0, .int (x1 + 1)] [] h Q) else (Q (some (.int 1)) h))) : wq d 244 2 [.ref x0, .int x1] [] h Q := by
  refine g3 c_244_2 rfl ?_
  refine g5 c_244_3 rfl ?_
  obtain ⟨ho, t⟩ := t
  refine g43 c_244_4 ho ?_
  refine gcm c_244_7 (gbr t rfl rfl (fun hc t => ?_) (fun hc t => ?_))
  · refine g1 c_244_29 k_0 ?_
    exact g91 c_244_30 ⟨by decide, t⟩
  · refine g5 c_244_10 rfl ?_
    obtain ⟨ho, j1, hr, t⟩ := t
    refine g45 c_244_11 ho hr ?_
    refine g3 c_244_14 rfl ?_
    obtain ⟨ho, t⟩ := t
    refine g50 c_244_15 ho ?_
    refine g1 c_244_16 k_40 ?_
    refine gcm c_244_18 (gbr t rfl rfl (fun hc t => ?_) (fun hc t => ?_))
    · refine g9 (L' := [.ref x0, .int (x1 + 1)]) c_244_23 rfl k_1 rfl ?_
      refine g38 c_244_26 rfl ?_
      exact t
    · refine g1 c_244_21 k_1 ?_
      exact g91 c_244_22 ⟨by decide, t⟩
-- method 245: MillTownModel.goesOn()Z
theorem c_245_0 : pg_cd 245 0 = (5, 1, 0, 0, 0) := by decide +kernel
theorem c_245_1 : pg_cd 245 1 = (43, 12, 144, 9, 0) := by decide +kernel
theorem c_245_4 : pg_cd 245 4 = (1, 2, 0, 0, 43) := by decide +kernel
theorem c_245_6 : pg_cd 245 6 = (37, 3, 0, 0, 55) := by decide +kernel
theorem c_245_9 : pg_cd 245 9 = (5, 1, 0, 0, 0) := by decide +kernel
theorem c_245_10 : pg_cd 245 10 = (43, 12, 144, 9, 0) := by decide +kernel
theorem c_245_13 : pg_cd 245 13 = (1, 2, 0, 0, 45) := by decide +kernel
theorem c_245_15 : pg_cd 245 15 = (37, 3, 0, 0, 46) := by decide +kernel
theorem c_245_18 : pg_cd 245 18 = (5, 1, 0, 0, 0) := by decide +kernel
theorem c_245_19 : pg_cd 245 19 = (43, 12, 144, 9, 0) := by decide +kernel
theorem c_245_22 : pg_cd 245 22 = (1, 2, 0, 0, 42) := by decide +kernel
theorem c_245_24 : pg_cd 245 24 = (37, 3, 0, 0, 37) := by decide +kernel
theorem c_245_27 : pg_cd 245 27 = (5, 1, 0, 0, 0) := by decide +kernel
theorem c_245_28 : pg_cd 245 28 = (43, 12, 144, 9, 0) := by decide +kernel
theorem c_245_31 : pg_cd 245 31 = (1, 2, 0, 0, 47) := by decide +kernel
theorem c_245_33 : pg_cd 245 33 = (37, 3, 0, 0, 28) := by decide +kernel
theorem c_245_36 : pg_cd 245 36 = (5, 1, 0, 0, 0) := by decide +kernel
theorem c_245_37 : pg_cd 245 37 = (43, 12, 144, 9, 0) := by decide +kernel
theorem c_245_40 : pg_cd 245 40 = (1, 2, 0, 0, 44) := by decide +kernel
theorem c_245_42 : pg_cd 245 42 = (37, 3, 0, 0, 12) := by decide +kernel
theorem c_245_45 : pg_cd 245 45 = (5, 1, 0, 0, 0) := by decide +kernel
theorem c_245_46 : pg_cd 245 46 = (43, 12, 144, 9, 0) := by decide +kernel
theorem c_245_49 : pg_cd 245 49 = (1, 2, 0, 0, 41) := by decide +kernel
theorem c_245_51 : pg_cd 245 51 = (37, 3, 0, 1, 14) := by decide +kernel
theorem c_245_54 : pg_cd 245 54 = (5, 1, 0, 0, 0) := by decide +kernel
theorem c_245_55 : pg_cd 245 55 = (80, 244, 209, 0, 0) := by decide +kernel
theorem c_245_58 : pg_cd 245 58 = (36, 3, 0, 0, 7) := by decide +kernel
theorem c_245_61 : pg_cd 245 61 = (1, 1, 0, 0, 1) := by decide +kernel
theorem c_245_62 : pg_cd 245 62 = (38, 3, 0, 0, 4) := by decide +kernel
theorem c_245_65 : pg_cd 245 65 = (1, 1, 0, 0, 0) := by decide +kernel
theorem c_245_66 : pg_cd 245 66 = (91, 0, 0, 0, 0) := by decide +kernel
theorem mx_245 : pg_mx 245 = 1 := by decide +kernel
theorem m_245 {d : Nat} {h : ab_H} {Q : Option Value → ab_H → Prop} {x0 : Nat} (t : wq d 245 0 [.ref x0] [] h Q) : wm d 245 [.ref x0] h Q := by
  unfold wm
  rw [mx_245]
  exact t
set_option maxRecDepth 20000 in
theorem t_245_0 {d : Nat} {h : ab_H} {Q : Option Value → ab_H → Prop} {x0 : Nat} (t : ab_ok h x0 112 = true ∧ if (ab_i h x0 9) = 43 then (Q (some (.int 1)) h) else (ab_ok h x0 112 = true ∧ if (ab_i h x0 9) = 45 then (Q (some (.int 1)) h) else (ab_ok h x0 112 = true ∧ if (ab_i h x0 9) = 42 then (Q (some (.int 1)) h) else (ab_ok h x0 112 = true ∧ if (ab_i h x0 9) = 47 then (Q (some (.int 1)) h) else (ab_ok h x0 112 = true ∧ if (ab_i h x0 9) = 44 then (ab_ok h x0 112 = true ∧ wm d 244 [.ref x0] h (fun r9 h9 => wq (d + 1) 245 58 [.ref x0] (r9.toList ++ []) h9 Q)) else (ab_ok h x0 112 = true ∧ if (ab_i h x0 9) = 41 then (ab_ok h x0 112 = true ∧ wm d 244 [.ref x0] h (fun r9 h9 => wq (d + 1) 245 58 [.ref x0] (r9.toList ++ []) h9 Q)) else (Q (some (.int 0)) h))))))) : wq (d + 1) 245 0 [.ref x0] [] h Q := by
  refine g5 c_245_0 rfl ?_
  obtain ⟨ho, t⟩ := t
  refine g43 c_245_1 ho ?_
  refine g1 c_245_4 k_43 ?_
  refine gcm c_245_6 (gbr t rfl rfl (fun hc t => ?_) (fun hc t => ?_))
  · refine g1 c_245_61 k_1 ?_
    refine g38 c_245_62 rfl ?_
    exact g91 c_245_66 ⟨by decide, t⟩
  · refine g5 c_245_9 rfl ?_
    obtain ⟨ho, t⟩ := t
    refine g43 c_245_10 ho ?_
    refine g1 c_245_13 k_45 ?_
    refine gcm c_245_15 (gbr t rfl rfl (fun hc t => ?_) (fun hc t => ?_))
    · refine g1 c_245_61 k_1 ?_
      refine g38 c_245_62 rfl ?_
      exact g91 c_245_66 ⟨by decide, t⟩
    · refine g5 c_245_18 rfl ?_
      obtain ⟨ho, t⟩ := t
      refine g43 c_245_19 ho ?_
      refine g1 c_245_22 k_42 ?_
      refine gcm c_245_24 (gbr t rfl rfl (fun hc t => ?_) (fun hc t => ?_))
      · refine g1 c_245_61 k_1 ?_
        refine g38 c_245_62 rfl ?_
        exact g91 c_245_66 ⟨by decide, t⟩
      · refine g5 c_245_27 rfl ?_
        obtain ⟨ho, t⟩ := t
        refine g43 c_245_28 ho ?_
        refine g1 c_245_31 k_47 ?_
        refine gcm c_245_33 (gbr t rfl rfl (fun hc t => ?_) (fun hc t => ?_))
        · refine g1 c_245_61 k_1 ?_
          refine g38 c_245_62 rfl ?_
          exact g91 c_245_66 ⟨by decide, t⟩
        · refine g5 c_245_36 rfl ?_
          obtain ⟨ho, t⟩ := t
          refine g43 c_245_37 ho ?_
          refine g1 c_245_40 k_44 ?_
          refine gcm c_245_42 (gbr t rfl rfl (fun hc t => ?_) (fun hc t => ?_))
          · refine g5 c_245_54 rfl ?_
            exact g80 (As := []) (rest := []) c_245_55 rfl rfl (Nat.le_of_ble_eq_true rfl) (Nat.le_of_ble_eq_true rfl) t.1 t.2
          · refine g5 c_245_45 rfl ?_
            obtain ⟨ho, t⟩ := t
            refine g43 c_245_46 ho ?_
            refine g1 c_245_49 k_41 ?_
            refine gcm c_245_51 (gbn t (ab_c1 _ _) rfl (fun hc t => ?_) (fun hc t => ?_))
            · refine g5 c_245_54 rfl ?_
              exact g80 (As := []) (rest := []) c_245_55 rfl rfl (Nat.le_of_ble_eq_true rfl) (Nat.le_of_ble_eq_true rfl) t.1 t.2
            · refine g1 c_245_65 k_0 ?_
              exact g91 c_245_66 ⟨by decide, t⟩
set_option maxRecDepth 20000 in
theorem t_245_58 {d : Nat} {h : ab_H} {Q : Option Value → ab_H → Prop} {x0 : Nat} {s0 : Int32} (t : if s0 = 0 then (Q (some (.int 0)) h) else (Q (some (.int 1)) h)) : wq d 245 58 [.ref x0] [.int s0] h Q := by
  refine gif c_245_58 (gbr t rfl rfl (fun hc t => ?_) (fun hc t => ?_))
  · refine g1 c_245_65 k_0 ?_
    exact g91 c_245_66 ⟨by decide, t⟩
  · refine g1 c_245_61 k_1 ?_
    refine g38 c_245_62 rfl ?_
    exact g91 c_245_66 ⟨by decide, t⟩
-- method 246: MillTownModel.behindOne()I
theorem c_246_0 : pg_cd 246 0 = (5, 1, 0, 0, 0) := by decide +kernel
theorem c_246_1 : pg_cd 246 1 = (43, 12, 144, 9, 0) := by decide +kernel
theorem c_246_4 : pg_cd 246 4 = (6, 1, 0, 1, 0) := by decide +kernel
theorem c_246_5 : pg_cd 246 5 = (3, 1, 0, 1, 0) := by decide +kernel
theorem c_246_6 : pg_cd 246 6 = (1, 2, 0, 0, 43) := by decide +kernel
theorem c_246_8 : pg_cd 246 8 = (37, 3, 0, 0, 9) := by decide +kernel
theorem c_246_11 : pg_cd 246 11 = (3, 1, 0, 1, 0) := by decide +kernel
theorem c_246_12 : pg_cd 246 12 = (1, 2, 0, 0, 45) := by decide +kernel
theorem c_246_14 : pg_cd 246 14 = (37, 3, 0, 1, 31) := by decide +kernel
theorem c_246_17 : pg_cd 246 17 = (5, 1, 0, 0, 0) := by decide +kernel
theorem c_246_18 : pg_cd 246 18 = (1, 1, 0, 0, 3) := by decide +kernel
theorem c_246_19 : pg_cd 246 19 = (80, 241, 213, 0, 0) := by decide +kernel
theorem c_246_22 : pg_cd 246 22 = (5, 1, 0, 0, 0) := by decide +kernel
theorem c_246_23 : pg_cd 246 23 = (3, 1, 0, 1, 0) := by decide +kernel
theorem c_246_24 : pg_cd 246 24 = (1, 2, 0, 0, 43) := by decide +kernel
theorem c_246_26 : pg_cd 246 26 = (37, 3, 0, 1, 7) := by decide +kernel
theorem c_246_29 : pg_cd 246 29 = (1, 1, 0, 0, 3) := by decide +kernel
theorem c_246_30 : pg_cd 246 30 = (38, 3, 0, 0, 4) := by decide +kernel
theorem c_246_33 : pg_cd 246 33 = (1, 1, 0, 0, 4) := by decide +kernel
theorem c_246_34 : pg_cd 246 34 = (80, 239, 206, 0, 0) := by decide +kernel
theorem c_246_37 : pg_cd 246 37 = (5, 1, 0, 0, 0) := by decide +kernel
theorem c_246_38 : pg_cd 246 38 = (1, 1, 0, 0, 0) := by decide +kernel
theorem c_246_39 : pg_cd 246 39 = (47, 12, 180, 18, 0) := by decide +kernel
theorem c_246_42 : pg_cd 246 42 = (38, 3, 0, 0, 166) := by decide +kernel
theorem c_246_45 : pg_cd 246 45 = (3, 1, 0, 1, 0) := by decide +kernel
theorem c_246_46 : pg_cd 246 46 = (1, 2, 0, 0, 42) := by decide +kernel
theorem c_246_48 : pg_cd 246 48 = (37, 3, 0, 0, 9) := by decide +kernel
theorem c_246_51 : pg_cd 246 51 = (3, 1, 0, 1, 0) := by decide +kernel
theorem c_246_52 : pg_cd 246 52 = (1, 2, 0, 0, 47) := by decide +kernel
theorem c_246_54 : pg_cd 246 54 = (37, 3, 0, 1, 32) := by decide +kernel
theorem c_246_57 : pg_cd 246 57 = (5, 1, 0, 0, 0) := by decide +kernel
theorem c_246_58 : pg_cd 246 58 = (1, 1, 0, 0, 5) := by decide +kernel
theorem c_246_59 : pg_cd 246 59 = (80, 241, 213, 0, 0) := by decide +kernel
theorem c_246_62 : pg_cd 246 62 = (5, 1, 0, 0, 0) := by decide +kernel
theorem c_246_63 : pg_cd 246 63 = (3, 1, 0, 1, 0) := by decide +kernel
theorem c_246_64 : pg_cd 246 64 = (1, 2, 0, 0, 42) := by decide +kernel
theorem c_246_66 : pg_cd 246 66 = (37, 3, 0, 1, 7) := by decide +kernel
theorem c_246_69 : pg_cd 246 69 = (1, 1, 0, 0, 5) := by decide +kernel
theorem c_246_70 : pg_cd 246 70 = (38, 3, 0, 0, 5) := by decide +kernel
theorem c_246_73 : pg_cd 246 73 = (1, 2, 0, 0, 6) := by decide +kernel
theorem c_246_75 : pg_cd 246 75 = (80, 239, 206, 0, 0) := by decide +kernel
theorem c_246_78 : pg_cd 246 78 = (5, 1, 0, 0, 0) := by decide +kernel
theorem c_246_79 : pg_cd 246 79 = (1, 1, 0, 0, 0) := by decide +kernel
theorem c_246_80 : pg_cd 246 80 = (47, 12, 180, 18, 0) := by decide +kernel
theorem c_246_83 : pg_cd 246 83 = (38, 3, 0, 0, 125) := by decide +kernel
theorem c_246_86 : pg_cd 246 86 = (5, 1, 0, 0, 0) := by decide +kernel
theorem c_246_87 : pg_cd 246 87 = (1, 1, 0, 0, 3) := by decide +kernel
theorem c_246_88 : pg_cd 246 88 = (80, 241, 213, 0, 0) := by decide +kernel
theorem c_246_91 : pg_cd 246 91 = (5, 1, 0, 0, 0) := by decide +kernel
theorem c_246_92 : pg_cd 246 92 = (45, 12, 30, 15, 0) := by decide +kernel
theorem c_246_95 : pg_cd 246 95 = (5, 1, 0, 0, 0) := by decide +kernel
theorem c_246_96 : pg_cd 246 96 = (43, 12, 177, 16, 0) := by decide +kernel
theorem c_246_99 : pg_cd 246 99 = (1, 1, 0, 0, 1) := by decide +kernel
theorem c_246_100 : pg_cd 246 100 = (11, 1, 0, 0, 0) := by decide +kernel
theorem c_246_101 : pg_cd 246 101 = (50, 1, 0, 0, 0) := by decide +kernel
theorem c_246_102 : pg_cd 246 102 = (6, 1, 0, 2, 0) := by decide +kernel
theorem c_246_103 : pg_cd 246 103 = (3, 1, 0, 1, 0) := by decide +kernel
theorem c_246_104 : pg_cd 246 104 = (1, 2, 0, 0, 44) := by decide +kernel
theorem c_246_106 : pg_cd 246 106 = (37, 3, 0, 1, 40) := by decide +kernel
theorem c_246_109 : pg_cd 246 109 = (3, 1, 0, 2, 0) := by decide +kernel
theorem c_246_110 : pg_cd 246 110 = (1, 2, 0, 0, 41) := by decide +kernel
theorem c_246_112 : pg_cd 246 112 = (37, 3, 0, 0, 11) := by decide +kernel
theorem c_246_115 : pg_cd 246 115 = (3, 1, 0, 2, 0) := by decide +kernel
theorem c_246_116 : pg_cd 246 116 = (1, 2, 0, 0, 42) := by decide +kernel
theorem c_246_118 : pg_cd 246 118 = (37, 3, 0, 0, 5) := by decide +kernel
theorem c_246_121 : pg_cd 246 121 = (1, 1, 0, 0, 1) := by decide +kernel
theorem c_246_122 : pg_cd 246 122 = (90, 0, 0, 0, 0) := by decide +kernel
theorem c_246_123 : pg_cd 246 123 = (5, 1, 0, 0, 0) := by decide +kernel
theorem c_246_124 : pg_cd 246 124 = (45, 12, 30, 15, 0) := by decide +kernel
theorem c_246_127 : pg_cd 246 127 = (5, 1, 0, 0, 0) := by decide +kernel
theorem c_246_128 : pg_cd 246 128 = (43, 12, 177, 16, 0) := by decide +kernel
theorem c_246_131 : pg_cd 246 131 = (1, 1, 0, 0, 1) := by decide +kernel
theorem c_246_132 : pg_cd 246 132 = (11, 1, 0, 0, 0) := by decide +kernel
theorem c_246_133 : pg_cd 246 133 = (34, 1, 0, 0, 0) := by decide +kernel
theorem c_246_134 : pg_cd 246 134 = (50, 1, 0, 0, 0) := by decide +kernel
theorem c_246_135 : pg_cd 246 135 = (1, 1, 0, 0, 2) := by decide +kernel
theorem c_246_136 : pg_cd 246 136 = (10, 1, 0, 0, 0) := by decide +kernel
theorem c_246_137 : pg_cd 246 137 = (54, 1, 0, 0, 0) := by decide +kernel
theorem c_246_138 : pg_cd 246 138 = (5, 1, 0, 0, 0) := by decide +kernel
theorem c_246_139 : pg_cd 246 139 = (1, 1, 0, 0, 0) := by decide +kernel
theorem c_246_140 : pg_cd 246 140 = (47, 12, 180, 18, 0) := by decide +kernel
theorem c_246_143 : pg_cd 246 143 = (38, 3, 0, 0, 65) := by decide +kernel
theorem c_246_146 : pg_cd 246 146 = (3, 1, 0, 2, 0) := by decide +kernel
theorem c_246_147 : pg_cd 246 147 = (1, 2, 0, 0, 41) := by decide +kernel
theorem c_246_149 : pg_cd 246 149 = (37, 3, 0, 0, 9) := by decide +kernel
theorem c_246_152 : pg_cd 246 152 = (3, 1, 0, 2, 0) := by decide +kernel
theorem c_246_153 : pg_cd 246 153 = (1, 2, 0, 0, 42) := by decide +kernel
theorem c_246_155 : pg_cd 246 155 = (37, 3, 0, 1, 5) := by decide +kernel
theorem c_246_158 : pg_cd 246 158 = (1, 1, 0, 0, 1) := by decide +kernel
theorem c_246_159 : pg_cd 246 159 = (90, 0, 0, 0, 0) := by decide +kernel
theorem c_246_160 : pg_cd 246 160 = (5, 1, 0, 0, 0) := by decide +kernel
theorem c_246_161 : pg_cd 246 161 = (33, 1, 0, 0, 0) := by decide +kernel
theorem c_246_162 : pg_cd 246 162 = (43, 12, 177, 16, 0) := by decide +kernel
theorem c_246_165 : pg_cd 246 165 = (1, 1, 0, 0, 1) := by decide +kernel
theorem c_246_166 : pg_cd 246 166 = (11, 1, 0, 0, 0) := by decide +kernel
theorem c_246_167 : pg_cd 246 167 = (46, 12, 177, 16, 0) := by decide +kernel
theorem c_246_170 : pg_cd 246 170 = (5, 1, 0, 0, 0) := by decide +kernel
theorem c_246_171 : pg_cd 246 171 = (33, 1, 0, 0, 0) := by decide +kernel
theorem c_246_172 : pg_cd 246 172 = (43, 12, 184, 17, 0) := by decide +kernel
theorem c_246_175 : pg_cd 246 175 = (1, 1, 0, 0, 1) := by decide +kernel
theorem c_246_176 : pg_cd 246 176 = (11, 1, 0, 0, 0) := by decide +kernel
theorem c_246_177 : pg_cd 246 177 = (46, 12, 184, 17, 0) := by decide +kernel
theorem c_246_180 : pg_cd 246 180 = (3, 1, 0, 2, 0) := by decide +kernel
theorem c_246_181 : pg_cd 246 181 = (1, 2, 0, 0, 40) := by decide +kernel
theorem c_246_183 : pg_cd 246 183 = (37, 3, 0, 5, 21) := by decide +kernel
theorem c_246_186 : pg_cd 246 186 = (5, 1, 0, 0, 0) := by decide +kernel
theorem c_246_187 : pg_cd 246 187 = (3, 1, 0, 2, 0) := by decide +kernel
theorem c_246_188 : pg_cd 246 188 = (1, 2, 0, 0, 43) := by decide +kernel
theorem c_246_190 : pg_cd 246 190 = (37, 3, 0, 1, 8) := by decide +kernel
theorem c_246_193 : pg_cd 246 193 = (1, 2, 0, 0, 7) := by decide +kernel
theorem c_246_195 : pg_cd 246 195 = (38, 3, 0, 0, 5) := by decide +kernel
theorem c_246_198 : pg_cd 246 198 = (1, 2, 0, 0, 8) := by decide +kernel
theorem c_246_200 : pg_cd 246 200 = (1, 1, 0, 0, 0) := by decide +kernel
theorem c_246_201 : pg_cd 246 201 = (80, 238, 187, 0, 0) := by decide +kernel
theorem c_246_204 : pg_cd 246 204 = (5, 1, 0, 0, 0) := by decide +kernel
theorem c_246_205 : pg_cd 246 205 = (80, 240, 199, 0, 0) := by decide +kernel
theorem c_246_208 : pg_cd 246 208 = (5, 1, 0, 0, 0) := by decide +kernel
theorem c_246_209 : pg_cd 246 209 = (80, 231, 168, 0, 0) := by decide +kernel
theorem c_246_212 : pg_cd 246 212 = (1, 1, 0, 0, 0) := by decide +kernel
theorem c_246_213 : pg_cd 246 213 = (90, 0, 0, 0, 0) := by decide +kernel
theorem mx_246 : pg_mx 246 = 3 := by decide +kernel
theorem m_246 {d : Nat} {h : ab_H} {Q : Option Value → ab_H → Prop} {x0 : Nat} (t : wq d 246 0 [.ref x0, .retAddr 0, .retAddr 0] [] h Q) : wm d 246 [.ref x0] h Q := by
  unfold wm
  rw [mx_246]
  exact t
set_option maxRecDepth 20000 in
theorem t_246_0 {d : Nat} {h : ab_H} {Q : Option Value → ab_H → Prop} {x0 : Nat} (t : ab_ok h x0 112 = true ∧ if (ab_i h x0 9) = 43 then (ab_ok h x0 112 = true ∧ wm d 241 [.ref x0, .int 3] h (fun r9 h9 => wq (d + 1) 246 22 [.ref x0, .int (ab_i h x0 9), .retAddr 0] (r9.toList ++ []) h9 Q)) else (if (ab_i h x0 9) = 45 then (ab_ok h x0 112 = true ∧ wm d 241 [.ref x0, .int 3] h (fun r9 h9 => wq (d + 1) 246 22 [.ref x0, .int (ab_i h x0 9), .retAddr 0] (r9.toList ++ []) h9 Q)) else (if (ab_i h x0 9) = 42 then (ab_ok h x0 112 = true ∧ wm d 241 [.ref x0, .int 5] h (fun r9 h9 => wq (d + 1) 246 62 [.ref x0, .int (ab_i h x0 9), .retAddr 0] (r9.toList ++ []) h9 Q)) else (if (ab_i h x0 9) = 47 then (ab_ok h x0 112 = true ∧ wm d 241 [.ref x0, .int 5] h (fun r9 h9 => wq (d + 1) 246 62 [.ref x0, .int (ab_i h x0 9), .retAddr 0] (r9.toList ++ []) h9 Q)) else (ab_ok h x0 112 = true ∧ wm d 241 [.ref x0, .int 3] h (fun r9 h9 => wq (d + 1) 246 91 [.ref x0, .int (ab_i h x0 9), .retAddr 0] (r9.toList ++ []) h9 Q)))))) : wq (d + 1) 246 0 [.ref x0, .retAddr 0, .retAddr 0] [] h Q := by
  refine g5 c_246_0 rfl ?_
  obtain ⟨ho, t⟩ := t
  refine g43 c_246_1 ho ?_
  refine g6 (L' := [.ref x0, .int (ab_i h x0 9), .retAddr 0]) c_246_4 rfl ?_
  refine g3 c_246_5 rfl ?_
  refine g1 c_246_6 k_43 ?_
  refine gcm c_246_8 (gbr t rfl rfl (fun hc t => ?_) (fun hc t => ?_))
  · refine g5 c_246_17 rfl ?_
    refine g1 c_246_18 k_3 ?_
    exact g80 (As := [.int 3]) (rest := []) c_246_19 rfl rfl (Nat.le_of_ble_eq_true rfl) (Nat.le_of_ble_eq_true rfl) t.1 t.2
  · refine g3 c_246_11 rfl ?_
    refine g1 c_246_12 k_45 ?_
    refine gcm c_246_14 (gbn t (ab_c1 _ _) rfl (fun hc t => ?_) (fun hc t => ?_))
    · refine g5 c_246_17 rfl ?_
      refine g1 c_246_18 k_3 ?_
      exact g80 (As := [.int 3]) (rest := []) c_246_19 rfl rfl (Nat.le_of_ble_eq_true rfl) (Nat.le_of_ble_eq_true rfl) t.1 t.2
    · refine g3 c_246_45 rfl ?_
      refine g1 c_246_46 k_42 ?_
      refine gcm c_246_48 (gbr t rfl rfl (fun hc t => ?_) (fun hc t => ?_))
      · refine g5 c_246_57 rfl ?_
        refine g1 c_246_58 k_5 ?_
        exact g80 (As := [.int 5]) (rest := []) c_246_59 rfl rfl (Nat.le_of_ble_eq_true rfl) (Nat.le_of_ble_eq_true rfl) t.1 t.2
      · refine g3 c_246_51 rfl ?_
        refine g1 c_246_52 k_47 ?_
        refine gcm c_246_54 (gbn t (ab_c1 _ _) rfl (fun hc t => ?_) (fun hc t => ?_))
        · refine g5 c_246_57 rfl ?_
          refine g1 c_246_58 k_5 ?_
          exact g80 (As := [.int 5]) (rest := []) c_246_59 rfl rfl (Nat.le_of_ble_eq_true rfl) (Nat.le_of_ble_eq_true rfl) t.1 t.2
        · refine g5 c_246_86 rfl ?_
          refine g1 c_246_87 k_3 ?_
          exact g80 (As := [.int 3]) (rest := []) c_246_88 rfl rfl (Nat.le_of_ble_eq_true rfl) (Nat.le_of_ble_eq_true rfl) t.1 t.2
set_option maxRecDepth 20000 in
theorem t_246_22 {d : Nat} {h : ab_H} {Q : Option Value → ab_H → Prop} {x0 : Nat} {x1 : Int32} (t : if x1 = 43 then (ab_ok h x0 112 = true ∧ wm d 239 [.ref x0, .int 3] h (fun r9 h9 => wq (d + 1) 246 37 [.ref x0, .int x1, .retAddr 0] (r9.toList ++ []) h9 Q)) else (ab_ok h x0 112 = true ∧ wm d 239 [.ref x0, .int 4] h (fun r9 h9 => wq (d + 1) 246 37 [.ref x0, .int x1, .retAddr 0] (r9.toList ++ []) h9 Q))) : wq (d + 1) 246 22 [.ref x0, .int x1, .retAddr 0] [] h Q := by
  refine g5 c_246_22 rfl ?_
  refine g3 c_246_23 rfl ?_
  refine g1 c_246_24 k_43 ?_
  refine gcm c_246_26 (gbn t (ab_c1 _ _) rfl (fun hc t => ?_) (fun hc t => ?_))
  · refine g1 c_246_29 k_3 ?_
    refine g38 c_246_30 rfl ?_
    exact g80 (As := [.int 3]) (rest := []) c_246_34 rfl rfl (Nat.le_of_ble_eq_true rfl) (Nat.le_of_ble_eq_true rfl) t.1 t.2
  · refine g1 c_246_33 k_4 ?_
    exact g80 (As := [.int 4]) (rest := []) c_246_34 rfl rfl (Nat.le_of_ble_eq_true rfl) (Nat.le_of_ble_eq_true rfl) t.1 t.2
set_option maxRecDepth 20000 in
theorem t_246_37 {d : Nat} {h : ab_H} {Q : Option Value → ab_H → Prop} {x0 : Nat} {x1 : Int32} (t : ab_ok h x0 112 = true ∧ ∀ h1 : ab_H, h1 = ab_pi h x0 18 0 → ab_ok h1 x0 112 = true ∧ wm d 231 [.ref x0] h1 (fun r9 h9 => wq (d + 1) 246 212 [.ref x0, .int x1, .retAddr 0] (r9.toList ++ []) h9 Q)) : wq (d + 1) 246 37 [.ref x0, .int x1, .retAddr 0] [] h Q := by
  refine g5 c_246_37 rfl ?_
  refine g1 c_246_38 k_0 ?_
  obtain ⟨ho, t⟩ := t
  refine g47 c_246_39 ⟨ho, by decide⟩ (fun h1 eh1 => ?_)
  have t := t h1 eh1
  refine g38 c_246_42 rfl ?_
  refine g5 c_246_208 rfl ?_
  exact g80 (As := []) (rest := []) c_246_209 rfl rfl (Nat.le_of_ble_eq_true rfl) (Nat.le_of_ble_eq_true rfl) t.1 t.2
set_option maxRecDepth 20000 in
theorem t_246_62 {d : Nat} {h : ab_H} {Q : Option Value → ab_H → Prop} {x0 : Nat} {x1 : Int32} (t : if x1 = 42 then (ab_ok h x0 112 = true ∧ wm d 239 [.ref x0, .int 5] h (fun r9 h9 => wq (d + 1) 246 78 [.ref x0, .int x1, .retAddr 0] (r9.toList ++ []) h9 Q)) else (ab_ok h x0 112 = true ∧ wm d 239 [.ref x0, .int 6] h (fun r9 h9 => wq (d + 1) 246 78 [.ref x0, .int x1, .retAddr 0] (r9.toList ++ []) h9 Q))) : wq (d + 1) 246 62 [.ref x0, .int x1, .retAddr 0] [] h Q := by
  refine g5 c_246_62 rfl ?_
  refine g3 c_246_63 rfl ?_
  refine g1 c_246_64 k_42 ?_
  refine gcm c_246_66 (gbn t (ab_c1 _ _) rfl (fun hc t => ?_) (fun hc t => ?_))
  · refine g1 c_246_69 k_5 ?_
    refine g38 c_246_70 rfl ?_
    exact g80 (As := [.int 5]) (rest := []) c_246_75 rfl rfl (Nat.le_of_ble_eq_true rfl) (Nat.le_of_ble_eq_true rfl) t.1 t.2
  · refine g1 c_246_73 k_6 ?_
    exact g80 (As := [.int 6]) (rest := []) c_246_75 rfl rfl (Nat.le_of_ble_eq_true rfl) (Nat.le_of_ble_eq_true rfl) t.1 t.2
set_option maxRecDepth 20000 in
theorem t_246_78 {d : Nat} {h : ab_H} {Q : Option Value → ab_H → Prop} {x0 : Nat} {x1 : Int32} (t : ab_ok h x0 112 = true ∧ ∀ h1 : ab_H, h1 = ab_pi h x0 18 0 → ab_ok h1 x0 112 = true ∧ wm d 231 [.ref x0] h1 (fun r9 h9 => wq (d + 1) 246 212 [.ref x0, .int x1, .retAddr 0] (r9.toList ++ []) h9 Q)) : wq (d + 1) 246 78 [.ref x0, .int x1, .retAddr 0] [] h Q := by
  refine g5 c_246_78 rfl ?_
  refine g1 c_246_79 k_0 ?_
  obtain ⟨ho, t⟩ := t
  refine g47 c_246_80 ⟨ho, by decide⟩ (fun h1 eh1 => ?_)
  have t := t h1 eh1
  refine g38 c_246_83 rfl ?_
  refine g5 c_246_208 rfl ?_
  exact g80 (As := []) (rest := []) c_246_209 rfl rfl (Nat.le_of_ble_eq_true rfl) (Nat.le_of_ble_eq_true rfl) t.1 t.2
set_option maxRecDepth 20000 in
theorem t_246_91 {d : Nat} {h : ab_H} {Q : Option Value → ab_H → Prop} {x0 : Nat} {x1 : Int32} (t : ab_ok h x0 112 = true ∧ ∃ j1 : Nat, ab_r h x0 15 = some j1 ∧ ab_ok h x0 112 = true ∧ ((j1 = 0 ∨ ab_ok h j1 0 = true) ∧ ab_in ((ab_i h x0 16) - 1) (ab_s h j1).2 = true) ∧ ∀ y2 : Int32, y2 = (ab_i h j1 (Int32.toNatClampNeg ((ab_i h x0 16) - 1))) → if x1 = 44 then (if y2 = 41 then (ab_ok h x0 112 = true ∧ ∃ j3 : Nat, ab_r h x0 15 = some j3 ∧ ab_ok h x0 112 = true ∧ ((j3 = 0 ∨ ab_ok h j3 0 = true) ∧ ab_in ((ab_i h x0 16) - 1) (ab_s h j3).2 = true) ∧ (ab_ok h j3 0 = true ∧ ab_in ((ab_i h x0 16) - 1) (ab_s h j3).2 = true) ∧ ∀ h4 : ab_H, h4 = ab_pi h j3 (Int32.toNatClampNeg ((ab_i h x0 16) - 1)) ((ab_i h j3 (Int32.toNatClampNeg ((ab_i h x0 16) - 1))) + 2) → ab_ok h4 x0 112 = true ∧ ∀ h5 : ab_H, h5 = ab_pi h4 x0 18 0 → ab_ok h5 x0 112 = true ∧ wm d 231 [.ref x0] h5 (fun r9 h9 => wq (d + 1) 246 212 [.ref x0, .int x1, .int y2] (r9.toList ++ []) h9 Q)) else (if y2 = 42 then (ab_ok h x0 112 = true ∧ ∃ j6 : Nat, ab_r h x0 15 = some j6 ∧ ab_ok h x0 112 = true ∧ ((j6 = 0 ∨ ab_ok h j6 0 = true) ∧ ab_in ((ab_i h x0 16) - 1) (ab_s h j6).2 = true) ∧ (ab_ok h j6 0 = true ∧ ab_in ((ab_i h x0 16) - 1) (ab_s h j6).2 = true) ∧ ∀ h7 : ab_H, h7 = ab_pi h j6 (Int32.toNatClampNeg ((ab_i h x0 16) - 1)) ((ab_i h j6 (Int32.toNatClampNeg ((ab_i h x0 16) - 1))) + 2) → ab_ok h7 x0 112 = true ∧ ∀ h8 : ab_H, h8 = ab_pi h7 x0 18 0 → ab_ok h8 x0 112 = true ∧ wm d 231 [.ref x0] h8 (fun r9 h9 => wq (d + 1) 246 212 [.ref x0, .int x1, .int y2] (r9.toList ++ []) h9 Q)) else (Q (some (.int 1)) h))) else (if y2 = 41 then (Q (some (.int 1)) h) else (if y2 = 42 then (Q (some (.int 1)) h) else (ab_ok h x0 112 = true ∧ ab_ok h x0 112 = true ∧ ∀ h9 : ab_H, h9 = ab_pi h x0 16 ((ab_i h x0 16) - 1) → ab_ok h9 x0 112 = true ∧ ab_ok h9 x0 112 = true ∧ ∀ h10 : ab_H, h10 = ab_pi h9 x0 17 ((ab_i h9 x0 17) - 1) → if y2 ≤ 40 then (ab_ok h10 x0 112 = true ∧ wm d 240 [.ref x0] h10 (fun r9 h9 => wq (d + 1) 246 208 [.ref x0, .int x1, .int y2] (r9.toList ++ []) h9 Q)) else (if y2 = 43 then (ab_ok h10 x0 112 = true ∧ wm d 238 [.ref x0, .int 7, .int 0] h10 (fun r9 h9 => wq (d + 1) 246 204 [.ref x0, .int x1, .int y2] (r9.toList ++ []) h9 Q)) else (ab_ok h10 x0 112 = true ∧ wm d 238 [.ref x0, .int 8, .int 0] h10 (fun r9 h9 => wq (d + 1) 246 204 [.ref x0, .int x1, .int y2] (r9.toList ++ []) h9 Q))))))) : wq (d + 1) 246 91 [.ref x0, .int x1, .retAddr 0] [] h Q := by
  refine g5 c_246_91 rfl ?_
  obtain ⟨ho, j1, hr, t⟩ := t
  refine g45 c_246_92 ho hr ?_
  refine g5 c_246_95 rfl ?_
  obtain ⟨ho, t⟩ := t
  refine g43 c_246_96 ho ?_
  refine g1 c_246_99 k_1 ?_
  refine g11 c_246_100 ?_
  obtain ⟨ho, t⟩ := t
  refine g50 c_246_101 ho ?_
  refine g6y (Lf := fun y2 => [.ref x0, .int x1, .int y2]) c_246_102 (fun _ => rfl) (fun y2 ey2 => ?_)
  have t := t y2 ey2
  refine g3 c_246_103 rfl ?_
  refine g1 c_246_104 k_44 ?_
  refine gcm c_246_106 (gbn t (ab_c1 _ _) rfl (fun hc t => ?_) (fun hc t => ?_))
  · refine g3 c_246_109 rfl ?_
    refine g1 c_246_110 k_41 ?_
    refine gcm c_246_112 (gbr t rfl rfl (fun hc t => ?_) (fun hc t => ?_))
    · refine g5 c_246_123 rfl ?_
      obtain ⟨ho, j3, hr, t⟩ := t
      refine g45 c_246_124 ho hr ?_
      refine g5 c_246_127 rfl ?_
      obtain ⟨ho, t⟩ := t
      refine g43 c_246_128 ho ?_
      refine g1 c_246_131 k_1 ?_
      refine g11 c_246_132 ?_
      refine g34a c_246_133 ?_
      obtain ⟨ho, t⟩ := t
      refine g50 c_246_134 ho ?_
      refine g1 c_246_135 k_2 ?_
      refine g10 c_246_136 ?_
      obtain ⟨ho, t⟩ := t
      refine g54 c_246_137 ho (fun h4 eh4 => ?_)
      have t := t h4 eh4
      refine g5 c_246_138 rfl ?_
      refine g1 c_246_139 k_0 ?_
      obtain ⟨ho, t⟩ := t
      refine g47 c_246_140 ⟨ho, by decide⟩ (fun h5 eh5 => ?_)
      have t := t h5 eh5
      refine g38 c_246_143 rfl ?_
      refine g5 c_246_208 rfl ?_
      exact g80 (As := []) (rest := []) c_246_209 rfl rfl (Nat.le_of_ble_eq_true rfl) (Nat.le_of_ble_eq_true rfl) t.1 t.2
    · refine g3 c_246_115 rfl ?_
      refine g1 c_246_116 k_42 ?_
      refine gcm c_246_118 (gbr t rfl rfl (fun hc t => ?_) (fun hc t => ?_))
      · refine g5 c_246_123 rfl ?_
        obtain ⟨ho, j6, hr, t⟩ := t
        refine g45 c_246_124 ho hr ?_
        refine g5 c_246_127 rfl ?_
        obtain ⟨ho, t⟩ := t
        refine g43 c_246_128 ho ?_
        refine g1 c_246_131 k_1 ?_
        refine g11 c_246_132 ?_
        refine g34a c_246_133 ?_
        obtain ⟨ho, t⟩ := t
        refine g50 c_246_134 ho ?_
        refine g1 c_246_135 k_2 ?_
        refine g10 c_246_136 ?_
        obtain ⟨ho, t⟩ := t
        refine g54 c_246_137 ho (fun h7 eh7 => ?_)
        have t := t h7 eh7
        refine g5 c_246_138 rfl ?_
        refine g1 c_246_139 k_0 ?_
        obtain ⟨ho, t⟩ := t
        refine g47 c_246_140 ⟨ho, by decide⟩ (fun h8 eh8 => ?_)
        have t := t h8 eh8
        refine g38 c_246_143 rfl ?_
        refine g5 c_246_208 rfl ?_
        exact g80 (As := []) (rest := []) c_246_209 rfl rfl (Nat.le_of_ble_eq_true rfl) (Nat.le_of_ble_eq_true rfl) t.1 t.2
      · refine g1 c_246_121 k_1 ?_
        exact g90 c_246_122 t
  · refine g3 c_246_146 rfl ?_
    refine g1 c_246_147 k_41 ?_
    refine gcm c_246_149 (gbr t rfl rfl (fun hc t => ?_) (fun hc t => ?_))
    · refine g1 c_246_158 k_1 ?_
      exact g90 c_246_159 t
    · refine g3 c_246_152 rfl ?_
      refine g1 c_246_153 k_42 ?_
      refine gcm c_246_155 (gbn t (ab_c1 _ _) rfl (fun hc t => ?_) (fun hc t => ?_))
      · refine g1 c_246_158 k_1 ?_
        exact g90 c_246_159 t
      · refine g5 c_246_160 rfl ?_
        refine g33a c_246_161 ?_
        obtain ⟨ho, t⟩ := t
        refine g43 c_246_162 ho ?_
        refine g1 c_246_165 k_1 ?_
        refine g11 c_246_166 ?_
        obtain ⟨ho, t⟩ := t
        refine g46 c_246_167 ho (fun h9 eh9 => ?_)
        have t := t h9 eh9
        refine g5 c_246_170 rfl ?_
        refine g33a c_246_171 ?_
        obtain ⟨ho, t⟩ := t
        refine g43 c_246_172 ho ?_
        refine g1 c_246_175 k_1 ?_
        refine g11 c_246_176 ?_
        obtain ⟨ho, t⟩ := t
        refine g46 c_246_177 ho (fun h10 eh10 => ?_)
        have t := t h10 eh10
        refine g3 c_246_180 rfl ?_
        refine g1 c_246_181 k_40 ?_
        refine gcm c_246_183 (gbr t rfl rfl (fun hc t => ?_) (fun hc t => ?_))
        · refine g5 c_246_204 rfl ?_
          exact g80 (As := []) (rest := []) c_246_205 rfl rfl (Nat.le_of_ble_eq_true rfl) (Nat.le_of_ble_eq_true rfl) t.1 t.2
        · refine g5 c_246_186 rfl ?_
          refine g3 c_246_187 rfl ?_
          refine g1 c_246_188 k_43 ?_
          refine gcm c_246_190 (gbn t (ab_c1 _ _) rfl (fun hc t => ?_) (fun hc t => ?_))
          · refine g1 c_246_193 k_7 ?_
            refine g38 c_246_195 rfl ?_
            refine g1 c_246_200 k_0 ?_
            exact g80 (As := [.int 7, .int 0]) (rest := []) c_246_201 rfl rfl (Nat.le_of_ble_eq_true rfl) (Nat.le_of_ble_eq_true rfl) t.1 t.2
          · refine g1 c_246_198 k_8 ?_
            refine g1 c_246_200 k_0 ?_
            exact g80 (As := [.int 8, .int 0]) (rest := []) c_246_201 rfl rfl (Nat.le_of_ble_eq_true rfl) (Nat.le_of_ble_eq_true rfl) t.1 t.2
set_option maxRecDepth 20000 in
theorem t_246_204 {d : Nat} {h : ab_H} {Q : Option Value → ab_H → Prop} {x0 : Nat} {x1 : Int32} {x2 : Int32} (t : ab_ok h x0 112 = true ∧ wm d 240 [.ref x0] h (fun r9 h9 => wq (d + 1) 246 208 [.ref x0, .int x1, .int x2] (r9.toList ++ []) h9 Q)) : wq (d + 1) 246 204 [.ref x0, .int x1, .int x2] [] h Q := by
  refine g5 c_246_204 rfl ?_
  exact g80 (As := []) (rest := []) c_246_205 rfl rfl (Nat.le_of_ble_eq_true rfl) (Nat.le_of_ble_eq_true rfl) t.1 t.2
set_option maxRecDepth 20000 in
theorem t_246_208 {d : Nat} {h : ab_H} {Q : Option Value → ab_H → Prop} {x0 : Nat} {x1 : Int32} (t : ab_ok h x0 112 = true ∧ wm d 231 [.ref x0] h (fun r9 h9 => wq (d + 1) 246 212 [.ref x0, .int x1, .retAddr 0] (r9.toList ++ []) h9 Q)) : wq (d + 1) 246 208 [.ref x0, .int x1, .retAddr 0] [] h Q := by
  refine g5 c_246_208 rfl ?_
  exact g80 (As := []) (rest := []) c_246_209 rfl rfl (Nat.le_of_ble_eq_true rfl) (Nat.le_of_ble_eq_true rfl) t.1 t.2
set_option maxRecDepth 20000 in
theorem t_246_212 {d : Nat} {h : ab_H} {Q : Option Value → ab_H → Prop} {x0 : Nat} {x1 : Int32} (t : Q (some (.int 0)) h) : wq d 246 212 [.ref x0, .int x1, .retAddr 0] [] h Q := by
  refine g1 c_246_212 k_0 ?_
  exact g90 c_246_213 t
-- method 247: MillTownModel.sum()I
theorem c_247_0 : pg_cd 247 0 = (5, 1, 0, 0, 0) := by decide +kernel
theorem c_247_1 : pg_cd 247 1 = (1, 1, 0, 0, 0) := by decide +kernel
theorem c_247_2 : pg_cd 247 2 = (46, 12, 177, 16, 0) := by decide +kernel
theorem c_247_5 : pg_cd 247 5 = (5, 1, 0, 0, 0) := by decide +kernel
theorem c_247_6 : pg_cd 247 6 = (1, 1, 0, 0, 0) := by decide +kernel
theorem c_247_7 : pg_cd 247 7 = (47, 12, 180, 18, 0) := by decide +kernel
theorem c_247_10 : pg_cd 247 10 = (5, 1, 0, 0, 0) := by decide +kernel
theorem c_247_11 : pg_cd 247 11 = (43, 12, 180, 18, 0) := by decide +kernel
theorem c_247_14 : pg_cd 247 14 = (36, 3, 0, 0, 10) := by decide +kernel
theorem c_247_17 : pg_cd 247 17 = (5, 1, 0, 0, 0) := by decide +kernel
theorem c_247_18 : pg_cd 247 18 = (80, 245, 216, 0, 0) := by decide +kernel
theorem c_247_21 : pg_cd 247 21 = (36, 3, 0, 0, 31) := by decide +kernel
theorem c_247_24 : pg_cd 247 24 = (5, 1, 0, 0, 0) := by decide +kernel
theorem c_247_25 : pg_cd 247 25 = (43, 12, 180, 18, 0) := by decide +kernel
theorem c_247_28 : pg_cd 247 28 = (36, 3, 0, 0, 10) := by decide +kernel
theorem c_247_31 : pg_cd 247 31 = (5, 1, 0, 0, 0) := by decide +kernel
theorem c_247_32 : pg_cd 247 32 = (80, 246, 219, 0, 0) := by decide +kernel
theorem c_247_35 : pg_cd 247 35 = (38, 3, 0, 0, 7) := by decide +kernel
theorem c_247_38 : pg_cd 247 38 = (5, 1, 0, 0, 0) := by decide +kernel
theorem c_247_39 : pg_cd 247 39 = (80, 243, 222, 0, 0) := by decide +kernel
theorem c_247_42 : pg_cd 247 42 = (6, 1, 0, 1, 0) := by decide +kernel
theorem c_247_43 : pg_cd 247 43 = (3, 1, 0, 1, 0) := by decide +kernel
theorem c_247_44 : pg_cd 247 44 = (36, 3, 0, 0, 5) := by decide +kernel
theorem c_247_47 : pg_cd 247 47 = (3, 1, 0, 1, 0) := by decide +kernel
theorem c_247_48 : pg_cd 247 48 = (90, 0, 0, 0, 0) := by decide +kernel
theorem c_247_49 : pg_cd 247 49 = (38, 3, 0, 0, (-39)) := by decide +kernel
theorem c_247_52 : pg_cd 247 52 = (5, 1, 0, 0, 0) := by decide +kernel
theorem c_247_53 : pg_cd 247 53 = (1, 1, 0, 0, 3) := by decide +kernel
theorem c_247_54 : pg_cd 247 54 = (80, 241, 213, 0, 0) := by decide +kernel
theorem c_247_57 : pg_cd 247 57 = (5, 1, 0, 0, 0) := by decide +kernel
theorem c_247_58 : pg_cd 247 58 = (43, 12, 177, 16, 0) := by decide +kernel
theorem c_247_61 : pg_cd 247 61 = (36, 3, 0, 5, 7) := by decide +kernel
theorem c_247_64 : pg_cd 247 64 = (1, 1, 0, 0, 1) := by decide +kernel
theorem c_247_65 : pg_cd 247 65 = (38, 3, 0, 0, 4) := by decide +kernel
theorem c_247_68 : pg_cd 247 68 = (1, 1, 0, 0, 0) := by decide +kernel
theorem c_247_69 : pg_cd 247 69 = (90, 0, 0, 0, 0) := by decide +kernel
theorem mx_247 : pg_mx 247 = 2 := by decide +kernel
theorem m_247 {d : Nat} {h : ab_H} {Q : Option Value → ab_H → Prop} {x0 : Nat} (t : wq d 247 0 [.ref x0, .retAddr 0] [] h Q) : wm d 247 [.ref x0] h Q := by
  unfold wm
  rw [mx_247]
  exact t
set_option maxRecDepth 20000 in
theorem t_247_0 {d : Nat} {h : ab_H} {Q : Option Value → ab_H → Prop} {x0 : Nat} (t : ab_ok h x0 112 = true ∧ ∀ h1 : ab_H, h1 = ab_pi h x0 16 0 → ab_ok h1 x0 112 = true ∧ ∀ h2 : ab_H, h2 = ab_pi h1 x0 18 0 → wq d 247 10 [.ref x0, .retAddr 0] [] h2 Q) : wq d 247 0 [.ref x0, .retAddr 0] [] h Q := by
  refine g5 c_247_0 rfl ?_
  refine g1 c_247_1 k_0 ?_
  obtain ⟨ho, t⟩ := t
  refine g46 c_247_2 ho (fun h1 eh1 => ?_)
  have t := t h1 eh1
  refine g5 c_247_5 rfl ?_
  refine g1 c_247_6 k_0 ?_
  obtain ⟨ho, t⟩ := t
  refine g47 c_247_7 ⟨ho, by decide⟩ (fun h2 eh2 => ?_)
  have t := t h2 eh2
  exact t
set_option maxRecDepth 20000 in
theorem t_247_10 {d : Nat} {h : ab_H} {Q : Option Value → ab_H → Prop} {x0 : Nat} (t : ab_ok h x0 112 = true ∧ if (ab_i h x0 18) = 0 then (ab_ok h x0 112 = true ∧ if (ab_i h x0 18) = 0 then (ab_ok h x0 112 = true ∧ wm d 243 [.ref x0] h (fun r9 h9 => wq (d + 1) 247 42 [.ref x0, .retAddr 0] (r9.toList ++ []) h9 Q)) else (ab_ok h x0 112 = true ∧ wm d 246 [.ref x0] h (fun r9 h9 => wq (d + 1) 247 35 [.ref x0, .retAddr 0] (r9.toList ++ []) h9 Q))) else (ab_ok h x0 112 = true ∧ wm d 245 [.ref x0] h (fun r9 h9 => wq (d + 1) 247 21 [.ref x0, .retAddr 0] (r9.toList ++ []) h9 Q))) : wq (d + 1) 247 10 [.ref x0, .retAddr 0] [] h Q := by
  refine g5 c_247_10 rfl ?_
  obtain ⟨ho, t⟩ := t
  refine g43 c_247_11 ho ?_
  refine gif c_247_14 (gbr t rfl rfl (fun hc t => ?_) (fun hc t => ?_))
  · refine g5 c_247_24 rfl ?_
    obtain ⟨ho, t⟩ := t
    refine g43 c_247_25 ho ?_
    refine gif c_247_28 (gbr t rfl rfl (fun hc t => ?_) (fun hc t => ?_))
    · refine g5 c_247_38 rfl ?_
      exact g80 (As := []) (rest := []) c_247_39 rfl rfl (Nat.le_of_ble_eq_true rfl) (Nat.le_of_ble_eq_true rfl) t.1 t.2
    · refine g5 c_247_31 rfl ?_
      exact g80 (As := []) (rest := []) c_247_32 rfl rfl (Nat.le_of_ble_eq_true rfl) (Nat.le_of_ble_eq_true rfl) t.1 t.2
  · refine g5 c_247_17 rfl ?_
    exact g80 (As := []) (rest := []) c_247_18 rfl rfl (Nat.le_of_ble_eq_true rfl) (Nat.le_of_ble_eq_true rfl) t.1 t.2
set_option maxRecDepth 20000 in
theorem t_247_21 {d : Nat} {h : ab_H} {Q : Option Value → ab_H → Prop} {x0 : Nat} {s0 : Int32} (t : if s0 = 0 then (ab_ok h x0 112 = true ∧ wm d 241 [.ref x0, .int 3] h (fun r9 h9 => wq (d + 1) 247 57 [.ref x0, .retAddr 0] (r9.toList ++ []) h9 Q)) else (ab_ok h x0 112 = true ∧ if (ab_i h x0 18) = 0 then (ab_ok h x0 112 = true ∧ wm d 243 [.ref x0] h (fun r9 h9 => wq (d + 1) 247 42 [.ref x0, .retAddr 0] (r9.toList ++ []) h9 Q)) else (ab_ok h x0 112 = true ∧ wm d 246 [.ref x0] h (fun r9 h9 => wq (d + 1) 247 35 [.ref x0, .retAddr 0] (r9.toList ++ []) h9 Q)))) : wq (d + 1) 247 21 [.ref x0, .retAddr 0] [.int s0] h Q := by
  refine gif c_247_21 (gbr t rfl rfl (fun hc t => ?_) (fun hc t => ?_))
  · refine g5 c_247_52 rfl ?_
    refine g1 c_247_53 k_3 ?_
    exact g80 (As := [.int 3]) (rest := []) c_247_54 rfl rfl (Nat.le_of_ble_eq_true rfl) (Nat.le_of_ble_eq_true rfl) t.1 t.2
  · refine g5 c_247_24 rfl ?_
    obtain ⟨ho, t⟩ := t
    refine g43 c_247_25 ho ?_
    refine gif c_247_28 (gbr t rfl rfl (fun hc t => ?_) (fun hc t => ?_))
    · refine g5 c_247_38 rfl ?_
      exact g80 (As := []) (rest := []) c_247_39 rfl rfl (Nat.le_of_ble_eq_true rfl) (Nat.le_of_ble_eq_true rfl) t.1 t.2
    · refine g5 c_247_31 rfl ?_
      exact g80 (As := []) (rest := []) c_247_32 rfl rfl (Nat.le_of_ble_eq_true rfl) (Nat.le_of_ble_eq_true rfl) t.1 t.2
set_option maxRecDepth 20000 in
theorem t_247_35 {d : Nat} {h : ab_H} {Q : Option Value → ab_H → Prop} {x0 : Nat} {s0 : Int32} (t : if s0 = 0 then (wq d 247 10 [.ref x0, .int s0] [] h Q) else (Q (some (.int s0)) h)) : wq d 247 35 [.ref x0, .retAddr 0] [.int s0] h Q := by
  refine g38 c_247_35 rfl ?_
  refine g6 (L' := [.ref x0, .int s0]) c_247_42 rfl ?_
  refine g3 c_247_43 rfl ?_
  refine gif c_247_44 (gbr t rfl rfl (fun hc t => ?_) (fun hc t => ?_))
  · refine g38 c_247_49 rfl ?_
    exact t
  · refine g3 c_247_47 rfl ?_
    exact g90 c_247_48 t
set_option maxRecDepth 20000 in
theorem t_247_42 {d : Nat} {h : ab_H} {Q : Option Value → ab_H → Prop} {x0 : Nat} {s0 : Int32} (t : if s0 = 0 then (wq d 247 10 [.ref x0, .int s0] [] h Q) else (Q (some (.int s0)) h)) : wq d 247 42 [.ref x0, .retAddr 0] [.int s0] h Q := by
  refine g6 (L' := [.ref x0, .int s0]) c_247_42 rfl ?_
  refine g3 c_247_43 rfl ?_
  refine gif c_247_44 (gbr t rfl rfl (fun hc t => ?_) (fun hc t => ?_))
  · refine g38 c_247_49 rfl ?_
    exact t
  · refine g3 c_247_47 rfl ?_
    exact g90 c_247_48 t
set_option maxRecDepth 20000 in
theorem t_247_57 {d : Nat} {h : ab_H} {Q : Option Value → ab_H → Prop} {x0 : Nat} (t : ab_ok h x0 112 = true ∧ if (ab_i h x0 16) ≤ 0 then (Q (some (.int 0)) h) else (Q (some (.int 1)) h)) : wq d 247 57 [.ref x0, .retAddr 0] [] h Q := by
  refine g5 c_247_57 rfl ?_
  obtain ⟨ho, t⟩ := t
  refine g43 c_247_58 ho ?_
  refine gif c_247_61 (gbr t rfl rfl (fun hc t => ?_) (fun hc t => ?_))
  · refine g1 c_247_68 k_0 ?_
    exact g90 c_247_69 t
  · refine g1 c_247_64 k_1 ?_
    refine g38 c_247_65 rfl ?_
    exact g90 c_247_69 t
-- method 248: MillTownModel.compareOf()I
theorem c_248_0 : pg_cd 248 0 = (5, 1, 0, 0, 0) := by decide +kernel
theorem c_248_1 : pg_cd 248 1 = (43, 12, 144, 9, 0) := by decide +kernel
theorem c_248_4 : pg_cd 248 4 = (1, 2, 0, 0, 60) := by decide +kernel
theorem c_248_6 : pg_cd 248 6 = (37, 3, 0, 1, 8) := by decide +kernel
theorem c_248_9 : pg_cd 248 9 = (1, 2, 0, 0, 10) := by decide +kernel
theorem c_248_11 : pg_cd 248 11 = (38, 3, 0, 0, 72) := by decide +kernel
theorem c_248_14 : pg_cd 248 14 = (5, 1, 0, 0, 0) := by decide +kernel
theorem c_248_15 : pg_cd 248 15 = (43, 12, 144, 9, 0) := by decide +kernel
theorem c_248_18 : pg_cd 248 18 = (1, 1, 0, 0, 4) := by decide +kernel
theorem c_248_19 : pg_cd 248 19 = (37, 3, 0, 1, 8) := by decide +kernel
theorem c_248_22 : pg_cd 248 22 = (1, 2, 0, 0, 11) := by decide +kernel
theorem c_248_24 : pg_cd 248 24 = (38, 3, 0, 0, 59) := by decide +kernel
theorem c_248_27 : pg_cd 248 27 = (5, 1, 0, 0, 0) := by decide +kernel
theorem c_248_28 : pg_cd 248 28 = (43, 12, 144, 9, 0) := by decide +kernel
theorem c_248_31 : pg_cd 248 31 = (1, 2, 0, 0, 62) := by decide +kernel
theorem c_248_33 : pg_cd 248 33 = (37, 3, 0, 1, 8) := by decide +kernel
theorem c_248_36 : pg_cd 248 36 = (1, 2, 0, 0, 12) := by decide +kernel
theorem c_248_38 : pg_cd 248 38 = (38, 3, 0, 0, 45) := by decide +kernel
theorem c_248_41 : pg_cd 248 41 = (5, 1, 0, 0, 0) := by decide +kernel
theorem c_248_42 : pg_cd 248 42 = (43, 12, 144, 9, 0) := by decide +kernel
theorem c_248_45 : pg_cd 248 45 = (1, 1, 0, 0, 5) := by decide +kernel
theorem c_248_46 : pg_cd 248 46 = (37, 3, 0, 1, 8) := by decide +kernel
theorem c_248_49 : pg_cd 248 49 = (1, 2, 0, 0, 13) := by decide +kernel
theorem c_248_51 : pg_cd 248 51 = (38, 3, 0, 0, 32) := by decide +kernel
theorem c_248_54 : pg_cd 248 54 = (5, 1, 0, 0, 0) := by decide +kernel
theorem c_248_55 : pg_cd 248 55 = (43, 12, 144, 9, 0) := by decide +kernel
theorem c_248_58 : pg_cd 248 58 = (1, 2, 0, 0, 61) := by decide +kernel
theorem c_248_60 : pg_cd 248 60 = (37, 3, 0, 1, 8) := by decide +kernel
theorem c_248_63 : pg_cd 248 63 = (1, 2, 0, 0, 14) := by decide +kernel
theorem c_248_65 : pg_cd 248 65 = (38, 3, 0, 0, 18) := by decide +kernel
theorem c_248_68 : pg_cd 248 68 = (5, 1, 0, 0, 0) := by decide +kernel
theorem c_248_69 : pg_cd 248 69 = (43, 12, 144, 9, 0) := by decide +kernel
theorem c_248_72 : pg_cd 248 72 = (1, 2, 0, 0, 35) := by decide +kernel
theorem c_248_74 : pg_cd 248 74 = (37, 3, 0, 1, 8) := by decide +kernel
theorem c_248_77 : pg_cd 248 77 = (1, 2, 0, 0, 15) := by decide +kernel
theorem c_248_79 : pg_cd 248 79 = (38, 3, 0, 0, 4) := by decide +kernel
theorem c_248_82 : pg_cd 248 82 = (1, 1, 0, 0, (-1)) := by decide +kernel
theorem c_248_83 : pg_cd 248 83 = (90, 0, 0, 0, 0) := by decide +kernel
theorem mx_248 : pg_mx 248 = 1 := by decide +kernel
theorem m_248 {d : Nat} {h : ab_H} {Q : Option Value → ab_H → Prop} {x0 : Nat} (t : wq d 248 0 [.ref x0] [] h Q) : wm d 248 [.ref x0] h Q := by
  unfold wm
  rw [mx_248]
  exact t
set_option maxRecDepth 20000 in
theorem t_248_0 {d : Nat} {h : ab_H} {Q : Option Value → ab_H → Prop} {x0 : Nat} (t : ab_ok h x0 112 = true ∧ if (ab_i h x0 9) = 60 then (Q (some (.int 10)) h) else (ab_ok h x0 112 = true ∧ if (ab_i h x0 9) = 4 then (Q (some (.int 11)) h) else (ab_ok h x0 112 = true ∧ if (ab_i h x0 9) = 62 then (Q (some (.int 12)) h) else (ab_ok h x0 112 = true ∧ if (ab_i h x0 9) = 5 then (Q (some (.int 13)) h) else (ab_ok h x0 112 = true ∧ if (ab_i h x0 9) = 61 then (Q (some (.int 14)) h) else (ab_ok h x0 112 = true ∧ if (ab_i h x0 9) = 35 then (Q (some (.int 15)) h) else (Q (some (.int (-1))) h))))))) : wq d 248 0 [.ref x0] [] h Q := by
  refine g5 c_248_0 rfl ?_
  obtain ⟨ho, t⟩ := t
  refine g43 c_248_1 ho ?_
  refine g1 c_248_4 k_60 ?_
  refine gcm c_248_6 (gbn t (ab_c1 _ _) rfl (fun hc t => ?_) (fun hc t => ?_))
  · refine g1 c_248_9 k_10 ?_
    refine g38 c_248_11 rfl ?_
    exact g90 c_248_83 t
  · refine g5 c_248_14 rfl ?_
    obtain ⟨ho, t⟩ := t
    refine g43 c_248_15 ho ?_
    refine g1 c_248_18 k_4 ?_
    refine gcm c_248_19 (gbn t (ab_c1 _ _) rfl (fun hc t => ?_) (fun hc t => ?_))
    · refine g1 c_248_22 k_11 ?_
      refine g38 c_248_24 rfl ?_
      exact g90 c_248_83 t
    · refine g5 c_248_27 rfl ?_
      obtain ⟨ho, t⟩ := t
      refine g43 c_248_28 ho ?_
      refine g1 c_248_31 k_62 ?_
      refine gcm c_248_33 (gbn t (ab_c1 _ _) rfl (fun hc t => ?_) (fun hc t => ?_))
      · refine g1 c_248_36 k_12 ?_
        refine g38 c_248_38 rfl ?_
        exact g90 c_248_83 t
      · refine g5 c_248_41 rfl ?_
        obtain ⟨ho, t⟩ := t
        refine g43 c_248_42 ho ?_
        refine g1 c_248_45 k_5 ?_
        refine gcm c_248_46 (gbn t (ab_c1 _ _) rfl (fun hc t => ?_) (fun hc t => ?_))
        · refine g1 c_248_49 k_13 ?_
          refine g38 c_248_51 rfl ?_
          exact g90 c_248_83 t
        · refine g5 c_248_54 rfl ?_
          obtain ⟨ho, t⟩ := t
          refine g43 c_248_55 ho ?_
          refine g1 c_248_58 k_61 ?_
          refine gcm c_248_60 (gbn t (ab_c1 _ _) rfl (fun hc t => ?_) (fun hc t => ?_))
          · refine g1 c_248_63 k_14 ?_
            refine g38 c_248_65 rfl ?_
            exact g90 c_248_83 t
          · refine g5 c_248_68 rfl ?_
            obtain ⟨ho, t⟩ := t
            refine g43 c_248_69 ho ?_
            refine g1 c_248_72 k_35 ?_
            refine gcm c_248_74 (gbn t (ab_c1 _ _) rfl (fun hc t => ?_) (fun hc t => ?_))
            · refine g1 c_248_77 k_15 ?_
              refine g38 c_248_79 rfl ?_
              exact g90 c_248_83 t
            · refine g1 c_248_82 k_m1 ?_
              exact g90 c_248_83 t
-- method 249: MillTownModel.ask()I
theorem c_249_0 : pg_cd 249 0 = (1, 1, 0, 0, 0) := by decide +kernel
theorem c_249_1 : pg_cd 249 1 = (6, 1, 0, 1, 0) := by decide +kernel
theorem c_249_2 : pg_cd 249 2 = (5, 1, 0, 0, 0) := by decide +kernel
theorem c_249_3 : pg_cd 249 3 = (1, 2, 0, 0, 110) := by decide +kernel
theorem c_249_5 : pg_cd 249 5 = (1, 2, 0, 0, 111) := by decide +kernel
theorem c_249_7 : pg_cd 249 7 = (1, 2, 0, 0, 116) := by decide +kernel
theorem c_249_9 : pg_cd 249 9 = (81, 232, 160, 0, 0) := by decide +kernel
theorem c_249_12 : pg_cd 249 12 = (80, 235, 164, 0, 0) := by decide +kernel
theorem c_249_15 : pg_cd 249 15 = (36, 3, 0, 0, 34) := by decide +kernel
theorem c_249_18 : pg_cd 249 18 = (5, 1, 0, 0, 0) := by decide +kernel
theorem c_249_19 : pg_cd 249 19 = (43, 12, 184, 17, 0) := by decide +kernel
theorem c_249_22 : pg_cd 249 22 = (1, 2, 0, 0, 8) := by decide +kernel
theorem c_249_24 : pg_cd 249 24 = (37, 3, 0, 1, 5) := by decide +kernel
theorem c_249_27 : pg_cd 249 27 = (1, 1, 0, 0, 3) := by decide +kernel
theorem c_249_28 : pg_cd 249 28 = (90, 0, 0, 0, 0) := by decide +kernel
theorem c_249_29 : pg_cd 249 29 = (5, 1, 0, 0, 0) := by decide +kernel
theorem c_249_30 : pg_cd 249 30 = (33, 1, 0, 0, 0) := by decide +kernel
theorem c_249_31 : pg_cd 249 31 = (43, 12, 184, 17, 0) := by decide +kernel
theorem c_249_34 : pg_cd 249 34 = (1, 1, 0, 0, 1) := by decide +kernel
theorem c_249_35 : pg_cd 249 35 = (10, 1, 0, 0, 0) := by decide +kernel
theorem c_249_36 : pg_cd 249 36 = (46, 12, 184, 17, 0) := by decide +kernel
theorem c_249_39 : pg_cd 249 39 = (9, 3, 0, 1, 1) := by decide +kernel
theorem c_249_42 : pg_cd 249 42 = (5, 1, 0, 0, 0) := by decide +kernel
theorem c_249_43 : pg_cd 249 43 = (80, 231, 168, 0, 0) := by decide +kernel
theorem c_249_46 : pg_cd 249 46 = (38, 3, 0, 0, (-44)) := by decide +kernel
theorem c_249_49 : pg_cd 249 49 = (5, 1, 0, 0, 0) := by decide +kernel
theorem c_249_50 : pg_cd 249 50 = (80, 247, 225, 0, 0) := by decide +kernel
theorem c_249_53 : pg_cd 249 53 = (6, 1, 0, 2, 0) := by decide +kernel
theorem c_249_54 : pg_cd 249 54 = (3, 1, 0, 2, 0) := by decide +kernel
theorem c_249_55 : pg_cd 249 55 = (36, 3, 0, 0, 5) := by decide +kernel
theorem c_249_58 : pg_cd 249 58 = (3, 1, 0, 2, 0) := by decide +kernel
theorem c_249_59 : pg_cd 249 59 = (90, 0, 0, 0, 0) := by decide +kernel
theorem c_249_60 : pg_cd 249 60 = (5, 1, 0, 0, 0) := by decide +kernel
theorem c_249_61 : pg_cd 249 61 = (80, 248, 228, 0, 0) := by decide +kernel
theorem c_249_64 : pg_cd 249 64 = (6, 1, 0, 3, 0) := by decide +kernel
theorem c_249_65 : pg_cd 249 65 = (3, 1, 0, 3, 0) := by decide +kernel
theorem c_249_66 : pg_cd 249 66 = (36, 3, 0, 3, 5) := by decide +kernel
theorem c_249_69 : pg_cd 249 69 = (1, 1, 0, 0, 1) := by decide +kernel
theorem c_249_70 : pg_cd 249 70 = (90, 0, 0, 0, 0) := by decide +kernel
theorem c_249_71 : pg_cd 249 71 = (5, 1, 0, 0, 0) := by decide +kernel
theorem c_249_72 : pg_cd 249 72 = (80, 231, 168, 0, 0) := by decide +kernel
theorem c_249_75 : pg_cd 249 75 = (5, 1, 0, 0, 0) := by decide +kernel
theorem c_249_76 : pg_cd 249 76 = (80, 247, 225, 0, 0) := by decide +kernel
theorem c_249_79 : pg_cd 249 79 = (6, 1, 0, 2, 0) := by decide +kernel
theorem c_249_80 : pg_cd 249 80 = (3, 1, 0, 2, 0) := by decide +kernel
theorem c_249_81 : pg_cd 249 81 = (36, 3, 0, 0, 5) := by decide +kernel
theorem c_249_84 : pg_cd 249 84 = (3, 1, 0, 2, 0) := by decide +kernel
theorem c_249_85 : pg_cd 249 85 = (90, 0, 0, 0, 0) := by decide +kernel
theorem c_249_86 : pg_cd 249 86 = (5, 1, 0, 0, 0) := by decide +kernel
theorem c_249_87 : pg_cd 249 87 = (3, 1, 0, 3, 0) := by decide +kernel
theorem c_249_88 : pg_cd 249 88 = (1, 1, 0, 0, 0) := by decide +kernel
theorem c_249_89 : pg_cd 249 89 = (80, 238, 187, 0, 0) := by decide +kernel
theorem c_249_92 : pg_cd 249 92 = (5, 1, 0, 0, 0) := by decide +kernel
theorem c_249_93 : pg_cd 249 93 = (33, 1, 0, 0, 0) := by decide +kernel
theorem c_249_94 : pg_cd 249 94 = (43, 12, 184, 17, 0) := by decide +kernel
theorem c_249_97 : pg_cd 249 97 = (3, 1, 0, 1, 0) := by decide +kernel
theorem c_249_98 : pg_cd 249 98 = (11, 1, 0, 0, 0) := by decide +kernel
theorem c_249_99 : pg_cd 249 99 = (46, 12, 184, 17, 0) := by decide +kernel
theorem c_249_102 : pg_cd 249 102 = (1, 1, 0, 0, 0) := by decide +kernel
theorem c_249_103 : pg_cd 249 103 = (6, 2, 0, 4, 0) := by decide +kernel
theorem c_249_105 : pg_cd 249 105 = (3, 2, 0, 4, 0) := by decide +kernel
theorem c_249_107 : pg_cd 249 107 = (3, 1, 0, 1, 0) := by decide +kernel
theorem c_249_108 : pg_cd 249 108 = (37, 3, 0, 3, 16) := by decide +kernel
theorem c_249_111 : pg_cd 249 111 = (5, 1, 0, 0, 0) := by decide +kernel
theorem c_249_112 : pg_cd 249 112 = (1, 2, 0, 0, 20) := by decide +kernel
theorem c_249_114 : pg_cd 249 114 = (1, 1, 0, 0, 0) := by decide +kernel
theorem c_249_115 : pg_cd 249 115 = (80, 238, 187, 0, 0) := by decide +kernel
theorem c_249_118 : pg_cd 249 118 = (9, 3, 0, 4, 1) := by decide +kernel
theorem c_249_121 : pg_cd 249 121 = (38, 3, 0, 0, (-16)) := by decide +kernel
theorem c_249_124 : pg_cd 249 124 = (1, 1, 0, 0, 0) := by decide +kernel
theorem c_249_125 : pg_cd 249 125 = (90, 0, 0, 0, 0) := by decide +kernel
theorem mx_249 : pg_mx 249 = 5 := by decide +kernel
theorem m_249 {d : Nat} {h : ab_H} {Q : Option Value → ab_H → Prop} {x0 : Nat} (t : wq d 249 0 [.ref x0, .retAddr 0, .retAddr 0, .retAddr 0, .retAddr 0] [] h Q) : wm d 249 [.ref x0] h Q := by
  unfold wm
  rw [mx_249]
  exact t
set_option maxRecDepth 20000 in
theorem t_249_0 {d : Nat} {h : ab_H} {Q : Option Value → ab_H → Prop} {x0 : Nat} (t : wq d 249 2 [.ref x0, .int 0, .retAddr 0, .retAddr 0, .retAddr 0] [] h Q) : wq d 249 0 [.ref x0, .retAddr 0, .retAddr 0, .retAddr 0, .retAddr 0] [] h Q := by
  refine g1 c_249_0 k_0 ?_
  refine g6 (L' := [.ref x0, .int 0, .retAddr 0, .retAddr 0, .retAddr 0]) c_249_1 rfl ?_
  exact t
set_option maxRecDepth 20000 in
theorem t_249_2 {d : Nat} {h : ab_H} {Q : Option Value → ab_H → Prop} {x0 : Nat} {x1 : Int32} (t : wm d 232 [.int 110, .int 111, .int 116] h (fun r9 h9 => wq (d + 1) 249 12 [.ref x0, .int x1, .retAddr 0, .retAddr 0, .retAddr 0] (r9.toList ++ [.ref x0]) h9 Q)) : wq (d + 1) 249 2 [.ref x0, .int x1, .retAddr 0, .retAddr 0, .retAddr 0] [] h Q := by
  refine g5 c_249_2 rfl ?_
  refine g1 c_249_3 k_110 ?_
  refine g1 c_249_5 k_111 ?_
  refine g1 c_249_7 k_116 ?_
  exact g81 (As := [.int 110, .int 111, .int 116]) (rest := [.ref x0]) c_249_9 rfl rfl (Nat.le_of_ble_eq_true rfl) (Nat.le_of_ble_eq_true rfl) t
set_option maxRecDepth 20000 in
theorem t_249_12 {d : Nat} {h : ab_H} {Q : Option Value → ab_H → Prop} {x0 : Nat} {x1 : Int32} {s0 : Nat} {s1 : Int64} (t : ab_ok h s0 112 = true ∧ wm d 235 [.ref s0, .long s1] h (fun r9 h9 => wq (d + 1) 249 15 [.ref x0, .int x1, .retAddr 0, .retAddr 0, .retAddr 0] (r9.toList ++ []) h9 Q)) : wq (d + 1) 249 12 [.ref x0, .int x1, .retAddr 0, .retAddr 0, .retAddr 0] [.long s1, .ref s0] h Q := by
  exact g80 (As := [.long s1]) (rest := []) c_249_12 rfl rfl (Nat.le_of_ble_eq_true rfl) (Nat.le_of_ble_eq_true rfl) t.1 t.2
set_option maxRecDepth 20000 in
theorem t_249_15 {d : Nat} {h : ab_H} {Q : Option Value → ab_H → Prop} {x0 : Nat} {x1 : Int32} {s0 : Int32} (t : if s0 = 0 then (ab_ok h x0 112 = true ∧ wm d 247 [.ref x0] h (fun r9 h9 => wq (d + 1) 249 53 [.ref x0, .int x1, .retAddr 0, .retAddr 0, .retAddr 0] (r9.toList ++ []) h9 Q)) else (ab_ok h x0 112 = true ∧ if (ab_i h x0 17) = 8 then (Q (some (.int 3)) h) else (ab_ok h x0 112 = true ∧ ab_ok h x0 112 = true ∧ ∀ h1 : ab_H, h1 = ab_pi h x0 17 ((ab_i h x0 17) + 1) → ab_ok h1 x0 112 = true ∧ wm d 231 [.ref x0] h1 (fun r9 h9 => wq (d + 1) 249 46 [.ref x0, .int (x1 + 1), .retAddr 0, .retAddr 0, .retAddr 0] (r9.toList ++ []) h9 Q)))) : wq (d + 1) 249 15 [.ref x0, .int x1, .retAddr 0, .retAddr 0, .retAddr 0] [.int s0] h Q := by
  refine gif c_249_15 (gbr t rfl rfl (fun hc t => ?_) (fun hc t => ?_))
  · refine g5 c_249_49 rfl ?_
    exact g80 (As := []) (rest := []) c_249_50 rfl rfl (Nat.le_of_ble_eq_true rfl) (Nat.le_of_ble_eq_true rfl) t.1 t.2
  · refine g5 c_249_18 rfl ?_
    obtain ⟨ho, t⟩ := t
    refine g43 c_249_19 ho ?_
    refine g1 c_249_22 k_8 ?_
    refine gcm c_249_24 (gbn t (ab_c1 _ _) rfl (fun hc t => ?_) (fun hc t => ?_))
    · refine g1 c_249_27 k_3 ?_
      exact g90 c_249_28 t
    · refine g5 c_249_29 rfl ?_
      refine g33a c_249_30 ?_
      obtain ⟨ho, t⟩ := t
      refine g43 c_249_31 ho ?_
      refine g1 c_249_34 k_1 ?_
      refine g10 c_249_35 ?_
      obtain ⟨ho, t⟩ := t
      refine g46 c_249_36 ho (fun h1 eh1 => ?_)
      have t := t h1 eh1
      refine g9 (L' := [.ref x0, .int (x1 + 1), .retAddr 0, .retAddr 0, .retAddr 0]) c_249_39 rfl k_1 rfl ?_
      refine g5 c_249_42 rfl ?_
      exact g80 (As := []) (rest := []) c_249_43 rfl rfl (Nat.le_of_ble_eq_true rfl) (Nat.le_of_ble_eq_true rfl) t.1 t.2
set_option maxRecDepth 20000 in
theorem t_249_46 {d : Nat} {h : ab_H} {Q : Option Value → ab_H → Prop} {x0 : Nat} {x1 : Int32} (t : wq d 249 2 [.ref x0, .int x1, .retAddr 0, .retAddr 0, .retAddr 0] [] h Q) : wq d 249 46 [.ref x0, .int x1, .retAddr 0, .retAddr 0, .retAddr 0] [] h Q := by
  refine g38 c_249_46 rfl ?_
  exact t
set_option maxRecDepth 20000 in
theorem t_249_53 {d : Nat} {h : ab_H} {Q : Option Value → ab_H → Prop} {x0 : Nat} {x1 : Int32} {s0 : Int32} (t : if s0 = 0 then (ab_ok h x0 112 = true ∧ wm d 248 [.ref x0] h (fun r9 h9 => wq (d + 1) 249 64 [.ref x0, .int x1, .int s0, .retAddr 0, .retAddr 0] (r9.toList ++ []) h9 Q)) else (Q (some (.int s0)) h)) : wq (d + 1) 249 53 [.ref x0, .int x1, .retAddr 0, .retAddr 0, .retAddr 0] [.int s0] h Q := by
  refine g6 (L' := [.ref x0, .int x1, .int s0, .retAddr 0, .retAddr 0]) c_249_53 rfl ?_
  refine g3 c_249_54 rfl ?_
  refine gif c_249_55 (gbr t rfl rfl (fun hc t => ?_) (fun hc t => ?_))
  · refine g5 c_249_60 rfl ?_
    exact g80 (As := []) (rest := []) c_249_61 rfl rfl (Nat.le_of_ble_eq_true rfl) (Nat.le_of_ble_eq_true rfl) t.1 t.2
  · refine g3 c_249_58 rfl ?_
    exact g90 c_249_59 t
set_option maxRecDepth 20000 in
theorem t_249_64 {d : Nat} {h : ab_H} {Q : Option Value → ab_H → Prop} {x0 : Nat} {x1 : Int32} {x2 : Int32} {s0 : Int32} (t : if 0 ≤ s0 then (ab_ok h x0 112 = true ∧ wm d 231 [.ref x0] h (fun r9 h9 => wq (d + 1) 249 75 [.ref x0, .int x1, .int x2, .int s0, .retAddr 0] (r9.toList ++ []) h9 Q)) else (Q (some (.int 1)) h)) : wq (d + 1) 249 64 [.ref x0, .int x1, .int x2, .retAddr 0, .retAddr 0] [.int s0] h Q := by
  refine g6 (L' := [.ref x0, .int x1, .int x2, .int s0, .retAddr 0]) c_249_64 rfl ?_
  refine g3 c_249_65 rfl ?_
  refine gif c_249_66 (gbr t rfl rfl (fun hc t => ?_) (fun hc t => ?_))
  · refine g5 c_249_71 rfl ?_
    exact g80 (As := []) (rest := []) c_249_72 rfl rfl (Nat.le_of_ble_eq_true rfl) (Nat.le_of_ble_eq_true rfl) t.1 t.2
  · refine g1 c_249_69 k_1 ?_
    exact g90 c_249_70 t
set_option maxRecDepth 20000 in
theorem t_249_75 {d : Nat} {h : ab_H} {Q : Option Value → ab_H → Prop} {x0 : Nat} {x1 : Int32} {x2 : Int32} {x3 : Int32} (t : ab_ok h x0 112 = true ∧ wm d 247 [.ref x0] h (fun r9 h9 => wq (d + 1) 249 79 [.ref x0, .int x1, .int x2, .int x3, .retAddr 0] (r9.toList ++ []) h9 Q)) : wq (d + 1) 249 75 [.ref x0, .int x1, .int x2, .int x3, .retAddr 0] [] h Q := by
  refine g5 c_249_75 rfl ?_
  exact g80 (As := []) (rest := []) c_249_76 rfl rfl (Nat.le_of_ble_eq_true rfl) (Nat.le_of_ble_eq_true rfl) t.1 t.2
set_option maxRecDepth 20000 in
theorem t_249_79 {d : Nat} {h : ab_H} {Q : Option Value → ab_H → Prop} {x0 : Nat} {x1 : Int32} {x2 : Int32} {x3 : Int32} {s0 : Int32} (t : if s0 = 0 then (ab_ok h x0 112 = true ∧ wm d 238 [.ref x0, .int x3, .int 0] h (fun r9 h9 => wq (d + 1) 249 92 [.ref x0, .int x1, .int s0, .int x3, .retAddr 0] (r9.toList ++ []) h9 Q)) else (Q (some (.int s0)) h)) : wq (d + 1) 249 79 [.ref x0, .int x1, .int x2, .int x3, .retAddr 0] [.int s0] h Q := by
  refine g6 (L' := [.ref x0, .int x1, .int s0, .int x3, .retAddr 0]) c_249_79 rfl ?_
  refine g3 c_249_80 rfl ?_
  refine gif c_249_81 (gbr t rfl rfl (fun hc t => ?_) (fun hc t => ?_))
  · refine g5 c_249_86 rfl ?_
    refine g3 c_249_87 rfl ?_
    refine g1 c_249_88 k_0 ?_
    exact g80 (As := [.int x3, .int 0]) (rest := []) c_249_89 rfl rfl (Nat.le_of_ble_eq_true rfl) (Nat.le_of_ble_eq_true rfl) t.1 t.2
  · refine g3 c_249_84 rfl ?_
    exact g90 c_249_85 t
set_option maxRecDepth 20000 in
theorem t_249_92 {d : Nat} {h : ab_H} {Q : Option Value → ab_H → Prop} {x0 : Nat} {x1 : Int32} {x2 : Int32} {x3 : Int32} (t : ab_ok h x0 112 = true ∧ ab_ok h x0 112 = true ∧ ∀ h1 : ab_H, h1 = ab_pi h x0 17 ((ab_i h x0 17) - x1) → wq d 249 105 [.ref x0, .int x1, .int x2, .int x3, .int 0] [] h1 Q) : wq d 249 92 [.ref x0, .int x1, .int x2, .int x3, .retAddr 0] [] h Q := by
  refine g5 c_249_92 rfl ?_
  refine g33a c_249_93 ?_
  obtain ⟨ho, t⟩ := t
  refine g43 c_249_94 ho ?_
  refine g3 c_249_97 rfl ?_
  refine g11 c_249_98 ?_
  obtain ⟨ho, t⟩ := t
  refine g46 c_249_99 ho (fun h1 eh1 => ?_)
  have t := t h1 eh1
  refine g1 c_249_102 k_0 ?_
  refine g6 (L' := [.ref x0, .int x1, .int x2, .int x3, .int 0]) c_249_103 rfl ?_
  exact t
set_option maxRecDepth 20000 in
theorem t_249_105 {d : Nat} {h : ab_H} {Q : Option Value → ab_H → Prop} {x0 : Nat} {x1 : Int32} {x2 : Int32} {x3 : Int32} {x4 : Int32} (t : if x1 ≤ x4 then (Q (some (.int 0)) h) else (ab_ok h x0 112 = true ∧ wm d 238 [.ref x0, .int 20, .int 0] h (fun r9 h9 => wq (d + 1) 249 118 [.ref x0, .int x1, .int x2, .int x3, .int x4] (r9.toList ++ []) h9 Q))) : wq (d + 1) 249 105 [.ref x0, .int x1, .int x2, .int x3, .int x4] [] h Q := by
  refine g3 c_249_105 rfl ?_
  refine g3 c_249_107 rfl ?_
  refine gcm c_249_108 (gbr t rfl rfl (fun hc t => ?_) (fun hc t => ?_))
  · refine g1 c_249_124 k_0 ?_
    exact g90 c_249_125 t
  · refine g5 c_249_111 rfl ?_
    refine g1 c_249_112 k_20 ?_
    refine g1 c_249_114 k_0 ?_
    exact g80 (As := [.int 20, .int 0]) (rest := []) c_249_115 rfl rfl (Nat.le_of_ble_eq_true rfl) (Nat.le_of_ble_eq_true rfl) t.1 t.2
set_option maxRecDepth 20000 in
theorem t_249_118 {d : Nat} {h : ab_H} {Q : Option Value → ab_H → Prop} {x0 : Nat} {x1 : Int32} {x2 : Int32} {x3 : Int32} {x4 : Int32} (t : wq d 249 105 [.ref x0, .int x1, .int x2, .int x3, .int (x4 + 1)] [] h Q) : wq d 249 118 [.ref x0, .int x1, .int x2, .int x3, .int x4] [] h Q := by
  refine g9 (L' := [.ref x0, .int x1, .int x2, .int x3, .int (x4 + 1)]) c_249_118 rfl k_1 rfl ?_
  refine g38 c_249_121 rfl ?_
  exact t
-- method 250: MillTownModel.either()I
theorem c_250_0 : pg_cd 250 0 = (1, 1, 0, 0, 0) := by decide +kernel
theorem c_250_1 : pg_cd 250 1 = (6, 1, 0, 1, 0) := by decide +kernel
theorem c_250_2 : pg_cd 250 2 = (1, 1, 0, 0, 0) := by decide +kernel
theorem c_250_3 : pg_cd 250 3 = (6, 1, 0, 2, 0) := by decide +kernel
theorem c_250_4 : pg_cd 250 4 = (1, 1, 0, 0, 1) := by decide +kernel
theorem c_250_5 : pg_cd 250 5 = (6, 1, 0, 3, 0) := by decide +kernel
theorem c_250_6 : pg_cd 250 6 = (3, 1, 0, 3, 0) := by decide +kernel
theorem c_250_7 : pg_cd 250 7 = (36, 3, 0, 0, 112) := by decide +kernel
theorem c_250_10 : pg_cd 250 10 = (5, 1, 0, 0, 0) := by decide +kernel
theorem c_250_11 : pg_cd 250 11 = (80, 249, 231, 0, 0) := by decide +kernel
theorem c_250_14 : pg_cd 250 14 = (6, 2, 0, 4, 0) := by decide +kernel
theorem c_250_16 : pg_cd 250 16 = (3, 2, 0, 4, 0) := by decide +kernel
theorem c_250_18 : pg_cd 250 18 = (36, 3, 0, 0, 6) := by decide +kernel
theorem c_250_21 : pg_cd 250 21 = (3, 2, 0, 4, 0) := by decide +kernel
theorem c_250_23 : pg_cd 250 23 = (90, 0, 0, 0, 0) := by decide +kernel
theorem c_250_24 : pg_cd 250 24 = (3, 1, 0, 1, 0) := by decide +kernel
theorem c_250_25 : pg_cd 250 25 = (36, 3, 0, 0, 10) := by decide +kernel
theorem c_250_28 : pg_cd 250 28 = (5, 1, 0, 0, 0) := by decide +kernel
theorem c_250_29 : pg_cd 250 29 = (1, 2, 0, 0, 21) := by decide +kernel
theorem c_250_31 : pg_cd 250 31 = (1, 1, 0, 0, 0) := by decide +kernel
theorem c_250_32 : pg_cd 250 32 = (80, 238, 187, 0, 0) := by decide +kernel
theorem c_250_35 : pg_cd 250 35 = (5, 1, 0, 0, 0) := by decide +kernel
theorem c_250_36 : pg_cd 250 36 = (1, 2, 0, 0, 97) := by decide +kernel
theorem c_250_38 : pg_cd 250 38 = (1, 2, 0, 0, 110) := by decide +kernel
theorem c_250_40 : pg_cd 250 40 = (1, 2, 0, 0, 100) := by decide +kernel
theorem c_250_42 : pg_cd 250 42 = (81, 232, 160, 0, 0) := by decide +kernel
theorem c_250_45 : pg_cd 250 45 = (80, 235, 164, 0, 0) := by decide +kernel
theorem c_250_48 : pg_cd 250 48 = (6, 1, 0, 1, 0) := by decide +kernel
theorem c_250_49 : pg_cd 250 49 = (5, 1, 0, 0, 0) := by decide +kernel
theorem c_250_50 : pg_cd 250 50 = (43, 12, 144, 9, 0) := by decide +kernel
theorem c_250_53 : pg_cd 250 53 = (1, 1, 0, 0, 2) := by decide +kernel
theorem c_250_54 : pg_cd 250 54 = (37, 3, 0, 1, 18) := by decide +kernel
theorem c_250_57 : pg_cd 250 57 = (5, 1, 0, 0, 0) := by decide +kernel
theorem c_250_58 : pg_cd 250 58 = (44, 12, 156, 11, 0) := by decide +kernel
theorem c_250_61 : pg_cd 250 61 = (2, 3, 234, 0, 28530) := by decide +kernel
theorem c_250_64 : pg_cd 250 64 = (28, 1, 0, 0, 0) := by decide +kernel
theorem c_250_65 : pg_cd 250 65 = (36, 3, 0, 1, 7) := by decide +kernel
theorem c_250_68 : pg_cd 250 68 = (1, 1, 0, 0, 1) := by decide +kernel
theorem c_250_69 : pg_cd 250 69 = (38, 3, 0, 0, 4) := by decide +kernel
theorem c_250_72 : pg_cd 250 72 = (1, 1, 0, 0, 0) := by decide +kernel
theorem c_250_73 : pg_cd 250 73 = (6, 2, 0, 5, 0) := by decide +kernel
theorem c_250_75 : pg_cd 250 75 = (3, 1, 0, 1, 0) := by decide +kernel
theorem c_250_76 : pg_cd 250 76 = (36, 3, 0, 1, 17) := by decide +kernel
theorem c_250_79 : pg_cd 250 79 = (3, 1, 0, 2, 0) := by decide +kernel
theorem c_250_80 : pg_cd 250 80 = (36, 3, 0, 0, 10) := by decide +kernel
theorem c_250_83 : pg_cd 250 83 = (5, 1, 0, 0, 0) := by decide +kernel
theorem c_250_84 : pg_cd 250 84 = (1, 2, 0, 0, 22) := by decide +kernel
theorem c_250_86 : pg_cd 250 86 = (1, 1, 0, 0, 0) := by decide +kernel
theorem c_250_87 : pg_cd 250 87 = (80, 238, 187, 0, 0) := by decide +kernel
theorem c_250_90 : pg_cd 250 90 = (3, 2, 0, 5, 0) := by decide +kernel
theorem c_250_92 : pg_cd 250 92 = (6, 1, 0, 2, 0) := by decide +kernel
theorem c_250_93 : pg_cd 250 93 = (3, 1, 0, 1, 0) := by decide +kernel
theorem c_250_94 : pg_cd 250 94 = (36, 3, 0, 1, 8) := by decide +kernel
theorem c_250_97 : pg_cd 250 97 = (3, 2, 0, 5, 0) := by decide +kernel
theorem c_250_99 : pg_cd 250 99 = (36, 3, 0, 0, 7) := by decide +kernel
theorem c_250_102 : pg_cd 250 102 = (1, 1, 0, 0, 1) := by decide +kernel
theorem c_250_103 : pg_cd 250 103 = (38, 3, 0, 0, 4) := by decide +kernel
theorem c_250_106 : pg_cd 250 106 = (1, 1, 0, 0, 0) := by decide +kernel
theorem c_250_107 : pg_cd 250 107 = (6, 1, 0, 3, 0) := by decide +kernel
theorem c_250_108 : pg_cd 250 108 = (3, 1, 0, 3, 0) := by decide +kernel
theorem c_250_109 : pg_cd 250 109 = (36, 3, 0, 0, 7) := by decide +kernel
theorem c_250_112 : pg_cd 250 112 = (5, 1, 0, 0, 0) := by decide +kernel
theorem c_250_113 : pg_cd 250 113 = (80, 231, 168, 0, 0) := by decide +kernel
theorem c_250_116 : pg_cd 250 116 = (38, 3, 0, 0, (-110)) := by decide +kernel
theorem c_250_119 : pg_cd 250 119 = (1, 1, 0, 0, 0) := by decide +kernel
theorem c_250_120 : pg_cd 250 120 = (90, 0, 0, 0, 0) := by decide +kernel
theorem mx_250 : pg_mx 250 = 6 := by decide +kernel
theorem m_250 {d : Nat} {h : ab_H} {Q : Option Value → ab_H → Prop} {x0 : Nat} (t : wq d 250 0 [.ref x0, .retAddr 0, .retAddr 0, .retAddr 0, .retAddr 0, .retAddr 0] [] h Q) : wm d 250 [.ref x0] h Q := by
  unfold wm
  rw [mx_250]
  exact t
set_option maxRecDepth 20000 in
theorem t_250_0 {d : Nat} {h : ab_H} {Q : Option Value → ab_H → Prop} {x0 : Nat} (t : wq d 250 6 [.ref x0, .int 0, .int 0, .int 1, .retAddr 0, .retAddr 0] [] h Q) : wq d 250 0 [.ref x0, .retAddr 0, .retAddr 0, .retAddr 0, .retAddr 0, .retAddr 0] [] h Q := by
  refine g1 c_250_0 k_0 ?_
  refine g6 (L' := [.ref x0, .int 0, .retAddr 0, .retAddr 0, .retAddr 0, .retAddr 0]) c_250_1 rfl ?_
  refine g1 c_250_2 k_0 ?_
  refine g6 (L' := [.ref x0, .int 0, .int 0, .retAddr 0, .retAddr 0, .retAddr 0]) c_250_3 rfl ?_
  refine g1 c_250_4 k_1 ?_
  refine g6 (L' := [.ref x0, .int 0, .int 0, .int 1, .retAddr 0, .retAddr 0]) c_250_5 rfl ?_
  exact t
set_option maxRecDepth 20000 in
theorem t_250_6 {d : Nat} {h : ab_H} {Q : Option Value → ab_H → Prop} {x0 : Nat} {x1 : Int32} {x2 : Int32} {x3 : Int32} (t : if x3 = 0 then (Q (some (.int 0)) h) else (ab_ok h x0 112 = true ∧ wm d 249 [.ref x0] h (fun r9 h9 => wq (d + 1) 250 14 [.ref x0, .int x1, .int x2, .int x3, .retAddr 0, .retAddr 0] (r9.toList ++ []) h9 Q))) : wq (d + 1) 250 6 [.ref x0, .int x1, .int x2, .int x3, .retAddr 0, .retAddr 0] [] h Q := by
  refine g3 c_250_6 rfl ?_
  refine gif c_250_7 (gbr t rfl rfl (fun hc t => ?_) (fun hc t => ?_))
  · refine g1 c_250_119 k_0 ?_
    exact g90 c_250_120 t
  · refine g5 c_250_10 rfl ?_
    exact g80 (As := []) (rest := []) c_250_11 rfl rfl (Nat.le_of_ble_eq_true rfl) (Nat.le_of_ble_eq_true rfl) t.1 t.2
set_option maxRecDepth 20000 in
theorem t_250_14 {d : Nat} {h : ab_H} {Q : Option Value → ab_H → Prop} {x0 : Nat} {x1 : Int32} {x2 : Int32} {x3 : Int32} {s0 : Int32} (t : if s0 = 0 then (if x1 = 0 then (wm d 232 [.int 97, .int 110, .int 100] h (fun r9 h9 => wq (d + 1) 250 45 [.ref x0, .int x1, .int x2, .int x3, .int s0, .retAddr 0] (r9.toList ++ [.ref x0]) h9 Q)) else (ab_ok h x0 112 = true ∧ wm d 238 [.ref x0, .int 21, .int 0] h (fun r9 h9 => wq (d + 1) 250 35 [.ref x0, .int x1, .int x2, .int x3, .int s0, .retAddr 0] (r9.toList ++ []) h9 Q))) else (Q (some (.int s0)) h)) : wq (d + 1) 250 14 [.ref x0, .int x1, .int x2, .int x3, .retAddr 0, .retAddr 0] [.int s0] h Q := by
  refine g6 (L' := [.ref x0, .int x1, .int x2, .int x3, .int s0, .retAddr 0]) c_250_14 rfl ?_
  refine g3 c_250_16 rfl ?_
  refine gif c_250_18 (gbr t rfl rfl (fun hc t => ?_) (fun hc t => ?_))
  · refine g3 c_250_24 rfl ?_
    refine gif c_250_25 (gbr t rfl rfl (fun hc t => ?_) (fun hc t => ?_))
    · refine g5 c_250_35 rfl ?_
      refine g1 c_250_36 k_97 ?_
      refine g1 c_250_38 k_110 ?_
      refine g1 c_250_40 k_100 ?_
      exact g81 (As := [.int 97, .int 110, .int 100]) (rest := [.ref x0]) c_250_42 rfl rfl (Nat.le_of_ble_eq_true rfl) (Nat.le_of_ble_eq_true rfl) t
    · refine g5 c_250_28 rfl ?_
      refine g1 c_250_29 k_21 ?_
      refine g1 c_250_31 k_0 ?_
      exact g80 (As := [.int 21, .int 0]) (rest := []) c_250_32 rfl rfl (Nat.le_of_ble_eq_true rfl) (Nat.le_of_ble_eq_true rfl) t.1 t.2
  · refine g3 c_250_21 rfl ?_
    exact g90 c_250_23 t
set_option maxRecDepth 20000 in
theorem t_250_35 {d : Nat} {h : ab_H} {Q : Option Value → ab_H → Prop} {x0 : Nat} {x1 : Int32} {x2 : Int32} {x3 : Int32} {x4 : Int32} (t : wm d 232 [.int 97, .int 110, .int 100] h (fun r9 h9 => wq (d + 1) 250 45 [.ref x0, .int x1, .int x2, .int x3, .int x4, .retAddr 0] (r9.toList ++ [.ref x0]) h9 Q)) : wq (d + 1) 250 35 [.ref x0, .int x1, .int x2, .int x3, .int x4, .retAddr 0] [] h Q := by
  refine g5 c_250_35 rfl ?_
  refine g1 c_250_36 k_97 ?_
  refine g1 c_250_38 k_110 ?_
  refine g1 c_250_40 k_100 ?_
  exact g81 (As := [.int 97, .int 110, .int 100]) (rest := [.ref x0]) c_250_42 rfl rfl (Nat.le_of_ble_eq_true rfl) (Nat.le_of_ble_eq_true rfl) t
set_option maxRecDepth 20000 in
theorem t_250_45 {d : Nat} {h : ab_H} {Q : Option Value → ab_H → Prop} {x0 : Nat} {x1 : Int32} {x2 : Int32} {x3 : Int32} {x4 : Int32} {s0 : Nat} {s1 : Int64} (t : ab_ok h s0 112 = true ∧ wm d 235 [.ref s0, .long s1] h (fun r9 h9 => wq (d + 1) 250 48 [.ref x0, .int x1, .int x2, .int x3, .int x4, .retAddr 0] (r9.toList ++ []) h9 Q)) : wq (d + 1) 250 45 [.ref x0, .int x1, .int x2, .int x3, .int x4, .retAddr 0] [.long s1, .ref s0] h Q := by
  exact g80 (As := [.long s1]) (rest := []) c_250_45 rfl rfl (Nat.le_of_ble_eq_true rfl) (Nat.le_of_ble_eq_true rfl) t.1 t.2
set_option maxRecDepth 20000 in
theorem t_250_48 {d : Nat} {h : ab_H} {Q : Option Value → ab_H → Prop} {x0 : Nat} {x1 : Int32} {x2 : Int32} {x3 : Int32} {x4 : Int32} {s0 : Int32} (t : ab_ok h x0 112 = true ∧ if (ab_i h x0 9) = 2 then (ab_ok h x0 112 = true ∧ if (lg_cmp (ab_l h x0 11) 28530) = 0 then (wq d 250 73 [.ref x0, .int s0, .int x2, .int x3, .int x4, .retAddr 0] [.int 1] h Q) else (wq d 250 72 [.ref x0, .int s0, .int x2, .int x3, .int x4, .retAddr 0] [] h Q)) else (wq d 250 72 [.ref x0, .int s0, .int x2, .int x3, .int x4, .retAddr 0] [] h Q)) : wq d 250 48 [.ref x0, .int x1, .int x2, .int x3, .int x4, .retAddr 0] [.int s0] h Q := by
  refine g6 (L' := [.ref x0, .int s0, .int x2, .int x3, .int x4, .retAddr 0]) c_250_48 rfl ?_
  refine g5 c_250_49 rfl ?_
  obtain ⟨ho, t⟩ := t
  refine g43 c_250_50 ho ?_
  refine g1 c_250_53 k_2 ?_
  refine gcm c_250_54 (gbn t (ab_c1 _ _) rfl (fun hc t => ?_) (fun hc t => ?_))
  · refine g5 c_250_57 rfl ?_
    obtain ⟨ho, t⟩ := t
    refine g44 c_250_58 ho ?_
    refine g2 c_250_61 kl_28530 ?_
    refine g28 c_250_64 ?_
    refine gif c_250_65 (gbn t (ab_c1 _ _) rfl (fun hc t => ?_) (fun hc t => ?_))
    · refine g1 c_250_68 k_1 ?_
      refine g38 c_250_69 rfl ?_
      exact t
    · exact t
  · exact t
set_option maxRecDepth 20000 in
theorem t_250_72 {d : Nat} {h : ab_H} {Q : Option Value → ab_H → Prop} {x0 : Nat} {x1 : Int32} {x2 : Int32} {x3 : Int32} {x4 : Int32} (t : wq d 250 73 [.ref x0, .int x1, .int x2, .int x3, .int x4, .retAddr 0] [.int 0] h Q) : wq d 250 72 [.ref x0, .int x1, .int x2, .int x3, .int x4, .retAddr 0] [] h Q := by
  refine g1 c_250_72 k_0 ?_
  exact t
set_option maxRecDepth 20000 in
theorem t_250_73 {d : Nat} {h : ab_H} {Q : Option Value → ab_H → Prop} {x0 : Nat} {x1 : Int32} {x2 : Int32} {x3 : Int32} {x4 : Int32} {s0 : Int32} (t : if x1 = 0 then (if x2 = 0 then (wq (d + 1) 250 93 [.ref x0, .int x1, .int s0, .int x3, .int x4, .int s0] [] h Q) else (ab_ok h x0 112 = true ∧ wm d 238 [.ref x0, .int 22, .int 0] h (fun r9 h9 => wq (d + 1) 250 90 [.ref x0, .int x1, .int x2, .int x3, .int x4, .int s0] (r9.toList ++ []) h9 Q))) else (wq (d + 1) 250 93 [.ref x0, .int x1, .int x2, .int x3, .int x4, .int s0] [] h Q)) : wq (d + 1) 250 73 [.ref x0, .int x1, .int x2, .int x3, .int x4, .retAddr 0] [.int s0] h Q := by
  refine g6 (L' := [.ref x0, .int x1, .int x2, .int x3, .int x4, .int s0]) c_250_73 rfl ?_
  refine g3 c_250_75 rfl ?_
  refine gif c_250_76 (gbn t (ab_c1 _ _) rfl (fun hc t => ?_) (fun hc t => ?_))
  · refine g3 c_250_79 rfl ?_
    refine gif c_250_80 (gbr t rfl rfl (fun hc t => ?_) (fun hc t => ?_))
    · refine g3 c_250_90 rfl ?_
      refine g6 (L' := [.ref x0, .int x1, .int s0, .int x3, .int x4, .int s0]) c_250_92 rfl ?_
      exact t
    · refine g5 c_250_83 rfl ?_
      refine g1 c_250_84 k_22 ?_
      refine g1 c_250_86 k_0 ?_
      exact g80 (As := [.int 22, .int 0]) (rest := []) c_250_87 rfl rfl (Nat.le_of_ble_eq_true rfl) (Nat.le_of_ble_eq_true rfl) t.1 t.2
  · exact t
set_option maxRecDepth 20000 in
theorem t_250_90 {d : Nat} {h : ab_H} {Q : Option Value → ab_H → Prop} {x0 : Nat} {x1 : Int32} {x2 : Int32} {x3 : Int32} {x4 : Int32} {x5 : Int32} (t : wq d 250 93 [.ref x0, .int x1, .int x5, .int x3, .int x4, .int x5] [] h Q) : wq d 250 90 [.ref x0, .int x1, .int x2, .int x3, .int x4, .int x5] [] h Q := by
  refine g3 c_250_90 rfl ?_
  refine g6 (L' := [.ref x0, .int x1, .int x5, .int x3, .int x4, .int x5]) c_250_92 rfl ?_
  exact t
set_option maxRecDepth 20000 in
theorem t_250_93 {d : Nat} {h : ab_H} {Q : Option Value → ab_H → Prop} {x0 : Nat} {x1 : Int32} {x2 : Int32} {x3 : Int32} {x4 : Int32} {x5 : Int32} (t : if x1 = 0 then (if x5 = 0 then (wq d 250 107 [.ref x0, .int x1, .int x2, .int x3, .int x4, .int x5] [.int 0] h Q) else (wq d 250 102 [.ref x0, .int x1, .int x2, .int x3, .int x4, .int x5] [] h Q)) else (wq d 250 102 [.ref x0, .int x1, .int x2, .int x3, .int x4, .int x5] [] h Q)) : wq d 250 93 [.ref x0, .int x1, .int x2, .int x3, .int x4, .int x5] [] h Q := by
  refine g3 c_250_93 rfl ?_
  refine gif c_250_94 (gbn t (ab_c1 _ _) rfl (fun hc t => ?_) (fun hc t => ?_))
  · refine g3 c_250_97 rfl ?_
    refine gif c_250_99 (gbr t rfl rfl (fun hc t => ?_) (fun hc t => ?_))
    · refine g1 c_250_106 k_0 ?_
      exact t
    · exact t
  · exact t
set_option maxRecDepth 20000 in
theorem t_250_102 {d : Nat} {h : ab_H} {Q : Option Value → ab_H → Prop} {x0 : Nat} {x1 : Int32} {x2 : Int32} {x3 : Int32} {x4 : Int32} {x5 : Int32} (t : wq d 250 107 [.ref x0, .int x1, .int x2, .int x3, .int x4, .int x5] [.int 1] h Q) : wq d 250 102 [.ref x0, .int x1, .int x2, .int x3, .int x4, .int x5] [] h Q := by
  refine g1 c_250_102 k_1 ?_
  refine g38 c_250_103 rfl ?_
  exact t
set_option maxRecDepth 20000 in
theorem t_250_107 {d : Nat} {h : ab_H} {Q : Option Value → ab_H → Prop} {x0 : Nat} {x1 : Int32} {x2 : Int32} {x3 : Int32} {x4 : Int32} {x5 : Int32} {s0 : Int32} (t : if s0 = 0 then (wq (d + 1) 250 6 [.ref x0, .int x1, .int x2, .int s0, .int x4, .int x5] [] h Q) else (ab_ok h x0 112 = true ∧ wm d 231 [.ref x0] h (fun r9 h9 => wq (d + 1) 250 116 [.ref x0, .int x1, .int x2, .int s0, .int x4, .int x5] (r9.toList ++ []) h9 Q))) : wq (d + 1) 250 107 [.ref x0, .int x1, .int x2, .int x3, .int x4, .int x5] [.int s0] h Q := by
  refine g6 (L' := [.ref x0, .int x1, .int x2, .int s0, .int x4, .int x5]) c_250_107 rfl ?_
  refine g3 c_250_108 rfl ?_
  refine gif c_250_109 (gbr t rfl rfl (fun hc t => ?_) (fun hc t => ?_))
  · refine g38 c_250_116 rfl ?_
    exact t
  · refine g5 c_250_112 rfl ?_
    exact g80 (As := []) (rest := []) c_250_113 rfl rfl (Nat.le_of_ble_eq_true rfl) (Nat.le_of_ble_eq_true rfl) t.1 t.2
set_option maxRecDepth 20000 in
theorem t_250_116 {d : Nat} {h : ab_H} {Q : Option Value → ab_H → Prop} {x0 : Nat} {x1 : Int32} {x2 : Int32} {x3 : Int32} {x4 : Int32} {x5 : Int32} (t : wq d 250 6 [.ref x0, .int x1, .int x2, .int x3, .int x4, .int x5] [] h Q) : wq d 250 116 [.ref x0, .int x1, .int x2, .int x3, .int x4, .int x5] [] h Q := by
  refine g38 c_250_116 rfl ?_
  exact t
-- method 251: MillTownModel.addWord()J
theorem c_251_0 : pg_cd 251 0 = (1, 2, 0, 0, 97) := by decide +kernel
theorem c_251_2 : pg_cd 251 2 = (1, 2, 0, 0, 100) := by decide +kernel
theorem c_251_4 : pg_cd 251 4 = (1, 2, 0, 0, 100) := by decide +kernel
theorem c_251_6 : pg_cd 251 6 = (81, 232, 160, 0, 0) := by decide +kernel
theorem c_251_9 : pg_cd 251 9 = (92, 0, 0, 0, 0) := by decide +kernel
theorem mx_251 : pg_mx 251 = 1 := by decide +kernel
theorem m_251 {d : Nat} {h : ab_H} {Q : Option Value → ab_H → Prop} {x0 : Nat} (t : wq d 251 0 [.ref x0] [] h Q) : wm d 251 [.ref x0] h Q := by
  unfold wm
  rw [mx_251]
  exact t
set_option maxRecDepth 20000 in
theorem t_251_0 {d : Nat} {h : ab_H} {Q : Option Value → ab_H → Prop} {x0 : Nat} (t : wm d 232 [.int 97, .int 100, .int 100] h (fun r9 h9 => wq (d + 1) 251 9 [.ref x0] (r9.toList ++ []) h9 Q)) : wq (d + 1) 251 0 [.ref x0] [] h Q := by
  refine g1 c_251_0 k_97 ?_
  refine g1 c_251_2 k_100 ?_
  refine g1 c_251_4 k_100 ?_
  exact g81 (As := [.int 97, .int 100, .int 100]) (rest := []) c_251_6 rfl rfl (Nat.le_of_ble_eq_true rfl) (Nat.le_of_ble_eq_true rfl) t
set_option maxRecDepth 20000 in
theorem t_251_9 {d : Nat} {h : ab_H} {Q : Option Value → ab_H → Prop} {x0 : Nat} {s0 : Int64} (t : Q (some (.long s0)) h) : wq d 251 9 [.ref x0] [.long s0] h Q := by
  exact g92 c_251_9 t
-- method 252: MillTownModel.takeWord()J
theorem c_252_0 : pg_cd 252 0 = (1, 2, 0, 0, 116) := by decide +kernel
theorem c_252_2 : pg_cd 252 2 = (1, 2, 0, 0, 97) := by decide +kernel
theorem c_252_4 : pg_cd 252 4 = (1, 2, 0, 0, 107) := by decide +kernel
theorem c_252_6 : pg_cd 252 6 = (1, 2, 0, 0, 101) := by decide +kernel
theorem c_252_8 : pg_cd 252 8 = (81, 234, 195, 0, 0) := by decide +kernel
theorem c_252_11 : pg_cd 252 11 = (92, 0, 0, 0, 0) := by decide +kernel
theorem mx_252 : pg_mx 252 = 1 := by decide +kernel
theorem m_252 {d : Nat} {h : ab_H} {Q : Option Value → ab_H → Prop} {x0 : Nat} (t : wq d 252 0 [.ref x0] [] h Q) : wm d 252 [.ref x0] h Q := by
  unfold wm
  rw [mx_252]
  exact t
set_option maxRecDepth 20000 in
theorem t_252_0 {d : Nat} {h : ab_H} {Q : Option Value → ab_H → Prop} {x0 : Nat} (t : wm d 234 [.int 116, .int 97, .int 107, .int 101] h (fun r9 h9 => wq (d + 1) 252 11 [.ref x0] (r9.toList ++ []) h9 Q)) : wq (d + 1) 252 0 [.ref x0] [] h Q := by
  refine g1 c_252_0 k_116 ?_
  refine g1 c_252_2 k_97 ?_
  refine g1 c_252_4 k_107 ?_
  refine g1 c_252_6 k_101 ?_
  exact g81 (As := [.int 116, .int 97, .int 107, .int 101]) (rest := []) c_252_8 rfl rfl (Nat.le_of_ble_eq_true rfl) (Nat.le_of_ble_eq_true rfl) t
set_option maxRecDepth 20000 in
theorem t_252_11 {d : Nat} {h : ab_H} {Q : Option Value → ab_H → Prop} {x0 : Nat} {s0 : Int64} (t : Q (some (.long s0)) h) : wq d 252 11 [.ref x0] [.long s0] h Q := by
  exact g92 c_252_11 t
-- method 253: MillTownModel.sumOf(I)I
theorem c_253_0 : pg_cd 253 0 = (5, 1, 0, 0, 0) := by decide +kernel
theorem c_253_1 : pg_cd 253 1 = (45, 12, 8, 0, 0) := by decide +kernel
theorem c_253_4 : pg_cd 253 4 = (3, 1, 0, 1, 0) := by decide +kernel
theorem c_253_5 : pg_cd 253 5 = (1, 2, 0, 0, 6) := by decide +kernel
theorem c_253_7 : pg_cd 253 7 = (10, 1, 0, 0, 0) := by decide +kernel
theorem c_253_8 : pg_cd 253 8 = (5, 1, 0, 0, 0) := by decide +kernel
theorem c_253_9 : pg_cd 253 9 = (43, 12, 174, 14, 0) := by decide +kernel
theorem c_253_12 : pg_cd 253 12 = (54, 1, 0, 0, 0) := by decide +kernel
theorem c_253_13 : pg_cd 253 13 = (5, 1, 0, 0, 0) := by decide +kernel
theorem c_253_14 : pg_cd 253 14 = (80, 247, 225, 0, 0) := by decide +kernel
theorem c_253_17 : pg_cd 253 17 = (6, 1, 0, 2, 0) := by decide +kernel
theorem c_253_18 : pg_cd 253 18 = (5, 1, 0, 0, 0) := by decide +kernel
theorem c_253_19 : pg_cd 253 19 = (45, 12, 8, 0, 0) := by decide +kernel
theorem c_253_22 : pg_cd 253 22 = (3, 1, 0, 1, 0) := by decide +kernel
theorem c_253_23 : pg_cd 253 23 = (1, 2, 0, 0, 7) := by decide +kernel
theorem c_253_25 : pg_cd 253 25 = (10, 1, 0, 0, 0) := by decide +kernel
theorem c_253_26 : pg_cd 253 26 = (5, 1, 0, 0, 0) := by decide +kernel
theorem c_253_27 : pg_cd 253 27 = (43, 12, 174, 14, 0) := by decide +kernel
theorem c_253_30 : pg_cd 253 30 = (54, 1, 0, 0, 0) := by decide +kernel
theorem c_253_31 : pg_cd 253 31 = (3, 1, 0, 2, 0) := by decide +kernel
theorem c_253_32 : pg_cd 253 32 = (90, 0, 0, 0, 0) := by decide +kernel
theorem mx_253 : pg_mx 253 = 3 := by decide +kernel
theorem m_253 {d : Nat} {h : ab_H} {Q : Option Value → ab_H → Prop} {x0 : Nat} {x1 : Int32} (t : wq d 253 0 [.ref x0, .int x1, .retAddr 0] [] h Q) : wm d 253 [.ref x0, .int x1] h Q := by
  unfold wm
  rw [mx_253]
  exact t
set_option maxRecDepth 20000 in
theorem t_253_0 {d : Nat} {h : ab_H} {Q : Option Value → ab_H → Prop} {x0 : Nat} {x1 : Int32} (t : ab_ok h x0 112 = true ∧ ∃ j1 : Nat, ab_r h x0 0 = some j1 ∧ ab_ok h x0 112 = true ∧ (ab_ok h j1 0 = true ∧ ab_in (x1 + 6) (ab_s h j1).2 = true) ∧ ∀ h2 : ab_H, h2 = ab_pi h j1 (Int32.toNatClampNeg (x1 + 6)) (ab_i h x0 14) → ab_ok h2 x0 112 = true ∧ wm d 247 [.ref x0] h2 (fun r9 h9 => wq (d + 1) 253 17 [.ref x0, .int x1, .retAddr 0] (r9.toList ++ []) h9 Q)) : wq (d + 1) 253 0 [.ref x0, .int x1, .retAddr 0] [] h Q := by
  refine g5 c_253_0 rfl ?_
  obtain ⟨ho, j1, hr, t⟩ := t
  refine g45 c_253_1 ho hr ?_
  refine g3 c_253_4 rfl ?_
  refine g1 c_253_5 k_6 ?_
  refine g10 c_253_7 ?_
  refine g5 c_253_8 rfl ?_
  obtain ⟨ho, t⟩ := t
  refine g43 c_253_9 ho ?_
  obtain ⟨ho, t⟩ := t
  refine g54 c_253_12 ho (fun h2 eh2 => ?_)
  have t := t h2 eh2
  refine g5 c_253_13 rfl ?_
  exact g80 (As := []) (rest := []) c_253_14 rfl rfl (Nat.le_of_ble_eq_true rfl) (Nat.le_of_ble_eq_true rfl) t.1 t.2
set_option maxRecDepth 20000 in
theorem t_253_17 {d : Nat} {h : ab_H} {Q : Option Value → ab_H → Prop} {x0 : Nat} {x1 : Int32} {s0 : Int32} (t : ab_ok h x0 112 = true ∧ ∃ j1 : Nat, ab_r h x0 0 = some j1 ∧ ab_ok h x0 112 = true ∧ (ab_ok h j1 0 = true ∧ ab_in (x1 + 7) (ab_s h j1).2 = true) ∧ ∀ h2 : ab_H, h2 = ab_pi h j1 (Int32.toNatClampNeg (x1 + 7)) (ab_i h x0 14) → Q (some (.int s0)) h2) : wq d 253 17 [.ref x0, .int x1, .retAddr 0] [.int s0] h Q := by
  refine g6 (L' := [.ref x0, .int x1, .int s0]) c_253_17 rfl ?_
  refine g5 c_253_18 rfl ?_
  obtain ⟨ho, j1, hr, t⟩ := t
  refine g45 c_253_19 ho hr ?_
  refine g3 c_253_22 rfl ?_
  refine g1 c_253_23 k_7 ?_
  refine g10 c_253_25 ?_
  refine g5 c_253_26 rfl ?_
  obtain ⟨ho, t⟩ := t
  refine g43 c_253_27 ho ?_
  obtain ⟨ho, t⟩ := t
  refine g54 c_253_30 ho (fun h2 eh2 => ?_)
  have t := t h2 eh2
  refine g3 c_253_31 rfl ?_
  exact g90 c_253_32 t
-- method 254: MillTownModel.addOrTake(I)I
theorem c_254_0 : pg_cd 254 0 = (5, 1, 0, 0, 0) := by decide +kernel
theorem c_254_1 : pg_cd 254 1 = (5, 1, 0, 0, 0) := by decide +kernel
theorem c_254_2 : pg_cd 254 2 = (80, 251, 236, 0, 0) := by decide +kernel
theorem c_254_5 : pg_cd 254 5 = (80, 235, 164, 0, 0) := by decide +kernel
theorem c_254_8 : pg_cd 254 8 = (36, 3, 0, 1, 16) := by decide +kernel
theorem c_254_11 : pg_cd 254 11 = (5, 1, 0, 0, 0) := by decide +kernel
theorem c_254_12 : pg_cd 254 12 = (5, 1, 0, 0, 0) := by decide +kernel
theorem c_254_13 : pg_cd 254 13 = (80, 252, 240, 0, 0) := by decide +kernel
theorem c_254_16 : pg_cd 254 16 = (80, 235, 164, 0, 0) := by decide +kernel
theorem c_254_19 : pg_cd 254 19 = (36, 3, 0, 1, 5) := by decide +kernel
theorem c_254_22 : pg_cd 254 22 = (1, 1, 0, 0, 1) := by decide +kernel
theorem c_254_23 : pg_cd 254 23 = (90, 0, 0, 0, 0) := by decide +kernel
theorem c_254_24 : pg_cd 254 24 = (5, 1, 0, 0, 0) := by decide +kernel
theorem c_254_25 : pg_cd 254 25 = (5, 1, 0, 0, 0) := by decide +kernel
theorem c_254_26 : pg_cd 254 26 = (80, 252, 240, 0, 0) := by decide +kernel
theorem c_254_29 : pg_cd 254 29 = (80, 235, 164, 0, 0) := by decide +kernel
theorem c_254_32 : pg_cd 254 32 = (36, 3, 0, 0, 13) := by decide +kernel
theorem c_254_35 : pg_cd 254 35 = (5, 1, 0, 0, 0) := by decide +kernel
theorem c_254_36 : pg_cd 254 36 = (45, 12, 8, 0, 0) := by decide +kernel
theorem c_254_39 : pg_cd 254 39 = (3, 1, 0, 1, 0) := by decide +kernel
theorem c_254_40 : pg_cd 254 40 = (34, 1, 0, 0, 0) := by decide +kernel
theorem c_254_41 : pg_cd 254 41 = (50, 1, 0, 0, 0) := by decide +kernel
theorem c_254_42 : pg_cd 254 42 = (1, 1, 0, 0, 1) := by decide +kernel
theorem c_254_43 : pg_cd 254 43 = (10, 1, 0, 0, 0) := by decide +kernel
theorem c_254_44 : pg_cd 254 44 = (54, 1, 0, 0, 0) := by decide +kernel
theorem c_254_45 : pg_cd 254 45 = (5, 1, 0, 0, 0) := by decide +kernel
theorem c_254_46 : pg_cd 254 46 = (80, 231, 168, 0, 0) := by decide +kernel
theorem c_254_49 : pg_cd 254 49 = (5, 1, 0, 0, 0) := by decide +kernel
theorem c_254_50 : pg_cd 254 50 = (3, 1, 0, 1, 0) := by decide +kernel
theorem c_254_51 : pg_cd 254 51 = (80, 253, 243, 0, 0) := by decide +kernel
theorem c_254_54 : pg_cd 254 54 = (90, 0, 0, 0, 0) := by decide +kernel
theorem mx_254 : pg_mx 254 = 2 := by decide +kernel
theorem m_254 {d : Nat} {h : ab_H} {Q : Option Value → ab_H → Prop} {x0 : Nat} {x1 : Int32} (t : wq d 254 0 [.ref x0, .int x1] [] h Q) : wm d 254 [.ref x0, .int x1] h Q := by
  unfold wm
  rw [mx_254]
  exact t
set_option maxRecDepth 20000 in
theorem t_254_0 {d : Nat} {h : ab_H} {Q : Option Value → ab_H → Prop} {x0 : Nat} {x1 : Int32} (t : ab_ok h x0 112 = true ∧ wm d 251 [.ref x0] h (fun r9 h9 => wq (d + 1) 254 5 [.ref x0, .int x1] (r9.toList ++ [.ref x0]) h9 Q)) : wq (d + 1) 254 0 [.ref x0, .int x1] [] h Q := by
  refine g5 c_254_0 rfl ?_
  refine g5 c_254_1 rfl ?_
  exact g80 (As := []) (rest := [.ref x0]) c_254_2 rfl rfl (Nat.le_of_ble_eq_true rfl) (Nat.le_of_ble_eq_true rfl) t.1 t.2
set_option maxRecDepth 20000 in
theorem t_254_5 {d : Nat} {h : ab_H} {Q : Option Value → ab_H → Prop} {x0 : Nat} {x1 : Int32} {s0 : Nat} {s1 : Int64} (t : ab_ok h s0 112 = true ∧ wm d 235 [.ref s0, .long s1] h (fun r9 h9 => wq (d + 1) 254 8 [.ref x0, .int x1] (r9.toList ++ []) h9 Q)) : wq (d + 1) 254 5 [.ref x0, .int x1] [.long s1, .ref s0] h Q := by
  exact g80 (As := [.long s1]) (rest := []) c_254_5 rfl rfl (Nat.le_of_ble_eq_true rfl) (Nat.le_of_ble_eq_true rfl) t.1 t.2
set_option maxRecDepth 20000 in
theorem t_254_8 {d : Nat} {h : ab_H} {Q : Option Value → ab_H → Prop} {x0 : Nat} {x1 : Int32} {s0 : Int32} (t : if s0 = 0 then (ab_ok h x0 112 = true ∧ wm d 252 [.ref x0] h (fun r9 h9 => wq (d + 1) 254 16 [.ref x0, .int x1] (r9.toList ++ [.ref x0]) h9 Q)) else (ab_ok h x0 112 = true ∧ wm d 252 [.ref x0] h (fun r9 h9 => wq (d + 1) 254 29 [.ref x0, .int x1] (r9.toList ++ [.ref x0]) h9 Q))) : wq (d + 1) 254 8 [.ref x0, .int x1] [.int s0] h Q := by
  refine gif c_254_8 (gbn t (ab_c1 _ _) rfl (fun hc t => ?_) (fun hc t => ?_))
  · refine g5 c_254_11 rfl ?_
    refine g5 c_254_12 rfl ?_
    exact g80 (As := []) (rest := [.ref x0]) c_254_13 rfl rfl (Nat.le_of_ble_eq_true rfl) (Nat.le_of_ble_eq_true rfl) t.1 t.2
  · refine g5 c_254_24 rfl ?_
    refine g5 c_254_25 rfl ?_
    exact g80 (As := []) (rest := [.ref x0]) c_254_26 rfl rfl (Nat.le_of_ble_eq_true rfl) (Nat.le_of_ble_eq_true rfl) t.1 t.2
set_option maxRecDepth 20000 in
theorem t_254_16 {d : Nat} {h : ab_H} {Q : Option Value → ab_H → Prop} {x0 : Nat} {x1 : Int32} {s0 : Nat} {s1 : Int64} (t : ab_ok h s0 112 = true ∧ wm d 235 [.ref s0, .long s1] h (fun r9 h9 => wq (d + 1) 254 19 [.ref x0, .int x1] (r9.toList ++ []) h9 Q)) : wq (d + 1) 254 16 [.ref x0, .int x1] [.long s1, .ref s0] h Q := by
  exact g80 (As := [.long s1]) (rest := []) c_254_16 rfl rfl (Nat.le_of_ble_eq_true rfl) (Nat.le_of_ble_eq_true rfl) t.1 t.2
set_option maxRecDepth 20000 in
theorem t_254_19 {d : Nat} {h : ab_H} {Q : Option Value → ab_H → Prop} {x0 : Nat} {x1 : Int32} {s0 : Int32} (t : if s0 = 0 then (Q (some (.int 1)) h) else (ab_ok h x0 112 = true ∧ wm d 252 [.ref x0] h (fun r9 h9 => wq (d + 1) 254 29 [.ref x0, .int x1] (r9.toList ++ [.ref x0]) h9 Q))) : wq (d + 1) 254 19 [.ref x0, .int x1] [.int s0] h Q := by
  refine gif c_254_19 (gbn t (ab_c1 _ _) rfl (fun hc t => ?_) (fun hc t => ?_))
  · refine g1 c_254_22 k_1 ?_
    exact g90 c_254_23 t
  · refine g5 c_254_24 rfl ?_
    refine g5 c_254_25 rfl ?_
    exact g80 (As := []) (rest := [.ref x0]) c_254_26 rfl rfl (Nat.le_of_ble_eq_true rfl) (Nat.le_of_ble_eq_true rfl) t.1 t.2
set_option maxRecDepth 20000 in
theorem t_254_29 {d : Nat} {h : ab_H} {Q : Option Value → ab_H → Prop} {x0 : Nat} {x1 : Int32} {s0 : Nat} {s1 : Int64} (t : ab_ok h s0 112 = true ∧ wm d 235 [.ref s0, .long s1] h (fun r9 h9 => wq (d + 1) 254 32 [.ref x0, .int x1] (r9.toList ++ []) h9 Q)) : wq (d + 1) 254 29 [.ref x0, .int x1] [.long s1, .ref s0] h Q := by
  exact g80 (As := [.long s1]) (rest := []) c_254_29 rfl rfl (Nat.le_of_ble_eq_true rfl) (Nat.le_of_ble_eq_true rfl) t.1 t.2
set_option maxRecDepth 20000 in
theorem t_254_32 {d : Nat} {h : ab_H} {Q : Option Value → ab_H → Prop} {x0 : Nat} {x1 : Int32} {s0 : Int32} (t : if s0 = 0 then (ab_ok h x0 112 = true ∧ wm d 231 [.ref x0] h (fun r9 h9 => wq (d + 1) 254 49 [.ref x0, .int x1] (r9.toList ++ []) h9 Q)) else (ab_ok h x0 112 = true ∧ ∃ j1 : Nat, ab_r h x0 0 = some j1 ∧ ((j1 = 0 ∨ ab_ok h j1 0 = true) ∧ ab_in x1 (ab_s h j1).2 = true) ∧ (ab_ok h j1 0 = true ∧ ab_in x1 (ab_s h j1).2 = true) ∧ ∀ h2 : ab_H, h2 = ab_pi h j1 (Int32.toNatClampNeg x1) ((ab_i h j1 (Int32.toNatClampNeg x1)) + 1) → ab_ok h2 x0 112 = true ∧ wm d 231 [.ref x0] h2 (fun r9 h9 => wq (d + 1) 254 49 [.ref x0, .int x1] (r9.toList ++ []) h9 Q))) : wq (d + 1) 254 32 [.ref x0, .int x1] [.int s0] h Q := by
  refine gif c_254_32 (gbr t rfl rfl (fun hc t => ?_) (fun hc t => ?_))
  · refine g5 c_254_45 rfl ?_
    exact g80 (As := []) (rest := []) c_254_46 rfl rfl (Nat.le_of_ble_eq_true rfl) (Nat.le_of_ble_eq_true rfl) t.1 t.2
  · refine g5 c_254_35 rfl ?_
    obtain ⟨ho, j1, hr, t⟩ := t
    refine g45 c_254_36 ho hr ?_
    refine g3 c_254_39 rfl ?_
    refine g34a c_254_40 ?_
    obtain ⟨ho, t⟩ := t
    refine g50 c_254_41 ho ?_
    refine g1 c_254_42 k_1 ?_
    refine g10 c_254_43 ?_
    obtain ⟨ho, t⟩ := t
    refine g54 c_254_44 ho (fun h2 eh2 => ?_)
    have t := t h2 eh2
    refine g5 c_254_45 rfl ?_
    exact g80 (As := []) (rest := []) c_254_46 rfl rfl (Nat.le_of_ble_eq_true rfl) (Nat.le_of_ble_eq_true rfl) t.1 t.2
set_option maxRecDepth 20000 in
theorem t_254_49 {d : Nat} {h : ab_H} {Q : Option Value → ab_H → Prop} {x0 : Nat} {x1 : Int32} (t : ab_ok h x0 112 = true ∧ wm d 253 [.ref x0, .int x1] h (fun r9 h9 => wq (d + 1) 254 54 [.ref x0, .int x1] (r9.toList ++ []) h9 Q)) : wq (d + 1) 254 49 [.ref x0, .int x1] [] h Q := by
  refine g5 c_254_49 rfl ?_
  refine g3 c_254_50 rfl ?_
  exact g80 (As := [.int x1]) (rest := []) c_254_51 rfl rfl (Nat.le_of_ble_eq_true rfl) (Nat.le_of_ble_eq_true rfl) t.1 t.2
set_option maxRecDepth 20000 in
theorem t_254_54 {d : Nat} {h : ab_H} {Q : Option Value → ab_H → Prop} {x0 : Nat} {x1 : Int32} {s0 : Int32} (t : Q (some (.int s0)) h) : wq d 254 54 [.ref x0, .int x1] [.int s0] h Q := by
  exact g90 c_254_54 t
-- method 255: MillTownModel.sortOf()I
theorem c_255_0 : pg_cd 255 0 = (5, 1, 0, 0, 0) := by decide +kernel
theorem c_255_1 : pg_cd 255 1 = (43, 12, 144, 9, 0) := by decide +kernel
theorem c_255_4 : pg_cd 255 4 = (1, 1, 0, 0, 2) := by decide +kernel
theorem c_255_5 : pg_cd 255 5 = (37, 3, 0, 0, 5) := by decide +kernel
theorem c_255_8 : pg_cd 255 8 = (1, 1, 0, 0, 0) := by decide +kernel
theorem c_255_9 : pg_cd 255 9 = (90, 0, 0, 0, 0) := by decide +kernel
theorem c_255_10 : pg_cd 255 10 = (5, 1, 0, 0, 0) := by decide +kernel
theorem c_255_11 : pg_cd 255 11 = (44, 12, 156, 11, 0) := by decide +kernel
theorem c_255_14 : pg_cd 255 14 = (1, 2, 0, 0, 112) := by decide +kernel
theorem c_255_16 : pg_cd 255 16 = (1, 2, 0, 0, 114) := by decide +kernel
theorem c_255_18 : pg_cd 255 18 = (1, 2, 0, 0, 105) := by decide +kernel
theorem c_255_20 : pg_cd 255 20 = (1, 2, 0, 0, 99) := by decide +kernel
theorem c_255_22 : pg_cd 255 22 = (1, 2, 0, 0, 101) := by decide +kernel
theorem c_255_24 : pg_cd 255 24 = (81, 233, 191, 0, 0) := by decide +kernel
theorem c_255_27 : pg_cd 255 27 = (28, 1, 0, 0, 0) := by decide +kernel
theorem c_255_28 : pg_cd 255 28 = (36, 3, 0, 1, 5) := by decide +kernel
theorem c_255_31 : pg_cd 255 31 = (1, 1, 0, 0, 1) := by decide +kernel
theorem c_255_32 : pg_cd 255 32 = (90, 0, 0, 0, 0) := by decide +kernel
theorem c_255_33 : pg_cd 255 33 = (5, 1, 0, 0, 0) := by decide +kernel
theorem c_255_34 : pg_cd 255 34 = (44, 12, 156, 11, 0) := by decide +kernel
theorem c_255_37 : pg_cd 255 37 = (1, 2, 0, 0, 101) := by decide +kernel
theorem c_255_39 : pg_cd 255 39 = (1, 2, 0, 0, 120) := by decide +kernel
theorem c_255_41 : pg_cd 255 41 = (1, 2, 0, 0, 116) := by decide +kernel
theorem c_255_43 : pg_cd 255 43 = (1, 2, 0, 0, 114) := by decide +kernel
theorem c_255_45 : pg_cd 255 45 = (1, 2, 0, 0, 97) := by decide +kernel
theorem c_255_47 : pg_cd 255 47 = (81, 233, 191, 0, 0) := by decide +kernel
theorem c_255_50 : pg_cd 255 50 = (28, 1, 0, 0, 0) := by decide +kernel
theorem c_255_51 : pg_cd 255 51 = (36, 3, 0, 1, 5) := by decide +kernel
theorem c_255_54 : pg_cd 255 54 = (1, 1, 0, 0, 2) := by decide +kernel
theorem c_255_55 : pg_cd 255 55 = (90, 0, 0, 0, 0) := by decide +kernel
theorem c_255_56 : pg_cd 255 56 = (5, 1, 0, 0, 0) := by decide +kernel
theorem c_255_57 : pg_cd 255 57 = (44, 12, 156, 11, 0) := by decide +kernel
theorem c_255_60 : pg_cd 255 60 = (1, 2, 0, 0, 119) := by decide +kernel
theorem c_255_62 : pg_cd 255 62 = (1, 2, 0, 0, 104) := by decide +kernel
theorem c_255_64 : pg_cd 255 64 = (1, 2, 0, 0, 101) := by decide +kernel
theorem c_255_66 : pg_cd 255 66 = (1, 2, 0, 0, 110) := by decide +kernel
theorem c_255_68 : pg_cd 255 68 = (81, 234, 195, 0, 0) := by decide +kernel
theorem c_255_71 : pg_cd 255 71 = (28, 1, 0, 0, 0) := by decide +kernel
theorem c_255_72 : pg_cd 255 72 = (36, 3, 0, 1, 5) := by decide +kernel
theorem c_255_75 : pg_cd 255 75 = (1, 1, 0, 0, 4) := by decide +kernel
theorem c_255_76 : pg_cd 255 76 = (90, 0, 0, 0, 0) := by decide +kernel
theorem c_255_77 : pg_cd 255 77 = (5, 1, 0, 0, 0) := by decide +kernel
theorem c_255_78 : pg_cd 255 78 = (44, 12, 156, 11, 0) := by decide +kernel
theorem c_255_81 : pg_cd 255 81 = (1, 2, 0, 0, 108) := by decide +kernel
theorem c_255_83 : pg_cd 255 83 = (1, 2, 0, 0, 101) := by decide +kernel
theorem c_255_85 : pg_cd 255 85 = (1, 2, 0, 0, 97) := by decide +kernel
theorem c_255_87 : pg_cd 255 87 = (1, 2, 0, 0, 115) := by decide +kernel
theorem c_255_89 : pg_cd 255 89 = (1, 2, 0, 0, 116) := by decide +kernel
theorem c_255_91 : pg_cd 255 91 = (81, 233, 191, 0, 0) := by decide +kernel
theorem c_255_94 : pg_cd 255 94 = (28, 1, 0, 0, 0) := by decide +kernel
theorem c_255_95 : pg_cd 255 95 = (36, 3, 0, 1, 6) := by decide +kernel
theorem c_255_98 : pg_cd 255 98 = (1, 2, 0, 0, 6) := by decide +kernel
theorem c_255_100 : pg_cd 255 100 = (90, 0, 0, 0, 0) := by decide +kernel
theorem c_255_101 : pg_cd 255 101 = (5, 1, 0, 0, 0) := by decide +kernel
theorem c_255_102 : pg_cd 255 102 = (44, 12, 156, 11, 0) := by decide +kernel
theorem c_255_105 : pg_cd 255 105 = (1, 2, 0, 0, 97) := by decide +kernel
theorem c_255_107 : pg_cd 255 107 = (1, 2, 0, 0, 103) := by decide +kernel
theorem c_255_109 : pg_cd 255 109 = (1, 2, 0, 0, 101) := by decide +kernel
theorem c_255_111 : pg_cd 255 111 = (81, 232, 160, 0, 0) := by decide +kernel
theorem c_255_114 : pg_cd 255 114 = (28, 1, 0, 0, 0) := by decide +kernel
theorem c_255_115 : pg_cd 255 115 = (36, 3, 0, 1, 6) := by decide +kernel
theorem c_255_118 : pg_cd 255 118 = (1, 2, 0, 0, 7) := by decide +kernel
theorem c_255_120 : pg_cd 255 120 = (90, 0, 0, 0, 0) := by decide +kernel
theorem c_255_121 : pg_cd 255 121 = (5, 1, 0, 0, 0) := by decide +kernel
theorem c_255_122 : pg_cd 255 122 = (44, 12, 156, 11, 0) := by decide +kernel
theorem c_255_125 : pg_cd 255 125 = (1, 2, 0, 0, 109) := by decide +kernel
theorem c_255_127 : pg_cd 255 127 = (1, 2, 0, 0, 101) := by decide +kernel
theorem c_255_129 : pg_cd 255 129 = (1, 2, 0, 0, 97) := by decide +kernel
theorem c_255_131 : pg_cd 255 131 = (1, 2, 0, 0, 108) := by decide +kernel
theorem c_255_133 : pg_cd 255 133 = (1, 2, 0, 0, 115) := by decide +kernel
theorem c_255_135 : pg_cd 255 135 = (81, 233, 191, 0, 0) := by decide +kernel
theorem c_255_138 : pg_cd 255 138 = (28, 1, 0, 0, 0) := by decide +kernel
theorem c_255_139 : pg_cd 255 139 = (36, 3, 0, 1, 8) := by decide +kernel
theorem c_255_142 : pg_cd 255 142 = (1, 2, 0, 0, 8) := by decide +kernel
theorem c_255_144 : pg_cd 255 144 = (38, 3, 0, 0, 30) := by decide +kernel
theorem c_255_147 : pg_cd 255 147 = (5, 1, 0, 0, 0) := by decide +kernel
theorem c_255_148 : pg_cd 255 148 = (44, 12, 156, 11, 0) := by decide +kernel
theorem c_255_151 : pg_cd 255 151 = (1, 2, 0, 0, 99) := by decide +kernel
theorem c_255_153 : pg_cd 255 153 = (1, 2, 0, 0, 108) := by decide +kernel
theorem c_255_155 : pg_cd 255 155 = (1, 2, 0, 0, 101) := by decide +kernel
theorem c_255_157 : pg_cd 255 157 = (1, 2, 0, 0, 97) := by decide +kernel
theorem c_255_159 : pg_cd 255 159 = (1, 2, 0, 0, 110) := by decide +kernel
theorem c_255_161 : pg_cd 255 161 = (81, 233, 191, 0, 0) := by decide +kernel
theorem c_255_164 : pg_cd 255 164 = (28, 1, 0, 0, 0) := by decide +kernel
theorem c_255_165 : pg_cd 255 165 = (36, 3, 0, 1, 8) := by decide +kernel
theorem c_255_168 : pg_cd 255 168 = (1, 2, 0, 0, 9) := by decide +kernel
theorem c_255_170 : pg_cd 255 170 = (38, 3, 0, 0, 4) := by decide +kernel
theorem c_255_173 : pg_cd 255 173 = (1, 1, 0, 0, 0) := by decide +kernel
theorem c_255_174 : pg_cd 255 174 = (90, 0, 0, 0, 0) := by decide +kernel
theorem mx_255 : pg_mx 255 = 1 := by decide +kernel
theorem m_255 {d : Nat} {h : ab_H} {Q : Option Value → ab_H → Prop} {x0 : Nat} (t : wq d 255 0 [.ref x0] [] h Q) : wm d 255 [.ref x0] h Q := by
  unfold wm
  rw [mx_255]
  exact t
set_option maxRecDepth 20000 in
theorem t_255_0 {d : Nat} {h : ab_H} {Q : Option Value → ab_H → Prop} {x0 : Nat} (t : ab_ok h x0 112 = true ∧ if (ab_i h x0 9) = 2 then (ab_ok h x0 112 = true ∧ wm d 233 [.int 112, .int 114, .int 105, .int 99, .int 101] h (fun r9 h9 => wq (d + 1) 255 27 [.ref x0] (r9.toList ++ [.long (ab_l h x0 11)]) h9 Q)) else (Q (some (.int 0)) h)) : wq (d + 1) 255 0 [.ref x0] [] h Q := by
  refine g5 c_255_0 rfl ?_
  obtain ⟨ho, t⟩ := t
  refine g43 c_255_1 ho ?_
  refine g1 c_255_4 k_2 ?_
  refine gcm c_255_5 (gbr t rfl rfl (fun hc t => ?_) (fun hc t => ?_))
  · refine g5 c_255_10 rfl ?_
    obtain ⟨ho, t⟩ := t
    refine g44 c_255_11 ho ?_
    refine g1 c_255_14 k_112 ?_
    refine g1 c_255_16 k_114 ?_
    refine g1 c_255_18 k_105 ?_
    refine g1 c_255_20 k_99 ?_
    refine g1 c_255_22 k_101 ?_
    exact g81 (As := [.int 112, .int 114, .int 105, .int 99, .int 101]) (rest := [.long (ab_l h x0 11)]) c_255_24 rfl rfl (Nat.le_of_ble_eq_true rfl) (Nat.le_of_ble_eq_true rfl) t
  · refine g1 c_255_8 k_0 ?_
    exact g90 c_255_9 t
set_option maxRecDepth 20000 in
theorem t_255_27 {d : Nat} {h : ab_H} {Q : Option Value → ab_H → Prop} {x0 : Nat} {s0 : Int64} {s1 : Int64} (t : if (lg_cmp s0 s1) = 0 then (Q (some (.int 1)) h) else (ab_ok h x0 112 = true ∧ wm d 233 [.int 101, .int 120, .int 116, .int 114, .int 97] h (fun r9 h9 => wq (d + 1) 255 50 [.ref x0] (r9.toList ++ [.long (ab_l h x0 11)]) h9 Q))) : wq (d + 1) 255 27 [.ref x0] [.long s1, .long s0] h Q := by
  refine g28 c_255_27 ?_
  refine gif c_255_28 (gbn t (ab_c1 _ _) rfl (fun hc t => ?_) (fun hc t => ?_))
  · refine g1 c_255_31 k_1 ?_
    exact g90 c_255_32 t
  · refine g5 c_255_33 rfl ?_
    obtain ⟨ho, t⟩ := t
    refine g44 c_255_34 ho ?_
    refine g1 c_255_37 k_101 ?_
    refine g1 c_255_39 k_120 ?_
    refine g1 c_255_41 k_116 ?_
    refine g1 c_255_43 k_114 ?_
    refine g1 c_255_45 k_97 ?_
    exact g81 (As := [.int 101, .int 120, .int 116, .int 114, .int 97]) (rest := [.long (ab_l h x0 11)]) c_255_47 rfl rfl (Nat.le_of_ble_eq_true rfl) (Nat.le_of_ble_eq_true rfl) t
set_option maxRecDepth 20000 in
theorem t_255_50 {d : Nat} {h : ab_H} {Q : Option Value → ab_H → Prop} {x0 : Nat} {s0 : Int64} {s1 : Int64} (t : if (lg_cmp s0 s1) = 0 then (Q (some (.int 2)) h) else (ab_ok h x0 112 = true ∧ wm d 234 [.int 119, .int 104, .int 101, .int 110] h (fun r9 h9 => wq (d + 1) 255 71 [.ref x0] (r9.toList ++ [.long (ab_l h x0 11)]) h9 Q))) : wq (d + 1) 255 50 [.ref x0] [.long s1, .long s0] h Q := by
  refine g28 c_255_50 ?_
  refine gif c_255_51 (gbn t (ab_c1 _ _) rfl (fun hc t => ?_) (fun hc t => ?_))
  · refine g1 c_255_54 k_2 ?_
    exact g90 c_255_55 t
  · refine g5 c_255_56 rfl ?_
    obtain ⟨ho, t⟩ := t
    refine g44 c_255_57 ho ?_
    refine g1 c_255_60 k_119 ?_
    refine g1 c_255_62 k_104 ?_
    refine g1 c_255_64 k_101 ?_
    refine g1 c_255_66 k_110 ?_
    exact g81 (As := [.int 119, .int 104, .int 101, .int 110]) (rest := [.long (ab_l h x0 11)]) c_255_68 rfl rfl (Nat.le_of_ble_eq_true rfl) (Nat.le_of_ble_eq_true rfl) t
set_option maxRecDepth 20000 in
theorem t_255_71 {d : Nat} {h : ab_H} {Q : Option Value → ab_H → Prop} {x0 : Nat} {s0 : Int64} {s1 : Int64} (t : if (lg_cmp s0 s1) = 0 then (Q (some (.int 4)) h) else (ab_ok h x0 112 = true ∧ wm d 233 [.int 108, .int 101, .int 97, .int 115, .int 116] h (fun r9 h9 => wq (d + 1) 255 94 [.ref x0] (r9.toList ++ [.long (ab_l h x0 11)]) h9 Q))) : wq (d + 1) 255 71 [.ref x0] [.long s1, .long s0] h Q := by
  refine g28 c_255_71 ?_
  refine gif c_255_72 (gbn t (ab_c1 _ _) rfl (fun hc t => ?_) (fun hc t => ?_))
  · refine g1 c_255_75 k_4 ?_
    exact g90 c_255_76 t
  · refine g5 c_255_77 rfl ?_
    obtain ⟨ho, t⟩ := t
    refine g44 c_255_78 ho ?_
    refine g1 c_255_81 k_108 ?_
    refine g1 c_255_83 k_101 ?_
    refine g1 c_255_85 k_97 ?_
    refine g1 c_255_87 k_115 ?_
    refine g1 c_255_89 k_116 ?_
    exact g81 (As := [.int 108, .int 101, .int 97, .int 115, .int 116]) (rest := [.long (ab_l h x0 11)]) c_255_91 rfl rfl (Nat.le_of_ble_eq_true rfl) (Nat.le_of_ble_eq_true rfl) t
set_option maxRecDepth 20000 in
theorem t_255_94 {d : Nat} {h : ab_H} {Q : Option Value → ab_H → Prop} {x0 : Nat} {s0 : Int64} {s1 : Int64} (t : if (lg_cmp s0 s1) = 0 then (Q (some (.int 6)) h) else (ab_ok h x0 112 = true ∧ wm d 232 [.int 97, .int 103, .int 101] h (fun r9 h9 => wq (d + 1) 255 114 [.ref x0] (r9.toList ++ [.long (ab_l h x0 11)]) h9 Q))) : wq (d + 1) 255 94 [.ref x0] [.long s1, .long s0] h Q := by
  refine g28 c_255_94 ?_
  refine gif c_255_95 (gbn t (ab_c1 _ _) rfl (fun hc t => ?_) (fun hc t => ?_))
  · refine g1 c_255_98 k_6 ?_
    exact g90 c_255_100 t
  · refine g5 c_255_101 rfl ?_
    obtain ⟨ho, t⟩ := t
    refine g44 c_255_102 ho ?_
    refine g1 c_255_105 k_97 ?_
    refine g1 c_255_107 k_103 ?_
    refine g1 c_255_109 k_101 ?_
    exact g81 (As := [.int 97, .int 103, .int 101]) (rest := [.long (ab_l h x0 11)]) c_255_111 rfl rfl (Nat.le_of_ble_eq_true rfl) (Nat.le_of_ble_eq_true rfl) t
set_option maxRecDepth 20000 in
theorem t_255_114 {d : Nat} {h : ab_H} {Q : Option Value → ab_H → Prop} {x0 : Nat} {s0 : Int64} {s1 : Int64} (t : if (lg_cmp s0 s1) = 0 then (Q (some (.int 7)) h) else (ab_ok h x0 112 = true ∧ wm d 233 [.int 109, .int 101, .int 97, .int 108, .int 115] h (fun r9 h9 => wq (d + 1) 255 138 [.ref x0] (r9.toList ++ [.long (ab_l h x0 11)]) h9 Q))) : wq (d + 1) 255 114 [.ref x0] [.long s1, .long s0] h Q := by
  refine g28 c_255_114 ?_
  refine gif c_255_115 (gbn t (ab_c1 _ _) rfl (fun hc t => ?_) (fun hc t => ?_))
  · refine g1 c_255_118 k_7 ?_
    exact g90 c_255_120 t
  · refine g5 c_255_121 rfl ?_
    obtain ⟨ho, t⟩ := t
    refine g44 c_255_122 ho ?_
    refine g1 c_255_125 k_109 ?_
    refine g1 c_255_127 k_101 ?_
    refine g1 c_255_129 k_97 ?_
    refine g1 c_255_131 k_108 ?_
    refine g1 c_255_133 k_115 ?_
    exact g81 (As := [.int 109, .int 101, .int 97, .int 108, .int 115]) (rest := [.long (ab_l h x0 11)]) c_255_135 rfl rfl (Nat.le_of_ble_eq_true rfl) (Nat.le_of_ble_eq_true rfl) t
set_option maxRecDepth 20000 in
theorem t_255_138 {d : Nat} {h : ab_H} {Q : Option Value → ab_H → Prop} {x0 : Nat} {s0 : Int64} {s1 : Int64} (t : if (lg_cmp s0 s1) = 0 then (Q (some (.int 8)) h) else (ab_ok h x0 112 = true ∧ wm d 233 [.int 99, .int 108, .int 101, .int 97, .int 110] h (fun r9 h9 => wq (d + 1) 255 164 [.ref x0] (r9.toList ++ [.long (ab_l h x0 11)]) h9 Q))) : wq (d + 1) 255 138 [.ref x0] [.long s1, .long s0] h Q := by
  refine g28 c_255_138 ?_
  refine gif c_255_139 (gbn t (ab_c1 _ _) rfl (fun hc t => ?_) (fun hc t => ?_))
  · refine g1 c_255_142 k_8 ?_
    refine g38 c_255_144 rfl ?_
    exact g90 c_255_174 t
  · refine g5 c_255_147 rfl ?_
    obtain ⟨ho, t⟩ := t
    refine g44 c_255_148 ho ?_
    refine g1 c_255_151 k_99 ?_
    refine g1 c_255_153 k_108 ?_
    refine g1 c_255_155 k_101 ?_
    refine g1 c_255_157 k_97 ?_
    refine g1 c_255_159 k_110 ?_
    exact g81 (As := [.int 99, .int 108, .int 101, .int 97, .int 110]) (rest := [.long (ab_l h x0 11)]) c_255_161 rfl rfl (Nat.le_of_ble_eq_true rfl) (Nat.le_of_ble_eq_true rfl) t
set_option maxRecDepth 20000 in
theorem t_255_164 {d : Nat} {h : ab_H} {Q : Option Value → ab_H → Prop} {x0 : Nat} {s0 : Int64} {s1 : Int64} (t : if (lg_cmp s0 s1) = 0 then (Q (some (.int 9)) h) else (Q (some (.int 0)) h)) : wq d 255 164 [.ref x0] [.long s1, .long s0] h Q := by
  refine g28 c_255_164 ?_
  refine gif c_255_165 (gbn t (ab_c1 _ _) rfl (fun hc t => ?_) (fun hc t => ?_))
  · refine g1 c_255_168 k_9 ?_
    refine g38 c_255_170 rfl ?_
    exact g90 c_255_174 t
  · refine g1 c_255_173 k_0 ?_
    exact g90 c_255_174 t
-- method 256: MillTownModel.age(I)I
theorem c_256_0 : pg_cd 256 0 = (5, 1, 0, 0, 0) := by decide +kernel
theorem c_256_1 : pg_cd 256 1 = (1, 1, 0, 0, 0) := by decide +kernel
theorem c_256_2 : pg_cd 256 2 = (1, 2, 0, 0, 99) := by decide +kernel
theorem c_256_4 : pg_cd 256 4 = (3, 1, 0, 1, 0) := by decide +kernel
theorem c_256_5 : pg_cd 256 5 = (1, 1, 0, 0, 1) := by decide +kernel
theorem c_256_6 : pg_cd 256 6 = (10, 1, 0, 0, 0) := by decide +kernel
theorem c_256_7 : pg_cd 256 7 = (80, 237, 246, 0, 0) := by decide +kernel
theorem c_256_10 : pg_cd 256 10 = (6, 1, 0, 2, 0) := by decide +kernel
theorem c_256_11 : pg_cd 256 11 = (3, 1, 0, 2, 0) := by decide +kernel
theorem c_256_12 : pg_cd 256 12 = (36, 3, 0, 1, 24) := by decide +kernel
theorem c_256_15 : pg_cd 256 15 = (5, 1, 0, 0, 0) := by decide +kernel
theorem c_256_16 : pg_cd 256 16 = (43, 12, 144, 9, 0) := by decide +kernel
theorem c_256_19 : pg_cd 256 19 = (1, 1, 0, 0, 2) := by decide +kernel
theorem c_256_20 : pg_cd 256 20 = (37, 3, 0, 1, 14) := by decide +kernel
theorem c_256_23 : pg_cd 256 23 = (5, 1, 0, 0, 0) := by decide +kernel
theorem c_256_24 : pg_cd 256 24 = (44, 12, 156, 11, 0) := by decide +kernel
theorem c_256_27 : pg_cd 256 27 = (2, 3, 250, 0, 29807) := by decide +kernel
theorem c_256_30 : pg_cd 256 30 = (28, 1, 0, 0, 0) := by decide +kernel
theorem c_256_31 : pg_cd 256 31 = (36, 3, 0, 0, 5) := by decide +kernel
theorem c_256_34 : pg_cd 256 34 = (1, 1, 0, 0, 1) := by decide +kernel
theorem c_256_35 : pg_cd 256 35 = (6, 1, 0, 2, 0) := by decide +kernel
theorem c_256_36 : pg_cd 256 36 = (3, 1, 0, 2, 0) := by decide +kernel
theorem c_256_37 : pg_cd 256 37 = (36, 3, 0, 0, 5) := by decide +kernel
theorem c_256_40 : pg_cd 256 40 = (3, 1, 0, 2, 0) := by decide +kernel
theorem c_256_41 : pg_cd 256 41 = (90, 0, 0, 0, 0) := by decide +kernel
theorem c_256_42 : pg_cd 256 42 = (5, 1, 0, 0, 0) := by decide +kernel
theorem c_256_43 : pg_cd 256 43 = (80, 231, 168, 0, 0) := by decide +kernel
theorem c_256_46 : pg_cd 256 46 = (5, 1, 0, 0, 0) := by decide +kernel
theorem c_256_47 : pg_cd 256 47 = (5, 1, 0, 0, 0) := by decide +kernel
theorem c_256_48 : pg_cd 256 48 = (45, 12, 8, 0, 0) := by decide +kernel
theorem c_256_51 : pg_cd 256 51 = (3, 1, 0, 1, 0) := by decide +kernel
theorem c_256_52 : pg_cd 256 52 = (1, 1, 0, 0, 1) := by decide +kernel
theorem c_256_53 : pg_cd 256 53 = (10, 1, 0, 0, 0) := by decide +kernel
theorem c_256_54 : pg_cd 256 54 = (50, 1, 0, 0, 0) := by decide +kernel
theorem c_256_55 : pg_cd 256 55 = (1, 2, 0, 0, 99) := by decide +kernel
theorem c_256_57 : pg_cd 256 57 = (3, 1, 0, 1, 0) := by decide +kernel
theorem c_256_58 : pg_cd 256 58 = (1, 1, 0, 0, 2) := by decide +kernel
theorem c_256_59 : pg_cd 256 59 = (10, 1, 0, 0, 0) := by decide +kernel
theorem c_256_60 : pg_cd 256 60 = (80, 237, 246, 0, 0) := by decide +kernel
theorem c_256_63 : pg_cd 256 63 = (6, 1, 0, 2, 0) := by decide +kernel
theorem c_256_64 : pg_cd 256 64 = (3, 1, 0, 2, 0) := by decide +kernel
theorem c_256_65 : pg_cd 256 65 = (36, 3, 0, 1, 21) := by decide +kernel
theorem c_256_68 : pg_cd 256 68 = (5, 1, 0, 0, 0) := by decide +kernel
theorem c_256_69 : pg_cd 256 69 = (1, 2, 0, 0, 104) := by decide +kernel
theorem c_256_71 : pg_cd 256 71 = (1, 2, 0, 0, 111) := by decide +kernel
theorem c_256_73 : pg_cd 256 73 = (1, 2, 0, 0, 117) := by decide +kernel
theorem c_256_75 : pg_cd 256 75 = (1, 2, 0, 0, 114) := by decide +kernel
theorem c_256_77 : pg_cd 256 77 = (1, 2, 0, 0, 115) := by decide +kernel
theorem c_256_79 : pg_cd 256 79 = (81, 233, 191, 0, 0) := by decide +kernel
theorem c_256_82 : pg_cd 256 82 = (80, 236, 252, 0, 0) := by decide +kernel
theorem c_256_85 : pg_cd 256 85 = (6, 1, 0, 2, 0) := by decide +kernel
theorem c_256_86 : pg_cd 256 86 = (3, 1, 0, 2, 0) := by decide +kernel
theorem c_256_87 : pg_cd 256 87 = (36, 3, 0, 1, 16) := by decide +kernel
theorem c_256_90 : pg_cd 256 90 = (5, 1, 0, 0, 0) := by decide +kernel
theorem c_256_91 : pg_cd 256 91 = (1, 1, 0, 0, 0) := by decide +kernel
theorem c_256_92 : pg_cd 256 92 = (1, 2, 0, 0, 80) := by decide +kernel
theorem c_256_94 : pg_cd 256 94 = (3, 1, 0, 1, 0) := by decide +kernel
theorem c_256_95 : pg_cd 256 95 = (1, 1, 0, 0, 3) := by decide +kernel
theorem c_256_96 : pg_cd 256 96 = (10, 1, 0, 0, 0) := by decide +kernel
theorem c_256_97 : pg_cd 256 97 = (80, 237, 246, 0, 0) := by decide +kernel
theorem c_256_100 : pg_cd 256 100 = (38, 3, 0, 0, 4) := by decide +kernel
theorem c_256_103 : pg_cd 256 103 = (3, 1, 0, 2, 0) := by decide +kernel
theorem c_256_104 : pg_cd 256 104 = (90, 0, 0, 0, 0) := by decide +kernel
theorem mx_256 : pg_mx 256 = 3 := by decide +kernel
theorem m_256 {d : Nat} {h : ab_H} {Q : Option Value → ab_H → Prop} {x0 : Nat} {x1 : Int32} (t : wq d 256 0 [.ref x0, .int x1, .retAddr 0] [] h Q) : wm d 256 [.ref x0, .int x1] h Q := by
  unfold wm
  rw [mx_256]
  exact t
set_option maxRecDepth 20000 in
theorem t_256_0 {d : Nat} {h : ab_H} {Q : Option Value → ab_H → Prop} {x0 : Nat} {x1 : Int32} (t : ab_ok h x0 112 = true ∧ wm d 237 [.ref x0, .int 0, .int 99, .int (x1 + 1)] h (fun r9 h9 => wq (d + 1) 256 10 [.ref x0, .int x1, .retAddr 0] (r9.toList ++ []) h9 Q)) : wq (d + 1) 256 0 [.ref x0, .int x1, .retAddr 0] [] h Q := by
  refine g5 c_256_0 rfl ?_
  refine g1 c_256_1 k_0 ?_
  refine g1 c_256_2 k_99 ?_
  refine g3 c_256_4 rfl ?_
  refine g1 c_256_5 k_1 ?_
  refine g10 c_256_6 ?_
  exact g80 (As := [.int 0, .int 99, .int (x1 + 1)]) (rest := []) c_256_7 rfl rfl (Nat.le_of_ble_eq_true rfl) (Nat.le_of_ble_eq_true rfl) t.1 t.2
set_option maxRecDepth 20000 in
theorem t_256_10 {d : Nat} {h : ab_H} {Q : Option Value → ab_H → Prop} {x0 : Nat} {x1 : Int32} {s0 : Int32} (t : if s0 = 0 then (ab_ok h x0 112 = true ∧ if (ab_i h x0 9) = 2 then (ab_ok h x0 112 = true ∧ if (lg_cmp (ab_l h x0 11) 29807) = 0 then (if s0 = 0 then (ab_ok h x0 112 = true ∧ wm d 231 [.ref x0] h (fun r9 h9 => wq (d + 1) 256 46 [.ref x0, .int x1, .int s0] (r9.toList ++ []) h9 Q)) else (Q (some (.int s0)) h)) else (if (1 : Int32) = 0 then (ab_ok h x0 112 = true ∧ wm d 231 [.ref x0] h (fun r9 h9 => wq (d + 1) 256 46 [.ref x0, .int x1, .int 1] (r9.toList ++ []) h9 Q)) else (Q (some (.int 1)) h))) else (if (1 : Int32) = 0 then (ab_ok h x0 112 = true ∧ wm d 231 [.ref x0] h (fun r9 h9 => wq (d + 1) 256 46 [.ref x0, .int x1, .int 1] (r9.toList ++ []) h9 Q)) else (Q (some (.int 1)) h))) else (if s0 = 0 then (ab_ok h x0 112 = true ∧ wm d 231 [.ref x0] h (fun r9 h9 => wq (d + 1) 256 46 [.ref x0, .int x1, .int s0] (r9.toList ++ []) h9 Q)) else (Q (some (.int s0)) h))) : wq (d + 1) 256 10 [.ref x0, .int x1, .retAddr 0] [.int s0] h Q := by
  refine g6 (L' := [.ref x0, .int x1, .int s0]) c_256_10 rfl ?_
  refine g3 c_256_11 rfl ?_
  refine gif c_256_12 (gbn t (ab_c1 _ _) rfl (fun hc t => ?_) (fun hc t => ?_))
  · refine g5 c_256_15 rfl ?_
    obtain ⟨ho, t⟩ := t
    refine g43 c_256_16 ho ?_
    refine g1 c_256_19 k_2 ?_
    refine gcm c_256_20 (gbn t (ab_c1 _ _) rfl (fun hc t => ?_) (fun hc t => ?_))
    · refine g5 c_256_23 rfl ?_
      obtain ⟨ho, t⟩ := t
      refine g44 c_256_24 ho ?_
      refine g2 c_256_27 kl_29807 ?_
      refine g28 c_256_30 ?_
      refine gif c_256_31 (gbr t rfl rfl (fun hc t => ?_) (fun hc t => ?_))
      · refine g3 c_256_36 rfl ?_
        refine gif c_256_37 (gbr t rfl rfl (fun hc t => ?_) (fun hc t => ?_))
        · refine g5 c_256_42 rfl ?_
          exact g80 (As := []) (rest := []) c_256_43 rfl rfl (Nat.le_of_ble_eq_true rfl) (Nat.le_of_ble_eq_true rfl) t.1 t.2
        · refine g3 c_256_40 rfl ?_
          exact g90 c_256_41 t
      · refine g1 c_256_34 k_1 ?_
        refine g6 (L' := [.ref x0, .int x1, .int 1]) c_256_35 rfl ?_
        refine g3 c_256_36 rfl ?_
        refine gif c_256_37 (gbr t rfl rfl (fun hc t => ?_) (fun hc t => ?_))
        · refine g5 c_256_42 rfl ?_
          exact g80 (As := []) (rest := []) c_256_43 rfl rfl (Nat.le_of_ble_eq_true rfl) (Nat.le_of_ble_eq_true rfl) t.1 t.2
        · refine g3 c_256_40 rfl ?_
          exact g90 c_256_41 t
    · refine g1 c_256_34 k_1 ?_
      refine g6 (L' := [.ref x0, .int x1, .int 1]) c_256_35 rfl ?_
      refine g3 c_256_36 rfl ?_
      refine gif c_256_37 (gbr t rfl rfl (fun hc t => ?_) (fun hc t => ?_))
      · refine g5 c_256_42 rfl ?_
        exact g80 (As := []) (rest := []) c_256_43 rfl rfl (Nat.le_of_ble_eq_true rfl) (Nat.le_of_ble_eq_true rfl) t.1 t.2
      · refine g3 c_256_40 rfl ?_
        exact g90 c_256_41 t
  · refine g3 c_256_36 rfl ?_
    refine gif c_256_37 (gbr t rfl rfl (fun hc t => ?_) (fun hc t => ?_))
    · refine g5 c_256_42 rfl ?_
      exact g80 (As := []) (rest := []) c_256_43 rfl rfl (Nat.le_of_ble_eq_true rfl) (Nat.le_of_ble_eq_true rfl) t.1 t.2
    · refine g3 c_256_40 rfl ?_
      exact g90 c_256_41 t
set_option maxRecDepth 20000 in
theorem t_256_46 {d : Nat} {h : ab_H} {Q : Option Value → ab_H → Prop} {x0 : Nat} {x1 : Int32} {x2 : Int32} (t : ab_ok h x0 112 = true ∧ ∃ j1 : Nat, ab_r h x0 0 = some j1 ∧ ((j1 = 0 ∨ ab_ok h j1 0 = true) ∧ ab_in (x1 + 1) (ab_s h j1).2 = true) ∧ ab_ok h x0 112 = true ∧ wm d 237 [.ref x0, .int (ab_i h j1 (Int32.toNatClampNeg (x1 + 1))), .int 99, .int (x1 + 2)] h (fun r9 h9 => wq (d + 1) 256 63 [.ref x0, .int x1, .int x2] (r9.toList ++ []) h9 Q)) : wq (d + 1) 256 46 [.ref x0, .int x1, .int x2] [] h Q := by
  refine g5 c_256_46 rfl ?_
  refine g5 c_256_47 rfl ?_
  obtain ⟨ho, j1, hr, t⟩ := t
  refine g45 c_256_48 ho hr ?_
  refine g3 c_256_51 rfl ?_
  refine g1 c_256_52 k_1 ?_
  refine g10 c_256_53 ?_
  obtain ⟨ho, t⟩ := t
  refine g50 c_256_54 ho ?_
  refine g1 c_256_55 k_99 ?_
  refine g3 c_256_57 rfl ?_
  refine g1 c_256_58 k_2 ?_
  refine g10 c_256_59 ?_
  exact g80 (As := [.int (ab_i h j1 (Int32.toNatClampNeg (x1 + 1))), .int 99, .int (x1 + 2)]) (rest := []) c_256_60 rfl rfl (Nat.le_of_ble_eq_true rfl) (Nat.le_of_ble_eq_true rfl) t.1 t.2
set_option maxRecDepth 20000 in
theorem t_256_63 {d : Nat} {h : ab_H} {Q : Option Value → ab_H → Prop} {x0 : Nat} {x1 : Int32} {x2 : Int32} {s0 : Int32} (t : if s0 = 0 then (wm d 233 [.int 104, .int 111, .int 117, .int 114, .int 115] h (fun r9 h9 => wq (d + 1) 256 82 [.ref x0, .int x1, .int s0] (r9.toList ++ [.ref x0]) h9 Q)) else (if s0 = 0 then (ab_ok h x0 112 = true ∧ wm d 237 [.ref x0, .int 0, .int 80, .int (x1 + 3)] h (fun r9 h9 => wq (d + 1) 256 100 [.ref x0, .int x1, .int s0] (r9.toList ++ []) h9 Q)) else (Q (some (.int s0)) h))) : wq (d + 1) 256 63 [.ref x0, .int x1, .int x2] [.int s0] h Q := by
  refine g6 (L' := [.ref x0, .int x1, .int s0]) c_256_63 rfl ?_
  refine g3 c_256_64 rfl ?_
  refine gif c_256_65 (gbn t (ab_c1 _ _) rfl (fun hc t => ?_) (fun hc t => ?_))
  · refine g5 c_256_68 rfl ?_
    refine g1 c_256_69 k_104 ?_
    refine g1 c_256_71 k_111 ?_
    refine g1 c_256_73 k_117 ?_
    refine g1 c_256_75 k_114 ?_
    refine g1 c_256_77 k_115 ?_
    exact g81 (As := [.int 104, .int 111, .int 117, .int 114, .int 115]) (rest := [.ref x0]) c_256_79 rfl rfl (Nat.le_of_ble_eq_true rfl) (Nat.le_of_ble_eq_true rfl) t
  · refine g3 c_256_86 rfl ?_
    refine gif c_256_87 (gbn t (ab_c1 _ _) rfl (fun hc t => ?_) (fun hc t => ?_))
    · refine g5 c_256_90 rfl ?_
      refine g1 c_256_91 k_0 ?_
      refine g1 c_256_92 k_80 ?_
      refine g3 c_256_94 rfl ?_
      refine g1 c_256_95 k_3 ?_
      refine g10 c_256_96 ?_
      exact g80 (As := [.int 0, .int 80, .int (x1 + 3)]) (rest := []) c_256_97 rfl rfl (Nat.le_of_ble_eq_true rfl) (Nat.le_of_ble_eq_true rfl) t.1 t.2
    · refine g3 c_256_103 rfl ?_
      exact g90 c_256_104 t
set_option maxRecDepth 20000 in
theorem t_256_82 {d : Nat} {h : ab_H} {Q : Option Value → ab_H → Prop} {x0 : Nat} {x1 : Int32} {x2 : Int32} {s0 : Nat} {s1 : Int64} (t : ab_ok h s0 112 = true ∧ wm d 236 [.ref s0, .long s1] h (fun r9 h9 => wq (d + 1) 256 85 [.ref x0, .int x1, .int x2] (r9.toList ++ []) h9 Q)) : wq (d + 1) 256 82 [.ref x0, .int x1, .int x2] [.long s1, .ref s0] h Q := by
  exact g80 (As := [.long s1]) (rest := []) c_256_82 rfl rfl (Nat.le_of_ble_eq_true rfl) (Nat.le_of_ble_eq_true rfl) t.1 t.2
set_option maxRecDepth 20000 in
theorem t_256_85 {d : Nat} {h : ab_H} {Q : Option Value → ab_H → Prop} {x0 : Nat} {x1 : Int32} {x2 : Int32} {s0 : Int32} (t : if s0 = 0 then (ab_ok h x0 112 = true ∧ wm d 237 [.ref x0, .int 0, .int 80, .int (x1 + 3)] h (fun r9 h9 => wq (d + 1) 256 100 [.ref x0, .int x1, .int s0] (r9.toList ++ []) h9 Q)) else (Q (some (.int s0)) h)) : wq (d + 1) 256 85 [.ref x0, .int x1, .int x2] [.int s0] h Q := by
  refine g6 (L' := [.ref x0, .int x1, .int s0]) c_256_85 rfl ?_
  refine g3 c_256_86 rfl ?_
  refine gif c_256_87 (gbn t (ab_c1 _ _) rfl (fun hc t => ?_) (fun hc t => ?_))
  · refine g5 c_256_90 rfl ?_
    refine g1 c_256_91 k_0 ?_
    refine g1 c_256_92 k_80 ?_
    refine g3 c_256_94 rfl ?_
    refine g1 c_256_95 k_3 ?_
    refine g10 c_256_96 ?_
    exact g80 (As := [.int 0, .int 80, .int (x1 + 3)]) (rest := []) c_256_97 rfl rfl (Nat.le_of_ble_eq_true rfl) (Nat.le_of_ble_eq_true rfl) t.1 t.2
  · refine g3 c_256_103 rfl ?_
    exact g90 c_256_104 t
set_option maxRecDepth 20000 in
theorem t_256_100 {d : Nat} {h : ab_H} {Q : Option Value → ab_H → Prop} {x0 : Nat} {x1 : Int32} {x2 : Int32} {s0 : Int32} (t : Q (some (.int s0)) h) : wq d 256 100 [.ref x0, .int x1, .int x2] [.int s0] h Q := by
  refine g38 c_256_100 rfl ?_
  exact g90 c_256_104 t
-- method 257: MillTownModel.clause()I
theorem c_257_0 : pg_cd 257 0 = (5, 1, 0, 0, 0) := by decide +kernel
theorem c_257_1 : pg_cd 257 1 = (80, 255, 256, 0, 0) := by decide +kernel
theorem c_257_4 : pg_cd 257 4 = (6, 1, 0, 1, 0) := by decide +kernel
theorem c_257_5 : pg_cd 257 5 = (3, 1, 0, 1, 0) := by decide +kernel
theorem c_257_6 : pg_cd 257 6 = (36, 3, 0, 1, 5) := by decide +kernel
theorem c_257_9 : pg_cd 257 9 = (1, 1, 0, 0, 1) := by decide +kernel
theorem c_257_10 : pg_cd 257 10 = (90, 0, 0, 0, 0) := by decide +kernel
theorem c_257_11 : pg_cd 257 11 = (5, 1, 0, 0, 0) := by decide +kernel
theorem c_257_12 : pg_cd 257 12 = (43, 12, 259, 13, 0) := by decide +kernel
theorem c_257_15 : pg_cd 257 15 = (1, 2, 0, 0, 24) := by decide +kernel
theorem c_257_17 : pg_cd 257 17 = (37, 3, 0, 1, 5) := by decide +kernel
theorem c_257_20 : pg_cd 257 20 = (1, 1, 0, 0, 4) := by decide +kernel
theorem c_257_21 : pg_cd 257 21 = (90, 0, 0, 0, 0) := by decide +kernel
theorem c_257_22 : pg_cd 257 22 = (5, 1, 0, 0, 0) := by decide +kernel
theorem c_257_23 : pg_cd 257 23 = (43, 12, 171, 12, 0) := by decide +kernel
theorem c_257_26 : pg_cd 257 26 = (1, 1, 0, 0, 1) := by decide +kernel
theorem c_257_27 : pg_cd 257 27 = (10, 1, 0, 0, 0) := by decide +kernel
theorem c_257_28 : pg_cd 257 28 = (1, 2, 0, 0, 8) := by decide +kernel
theorem c_257_30 : pg_cd 257 30 = (5, 1, 0, 0, 0) := by decide +kernel
theorem c_257_31 : pg_cd 257 31 = (43, 12, 259, 13, 0) := by decide +kernel
theorem c_257_34 : pg_cd 257 34 = (12, 1, 0, 0, 0) := by decide +kernel
theorem c_257_35 : pg_cd 257 35 = (10, 1, 0, 0, 0) := by decide +kernel
theorem c_257_36 : pg_cd 257 36 = (6, 1, 0, 2, 0) := by decide +kernel
theorem c_257_37 : pg_cd 257 37 = (5, 1, 0, 0, 0) := by decide +kernel
theorem c_257_38 : pg_cd 257 38 = (45, 12, 8, 0, 0) := by decide +kernel
theorem c_257_41 : pg_cd 257 41 = (3, 1, 0, 2, 0) := by decide +kernel
theorem c_257_42 : pg_cd 257 42 = (3, 1, 0, 1, 0) := by decide +kernel
theorem c_257_43 : pg_cd 257 43 = (54, 1, 0, 0, 0) := by decide +kernel
theorem c_257_44 : pg_cd 257 44 = (5, 1, 0, 0, 0) := by decide +kernel
theorem c_257_45 : pg_cd 257 45 = (80, 231, 168, 0, 0) := by decide +kernel
theorem c_257_48 : pg_cd 257 48 = (1, 1, 0, 0, 0) := by decide +kernel
theorem c_257_49 : pg_cd 257 49 = (6, 1, 0, 3, 0) := by decide +kernel
theorem c_257_50 : pg_cd 257 50 = (3, 1, 0, 1, 0) := by decide +kernel
theorem c_257_51 : pg_cd 257 51 = (1, 1, 0, 0, 1) := by decide +kernel
theorem c_257_52 : pg_cd 257 52 = (37, 3, 0, 1, 9) := by decide +kernel
theorem c_257_55 : pg_cd 257 55 = (5, 1, 0, 0, 0) := by decide +kernel
theorem c_257_56 : pg_cd 257 56 = (3, 1, 0, 2, 0) := by decide +kernel
theorem c_257_57 : pg_cd 257 57 = (80, 253, 243, 0, 0) := by decide +kernel
theorem c_257_60 : pg_cd 257 60 = (6, 1, 0, 3, 0) := by decide +kernel
theorem c_257_61 : pg_cd 257 61 = (3, 1, 0, 1, 0) := by decide +kernel
theorem c_257_62 : pg_cd 257 62 = (1, 1, 0, 0, 2) := by decide +kernel
theorem c_257_63 : pg_cd 257 63 = (37, 3, 0, 1, 24) := by decide +kernel
theorem c_257_66 : pg_cd 257 66 = (5, 1, 0, 0, 0) := by decide +kernel
theorem c_257_67 : pg_cd 257 67 = (1, 1, 0, 0, 0) := by decide +kernel
theorem c_257_68 : pg_cd 257 68 = (1, 2, 0, 0, 29) := by decide +kernel
theorem c_257_70 : pg_cd 257 70 = (3, 1, 0, 2, 0) := by decide +kernel
theorem c_257_71 : pg_cd 257 71 = (1, 1, 0, 0, 1) := by decide +kernel
theorem c_257_72 : pg_cd 257 72 = (10, 1, 0, 0, 0) := by decide +kernel
theorem c_257_73 : pg_cd 257 73 = (80, 237, 246, 0, 0) := by decide +kernel
theorem c_257_76 : pg_cd 257 76 = (6, 1, 0, 3, 0) := by decide +kernel
theorem c_257_77 : pg_cd 257 77 = (3, 1, 0, 3, 0) := by decide +kernel
theorem c_257_78 : pg_cd 257 78 = (36, 3, 0, 1, 9) := by decide +kernel
theorem c_257_81 : pg_cd 257 81 = (5, 1, 0, 0, 0) := by decide +kernel
theorem c_257_82 : pg_cd 257 82 = (3, 1, 0, 2, 0) := by decide +kernel
theorem c_257_83 : pg_cd 257 83 = (80, 254, 262, 0, 0) := by decide +kernel
theorem c_257_86 : pg_cd 257 86 = (6, 1, 0, 3, 0) := by decide +kernel
theorem c_257_87 : pg_cd 257 87 = (3, 1, 0, 1, 0) := by decide +kernel
theorem c_257_88 : pg_cd 257 88 = (1, 1, 0, 0, 4) := by decide +kernel
theorem c_257_89 : pg_cd 257 89 = (37, 3, 0, 1, 42) := by decide +kernel
theorem c_257_92 : pg_cd 257 92 = (5, 1, 0, 0, 0) := by decide +kernel
theorem c_257_93 : pg_cd 257 93 = (45, 12, 8, 0, 0) := by decide +kernel
theorem c_257_96 : pg_cd 257 96 = (3, 1, 0, 2, 0) := by decide +kernel
theorem c_257_97 : pg_cd 257 97 = (1, 1, 0, 0, 4) := by decide +kernel
theorem c_257_98 : pg_cd 257 98 = (10, 1, 0, 0, 0) := by decide +kernel
theorem c_257_99 : pg_cd 257 99 = (5, 1, 0, 0, 0) := by decide +kernel
theorem c_257_100 : pg_cd 257 100 = (43, 12, 174, 14, 0) := by decide +kernel
theorem c_257_103 : pg_cd 257 103 = (54, 1, 0, 0, 0) := by decide +kernel
theorem c_257_104 : pg_cd 257 104 = (5, 1, 0, 0, 0) := by decide +kernel
theorem c_257_105 : pg_cd 257 105 = (80, 250, 265, 0, 0) := by decide +kernel
theorem c_257_108 : pg_cd 257 108 = (6, 1, 0, 3, 0) := by decide +kernel
theorem c_257_109 : pg_cd 257 109 = (5, 1, 0, 0, 0) := by decide +kernel
theorem c_257_110 : pg_cd 257 110 = (45, 12, 8, 0, 0) := by decide +kernel
theorem c_257_113 : pg_cd 257 113 = (3, 1, 0, 2, 0) := by decide +kernel
theorem c_257_114 : pg_cd 257 114 = (1, 1, 0, 0, 5) := by decide +kernel
theorem c_257_115 : pg_cd 257 115 = (10, 1, 0, 0, 0) := by decide +kernel
theorem c_257_116 : pg_cd 257 116 = (5, 1, 0, 0, 0) := by decide +kernel
theorem c_257_117 : pg_cd 257 117 = (43, 12, 174, 14, 0) := by decide +kernel
theorem c_257_120 : pg_cd 257 120 = (54, 1, 0, 0, 0) := by decide +kernel
theorem c_257_121 : pg_cd 257 121 = (3, 1, 0, 3, 0) := by decide +kernel
theorem c_257_122 : pg_cd 257 122 = (36, 3, 0, 1, 9) := by decide +kernel
theorem c_257_125 : pg_cd 257 125 = (5, 1, 0, 0, 0) := by decide +kernel
theorem c_257_126 : pg_cd 257 126 = (3, 1, 0, 2, 0) := by decide +kernel
theorem c_257_127 : pg_cd 257 127 = (80, 254, 262, 0, 0) := by decide +kernel
theorem c_257_130 : pg_cd 257 130 = (6, 1, 0, 3, 0) := by decide +kernel
theorem c_257_131 : pg_cd 257 131 = (3, 1, 0, 1, 0) := by decide +kernel
theorem c_257_132 : pg_cd 257 132 = (1, 2, 0, 0, 6) := by decide +kernel
theorem c_257_134 : pg_cd 257 134 = (37, 3, 0, 1, 15) := by decide +kernel
theorem c_257_137 : pg_cd 257 137 = (5, 1, 0, 0, 0) := by decide +kernel
theorem c_257_138 : pg_cd 257 138 = (1, 1, 0, 0, 0) := by decide +kernel
theorem c_257_139 : pg_cd 257 139 = (1, 3, 0, 0, 9999) := by decide +kernel
theorem c_257_142 : pg_cd 257 142 = (3, 1, 0, 2, 0) := by decide +kernel
theorem c_257_143 : pg_cd 257 143 = (1, 1, 0, 0, 1) := by decide +kernel
theorem c_257_144 : pg_cd 257 144 = (10, 1, 0, 0, 0) := by decide +kernel
theorem c_257_145 : pg_cd 257 145 = (80, 237, 246, 0, 0) := by decide +kernel
theorem c_257_148 : pg_cd 257 148 = (6, 1, 0, 3, 0) := by decide +kernel
theorem c_257_149 : pg_cd 257 149 = (3, 1, 0, 1, 0) := by decide +kernel
theorem c_257_150 : pg_cd 257 150 = (1, 2, 0, 0, 7) := by decide +kernel
theorem c_257_152 : pg_cd 257 152 = (37, 3, 0, 1, 9) := by decide +kernel
theorem c_257_155 : pg_cd 257 155 = (5, 1, 0, 0, 0) := by decide +kernel
theorem c_257_156 : pg_cd 257 156 = (3, 1, 0, 2, 0) := by decide +kernel
theorem c_257_157 : pg_cd 257 157 = (80, 256, 268, 0, 0) := by decide +kernel
theorem c_257_160 : pg_cd 257 160 = (6, 1, 0, 3, 0) := by decide +kernel
theorem c_257_161 : pg_cd 257 161 = (3, 1, 0, 1, 0) := by decide +kernel
theorem c_257_162 : pg_cd 257 162 = (1, 2, 0, 0, 7) := by decide +kernel
theorem c_257_164 : pg_cd 257 164 = (37, 3, 0, 5, 14) := by decide +kernel
theorem c_257_167 : pg_cd 257 167 = (5, 1, 0, 0, 0) := by decide +kernel
theorem c_257_168 : pg_cd 257 168 = (1, 1, 0, 0, 0) := by decide +kernel
theorem c_257_169 : pg_cd 257 169 = (1, 2, 0, 0, 20) := by decide +kernel
theorem c_257_171 : pg_cd 257 171 = (3, 1, 0, 2, 0) := by decide +kernel
theorem c_257_172 : pg_cd 257 172 = (1, 1, 0, 0, 1) := by decide +kernel
theorem c_257_173 : pg_cd 257 173 = (10, 1, 0, 0, 0) := by decide +kernel
theorem c_257_174 : pg_cd 257 174 = (80, 237, 246, 0, 0) := by decide +kernel
theorem c_257_177 : pg_cd 257 177 = (6, 1, 0, 3, 0) := by decide +kernel
theorem c_257_178 : pg_cd 257 178 = (3, 1, 0, 3, 0) := by decide +kernel
theorem c_257_179 : pg_cd 257 179 = (36, 3, 0, 0, 5) := by decide +kernel
theorem c_257_182 : pg_cd 257 182 = (3, 1, 0, 3, 0) := by decide +kernel
theorem c_257_183 : pg_cd 257 183 = (90, 0, 0, 0, 0) := by decide +kernel
theorem c_257_184 : pg_cd 257 184 = (5, 1, 0, 0, 0) := by decide +kernel
theorem c_257_185 : pg_cd 257 185 = (43, 12, 144, 9, 0) := by decide +kernel
theorem c_257_188 : pg_cd 257 188 = (1, 2, 0, 0, 59) := by decide +kernel
theorem c_257_190 : pg_cd 257 190 = (37, 3, 0, 0, 5) := by decide +kernel
theorem c_257_193 : pg_cd 257 193 = (1, 1, 0, 0, 1) := by decide +kernel
theorem c_257_194 : pg_cd 257 194 = (90, 0, 0, 0, 0) := by decide +kernel
theorem c_257_195 : pg_cd 257 195 = (5, 1, 0, 0, 0) := by decide +kernel
theorem c_257_196 : pg_cd 257 196 = (33, 1, 0, 0, 0) := by decide +kernel
theorem c_257_197 : pg_cd 257 197 = (43, 12, 259, 13, 0) := by decide +kernel
theorem c_257_200 : pg_cd 257 200 = (1, 1, 0, 0, 1) := by decide +kernel
theorem c_257_201 : pg_cd 257 201 = (10, 1, 0, 0, 0) := by decide +kernel
theorem c_257_202 : pg_cd 257 202 = (46, 12, 259, 13, 0) := by decide +kernel
theorem c_257_205 : pg_cd 257 205 = (5, 1, 0, 0, 0) := by decide +kernel
theorem c_257_206 : pg_cd 257 206 = (80, 231, 168, 0, 0) := by decide +kernel
theorem c_257_209 : pg_cd 257 209 = (1, 1, 0, 0, 0) := by decide +kernel
theorem c_257_210 : pg_cd 257 210 = (90, 0, 0, 0, 0) := by decide +kernel
theorem mx_257 : pg_mx 257 = 4 := by decide +kernel
theorem m_257 {d : Nat} {h : ab_H} {Q : Option Value → ab_H → Prop} {x0 : Nat} (t : wq d 257 0 [.ref x0, .retAddr 0, .retAddr 0, .retAddr 0] [] h Q) : wm d 257 [.ref x0] h Q := by
  unfold wm
  rw [mx_257]
  exact t
set_option maxRecDepth 20000 in
theorem t_257_0 {d : Nat} {h : ab_H} {Q : Option Value → ab_H → Prop} {x0 : Nat} (t : ab_ok h x0 112 = true ∧ wm d 255 [.ref x0] h (fun r9 h9 => wq (d + 1) 257 4 [.ref x0, .retAddr 0, .retAddr 0, .retAddr 0] (r9.toList ++ []) h9 Q)) : wq (d + 1) 257 0 [.ref x0, .retAddr 0, .retAddr 0, .retAddr 0] [] h Q := by
  refine g5 c_257_0 rfl ?_
  exact g80 (As := []) (rest := []) c_257_1 rfl rfl (Nat.le_of_ble_eq_true rfl) (Nat.le_of_ble_eq_true rfl) t.1 t.2
set_option maxRecDepth 20000 in
theorem t_257_4 {d : Nat} {h : ab_H} {Q : Option Value → ab_H → Prop} {x0 : Nat} {s0 : Int32} (t : if s0 = 0 then (Q (some (.int 1)) h) else (ab_ok h x0 112 = true ∧ if (ab_i h x0 13) = 24 then (Q (some (.int 4)) h) else (ab_ok h x0 112 = true ∧ ab_ok h x0 112 = true ∧ ∀ y1 : Int32, y1 = (((ab_i h x0 12) + 1) + (8 * (ab_i h x0 13))) → ab_ok h x0 112 = true ∧ ∃ j2 : Nat, ab_r h x0 0 = some j2 ∧ (ab_ok h j2 0 = true ∧ ab_in y1 (ab_s h j2).2 = true) ∧ ∀ h3 : ab_H, h3 = ab_pi h j2 (Int32.toNatClampNeg y1) s0 → ab_ok h3 x0 112 = true ∧ wm d 231 [.ref x0] h3 (fun r9 h9 => wq (d + 1) 257 48 [.ref x0, .int s0, .int y1, .retAddr 0] (r9.toList ++ []) h9 Q)))) : wq (d + 1) 257 4 [.ref x0, .retAddr 0, .retAddr 0, .retAddr 0] [.int s0] h Q := by
  refine g6 (L' := [.ref x0, .int s0, .retAddr 0, .retAddr 0]) c_257_4 rfl ?_
  refine g3 c_257_5 rfl ?_
  refine gif c_257_6 (gbn t (ab_c1 _ _) rfl (fun hc t => ?_) (fun hc t => ?_))
  · refine g1 c_257_9 k_1 ?_
    exact g90 c_257_10 t
  · refine g5 c_257_11 rfl ?_
    obtain ⟨ho, t⟩ := t
    refine g43 c_257_12 ho ?_
    refine g1 c_257_15 k_24 ?_
    refine gcm c_257_17 (gbn t (ab_c1 _ _) rfl (fun hc t => ?_) (fun hc t => ?_))
    · refine g1 c_257_20 k_4 ?_
      exact g90 c_257_21 t
    · refine g5 c_257_22 rfl ?_
      obtain ⟨ho, t⟩ := t
      refine g43 c_257_23 ho ?_
      refine g1 c_257_26 k_1 ?_
      refine g10 c_257_27 ?_
      refine g1 c_257_28 k_8 ?_
      refine g5 c_257_30 rfl ?_
      obtain ⟨ho, t⟩ := t
      refine g43 c_257_31 ho ?_
      refine g12 c_257_34 ?_
      refine g10 c_257_35 ?_
      refine g6y (Lf := fun y1 => [.ref x0, .int s0, .int y1, .retAddr 0]) c_257_36 (fun _ => rfl) (fun y1 ey1 => ?_)
      have t := t y1 ey1
      refine g5 c_257_37 rfl ?_
      obtain ⟨ho, j2, hr, t⟩ := t
      refine g45 c_257_38 ho hr ?_
      refine g3 c_257_41 rfl ?_
      refine g3 c_257_42 rfl ?_
      obtain ⟨ho, t⟩ := t
      refine g54 c_257_43 ho (fun h3 eh3 => ?_)
      have t := t h3 eh3
      refine g5 c_257_44 rfl ?_
      exact g80 (As := []) (rest := []) c_257_45 rfl rfl (Nat.le_of_ble_eq_true rfl) (Nat.le_of_ble_eq_true rfl) t.1 t.2
set_option maxRecDepth 20000 in
theorem t_257_48 {d : Nat} {h : ab_H} {Q : Option Value → ab_H → Prop} {x0 : Nat} {x1 : Int32} {x2 : Int32} (t : if x1 = 1 then (ab_ok h x0 112 = true ∧ wm d 253 [.ref x0, .int x2] h (fun r9 h9 => wq (d + 1) 257 60 [.ref x0, .int x1, .int x2, .int 0] (r9.toList ++ []) h9 Q)) else (if x1 = 2 then (ab_ok h x0 112 = true ∧ wm d 237 [.ref x0, .int 0, .int 29, .int (x2 + 1)] h (fun r9 h9 => wq (d + 1) 257 76 [.ref x0, .int x1, .int x2, .int 0] (r9.toList ++ []) h9 Q)) else (if x1 = 4 then (ab_ok h x0 112 = true ∧ ∃ j1 : Nat, ab_r h x0 0 = some j1 ∧ ab_ok h x0 112 = true ∧ (ab_ok h j1 0 = true ∧ ab_in (x2 + 4) (ab_s h j1).2 = true) ∧ ∀ h2 : ab_H, h2 = ab_pi h j1 (Int32.toNatClampNeg (x2 + 4)) (ab_i h x0 14) → ab_ok h2 x0 112 = true ∧ wm d 250 [.ref x0] h2 (fun r9 h9 => wq (d + 1) 257 108 [.ref x0, .int x1, .int x2, .int 0] (r9.toList ++ []) h9 Q)) else (if x1 = 6 then (ab_ok h x0 112 = true ∧ wm d 237 [.ref x0, .int 0, .int 9999, .int (x2 + 1)] h (fun r9 h9 => wq (d + 1) 257 148 [.ref x0, .int x1, .int x2, .int 0] (r9.toList ++ []) h9 Q)) else (if x1 = 7 then (ab_ok h x0 112 = true ∧ wm d 256 [.ref x0, .int x2] h (fun r9 h9 => wq (d + 1) 257 160 [.ref x0, .int x1, .int x2, .int 0] (r9.toList ++ []) h9 Q)) else (if x1 ≤ 7 then (if (0 : Int32) = 0 then (ab_ok h x0 112 = true ∧ if (ab_i h x0 9) = 59 then (ab_ok h x0 112 = true ∧ ab_ok h x0 112 = true ∧ ∀ h3 : ab_H, h3 = ab_pi h x0 13 ((ab_i h x0 13) + 1) → ab_ok h3 x0 112 = true ∧ wm d 231 [.ref x0] h3 (fun r9 h9 => wq (d + 1) 257 209 [.ref x0, .int x1, .int x2, .int 0] (r9.toList ++ []) h9 Q)) else (Q (some (.int 1)) h)) else (Q (some (.int 0)) h)) else (ab_ok h x0 112 = true ∧ wm d 237 [.ref x0, .int 0, .int 20, .int (x2 + 1)] h (fun r9 h9 => wq (d + 1) 257 177 [.ref x0, .int x1, .int x2, .int 0] (r9.toList ++ []) h9 Q)))))))) : wq (d + 1) 257 48 [.ref x0, .int x1, .int x2, .retAddr 0] [] h Q := by
  refine g1 c_257_48 k_0 ?_
  refine g6 (L' := [.ref x0, .int x1, .int x2, .int 0]) c_257_49 rfl ?_
  refine g3 c_257_50 rfl ?_
  refine g1 c_257_51 k_1 ?_
  refine gcm c_257_52 (gbn t (ab_c1 _ _) rfl (fun hc t => ?_) (fun hc t => ?_))
  · refine g5 c_257_55 rfl ?_
    refine g3 c_257_56 rfl ?_
    exact g80 (As := [.int x2]) (rest := []) c_257_57 rfl rfl (Nat.le_of_ble_eq_true rfl) (Nat.le_of_ble_eq_true rfl) t.1 t.2
  · refine g3 c_257_61 rfl ?_
    refine g1 c_257_62 k_2 ?_
    refine gcm c_257_63 (gbn t (ab_c1 _ _) rfl (fun hc t => ?_) (fun hc t => ?_))
    · refine g5 c_257_66 rfl ?_
      refine g1 c_257_67 k_0 ?_
      refine g1 c_257_68 k_29 ?_
      refine g3 c_257_70 rfl ?_
      refine g1 c_257_71 k_1 ?_
      refine g10 c_257_72 ?_
      exact g80 (As := [.int 0, .int 29, .int (x2 + 1)]) (rest := []) c_257_73 rfl rfl (Nat.le_of_ble_eq_true rfl) (Nat.le_of_ble_eq_true rfl) t.1 t.2
    · refine g3 c_257_87 rfl ?_
      refine g1 c_257_88 k_4 ?_
      refine gcm c_257_89 (gbn t (ab_c1 _ _) rfl (fun hc t => ?_) (fun hc t => ?_))
      · refine g5 c_257_92 rfl ?_
        obtain ⟨ho, j1, hr, t⟩ := t
        refine g45 c_257_93 ho hr ?_
        refine g3 c_257_96 rfl ?_
        refine g1 c_257_97 k_4 ?_
        refine g10 c_257_98 ?_
        refine g5 c_257_99 rfl ?_
        obtain ⟨ho, t⟩ := t
        refine g43 c_257_100 ho ?_
        obtain ⟨ho, t⟩ := t
        refine g54 c_257_103 ho (fun h2 eh2 => ?_)
        have t := t h2 eh2
        refine g5 c_257_104 rfl ?_
        exact g80 (As := []) (rest := []) c_257_105 rfl rfl (Nat.le_of_ble_eq_true rfl) (Nat.le_of_ble_eq_true rfl) t.1 t.2
      · refine g3 c_257_131 rfl ?_
        refine g1 c_257_132 k_6 ?_
        refine gcm c_257_134 (gbn t (ab_c1 _ _) rfl (fun hc t => ?_) (fun hc t => ?_))
        · refine g5 c_257_137 rfl ?_
          refine g1 c_257_138 k_0 ?_
          refine g1 c_257_139 k_9999 ?_
          refine g3 c_257_142 rfl ?_
          refine g1 c_257_143 k_1 ?_
          refine g10 c_257_144 ?_
          exact g80 (As := [.int 0, .int 9999, .int (x2 + 1)]) (rest := []) c_257_145 rfl rfl (Nat.le_of_ble_eq_true rfl) (Nat.le_of_ble_eq_true rfl) t.1 t.2
        · refine g3 c_257_149 rfl ?_
          refine g1 c_257_150 k_7 ?_
          refine gcm c_257_152 (gbn t (ab_c1 _ _) rfl (fun hc t => ?_) (fun hc t => ?_))
          · refine g5 c_257_155 rfl ?_
            refine g3 c_257_156 rfl ?_
            exact g80 (As := [.int x2]) (rest := []) c_257_157 rfl rfl (Nat.le_of_ble_eq_true rfl) (Nat.le_of_ble_eq_true rfl) t.1 t.2
          · refine g3 c_257_161 rfl ?_
            refine g1 c_257_162 k_7 ?_
            refine gcm c_257_164 (gbr t rfl rfl (fun hc t => ?_) (fun hc t => ?_))
            · refine g3 c_257_178 rfl ?_
              refine gif c_257_179 (gbr t rfl rfl (fun hc t => ?_) (fun hc t => ?_))
              · refine g5 c_257_184 rfl ?_
                obtain ⟨ho, t⟩ := t
                refine g43 c_257_185 ho ?_
                refine g1 c_257_188 k_59 ?_
                refine gcm c_257_190 (gbr t rfl rfl (fun hc t => ?_) (fun hc t => ?_))
                · refine g5 c_257_195 rfl ?_
                  refine g33a c_257_196 ?_
                  obtain ⟨ho, t⟩ := t
                  refine g43 c_257_197 ho ?_
                  refine g1 c_257_200 k_1 ?_
                  refine g10 c_257_201 ?_
                  obtain ⟨ho, t⟩ := t
                  refine g46 c_257_202 ho (fun h3 eh3 => ?_)
                  have t := t h3 eh3
                  refine g5 c_257_205 rfl ?_
                  exact g80 (As := []) (rest := []) c_257_206 rfl rfl (Nat.le_of_ble_eq_true rfl) (Nat.le_of_ble_eq_true rfl) t.1 t.2
                · refine g1 c_257_193 k_1 ?_
                  exact g90 c_257_194 t
              · refine g3 c_257_182 rfl ?_
                exact g90 c_257_183 t
            · refine g5 c_257_167 rfl ?_
              refine g1 c_257_168 k_0 ?_
              refine g1 c_257_169 k_20 ?_
              refine g3 c_257_171 rfl ?_
              refine g1 c_257_172 k_1 ?_
              refine g10 c_257_173 ?_
              exact g80 (As := [.int 0, .int 20, .int (x2 + 1)]) (rest := []) c_257_174 rfl rfl (Nat.le_of_ble_eq_true rfl) (Nat.le_of_ble_eq_true rfl) t.1 t.2
set_option maxRecDepth 20000 in
theorem t_257_60 {d : Nat} {h : ab_H} {Q : Option Value → ab_H → Prop} {x0 : Nat} {x1 : Int32} {x2 : Int32} {x3 : Int32} {s0 : Int32} (t : if x1 = 2 then (ab_ok h x0 112 = true ∧ wm d 237 [.ref x0, .int 0, .int 29, .int (x2 + 1)] h (fun r9 h9 => wq (d + 1) 257 76 [.ref x0, .int x1, .int x2, .int s0] (r9.toList ++ []) h9 Q)) else (if x1 = 4 then (ab_ok h x0 112 = true ∧ ∃ j1 : Nat, ab_r h x0 0 = some j1 ∧ ab_ok h x0 112 = true ∧ (ab_ok h j1 0 = true ∧ ab_in (x2 + 4) (ab_s h j1).2 = true) ∧ ∀ h2 : ab_H, h2 = ab_pi h j1 (Int32.toNatClampNeg (x2 + 4)) (ab_i h x0 14) → ab_ok h2 x0 112 = true ∧ wm d 250 [.ref x0] h2 (fun r9 h9 => wq (d + 1) 257 108 [.ref x0, .int x1, .int x2, .int s0] (r9.toList ++ []) h9 Q)) else (if x1 = 6 then (ab_ok h x0 112 = true ∧ wm d 237 [.ref x0, .int 0, .int 9999, .int (x2 + 1)] h (fun r9 h9 => wq (d + 1) 257 148 [.ref x0, .int x1, .int x2, .int s0] (r9.toList ++ []) h9 Q)) else (if x1 = 7 then (ab_ok h x0 112 = true ∧ wm d 256 [.ref x0, .int x2] h (fun r9 h9 => wq (d + 1) 257 160 [.ref x0, .int x1, .int x2, .int s0] (r9.toList ++ []) h9 Q)) else (if x1 ≤ 7 then (if s0 = 0 then (ab_ok h x0 112 = true ∧ if (ab_i h x0 9) = 59 then (ab_ok h x0 112 = true ∧ ab_ok h x0 112 = true ∧ ∀ h3 : ab_H, h3 = ab_pi h x0 13 ((ab_i h x0 13) + 1) → ab_ok h3 x0 112 = true ∧ wm d 231 [.ref x0] h3 (fun r9 h9 => wq (d + 1) 257 209 [.ref x0, .int x1, .int x2, .int s0] (r9.toList ++ []) h9 Q)) else (Q (some (.int 1)) h)) else (Q (some (.int s0)) h)) else (ab_ok h x0 112 = true ∧ wm d 237 [.ref x0, .int 0, .int 20, .int (x2 + 1)] h (fun r9 h9 => wq (d + 1) 257 177 [.ref x0, .int x1, .int x2, .int s0] (r9.toList ++ []) h9 Q))))))) : wq (d + 1) 257 60 [.ref x0, .int x1, .int x2, .int x3] [.int s0] h Q := by
  refine g6 (L' := [.ref x0, .int x1, .int x2, .int s0]) c_257_60 rfl ?_
  refine g3 c_257_61 rfl ?_
  refine g1 c_257_62 k_2 ?_
  refine gcm c_257_63 (gbn t (ab_c1 _ _) rfl (fun hc t => ?_) (fun hc t => ?_))
  · refine g5 c_257_66 rfl ?_
    refine g1 c_257_67 k_0 ?_
    refine g1 c_257_68 k_29 ?_
    refine g3 c_257_70 rfl ?_
    refine g1 c_257_71 k_1 ?_
    refine g10 c_257_72 ?_
    exact g80 (As := [.int 0, .int 29, .int (x2 + 1)]) (rest := []) c_257_73 rfl rfl (Nat.le_of_ble_eq_true rfl) (Nat.le_of_ble_eq_true rfl) t.1 t.2
  · refine g3 c_257_87 rfl ?_
    refine g1 c_257_88 k_4 ?_
    refine gcm c_257_89 (gbn t (ab_c1 _ _) rfl (fun hc t => ?_) (fun hc t => ?_))
    · refine g5 c_257_92 rfl ?_
      obtain ⟨ho, j1, hr, t⟩ := t
      refine g45 c_257_93 ho hr ?_
      refine g3 c_257_96 rfl ?_
      refine g1 c_257_97 k_4 ?_
      refine g10 c_257_98 ?_
      refine g5 c_257_99 rfl ?_
      obtain ⟨ho, t⟩ := t
      refine g43 c_257_100 ho ?_
      obtain ⟨ho, t⟩ := t
      refine g54 c_257_103 ho (fun h2 eh2 => ?_)
      have t := t h2 eh2
      refine g5 c_257_104 rfl ?_
      exact g80 (As := []) (rest := []) c_257_105 rfl rfl (Nat.le_of_ble_eq_true rfl) (Nat.le_of_ble_eq_true rfl) t.1 t.2
    · refine g3 c_257_131 rfl ?_
      refine g1 c_257_132 k_6 ?_
      refine gcm c_257_134 (gbn t (ab_c1 _ _) rfl (fun hc t => ?_) (fun hc t => ?_))
      · refine g5 c_257_137 rfl ?_
        refine g1 c_257_138 k_0 ?_
        refine g1 c_257_139 k_9999 ?_
        refine g3 c_257_142 rfl ?_
        refine g1 c_257_143 k_1 ?_
        refine g10 c_257_144 ?_
        exact g80 (As := [.int 0, .int 9999, .int (x2 + 1)]) (rest := []) c_257_145 rfl rfl (Nat.le_of_ble_eq_true rfl) (Nat.le_of_ble_eq_true rfl) t.1 t.2
      · refine g3 c_257_149 rfl ?_
        refine g1 c_257_150 k_7 ?_
        refine gcm c_257_152 (gbn t (ab_c1 _ _) rfl (fun hc t => ?_) (fun hc t => ?_))
        · refine g5 c_257_155 rfl ?_
          refine g3 c_257_156 rfl ?_
          exact g80 (As := [.int x2]) (rest := []) c_257_157 rfl rfl (Nat.le_of_ble_eq_true rfl) (Nat.le_of_ble_eq_true rfl) t.1 t.2
        · refine g3 c_257_161 rfl ?_
          refine g1 c_257_162 k_7 ?_
          refine gcm c_257_164 (gbr t rfl rfl (fun hc t => ?_) (fun hc t => ?_))
          · refine g3 c_257_178 rfl ?_
            refine gif c_257_179 (gbr t rfl rfl (fun hc t => ?_) (fun hc t => ?_))
            · refine g5 c_257_184 rfl ?_
              obtain ⟨ho, t⟩ := t
              refine g43 c_257_185 ho ?_
              refine g1 c_257_188 k_59 ?_
              refine gcm c_257_190 (gbr t rfl rfl (fun hc t => ?_) (fun hc t => ?_))
              · refine g5 c_257_195 rfl ?_
                refine g33a c_257_196 ?_
                obtain ⟨ho, t⟩ := t
                refine g43 c_257_197 ho ?_
                refine g1 c_257_200 k_1 ?_
                refine g10 c_257_201 ?_
                obtain ⟨ho, t⟩ := t
                refine g46 c_257_202 ho (fun h3 eh3 => ?_)
                have t := t h3 eh3
                refine g5 c_257_205 rfl ?_
                exact g80 (As := []) (rest := []) c_257_206 rfl rfl (Nat.le_of_ble_eq_true rfl) (Nat.le_of_ble_eq_true rfl) t.1 t.2
              · refine g1 c_257_193 k_1 ?_
                exact g90 c_257_194 t
            · refine g3 c_257_182 rfl ?_
              exact g90 c_257_183 t
          · refine g5 c_257_167 rfl ?_
            refine g1 c_257_168 k_0 ?_
            refine g1 c_257_169 k_20 ?_
            refine g3 c_257_171 rfl ?_
            refine g1 c_257_172 k_1 ?_
            refine g10 c_257_173 ?_
            exact g80 (As := [.int 0, .int 20, .int (x2 + 1)]) (rest := []) c_257_174 rfl rfl (Nat.le_of_ble_eq_true rfl) (Nat.le_of_ble_eq_true rfl) t.1 t.2
set_option maxRecDepth 20000 in
theorem t_257_76 {d : Nat} {h : ab_H} {Q : Option Value → ab_H → Prop} {x0 : Nat} {x1 : Int32} {x2 : Int32} {x3 : Int32} {s0 : Int32} (t : if s0 = 0 then (ab_ok h x0 112 = true ∧ wm d 254 [.ref x0, .int x2] h (fun r9 h9 => wq (d + 1) 257 86 [.ref x0, .int x1, .int x2, .int s0] (r9.toList ++ []) h9 Q)) else (if x1 = 4 then (ab_ok h x0 112 = true ∧ ∃ j1 : Nat, ab_r h x0 0 = some j1 ∧ ab_ok h x0 112 = true ∧ (ab_ok h j1 0 = true ∧ ab_in (x2 + 4) (ab_s h j1).2 = true) ∧ ∀ h2 : ab_H, h2 = ab_pi h j1 (Int32.toNatClampNeg (x2 + 4)) (ab_i h x0 14) → ab_ok h2 x0 112 = true ∧ wm d 250 [.ref x0] h2 (fun r9 h9 => wq (d + 1) 257 108 [.ref x0, .int x1, .int x2, .int s0] (r9.toList ++ []) h9 Q)) else (if x1 = 6 then (ab_ok h x0 112 = true ∧ wm d 237 [.ref x0, .int 0, .int 9999, .int (x2 + 1)] h (fun r9 h9 => wq (d + 1) 257 148 [.ref x0, .int x1, .int x2, .int s0] (r9.toList ++ []) h9 Q)) else (if x1 = 7 then (ab_ok h x0 112 = true ∧ wm d 256 [.ref x0, .int x2] h (fun r9 h9 => wq (d + 1) 257 160 [.ref x0, .int x1, .int x2, .int s0] (r9.toList ++ []) h9 Q)) else (if x1 ≤ 7 then (if s0 = 0 then (ab_ok h x0 112 = true ∧ if (ab_i h x0 9) = 59 then (ab_ok h x0 112 = true ∧ ab_ok h x0 112 = true ∧ ∀ h3 : ab_H, h3 = ab_pi h x0 13 ((ab_i h x0 13) + 1) → ab_ok h3 x0 112 = true ∧ wm d 231 [.ref x0] h3 (fun r9 h9 => wq (d + 1) 257 209 [.ref x0, .int x1, .int x2, .int s0] (r9.toList ++ []) h9 Q)) else (Q (some (.int 1)) h)) else (Q (some (.int s0)) h)) else (ab_ok h x0 112 = true ∧ wm d 237 [.ref x0, .int 0, .int 20, .int (x2 + 1)] h (fun r9 h9 => wq (d + 1) 257 177 [.ref x0, .int x1, .int x2, .int s0] (r9.toList ++ []) h9 Q))))))) : wq (d + 1) 257 76 [.ref x0, .int x1, .int x2, .int x3] [.int s0] h Q := by
  refine g6 (L' := [.ref x0, .int x1, .int x2, .int s0]) c_257_76 rfl ?_
  refine g3 c_257_77 rfl ?_
  refine gif c_257_78 (gbn t (ab_c1 _ _) rfl (fun hc t => ?_) (fun hc t => ?_))
  · refine g5 c_257_81 rfl ?_
    refine g3 c_257_82 rfl ?_
    exact g80 (As := [.int x2]) (rest := []) c_257_83 rfl rfl (Nat.le_of_ble_eq_true rfl) (Nat.le_of_ble_eq_true rfl) t.1 t.2
  · refine g3 c_257_87 rfl ?_
    refine g1 c_257_88 k_4 ?_
    refine gcm c_257_89 (gbn t (ab_c1 _ _) rfl (fun hc t => ?_) (fun hc t => ?_))
    · refine g5 c_257_92 rfl ?_
      obtain ⟨ho, j1, hr, t⟩ := t
      refine g45 c_257_93 ho hr ?_
      refine g3 c_257_96 rfl ?_
      refine g1 c_257_97 k_4 ?_
      refine g10 c_257_98 ?_
      refine g5 c_257_99 rfl ?_
      obtain ⟨ho, t⟩ := t
      refine g43 c_257_100 ho ?_
      obtain ⟨ho, t⟩ := t
      refine g54 c_257_103 ho (fun h2 eh2 => ?_)
      have t := t h2 eh2
      refine g5 c_257_104 rfl ?_
      exact g80 (As := []) (rest := []) c_257_105 rfl rfl (Nat.le_of_ble_eq_true rfl) (Nat.le_of_ble_eq_true rfl) t.1 t.2
    · refine g3 c_257_131 rfl ?_
      refine g1 c_257_132 k_6 ?_
      refine gcm c_257_134 (gbn t (ab_c1 _ _) rfl (fun hc t => ?_) (fun hc t => ?_))
      · refine g5 c_257_137 rfl ?_
        refine g1 c_257_138 k_0 ?_
        refine g1 c_257_139 k_9999 ?_
        refine g3 c_257_142 rfl ?_
        refine g1 c_257_143 k_1 ?_
        refine g10 c_257_144 ?_
        exact g80 (As := [.int 0, .int 9999, .int (x2 + 1)]) (rest := []) c_257_145 rfl rfl (Nat.le_of_ble_eq_true rfl) (Nat.le_of_ble_eq_true rfl) t.1 t.2
      · refine g3 c_257_149 rfl ?_
        refine g1 c_257_150 k_7 ?_
        refine gcm c_257_152 (gbn t (ab_c1 _ _) rfl (fun hc t => ?_) (fun hc t => ?_))
        · refine g5 c_257_155 rfl ?_
          refine g3 c_257_156 rfl ?_
          exact g80 (As := [.int x2]) (rest := []) c_257_157 rfl rfl (Nat.le_of_ble_eq_true rfl) (Nat.le_of_ble_eq_true rfl) t.1 t.2
        · refine g3 c_257_161 rfl ?_
          refine g1 c_257_162 k_7 ?_
          refine gcm c_257_164 (gbr t rfl rfl (fun hc t => ?_) (fun hc t => ?_))
          · refine g3 c_257_178 rfl ?_
            refine gif c_257_179 (gbr t rfl rfl (fun hc t => ?_) (fun hc t => ?_))
            · refine g5 c_257_184 rfl ?_
              obtain ⟨ho, t⟩ := t
              refine g43 c_257_185 ho ?_
              refine g1 c_257_188 k_59 ?_
              refine gcm c_257_190 (gbr t rfl rfl (fun hc t => ?_) (fun hc t => ?_))
              · refine g5 c_257_195 rfl ?_
                refine g33a c_257_196 ?_
                obtain ⟨ho, t⟩ := t
                refine g43 c_257_197 ho ?_
                refine g1 c_257_200 k_1 ?_
                refine g10 c_257_201 ?_
                obtain ⟨ho, t⟩ := t
                refine g46 c_257_202 ho (fun h3 eh3 => ?_)
                have t := t h3 eh3
                refine g5 c_257_205 rfl ?_
                exact g80 (As := []) (rest := []) c_257_206 rfl rfl (Nat.le_of_ble_eq_true rfl) (Nat.le_of_ble_eq_true rfl) t.1 t.2
              · refine g1 c_257_193 k_1 ?_
                exact g90 c_257_194 t
            · refine g3 c_257_182 rfl ?_
              exact g90 c_257_183 t
          · refine g5 c_257_167 rfl ?_
            refine g1 c_257_168 k_0 ?_
            refine g1 c_257_169 k_20 ?_
            refine g3 c_257_171 rfl ?_
            refine g1 c_257_172 k_1 ?_
            refine g10 c_257_173 ?_
            exact g80 (As := [.int 0, .int 20, .int (x2 + 1)]) (rest := []) c_257_174 rfl rfl (Nat.le_of_ble_eq_true rfl) (Nat.le_of_ble_eq_true rfl) t.1 t.2
set_option maxRecDepth 20000 in
theorem t_257_86 {d : Nat} {h : ab_H} {Q : Option Value → ab_H → Prop} {x0 : Nat} {x1 : Int32} {x2 : Int32} {x3 : Int32} {s0 : Int32} (t : if x1 = 4 then (ab_ok h x0 112 = true ∧ ∃ j1 : Nat, ab_r h x0 0 = some j1 ∧ ab_ok h x0 112 = true ∧ (ab_ok h j1 0 = true ∧ ab_in (x2 + 4) (ab_s h j1).2 = true) ∧ ∀ h2 : ab_H, h2 = ab_pi h j1 (Int32.toNatClampNeg (x2 + 4)) (ab_i h x0 14) → ab_ok h2 x0 112 = true ∧ wm d 250 [.ref x0] h2 (fun r9 h9 => wq (d + 1) 257 108 [.ref x0, .int x1, .int x2, .int s0] (r9.toList ++ []) h9 Q)) else (if x1 = 6 then (ab_ok h x0 112 = true ∧ wm d 237 [.ref x0, .int 0, .int 9999, .int (x2 + 1)] h (fun r9 h9 => wq (d + 1) 257 148 [.ref x0, .int x1, .int x2, .int s0] (r9.toList ++ []) h9 Q)) else (if x1 = 7 then (ab_ok h x0 112 = true ∧ wm d 256 [.ref x0, .int x2] h (fun r9 h9 => wq (d + 1) 257 160 [.ref x0, .int x1, .int x2, .int s0] (r9.toList ++ []) h9 Q)) else (if x1 ≤ 7 then (if s0 = 0 then (ab_ok h x0 112 = true ∧ if (ab_i h x0 9) = 59 then (ab_ok h x0 112 = true ∧ ab_ok h x0 112 = true ∧ ∀ h3 : ab_H, h3 = ab_pi h x0 13 ((ab_i h x0 13) + 1) → ab_ok h3 x0 112 = true ∧ wm d 231 [.ref x0] h3 (fun r9 h9 => wq (d + 1) 257 209 [.ref x0, .int x1, .int x2, .int s0] (r9.toList ++ []) h9 Q)) else (Q (some (.int 1)) h)) else (Q (some (.int s0)) h)) else (ab_ok h x0 112 = true ∧ wm d 237 [.ref x0, .int 0, .int 20, .int (x2 + 1)] h (fun r9 h9 => wq (d + 1) 257 177 [.ref x0, .int x1, .int x2, .int s0] (r9.toList ++ []) h9 Q)))))) : wq (d + 1) 257 86 [.ref x0, .int x1, .int x2, .int x3] [.int s0] h Q := by
  refine g6 (L' := [.ref x0, .int x1, .int x2, .int s0]) c_257_86 rfl ?_
  refine g3 c_257_87 rfl ?_
  refine g1 c_257_88 k_4 ?_
  refine gcm c_257_89 (gbn t (ab_c1 _ _) rfl (fun hc t => ?_) (fun hc t => ?_))
  · refine g5 c_257_92 rfl ?_
    obtain ⟨ho, j1, hr, t⟩ := t
    refine g45 c_257_93 ho hr ?_
    refine g3 c_257_96 rfl ?_
    refine g1 c_257_97 k_4 ?_
    refine g10 c_257_98 ?_
    refine g5 c_257_99 rfl ?_
    obtain ⟨ho, t⟩ := t
    refine g43 c_257_100 ho ?_
    obtain ⟨ho, t⟩ := t
    refine g54 c_257_103 ho (fun h2 eh2 => ?_)
    have t := t h2 eh2
    refine g5 c_257_104 rfl ?_
    exact g80 (As := []) (rest := []) c_257_105 rfl rfl (Nat.le_of_ble_eq_true rfl) (Nat.le_of_ble_eq_true rfl) t.1 t.2
  · refine g3 c_257_131 rfl ?_
    refine g1 c_257_132 k_6 ?_
    refine gcm c_257_134 (gbn t (ab_c1 _ _) rfl (fun hc t => ?_) (fun hc t => ?_))
    · refine g5 c_257_137 rfl ?_
      refine g1 c_257_138 k_0 ?_
      refine g1 c_257_139 k_9999 ?_
      refine g3 c_257_142 rfl ?_
      refine g1 c_257_143 k_1 ?_
      refine g10 c_257_144 ?_
      exact g80 (As := [.int 0, .int 9999, .int (x2 + 1)]) (rest := []) c_257_145 rfl rfl (Nat.le_of_ble_eq_true rfl) (Nat.le_of_ble_eq_true rfl) t.1 t.2
    · refine g3 c_257_149 rfl ?_
      refine g1 c_257_150 k_7 ?_
      refine gcm c_257_152 (gbn t (ab_c1 _ _) rfl (fun hc t => ?_) (fun hc t => ?_))
      · refine g5 c_257_155 rfl ?_
        refine g3 c_257_156 rfl ?_
        exact g80 (As := [.int x2]) (rest := []) c_257_157 rfl rfl (Nat.le_of_ble_eq_true rfl) (Nat.le_of_ble_eq_true rfl) t.1 t.2
      · refine g3 c_257_161 rfl ?_
        refine g1 c_257_162 k_7 ?_
        refine gcm c_257_164 (gbr t rfl rfl (fun hc t => ?_) (fun hc t => ?_))
        · refine g3 c_257_178 rfl ?_
          refine gif c_257_179 (gbr t rfl rfl (fun hc t => ?_) (fun hc t => ?_))
          · refine g5 c_257_184 rfl ?_
            obtain ⟨ho, t⟩ := t
            refine g43 c_257_185 ho ?_
            refine g1 c_257_188 k_59 ?_
            refine gcm c_257_190 (gbr t rfl rfl (fun hc t => ?_) (fun hc t => ?_))
            · refine g5 c_257_195 rfl ?_
              refine g33a c_257_196 ?_
              obtain ⟨ho, t⟩ := t
              refine g43 c_257_197 ho ?_
              refine g1 c_257_200 k_1 ?_
              refine g10 c_257_201 ?_
              obtain ⟨ho, t⟩ := t
              refine g46 c_257_202 ho (fun h3 eh3 => ?_)
              have t := t h3 eh3
              refine g5 c_257_205 rfl ?_
              exact g80 (As := []) (rest := []) c_257_206 rfl rfl (Nat.le_of_ble_eq_true rfl) (Nat.le_of_ble_eq_true rfl) t.1 t.2
            · refine g1 c_257_193 k_1 ?_
              exact g90 c_257_194 t
          · refine g3 c_257_182 rfl ?_
            exact g90 c_257_183 t
        · refine g5 c_257_167 rfl ?_
          refine g1 c_257_168 k_0 ?_
          refine g1 c_257_169 k_20 ?_
          refine g3 c_257_171 rfl ?_
          refine g1 c_257_172 k_1 ?_
          refine g10 c_257_173 ?_
          exact g80 (As := [.int 0, .int 20, .int (x2 + 1)]) (rest := []) c_257_174 rfl rfl (Nat.le_of_ble_eq_true rfl) (Nat.le_of_ble_eq_true rfl) t.1 t.2
set_option maxRecDepth 20000 in
theorem t_257_108 {d : Nat} {h : ab_H} {Q : Option Value → ab_H → Prop} {x0 : Nat} {x1 : Int32} {x2 : Int32} {x3 : Int32} {s0 : Int32} (t : ab_ok h x0 112 = true ∧ ∃ j1 : Nat, ab_r h x0 0 = some j1 ∧ ab_ok h x0 112 = true ∧ (ab_ok h j1 0 = true ∧ ab_in (x2 + 5) (ab_s h j1).2 = true) ∧ ∀ h2 : ab_H, h2 = ab_pi h j1 (Int32.toNatClampNeg (x2 + 5)) (ab_i h x0 14) → if s0 = 0 then (ab_ok h2 x0 112 = true ∧ wm d 254 [.ref x0, .int x2] h2 (fun r9 h9 => wq (d + 1) 257 130 [.ref x0, .int x1, .int x2, .int s0] (r9.toList ++ []) h9 Q)) else (if x1 = 6 then (ab_ok h2 x0 112 = true ∧ wm d 237 [.ref x0, .int 0, .int 9999, .int (x2 + 1)] h2 (fun r9 h9 => wq (d + 1) 257 148 [.ref x0, .int x1, .int x2, .int s0] (r9.toList ++ []) h9 Q)) else (if x1 = 7 then (ab_ok h2 x0 112 = true ∧ wm d 256 [.ref x0, .int x2] h2 (fun r9 h9 => wq (d + 1) 257 160 [.ref x0, .int x1, .int x2, .int s0] (r9.toList ++ []) h9 Q)) else (if x1 ≤ 7 then (if s0 = 0 then (ab_ok h2 x0 112 = true ∧ if (ab_i h2 x0 9) = 59 then (ab_ok h2 x0 112 = true ∧ ab_ok h2 x0 112 = true ∧ ∀ h3 : ab_H, h3 = ab_pi h2 x0 13 ((ab_i h2 x0 13) + 1) → ab_ok h3 x0 112 = true ∧ wm d 231 [.ref x0] h3 (fun r9 h9 => wq (d + 1) 257 209 [.ref x0, .int x1, .int x2, .int s0] (r9.toList ++ []) h9 Q)) else (Q (some (.int 1)) h2)) else (Q (some (.int s0)) h2)) else (ab_ok h2 x0 112 = true ∧ wm d 237 [.ref x0, .int 0, .int 20, .int (x2 + 1)] h2 (fun r9 h9 => wq (d + 1) 257 177 [.ref x0, .int x1, .int x2, .int s0] (r9.toList ++ []) h9 Q)))))) : wq (d + 1) 257 108 [.ref x0, .int x1, .int x2, .int x3] [.int s0] h Q := by
  refine g6 (L' := [.ref x0, .int x1, .int x2, .int s0]) c_257_108 rfl ?_
  refine g5 c_257_109 rfl ?_
  obtain ⟨ho, j1, hr, t⟩ := t
  refine g45 c_257_110 ho hr ?_
  refine g3 c_257_113 rfl ?_
  refine g1 c_257_114 k_5 ?_
  refine g10 c_257_115 ?_
  refine g5 c_257_116 rfl ?_
  obtain ⟨ho, t⟩ := t
  refine g43 c_257_117 ho ?_
  obtain ⟨ho, t⟩ := t
  refine g54 c_257_120 ho (fun h2 eh2 => ?_)
  have t := t h2 eh2
  refine g3 c_257_121 rfl ?_
  refine gif c_257_122 (gbn t (ab_c1 _ _) rfl (fun hc t => ?_) (fun hc t => ?_))
  · refine g5 c_257_125 rfl ?_
    refine g3 c_257_126 rfl ?_
    exact g80 (As := [.int x2]) (rest := []) c_257_127 rfl rfl (Nat.le_of_ble_eq_true rfl) (Nat.le_of_ble_eq_true rfl) t.1 t.2
  · refine g3 c_257_131 rfl ?_
    refine g1 c_257_132 k_6 ?_
    refine gcm c_257_134 (gbn t (ab_c1 _ _) rfl (fun hc t => ?_) (fun hc t => ?_))
    · refine g5 c_257_137 rfl ?_
      refine g1 c_257_138 k_0 ?_
      refine g1 c_257_139 k_9999 ?_
      refine g3 c_257_142 rfl ?_
      refine g1 c_257_143 k_1 ?_
      refine g10 c_257_144 ?_
      exact g80 (As := [.int 0, .int 9999, .int (x2 + 1)]) (rest := []) c_257_145 rfl rfl (Nat.le_of_ble_eq_true rfl) (Nat.le_of_ble_eq_true rfl) t.1 t.2
    · refine g3 c_257_149 rfl ?_
      refine g1 c_257_150 k_7 ?_
      refine gcm c_257_152 (gbn t (ab_c1 _ _) rfl (fun hc t => ?_) (fun hc t => ?_))
      · refine g5 c_257_155 rfl ?_
        refine g3 c_257_156 rfl ?_
        exact g80 (As := [.int x2]) (rest := []) c_257_157 rfl rfl (Nat.le_of_ble_eq_true rfl) (Nat.le_of_ble_eq_true rfl) t.1 t.2
      · refine g3 c_257_161 rfl ?_
        refine g1 c_257_162 k_7 ?_
        refine gcm c_257_164 (gbr t rfl rfl (fun hc t => ?_) (fun hc t => ?_))
        · refine g3 c_257_178 rfl ?_
          refine gif c_257_179 (gbr t rfl rfl (fun hc t => ?_) (fun hc t => ?_))
          · refine g5 c_257_184 rfl ?_
            obtain ⟨ho, t⟩ := t
            refine g43 c_257_185 ho ?_
            refine g1 c_257_188 k_59 ?_
            refine gcm c_257_190 (gbr t rfl rfl (fun hc t => ?_) (fun hc t => ?_))
            · refine g5 c_257_195 rfl ?_
              refine g33a c_257_196 ?_
              obtain ⟨ho, t⟩ := t
              refine g43 c_257_197 ho ?_
              refine g1 c_257_200 k_1 ?_
              refine g10 c_257_201 ?_
              obtain ⟨ho, t⟩ := t
              refine g46 c_257_202 ho (fun h3 eh3 => ?_)
              have t := t h3 eh3
              refine g5 c_257_205 rfl ?_
              exact g80 (As := []) (rest := []) c_257_206 rfl rfl (Nat.le_of_ble_eq_true rfl) (Nat.le_of_ble_eq_true rfl) t.1 t.2
            · refine g1 c_257_193 k_1 ?_
              exact g90 c_257_194 t
          · refine g3 c_257_182 rfl ?_
            exact g90 c_257_183 t
        · refine g5 c_257_167 rfl ?_
          refine g1 c_257_168 k_0 ?_
          refine g1 c_257_169 k_20 ?_
          refine g3 c_257_171 rfl ?_
          refine g1 c_257_172 k_1 ?_
          refine g10 c_257_173 ?_
          exact g80 (As := [.int 0, .int 20, .int (x2 + 1)]) (rest := []) c_257_174 rfl rfl (Nat.le_of_ble_eq_true rfl) (Nat.le_of_ble_eq_true rfl) t.1 t.2
set_option maxRecDepth 20000 in
theorem t_257_130 {d : Nat} {h : ab_H} {Q : Option Value → ab_H → Prop} {x0 : Nat} {x1 : Int32} {x2 : Int32} {x3 : Int32} {s0 : Int32} (t : if x1 = 6 then (ab_ok h x0 112 = true ∧ wm d 237 [.ref x0, .int 0, .int 9999, .int (x2 + 1)] h (fun r9 h9 => wq (d + 1) 257 148 [.ref x0, .int x1, .int x2, .int s0] (r9.toList ++ []) h9 Q)) else (if x1 = 7 then (ab_ok h x0 112 = true ∧ wm d 256 [.ref x0, .int x2] h (fun r9 h9 => wq (d + 1) 257 160 [.ref x0, .int x1, .int x2, .int s0] (r9.toList ++ []) h9 Q)) else (if x1 ≤ 7 then (if s0 = 0 then (ab_ok h x0 112 = true ∧ if (ab_i h x0 9) = 59 then (ab_ok h x0 112 = true ∧ ab_ok h x0 112 = true ∧ ∀ h1 : ab_H, h1 = ab_pi h x0 13 ((ab_i h x0 13) + 1) → ab_ok h1 x0 112 = true ∧ wm d 231 [.ref x0] h1 (fun r9 h9 => wq (d + 1) 257 209 [.ref x0, .int x1, .int x2, .int s0] (r9.toList ++ []) h9 Q)) else (Q (some (.int 1)) h)) else (Q (some (.int s0)) h)) else (ab_ok h x0 112 = true ∧ wm d 237 [.ref x0, .int 0, .int 20, .int (x2 + 1)] h (fun r9 h9 => wq (d + 1) 257 177 [.ref x0, .int x1, .int x2, .int s0] (r9.toList ++ []) h9 Q))))) : wq (d + 1) 257 130 [.ref x0, .int x1, .int x2, .int x3] [.int s0] h Q := by
  refine g6 (L' := [.ref x0, .int x1, .int x2, .int s0]) c_257_130 rfl ?_
  refine g3 c_257_131 rfl ?_
  refine g1 c_257_132 k_6 ?_
  refine gcm c_257_134 (gbn t (ab_c1 _ _) rfl (fun hc t => ?_) (fun hc t => ?_))
  · refine g5 c_257_137 rfl ?_
    refine g1 c_257_138 k_0 ?_
    refine g1 c_257_139 k_9999 ?_
    refine g3 c_257_142 rfl ?_
    refine g1 c_257_143 k_1 ?_
    refine g10 c_257_144 ?_
    exact g80 (As := [.int 0, .int 9999, .int (x2 + 1)]) (rest := []) c_257_145 rfl rfl (Nat.le_of_ble_eq_true rfl) (Nat.le_of_ble_eq_true rfl) t.1 t.2
  · refine g3 c_257_149 rfl ?_
    refine g1 c_257_150 k_7 ?_
    refine gcm c_257_152 (gbn t (ab_c1 _ _) rfl (fun hc t => ?_) (fun hc t => ?_))
    · refine g5 c_257_155 rfl ?_
      refine g3 c_257_156 rfl ?_
      exact g80 (As := [.int x2]) (rest := []) c_257_157 rfl rfl (Nat.le_of_ble_eq_true rfl) (Nat.le_of_ble_eq_true rfl) t.1 t.2
    · refine g3 c_257_161 rfl ?_
      refine g1 c_257_162 k_7 ?_
      refine gcm c_257_164 (gbr t rfl rfl (fun hc t => ?_) (fun hc t => ?_))
      · refine g3 c_257_178 rfl ?_
        refine gif c_257_179 (gbr t rfl rfl (fun hc t => ?_) (fun hc t => ?_))
        · refine g5 c_257_184 rfl ?_
          obtain ⟨ho, t⟩ := t
          refine g43 c_257_185 ho ?_
          refine g1 c_257_188 k_59 ?_
          refine gcm c_257_190 (gbr t rfl rfl (fun hc t => ?_) (fun hc t => ?_))
          · refine g5 c_257_195 rfl ?_
            refine g33a c_257_196 ?_
            obtain ⟨ho, t⟩ := t
            refine g43 c_257_197 ho ?_
            refine g1 c_257_200 k_1 ?_
            refine g10 c_257_201 ?_
            obtain ⟨ho, t⟩ := t
            refine g46 c_257_202 ho (fun h1 eh1 => ?_)
            have t := t h1 eh1
            refine g5 c_257_205 rfl ?_
            exact g80 (As := []) (rest := []) c_257_206 rfl rfl (Nat.le_of_ble_eq_true rfl) (Nat.le_of_ble_eq_true rfl) t.1 t.2
          · refine g1 c_257_193 k_1 ?_
            exact g90 c_257_194 t
        · refine g3 c_257_182 rfl ?_
          exact g90 c_257_183 t
      · refine g5 c_257_167 rfl ?_
        refine g1 c_257_168 k_0 ?_
        refine g1 c_257_169 k_20 ?_
        refine g3 c_257_171 rfl ?_
        refine g1 c_257_172 k_1 ?_
        refine g10 c_257_173 ?_
        exact g80 (As := [.int 0, .int 20, .int (x2 + 1)]) (rest := []) c_257_174 rfl rfl (Nat.le_of_ble_eq_true rfl) (Nat.le_of_ble_eq_true rfl) t.1 t.2
set_option maxRecDepth 20000 in
theorem t_257_148 {d : Nat} {h : ab_H} {Q : Option Value → ab_H → Prop} {x0 : Nat} {x1 : Int32} {x2 : Int32} {x3 : Int32} {s0 : Int32} (t : if x1 = 7 then (ab_ok h x0 112 = true ∧ wm d 256 [.ref x0, .int x2] h (fun r9 h9 => wq (d + 1) 257 160 [.ref x0, .int x1, .int x2, .int s0] (r9.toList ++ []) h9 Q)) else (if x1 ≤ 7 then (if s0 = 0 then (ab_ok h x0 112 = true ∧ if (ab_i h x0 9) = 59 then (ab_ok h x0 112 = true ∧ ab_ok h x0 112 = true ∧ ∀ h1 : ab_H, h1 = ab_pi h x0 13 ((ab_i h x0 13) + 1) → ab_ok h1 x0 112 = true ∧ wm d 231 [.ref x0] h1 (fun r9 h9 => wq (d + 1) 257 209 [.ref x0, .int x1, .int x2, .int s0] (r9.toList ++ []) h9 Q)) else (Q (some (.int 1)) h)) else (Q (some (.int s0)) h)) else (ab_ok h x0 112 = true ∧ wm d 237 [.ref x0, .int 0, .int 20, .int (x2 + 1)] h (fun r9 h9 => wq (d + 1) 257 177 [.ref x0, .int x1, .int x2, .int s0] (r9.toList ++ []) h9 Q)))) : wq (d + 1) 257 148 [.ref x0, .int x1, .int x2, .int x3] [.int s0] h Q := by
  refine g6 (L' := [.ref x0, .int x1, .int x2, .int s0]) c_257_148 rfl ?_
  refine g3 c_257_149 rfl ?_
  refine g1 c_257_150 k_7 ?_
  refine gcm c_257_152 (gbn t (ab_c1 _ _) rfl (fun hc t => ?_) (fun hc t => ?_))
  · refine g5 c_257_155 rfl ?_
    refine g3 c_257_156 rfl ?_
    exact g80 (As := [.int x2]) (rest := []) c_257_157 rfl rfl (Nat.le_of_ble_eq_true rfl) (Nat.le_of_ble_eq_true rfl) t.1 t.2
  · refine g3 c_257_161 rfl ?_
    refine g1 c_257_162 k_7 ?_
    refine gcm c_257_164 (gbr t rfl rfl (fun hc t => ?_) (fun hc t => ?_))
    · refine g3 c_257_178 rfl ?_
      refine gif c_257_179 (gbr t rfl rfl (fun hc t => ?_) (fun hc t => ?_))
      · refine g5 c_257_184 rfl ?_
        obtain ⟨ho, t⟩ := t
        refine g43 c_257_185 ho ?_
        refine g1 c_257_188 k_59 ?_
        refine gcm c_257_190 (gbr t rfl rfl (fun hc t => ?_) (fun hc t => ?_))
        · refine g5 c_257_195 rfl ?_
          refine g33a c_257_196 ?_
          obtain ⟨ho, t⟩ := t
          refine g43 c_257_197 ho ?_
          refine g1 c_257_200 k_1 ?_
          refine g10 c_257_201 ?_
          obtain ⟨ho, t⟩ := t
          refine g46 c_257_202 ho (fun h1 eh1 => ?_)
          have t := t h1 eh1
          refine g5 c_257_205 rfl ?_
          exact g80 (As := []) (rest := []) c_257_206 rfl rfl (Nat.le_of_ble_eq_true rfl) (Nat.le_of_ble_eq_true rfl) t.1 t.2
        · refine g1 c_257_193 k_1 ?_
          exact g90 c_257_194 t
      · refine g3 c_257_182 rfl ?_
        exact g90 c_257_183 t
    · refine g5 c_257_167 rfl ?_
      refine g1 c_257_168 k_0 ?_
      refine g1 c_257_169 k_20 ?_
      refine g3 c_257_171 rfl ?_
      refine g1 c_257_172 k_1 ?_
      refine g10 c_257_173 ?_
      exact g80 (As := [.int 0, .int 20, .int (x2 + 1)]) (rest := []) c_257_174 rfl rfl (Nat.le_of_ble_eq_true rfl) (Nat.le_of_ble_eq_true rfl) t.1 t.2
set_option maxRecDepth 20000 in
theorem t_257_160 {d : Nat} {h : ab_H} {Q : Option Value → ab_H → Prop} {x0 : Nat} {x1 : Int32} {x2 : Int32} {x3 : Int32} {s0 : Int32} (t : if x1 ≤ 7 then (if s0 = 0 then (ab_ok h x0 112 = true ∧ if (ab_i h x0 9) = 59 then (ab_ok h x0 112 = true ∧ ab_ok h x0 112 = true ∧ ∀ h1 : ab_H, h1 = ab_pi h x0 13 ((ab_i h x0 13) + 1) → ab_ok h1 x0 112 = true ∧ wm d 231 [.ref x0] h1 (fun r9 h9 => wq (d + 1) 257 209 [.ref x0, .int x1, .int x2, .int s0] (r9.toList ++ []) h9 Q)) else (Q (some (.int 1)) h)) else (Q (some (.int s0)) h)) else (ab_ok h x0 112 = true ∧ wm d 237 [.ref x0, .int 0, .int 20, .int (x2 + 1)] h (fun r9 h9 => wq (d + 1) 257 177 [.ref x0, .int x1, .int x2, .int s0] (r9.toList ++ []) h9 Q))) : wq (d + 1) 257 160 [.ref x0, .int x1, .int x2, .int x3] [.int s0] h Q := by
  refine g6 (L' := [.ref x0, .int x1, .int x2, .int s0]) c_257_160 rfl ?_
  refine g3 c_257_161 rfl ?_
  refine g1 c_257_162 k_7 ?_
  refine gcm c_257_164 (gbr t rfl rfl (fun hc t => ?_) (fun hc t => ?_))
  · refine g3 c_257_178 rfl ?_
    refine gif c_257_179 (gbr t rfl rfl (fun hc t => ?_) (fun hc t => ?_))
    · refine g5 c_257_184 rfl ?_
      obtain ⟨ho, t⟩ := t
      refine g43 c_257_185 ho ?_
      refine g1 c_257_188 k_59 ?_
      refine gcm c_257_190 (gbr t rfl rfl (fun hc t => ?_) (fun hc t => ?_))
      · refine g5 c_257_195 rfl ?_
        refine g33a c_257_196 ?_
        obtain ⟨ho, t⟩ := t
        refine g43 c_257_197 ho ?_
        refine g1 c_257_200 k_1 ?_
        refine g10 c_257_201 ?_
        obtain ⟨ho, t⟩ := t
        refine g46 c_257_202 ho (fun h1 eh1 => ?_)
        have t := t h1 eh1
        refine g5 c_257_205 rfl ?_
        exact g80 (As := []) (rest := []) c_257_206 rfl rfl (Nat.le_of_ble_eq_true rfl) (Nat.le_of_ble_eq_true rfl) t.1 t.2
      · refine g1 c_257_193 k_1 ?_
        exact g90 c_257_194 t
    · refine g3 c_257_182 rfl ?_
      exact g90 c_257_183 t
  · refine g5 c_257_167 rfl ?_
    refine g1 c_257_168 k_0 ?_
    refine g1 c_257_169 k_20 ?_
    refine g3 c_257_171 rfl ?_
    refine g1 c_257_172 k_1 ?_
    refine g10 c_257_173 ?_
    exact g80 (As := [.int 0, .int 20, .int (x2 + 1)]) (rest := []) c_257_174 rfl rfl (Nat.le_of_ble_eq_true rfl) (Nat.le_of_ble_eq_true rfl) t.1 t.2
set_option maxRecDepth 20000 in
theorem t_257_177 {d : Nat} {h : ab_H} {Q : Option Value → ab_H → Prop} {x0 : Nat} {x1 : Int32} {x2 : Int32} {x3 : Int32} {s0 : Int32} (t : if s0 = 0 then (ab_ok h x0 112 = true ∧ if (ab_i h x0 9) = 59 then (ab_ok h x0 112 = true ∧ ab_ok h x0 112 = true ∧ ∀ h1 : ab_H, h1 = ab_pi h x0 13 ((ab_i h x0 13) + 1) → ab_ok h1 x0 112 = true ∧ wm d 231 [.ref x0] h1 (fun r9 h9 => wq (d + 1) 257 209 [.ref x0, .int x1, .int x2, .int s0] (r9.toList ++ []) h9 Q)) else (Q (some (.int 1)) h)) else (Q (some (.int s0)) h)) : wq (d + 1) 257 177 [.ref x0, .int x1, .int x2, .int x3] [.int s0] h Q := by
  refine g6 (L' := [.ref x0, .int x1, .int x2, .int s0]) c_257_177 rfl ?_
  refine g3 c_257_178 rfl ?_
  refine gif c_257_179 (gbr t rfl rfl (fun hc t => ?_) (fun hc t => ?_))
  · refine g5 c_257_184 rfl ?_
    obtain ⟨ho, t⟩ := t
    refine g43 c_257_185 ho ?_
    refine g1 c_257_188 k_59 ?_
    refine gcm c_257_190 (gbr t rfl rfl (fun hc t => ?_) (fun hc t => ?_))
    · refine g5 c_257_195 rfl ?_
      refine g33a c_257_196 ?_
      obtain ⟨ho, t⟩ := t
      refine g43 c_257_197 ho ?_
      refine g1 c_257_200 k_1 ?_
      refine g10 c_257_201 ?_
      obtain ⟨ho, t⟩ := t
      refine g46 c_257_202 ho (fun h1 eh1 => ?_)
      have t := t h1 eh1
      refine g5 c_257_205 rfl ?_
      exact g80 (As := []) (rest := []) c_257_206 rfl rfl (Nat.le_of_ble_eq_true rfl) (Nat.le_of_ble_eq_true rfl) t.1 t.2
    · refine g1 c_257_193 k_1 ?_
      exact g90 c_257_194 t
  · refine g3 c_257_182 rfl ?_
    exact g90 c_257_183 t
set_option maxRecDepth 20000 in
theorem t_257_209 {d : Nat} {h : ab_H} {Q : Option Value → ab_H → Prop} {x0 : Nat} {x1 : Int32} {x2 : Int32} {x3 : Int32} (t : Q (some (.int 0)) h) : wq d 257 209 [.ref x0, .int x1, .int x2, .int x3] [] h Q := by
  refine g1 c_257_209 k_0 ?_
  exact g90 c_257_210 t
-- method 258: MillTownModel.readText()I
theorem c_258_0 : pg_cd 258 0 = (5, 1, 0, 0, 0) := by decide +kernel
theorem c_258_1 : pg_cd 258 1 = (1, 3, 0, 0, 5500) := by decide +kernel
theorem c_258_4 : pg_cd 258 4 = (1, 3, 0, 0, 840) := by decide +kernel
theorem c_258_7 : pg_cd 258 7 = (5, 1, 0, 0, 0) := by decide +kernel
theorem c_258_8 : pg_cd 258 8 = (45, 12, 8, 0, 0) := by decide +kernel
theorem c_258_11 : pg_cd 258 11 = (1, 1, 0, 0, 5) := by decide +kernel
theorem c_258_12 : pg_cd 258 12 = (50, 1, 0, 0, 0) := by decide +kernel
theorem c_258_13 : pg_cd 258 13 = (12, 1, 0, 0, 0) := by decide +kernel
theorem c_258_14 : pg_cd 258 14 = (10, 1, 0, 0, 0) := by decide +kernel
theorem c_258_15 : pg_cd 258 15 = (46, 12, 171, 12, 0) := by decide +kernel
theorem c_258_18 : pg_cd 258 18 = (5, 1, 0, 0, 0) := by decide +kernel
theorem c_258_19 : pg_cd 258 19 = (1, 1, 0, 0, 0) := by decide +kernel
theorem c_258_20 : pg_cd 258 20 = (46, 12, 259, 13, 0) := by decide +kernel
theorem c_258_23 : pg_cd 258 23 = (5, 1, 0, 0, 0) := by decide +kernel
theorem c_258_24 : pg_cd 258 24 = (1, 1, 0, 0, 0) := by decide +kernel
theorem c_258_25 : pg_cd 258 25 = (46, 12, 174, 14, 0) := by decide +kernel
theorem c_258_28 : pg_cd 258 28 = (5, 1, 0, 0, 0) := by decide +kernel
theorem c_258_29 : pg_cd 258 29 = (1, 1, 0, 0, 0) := by decide +kernel
theorem c_258_30 : pg_cd 258 30 = (46, 12, 184, 17, 0) := by decide +kernel
theorem c_258_33 : pg_cd 258 33 = (5, 1, 0, 0, 0) := by decide +kernel
theorem c_258_34 : pg_cd 258 34 = (1, 1, 0, 0, 0) := by decide +kernel
theorem c_258_35 : pg_cd 258 35 = (46, 12, 134, 7, 0) := by decide +kernel
theorem c_258_38 : pg_cd 258 38 = (5, 1, 0, 0, 0) := by decide +kernel
theorem c_258_39 : pg_cd 258 39 = (80, 231, 168, 0, 0) := by decide +kernel
theorem c_258_42 : pg_cd 258 42 = (5, 1, 0, 0, 0) := by decide +kernel
theorem c_258_43 : pg_cd 258 43 = (43, 12, 144, 9, 0) := by decide +kernel
theorem c_258_46 : pg_cd 258 46 = (36, 3, 0, 0, 17) := by decide +kernel
theorem c_258_49 : pg_cd 258 49 = (5, 1, 0, 0, 0) := by decide +kernel
theorem c_258_50 : pg_cd 258 50 = (80, 257, 271, 0, 0) := by decide +kernel
theorem c_258_53 : pg_cd 258 53 = (6, 1, 0, 1, 0) := by decide +kernel
theorem c_258_54 : pg_cd 258 54 = (3, 1, 0, 1, 0) := by decide +kernel
theorem c_258_55 : pg_cd 258 55 = (36, 3, 0, 0, 5) := by decide +kernel
theorem c_258_58 : pg_cd 258 58 = (3, 1, 0, 1, 0) := by decide +kernel
theorem c_258_59 : pg_cd 258 59 = (90, 0, 0, 0, 0) := by decide +kernel
theorem c_258_60 : pg_cd 258 60 = (38, 3, 0, 0, (-18)) := by decide +kernel
theorem c_258_63 : pg_cd 258 63 = (1, 1, 0, 0, 0) := by decide +kernel
theorem c_258_64 : pg_cd 258 64 = (90, 0, 0, 0, 0) := by decide +kernel
theorem mx_258 : pg_mx 258 = 2 := by decide +kernel
theorem m_258 {d : Nat} {h : ab_H} {Q : Option Value → ab_H → Prop} {x0 : Nat} (t : wq d 258 0 [.ref x0, .retAddr 0] [] h Q) : wm d 258 [.ref x0] h Q := by
  unfold wm
  rw [mx_258]
  exact t
set_option maxRecDepth 20000 in
theorem t_258_0 {d : Nat} {h : ab_H} {Q : Option Value → ab_H → Prop} {x0 : Nat} (t : ab_ok h x0 112 = true ∧ ∃ j1 : Nat, ab_r h x0 0 = some j1 ∧ ((j1 = 0 ∨ ab_ok h j1 0 = true) ∧ ab_in (5 : Int32) (ab_s h j1).2 = true) ∧ ab_ok h x0 112 = true ∧ ∀ h2 : ab_H, h2 = ab_pi h x0 12 (5500 + (840 * (ab_i h j1 (Int32.toNatClampNeg (5 : Int32))))) → ab_ok h2 x0 112 = true ∧ ∀ h3 : ab_H, h3 = ab_pi h2 x0 13 0 → ab_ok h3 x0 112 = true ∧ ∀ h4 : ab_H, h4 = ab_pi h3 x0 14 0 → ab_ok h4 x0 112 = true ∧ ∀ h5 : ab_H, h5 = ab_pi h4 x0 17 0 → ab_ok h5 x0 112 = true ∧ ∀ h6 : ab_H, h6 = ab_pi h5 x0 7 0 → ab_ok h6 x0 112 = true ∧ wm d 231 [.ref x0] h6 (fun r9 h9 => wq (d + 1) 258 42 [.ref x0, .retAddr 0] (r9.toList ++ []) h9 Q)) : wq (d + 1) 258 0 [.ref x0, .retAddr 0] [] h Q := by
  refine g5 c_258_0 rfl ?_
  refine g1 c_258_1 k_5500 ?_
  refine g1 c_258_4 k_840 ?_
  refine g5 c_258_7 rfl ?_
  obtain ⟨ho, j1, hr, t⟩ := t
  refine g45 c_258_8 ho hr ?_
  refine g1 c_258_11 k_5 ?_
  obtain ⟨ho, t⟩ := t
  refine g50 c_258_12 ho ?_
  refine g12 c_258_13 ?_
  refine g10 c_258_14 ?_
  obtain ⟨ho, t⟩ := t
  refine g46 c_258_15 ho (fun h2 eh2 => ?_)
  have t := t h2 eh2
  refine g5 c_258_18 rfl ?_
  refine g1 c_258_19 k_0 ?_
  obtain ⟨ho, t⟩ := t
  refine g46 c_258_20 ho (fun h3 eh3 => ?_)
  have t := t h3 eh3
  refine g5 c_258_23 rfl ?_
  refine g1 c_258_24 k_0 ?_
  obtain ⟨ho, t⟩ := t
  refine g46 c_258_25 ho (fun h4 eh4 => ?_)
  have t := t h4 eh4
  refine g5 c_258_28 rfl ?_
  refine g1 c_258_29 k_0 ?_
  obtain ⟨ho, t⟩ := t
  refine g46 c_258_30 ho (fun h5 eh5 => ?_)
  have t := t h5 eh5
  refine g5 c_258_33 rfl ?_
  refine g1 c_258_34 k_0 ?_
  obtain ⟨ho, t⟩ := t
  refine g46 c_258_35 ho (fun h6 eh6 => ?_)
  have t := t h6 eh6
  refine g5 c_258_38 rfl ?_
  exact g80 (As := []) (rest := []) c_258_39 rfl rfl (Nat.le_of_ble_eq_true rfl) (Nat.le_of_ble_eq_true rfl) t.1 t.2
set_option maxRecDepth 20000 in
theorem t_258_42 {d : Nat} {h : ab_H} {Q : Option Value → ab_H → Prop} {x0 : Nat} (t : ab_ok h x0 112 = true ∧ if (ab_i h x0 9) = 0 then (Q (some (.int 0)) h) else (ab_ok h x0 112 = true ∧ wm d 257 [.ref x0] h (fun r9 h9 => wq (d + 1) 258 53 [.ref x0, .retAddr 0] (r9.toList ++ []) h9 Q))) : wq (d + 1) 258 42 [.ref x0, .retAddr 0] [] h Q := by
  refine g5 c_258_42 rfl ?_
  obtain ⟨ho, t⟩ := t
  refine g43 c_258_43 ho ?_
  refine gif c_258_46 (gbr t rfl rfl (fun hc t => ?_) (fun hc t => ?_))
  · refine g1 c_258_63 k_0 ?_
    exact g90 c_258_64 t
  · refine g5 c_258_49 rfl ?_
    exact g80 (As := []) (rest := []) c_258_50 rfl rfl (Nat.le_of_ble_eq_true rfl) (Nat.le_of_ble_eq_true rfl) t.1 t.2
set_option maxRecDepth 20000 in
theorem t_258_53 {d : Nat} {h : ab_H} {Q : Option Value → ab_H → Prop} {x0 : Nat} {s0 : Int32} (t : if s0 = 0 then (wq d 258 42 [.ref x0, .int s0] [] h Q) else (Q (some (.int s0)) h)) : wq d 258 53 [.ref x0, .retAddr 0] [.int s0] h Q := by
  refine g6 (L' := [.ref x0, .int s0]) c_258_53 rfl ?_
  refine g3 c_258_54 rfl ?_
  refine gif c_258_55 (gbr t rfl rfl (fun hc t => ?_) (fun hc t => ?_))
  · refine g38 c_258_60 rfl ?_
    exact t
  · refine g3 c_258_58 rfl ?_
    exact g90 c_258_59 t
-- method 259: MillTownModel.text()I
theorem c_259_0 : pg_cd 259 0 = (5, 1, 0, 0, 0) := by decide +kernel
theorem c_259_1 : pg_cd 259 1 = (45, 12, 8, 0, 0) := by decide +kernel
theorem c_259_4 : pg_cd 259 4 = (1, 1, 0, 0, 5) := by decide +kernel
theorem c_259_5 : pg_cd 259 5 = (50, 1, 0, 0, 0) := by decide +kernel
theorem c_259_6 : pg_cd 259 6 = (1, 2, 0, 0, 20) := by decide +kernel
theorem c_259_8 : pg_cd 259 8 = (37, 3, 0, 1, 5) := by decide +kernel
theorem c_259_11 : pg_cd 259 11 = (1, 1, 0, 0, (-1)) := by decide +kernel
theorem c_259_12 : pg_cd 259 12 = (90, 0, 0, 0, 0) := by decide +kernel
theorem c_259_13 : pg_cd 259 13 = (5, 1, 0, 0, 0) := by decide +kernel
theorem c_259_14 : pg_cd 259 14 = (5, 1, 0, 0, 0) := by decide +kernel
theorem c_259_15 : pg_cd 259 15 = (80, 258, 274, 0, 0) := by decide +kernel
theorem c_259_18 : pg_cd 259 18 = (46, 12, 23, 5, 0) := by decide +kernel
theorem c_259_21 : pg_cd 259 21 = (5, 1, 0, 0, 0) := by decide +kernel
theorem c_259_22 : pg_cd 259 22 = (5, 1, 0, 0, 0) := by decide +kernel
theorem c_259_23 : pg_cd 259 23 = (43, 12, 23, 5, 0) := by decide +kernel
theorem c_259_26 : pg_cd 259 26 = (36, 3, 0, 1, 7) := by decide +kernel
theorem c_259_29 : pg_cd 259 29 = (1, 1, 0, 0, (-1)) := by decide +kernel
theorem c_259_30 : pg_cd 259 30 = (38, 3, 0, 0, 7) := by decide +kernel
theorem c_259_33 : pg_cd 259 33 = (5, 1, 0, 0, 0) := by decide +kernel
theorem c_259_34 : pg_cd 259 34 = (43, 12, 141, 8, 0) := by decide +kernel
theorem c_259_37 : pg_cd 259 37 = (46, 12, 27, 6, 0) := by decide +kernel
theorem c_259_40 : pg_cd 259 40 = (5, 1, 0, 0, 0) := by decide +kernel
theorem c_259_41 : pg_cd 259 41 = (1, 1, 0, 0, 0) := by decide +kernel
theorem c_259_42 : pg_cd 259 42 = (46, 12, 128, 4, 0) := by decide +kernel
theorem c_259_45 : pg_cd 259 45 = (5, 1, 0, 0, 0) := by decide +kernel
theorem c_259_46 : pg_cd 259 46 = (43, 12, 23, 5, 0) := by decide +kernel
theorem c_259_49 : pg_cd 259 49 = (36, 3, 0, 0, 5) := by decide +kernel
theorem c_259_52 : pg_cd 259 52 = (1, 1, 0, 0, (-1)) := by decide +kernel
theorem c_259_53 : pg_cd 259 53 = (90, 0, 0, 0, 0) := by decide +kernel
theorem c_259_54 : pg_cd 259 54 = (5, 1, 0, 0, 0) := by decide +kernel
theorem c_259_55 : pg_cd 259 55 = (45, 12, 8, 0, 0) := by decide +kernel
theorem c_259_58 : pg_cd 259 58 = (5, 1, 0, 0, 0) := by decide +kernel
theorem c_259_59 : pg_cd 259 59 = (43, 12, 171, 12, 0) := by decide +kernel
theorem c_259_62 : pg_cd 259 62 = (5, 1, 0, 0, 0) := by decide +kernel
theorem c_259_63 : pg_cd 259 63 = (43, 12, 259, 13, 0) := by decide +kernel
theorem c_259_66 : pg_cd 259 66 = (54, 1, 0, 0, 0) := by decide +kernel
theorem c_259_67 : pg_cd 259 67 = (5, 1, 0, 0, 0) := by decide +kernel
theorem c_259_68 : pg_cd 259 68 = (45, 12, 8, 0, 0) := by decide +kernel
theorem c_259_71 : pg_cd 259 71 = (1, 1, 0, 0, 5) := by decide +kernel
theorem c_259_72 : pg_cd 259 72 = (34, 1, 0, 0, 0) := by decide +kernel
theorem c_259_73 : pg_cd 259 73 = (50, 1, 0, 0, 0) := by decide +kernel
theorem c_259_74 : pg_cd 259 74 = (1, 1, 0, 0, 1) := by decide +kernel
theorem c_259_75 : pg_cd 259 75 = (10, 1, 0, 0, 0) := by decide +kernel
theorem c_259_76 : pg_cd 259 76 = (54, 1, 0, 0, 0) := by decide +kernel
theorem c_259_77 : pg_cd 259 77 = (5, 1, 0, 0, 0) := by decide +kernel
theorem c_259_78 : pg_cd 259 78 = (45, 12, 8, 0, 0) := by decide +kernel
theorem c_259_81 : pg_cd 259 81 = (1, 1, 0, 0, 5) := by decide +kernel
theorem c_259_82 : pg_cd 259 82 = (50, 1, 0, 0, 0) := by decide +kernel
theorem c_259_83 : pg_cd 259 83 = (1, 1, 0, 0, 1) := by decide +kernel
theorem c_259_84 : pg_cd 259 84 = (11, 1, 0, 0, 0) := by decide +kernel
theorem c_259_85 : pg_cd 259 85 = (90, 0, 0, 0, 0) := by decide +kernel
theorem mx_259 : pg_mx 259 = 1 := by decide +kernel
theorem m_259 {d : Nat} {h : ab_H} {Q : Option Value → ab_H → Prop} {x0 : Nat} (t : wq d 259 0 [.ref x0] [] h Q) : wm d 259 [.ref x0] h Q := by
  unfold wm
  rw [mx_259]
  exact t
set_option maxRecDepth 20000 in
theorem t_259_0 {d : Nat} {h : ab_H} {Q : Option Value → ab_H → Prop} {x0 : Nat} (t : ab_ok h x0 112 = true ∧ ∃ j1 : Nat, ab_r h x0 0 = some j1 ∧ ((j1 = 0 ∨ ab_ok h j1 0 = true) ∧ ab_in (5 : Int32) (ab_s h j1).2 = true) ∧ if (ab_i h j1 (Int32.toNatClampNeg (5 : Int32))) = 20 then (Q (some (.int (-1))) h) else (ab_ok h x0 112 = true ∧ wm d 258 [.ref x0] h (fun r9 h9 => wq (d + 1) 259 18 [.ref x0] (r9.toList ++ [.ref x0]) h9 Q))) : wq (d + 1) 259 0 [.ref x0] [] h Q := by
  refine g5 c_259_0 rfl ?_
  obtain ⟨ho, j1, hr, t⟩ := t
  refine g45 c_259_1 ho hr ?_
  refine g1 c_259_4 k_5 ?_
  obtain ⟨ho, t⟩ := t
  refine g50 c_259_5 ho ?_
  refine g1 c_259_6 k_20 ?_
  refine gcm c_259_8 (gbn t (ab_c1 _ _) rfl (fun hc t => ?_) (fun hc t => ?_))
  · refine g1 c_259_11 k_m1 ?_
    exact g90 c_259_12 t
  · refine g5 c_259_13 rfl ?_
    refine g5 c_259_14 rfl ?_
    exact g80 (As := []) (rest := [.ref x0]) c_259_15 rfl rfl (Nat.le_of_ble_eq_true rfl) (Nat.le_of_ble_eq_true rfl) t.1 t.2
set_option maxRecDepth 20000 in
theorem t_259_18 {d : Nat} {h : ab_H} {Q : Option Value → ab_H → Prop} {x0 : Nat} {s0 : Nat} {s1 : Int32} (t : ab_ok h s0 112 = true ∧ ∀ h1 : ab_H, h1 = ab_pi h s0 5 s1 → ab_ok h1 x0 112 = true ∧ if (ab_i h1 x0 5) = 0 then (ab_ok h1 x0 112 = true ∧ ∀ h2 : ab_H, h2 = ab_pi h1 x0 6 (-1) → ab_ok h2 x0 112 = true ∧ ∀ h3 : ab_H, h3 = ab_pi h2 x0 4 0 → ab_ok h3 x0 112 = true ∧ if (ab_i h3 x0 5) = 0 then (ab_ok h3 x0 112 = true ∧ ∃ j4 : Nat, ab_r h3 x0 0 = some j4 ∧ ab_ok h3 x0 112 = true ∧ ab_ok h3 x0 112 = true ∧ (ab_ok h3 j4 0 = true ∧ ab_in (ab_i h3 x0 12) (ab_s h3 j4).2 = true) ∧ ∀ h5 : ab_H, h5 = ab_pi h3 j4 (Int32.toNatClampNeg (ab_i h3 x0 12)) (ab_i h3 x0 13) → ab_ok h5 x0 112 = true ∧ ∃ j6 : Nat, ab_r h5 x0 0 = some j6 ∧ ((j6 = 0 ∨ ab_ok h5 j6 0 = true) ∧ ab_in (5 : Int32) (ab_s h5 j6).2 = true) ∧ (ab_ok h5 j6 0 = true ∧ ab_in (5 : Int32) (ab_s h5 j6).2 = true) ∧ ∀ h7 : ab_H, h7 = ab_pi h5 j6 (Int32.toNatClampNeg (5 : Int32)) ((ab_i h5 j6 (Int32.toNatClampNeg (5 : Int32))) + 1) → ab_ok h7 x0 112 = true ∧ ∃ j8 : Nat, ab_r h7 x0 0 = some j8 ∧ ((j8 = 0 ∨ ab_ok h7 j8 0 = true) ∧ ab_in (5 : Int32) (ab_s h7 j8).2 = true) ∧ Q (some (.int ((ab_i h7 j8 (Int32.toNatClampNeg (5 : Int32))) - 1))) h7) else (Q (some (.int (-1))) h3)) else (ab_ok h1 x0 112 = true ∧ ab_ok h1 x0 112 = true ∧ ∀ h9 : ab_H, h9 = ab_pi h1 x0 6 (ab_i h1 x0 8) → ab_ok h9 x0 112 = true ∧ ∀ h10 : ab_H, h10 = ab_pi h9 x0 4 0 → ab_ok h10 x0 112 = true ∧ if (ab_i h10 x0 5) = 0 then (ab_ok h10 x0 112 = true ∧ ∃ j11 : Nat, ab_r h10 x0 0 = some j11 ∧ ab_ok h10 x0 112 = true ∧ ab_ok h10 x0 112 = true ∧ (ab_ok h10 j11 0 = true ∧ ab_in (ab_i h10 x0 12) (ab_s h10 j11).2 = true) ∧ ∀ h12 : ab_H, h12 = ab_pi h10 j11 (Int32.toNatClampNeg (ab_i h10 x0 12)) (ab_i h10 x0 13) → ab_ok h12 x0 112 = true ∧ ∃ j13 : Nat, ab_r h12 x0 0 = some j13 ∧ ((j13 = 0 ∨ ab_ok h12 j13 0 = true) ∧ ab_in (5 : Int32) (ab_s h12 j13).2 = true) ∧ (ab_ok h12 j13 0 = true ∧ ab_in (5 : Int32) (ab_s h12 j13).2 = true) ∧ ∀ h14 : ab_H, h14 = ab_pi h12 j13 (Int32.toNatClampNeg (5 : Int32)) ((ab_i h12 j13 (Int32.toNatClampNeg (5 : Int32))) + 1) → ab_ok h14 x0 112 = true ∧ ∃ j15 : Nat, ab_r h14 x0 0 = some j15 ∧ ((j15 = 0 ∨ ab_ok h14 j15 0 = true) ∧ ab_in (5 : Int32) (ab_s h14 j15).2 = true) ∧ Q (some (.int ((ab_i h14 j15 (Int32.toNatClampNeg (5 : Int32))) - 1))) h14) else (Q (some (.int (-1))) h10))) : wq d 259 18 [.ref x0] [.int s1, .ref s0] h Q := by
  obtain ⟨ho, t⟩ := t
  refine g46 c_259_18 ho (fun h1 eh1 => ?_)
  have t := t h1 eh1
  refine g5 c_259_21 rfl ?_
  refine g5 c_259_22 rfl ?_
  obtain ⟨ho, t⟩ := t
  refine g43 c_259_23 ho ?_
  refine gif c_259_26 (gbn t (ab_c1 _ _) rfl (fun hc t => ?_) (fun hc t => ?_))
  · refine g1 c_259_29 k_m1 ?_
    refine g38 c_259_30 rfl ?_
    obtain ⟨ho, t⟩ := t
    refine g46 c_259_37 ho (fun h2 eh2 => ?_)
    have t := t h2 eh2
    refine g5 c_259_40 rfl ?_
    refine g1 c_259_41 k_0 ?_
    obtain ⟨ho, t⟩ := t
    refine g46 c_259_42 ho (fun h3 eh3 => ?_)
    have t := t h3 eh3
    refine g5 c_259_45 rfl ?_
    obtain ⟨ho, t⟩ := t
    refine g43 c_259_46 ho ?_
    refine gif c_259_49 (gbr t rfl rfl (fun hc t => ?_) (fun hc t => ?_))
    · refine g5 c_259_54 rfl ?_
      obtain ⟨ho, j4, hr, t⟩ := t
      refine g45 c_259_55 ho hr ?_
      refine g5 c_259_58 rfl ?_
      obtain ⟨ho, t⟩ := t
      refine g43 c_259_59 ho ?_
      refine g5 c_259_62 rfl ?_
      obtain ⟨ho, t⟩ := t
      refine g43 c_259_63 ho ?_
      obtain ⟨ho, t⟩ := t
      refine g54 c_259_66 ho (fun h5 eh5 => ?_)
      have t := t h5 eh5
      refine g5 c_259_67 rfl ?_
      obtain ⟨ho, j6, hr, t⟩ := t
      refine g45 c_259_68 ho hr ?_
      refine g1 c_259_71 k_5 ?_
      refine g34a c_259_72 ?_
      obtain ⟨ho, t⟩ := t
      refine g50 c_259_73 ho ?_
      refine g1 c_259_74 k_1 ?_
      refine g10 c_259_75 ?_
      obtain ⟨ho, t⟩ := t
      refine g54 c_259_76 ho (fun h7 eh7 => ?_)
      have t := t h7 eh7
      refine g5 c_259_77 rfl ?_
      obtain ⟨ho, j8, hr, t⟩ := t
      refine g45 c_259_78 ho hr ?_
      refine g1 c_259_81 k_5 ?_
      obtain ⟨ho, t⟩ := t
      refine g50 c_259_82 ho ?_
      refine g1 c_259_83 k_1 ?_
      refine g11 c_259_84 ?_
      exact g90 c_259_85 t
    · refine g1 c_259_52 k_m1 ?_
      exact g90 c_259_53 t
  · refine g5 c_259_33 rfl ?_
    obtain ⟨ho, t⟩ := t
    refine g43 c_259_34 ho ?_
    obtain ⟨ho, t⟩ := t
    refine g46 c_259_37 ho (fun h9 eh9 => ?_)
    have t := t h9 eh9
    refine g5 c_259_40 rfl ?_
    refine g1 c_259_41 k_0 ?_
    obtain ⟨ho, t⟩ := t
    refine g46 c_259_42 ho (fun h10 eh10 => ?_)
    have t := t h10 eh10
    refine g5 c_259_45 rfl ?_
    obtain ⟨ho, t⟩ := t
    refine g43 c_259_46 ho ?_
    refine gif c_259_49 (gbr t rfl rfl (fun hc t => ?_) (fun hc t => ?_))
    · refine g5 c_259_54 rfl ?_
      obtain ⟨ho, j11, hr, t⟩ := t
      refine g45 c_259_55 ho hr ?_
      refine g5 c_259_58 rfl ?_
      obtain ⟨ho, t⟩ := t
      refine g43 c_259_59 ho ?_
      refine g5 c_259_62 rfl ?_
      obtain ⟨ho, t⟩ := t
      refine g43 c_259_63 ho ?_
      obtain ⟨ho, t⟩ := t
      refine g54 c_259_66 ho (fun h12 eh12 => ?_)
      have t := t h12 eh12
      refine g5 c_259_67 rfl ?_
      obtain ⟨ho, j13, hr, t⟩ := t
      refine g45 c_259_68 ho hr ?_
      refine g1 c_259_71 k_5 ?_
      refine g34a c_259_72 ?_
      obtain ⟨ho, t⟩ := t
      refine g50 c_259_73 ho ?_
      refine g1 c_259_74 k_1 ?_
      refine g10 c_259_75 ?_
      obtain ⟨ho, t⟩ := t
      refine g54 c_259_76 ho (fun h14 eh14 => ?_)
      have t := t h14 eh14
      refine g5 c_259_77 rfl ?_
      obtain ⟨ho, j15, hr, t⟩ := t
      refine g45 c_259_78 ho hr ?_
      refine g1 c_259_81 k_5 ?_
      obtain ⟨ho, t⟩ := t
      refine g50 c_259_82 ho ?_
      refine g1 c_259_83 k_1 ?_
      refine g11 c_259_84 ?_
      exact g90 c_259_85 t
    · refine g1 c_259_52 k_m1 ?_
      exact g90 c_259_53 t
