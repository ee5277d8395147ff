/-! ===== a WEEK: the weavers of the reference (segments printed by wip/whole, contracts own work) ===== -/
/-- what weave leaves -/
def WVF (a a1 : Int → Int) (m : Int) (σ σ1 : zI) : Prop := σ1 84 = As a1 (PE2 a m) (MI2 a m) (OD1 a (a 1)) ∧ (∀ p, 0 ≤ p → p < a 4 → σ1 94 p = wk_mp a m p) ∧ ∀ c, c ≠ 84 → c ≠ 94 → σ1 c = σ c
theorem wk_np_m {a : Int → Int} {m p : Int} (h : a (3652 + 12 * p + 4) = m) : wk_np a p = wk_nx a m p := by unfold wk_np; rw [h]
theorem wk_mp_s {a : Int → Int} {m p : Int} : wk_mp a (m + 1) p = if 0 ≤ a (3652 + 12 * p + 4) ∧ a (3652 + 12 * p + 4) = m then wk_np a p else wk_mp a m p := by
  unfold wk_mp
  by_cases c : 0 ≤ a (3652 + 12 * p + 4) ∧ a (3652 + 12 * p + 4) = m
  · rw [if_pos c, if_pos (by omega)]
  · rw [if_neg c]
    by_cases c2 : 0 ≤ a (3652 + 12 * p + 4) ∧ a (3652 + 12 * p + 4) < m
    · rw [if_pos c2, if_pos (by omega)]
    · rw [if_neg c2, if_neg (by omega)]
theorem wk_mp_no {a : Int → Int} {m p : Int} (h : ¬ wk_D a m) : wk_mp a (m + 1) p = wk_mp a m p := by
  rw [wk_mp_s]
  split
  · next c =>
    rw [wk_np_m c.2]
    unfold wk_nx wk_mp
    rw [if_neg (fun q => h q.2), if_neg (by omega)]
  · rfl
theorem t2_id {f : Int → Int → Int} {m c v : Int} (h : f m c = v) (x y : Int) : t2 f m c v x y = f x y := by
  unfold t2
  split
  · next q => rw [q.1, q.2, h]
  · rfl
-- method 284: MillTownModel.weave(I)V
theorem c_284_0 : pg_cd 284 0 = (1, 3, 0, 0, 3300) := by decide +kernel
theorem c_284_3 : pg_cd 284 3 = (1, 2, 0, 0, 16) := by decide +kernel
theorem c_284_5 : pg_cd 284 5 = (3, 1, 0, 1, 0) := by decide +kernel
theorem c_284_6 : pg_cd 284 6 = (12, 1, 0, 0, 0) := by decide +kernel
theorem c_284_7 : pg_cd 284 7 = (10, 1, 0, 0, 0) := by decide +kernel
theorem c_284_8 : pg_cd 284 8 = (6, 1, 0, 2, 0) := by decide +kernel
theorem c_284_9 : pg_cd 284 9 = (5, 1, 0, 0, 0) := by decide +kernel
theorem c_284_10 : pg_cd 284 10 = (45, 12, 8, 0, 0) := by decide +kernel
theorem c_284_13 : pg_cd 284 13 = (1, 3, 0, 0, 4372) := by decide +kernel
theorem c_284_16 : pg_cd 284 16 = (1, 2, 0, 0, 8) := by decide +kernel
theorem c_284_18 : pg_cd 284 18 = (5, 1, 0, 0, 0) := by decide +kernel
theorem c_284_19 : pg_cd 284 19 = (45, 12, 8, 0, 0) := by decide +kernel
theorem c_284_22 : pg_cd 284 22 = (3, 1, 0, 2, 0) := by decide +kernel
theorem c_284_23 : pg_cd 284 23 = (1, 2, 0, 0, 9) := by decide +kernel
theorem c_284_25 : pg_cd 284 25 = (10, 1, 0, 0, 0) := by decide +kernel
theorem c_284_26 : pg_cd 284 26 = (50, 1, 0, 0, 0) := by decide +kernel
theorem c_284_27 : pg_cd 284 27 = (12, 1, 0, 0, 0) := by decide +kernel
theorem c_284_28 : pg_cd 284 28 = (10, 1, 0, 0, 0) := by decide +kernel
theorem c_284_29 : pg_cd 284 29 = (50, 1, 0, 0, 0) := by decide +kernel
theorem c_284_30 : pg_cd 284 30 = (6, 1, 0, 3, 0) := by decide +kernel
theorem c_284_31 : pg_cd 284 31 = (5, 1, 0, 0, 0) := by decide +kernel
theorem c_284_32 : pg_cd 284 32 = (3, 1, 0, 3, 0) := by decide +kernel
theorem c_284_33 : pg_cd 284 33 = (80, 278, 352, 0, 0) := by decide +kernel
theorem c_284_36 : pg_cd 284 36 = (6, 2, 0, 4, 0) := by decide +kernel
theorem c_284_38 : pg_cd 284 38 = (5, 1, 0, 0, 0) := by decide +kernel
theorem c_284_39 : pg_cd 284 39 = (3, 1, 0, 3, 0) := by decide +kernel
theorem c_284_40 : pg_cd 284 40 = (1, 1, 0, 0, 3) := by decide +kernel
theorem c_284_41 : pg_cd 284 41 = (80, 197, 85, 0, 0) := by decide +kernel
theorem c_284_44 : pg_cd 284 44 = (6, 2, 0, 5, 0) := by decide +kernel
theorem c_284_46 : pg_cd 284 46 = (5, 1, 0, 0, 0) := by decide +kernel
theorem c_284_47 : pg_cd 284 47 = (45, 12, 8, 0, 0) := by decide +kernel
theorem c_284_50 : pg_cd 284 50 = (3, 1, 0, 2, 0) := by decide +kernel
theorem c_284_51 : pg_cd 284 51 = (1, 2, 0, 0, 11) := by decide +kernel
theorem c_284_53 : pg_cd 284 53 = (10, 1, 0, 0, 0) := by decide +kernel
theorem c_284_54 : pg_cd 284 54 = (50, 1, 0, 0, 0) := by decide +kernel
theorem c_284_55 : pg_cd 284 55 = (6, 2, 0, 6, 0) := by decide +kernel
theorem c_284_57 : pg_cd 284 57 = (1, 1, 0, 0, 0) := by decide +kernel
theorem c_284_58 : pg_cd 284 58 = (6, 2, 0, 7, 0) := by decide +kernel
theorem c_284_60 : pg_cd 284 60 = (3, 2, 0, 7, 0) := by decide +kernel
theorem c_284_62 : pg_cd 284 62 = (5, 1, 0, 0, 0) := by decide +kernel
theorem c_284_63 : pg_cd 284 63 = (45, 12, 8, 0, 0) := by decide +kernel
theorem c_284_66 : pg_cd 284 66 = (1, 1, 0, 0, 4) := by decide +kernel
theorem c_284_67 : pg_cd 284 67 = (50, 1, 0, 0, 0) := by decide +kernel
theorem c_284_68 : pg_cd 284 68 = (37, 3, 0, 3, 248) := by decide +kernel
theorem c_284_71 : pg_cd 284 71 = (5, 1, 0, 0, 0) := by decide +kernel
theorem c_284_72 : pg_cd 284 72 = (3, 2, 0, 7, 0) := by decide +kernel
theorem c_284_74 : pg_cd 284 74 = (3, 1, 0, 1, 0) := by decide +kernel
theorem c_284_75 : pg_cd 284 75 = (80, 279, 346, 0, 0) := by decide +kernel
theorem c_284_78 : pg_cd 284 78 = (36, 3, 0, 1, 6) := by decide +kernel
theorem c_284_81 : pg_cd 284 81 = (38, 3, 0, 0, 229) := by decide +kernel
theorem c_284_84 : pg_cd 284 84 = (5, 1, 0, 0, 0) := by decide +kernel
theorem c_284_85 : pg_cd 284 85 = (3, 2, 0, 7, 0) := by decide +kernel
theorem c_284_87 : pg_cd 284 87 = (1, 2, 0, 0, 7) := by decide +kernel
theorem c_284_89 : pg_cd 284 89 = (80, 199, 102, 0, 0) := by decide +kernel
theorem c_284_92 : pg_cd 284 92 = (5, 1, 0, 0, 0) := by decide +kernel
theorem c_284_93 : pg_cd 284 93 = (3, 2, 0, 7, 0) := by decide +kernel
theorem c_284_95 : pg_cd 284 95 = (5, 1, 0, 0, 0) := by decide +kernel
theorem c_284_96 : pg_cd 284 96 = (3, 2, 0, 7, 0) := by decide +kernel
theorem c_284_98 : pg_cd 284 98 = (80, 283, 361, 0, 0) := by decide +kernel
theorem c_284_101 : pg_cd 284 101 = (80, 280, 349, 0, 0) := by decide +kernel
theorem c_284_104 : pg_cd 284 104 = (10, 1, 0, 0, 0) := by decide +kernel
theorem c_284_105 : pg_cd 284 105 = (6, 2, 0, 8, 0) := by decide +kernel
theorem c_284_107 : pg_cd 284 107 = (3, 2, 0, 8, 0) := by decide +kernel
theorem c_284_109 : pg_cd 284 109 = (3, 2, 0, 4, 0) := by decide +kernel
theorem c_284_111 : pg_cd 284 111 = (16, 1, 0, 0, 0) := by decide +kernel
theorem c_284_112 : pg_cd 284 112 = (3, 2, 0, 6, 0) := by decide +kernel
theorem c_284_114 : pg_cd 284 114 = (37, 3, 0, 3, 11) := by decide +kernel
theorem c_284_117 : pg_cd 284 117 = (3, 2, 0, 8, 0) := by decide +kernel
theorem c_284_119 : pg_cd 284 119 = (3, 2, 0, 4, 0) := by decide +kernel
theorem c_284_121 : pg_cd 284 121 = (16, 1, 0, 0, 0) := by decide +kernel
theorem c_284_122 : pg_cd 284 122 = (38, 3, 0, 0, 5) := by decide +kernel
theorem c_284_125 : pg_cd 284 125 = (3, 2, 0, 6, 0) := by decide +kernel
theorem c_284_127 : pg_cd 284 127 = (6, 2, 0, 9, 0) := by decide +kernel
theorem c_284_129 : pg_cd 284 129 = (5, 1, 0, 0, 0) := by decide +kernel
theorem c_284_130 : pg_cd 284 130 = (45, 12, 8, 0, 0) := by decide +kernel
theorem c_284_133 : pg_cd 284 133 = (3, 1, 0, 2, 0) := by decide +kernel
theorem c_284_134 : pg_cd 284 134 = (1, 1, 0, 0, 4) := by decide +kernel
theorem c_284_135 : pg_cd 284 135 = (10, 1, 0, 0, 0) := by decide +kernel
theorem c_284_136 : pg_cd 284 136 = (50, 1, 0, 0, 0) := by decide +kernel
theorem c_284_137 : pg_cd 284 137 = (3, 2, 0, 9, 0) := by decide +kernel
theorem c_284_139 : pg_cd 284 139 = (3, 2, 0, 5, 0) := by decide +kernel
theorem c_284_141 : pg_cd 284 141 = (12, 1, 0, 0, 0) := by decide +kernel
theorem c_284_142 : pg_cd 284 142 = (37, 3, 0, 3, 50) := by decide +kernel
theorem c_284_145 : pg_cd 284 145 = (5, 1, 0, 0, 0) := by decide +kernel
theorem c_284_146 : pg_cd 284 146 = (45, 12, 8, 0, 0) := by decide +kernel
theorem c_284_149 : pg_cd 284 149 = (3, 1, 0, 2, 0) := by decide +kernel
theorem c_284_150 : pg_cd 284 150 = (1, 1, 0, 0, 2) := by decide +kernel
theorem c_284_151 : pg_cd 284 151 = (10, 1, 0, 0, 0) := by decide +kernel
theorem c_284_152 : pg_cd 284 152 = (50, 1, 0, 0, 0) := by decide +kernel
theorem c_284_153 : pg_cd 284 153 = (5, 1, 0, 0, 0) := by decide +kernel
theorem c_284_154 : pg_cd 284 154 = (43, 12, 355, 29, 0) := by decide +kernel
theorem c_284_157 : pg_cd 284 157 = (37, 3, 0, 2, 35) := by decide +kernel
theorem c_284_160 : pg_cd 284 160 = (5, 1, 0, 0, 0) := by decide +kernel
theorem c_284_161 : pg_cd 284 161 = (45, 12, 8, 0, 0) := by decide +kernel
theorem c_284_164 : pg_cd 284 164 = (3, 1, 0, 2, 0) := by decide +kernel
theorem c_284_165 : pg_cd 284 165 = (1, 1, 0, 0, 2) := by decide +kernel
theorem c_284_166 : pg_cd 284 166 = (10, 1, 0, 0, 0) := by decide +kernel
theorem c_284_167 : pg_cd 284 167 = (34, 1, 0, 0, 0) := by decide +kernel
theorem c_284_168 : pg_cd 284 168 = (50, 1, 0, 0, 0) := by decide +kernel
theorem c_284_169 : pg_cd 284 169 = (5, 1, 0, 0, 0) := by decide +kernel
theorem c_284_170 : pg_cd 284 170 = (43, 12, 355, 29, 0) := by decide +kernel
theorem c_284_173 : pg_cd 284 173 = (11, 1, 0, 0, 0) := by decide +kernel
theorem c_284_174 : pg_cd 284 174 = (54, 1, 0, 0, 0) := by decide +kernel
theorem c_284_175 : pg_cd 284 175 = (5, 1, 0, 0, 0) := by decide +kernel
theorem c_284_176 : pg_cd 284 176 = (45, 12, 8, 0, 0) := by decide +kernel
theorem c_284_179 : pg_cd 284 179 = (3, 1, 0, 2, 0) := by decide +kernel
theorem c_284_180 : pg_cd 284 180 = (1, 1, 0, 0, 4) := by decide +kernel
theorem c_284_181 : pg_cd 284 181 = (10, 1, 0, 0, 0) := by decide +kernel
theorem c_284_182 : pg_cd 284 182 = (34, 1, 0, 0, 0) := by decide +kernel
theorem c_284_183 : pg_cd 284 183 = (50, 1, 0, 0, 0) := by decide +kernel
theorem c_284_184 : pg_cd 284 184 = (1, 3, 0, 0, 360) := by decide +kernel
theorem c_284_187 : pg_cd 284 187 = (10, 1, 0, 0, 0) := by decide +kernel
theorem c_284_188 : pg_cd 284 188 = (54, 1, 0, 0, 0) := by decide +kernel
theorem c_284_189 : pg_cd 284 189 = (38, 3, 0, 0, (-60)) := by decide +kernel
theorem c_284_192 : pg_cd 284 192 = (5, 1, 0, 0, 0) := by decide +kernel
theorem c_284_193 : pg_cd 284 193 = (45, 12, 8, 0, 0) := by decide +kernel
theorem c_284_196 : pg_cd 284 196 = (3, 1, 0, 2, 0) := by decide +kernel
theorem c_284_197 : pg_cd 284 197 = (1, 1, 0, 0, 4) := by decide +kernel
theorem c_284_198 : pg_cd 284 198 = (10, 1, 0, 0, 0) := by decide +kernel
theorem c_284_199 : pg_cd 284 199 = (50, 1, 0, 0, 0) := by decide +kernel
theorem c_284_200 : pg_cd 284 200 = (3, 2, 0, 5, 0) := by decide +kernel
theorem c_284_202 : pg_cd 284 202 = (16, 1, 0, 0, 0) := by decide +kernel
theorem c_284_203 : pg_cd 284 203 = (3, 2, 0, 9, 0) := by decide +kernel
theorem c_284_205 : pg_cd 284 205 = (37, 3, 0, 3, 16) := by decide +kernel
theorem c_284_208 : pg_cd 284 208 = (5, 1, 0, 0, 0) := by decide +kernel
theorem c_284_209 : pg_cd 284 209 = (45, 12, 8, 0, 0) := by decide +kernel
theorem c_284_212 : pg_cd 284 212 = (3, 1, 0, 2, 0) := by decide +kernel
theorem c_284_213 : pg_cd 284 213 = (1, 1, 0, 0, 4) := by decide +kernel
theorem c_284_214 : pg_cd 284 214 = (10, 1, 0, 0, 0) := by decide +kernel
theorem c_284_215 : pg_cd 284 215 = (50, 1, 0, 0, 0) := by decide +kernel
theorem c_284_216 : pg_cd 284 216 = (3, 2, 0, 5, 0) := by decide +kernel
theorem c_284_218 : pg_cd 284 218 = (16, 1, 0, 0, 0) := by decide +kernel
theorem c_284_219 : pg_cd 284 219 = (6, 2, 0, 9, 0) := by decide +kernel
theorem c_284_221 : pg_cd 284 221 = (5, 1, 0, 0, 0) := by decide +kernel
theorem c_284_222 : pg_cd 284 222 = (45, 12, 8, 0, 0) := by decide +kernel
theorem c_284_225 : pg_cd 284 225 = (3, 1, 0, 2, 0) := by decide +kernel
theorem c_284_226 : pg_cd 284 226 = (1, 1, 0, 0, 4) := by decide +kernel
theorem c_284_227 : pg_cd 284 227 = (10, 1, 0, 0, 0) := by decide +kernel
theorem c_284_228 : pg_cd 284 228 = (34, 1, 0, 0, 0) := by decide +kernel
theorem c_284_229 : pg_cd 284 229 = (50, 1, 0, 0, 0) := by decide +kernel
theorem c_284_230 : pg_cd 284 230 = (3, 2, 0, 9, 0) := by decide +kernel
theorem c_284_232 : pg_cd 284 232 = (3, 2, 0, 5, 0) := by decide +kernel
theorem c_284_234 : pg_cd 284 234 = (12, 1, 0, 0, 0) := by decide +kernel
theorem c_284_235 : pg_cd 284 235 = (11, 1, 0, 0, 0) := by decide +kernel
theorem c_284_236 : pg_cd 284 236 = (54, 1, 0, 0, 0) := by decide +kernel
theorem c_284_237 : pg_cd 284 237 = (3, 2, 0, 6, 0) := by decide +kernel
theorem c_284_239 : pg_cd 284 239 = (3, 2, 0, 9, 0) := by decide +kernel
theorem c_284_241 : pg_cd 284 241 = (11, 1, 0, 0, 0) := by decide +kernel
theorem c_284_242 : pg_cd 284 242 = (6, 2, 0, 6, 0) := by decide +kernel
theorem c_284_244 : pg_cd 284 244 = (5, 1, 0, 0, 0) := by decide +kernel
theorem c_284_245 : pg_cd 284 245 = (45, 12, 50, 33, 0) := by decide +kernel
theorem c_284_248 : pg_cd 284 248 = (3, 2, 0, 7, 0) := by decide +kernel
theorem c_284_250 : pg_cd 284 250 = (3, 2, 0, 9, 0) := by decide +kernel
theorem c_284_252 : pg_cd 284 252 = (54, 1, 0, 0, 0) := by decide +kernel
theorem c_284_253 : pg_cd 284 253 = (5, 1, 0, 0, 0) := by decide +kernel
theorem c_284_254 : pg_cd 284 254 = (45, 12, 8, 0, 0) := by decide +kernel
theorem c_284_257 : pg_cd 284 257 = (3, 1, 0, 2, 0) := by decide +kernel
theorem c_284_258 : pg_cd 284 258 = (1, 2, 0, 0, 10) := by decide +kernel
theorem c_284_260 : pg_cd 284 260 = (10, 1, 0, 0, 0) := by decide +kernel
theorem c_284_261 : pg_cd 284 261 = (34, 1, 0, 0, 0) := by decide +kernel
theorem c_284_262 : pg_cd 284 262 = (50, 1, 0, 0, 0) := by decide +kernel
theorem c_284_263 : pg_cd 284 263 = (3, 2, 0, 9, 0) := by decide +kernel
theorem c_284_265 : pg_cd 284 265 = (10, 1, 0, 0, 0) := by decide +kernel
theorem c_284_266 : pg_cd 284 266 = (54, 1, 0, 0, 0) := by decide +kernel
theorem c_284_267 : pg_cd 284 267 = (3, 2, 0, 8, 0) := by decide +kernel
theorem c_284_269 : pg_cd 284 269 = (3, 2, 0, 9, 0) := by decide +kernel
theorem c_284_271 : pg_cd 284 271 = (3, 2, 0, 4, 0) := by decide +kernel
theorem c_284_273 : pg_cd 284 273 = (12, 1, 0, 0, 0) := by decide +kernel
theorem c_284_274 : pg_cd 284 274 = (11, 1, 0, 0, 0) := by decide +kernel
theorem c_284_275 : pg_cd 284 275 = (6, 2, 0, 10, 0) := by decide +kernel
theorem c_284_277 : pg_cd 284 277 = (5, 1, 0, 0, 0) := by decide +kernel
theorem c_284_278 : pg_cd 284 278 = (45, 12, 8, 0, 0) := by decide +kernel
theorem c_284_281 : pg_cd 284 281 = (1, 3, 0, 0, 3652) := by decide +kernel
theorem c_284_284 : pg_cd 284 284 = (1, 2, 0, 0, 12) := by decide +kernel
theorem c_284_286 : pg_cd 284 286 = (3, 2, 0, 7, 0) := by decide +kernel
theorem c_284_288 : pg_cd 284 288 = (12, 1, 0, 0, 0) := by decide +kernel
theorem c_284_289 : pg_cd 284 289 = (10, 1, 0, 0, 0) := by decide +kernel
theorem c_284_290 : pg_cd 284 290 = (1, 2, 0, 0, 7) := by decide +kernel
theorem c_284_292 : pg_cd 284 292 = (10, 1, 0, 0, 0) := by decide +kernel
theorem c_284_293 : pg_cd 284 293 = (3, 2, 0, 10, 0) := by decide +kernel
theorem c_284_295 : pg_cd 284 295 = (3, 2, 0, 4, 0) := by decide +kernel
theorem c_284_297 : pg_cd 284 297 = (37, 3, 0, 3, 8) := by decide +kernel
theorem c_284_300 : pg_cd 284 300 = (3, 2, 0, 10, 0) := by decide +kernel
theorem c_284_302 : pg_cd 284 302 = (38, 3, 0, 0, 7) := by decide +kernel
theorem c_284_305 : pg_cd 284 305 = (3, 2, 0, 4, 0) := by decide +kernel
theorem c_284_307 : pg_cd 284 307 = (1, 1, 0, 0, 1) := by decide +kernel
theorem c_284_308 : pg_cd 284 308 = (11, 1, 0, 0, 0) := by decide +kernel
theorem c_284_309 : pg_cd 284 309 = (54, 1, 0, 0, 0) := by decide +kernel
theorem c_284_310 : pg_cd 284 310 = (9, 3, 0, 7, 1) := by decide +kernel
theorem c_284_313 : pg_cd 284 313 = (38, 3, 0, 0, (-253)) := by decide +kernel
theorem c_284_316 : pg_cd 284 316 = (94, 0, 0, 0, 0) := by decide +kernel
theorem mi_284 : pg_mc 284 = 12 ∧ pg_na 284 = 1 ∧ pg_mx 284 = 11 := by decide +kernel
set_option maxRecDepth 20000 in
theorem u_284_0 {d : Nat} {S : zS} {σ τ : zI} {Q : zQ} {x1 : Int} (t : (0 ≤ (3300 + (16 * x1)) + 9 ∧ (3300 + (16 * x1)) + 9 < 112300) ∧ (0 ≤ 4372 + (8 * (σ 84 ((3300 + (16 * x1)) + 9))) ∧ 4372 + (8 * (σ 84 ((3300 + (16 * x1)) + 9))) < 112300) ∧ (jv_K (σ 84)) ∧ (0 ≤ (σ 84 (4372 + (8 * (σ 84 ((3300 + (16 * x1)) + 9))))) ∧ (σ 84 (4372 + (8 * (σ 84 ((3300 + (16 * x1)) + 9))))) ≤ (5 : Int)) ∧ ∀ (v6 : Int), v6 = r_cost (σ 84) (σ 84 (4372 + (8 * (σ 84 ((3300 + (16 * x1)) + 9))))) → 2000 ≤ v6 ∧ v6 ≤ 228000 → (0 ≤ 20 + 8 * (σ 84 (4372 + (8 * (σ 84 ((3300 + (16 * x1)) + 9))))) + 3 ∧ 20 + 8 * (σ 84 (4372 + (8 * (σ 84 ((3300 + (16 * x1)) + 9))))) + 3 < 112300) ∧ (0 ≤ (3300 + (16 * x1)) + 11 ∧ (3300 + (16 * x1)) + 11 < 112300) ∧ wi (d + 3) 284 60 [.ref 83, .int (wI x1), .int (wI (3300 + (16 * x1))), .int (wI (σ 84 (4372 + (8 * (σ 84 ((3300 + (16 * x1)) + 9)))))), .int (wI v6), .int (wI (σ 84 (20 + 8 * (σ 84 (4372 + (8 * (σ 84 ((3300 + (16 * x1)) + 9))))) + 3))), .int (wI (σ 84 ((3300 + (16 * x1)) + 11))), .int (wI 0), .retAddr 0, .retAddr 0, .retAddr 0] [] S σ τ Q) : wi (d + 3) 284 0 [.ref 83, .int (wI x1), .retAddr 0, .retAddr 0, .retAddr 0, .retAddr 0, .retAddr 0, .retAddr 0, .retAddr 0, .retAddr 0, .retAddr 0] [] S σ τ Q := by
  obtain ⟨r1, t⟩ := t
  refine i1 c_284_0 (i1 c_284_3 (i3 c_284_5 rfl (i12 c_284_6 (i10 c_284_7 (i6 (L' := [.ref 83, .int (wI x1), .int (wI (3300 + (16 * x1))), .retAddr 0, .retAddr 0, .retAddr 0, .retAddr 0, .retAddr 0, .retAddr 0, .retAddr 0, .retAddr 0]) c_284_8 rfl (i5 c_284_9 rfl (i45 c_284_10 (lo (c := 83) (kd := 112) (n := 0) rfl (by decide)) (lro (c := 83) (k := 0) (j := 84) (by decide)) (i1 c_284_13 (i1 c_284_16 (i5 c_284_18 rfl (i45 c_284_19 (lo (c := 83) (kd := 112) (n := 0) rfl (by decide)) (lro (c := 83) (k := 0) (j := 84) (by decide)) (i3 c_284_22 rfl (i1 c_284_23 (i10 c_284_25 (wi_ok (fun K2 => ?_))))))))))))))))
  obtain ⟨r3, t⟩ := t
  obtain ⟨p4, t⟩ := t
  obtain ⟨p5, t⟩ := t
  refine i50 (v := σ 84 ((3300 + (16 * x1)) + 9)) c_284_26 (lo (c := 84) (kd := 0) (n := 112300) rfl (by decide)) (by decide) r1 rfl (i12 c_284_27 (i10 c_284_28 (i50 (v := σ 84 (4372 + (8 * (σ 84 ((3300 + (16 * x1)) + 9))))) c_284_29 (lo (c := 84) (kd := 0) (n := 112300) rfl (by decide)) (by decide) r3 rfl (i6 (L' := [.ref 83, .int (wI x1), .int (wI (3300 + (16 * x1))), .int (wI (σ 84 (4372 + (8 * (σ 84 ((3300 + (16 * x1)) + 9)))))), .retAddr 0, .retAddr 0, .retAddr 0, .retAddr 0, .retAddr 0, .retAddr 0, .retAddr 0]) c_284_30 rfl (i5 c_284_31 rfl (i3 c_284_32 rfl ?_))))))
  refine i80 (As := [.int (wI (σ 84 (4372 + (8 * (σ 84 ((3300 + (16 * x1)) + 9))))))]) (rest := []) c_284_33 mi_278 rfl rfl (Nat.le_of_ble_eq_true rfl) (Nat.le_of_ble_eq_true rfl) (lo (c := 83) (kd := 112) (n := 0) rfl (by decide)) (q_278 p4 p5 (fun v6 q7 q8 => ?_))
  have t := t v6 q7 q8
  show wi (d + 3) 284 36 [.ref 83, .int (wI x1), .int (wI (3300 + (16 * x1))), .int (wI (σ 84 (4372 + (8 * (σ 84 ((3300 + (16 * x1)) + 9)))))), .retAddr 0, .retAddr 0, .retAddr 0, .retAddr 0, .retAddr 0, .retAddr 0, .retAddr 0] [.int (wI v6)] S σ τ Q
  obtain ⟨p9, t⟩ := t
  refine i6 (L' := [.ref 83, .int (wI x1), .int (wI (3300 + (16 * x1))), .int (wI (σ 84 (4372 + (8 * (σ 84 ((3300 + (16 * x1)) + 9)))))), .int (wI v6), .retAddr 0, .retAddr 0, .retAddr 0, .retAddr 0, .retAddr 0, .retAddr 0]) c_284_36 rfl (i5 c_284_38 rfl (i3 c_284_39 rfl (i1 c_284_40 ?_)))
  refine i80 (As := [.int (wI (σ 84 (4372 + (8 * (σ 84 ((3300 + (16 * x1)) + 9)))))), .int (wI 3)]) (rest := []) c_284_41 mi_197 rfl rfl (Nat.le_of_ble_eq_true rfl) (Nat.le_of_ble_eq_true rfl) (lo (c := 83) (kd := 112) (n := 0) rfl (by decide)) (q_197 p9 ?_)
  show wi (d + 3) 284 44 [.ref 83, .int (wI x1), .int (wI (3300 + (16 * x1))), .int (wI (σ 84 (4372 + (8 * (σ 84 ((3300 + (16 * x1)) + 9)))))), .int (wI v6), .retAddr 0, .retAddr 0, .retAddr 0, .retAddr 0, .retAddr 0, .retAddr 0] [.int (wI (σ 84 (20 + 8 * (σ 84 (4372 + (8 * (σ 84 ((3300 + (16 * x1)) + 9))))) + 3)))] S σ τ Q
  obtain ⟨r10, t⟩ := t
  refine i6 (L' := [.ref 83, .int (wI x1), .int (wI (3300 + (16 * x1))), .int (wI (σ 84 (4372 + (8 * (σ 84 ((3300 + (16 * x1)) + 9)))))), .int (wI v6), .int (wI (σ 84 (20 + 8 * (σ 84 (4372 + (8 * (σ 84 ((3300 + (16 * x1)) + 9))))) + 3))), .retAddr 0, .retAddr 0, .retAddr 0, .retAddr 0, .retAddr 0]) c_284_44 rfl (i5 c_284_46 rfl (i45 c_284_47 (lo (c := 83) (kd := 112) (n := 0) rfl (by decide)) (lro (c := 83) (k := 0) (j := 84) (by decide)) (i3 c_284_50 rfl (i1 c_284_51 (i10 c_284_53 (i50 (v := σ 84 ((3300 + (16 * x1)) + 11)) c_284_54 (lo (c := 84) (kd := 0) (n := 112300) rfl (by decide)) (by decide) r10 rfl (i6 (L' := [.ref 83, .int (wI x1), .int (wI (3300 + (16 * x1))), .int (wI (σ 84 (4372 + (8 * (σ 84 ((3300 + (16 * x1)) + 9)))))), .int (wI v6), .int (wI (σ 84 (20 + 8 * (σ 84 (4372 + (8 * (σ 84 ((3300 + (16 * x1)) + 9))))) + 3))), .int (wI (σ 84 ((3300 + (16 * x1)) + 11))), .retAddr 0, .retAddr 0, .retAddr 0, .retAddr 0]) c_284_55 rfl (i1 c_284_57 (i6 (L' := [.ref 83, .int (wI x1), .int (wI (3300 + (16 * x1))), .int (wI (σ 84 (4372 + (8 * (σ 84 ((3300 + (16 * x1)) + 9)))))), .int (wI v6), .int (wI (σ 84 (20 + 8 * (σ 84 (4372 + (8 * (σ 84 ((3300 + (16 * x1)) + 9))))) + 3))), .int (wI (σ 84 ((3300 + (16 * x1)) + 11))), .int (wI 0), .retAddr 0, .retAddr 0, .retAddr 0]) c_284_58 rfl t)))))))))
set_option maxRecDepth 20000 in
theorem u_284_60 {d : Nat} {S : zS} {σ τ : zI} {Q : zQ} {x1 : Int} {x2 : Int} {x3 : Int} {x4 : Int} {x5 : Int} {x6 : Int} {x7 : Int} {y8 : Value} {y9 : Value} {y10 : Value} (t : (rg x7) ∧ if (σ 84 4) ≤ x7 then (Q none S σ τ) else ((0 ≤ x7 ∧ x7 < (60 : Int)) ∧ (rg x1) ∧ if σ 84 (3652 + 12 * x7 + 4) = x1 ∧ (1 ≤ σ 84 (3652 + 12 * x7 + 3) ∧ σ 84 (3652 + 12 * x7 + 3) ≤ 2) then ((0 ≤ 3652 + 12 * x7 + 7 ∧ 3652 + 12 * x7 + 7 < 112300) ∧ ∃ a8 : Int → Int, ∃ a19 : Int → Int, ∃ PE10 : Int → Int → Int, ∃ MI11 : Int → Int → Int, ∃ OD12 : Int → Int → Int, (σ 84 = As a19 PE10 MI11 OD12) ∧ (Jv a8) ∧ (jv_T a8) ∧ (sP a8 PE10) ∧ (∀ x, 0 ≤ x → x < a8 1 → MI11 x 8 = wk_ht a8 x) ∧ (0 ≤ x7 ∧ x7 < a8 4) ∧ (∀ x7, 0 ≤ x7 → x7 < a8 4 → σ 93 x7 = wk_h a8 x7) ∧ ∀ (v20 : Int), v20 = wk_hn a8 x7 → 0 ≤ v20 ∧ v20 ≤ 80 → (0 ≤ σ 84 (3652 + 12 * x7 + 4) ∧ σ 84 (3652 + 12 * x7 + 4) < (8 : Int)) ∧ ∀ (v24 : Int), v24 = r_pts (σ 84) x7 v20 → (rg ((σ 84 (3652 + 12 * x7 + 7)) + v24)) ∧ (rg x4) ∧ (x4 ≠ 0) ∧ (rg (Int.tdiv ((σ 84 (3652 + 12 * x7 + 7)) + v24) x4)) ∧ (rg x6) ∧ if x6 ≤ (Int.tdiv ((σ 84 (3652 + 12 * x7 + 7)) + v24) x4) then (wi (d + 3) 284 127 [.ref 83, .int (wI x1), .int (wI x2), .int (wI x3), .int (wI x4), .int (wI x5), .int (wI x6), .int (wI x7), .int (wI ((σ 84 (3652 + 12 * x7 + 7)) + v24)), y9, y10] [.int (wI x6)] S σ τ Q) else ((x4 ≠ 0) ∧ wi (d + 3) 284 127 [.ref 83, .int (wI x1), .int (wI x2), .int (wI x3), .int (wI x4), .int (wI x5), .int (wI x6), .int (wI x7), .int (wI ((σ 84 (3652 + 12 * x7 + 7)) + v24)), y9, y10] [.int (wI (Int.tdiv ((σ 84 (3652 + 12 * x7 + 7)) + v24) x4))] S σ τ Q)) else (wi (d + 3) 284 310 [.ref 83, .int (wI x1), .int (wI x2), .int (wI x3), .int (wI x4), .int (wI x5), .int (wI x6), .int (wI x7), y8, y9, y10] [] S σ τ Q))) : wi (d + 3) 284 60 [.ref 83, .int (wI x1), .int (wI x2), .int (wI x3), .int (wI x4), .int (wI x5), .int (wI x6), .int (wI x7), y8, y9, y10] [] S σ τ Q := by
  refine i3 c_284_60 rfl (i5 c_284_62 rfl (i45 c_284_63 (lo (c := 83) (kd := 112) (n := 0) rfl (by decide)) (lro (c := 83) (k := 0) (j := 84) (by decide)) (i1 c_284_66 (wi_ok (fun K1 => ?_)))))
  obtain ⟨r2, t⟩ := t
  refine i50 (v := σ 84 4) c_284_67 (lo (c := 84) (kd := 0) (n := 112300) rfl (by decide)) (by decide) (by decide) rfl ?_
  refine i37 c_284_68 r2 (rge_ K1 rfl) rfl (fun hc => ?_) (fun hc => ?_)
  · have t := iT t hc
    have ha3 : (σ 84 4) ≤ x7 := hc
    exact i94 c_284_316 t
  · have t := iF t hc
    have ha3 : ¬ ((σ 84 4) ≤ x7) := hc
    obtain ⟨p4, t⟩ := t
    obtain ⟨r5, t⟩ := t
    refine i5 c_284_71 rfl (i3 c_284_72 rfl (i3 c_284_74 rfl ?_))
    refine i80 (As := [.int (wI x7), .int (wI x1)]) (rest := []) c_284_75 mi_279 rfl rfl (Nat.le_of_ble_eq_true rfl) (Nat.le_of_ble_eq_true rfl) (lo (c := 83) (kd := 112) (n := 0) rfl (by decide)) (q_279 p4 r5 ?_)
    show wi (d + 3) 284 78 [.ref 83, .int (wI x1), .int (wI x2), .int (wI x3), .int (wI x4), .int (wI x5), .int (wI x6), .int (wI x7), y8, y9, y10] [.int (wI (if σ 84 (3652 + 12 * x7 + 4) = x1 ∧ (1 ≤ σ 84 (3652 + 12 * x7 + 3) ∧ σ 84 (3652 + 12 * x7 + 3) ≤ 2) then 1 else 0))] S σ τ Q
    refine i36f c_284_78 rfl (fun hc => ?_) (fun hc => ?_)
    · have t := iT t hc
      have ha6 : σ 84 (3652 + 12 * x7 + 4) = x1 ∧ (1 ≤ σ 84 (3652 + 12 * x7 + 3) ∧ σ 84 (3652 + 12 * x7 + 3) ≤ 2) := hc
      obtain ⟨p7, t⟩ := t
      refine i5 c_284_84 rfl (i3 c_284_85 rfl (i1 c_284_87 ?_))
      refine i80 (As := [.int (wI x7), .int (wI 7)]) (rest := []) c_284_89 mi_199 rfl rfl (Nat.le_of_ble_eq_true rfl) (Nat.le_of_ble_eq_true rfl) (lo (c := 83) (kd := 112) (n := 0) rfl (by decide)) (q_199 p7 ?_)
      show wi (d + 3) 284 92 [.ref 83, .int (wI x1), .int (wI x2), .int (wI x3), .int (wI x4), .int (wI x5), .int (wI x6), .int (wI x7), y8, y9, y10] [.int (wI (σ 84 (3652 + 12 * x7 + 7)))] S σ τ Q
      obtain ⟨a8, t⟩ := t
      obtain ⟨a19, t⟩ := t
      obtain ⟨PE10, t⟩ := t
      obtain ⟨MI11, t⟩ := t
      obtain ⟨OD12, t⟩ := t
      obtain ⟨p13, t⟩ := t
      obtain ⟨p14, t⟩ := t
      obtain ⟨p15, t⟩ := t
      obtain ⟨p16, t⟩ := t
      obtain ⟨p17, t⟩ := t
      obtain ⟨p18, t⟩ := t
      obtain ⟨p19, t⟩ := t
      refine i5 c_284_92 rfl (i3 c_284_93 rfl (i5 c_284_95 rfl (i3 c_284_96 rfl ?_)))
      refine i80 (As := [.int (wI x7)]) (rest := [.int (wI x7), .ref 83, .int (wI (σ 84 (3652 + 12 * x7 + 7)))]) c_284_98 mi_283 rfl rfl (Nat.le_of_ble_eq_true rfl) (Nat.le_of_ble_eq_true rfl) (lo (c := 83) (kd := 112) (n := 0) rfl (by decide)) (q_283 (a := a8) (a1 := a19) (PE := PE10) (MI := MI11) (OD := OD12) p13 p14 p15 p16 p17 p18 p19 (fun v20 q21 q22 => ?_))
      have t := t v20 q21 q22
      show wi (d + 3) 284 101 [.ref 83, .int (wI x1), .int (wI x2), .int (wI x3), .int (wI x4), .int (wI x5), .int (wI x6), .int (wI x7), y8, y9, y10] [.int (wI v20), .int (wI x7), .ref 83, .int (wI (σ 84 (3652 + 12 * x7 + 7)))] S σ τ Q
      obtain ⟨p23, t⟩ := t
      refine i80 (As := [.int (wI x7), .int (wI v20)]) (rest := [.int (wI (σ 84 (3652 + 12 * x7 + 7)))]) c_284_101 mi_280 rfl rfl (Nat.le_of_ble_eq_true rfl) (Nat.le_of_ble_eq_true rfl) (lo (c := 83) (kd := 112) (n := 0) rfl (by decide)) (q_280w p4 p23 (fun v24 q25 => ?_))
      have t := t v24 q25
      show wi (d + 3) 284 104 [.ref 83, .int (wI x1), .int (wI x2), .int (wI x3), .int (wI x4), .int (wI x5), .int (wI x6), .int (wI x7), y8, y9, y10] [.int (wI v24), .int (wI (σ 84 (3652 + 12 * x7 + 7)))] S σ τ Q
      obtain ⟨r26, t⟩ := t
      obtain ⟨r27, t⟩ := t
      obtain ⟨y28, t⟩ := t
      obtain ⟨r29, t⟩ := t
      obtain ⟨r30, t⟩ := t
      refine i10 c_284_104 (i6 (L' := [.ref 83, .int (wI x1), .int (wI x2), .int (wI x3), .int (wI x4), .int (wI x5), .int (wI x6), .int (wI x7), .int (wI ((σ 84 (3652 + 12 * x7 + 7)) + v24)), y9, y10]) c_284_105 rfl (i3 c_284_107 rfl (i3 c_284_109 rfl (i16 c_284_111 r26 r27 y28 (i3 c_284_112 rfl ?_)))))
      refine i37 c_284_114 r29 r30 rfl (fun hc => ?_) (fun hc => ?_)
      · have t := iT t hc
        have ha31 : x6 ≤ (Int.tdiv ((σ 84 (3652 + 12 * x7 + 7)) + v24) x4) := hc
        refine i3 c_284_125 rfl t
      · have t := iF t hc
        have ha31 : ¬ (x6 ≤ (Int.tdiv ((σ 84 (3652 + 12 * x7 + 7)) + v24) x4)) := hc
        obtain ⟨y32, t⟩ := t
        refine i3 c_284_117 rfl (i3 c_284_119 rfl (i16 c_284_121 r26 r27 y32 (i38 c_284_122 rfl t)))
    · have t := iF t hc
      have ha6 : ¬ (σ 84 (3652 + 12 * x7 + 4) = x1 ∧ (1 ≤ σ 84 (3652 + 12 * x7 + 3) ∧ σ 84 (3652 + 12 * x7 + 3) ≤ 2)) := hc
      refine i38 c_284_81 rfl t
set_option maxRecDepth 20000 in
theorem u_284_127 {d : Nat} {S : zS} {σ τ : zI} {Q : zQ} {x1 : Int} {x2 : Int} {x3 : Int} {x4 : Int} {x5 : Int} {x6 : Int} {x7 : Int} {x8 : Int} {y9 : Value} {y10 : Value} {s0 : Int} (t : wi (d + 3) 284 129 [.ref 83, .int (wI x1), .int (wI x2), .int (wI x3), .int (wI x4), .int (wI x5), .int (wI x6), .int (wI x7), .int (wI x8), .int (wI s0), y10] [] S σ τ Q) : wi (d + 3) 284 127 [.ref 83, .int (wI x1), .int (wI x2), .int (wI x3), .int (wI x4), .int (wI x5), .int (wI x6), .int (wI x7), .int (wI x8), y9, y10] [.int (wI s0)] S σ τ Q := by
  refine i6 (L' := [.ref 83, .int (wI x1), .int (wI x2), .int (wI x3), .int (wI x4), .int (wI x5), .int (wI x6), .int (wI x7), .int (wI x8), .int (wI s0), y10]) c_284_127 rfl t
set_option maxRecDepth 20000 in
theorem u_284_129 {d : Nat} {S : zS} {σ τ : zI} {Q : zQ} {x1 : Int} {x2 : Int} {x3 : Int} {x4 : Int} {x5 : Int} {x6 : Int} {x7 : Int} {x8 : Int} {x9 : Int} {y10 : Value} (t : (0 ≤ x2 + 4 ∧ x2 + 4 < 112300) ∧ (rg (x9 * x5)) ∧ if (x9 * x5) ≤ (σ 84 (x2 + 4)) then (wi (d + 3) 284 192 [.ref 83, .int (wI x1), .int (wI x2), .int (wI x3), .int (wI x4), .int (wI x5), .int (wI x6), .int (wI x7), .int (wI x8), .int (wI x9), y10] [] S σ τ Q) else ((0 ≤ x2 + 2 ∧ x2 + 2 < 112300) ∧ if (σ 84 (x2 + 2)) < (σ 83 29) then (wi (d + 3) 284 192 [.ref 83, .int (wI x1), .int (wI x2), .int (wI x3), .int (wI x4), .int (wI x5), .int (wI x6), .int (wI x7), .int (wI x8), .int (wI x9), y10] [] S σ τ Q) else (∃ w7 : Int, wI w7 = wI ((σ 84 (x2 + 2)) - (σ 83 29)) ∧ rg w7 ∧ ((x2 + 4) ≠ (x2 + 2)) ∧ ∃ w12 : Int, wI w12 = wI ((σ 84 (x2 + 4)) + 360) ∧ rg w12 ∧ wi (d + 3) 284 129 [.ref 83, .int (wI x1), .int (wI x2), .int (wI x3), .int (wI x4), .int (wI x5), .int (wI x6), .int (wI x7), .int (wI x8), .int (wI x9), y10] [] S (uc σ 84 (u1 (u1 (σ 84) (x2 + 2) w7) (x2 + 4) w12)) τ Q))) : wi (d + 3) 284 129 [.ref 83, .int (wI x1), .int (wI x2), .int (wI x3), .int (wI x4), .int (wI x5), .int (wI x6), .int (wI x7), .int (wI x8), .int (wI x9), y10] [] S σ τ Q := by
  obtain ⟨r1, t⟩ := t
  refine i5 c_284_129 rfl (i45 c_284_130 (lo (c := 83) (kd := 112) (n := 0) rfl (by decide)) (lro (c := 83) (k := 0) (j := 84) (by decide)) (i3 c_284_133 rfl (i1 c_284_134 (i10 c_284_135 (wi_ok (fun K2 => ?_))))))
  obtain ⟨r3, t⟩ := t
  refine i50 (v := σ 84 (x2 + 4)) c_284_136 (lo (c := 84) (kd := 0) (n := 112300) rfl (by decide)) (by decide) r1 rfl (i3 c_284_137 rfl (i3 c_284_139 rfl (i12 c_284_141 ?_)))
  refine i37 c_284_142 (rge_ K2 rfl) r3 rfl (fun hc => ?_) (fun hc => ?_)
  · have t := iT t hc
    have ha4 : (x9 * x5) ≤ (σ 84 (x2 + 4)) := hc
    exact t
  · have t := iF t hc
    have ha4 : ¬ ((x9 * x5) ≤ (σ 84 (x2 + 4))) := hc
    obtain ⟨r5, t⟩ := t
    refine i5 c_284_145 rfl (i45 c_284_146 (lo (c := 83) (kd := 112) (n := 0) rfl (by decide)) (lro (c := 83) (k := 0) (j := 84) (by decide)) (i3 c_284_149 rfl (i1 c_284_150 (i10 c_284_151 (i50 (v := σ 84 (x2 + 2)) c_284_152 (lo (c := 84) (kd := 0) (n := 112300) rfl (by decide)) (by decide) r5 rfl (i5 c_284_153 rfl (i43 (v := σ 83 29) c_284_154 (lo (c := 83) (kd := 112) (n := 0) rfl (by decide)) rfl ?_)))))))
    refine i37 c_284_157 (rge_ K2 rfl) (rge_ K2 rfl) rfl (fun hc => ?_) (fun hc => ?_)
    · have t := iT t hc
      have ha6 : (σ 84 (x2 + 2)) < (σ 83 29) := hc
      exact t
    · have t := iF t hc
      have ha6 : ¬ ((σ 84 (x2 + 2)) < (σ 83 29)) := hc
      obtain ⟨w7, e8, r9, t⟩ := t
      obtain ⟨n10, t⟩ := t
      refine i5 c_284_160 rfl (i45 c_284_161 (lo (c := 83) (kd := 112) (n := 0) rfl (by decide)) (lro (c := 83) (k := 0) (j := 84) (by decide)) (i3 c_284_164 rfl (i1 c_284_165 (i10 c_284_166 (i34a c_284_167 (i50 (v := σ 84 (x2 + 2)) c_284_168 (lo (c := 84) (kd := 0) (n := 112300) rfl (by decide)) (by decide) r5 rfl (i5 c_284_169 rfl (i43 (v := σ 83 29) c_284_170 (lo (c := 83) (kd := 112) (n := 0) rfl (by decide)) rfl (i11 c_284_173 (i54 (σ1 := uc σ 84 (u1 (σ 84) (x2 + 2) w7)) c_284_174 (lo (c := 84) (kd := 0) (n := 112300) rfl (by decide)) (by decide) r5 (by decide) e8 r9 (wr_ rfl rfl) (i5 c_284_175 rfl (i45 c_284_176 (lo (c := 83) (kd := 112) (n := 0) rfl (by decide)) (lro (c := 83) (k := 0) (j := 84) (by decide)) (i3 c_284_179 rfl (i1 c_284_180 (i10 c_284_181 (i34a c_284_182 (wi_ok (fun K11 => ?_))))))))))))))))))
      obtain ⟨w12, e13, r14, t⟩ := t
      refine i50 (v := σ 84 (x2 + 4)) c_284_183 (lo (c := 84) (kd := 0) (n := 112300) rfl (by decide)) (by decide) r1 ((congrFun (uc_s _ _ _) _).trans (u1_n n10)) (i1 c_284_184 (i10 c_284_187 (i54 (σ1 := uc σ 84 (u1 (u1 (σ 84) (x2 + 2) w7) (x2 + 4) w12)) c_284_188 (lo (c := 84) (kd := 0) (n := 112300) rfl (by decide)) (by decide) r1 (by decide) e13 r14 (wr_ (uc_s _ _ _) (uc_uc _ _ _ _)) (i38 c_284_189 rfl t))))
set_option maxRecDepth 20000 in
theorem u_284_192 {d : Nat} {S : zS} {σ τ : zI} {Q : zQ} {x1 : Int} {x2 : Int} {x3 : Int} {x4 : Int} {x5 : Int} {x6 : Int} {x7 : Int} {x8 : Int} {x9 : Int} {y10 : Value} (t : (0 ≤ x2 + 4 ∧ x2 + 4 < 112300) ∧ (rg x5) ∧ (x5 ≠ 0) ∧ (rg (Int.tdiv (σ 84 (x2 + 4)) x5)) ∧ (rg x9) ∧ if x9 ≤ (Int.tdiv (σ 84 (x2 + 4)) x5) then (wi (d + 3) 284 221 [.ref 83, .int (wI x1), .int (wI x2), .int (wI x3), .int (wI x4), .int (wI x5), .int (wI x6), .int (wI x7), .int (wI x8), .int (wI x9), y10] [] S σ τ Q) else ((x5 ≠ 0) ∧ wi (d + 3) 284 221 [.ref 83, .int (wI x1), .int (wI x2), .int (wI x3), .int (wI x4), .int (wI x5), .int (wI x6), .int (wI x7), .int (wI x8), .int (wI (Int.tdiv (σ 84 (x2 + 4)) x5)), y10] [] S σ τ Q)) : wi (d + 3) 284 192 [.ref 83, .int (wI x1), .int (wI x2), .int (wI x3), .int (wI x4), .int (wI x5), .int (wI x6), .int (wI x7), .int (wI x8), .int (wI x9), y10] [] S σ τ Q := by
  obtain ⟨r1, t⟩ := t
  refine i5 c_284_192 rfl (i45 c_284_193 (lo (c := 83) (kd := 112) (n := 0) rfl (by decide)) (lro (c := 83) (k := 0) (j := 84) (by decide)) (i3 c_284_196 rfl (i1 c_284_197 (i10 c_284_198 (wi_ok (fun K2 => ?_))))))
  obtain ⟨r3, t⟩ := t
  obtain ⟨y4, t⟩ := t
  obtain ⟨r5, t⟩ := t
  obtain ⟨r6, t⟩ := t
  refine i50 (v := σ 84 (x2 + 4)) c_284_199 (lo (c := 84) (kd := 0) (n := 112300) rfl (by decide)) (by decide) r1 rfl (i3 c_284_200 rfl (i16 c_284_202 (rge_ K2 rfl) r3 y4 (i3 c_284_203 rfl ?_)))
  refine i37 c_284_205 r5 r6 rfl (fun hc => ?_) (fun hc => ?_)
  · have t := iT t hc
    have ha7 : x9 ≤ (Int.tdiv (σ 84 (x2 + 4)) x5) := hc
    exact t
  · have t := iF t hc
    have ha7 : ¬ (x9 ≤ (Int.tdiv (σ 84 (x2 + 4)) x5)) := hc
    obtain ⟨y8, t⟩ := t
    refine i5 c_284_208 rfl (i45 c_284_209 (lo (c := 83) (kd := 112) (n := 0) rfl (by decide)) (lro (c := 83) (k := 0) (j := 84) (by decide)) (i3 c_284_212 rfl (i1 c_284_213 (i10 c_284_214 (i50 (v := σ 84 (x2 + 4)) c_284_215 (lo (c := 84) (kd := 0) (n := 112300) rfl (by decide)) (by decide) r1 rfl (i3 c_284_216 rfl (i16 c_284_218 (rge_ K2 rfl) r3 y8 (i6 (L' := [.ref 83, .int (wI x1), .int (wI x2), .int (wI x3), .int (wI x4), .int (wI x5), .int (wI x6), .int (wI x7), .int (wI x8), .int (wI (Int.tdiv (σ 84 (x2 + 4)) x5)), y10]) c_284_219 rfl t))))))))
set_option maxRecDepth 20000 in
theorem u_284_221 {d : Nat} {S : zS} {σ τ : zI} {Q : zQ} {x1 : Int} {x2 : Int} {x3 : Int} {x4 : Int} {x5 : Int} {x6 : Int} {x7 : Int} {x8 : Int} {x9 : Int} {y10 : Value} (t : (0 ≤ x2 + 4 ∧ x2 + 4 < 112300) ∧ ∃ w3 : Int, wI w3 = wI ((σ 84 (x2 + 4)) - (x9 * x5)) ∧ rg w3 ∧ (0 ≤ x7 ∧ x7 < 60) ∧ ∃ w7 : Int, wI w7 = wI x9 ∧ rg w7 ∧ (0 ≤ x2 + 10 ∧ x2 + 10 < 112300) ∧ ((x2 + 10) ≠ (x2 + 4)) ∧ ∃ w13 : Int, wI w13 = wI ((σ 84 (x2 + 10)) + x9) ∧ rg w13 ∧ (rg (x8 - (x9 * x4))) ∧ (rg x4) ∧ if x4 ≤ (x8 - (x9 * x4)) then (wi (d + 3) 284 309 [.ref 83, .int (wI x1), .int (wI x2), .int (wI x3), .int (wI x4), .int (wI x5), .int (wI (x6 - x9)), .int (wI x7), .int (wI x8), .int (wI x9), .int (wI (x8 - (x9 * x4)))] [.int (wI (x4 - 1)), .int (wI ((3652 + (12 * x7)) + 7)), .ref 84] S (uc (uc σ 84 (u1 (u1 (σ 84) (x2 + 4) w3) (x2 + 10) w13)) 94 (u1 (σ 94) x7 w7)) τ Q) else (wi (d + 3) 284 309 [.ref 83, .int (wI x1), .int (wI x2), .int (wI x3), .int (wI x4), .int (wI x5), .int (wI (x6 - x9)), .int (wI x7), .int (wI x8), .int (wI x9), .int (wI (x8 - (x9 * x4)))] [.int (wI (x8 - (x9 * x4))), .int (wI ((3652 + (12 * x7)) + 7)), .ref 84] S (uc (uc σ 84 (u1 (u1 (σ 84) (x2 + 4) w3) (x2 + 10) w13)) 94 (u1 (σ 94) x7 w7)) τ Q)) : wi (d + 3) 284 221 [.ref 83, .int (wI x1), .int (wI x2), .int (wI x3), .int (wI x4), .int (wI x5), .int (wI x6), .int (wI x7), .int (wI x8), .int (wI x9), y10] [] S σ τ Q := by
  obtain ⟨r1, t⟩ := t
  refine i5 c_284_221 rfl (i45 c_284_222 (lo (c := 83) (kd := 112) (n := 0) rfl (by decide)) (lro (c := 83) (k := 0) (j := 84) (by decide)) (i3 c_284_225 rfl (i1 c_284_226 (i10 c_284_227 (i34a c_284_228 (wi_ok (fun K2 => ?_)))))))
  obtain ⟨w3, e4, r5, t⟩ := t
  obtain ⟨r6, t⟩ := t
  obtain ⟨w7, e8, r9, t⟩ := t
  obtain ⟨r10, t⟩ := t
  obtain ⟨n11, t⟩ := t
  refine i50 (v := σ 84 (x2 + 4)) c_284_229 (lo (c := 84) (kd := 0) (n := 112300) rfl (by decide)) (by decide) r1 rfl (i3 c_284_230 rfl (i3 c_284_232 rfl (i12 c_284_234 (i11 c_284_235 (i54 (σ1 := uc σ 84 (u1 (σ 84) (x2 + 4) w3)) c_284_236 (lo (c := 84) (kd := 0) (n := 112300) rfl (by decide)) (by decide) r1 (by decide) e4 r5 (wr_ rfl rfl) (i3 c_284_237 rfl (i3 c_284_239 rfl (i11 c_284_241 (i6 (L' := [.ref 83, .int (wI x1), .int (wI x2), .int (wI x3), .int (wI x4), .int (wI x5), .int (wI (x6 - x9)), .int (wI x7), .int (wI x8), .int (wI x9), y10]) c_284_242 rfl (i5 c_284_244 rfl (i45 c_284_245 (lo (c := 83) (kd := 112) (n := 0) rfl (by decide)) (lro (c := 83) (k := 33) (j := 94) (by decide)) (i3 c_284_248 rfl (i3 c_284_250 rfl (i54 (σ1 := uc (uc σ 84 (u1 (σ 84) (x2 + 4) w3)) 94 (u1 (σ 94) x7 w7)) c_284_252 (lo (c := 94) (kd := 0) (n := 60) rfl (by decide)) (by decide) r6 (by decide) e8 r9 (wr_ (uc_ns rfl (by decide)) rfl) (i5 c_284_253 rfl (i45 c_284_254 (lo (c := 83) (kd := 112) (n := 0) rfl (by decide)) (lro (c := 83) (k := 0) (j := 84) (by decide)) (i3 c_284_257 rfl (i1 c_284_258 (i10 c_284_260 (i34a c_284_261 (wi_ok (fun K12 => ?_))))))))))))))))))))))
  obtain ⟨w13, e14, r15, t⟩ := t
  obtain ⟨r16, t⟩ := t
  obtain ⟨r17, t⟩ := t
  refine i50 (v := σ 84 (x2 + 10)) c_284_262 (lo (c := 84) (kd := 0) (n := 112300) rfl (by decide)) (by decide) r10 ((congrFun (uc_ns (uc_s _ _ _) (by decide)) _).trans (u1_n n11)) (i3 c_284_263 rfl (i10 c_284_265 (i54 (σ1 := uc (uc σ 84 (u1 (u1 (σ 84) (x2 + 4) w3) (x2 + 10) w13)) 94 (u1 (σ 94) x7 w7)) c_284_266 (lo (c := 84) (kd := 0) (n := 112300) rfl (by decide)) (by decide) r10 (by decide) e14 r15 (wr_ (uc_ns (uc_s _ _ _) (by decide)) (uc_cm (uc_uc _ _ _ _) (by decide))) (i3 c_284_267 rfl (i3 c_284_269 rfl (i3 c_284_271 rfl (i12 c_284_273 (i11 c_284_274 (i6 (L' := [.ref 83, .int (wI x1), .int (wI x2), .int (wI x3), .int (wI x4), .int (wI x5), .int (wI (x6 - x9)), .int (wI x7), .int (wI x8), .int (wI x9), .int (wI (x8 - (x9 * x4)))]) c_284_275 rfl (i5 c_284_277 rfl (i45 c_284_278 (lo (c := 83) (kd := 112) (n := 0) rfl (by decide)) (lro (c := 83) (k := 0) (j := 84) (by decide)) (i1 c_284_281 (i1 c_284_284 (i3 c_284_286 rfl (i12 c_284_288 (i10 c_284_289 (i1 c_284_290 (i10 c_284_292 (i3 c_284_293 rfl (i3 c_284_295 rfl ?_))))))))))))))))))))
  refine i37 c_284_297 r16 r17 rfl (fun hc => ?_) (fun hc => ?_)
  · have t := iT t hc
    have ha18 : x4 ≤ (x8 - (x9 * x4)) := hc
    refine i3 c_284_305 rfl (i1 c_284_307 (i11 c_284_308 t))
  · have t := iF t hc
    have ha18 : ¬ (x4 ≤ (x8 - (x9 * x4))) := hc
    refine i3 c_284_300 rfl (i38 c_284_302 rfl t)
set_option maxRecDepth 20000 in
theorem u_284_309 {d : Nat} {S : zS} {σ τ : zI} {Q : zQ} {x1 : Int} {x2 : Int} {x3 : Int} {x4 : Int} {x5 : Int} {x6 : Int} {x7 : Int} {x8 : Int} {x9 : Int} {x10 : Int} {s1 : Int} {s2 : Int} (t : (0 ≤ s1 ∧ s1 < 112300) ∧ ∃ w2 : Int, wI w2 = wI s2 ∧ rg w2 ∧ wi (d + 3) 284 310 [.ref 83, .int (wI x1), .int (wI x2), .int (wI x3), .int (wI x4), .int (wI x5), .int (wI x6), .int (wI x7), .int (wI x8), .int (wI x9), .int (wI x10)] [] S (uc σ 84 (u1 (σ 84) s1 w2)) τ Q) : wi (d + 3) 284 309 [.ref 83, .int (wI x1), .int (wI x2), .int (wI x3), .int (wI x4), .int (wI x5), .int (wI x6), .int (wI x7), .int (wI x8), .int (wI x9), .int (wI x10)] [.int (wI s2), .int (wI s1), .ref 84] S σ τ Q := by
  obtain ⟨r1, t⟩ := t
  obtain ⟨w2, e3, r4, t⟩ := t
  refine i54 (σ1 := uc σ 84 (u1 (σ 84) s1 w2)) c_284_309 (lo (c := 84) (kd := 0) (n := 112300) rfl (by decide)) (by decide) r1 (by decide) e3 r4 (wr_ rfl rfl) t
set_option maxRecDepth 20000 in
theorem u_284_310 {d : Nat} {S : zS} {σ τ : zI} {Q : zQ} {x1 : Int} {x2 : Int} {x3 : Int} {x4 : Int} {x5 : Int} {x6 : Int} {x7 : Int} {y8 : Value} {y9 : Value} {y10 : Value} (t : wi (d + 3) 284 60 [.ref 83, .int (wI x1), .int (wI x2), .int (wI x3), .int (wI x4), .int (wI x5), .int (wI x6), .int (wI (x7 + 1)), y8, y9, y10] [] S σ τ Q) : wi (d + 3) 284 310 [.ref 83, .int (wI x1), .int (wI x2), .int (wI x3), .int (wI x4), .int (wI x5), .int (wI x6), .int (wI x7), y8, y9, y10] [] S σ τ Q := by
  refine i9 (L' := [.ref 83, .int (wI x1), .int (wI x2), .int (wI x3), .int (wI x4), .int (wI x5), .int (wI x6), .int (wI (x7 + 1)), y8, y9, y10]) c_284_310 rfl rfl (i38 c_284_313 rfl t)
theorem q_284 {d : Nat} {S : zS} {σ τ : zI} {Q : zQ} {m : Int} {a : Int → Int} {a1 : Int → Int} (p0 : σ 84 = As a1 (PE2 a m) (MI2 a m) (OD1 a (a 1))) (p1 : eB a a1) (p2 : Jv a) (p3 : jv_T a) (p4 : a 0 ≤ 399) (p5 : 0 ≤ m ∧ m < a 1) (p6 : wk_D a m) (p7 : σ 83 29 = wk_ct a) (p8 : (∀ p, 0 ≤ p → p < a 4 → σ 93 p = wk_h a p)) (p9 : (∀ p, 0 ≤ p → p < a 4 → σ 94 p = wk_mp a m p)) (t : ∀ (σ1 : zI), WVF a a1 (m + 1) σ σ1 → Q none S σ1 τ) : wc (d + 3) 284 [.ref 83, .int (wI m)] S σ τ Q := by
  have hC := jC p2
  unfold jv_C at hC
  have yb := wk_by_b p2 p3 p4 p5 p6
  have ct := wk_ct_b p2 p4
  have hM := jM p2 m p5.1 p5.2
  have pen := p6.1.1.1
  refine wc_ok fun K => ?_
  have r2 : rg (a (3300 + 16 * m + 2)) := by
    have := kO_r K 84 (3300 + 16 * m + 2)
    rw [p0, As_m (by omega) (by omega)] at this
    have e : MI2 a m m 2 = a (3300 + 16 * m + 2) := by unfold MI2 MI1 MI0; rw [if_neg (by omega), if_neg (by omega), if_neg (by omega)]
    rw [e] at this
    exact this
  have bA := eB_A (PE := PE2 a m) (MI := MI2 a m) (OD := OD1 a (a 1)) p1
  refine wc_of mi_284 rfl (u_284_0 ?_)
  have v9 : σ 84 (3300 + 16 * m + 9) = wk_by a m := by rw [p0, As_m (by omega) (by omega), MI2_k p5.2 (by omega), if_neg (by omega), if_neg (by omega), if_pos rfl]
  have v11 : σ 84 (3300 + 16 * m + 11) = wk_tx a m := by rw [p0, As_m (by omega) (by omega), MI2_k p5.2 (by omega), if_neg (by omega), if_neg (by omega), if_neg (by omega)]
  have vk : σ 84 (4372 + 8 * wk_by a m) = wk_kB a m := by rw [p0, As_o0 (by omega)]; unfold OD1 wk_kB; rw [if_neg (by omega), Int.add_zero]
  have vy : σ 84 (20 + 8 * wk_kB a m + 3) = wk_yn a m := by rw [p0]; exact bA _ (by omega)
  have hB0 : eB a (σ 84) := by rw [p0]; exact bA
  rw [v9, v11, vk, vy]
  refine ⟨by omega, by omega, eB_K hB0 (jK p2), by omega, fun v hv vb => ⟨by omega, by omega, ?_⟩⟩
  rw [r_cost_c (eB_L hB0) (by omega)] at hv
  have hv : v = wk_cs a m := hv
  subst hv
  have key : ∀ p, 0 ≤ p → p ≤ a 4 → ∀ σ' : zI, (∀ c, c ≠ 84 → c ≠ 94 → σ' c = σ c) → σ' 84 = As a1 (PEw a m p) (MIw a m p) (OD1 a (a 1)) → (∀ x, 0 ≤ x → x < a 4 → σ' 94 x = if a (3652 + 12 * x + 4) = m ∧ x < p then wk_np a x else wk_mp a m x) → ∀ y8 y9 y10, wi (d + 3) 284 60 [.ref 83, .int (wI m), .int (wI (3300 + 16 * m)), .int (wI (wk_kB a m)), .int (wI (wk_cs a m)), .int (wI (wk_yn a m)), .int (wI (wk_s a m p).2.2), .int (wI p), y8, y9, y10] [] S σ' τ Q := by
    refine lp_up (fun p q0 q1 ih => ?_)
    intro σ' f1 f3 f4 y8 y9 y10
    have sb := wk_s_b p2 p3 p4 p5 p6 p q0 q1
    refine u_284_60 ?_
    have e4 : σ' 84 4 = a 4 := by rw [f3, As_k (by omega)]; exact p1 4 (by omega)
    rw [e4]
    refine ⟨by omega, ifI (fun e => ?_) (fun e => ?_)⟩
    · have e : p = a 4 := by omega
      subst e
      refine t _ ⟨?_, fun x x0 x1 => ?_, f1⟩
      · rw [f3]
        exact As_c (fun _ _ => rfl) (fun x c _ _ _ _ => PEw_e p5 p6 x c) (fun x c _ _ _ _ => MIw_e p6 x c) (fun _ _ _ _ _ _ => rfl)
      · rw [f4 x x0 x1, wk_mp_s]
        by_cases c : a (3652 + 12 * x + 4) = m
        · rw [if_pos ⟨c, x1⟩, if_pos (by omega)]
        · rw [if_neg (fun q => c q.1), if_neg (fun q => c q.2)]
    · have hP := jP p2 p q0 (by omega)
      have ih := ih (by omega)
      have rd : ∀ c, 0 ≤ c → c < 12 → c ≠ 7 → c ≠ 8 → σ' 84 (3652 + 12 * p + c) = a (3652 + 12 * p + c) := fun c c0 c1 c7 c8 => by
        rw [f3, As_p (by omega) (by omega)]; exact sP_w p c (by omega) (by omega) c0 c1 c7 c8
      rw [rd 3 (by omega) (by omega) (by omega) (by omega), rd 4 (by omega) (by omega) (by omega) (by omega)]
      rw [wk_s_s q0] at ih
      refine ⟨by omega, by omega, ifI (fun e2 => ?_) (fun e2 => ?_)⟩
      · have e4m := e2.1
        rw [if_pos (show wk_wv a m p from e2)] at ih
        have xb := wk_x_b p2 p3 p5.1 ⟨q0, by omega⟩ e2
        have pcb := pc_b xb yb.2.2.2.2.1.1
        have q := wk_S1_b (p := p) (s := wk_s a m p) pcb.1 ct.1 yb.2.2.2.2.2.1 (by omega) sb.2.1 (by omega)
        have rrb := wk_rr_b p2 p3 p4 p5 ⟨q0, by omega⟩ e2 p6
        have enx : wk_nx a m p = wk_N1 a m p (wk_s a m p) := if_pos ⟨e2, p6⟩
        have v7 : σ' 84 (3652 + 12 * p + 7) = wk_r1 a p := by
          rw [f3, As_p (by omega) (by omega)]; unfold PEw; rw [if_neg (by omega)]; exact PE2_7 (by omega) (by omega) (by omega)
        refine ⟨by omega, a, a1, PEw a m p, MIw a m p, OD1 a (a 1), f3, p2, p3, sP_w, fun x x0 x1 => ?_, by omega, ?_, fun v hv vb => ⟨by omega, fun v2 hv2 => ?_⟩⟩
        · rw [MIw_k x1 (by omega), if_neg (by omega), if_pos rfl]
        · rw [f1 93 (by decide) (by decide)]; exact p8
        rw [f3, As_pts sP_w sM_w (by omega) (by omega), hv] at hv2
        have ex : σ' 84 (3652 + 12 * p + 7) + v2 = wk_x a p := by rw [v7, hv2]; rfl
        rw [ex]
        -- PIECES are wanted, bales bought
        have buy : ∀ n0, n0 = wk_n0 a m p (wk_s a m p).2.2 → ∀ i, 0 ≤ i → i ≤ wk_B1 a m p (wk_s a m p) → ∀ σ2 : zI, (∀ c, c ≠ 84 → σ2 c = σ' c) → σ2 84 = As a1 (PEw a m p) (t2 (t2 (MIw a m p) m 2 ((wk_s a m p).1 - i * wk_ct a)) m 4 ((wk_s a m p).2.1 + 360 * i)) (OD1 a (a 1)) → ∀ y10, wi (d + 3) 284 129 [.ref 83, .int (wI m), .int (wI (3300 + 16 * m)), .int (wI (wk_kB a m)), .int (wI (wk_cs a m)), .int (wI (wk_yn a m)), .int (wI (wk_s a m p).2.2), .int (wI p), .int (wI (wk_x a p)), .int (wI n0), y10] [] S σ2 τ Q := fun n0 hn => by
          refine lp_up (fun i i0 i1 ih2 => ?_)
          intro σ2 g1 g2 y10
          have bi := wk_bt_i (st := (wk_s a m p).2.1) (co := (wk_s a m p).1) (nd := wk_n0 a m p (wk_s a m p).2.2 * wk_yn a m) (ct := wk_ct a) (i := i) (by omega) ct.1 ⟨i0, i1⟩
          have imul : i * wk_ct a ≤ wk_B1 a m p (wk_s a m p) * wk_ct a := Int.mul_le_mul_of_nonneg_right i1 (by omega)
          have imul0 : 0 ≤ i * wk_ct a := Int.mul_nonneg i0 (by omega)
          refine u_284_129 ?_
          have w4 : σ2 84 (3300 + 16 * m + 4) = (wk_s a m p).2.1 + 360 * i := by rw [g2, As_m (by omega) (by omega), t2_s]
          have w2 : σ2 84 (3300 + 16 * m + 2) = (wk_s a m p).1 - i * wk_ct a := by rw [g2, As_m (by omega) (by omega), t2_n (by omega), t2_s]
          have w83 : σ2 83 29 = wk_ct a := by rw [g1 83 (by decide), f1 83 (by decide) (by decide)]; exact p7
          rw [w4, w2, w83, hn]
          -- no more is bought
          have fin : i = wk_B1 a m p (wk_s a m p) → wi (d + 3) 284 192 [.ref 83, .int (wI m), .int (wI (3300 + 16 * m)), .int (wI (wk_kB a m)), .int (wI (wk_cs a m)), .int (wI (wk_yn a m)), .int (wI (wk_s a m p).2.2), .int (wI p), .int (wI (wk_x a p)), .int (wI (wk_n0 a m p (wk_s a m p).2.2)), y10] [] S σ2 τ Q := fun ei => by
            have n0b := wk_n0_b (m := m) (p := p) (lf := (wk_s a m p).2.2) pcb.1 (by omega)
            refine u_284_192 ?_
            rw [w4]
            rw [ei] at w4 g2 ⊢
            -- the PIECES are known
            have pcs : ∀ n, n = wk_nx a m p → wi (d + 3) 284 221 [.ref 83, .int (wI m), .int (wI (3300 + 16 * m)), .int (wI (wk_kB a m)), .int (wI (wk_cs a m)), .int (wI (wk_yn a m)), .int (wI (wk_s a m p).2.2), .int (wI p), .int (wI (wk_x a p)), .int (wI n), y10] [] S σ2 τ Q := fun n hnn => by
              refine u_284_221 ?_
              have w10 : σ2 84 (3300 + 16 * m + 10) = wk_tx a m - (wk_s a m p).2.2 := by
                rw [g2, As_m (by omega) (by omega), t2_n (by omega), t2_n (by omega)]; unfold MIw; rw [if_pos (by omega), if_neg (by omega), if_neg (by omega)]
              rw [w4, w10, hnn]
              rw [← enx] at q
              refine ⟨by omega, (wk_s a m p).2.1 + 360 * wk_B1 a m p (wk_s a m p) - wk_nx a m p * wk_yn a m, rfl, by omega, by omega, wk_nx a m p, rfl, by omega, by omega, by omega, wk_tx a m - (wk_s a m p).2.2 + wk_nx a m p, rfl, by omega, by omega, by omega, ?_⟩
              have last : ∀ s2, s2 = wk_rr a m p → ∀ x10, wi (d + 3) 284 309 [.ref 83, .int (wI m), .int (wI (3300 + 16 * m)), .int (wI (wk_kB a m)), .int (wI (wk_cs a m)), .int (wI (wk_yn a m)), .int (wI ((wk_s a m p).2.2 - wk_nx a m p)), .int (wI p), .int (wI (wk_x a p)), .int (wI (wk_nx a m p)), .int (wI x10)] [.int (wI s2), .int (wI (3652 + 12 * p + 7)), .ref 84] S (uc (uc σ2 84 (u1 (u1 (σ2 84) (3300 + 16 * m + 4) ((wk_s a m p).2.1 + 360 * wk_B1 a m p (wk_s a m p) - wk_nx a m p * wk_yn a m)) (3300 + 16 * m + 10) (wk_tx a m - (wk_s a m p).2.2 + wk_nx a m p))) 94 (u1 (σ2 94) p (wk_nx a m p))) τ Q := fun s2 hs x10 => by
                refine u_284_309 ⟨by omega, s2, rfl, by omega, u_284_310 ?_⟩
                have ih := ih (uc (uc (uc σ2 84 (u1 (u1 (σ2 84) (3300 + 16 * m + 4) ((wk_s a m p).2.1 + 360 * wk_B1 a m p (wk_s a m p) - wk_nx a m p * wk_yn a m)) (3300 + 16 * m + 10) (wk_tx a m - (wk_s a m p).2.2 + wk_nx a m p))) 94 (u1 (σ2 94) p (wk_nx a m p))) 84 (u1 ((uc (uc σ2 84 (u1 (u1 (σ2 84) (3300 + 16 * m + 4) ((wk_s a m p).2.1 + 360 * wk_B1 a m p (wk_s a m p) - wk_nx a m p * wk_yn a m)) (3300 + 16 * m + 10) (wk_tx a m - (wk_s a m p).2.2 + wk_nx a m p))) 94 (u1 (σ2 94) p (wk_nx a m p))) 84) (3652 + 12 * p + 7) s2)) (fun c h1 h2 => by rw [uc_n h1, uc_n h2, uc_n h1, g1 c h1]; exact f1 c h1 h2) ?_ ?_ (.int (wI (wk_x a p))) (.int (wI (wk_nx a m p))) (.int (wI x10))
                · have es : (wk_S1 a m p (wk_s a m p)).2.2 = (wk_s a m p).2.2 - wk_nx a m p := by rw [enx]; rfl
                  rw [es] at ih
                  exact ih
                · rw [uc_s, uc_n (by decide), uc_s, g2, As_um (by omega) (by omega), As_um (by omega) (by omega), As_up (by omega) (by omega)]
                  refine As_c (fun _ _ => rfl) (fun x c _ _ _ _ => ?_) (fun x c _ _ _ _ => ?_) (fun _ _ _ _ _ _ => rfl)
                  · unfold t2 PEw
                    by_cases c1 : x = p ∧ c = 7
                    · obtain ⟨rfl, rfl⟩ := c1
                      rw [if_pos ⟨rfl, rfl⟩, if_pos ⟨rfl, by omega, e2⟩, hs]
                    · rw [if_neg c1]
                      by_cases c2 : c = 7 ∧ x < p ∧ wk_wv a m x
                      · rw [if_pos c2, if_pos ⟨c2.1, by omega, c2.2.2⟩]
                      · rw [if_neg c2, if_neg (fun q => c2 ⟨q.1, by omega, q.2.2⟩)]
                  · by_cases c1 : x = m
                    · subst c1
                      have sS : wk_s a x (p + 1) = wk_S1 a x p (wk_s a x p) := by rw [wk_s_s q0, if_pos (show wk_wv a x p from e2)]
                      by_cases c10 : c = 10
                      · subst c10
                        rw [t2_s]; unfold MIw; rw [if_pos (by omega), if_neg (by omega), if_neg (by omega), sS]
                        unfold wk_S1
                        dsimp only
                        rw [← enx]; omega
                      · rw [t2_n (by omega)]
                        by_cases c4 : c = 4
                        · subst c4
                          rw [t2_s]; unfold MIw; rw [if_pos (by omega), if_neg (by omega), if_pos rfl, sS]
                          unfold wk_S1
                          dsimp only
                          rw [← enx]
                        · rw [t2_n (by omega), t2_n (by omega)]
                          by_cases c2 : c = 2
                          · subst c2
                            rw [t2_s]; unfold MIw; rw [if_pos (by omega), if_pos rfl, sS]
                            rfl
                          · rw [t2_n (by omega)]; unfold MIw; rw [if_neg (by omega), if_neg (by omega)]
                    · rw [t2_n (by omega), t2_n (by omega), t2_n (by omega), t2_n (by omega)]; unfold MIw; rw [if_neg (by omega), if_neg (by omega)]
                · intro x x0 x1
                  rw [uc_n (by decide), uc_s]
                  by_cases c1 : x = p
                  · subst c1
                    rw [u1_s, if_pos ⟨e4m, by omega⟩, wk_np_m e4m]
                  · rw [u1_n c1, g1 94 (by decide), f4 x x0 x1]
                    by_cases c2 : a (3652 + 12 * x + 4) = m ∧ x < p
                    · rw [if_pos c2, if_pos ⟨c2.1, by omega⟩]
                    · rw [if_neg c2, if_neg (fun q => c2 ⟨q.1, by omega⟩)]
              refine ifI (fun e5 => last _ ?_ _) (fun e5 => last _ ?_ _)
              · unfold wk_rr; rw [if_neg (by omega)]
              · unfold wk_rr; rw [if_pos (by omega)]
            refine ⟨by omega, by omega, by omega, by omega, by omega, ifI (fun e5 => pcs _ ?_) (fun e5 => ⟨by omega, pcs _ ?_⟩)⟩
            · rw [enx]; unfold wk_N1; rw [if_neg (by omega)]
            · rw [enx]; unfold wk_N1; rw [if_pos (by omega)]
          refine ⟨by omega, by omega, ifI (fun e5 => fin ?_) (fun e5 => ⟨by omega, ifI (fun e6 => fin ?_) (fun e6 => ?_)⟩)⟩
          · by_cases c : i < wk_B1 a m p (wk_s a m p)
            · have := bi.1 c; omega
            · omega
          · by_cases c : i < wk_B1 a m p (wk_s a m p)
            · have := bi.1 c; omega
            · omega
          · have il : i < wk_B1 a m p (wk_s a m p) := by
              by_cases c : i < wk_B1 a m p (wk_s a m p)
              · exact c
              · have := bi.2 (show i = wk_B1 a m p (wk_s a m p) by omega); omega
            have e1 : (i + 1) * wk_ct a = i * wk_ct a + wk_ct a := by rw [Int.add_mul, Int.one_mul]
            have k1 : (i + 1) * wk_ct a ≤ wk_B1 a m p (wk_s a m p) * wk_ct a := Int.mul_le_mul_of_nonneg_right (by omega) (by omega)
            refine ⟨(wk_s a m p).1 - (i + 1) * wk_ct a, by rw [e1]; congr 1; omega, by omega, by omega, (wk_s a m p).2.1 + 360 * (i + 1), by congr 1; omega, by omega, ?_⟩
            have ih2 := ih2 il (uc σ2 84 (u1 (u1 (σ2 84) (3300 + 16 * m + 2) ((wk_s a m p).1 - (i + 1) * wk_ct a)) (3300 + 16 * m + 4) ((wk_s a m p).2.1 + 360 * (i + 1)))) (fun c hc => by rw [uc_n hc]; exact g1 c hc) ?_ y10
            · rw [hn] at ih2; exact ih2
            · rw [uc_s, g2, As_um (by omega) (by omega), As_um (by omega) (by omega)]
              refine As_c (fun _ _ => rfl) (fun _ _ _ _ _ _ => rfl) (fun x c _ _ _ _ => ?_) (fun _ _ _ _ _ _ => rfl)
              unfold t2
              repeat' split
              all_goals first | rfl | (exfalso; omega)
        have b0 : ∀ σ2 : zI, σ2 = σ' → σ2 84 = As a1 (PEw a m p) (t2 (t2 (MIw a m p) m 2 ((wk_s a m p).1 - 0 * wk_ct a)) m 4 ((wk_s a m p).2.1 + 360 * 0)) (OD1 a (a 1)) := fun σ2 es => by
          rw [es, f3, Int.zero_mul, Int.sub_zero, Int.mul_zero, Int.add_zero]
          have m2 : MIw a m p m 2 = (wk_s a m p).1 := by unfold MIw; rw [if_pos (by omega), if_pos rfl]
          have m4 : t2 (MIw a m p) m 2 (wk_s a m p).1 m 4 = (wk_s a m p).2.1 := by rw [t2_n (by omega)]; unfold MIw; rw [if_pos (by omega), if_neg (by omega), if_pos rfl]
          exact As_c (fun _ _ => rfl) (fun _ _ _ _ _ _ => rfl) (fun x c _ _ _ _ => ((t2_id m4 x c).trans (t2_id m2 x c)).symm) (fun _ _ _ _ _ _ => rfl)
        refine ⟨by omega, by omega, by omega, by omega, by omega, ifI (fun e5 => u_284_127 (buy _ ?_ 0 (by omega) (by omega) σ' (fun _ _ => rfl) (b0 _ rfl) _)) (fun e5 => ⟨by omega, u_284_127 (buy _ ?_ 0 (by omega) (by omega) σ' (fun _ _ => rfl) (b0 _ rfl) _)⟩)⟩
        · unfold wk_n0; rw [if_neg (by omega)]
        · unfold wk_n0; rw [if_pos (by omega)]
      · rw [if_neg (show ¬ wk_wv a m p from e2)] at ih
        refine u_284_310 (ih σ' f1 ?_ (fun x x0 x1 => ?_) _ _ _)
        · rw [f3]
          refine As_c (fun _ _ => rfl) (fun x c _ _ _ _ => ?_) (fun x c _ _ _ _ => ?_) (fun _ _ _ _ _ _ => rfl)
          · unfold PEw
            by_cases c2 : c = 7 ∧ x < p ∧ wk_wv a m x
            · rw [if_pos c2, if_pos ⟨c2.1, by omega, c2.2.2⟩]
            · rw [if_neg c2, if_neg (fun q => c2 ⟨q.1, by
                by_cases ex : x = p
                · subst ex; exact absurd q.2.2 e2
                · have := q.2.1; omega, q.2.2⟩)]
          · unfold MIw
            rw [wk_s_s q0, if_neg (show ¬ wk_wv a m p from e2)]
        · rw [f4 x x0 x1]
          by_cases c2 : a (3652 + 12 * x + 4) = m ∧ x < p
          · rw [if_pos c2, if_pos ⟨c2.1, by omega⟩]
          · rw [if_neg c2]
            by_cases c3 : a (3652 + 12 * x + 4) = m ∧ x < p + 1
            · have exp : x = p := by omega
              subst exp
              rw [if_pos c3, wk_np_m c3.1]
              unfold wk_nx wk_mp
              rw [if_neg (show ¬ (0 ≤ a (3652 + 12 * x + 4) ∧ a (3652 + 12 * x + 4) < m) by omega), if_neg (fun q => e2 q.1)]
            · rw [if_neg c3]
  refine key 0 (by omega) (by omega) σ (fun _ _ _ => rfl) ?_ (fun x x0 x1 => ?_) _ _ _
  · rw [p0]
    exact As_c (fun _ _ => rfl) (fun x c x0 _ _ _ => PEw_0 x c x0) (fun x c _ _ _ _ => MIw_0 p5.2 x c) (fun _ _ _ _ _ _ => rfl)
  · rw [p9 x x0 x1, if_neg (by omega)]
