/-! ===== the reference: the rest of what is told and asked (segments printed by wip/whole, contracts own work) ===== -/
def r_wm (a : Int → Int) (s w : Int) : Int := if s = 2 then a (3652 + 12 * w + 4) else w
abbrev k_work (a : Int → Int) (p s w n : Int) : Prop := (0 ≤ p ∧ p < a 4) ∧ (0 ≤ s ∧ s ≤ 4) ∧ a (3460 + 8 * a (3652 + 12 * p + 0) + 3) ≠ 1 ∧ (s = 0 ∨ (s = 2 ∧ (0 ≤ w ∧ w < a 4) ∧ w ≠ p ∧ a (3652 + 12 * w + 3) = 1 ∧ a (3300 + 16 * a (3652 + 12 * w + 4) + 5) ≠ 1 ∧ (1 ≤ n ∧ n ≤ 2) ∧ r_had a (a (3652 + 12 * w + 4)) p + n ≤ a (3300 + 16 * a (3652 + 12 * w + 4) + 0)) ∨ (s = 1 ∧ (0 ≤ w ∧ w < a 1) ∧ a (3300 + 16 * w + 5) ≠ 1 ∧ (1 ≤ n ∧ n ≤ 6) ∧ r_had a w p + n ≤ a (3300 + 16 * w + 0)) ∨ (3 ≤ s ∧ (0 ≤ w ∧ w < a 1) ∧ a (3300 + 16 * w + 5) ≠ 1 ∧ (1 ≤ n ∧ n ≤ 50) ∧ (s = 4 → a (3652 + 12 * p + 1) < 18)))
def r_work (a : Int → Int) (p s w n : Int) : Int → Int := if k_work a p s w n then (if s = 0 then r_endW a p else u1 (u1 (u1 (u1 (r_endW a p) (3652 + 12 * p + 3) s) (3652 + 12 * p + 4) (r_wm a s w)) (3652 + 12 * p + 5) n) (3652 + 12 * p + 6) (if s = 2 then w else -1)) else a
-- method 218: MillTownModel.work(IIII)Z
theorem c_218_0 : pg_cd 218 0 = (5, 1, 0, 0, 0) := by decide +kernel
theorem c_218_1 : pg_cd 218 1 = (3, 1, 0, 1, 0) := by decide +kernel
theorem c_218_2 : pg_cd 218 2 = (80, 203, 109, 0, 0) := by decide +kernel
theorem c_218_5 : pg_cd 218 5 = (36, 3, 0, 0, 27) := by decide +kernel
theorem c_218_8 : pg_cd 218 8 = (3, 1, 0, 2, 0) := by decide +kernel
theorem c_218_9 : pg_cd 218 9 = (1, 1, 0, 0, 0) := by decide +kernel
theorem c_218_10 : pg_cd 218 10 = (1, 1, 0, 0, 4) := by decide +kernel
theorem c_218_11 : pg_cd 218 11 = (81, 196, 76, 0, 0) := by decide +kernel
theorem c_218_14 : pg_cd 218 14 = (36, 3, 0, 0, 18) := by decide +kernel
theorem c_218_17 : pg_cd 218 17 = (5, 1, 0, 0, 0) := by decide +kernel
theorem c_218_18 : pg_cd 218 18 = (5, 1, 0, 0, 0) := by decide +kernel
theorem c_218_19 : pg_cd 218 19 = (3, 1, 0, 1, 0) := by decide +kernel
theorem c_218_20 : pg_cd 218 20 = (1, 1, 0, 0, 0) := by decide +kernel
theorem c_218_21 : pg_cd 218 21 = (80, 199, 102, 0, 0) := by decide +kernel
theorem c_218_24 : pg_cd 218 24 = (1, 1, 0, 0, 3) := by decide +kernel
theorem c_218_25 : pg_cd 218 25 = (80, 200, 99, 0, 0) := by decide +kernel
theorem c_218_28 : pg_cd 218 28 = (1, 1, 0, 0, 1) := by decide +kernel
theorem c_218_29 : pg_cd 218 29 = (37, 3, 0, 1, 5) := by decide +kernel
theorem c_218_32 : pg_cd 218 32 = (1, 1, 0, 0, 0) := by decide +kernel
theorem c_218_33 : pg_cd 218 33 = (91, 0, 0, 0, 0) := by decide +kernel
theorem c_218_34 : pg_cd 218 34 = (3, 1, 0, 2, 0) := by decide +kernel
theorem c_218_35 : pg_cd 218 35 = (36, 3, 0, 1, 10) := by decide +kernel
theorem c_218_38 : pg_cd 218 38 = (5, 1, 0, 0, 0) := by decide +kernel
theorem c_218_39 : pg_cd 218 39 = (3, 1, 0, 1, 0) := by decide +kernel
theorem c_218_40 : pg_cd 218 40 = (80, 217, 112, 0, 0) := by decide +kernel
theorem c_218_43 : pg_cd 218 43 = (1, 1, 0, 0, 1) := by decide +kernel
theorem c_218_44 : pg_cd 218 44 = (91, 0, 0, 0, 0) := by decide +kernel
theorem c_218_45 : pg_cd 218 45 = (3, 1, 0, 2, 0) := by decide +kernel
theorem c_218_46 : pg_cd 218 46 = (1, 1, 0, 0, 2) := by decide +kernel
theorem c_218_47 : pg_cd 218 47 = (37, 3, 0, 1, 28) := by decide +kernel
theorem c_218_50 : pg_cd 218 50 = (5, 1, 0, 0, 0) := by decide +kernel
theorem c_218_51 : pg_cd 218 51 = (3, 1, 0, 3, 0) := by decide +kernel
theorem c_218_52 : pg_cd 218 52 = (80, 203, 109, 0, 0) := by decide +kernel
theorem c_218_55 : pg_cd 218 55 = (36, 3, 0, 0, 18) := by decide +kernel
theorem c_218_58 : pg_cd 218 58 = (3, 1, 0, 3, 0) := by decide +kernel
theorem c_218_59 : pg_cd 218 59 = (3, 1, 0, 1, 0) := by decide +kernel
theorem c_218_60 : pg_cd 218 60 = (37, 3, 0, 0, 13) := by decide +kernel
theorem c_218_63 : pg_cd 218 63 = (5, 1, 0, 0, 0) := by decide +kernel
theorem c_218_64 : pg_cd 218 64 = (3, 1, 0, 3, 0) := by decide +kernel
theorem c_218_65 : pg_cd 218 65 = (1, 1, 0, 0, 3) := by decide +kernel
theorem c_218_66 : pg_cd 218 66 = (80, 199, 102, 0, 0) := by decide +kernel
theorem c_218_69 : pg_cd 218 69 = (1, 1, 0, 0, 1) := by decide +kernel
theorem c_218_70 : pg_cd 218 70 = (37, 3, 0, 0, 5) := by decide +kernel
theorem c_218_73 : pg_cd 218 73 = (1, 1, 0, 0, 0) := by decide +kernel
theorem c_218_74 : pg_cd 218 74 = (91, 0, 0, 0, 0) := by decide +kernel
theorem c_218_75 : pg_cd 218 75 = (3, 1, 0, 2, 0) := by decide +kernel
theorem c_218_76 : pg_cd 218 76 = (1, 1, 0, 0, 2) := by decide +kernel
theorem c_218_77 : pg_cd 218 77 = (37, 3, 0, 0, 13) := by decide +kernel
theorem c_218_80 : pg_cd 218 80 = (5, 1, 0, 0, 0) := by decide +kernel
theorem c_218_81 : pg_cd 218 81 = (3, 1, 0, 3, 0) := by decide +kernel
theorem c_218_82 : pg_cd 218 82 = (80, 201, 115, 0, 0) := by decide +kernel
theorem c_218_85 : pg_cd 218 85 = (36, 3, 0, 1, 5) := by decide +kernel
theorem c_218_88 : pg_cd 218 88 = (1, 1, 0, 0, 0) := by decide +kernel
theorem c_218_89 : pg_cd 218 89 = (91, 0, 0, 0, 0) := by decide +kernel
theorem c_218_90 : pg_cd 218 90 = (3, 1, 0, 2, 0) := by decide +kernel
theorem c_218_91 : pg_cd 218 91 = (1, 1, 0, 0, 2) := by decide +kernel
theorem c_218_92 : pg_cd 218 92 = (37, 3, 0, 1, 12) := by decide +kernel
theorem c_218_95 : pg_cd 218 95 = (5, 1, 0, 0, 0) := by decide +kernel
theorem c_218_96 : pg_cd 218 96 = (3, 1, 0, 3, 0) := by decide +kernel
theorem c_218_97 : pg_cd 218 97 = (1, 1, 0, 0, 4) := by decide +kernel
theorem c_218_98 : pg_cd 218 98 = (80, 199, 102, 0, 0) := by decide +kernel
theorem c_218_101 : pg_cd 218 101 = (38, 3, 0, 0, 4) := by decide +kernel
theorem c_218_104 : pg_cd 218 104 = (3, 1, 0, 3, 0) := by decide +kernel
theorem c_218_105 : pg_cd 218 105 = (6, 2, 0, 5, 0) := by decide +kernel
theorem c_218_107 : pg_cd 218 107 = (5, 1, 0, 0, 0) := by decide +kernel
theorem c_218_108 : pg_cd 218 108 = (3, 2, 0, 5, 0) := by decide +kernel
theorem c_218_110 : pg_cd 218 110 = (1, 1, 0, 0, 5) := by decide +kernel
theorem c_218_111 : pg_cd 218 111 = (80, 198, 118, 0, 0) := by decide +kernel
theorem c_218_114 : pg_cd 218 114 = (1, 1, 0, 0, 1) := by decide +kernel
theorem c_218_115 : pg_cd 218 115 = (37, 3, 0, 0, 33) := by decide +kernel
theorem c_218_118 : pg_cd 218 118 = (3, 2, 0, 4, 0) := by decide +kernel
theorem c_218_120 : pg_cd 218 120 = (1, 1, 0, 0, 1) := by decide +kernel
theorem c_218_121 : pg_cd 218 121 = (3, 1, 0, 2, 0) := by decide +kernel
theorem c_218_122 : pg_cd 218 122 = (1, 1, 0, 0, 1) := by decide +kernel
theorem c_218_123 : pg_cd 218 123 = (37, 3, 0, 1, 8) := by decide +kernel
theorem c_218_126 : pg_cd 218 126 = (1, 2, 0, 0, 6) := by decide +kernel
theorem c_218_128 : pg_cd 218 128 = (38, 3, 0, 0, 14) := by decide +kernel
theorem c_218_131 : pg_cd 218 131 = (3, 1, 0, 2, 0) := by decide +kernel
theorem c_218_132 : pg_cd 218 132 = (1, 1, 0, 0, 2) := by decide +kernel
theorem c_218_133 : pg_cd 218 133 = (37, 3, 0, 1, 7) := by decide +kernel
theorem c_218_136 : pg_cd 218 136 = (1, 1, 0, 0, 2) := by decide +kernel
theorem c_218_137 : pg_cd 218 137 = (38, 3, 0, 0, 5) := by decide +kernel
theorem c_218_140 : pg_cd 218 140 = (1, 2, 0, 0, 50) := by decide +kernel
theorem c_218_142 : pg_cd 218 142 = (81, 196, 76, 0, 0) := by decide +kernel
theorem c_218_145 : pg_cd 218 145 = (36, 3, 0, 1, 5) := by decide +kernel
theorem c_218_148 : pg_cd 218 148 = (1, 1, 0, 0, 0) := by decide +kernel
theorem c_218_149 : pg_cd 218 149 = (91, 0, 0, 0, 0) := by decide +kernel
theorem c_218_150 : pg_cd 218 150 = (3, 1, 0, 2, 0) := by decide +kernel
theorem c_218_151 : pg_cd 218 151 = (1, 1, 0, 0, 4) := by decide +kernel
theorem c_218_152 : pg_cd 218 152 = (37, 3, 0, 1, 14) := by decide +kernel
theorem c_218_155 : pg_cd 218 155 = (5, 1, 0, 0, 0) := by decide +kernel
theorem c_218_156 : pg_cd 218 156 = (3, 1, 0, 1, 0) := by decide +kernel
theorem c_218_157 : pg_cd 218 157 = (1, 1, 0, 0, 1) := by decide +kernel
theorem c_218_158 : pg_cd 218 158 = (80, 199, 102, 0, 0) := by decide +kernel
theorem c_218_161 : pg_cd 218 161 = (1, 2, 0, 0, 18) := by decide +kernel
theorem c_218_163 : pg_cd 218 163 = (37, 3, 0, 3, 28) := by decide +kernel
theorem c_218_166 : pg_cd 218 166 = (3, 1, 0, 2, 0) := by decide +kernel
theorem c_218_167 : pg_cd 218 167 = (1, 1, 0, 0, 2) := by decide +kernel
theorem c_218_168 : pg_cd 218 168 = (37, 3, 0, 4, 25) := by decide +kernel
theorem c_218_171 : pg_cd 218 171 = (5, 1, 0, 0, 0) := by decide +kernel
theorem c_218_172 : pg_cd 218 172 = (3, 2, 0, 5, 0) := by decide +kernel
theorem c_218_174 : pg_cd 218 174 = (3, 1, 0, 1, 0) := by decide +kernel
theorem c_218_175 : pg_cd 218 175 = (80, 215, 121, 0, 0) := by decide +kernel
theorem c_218_178 : pg_cd 218 178 = (3, 2, 0, 4, 0) := by decide +kernel
theorem c_218_180 : pg_cd 218 180 = (10, 1, 0, 0, 0) := by decide +kernel
theorem c_218_181 : pg_cd 218 181 = (5, 1, 0, 0, 0) := by decide +kernel
theorem c_218_182 : pg_cd 218 182 = (3, 2, 0, 5, 0) := by decide +kernel
theorem c_218_184 : pg_cd 218 184 = (1, 1, 0, 0, 0) := by decide +kernel
theorem c_218_185 : pg_cd 218 185 = (80, 198, 118, 0, 0) := by decide +kernel
theorem c_218_188 : pg_cd 218 188 = (37, 3, 0, 5, 5) := by decide +kernel
theorem c_218_191 : pg_cd 218 191 = (1, 1, 0, 0, 0) := by decide +kernel
theorem c_218_192 : pg_cd 218 192 = (91, 0, 0, 0, 0) := by decide +kernel
theorem c_218_193 : pg_cd 218 193 = (5, 1, 0, 0, 0) := by decide +kernel
theorem c_218_194 : pg_cd 218 194 = (3, 1, 0, 1, 0) := by decide +kernel
theorem c_218_195 : pg_cd 218 195 = (80, 217, 112, 0, 0) := by decide +kernel
theorem c_218_198 : pg_cd 218 198 = (1, 3, 0, 0, 3652) := by decide +kernel
theorem c_218_201 : pg_cd 218 201 = (1, 2, 0, 0, 12) := by decide +kernel
theorem c_218_203 : pg_cd 218 203 = (3, 1, 0, 1, 0) := by decide +kernel
theorem c_218_204 : pg_cd 218 204 = (12, 1, 0, 0, 0) := by decide +kernel
theorem c_218_205 : pg_cd 218 205 = (10, 1, 0, 0, 0) := by decide +kernel
theorem c_218_206 : pg_cd 218 206 = (6, 2, 0, 6, 0) := by decide +kernel
theorem c_218_208 : pg_cd 218 208 = (5, 1, 0, 0, 0) := by decide +kernel
theorem c_218_209 : pg_cd 218 209 = (45, 12, 8, 0, 0) := by decide +kernel
theorem c_218_212 : pg_cd 218 212 = (3, 2, 0, 6, 0) := by decide +kernel
theorem c_218_214 : pg_cd 218 214 = (1, 1, 0, 0, 3) := by decide +kernel
theorem c_218_215 : pg_cd 218 215 = (10, 1, 0, 0, 0) := by decide +kernel
theorem c_218_216 : pg_cd 218 216 = (3, 1, 0, 2, 0) := by decide +kernel
theorem c_218_217 : pg_cd 218 217 = (54, 1, 0, 0, 0) := by decide +kernel
theorem c_218_218 : pg_cd 218 218 = (5, 1, 0, 0, 0) := by decide +kernel
theorem c_218_219 : pg_cd 218 219 = (45, 12, 8, 0, 0) := by decide +kernel
theorem c_218_222 : pg_cd 218 222 = (3, 2, 0, 6, 0) := by decide +kernel
theorem c_218_224 : pg_cd 218 224 = (1, 1, 0, 0, 4) := by decide +kernel
theorem c_218_225 : pg_cd 218 225 = (10, 1, 0, 0, 0) := by decide +kernel
theorem c_218_226 : pg_cd 218 226 = (3, 2, 0, 5, 0) := by decide +kernel
theorem c_218_228 : pg_cd 218 228 = (54, 1, 0, 0, 0) := by decide +kernel
theorem c_218_229 : pg_cd 218 229 = (5, 1, 0, 0, 0) := by decide +kernel
theorem c_218_230 : pg_cd 218 230 = (45, 12, 8, 0, 0) := by decide +kernel
theorem c_218_233 : pg_cd 218 233 = (3, 2, 0, 6, 0) := by decide +kernel
theorem c_218_235 : pg_cd 218 235 = (1, 1, 0, 0, 5) := by decide +kernel
theorem c_218_236 : pg_cd 218 236 = (10, 1, 0, 0, 0) := by decide +kernel
theorem c_218_237 : pg_cd 218 237 = (3, 2, 0, 4, 0) := by decide +kernel
theorem c_218_239 : pg_cd 218 239 = (54, 1, 0, 0, 0) := by decide +kernel
theorem c_218_240 : pg_cd 218 240 = (5, 1, 0, 0, 0) := by decide +kernel
theorem c_218_241 : pg_cd 218 241 = (45, 12, 8, 0, 0) := by decide +kernel
theorem c_218_244 : pg_cd 218 244 = (3, 2, 0, 6, 0) := by decide +kernel
theorem c_218_246 : pg_cd 218 246 = (1, 2, 0, 0, 6) := by decide +kernel
theorem c_218_248 : pg_cd 218 248 = (10, 1, 0, 0, 0) := by decide +kernel
theorem c_218_249 : pg_cd 218 249 = (3, 1, 0, 2, 0) := by decide +kernel
theorem c_218_250 : pg_cd 218 250 = (1, 1, 0, 0, 2) := by decide +kernel
theorem c_218_251 : pg_cd 218 251 = (37, 3, 0, 1, 7) := by decide +kernel
theorem c_218_254 : pg_cd 218 254 = (3, 1, 0, 3, 0) := by decide +kernel
theorem c_218_255 : pg_cd 218 255 = (38, 3, 0, 0, 4) := by decide +kernel
theorem c_218_258 : pg_cd 218 258 = (1, 1, 0, 0, (-1)) := by decide +kernel
theorem c_218_259 : pg_cd 218 259 = (54, 1, 0, 0, 0) := by decide +kernel
theorem c_218_260 : pg_cd 218 260 = (1, 1, 0, 0, 1) := by decide +kernel
theorem c_218_261 : pg_cd 218 261 = (91, 0, 0, 0, 0) := by decide +kernel
theorem mi_218 : pg_mc 218 = 12 ∧ pg_na 218 = 4 ∧ pg_mx 218 = 7 := by decide +kernel
set_option maxRecDepth 20000 in
theorem u_218_0 {d : Nat} {S : zS} {σ τ : zI} {Q : zQ} {x1 : Int} {x2 : Int} {x3 : Int} {x4 : Int} (t : (rg x1) ∧ (0 ≤ σ 84 4) ∧ if 0 ≤ x1 ∧ x1 < σ 84 4 then ((rg x2) ∧ if 0 ≤ x2 ∧ x2 ≤ 4 then ((0 ≤ 3652 + 12 * x1 + 0 ∧ 3652 + 12 * x1 + 0 < 112300) ∧ (0 ≤ 3460 + 8 * (σ 84 (3652 + 12 * x1 + 0)) + 3 ∧ 3460 + 8 * (σ 84 (3652 + 12 * x1 + 0)) + 3 < 112300) ∧ if (σ 84 (3460 + 8 * (σ 84 (3652 + 12 * x1 + 0)) + 3)) = 1 then (Q (some (.int (wI 0))) S σ τ) else (if x2 = 0 then ((0 ≤ x1 ∧ x1 < 60) ∧ (0 ≤ σ 84 4 ∧ σ 84 4 ≤ 60) ∧ Q (some (.int (wI 1))) S (uc σ 84 (r_endW ((σ 84)) x1)) τ) else (if x2 = 2 then ((rg x3) ∧ if 0 ≤ x3 ∧ x3 < σ 84 4 then (if x3 = x1 then (Q (some (.int (wI 0))) S σ τ) else ((0 ≤ 3652 + 12 * x3 + 3 ∧ 3652 + 12 * x3 + 3 < 112300) ∧ if (σ 84 (3652 + 12 * x3 + 3)) = 1 then ((0 ≤ 3652 + 12 * x3 + 4 ∧ 3652 + 12 * x3 + 4 < 112300) ∧ (0 ≤ 3300 + 16 * (σ 84 (3652 + 12 * x3 + 4)) + 5 ∧ 3300 + 16 * (σ 84 (3652 + 12 * x3 + 4)) + 5 < 112300) ∧ if (σ 84 (3300 + 16 * (σ 84 (3652 + 12 * x3 + 4)) + 5)) = 1 then (Q (some (.int (wI 0))) S σ τ) else ((rg x4) ∧ if 1 ≤ x4 ∧ x4 ≤ 2 then ((Jv (σ 84)) ∧ ∀ (v91 : Int), v91 = r_had (σ 84) (σ 84 (3652 + 12 * x3 + 4)) x1 → 0 ≤ v91 ∧ v91 ≤ 3000 → (0 ≤ 3300 + 16 * (σ 84 (3652 + 12 * x3 + 4)) + 0 ∧ 3300 + 16 * (σ 84 (3652 + 12 * x3 + 4)) + 0 < 112300) ∧ (rg (v91 + x4)) ∧ if (v91 + x4) ≤ (σ 84 (3300 + 16 * (σ 84 (3652 + 12 * x3 + 4)) + 0)) then ((0 ≤ x1 ∧ x1 < 60) ∧ (0 ≤ σ 84 4 ∧ σ 84 4 ≤ 60) ∧ (0 ≤ (3652 + (12 * x1)) + 3 ∧ (3652 + (12 * x1)) + 3 < 112300) ∧ (0 ≤ (3652 + (12 * x1)) + 4 ∧ (3652 + (12 * x1)) + 4 < 112300) ∧ (0 ≤ (3652 + (12 * x1)) + 5 ∧ (3652 + (12 * x1)) + 5 < 112300) ∧ (0 ≤ (3652 + (12 * x1)) + 6 ∧ (3652 + (12 * x1)) + 6 < 112300) ∧ Q (some (.int (wI 1))) S (uc σ 84 (u1 (u1 (u1 (u1 (r_endW ((σ 84)) x1) ((3652 + (12 * x1)) + 3) x2) ((3652 + (12 * x1)) + 4) (σ 84 (3652 + 12 * x3 + 4))) ((3652 + (12 * x1)) + 5) x4) ((3652 + (12 * x1)) + 6) x3)) τ) else (Q (some (.int (wI 0))) S σ τ)) else (Q (some (.int (wI 0))) S σ τ))) else (Q (some (.int (wI 0))) S σ τ))) else (Q (some (.int (wI 0))) S σ τ)) else ((rg x3) ∧ (0 ≤ σ 84 1) ∧ if 0 ≤ x3 ∧ x3 < σ 84 1 then ((0 ≤ 3300 + 16 * x3 + 5 ∧ 3300 + 16 * x3 + 5 < 112300) ∧ if (σ 84 (3300 + 16 * x3 + 5)) = 1 then (Q (some (.int (wI 0))) S σ τ) else (if x2 = 1 then ((rg x4) ∧ if 1 ≤ x4 ∧ x4 ≤ 6 then ((Jv (σ 84)) ∧ ∀ (v61 : Int), v61 = r_had (σ 84) x3 x1 → 0 ≤ v61 ∧ v61 ≤ 3000 → (0 ≤ 3300 + 16 * x3 + 0 ∧ 3300 + 16 * x3 + 0 < 112300) ∧ (rg (v61 + x4)) ∧ if (v61 + x4) ≤ (σ 84 (3300 + 16 * x3 + 0)) then ((0 ≤ x1 ∧ x1 < 60) ∧ (0 ≤ σ 84 4 ∧ σ 84 4 ≤ 60) ∧ (0 ≤ (3652 + (12 * x1)) + 3 ∧ (3652 + (12 * x1)) + 3 < 112300) ∧ (0 ≤ (3652 + (12 * x1)) + 4 ∧ (3652 + (12 * x1)) + 4 < 112300) ∧ (0 ≤ (3652 + (12 * x1)) + 5 ∧ (3652 + (12 * x1)) + 5 < 112300) ∧ (0 ≤ (3652 + (12 * x1)) + 6 ∧ (3652 + (12 * x1)) + 6 < 112300) ∧ Q (some (.int (wI 1))) S (uc σ 84 (u1 (u1 (u1 (u1 (r_endW ((σ 84)) x1) ((3652 + (12 * x1)) + 3) x2) ((3652 + (12 * x1)) + 4) x3) ((3652 + (12 * x1)) + 5) x4) ((3652 + (12 * x1)) + 6) (-1))) τ) else (Q (some (.int (wI 0))) S σ τ)) else (Q (some (.int (wI 0))) S σ τ)) else ((rg x4) ∧ if 1 ≤ x4 ∧ x4 ≤ 50 then (if x2 = 4 then ((0 ≤ 3652 + 12 * x1 + 1 ∧ 3652 + 12 * x1 + 1 < 112300) ∧ if (18 : Int) ≤ (σ 84 (3652 + 12 * x1 + 1)) then (Q (some (.int (wI 0))) S σ τ) else ((0 ≤ x1 ∧ x1 < 60) ∧ (0 ≤ σ 84 4 ∧ σ 84 4 ≤ 60) ∧ (0 ≤ (3652 + (12 * x1)) + 3 ∧ (3652 + (12 * x1)) + 3 < 112300) ∧ (0 ≤ (3652 + (12 * x1)) + 4 ∧ (3652 + (12 * x1)) + 4 < 112300) ∧ (0 ≤ (3652 + (12 * x1)) + 5 ∧ (3652 + (12 * x1)) + 5 < 112300) ∧ (0 ≤ (3652 + (12 * x1)) + 6 ∧ (3652 + (12 * x1)) + 6 < 112300) ∧ Q (some (.int (wI 1))) S (uc σ 84 (u1 (u1 (u1 (u1 (r_endW ((σ 84)) x1) ((3652 + (12 * x1)) + 3) x2) ((3652 + (12 * x1)) + 4) x3) ((3652 + (12 * x1)) + 5) x4) ((3652 + (12 * x1)) + 6) (-1))) τ)) else (if (2 : Int) < x2 then ((0 ≤ x1 ∧ x1 < 60) ∧ (0 ≤ σ 84 4 ∧ σ 84 4 ≤ 60) ∧ (0 ≤ (3652 + (12 * x1)) + 3 ∧ (3652 + (12 * x1)) + 3 < 112300) ∧ (0 ≤ (3652 + (12 * x1)) + 4 ∧ (3652 + (12 * x1)) + 4 < 112300) ∧ (0 ≤ (3652 + (12 * x1)) + 5 ∧ (3652 + (12 * x1)) + 5 < 112300) ∧ (0 ≤ (3652 + (12 * x1)) + 6 ∧ (3652 + (12 * x1)) + 6 < 112300) ∧ Q (some (.int (wI 1))) S (uc σ 84 (u1 (u1 (u1 (u1 (r_endW ((σ 84)) x1) ((3652 + (12 * x1)) + 3) x2) ((3652 + (12 * x1)) + 4) x3) ((3652 + (12 * x1)) + 5) x4) ((3652 + (12 * x1)) + 6) (-1))) τ) else ((Jv (σ 84)) ∧ ∀ (v33 : Int), v33 = r_had (σ 84) x3 x1 → 0 ≤ v33 ∧ v33 ≤ 3000 → (0 ≤ 3300 + 16 * x3 + 0 ∧ 3300 + 16 * x3 + 0 < 112300) ∧ (rg (v33 + x4)) ∧ if (v33 + x4) ≤ (σ 84 (3300 + 16 * x3 + 0)) then ((0 ≤ x1 ∧ x1 < 60) ∧ (0 ≤ σ 84 4 ∧ σ 84 4 ≤ 60) ∧ (0 ≤ (3652 + (12 * x1)) + 3 ∧ (3652 + (12 * x1)) + 3 < 112300) ∧ (0 ≤ (3652 + (12 * x1)) + 4 ∧ (3652 + (12 * x1)) + 4 < 112300) ∧ (0 ≤ (3652 + (12 * x1)) + 5 ∧ (3652 + (12 * x1)) + 5 < 112300) ∧ (0 ≤ (3652 + (12 * x1)) + 6 ∧ (3652 + (12 * x1)) + 6 < 112300) ∧ Q (some (.int (wI 1))) S (uc σ 84 (u1 (u1 (u1 (u1 (r_endW ((σ 84)) x1) ((3652 + (12 * x1)) + 3) x2) ((3652 + (12 * x1)) + 4) x3) ((3652 + (12 * x1)) + 5) x4) ((3652 + (12 * x1)) + 6) (-1))) τ) else (Q (some (.int (wI 0))) S σ τ)))) else (Q (some (.int (wI 0))) S σ τ)))) else (Q (some (.int (wI 0))) S σ τ))))) else (Q (some (.int (wI 0))) S σ τ)) else (Q (some (.int (wI 0))) S σ τ)) : wi (d + 3) 218 0 [.ref 83, .int (wI x1), .int (wI x2), .int (wI x3), .int (wI x4), .retAddr 0, .retAddr 0] [] S σ τ Q := by
  obtain ⟨r1, t⟩ := t
  obtain ⟨p2, t⟩ := t
  refine i5 c_218_0 rfl (i3 c_218_1 rfl ?_)
  refine i80 (As := [.int (wI x1)]) (rest := []) c_218_2 mi_203 rfl rfl (Nat.le_of_ble_eq_true rfl) (Nat.le_of_ble_eq_true rfl) (lo (c := 83) (kd := 112) (n := 0) rfl (by decide)) (q_203 r1 p2 ?_)
  show wi (d + 3) 218 5 [.ref 83, .int (wI x1), .int (wI x2), .int (wI x3), .int (wI x4), .retAddr 0, .retAddr 0] [.int (wI (if 0 ≤ x1 ∧ x1 < σ 84 4 then 1 else 0))] S σ τ Q
  refine i36e c_218_5 rfl (fun hc => ?_) (fun hc => ?_)
  · have t := iT t hc
    have ha3 : 0 ≤ x1 ∧ x1 < σ 84 4 := hc
    obtain ⟨r4, t⟩ := t
    refine i3 c_218_8 rfl (i1 c_218_9 (i1 c_218_10 ?_))
    refine i81 (As := [.int (wI x2), .int (wI 0), .int (wI 4)]) (rest := []) c_218_11 mi_196 rfl rfl (Nat.le_of_ble_eq_true rfl) (Nat.le_of_ble_eq_true rfl) (q_196 r4 (by decide) (by decide) ?_)
    show wi (d + 3) 218 14 [.ref 83, .int (wI x1), .int (wI x2), .int (wI x3), .int (wI x4), .retAddr 0, .retAddr 0] [.int (wI (if 0 ≤ x2 ∧ x2 ≤ 4 then 1 else 0))] S σ τ Q
    refine i36e c_218_14 rfl (fun hc => ?_) (fun hc => ?_)
    · have t := iT t hc
      have ha5 : 0 ≤ x2 ∧ x2 ≤ 4 := hc
      obtain ⟨p6, t⟩ := t
      refine i5 c_218_17 rfl (i5 c_218_18 rfl (i3 c_218_19 rfl (i1 c_218_20 ?_)))
      refine i80 (As := [.int (wI x1), .int (wI 0)]) (rest := [.ref 83]) c_218_21 mi_199 rfl rfl (Nat.le_of_ble_eq_true rfl) (Nat.le_of_ble_eq_true rfl) (lo (c := 83) (kd := 112) (n := 0) rfl (by decide)) (q_199 p6 ?_)
      show wi (d + 3) 218 24 [.ref 83, .int (wI x1), .int (wI x2), .int (wI x3), .int (wI x4), .retAddr 0, .retAddr 0] [.int (wI (σ 84 (3652 + 12 * x1 + 0))), .ref 83] S σ τ Q
      refine wi_ok (fun K7 => ?_)
      obtain ⟨p8, t⟩ := t
      refine i1 c_218_24 ?_
      refine i80 (As := [.int (wI (σ 84 (3652 + 12 * x1 + 0))), .int (wI 3)]) (rest := []) c_218_25 mi_200 rfl rfl (Nat.le_of_ble_eq_true rfl) (Nat.le_of_ble_eq_true rfl) (lo (c := 83) (kd := 112) (n := 0) rfl (by decide)) (q_200 p8 ?_)
      show wi (d + 3) 218 28 [.ref 83, .int (wI x1), .int (wI x2), .int (wI x3), .int (wI x4), .retAddr 0, .retAddr 0] [.int (wI (σ 84 (3460 + 8 * (σ 84 (3652 + 12 * x1 + 0)) + 3)))] S σ τ Q
      refine i1 c_218_28 ?_
      refine i37 c_218_29 (rge_ K7 rfl) (by decide) rfl (fun hc => ?_) (fun hc => ?_)
      · have t := iF t hc
        have ha9 : ¬ ((σ 84 (3460 + 8 * (σ 84 (3652 + 12 * x1 + 0)) + 3)) = 1) := hc
        refine i3 c_218_34 rfl ?_
        refine i36 c_218_35 r4 rfl (fun hc => ?_) (fun hc => ?_)
        · have t := iF t hc
          have ha10 : ¬ (x2 = 0) := hc
          refine i3 c_218_45 rfl (i1 c_218_46 ?_)
          refine i37 c_218_47 r4 (by decide) rfl (fun hc => ?_) (fun hc => ?_)
          · have t := iF t hc
            have ha11 : ¬ (x2 = 2) := hc
            refine i3 c_218_75 rfl (i1 c_218_76 ?_)
            refine i37 c_218_77 r4 (by decide) rfl (fun hc => absurd hc (show ¬ (x2 = 2) by omega)) (fun _ => ?_)
            obtain ⟨r13, t⟩ := t
            obtain ⟨p14, t⟩ := t
            refine i5 c_218_80 rfl (i3 c_218_81 rfl ?_)
            refine i80 (As := [.int (wI x3)]) (rest := []) c_218_82 mi_201 rfl rfl (Nat.le_of_ble_eq_true rfl) (Nat.le_of_ble_eq_true rfl) (lo (c := 83) (kd := 112) (n := 0) rfl (by decide)) (q_201 r13 p14 ?_)
            show wi (d + 3) 218 85 [.ref 83, .int (wI x1), .int (wI x2), .int (wI x3), .int (wI x4), .retAddr 0, .retAddr 0] [.int (wI (if 0 ≤ x3 ∧ x3 < σ 84 1 then 1 else 0))] S σ τ Q
            refine i36f c_218_85 rfl (fun hc => ?_) (fun hc => ?_)
            · have t := iT t hc
              have ha15 : 0 ≤ x3 ∧ x3 < σ 84 1 := hc
              refine i3 c_218_90 rfl (i1 c_218_91 ?_)
              refine i37 c_218_92 r4 (by decide) rfl (fun _ => ?_) (fun hc => absurd (show ¬ (x2 = 2) by omega) hc)
              obtain ⟨p17, t⟩ := t
              refine i3 c_218_104 rfl (i6 (L' := [.ref 83, .int (wI x1), .int (wI x2), .int (wI x3), .int (wI x4), .int (wI x3), .retAddr 0]) c_218_105 rfl (i5 c_218_107 rfl (i3 c_218_108 rfl (i1 c_218_110 ?_))))
              refine i80 (As := [.int (wI x3), .int (wI 5)]) (rest := []) c_218_111 mi_198 rfl rfl (Nat.le_of_ble_eq_true rfl) (Nat.le_of_ble_eq_true rfl) (lo (c := 83) (kd := 112) (n := 0) rfl (by decide)) (q_198 p17 ?_)
              show wi (d + 3) 218 114 [.ref 83, .int (wI x1), .int (wI x2), .int (wI x3), .int (wI x4), .int (wI x3), .retAddr 0] [.int (wI (σ 84 (3300 + 16 * x3 + 5)))] S σ τ Q
              refine i1 c_218_114 ?_
              refine i37 c_218_115 (rge_ K7 rfl) (by decide) rfl (fun hc => ?_) (fun hc => ?_)
              · have t := iT t hc
                have ha18 : (σ 84 (3300 + 16 * x3 + 5)) = 1 := hc
                refine i1 c_218_148 ?_
                exact i91 c_218_149 (by decide) t
              · have t := iF t hc
                have ha18 : ¬ ((σ 84 (3300 + 16 * x3 + 5)) = 1) := hc
                refine i3 c_218_118 rfl (i1 c_218_120 (i3 c_218_121 rfl (i1 c_218_122 ?_)))
                refine i37 c_218_123 r4 (by decide) rfl (fun hc => ?_) (fun hc => ?_)
                · have t := iF t hc
                  have ha19 : ¬ (x2 = 1) := hc
                  refine i3 c_218_131 rfl (i1 c_218_132 ?_)
                  refine i37 c_218_133 r4 (by decide) rfl (fun _ => ?_) (fun hc => absurd (show ¬ (x2 = 2) by omega) hc)
                  obtain ⟨r21, t⟩ := t
                  refine i1 c_218_140 ?_
                  refine i81 (As := [.int (wI x4), .int (wI 1), .int (wI 50)]) (rest := []) c_218_142 mi_196 rfl rfl (Nat.le_of_ble_eq_true rfl) (Nat.le_of_ble_eq_true rfl) (q_196 r21 (by decide) (by decide) ?_)
                  show wi (d + 3) 218 145 [.ref 83, .int (wI x1), .int (wI x2), .int (wI x3), .int (wI x4), .int (wI x3), .retAddr 0] [.int (wI (if 1 ≤ x4 ∧ x4 ≤ 50 then 1 else 0))] S σ τ Q
                  refine i36f c_218_145 rfl (fun hc => ?_) (fun hc => ?_)
                  · have t := iT t hc
                    have ha22 : 1 ≤ x4 ∧ x4 ≤ 50 := hc
                    refine i3 c_218_150 rfl (i1 c_218_151 ?_)
                    refine i37 c_218_152 r4 (by decide) rfl (fun hc => ?_) (fun hc => ?_)
                    · have t := iF t hc
                      have ha23 : ¬ (x2 = 4) := hc
                      refine i3 c_218_166 rfl (i1 c_218_167 ?_)
                      refine i37 c_218_168 r4 (by decide) rfl (fun hc => ?_) (fun hc => ?_)
                      · have t := iT t hc
                        have ha24 : (2 : Int) < x2 := hc
                        obtain ⟨p25, t⟩ := t
                        obtain ⟨p26, t⟩ := t
                        refine i5 c_218_193 rfl (i3 c_218_194 rfl ?_)
                        refine i80 (As := [.int (wI x1)]) (rest := []) c_218_195 mi_217 rfl rfl (Nat.le_of_ble_eq_true rfl) (Nat.le_of_ble_eq_true rfl) (lo (c := 83) (kd := 112) (n := 0) rfl (by decide)) (q_217 p25 p26 ?_)
                        show wi (d + 3) 218 198 [.ref 83, .int (wI x1), .int (wI x2), .int (wI x3), .int (wI x4), .int (wI x3), .retAddr 0] [] S (uc σ 84 (r_endW ((σ 84)) x1)) τ Q
                        obtain ⟨r27, t⟩ := t
                        obtain ⟨r28, t⟩ := t
                        obtain ⟨r29, t⟩ := t
                        refine i1 c_218_198 (i1 c_218_201 (i3 c_218_203 rfl (i12 c_218_204 (i10 c_218_205 (i6 (L' := [.ref 83, .int (wI x1), .int (wI x2), .int (wI x3), .int (wI x4), .int (wI x3), .int (wI (3652 + (12 * x1)))]) c_218_206 rfl (i5 c_218_208 rfl (i45 c_218_209 (lo (c := 83) (kd := 112) (n := 0) rfl (by decide)) (lro (c := 83) (k := 0) (j := 84) (by decide)) (i3 c_218_212 rfl (i1 c_218_214 (i10 c_218_215 (i3 c_218_216 rfl (i54 (σ1 := uc σ 84 (u1 (r_endW ((σ 84)) x1) ((3652 + (12 * x1)) + 3) x2)) c_218_217 (lo (c := 84) (kd := 0) (n := 112300) rfl (by decide)) (by decide) r27 (by decide) rfl r4 (wr_ (uc_s _ _ _) (uc_uc _ _ _ _)) (i5 c_218_218 rfl (i45 c_218_219 (lo (c := 83) (kd := 112) (n := 0) rfl (by decide)) (lro (c := 83) (k := 0) (j := 84) (by decide)) (i3 c_218_222 rfl (i1 c_218_224 (i10 c_218_225 (i3 c_218_226 rfl (i54 (σ1 := uc σ 84 (u1 (u1 (r_endW ((σ 84)) x1) ((3652 + (12 * x1)) + 3) x2) ((3652 + (12 * x1)) + 4) x3)) c_218_228 (lo (c := 84) (kd := 0) (n := 112300) rfl (by decide)) (by decide) r28 (by decide) rfl r13 (wr_ (uc_s _ _ _) (uc_uc _ _ _ _)) (i5 c_218_229 rfl (i45 c_218_230 (lo (c := 83) (kd := 112) (n := 0) rfl (by decide)) (lro (c := 83) (k := 0) (j := 84) (by decide)) (i3 c_218_233 rfl (i1 c_218_235 (i10 c_218_236 (i3 c_218_237 rfl (i54 (σ1 := uc σ 84 (u1 (u1 (u1 (r_endW ((σ 84)) x1) ((3652 + (12 * x1)) + 3) x2) ((3652 + (12 * x1)) + 4) x3) ((3652 + (12 * x1)) + 5) x4)) c_218_239 (lo (c := 84) (kd := 0) (n := 112300) rfl (by decide)) (by decide) r29 (by decide) rfl r21 (wr_ (uc_s _ _ _) (uc_uc _ _ _ _)) (i5 c_218_240 rfl (i45 c_218_241 (lo (c := 83) (kd := 112) (n := 0) rfl (by decide)) (lro (c := 83) (k := 0) (j := 84) (by decide)) (i3 c_218_244 rfl (i1 c_218_246 (i10 c_218_248 (i3 c_218_249 rfl (i1 c_218_250 ?_)))))))))))))))))))))))))))))))))
                        refine i37 c_218_251 r4 (by decide) rfl (fun _ => ?_) (fun hc => absurd (show ¬ (x2 = 2) by omega) hc)
                        obtain ⟨r31, t⟩ := t
                        refine i1 c_218_258 (i54 (σ1 := uc σ 84 (u1 (u1 (u1 (u1 (r_endW ((σ 84)) x1) ((3652 + (12 * x1)) + 3) x2) ((3652 + (12 * x1)) + 4) x3) ((3652 + (12 * x1)) + 5) x4) ((3652 + (12 * x1)) + 6) (-1))) c_218_259 (lo (c := 84) (kd := 0) (n := 112300) rfl (by decide)) (by decide) r31 (by decide) rfl (by decide) (wr_ (uc_s _ _ _) (uc_uc _ _ _ _)) (i1 c_218_260 ?_))
                        exact i91 c_218_261 (by decide) t
                      · have t := iF t hc
                        have ha24 : ¬ ((2 : Int) < x2) := hc
                        obtain ⟨p32, t⟩ := t
                        refine i5 c_218_171 rfl (i3 c_218_172 rfl (i3 c_218_174 rfl ?_))
                        refine i80 (As := [.int (wI x3), .int (wI x1)]) (rest := []) c_218_175 mi_215 rfl rfl (Nat.le_of_ble_eq_true rfl) (Nat.le_of_ble_eq_true rfl) (lo (c := 83) (kd := 112) (n := 0) rfl (by decide)) (q_215 r13 r1 p32 (fun v33 q34 q35 => ?_))
                        have t := t v33 q34 q35
                        show wi (d + 3) 218 178 [.ref 83, .int (wI x1), .int (wI x2), .int (wI x3), .int (wI x4), .int (wI x3), .retAddr 0] [.int (wI v33)] S σ τ Q
                        obtain ⟨p36, t⟩ := t
                        refine i3 c_218_178 rfl (i10 c_218_180 (i5 c_218_181 rfl (i3 c_218_182 rfl (i1 c_218_184 ?_))))
                        refine i80 (As := [.int (wI x3), .int (wI 0)]) (rest := [.int (wI (v33 + x4))]) c_218_185 mi_198 rfl rfl (Nat.le_of_ble_eq_true rfl) (Nat.le_of_ble_eq_true rfl) (lo (c := 83) (kd := 112) (n := 0) rfl (by decide)) (q_198 p36 ?_)
                        show wi (d + 3) 218 188 [.ref 83, .int (wI x1), .int (wI x2), .int (wI x3), .int (wI x4), .int (wI x3), .retAddr 0] [.int (wI (σ 84 (3300 + 16 * x3 + 0))), .int (wI (v33 + x4))] S σ τ Q
                        obtain ⟨r37, t⟩ := t
                        refine i37 c_218_188 r37 (rge_ K7 rfl) rfl (fun hc => ?_) (fun hc => ?_)
                        · have t := iT t hc
                          have ha38 : (v33 + x4) ≤ (σ 84 (3300 + 16 * x3 + 0)) := hc
                          obtain ⟨p39, t⟩ := t
                          obtain ⟨p40, t⟩ := t
                          refine i5 c_218_193 rfl (i3 c_218_194 rfl ?_)
                          refine i80 (As := [.int (wI x1)]) (rest := []) c_218_195 mi_217 rfl rfl (Nat.le_of_ble_eq_true rfl) (Nat.le_of_ble_eq_true rfl) (lo (c := 83) (kd := 112) (n := 0) rfl (by decide)) (q_217 p39 p40 ?_)
                          show wi (d + 3) 218 198 [.ref 83, .int (wI x1), .int (wI x2), .int (wI x3), .int (wI x4), .int (wI x3), .retAddr 0] [] S (uc σ 84 (r_endW ((σ 84)) x1)) τ Q
                          obtain ⟨r41, t⟩ := t
                          obtain ⟨r42, t⟩ := t
                          obtain ⟨r43, t⟩ := t
                          refine i1 c_218_198 (i1 c_218_201 (i3 c_218_203 rfl (i12 c_218_204 (i10 c_218_205 (i6 (L' := [.ref 83, .int (wI x1), .int (wI x2), .int (wI x3), .int (wI x4), .int (wI x3), .int (wI (3652 + (12 * x1)))]) c_218_206 rfl (i5 c_218_208 rfl (i45 c_218_209 (lo (c := 83) (kd := 112) (n := 0) rfl (by decide)) (lro (c := 83) (k := 0) (j := 84) (by decide)) (i3 c_218_212 rfl (i1 c_218_214 (i10 c_218_215 (i3 c_218_216 rfl (i54 (σ1 := uc σ 84 (u1 (r_endW ((σ 84)) x1) ((3652 + (12 * x1)) + 3) x2)) c_218_217 (lo (c := 84) (kd := 0) (n := 112300) rfl (by decide)) (by decide) r41 (by decide) rfl r4 (wr_ (uc_s _ _ _) (uc_uc _ _ _ _)) (i5 c_218_218 rfl (i45 c_218_219 (lo (c := 83) (kd := 112) (n := 0) rfl (by decide)) (lro (c := 83) (k := 0) (j := 84) (by decide)) (i3 c_218_222 rfl (i1 c_218_224 (i10 c_218_225 (i3 c_218_226 rfl (i54 (σ1 := uc σ 84 (u1 (u1 (r_endW ((σ 84)) x1) ((3652 + (12 * x1)) + 3) x2) ((3652 + (12 * x1)) + 4) x3)) c_218_228 (lo (c := 84) (kd := 0) (n := 112300) rfl (by decide)) (by decide) r42 (by decide) rfl r13 (wr_ (uc_s _ _ _) (uc_uc _ _ _ _)) (i5 c_218_229 rfl (i45 c_218_230 (lo (c := 83) (kd := 112) (n := 0) rfl (by decide)) (lro (c := 83) (k := 0) (j := 84) (by decide)) (i3 c_218_233 rfl (i1 c_218_235 (i10 c_218_236 (i3 c_218_237 rfl (i54 (σ1 := uc σ 84 (u1 (u1 (u1 (r_endW ((σ 84)) x1) ((3652 + (12 * x1)) + 3) x2) ((3652 + (12 * x1)) + 4) x3) ((3652 + (12 * x1)) + 5) x4)) c_218_239 (lo (c := 84) (kd := 0) (n := 112300) rfl (by decide)) (by decide) r43 (by decide) rfl r21 (wr_ (uc_s _ _ _) (uc_uc _ _ _ _)) (i5 c_218_240 rfl (i45 c_218_241 (lo (c := 83) (kd := 112) (n := 0) rfl (by decide)) (lro (c := 83) (k := 0) (j := 84) (by decide)) (i3 c_218_244 rfl (i1 c_218_246 (i10 c_218_248 (i3 c_218_249 rfl (i1 c_218_250 ?_)))))))))))))))))))))))))))))))))
                          refine i37 c_218_251 r4 (by decide) rfl (fun _ => ?_) (fun hc => absurd (show ¬ (x2 = 2) by omega) hc)
                          obtain ⟨r45, t⟩ := t
                          refine i1 c_218_258 (i54 (σ1 := uc σ 84 (u1 (u1 (u1 (u1 (r_endW ((σ 84)) x1) ((3652 + (12 * x1)) + 3) x2) ((3652 + (12 * x1)) + 4) x3) ((3652 + (12 * x1)) + 5) x4) ((3652 + (12 * x1)) + 6) (-1))) c_218_259 (lo (c := 84) (kd := 0) (n := 112300) rfl (by decide)) (by decide) r45 (by decide) rfl (by decide) (wr_ (uc_s _ _ _) (uc_uc _ _ _ _)) (i1 c_218_260 ?_))
                          exact i91 c_218_261 (by decide) t
                        · have t := iF t hc
                          have ha38 : ¬ ((v33 + x4) ≤ (σ 84 (3300 + 16 * x3 + 0))) := hc
                          refine i1 c_218_191 ?_
                          exact i91 c_218_192 (by decide) t
                    · have t := iT t (Decidable.not_not.mp hc)
                      have ha23 : x2 = 4 := Decidable.not_not.mp hc
                      obtain ⟨p46, t⟩ := t
                      refine i5 c_218_155 rfl (i3 c_218_156 rfl (i1 c_218_157 ?_))
                      refine i80 (As := [.int (wI x1), .int (wI 1)]) (rest := []) c_218_158 mi_199 rfl rfl (Nat.le_of_ble_eq_true rfl) (Nat.le_of_ble_eq_true rfl) (lo (c := 83) (kd := 112) (n := 0) rfl (by decide)) (q_199 p46 ?_)
                      show wi (d + 3) 218 161 [.ref 83, .int (wI x1), .int (wI x2), .int (wI x3), .int (wI x4), .int (wI x3), .retAddr 0] [.int (wI (σ 84 (3652 + 12 * x1 + 1)))] S σ τ Q
                      refine i1 c_218_161 ?_
                      refine i37 c_218_163 (rge_ K7 rfl) (by decide) rfl (fun hc => ?_) (fun hc => ?_)
                      · have t := iT t hc
                        have ha47 : (18 : Int) ≤ (σ 84 (3652 + 12 * x1 + 1)) := hc
                        refine i1 c_218_191 ?_
                        exact i91 c_218_192 (by decide) t
                      · have t := iF t hc
                        have ha47 : ¬ ((18 : Int) ≤ (σ 84 (3652 + 12 * x1 + 1))) := hc
                        refine i3 c_218_166 rfl (i1 c_218_167 ?_)
                        refine i37 c_218_168 r4 (by decide) rfl (fun _ => ?_) (fun hc => absurd (show (2 : Int) < x2 by omega) hc)
                        obtain ⟨p49, t⟩ := t
                        obtain ⟨p50, t⟩ := t
                        refine i5 c_218_193 rfl (i3 c_218_194 rfl ?_)
                        refine i80 (As := [.int (wI x1)]) (rest := []) c_218_195 mi_217 rfl rfl (Nat.le_of_ble_eq_true rfl) (Nat.le_of_ble_eq_true rfl) (lo (c := 83) (kd := 112) (n := 0) rfl (by decide)) (q_217 p49 p50 ?_)
                        show wi (d + 3) 218 198 [.ref 83, .int (wI x1), .int (wI x2), .int (wI x3), .int (wI x4), .int (wI x3), .retAddr 0] [] S (uc σ 84 (r_endW ((σ 84)) x1)) τ Q
                        obtain ⟨r51, t⟩ := t
                        obtain ⟨r52, t⟩ := t
                        obtain ⟨r53, t⟩ := t
                        refine i1 c_218_198 (i1 c_218_201 (i3 c_218_203 rfl (i12 c_218_204 (i10 c_218_205 (i6 (L' := [.ref 83, .int (wI x1), .int (wI x2), .int (wI x3), .int (wI x4), .int (wI x3), .int (wI (3652 + (12 * x1)))]) c_218_206 rfl (i5 c_218_208 rfl (i45 c_218_209 (lo (c := 83) (kd := 112) (n := 0) rfl (by decide)) (lro (c := 83) (k := 0) (j := 84) (by decide)) (i3 c_218_212 rfl (i1 c_218_214 (i10 c_218_215 (i3 c_218_216 rfl (i54 (σ1 := uc σ 84 (u1 (r_endW ((σ 84)) x1) ((3652 + (12 * x1)) + 3) x2)) c_218_217 (lo (c := 84) (kd := 0) (n := 112300) rfl (by decide)) (by decide) r51 (by decide) rfl r4 (wr_ (uc_s _ _ _) (uc_uc _ _ _ _)) (i5 c_218_218 rfl (i45 c_218_219 (lo (c := 83) (kd := 112) (n := 0) rfl (by decide)) (lro (c := 83) (k := 0) (j := 84) (by decide)) (i3 c_218_222 rfl (i1 c_218_224 (i10 c_218_225 (i3 c_218_226 rfl (i54 (σ1 := uc σ 84 (u1 (u1 (r_endW ((σ 84)) x1) ((3652 + (12 * x1)) + 3) x2) ((3652 + (12 * x1)) + 4) x3)) c_218_228 (lo (c := 84) (kd := 0) (n := 112300) rfl (by decide)) (by decide) r52 (by decide) rfl r13 (wr_ (uc_s _ _ _) (uc_uc _ _ _ _)) (i5 c_218_229 rfl (i45 c_218_230 (lo (c := 83) (kd := 112) (n := 0) rfl (by decide)) (lro (c := 83) (k := 0) (j := 84) (by decide)) (i3 c_218_233 rfl (i1 c_218_235 (i10 c_218_236 (i3 c_218_237 rfl (i54 (σ1 := uc σ 84 (u1 (u1 (u1 (r_endW ((σ 84)) x1) ((3652 + (12 * x1)) + 3) x2) ((3652 + (12 * x1)) + 4) x3) ((3652 + (12 * x1)) + 5) x4)) c_218_239 (lo (c := 84) (kd := 0) (n := 112300) rfl (by decide)) (by decide) r53 (by decide) rfl r21 (wr_ (uc_s _ _ _) (uc_uc _ _ _ _)) (i5 c_218_240 rfl (i45 c_218_241 (lo (c := 83) (kd := 112) (n := 0) rfl (by decide)) (lro (c := 83) (k := 0) (j := 84) (by decide)) (i3 c_218_244 rfl (i1 c_218_246 (i10 c_218_248 (i3 c_218_249 rfl (i1 c_218_250 ?_)))))))))))))))))))))))))))))))))
                        refine i37 c_218_251 r4 (by decide) rfl (fun _ => ?_) (fun hc => absurd (show ¬ (x2 = 2) by omega) hc)
                        obtain ⟨r55, t⟩ := t
                        refine i1 c_218_258 (i54 (σ1 := uc σ 84 (u1 (u1 (u1 (u1 (r_endW ((σ 84)) x1) ((3652 + (12 * x1)) + 3) x2) ((3652 + (12 * x1)) + 4) x3) ((3652 + (12 * x1)) + 5) x4) ((3652 + (12 * x1)) + 6) (-1))) c_218_259 (lo (c := 84) (kd := 0) (n := 112300) rfl (by decide)) (by decide) r55 (by decide) rfl (by decide) (wr_ (uc_s _ _ _) (uc_uc _ _ _ _)) (i1 c_218_260 ?_))
                        exact i91 c_218_261 (by decide) t
                  · have t := iF t hc
                    have ha22 : ¬ (1 ≤ x4 ∧ x4 ≤ 50) := hc
                    refine i1 c_218_148 ?_
                    exact i91 c_218_149 (by decide) t
                · have t := iT t (Decidable.not_not.mp hc)
                  have ha19 : x2 = 1 := Decidable.not_not.mp hc
                  obtain ⟨r56, t⟩ := t
                  refine i1 c_218_126 (i38 c_218_128 rfl ?_)
                  refine i81 (As := [.int (wI x4), .int (wI 1), .int (wI 6)]) (rest := []) c_218_142 mi_196 rfl rfl (Nat.le_of_ble_eq_true rfl) (Nat.le_of_ble_eq_true rfl) (q_196 r56 (by decide) (by decide) ?_)
                  show wi (d + 3) 218 145 [.ref 83, .int (wI x1), .int (wI x2), .int (wI x3), .int (wI x4), .int (wI x3), .retAddr 0] [.int (wI (if 1 ≤ x4 ∧ x4 ≤ 6 then 1 else 0))] S σ τ Q
                  refine i36f c_218_145 rfl (fun hc => ?_) (fun hc => ?_)
                  · have t := iT t hc
                    have ha57 : 1 ≤ x4 ∧ x4 ≤ 6 := hc
                    refine i3 c_218_150 rfl (i1 c_218_151 ?_)
                    refine i37 c_218_152 r4 (by decide) rfl (fun _ => ?_) (fun hc => absurd (show ¬ (x2 = 4) by omega) hc)
                    refine i3 c_218_166 rfl (i1 c_218_167 ?_)
                    refine i37 c_218_168 r4 (by decide) rfl (fun hc => absurd hc (show ¬ ((2 : Int) < x2) by omega)) (fun _ => ?_)
                    obtain ⟨p60, t⟩ := t
                    refine i5 c_218_171 rfl (i3 c_218_172 rfl (i3 c_218_174 rfl ?_))
                    refine i80 (As := [.int (wI x3), .int (wI x1)]) (rest := []) c_218_175 mi_215 rfl rfl (Nat.le_of_ble_eq_true rfl) (Nat.le_of_ble_eq_true rfl) (lo (c := 83) (kd := 112) (n := 0) rfl (by decide)) (q_215 r13 r1 p60 (fun v61 q62 q63 => ?_))
                    have t := t v61 q62 q63
                    show wi (d + 3) 218 178 [.ref 83, .int (wI x1), .int (wI x2), .int (wI x3), .int (wI x4), .int (wI x3), .retAddr 0] [.int (wI v61)] S σ τ Q
                    obtain ⟨p64, t⟩ := t
                    refine i3 c_218_178 rfl (i10 c_218_180 (i5 c_218_181 rfl (i3 c_218_182 rfl (i1 c_218_184 ?_))))
                    refine i80 (As := [.int (wI x3), .int (wI 0)]) (rest := [.int (wI (v61 + x4))]) c_218_185 mi_198 rfl rfl (Nat.le_of_ble_eq_true rfl) (Nat.le_of_ble_eq_true rfl) (lo (c := 83) (kd := 112) (n := 0) rfl (by decide)) (q_198 p64 ?_)
                    show wi (d + 3) 218 188 [.ref 83, .int (wI x1), .int (wI x2), .int (wI x3), .int (wI x4), .int (wI x3), .retAddr 0] [.int (wI (σ 84 (3300 + 16 * x3 + 0))), .int (wI (v61 + x4))] S σ τ Q
                    obtain ⟨r65, t⟩ := t
                    refine i37 c_218_188 r65 (rge_ K7 rfl) rfl (fun hc => ?_) (fun hc => ?_)
                    · have t := iT t hc
                      have ha66 : (v61 + x4) ≤ (σ 84 (3300 + 16 * x3 + 0)) := hc
                      obtain ⟨p67, t⟩ := t
                      obtain ⟨p68, t⟩ := t
                      refine i5 c_218_193 rfl (i3 c_218_194 rfl ?_)
                      refine i80 (As := [.int (wI x1)]) (rest := []) c_218_195 mi_217 rfl rfl (Nat.le_of_ble_eq_true rfl) (Nat.le_of_ble_eq_true rfl) (lo (c := 83) (kd := 112) (n := 0) rfl (by decide)) (q_217 p67 p68 ?_)
                      show wi (d + 3) 218 198 [.ref 83, .int (wI x1), .int (wI x2), .int (wI x3), .int (wI x4), .int (wI x3), .retAddr 0] [] S (uc σ 84 (r_endW ((σ 84)) x1)) τ Q
                      obtain ⟨r69, t⟩ := t
                      obtain ⟨r70, t⟩ := t
                      obtain ⟨r71, t⟩ := t
                      refine i1 c_218_198 (i1 c_218_201 (i3 c_218_203 rfl (i12 c_218_204 (i10 c_218_205 (i6 (L' := [.ref 83, .int (wI x1), .int (wI x2), .int (wI x3), .int (wI x4), .int (wI x3), .int (wI (3652 + (12 * x1)))]) c_218_206 rfl (i5 c_218_208 rfl (i45 c_218_209 (lo (c := 83) (kd := 112) (n := 0) rfl (by decide)) (lro (c := 83) (k := 0) (j := 84) (by decide)) (i3 c_218_212 rfl (i1 c_218_214 (i10 c_218_215 (i3 c_218_216 rfl (i54 (σ1 := uc σ 84 (u1 (r_endW ((σ 84)) x1) ((3652 + (12 * x1)) + 3) x2)) c_218_217 (lo (c := 84) (kd := 0) (n := 112300) rfl (by decide)) (by decide) r69 (by decide) rfl r4 (wr_ (uc_s _ _ _) (uc_uc _ _ _ _)) (i5 c_218_218 rfl (i45 c_218_219 (lo (c := 83) (kd := 112) (n := 0) rfl (by decide)) (lro (c := 83) (k := 0) (j := 84) (by decide)) (i3 c_218_222 rfl (i1 c_218_224 (i10 c_218_225 (i3 c_218_226 rfl (i54 (σ1 := uc σ 84 (u1 (u1 (r_endW ((σ 84)) x1) ((3652 + (12 * x1)) + 3) x2) ((3652 + (12 * x1)) + 4) x3)) c_218_228 (lo (c := 84) (kd := 0) (n := 112300) rfl (by decide)) (by decide) r70 (by decide) rfl r13 (wr_ (uc_s _ _ _) (uc_uc _ _ _ _)) (i5 c_218_229 rfl (i45 c_218_230 (lo (c := 83) (kd := 112) (n := 0) rfl (by decide)) (lro (c := 83) (k := 0) (j := 84) (by decide)) (i3 c_218_233 rfl (i1 c_218_235 (i10 c_218_236 (i3 c_218_237 rfl (i54 (σ1 := uc σ 84 (u1 (u1 (u1 (r_endW ((σ 84)) x1) ((3652 + (12 * x1)) + 3) x2) ((3652 + (12 * x1)) + 4) x3) ((3652 + (12 * x1)) + 5) x4)) c_218_239 (lo (c := 84) (kd := 0) (n := 112300) rfl (by decide)) (by decide) r71 (by decide) rfl r56 (wr_ (uc_s _ _ _) (uc_uc _ _ _ _)) (i5 c_218_240 rfl (i45 c_218_241 (lo (c := 83) (kd := 112) (n := 0) rfl (by decide)) (lro (c := 83) (k := 0) (j := 84) (by decide)) (i3 c_218_244 rfl (i1 c_218_246 (i10 c_218_248 (i3 c_218_249 rfl (i1 c_218_250 ?_)))))))))))))))))))))))))))))))))
                      refine i37 c_218_251 r4 (by decide) rfl (fun _ => ?_) (fun hc => absurd (show ¬ (x2 = 2) by omega) hc)
                      obtain ⟨r73, t⟩ := t
                      refine i1 c_218_258 (i54 (σ1 := uc σ 84 (u1 (u1 (u1 (u1 (r_endW ((σ 84)) x1) ((3652 + (12 * x1)) + 3) x2) ((3652 + (12 * x1)) + 4) x3) ((3652 + (12 * x1)) + 5) x4) ((3652 + (12 * x1)) + 6) (-1))) c_218_259 (lo (c := 84) (kd := 0) (n := 112300) rfl (by decide)) (by decide) r73 (by decide) rfl (by decide) (wr_ (uc_s _ _ _) (uc_uc _ _ _ _)) (i1 c_218_260 ?_))
                      exact i91 c_218_261 (by decide) t
                    · have t := iF t hc
                      have ha66 : ¬ ((v61 + x4) ≤ (σ 84 (3300 + 16 * x3 + 0))) := hc
                      refine i1 c_218_191 ?_
                      exact i91 c_218_192 (by decide) t
                  · have t := iF t hc
                    have ha57 : ¬ (1 ≤ x4 ∧ x4 ≤ 6) := hc
                    refine i1 c_218_148 ?_
                    exact i91 c_218_149 (by decide) t
            · have t := iF t hc
              have ha15 : ¬ (0 ≤ x3 ∧ x3 < σ 84 1) := hc
              refine i1 c_218_88 ?_
              exact i91 c_218_89 (by decide) t
          · have t := iT t (Decidable.not_not.mp hc)
            have ha11 : x2 = 2 := Decidable.not_not.mp hc
            obtain ⟨r74, t⟩ := t
            refine i5 c_218_50 rfl (i3 c_218_51 rfl ?_)
            refine i80 (As := [.int (wI x3)]) (rest := []) c_218_52 mi_203 rfl rfl (Nat.le_of_ble_eq_true rfl) (Nat.le_of_ble_eq_true rfl) (lo (c := 83) (kd := 112) (n := 0) rfl (by decide)) (q_203 r74 p2 ?_)
            show wi (d + 3) 218 55 [.ref 83, .int (wI x1), .int (wI x2), .int (wI x3), .int (wI x4), .retAddr 0, .retAddr 0] [.int (wI (if 0 ≤ x3 ∧ x3 < σ 84 4 then 1 else 0))] S σ τ Q
            refine i36e c_218_55 rfl (fun hc => ?_) (fun hc => ?_)
            · have t := iT t hc
              have ha75 : 0 ≤ x3 ∧ x3 < σ 84 4 := hc
              refine i3 c_218_58 rfl (i3 c_218_59 rfl ?_)
              refine i37 c_218_60 r74 r1 rfl (fun hc => ?_) (fun hc => ?_)
              · have t := iT t hc
                have ha76 : x3 = x1 := hc
                refine i1 c_218_73 ?_
                exact i91 c_218_74 (by decide) t
              · have t := iF t hc
                have ha76 : ¬ (x3 = x1) := hc
                obtain ⟨p77, t⟩ := t
                refine i5 c_218_63 rfl (i3 c_218_64 rfl (i1 c_218_65 ?_))
                refine i80 (As := [.int (wI x3), .int (wI 3)]) (rest := []) c_218_66 mi_199 rfl rfl (Nat.le_of_ble_eq_true rfl) (Nat.le_of_ble_eq_true rfl) (lo (c := 83) (kd := 112) (n := 0) rfl (by decide)) (q_199 p77 ?_)
                show wi (d + 3) 218 69 [.ref 83, .int (wI x1), .int (wI x2), .int (wI x3), .int (wI x4), .retAddr 0, .retAddr 0] [.int (wI (σ 84 (3652 + 12 * x3 + 3)))] S σ τ Q
                refine i1 c_218_69 ?_
                refine i37 c_218_70 (rge_ K7 rfl) (by decide) rfl (fun hc => ?_) (fun hc => ?_)
                · have t := iT t hc
                  have ha78 : (σ 84 (3652 + 12 * x3 + 3)) = 1 := hc
                  refine i3 c_218_75 rfl (i1 c_218_76 ?_)
                  refine i37 c_218_77 r4 (by decide) rfl (fun _ => ?_) (fun hc => absurd (show x2 = 2 by omega) hc)
                  refine i3 c_218_90 rfl (i1 c_218_91 ?_)
                  refine i37 c_218_92 r4 (by decide) rfl (fun hc => absurd (show x2 = 2 by omega) hc) (fun _ => ?_)
                  obtain ⟨p81, t⟩ := t
                  refine i5 c_218_95 rfl (i3 c_218_96 rfl (i1 c_218_97 ?_))
                  refine i80 (As := [.int (wI x3), .int (wI 4)]) (rest := []) c_218_98 mi_199 rfl rfl (Nat.le_of_ble_eq_true rfl) (Nat.le_of_ble_eq_true rfl) (lo (c := 83) (kd := 112) (n := 0) rfl (by decide)) (q_199 p81 ?_)
                  show wi (d + 3) 218 101 [.ref 83, .int (wI x1), .int (wI x2), .int (wI x3), .int (wI x4), .retAddr 0, .retAddr 0] [.int (wI (σ 84 (3652 + 12 * x3 + 4)))] S σ τ Q
                  obtain ⟨p82, t⟩ := t
                  refine i38 c_218_101 rfl (i6 (L' := [.ref 83, .int (wI x1), .int (wI x2), .int (wI x3), .int (wI x4), .int (wI (σ 84 (3652 + 12 * x3 + 4))), .retAddr 0]) c_218_105 rfl (i5 c_218_107 rfl (i3 c_218_108 rfl (i1 c_218_110 ?_))))
                  refine i80 (As := [.int (wI (σ 84 (3652 + 12 * x3 + 4))), .int (wI 5)]) (rest := []) c_218_111 mi_198 rfl rfl (Nat.le_of_ble_eq_true rfl) (Nat.le_of_ble_eq_true rfl) (lo (c := 83) (kd := 112) (n := 0) rfl (by decide)) (q_198 p82 ?_)
                  show wi (d + 3) 218 114 [.ref 83, .int (wI x1), .int (wI x2), .int (wI x3), .int (wI x4), .int (wI (σ 84 (3652 + 12 * x3 + 4))), .retAddr 0] [.int (wI (σ 84 (3300 + 16 * (σ 84 (3652 + 12 * x3 + 4)) + 5)))] S σ τ Q
                  refine i1 c_218_114 ?_
                  refine i37 c_218_115 (rge_ K7 rfl) (by decide) rfl (fun hc => ?_) (fun hc => ?_)
                  · have t := iT t hc
                    have ha83 : (σ 84 (3300 + 16 * (σ 84 (3652 + 12 * x3 + 4)) + 5)) = 1 := hc
                    refine i1 c_218_148 ?_
                    exact i91 c_218_149 (by decide) t
                  · have t := iF t hc
                    have ha83 : ¬ ((σ 84 (3300 + 16 * (σ 84 (3652 + 12 * x3 + 4)) + 5)) = 1) := hc
                    refine i3 c_218_118 rfl (i1 c_218_120 (i3 c_218_121 rfl (i1 c_218_122 ?_)))
                    refine i37 c_218_123 r4 (by decide) rfl (fun _ => ?_) (fun hc => absurd (show ¬ (x2 = 1) by omega) hc)
                    refine i3 c_218_131 rfl (i1 c_218_132 ?_)
                    refine i37 c_218_133 r4 (by decide) rfl (fun hc => absurd (show x2 = 2 by omega) hc) (fun _ => ?_)
                    obtain ⟨r86, t⟩ := t
                    refine i1 c_218_136 (i38 c_218_137 rfl ?_)
                    refine i81 (As := [.int (wI x4), .int (wI 1), .int (wI 2)]) (rest := []) c_218_142 mi_196 rfl rfl (Nat.le_of_ble_eq_true rfl) (Nat.le_of_ble_eq_true rfl) (q_196 r86 (by decide) (by decide) ?_)
                    show wi (d + 3) 218 145 [.ref 83, .int (wI x1), .int (wI x2), .int (wI x3), .int (wI x4), .int (wI (σ 84 (3652 + 12 * x3 + 4))), .retAddr 0] [.int (wI (if 1 ≤ x4 ∧ x4 ≤ 2 then 1 else 0))] S σ τ Q
                    refine i36f c_218_145 rfl (fun hc => ?_) (fun hc => ?_)
                    · have t := iT t hc
                      have ha87 : 1 ≤ x4 ∧ x4 ≤ 2 := hc
                      refine i3 c_218_150 rfl (i1 c_218_151 ?_)
                      refine i37 c_218_152 r4 (by decide) rfl (fun _ => ?_) (fun hc => absurd (show ¬ (x2 = 4) by omega) hc)
                      refine i3 c_218_166 rfl (i1 c_218_167 ?_)
                      refine i37 c_218_168 r4 (by decide) rfl (fun hc => absurd hc (show ¬ ((2 : Int) < x2) by omega)) (fun _ => ?_)
                      obtain ⟨p90, t⟩ := t
                      refine i5 c_218_171 rfl (i3 c_218_172 rfl (i3 c_218_174 rfl ?_))
                      refine i80 (As := [.int (wI (σ 84 (3652 + 12 * x3 + 4))), .int (wI x1)]) (rest := []) c_218_175 mi_215 rfl rfl (Nat.le_of_ble_eq_true rfl) (Nat.le_of_ble_eq_true rfl) (lo (c := 83) (kd := 112) (n := 0) rfl (by decide)) (q_215 (rge_ K7 rfl) r1 p90 (fun v91 q92 q93 => ?_))
                      have t := t v91 q92 q93
                      show wi (d + 3) 218 178 [.ref 83, .int (wI x1), .int (wI x2), .int (wI x3), .int (wI x4), .int (wI (σ 84 (3652 + 12 * x3 + 4))), .retAddr 0] [.int (wI v91)] S σ τ Q
                      obtain ⟨p94, t⟩ := t
                      refine i3 c_218_178 rfl (i10 c_218_180 (i5 c_218_181 rfl (i3 c_218_182 rfl (i1 c_218_184 ?_))))
                      refine i80 (As := [.int (wI (σ 84 (3652 + 12 * x3 + 4))), .int (wI 0)]) (rest := [.int (wI (v91 + x4))]) c_218_185 mi_198 rfl rfl (Nat.le_of_ble_eq_true rfl) (Nat.le_of_ble_eq_true rfl) (lo (c := 83) (kd := 112) (n := 0) rfl (by decide)) (q_198 p94 ?_)
                      show wi (d + 3) 218 188 [.ref 83, .int (wI x1), .int (wI x2), .int (wI x3), .int (wI x4), .int (wI (σ 84 (3652 + 12 * x3 + 4))), .retAddr 0] [.int (wI (σ 84 (3300 + 16 * (σ 84 (3652 + 12 * x3 + 4)) + 0))), .int (wI (v91 + x4))] S σ τ Q
                      obtain ⟨r95, t⟩ := t
                      refine i37 c_218_188 r95 (rge_ K7 rfl) rfl (fun hc => ?_) (fun hc => ?_)
                      · have t := iT t hc
                        have ha96 : (v91 + x4) ≤ (σ 84 (3300 + 16 * (σ 84 (3652 + 12 * x3 + 4)) + 0)) := hc
                        obtain ⟨p97, t⟩ := t
                        obtain ⟨p98, t⟩ := t
                        refine i5 c_218_193 rfl (i3 c_218_194 rfl ?_)
                        refine i80 (As := [.int (wI x1)]) (rest := []) c_218_195 mi_217 rfl rfl (Nat.le_of_ble_eq_true rfl) (Nat.le_of_ble_eq_true rfl) (lo (c := 83) (kd := 112) (n := 0) rfl (by decide)) (q_217 p97 p98 ?_)
                        show wi (d + 3) 218 198 [.ref 83, .int (wI x1), .int (wI x2), .int (wI x3), .int (wI x4), .int (wI (σ 84 (3652 + 12 * x3 + 4))), .retAddr 0] [] S (uc σ 84 (r_endW ((σ 84)) x1)) τ Q
                        obtain ⟨r99, t⟩ := t
                        obtain ⟨r100, t⟩ := t
                        obtain ⟨r101, t⟩ := t
                        refine i1 c_218_198 (i1 c_218_201 (i3 c_218_203 rfl (i12 c_218_204 (i10 c_218_205 (i6 (L' := [.ref 83, .int (wI x1), .int (wI x2), .int (wI x3), .int (wI x4), .int (wI (σ 84 (3652 + 12 * x3 + 4))), .int (wI (3652 + (12 * x1)))]) c_218_206 rfl (i5 c_218_208 rfl (i45 c_218_209 (lo (c := 83) (kd := 112) (n := 0) rfl (by decide)) (lro (c := 83) (k := 0) (j := 84) (by decide)) (i3 c_218_212 rfl (i1 c_218_214 (i10 c_218_215 (i3 c_218_216 rfl (i54 (σ1 := uc σ 84 (u1 (r_endW ((σ 84)) x1) ((3652 + (12 * x1)) + 3) x2)) c_218_217 (lo (c := 84) (kd := 0) (n := 112300) rfl (by decide)) (by decide) r99 (by decide) rfl r4 (wr_ (uc_s _ _ _) (uc_uc _ _ _ _)) (i5 c_218_218 rfl (i45 c_218_219 (lo (c := 83) (kd := 112) (n := 0) rfl (by decide)) (lro (c := 83) (k := 0) (j := 84) (by decide)) (i3 c_218_222 rfl (i1 c_218_224 (i10 c_218_225 (i3 c_218_226 rfl (i54 (σ1 := uc σ 84 (u1 (u1 (r_endW ((σ 84)) x1) ((3652 + (12 * x1)) + 3) x2) ((3652 + (12 * x1)) + 4) (σ 84 (3652 + 12 * x3 + 4)))) c_218_228 (lo (c := 84) (kd := 0) (n := 112300) rfl (by decide)) (by decide) r100 (by decide) rfl (rge_ K7 rfl) (wr_ (uc_s _ _ _) (uc_uc _ _ _ _)) (i5 c_218_229 rfl (i45 c_218_230 (lo (c := 83) (kd := 112) (n := 0) rfl (by decide)) (lro (c := 83) (k := 0) (j := 84) (by decide)) (i3 c_218_233 rfl (i1 c_218_235 (i10 c_218_236 (i3 c_218_237 rfl (i54 (σ1 := uc σ 84 (u1 (u1 (u1 (r_endW ((σ 84)) x1) ((3652 + (12 * x1)) + 3) x2) ((3652 + (12 * x1)) + 4) (σ 84 (3652 + 12 * x3 + 4))) ((3652 + (12 * x1)) + 5) x4)) c_218_239 (lo (c := 84) (kd := 0) (n := 112300) rfl (by decide)) (by decide) r101 (by decide) rfl r86 (wr_ (uc_s _ _ _) (uc_uc _ _ _ _)) (i5 c_218_240 rfl (i45 c_218_241 (lo (c := 83) (kd := 112) (n := 0) rfl (by decide)) (lro (c := 83) (k := 0) (j := 84) (by decide)) (i3 c_218_244 rfl (i1 c_218_246 (i10 c_218_248 (i3 c_218_249 rfl (i1 c_218_250 ?_)))))))))))))))))))))))))))))))))
                        refine i37 c_218_251 r4 (by decide) rfl (fun hc => absurd (show x2 = 2 by omega) hc) (fun _ => ?_)
                        obtain ⟨r103, t⟩ := t
                        refine i3 c_218_254 rfl (i38 c_218_255 rfl (i54 (σ1 := uc σ 84 (u1 (u1 (u1 (u1 (r_endW ((σ 84)) x1) ((3652 + (12 * x1)) + 3) x2) ((3652 + (12 * x1)) + 4) (σ 84 (3652 + 12 * x3 + 4))) ((3652 + (12 * x1)) + 5) x4) ((3652 + (12 * x1)) + 6) x3)) c_218_259 (lo (c := 84) (kd := 0) (n := 112300) rfl (by decide)) (by decide) r103 (by decide) rfl r74 (wr_ (uc_s _ _ _) (uc_uc _ _ _ _)) (i1 c_218_260 ?_)))
                        exact i91 c_218_261 (by decide) t
                      · have t := iF t hc
                        have ha96 : ¬ ((v91 + x4) ≤ (σ 84 (3300 + 16 * (σ 84 (3652 + 12 * x3 + 4)) + 0))) := hc
                        refine i1 c_218_191 ?_
                        exact i91 c_218_192 (by decide) t
                    · have t := iF t hc
                      have ha87 : ¬ (1 ≤ x4 ∧ x4 ≤ 2) := hc
                      refine i1 c_218_148 ?_
                      exact i91 c_218_149 (by decide) t
                · have t := iF t hc
                  have ha78 : ¬ ((σ 84 (3652 + 12 * x3 + 3)) = 1) := hc
                  refine i1 c_218_73 ?_
                  exact i91 c_218_74 (by decide) t
            · have t := iF t hc
              have ha75 : ¬ (0 ≤ x3 ∧ x3 < σ 84 4) := hc
              refine i1 c_218_73 ?_
              exact i91 c_218_74 (by decide) t
        · have t := iT t (Decidable.not_not.mp hc)
          have ha10 : x2 = 0 := Decidable.not_not.mp hc
          obtain ⟨p104, t⟩ := t
          obtain ⟨p105, t⟩ := t
          refine i5 c_218_38 rfl (i3 c_218_39 rfl ?_)
          refine i80 (As := [.int (wI x1)]) (rest := []) c_218_40 mi_217 rfl rfl (Nat.le_of_ble_eq_true rfl) (Nat.le_of_ble_eq_true rfl) (lo (c := 83) (kd := 112) (n := 0) rfl (by decide)) (q_217 p104 p105 ?_)
          show wi (d + 3) 218 43 [.ref 83, .int (wI x1), .int (wI x2), .int (wI x3), .int (wI x4), .retAddr 0, .retAddr 0] [] S (uc σ 84 (r_endW ((σ 84)) x1)) τ Q
          refine i1 c_218_43 ?_
          exact i91 c_218_44 (by decide) t
      · have t := iT t (Decidable.not_not.mp hc)
        have ha9 : (σ 84 (3460 + 8 * (σ 84 (3652 + 12 * x1 + 0)) + 3)) = 1 := Decidable.not_not.mp hc
        refine i1 c_218_32 ?_
        exact i91 c_218_33 (by decide) t
    · have t := iF t hc
      have ha5 : ¬ (0 ≤ x2 ∧ x2 ≤ 4) := hc
      refine i1 c_218_32 ?_
      exact i91 c_218_33 (by decide) t
  · have t := iF t hc
    have ha3 : ¬ (0 ≤ x1 ∧ x1 < σ 84 4) := hc
    refine i1 c_218_32 ?_
    exact i91 c_218_33 (by decide) t
theorem q_218 {d : Nat} {S : zS} {σ τ : zI} {Q : zQ} {person : Int} {sort : Int} {where_ : Int} {n : Int} (p0 : rg person) (p1 : rg sort) (p2 : rg where_) (p3 : rg n) (p4 : Jv (σ 84)) (t : Q (some (.int (wI (if k_work (σ 84) person sort where_ n then 1 else 0)))) S (uc σ 84 (r_work (σ 84) person sort where_ n)) τ) : wc (d + 3) 218 [.ref 83, .int (wI person), .int (wI sort), .int (wI where_), .int (wI n)] S σ τ Q := by
  have hC : (0 ≤ σ 84 1 ∧ σ 84 1 ≤ 8) ∧ (0 ≤ σ 84 3 ∧ σ 84 3 ≤ 24) ∧ (0 ≤ σ 84 4 ∧ σ 84 4 ≤ 60) := ⟨(jC p4).2.1, (jC p4).2.2.2.1, (jC p4).2.2.2.2.1⟩
  have q1 : 0 ≤ person ∧ person < σ 84 4 → 0 ≤ σ 84 (3652 + 12 * person + 0) ∧ σ 84 (3652 + 12 * person + 0) < 24 := fun h => by
    have := jP p4 person h.1 h.2
    omega
  have q2 : 0 ≤ where_ ∧ where_ < σ 84 4 ∧ σ 84 (3652 + 12 * where_ + 3) = 1 → 0 ≤ σ 84 (3652 + 12 * where_ + 4) ∧ σ 84 (3652 + 12 * where_ + 4) < 8 := fun h => by
    have := jP p4 where_ h.1 h.2.1
    omega
  refine wc_of mi_218 rfl (u_218_0 ⟨p0, by omega, ?_⟩)
  unfold r_work at t
  by_cases b1 : 0 ≤ person ∧ person < σ 84 4
  · have q1 := q1 b1
    rw [if_pos b1]
    refine ⟨p1, ?_⟩
    by_cases hk : k_work (σ 84) person sort where_ n
    · rw [if_pos hk, if_pos hk] at t
      unfold r_wm at t
      obtain ⟨-, k1, k2, k3⟩ := hk
      rw [if_pos k1]
      refine ⟨by omega, by omega, ?_⟩
      rw [if_neg k2]
      rcases k3 with k3 | k3 | k3 | k3
      · rw [if_pos k3] at t
        rw [if_pos k3]
        exact ⟨by omega, by omega, t⟩
      · obtain ⟨s2, k4, k5, k6, k7, k8, k9⟩ := k3
        rw [if_neg (by omega), if_pos s2, if_pos s2] at t
        have q2 := q2 ⟨k4.1, k4.2, k6⟩
        rw [if_neg (by omega), if_pos s2]
        refine ⟨p2, ?_⟩
        rw [if_pos k4, if_neg k5]
        refine ⟨by omega, ?_⟩
        rw [if_pos k6]
        refine ⟨by omega, by omega, ?_⟩
        rw [if_neg k7]
        refine ⟨p3, ?_⟩
        rw [if_pos k8]
        refine ⟨p4, ?_⟩
        intro v hv hb
        subst hv
        refine ⟨by omega, by omega, ?_⟩
        rw [if_pos k9]
        exact ⟨by omega, by omega, by omega, by omega, by omega, by omega, t⟩
      · obtain ⟨s1, k4, k5, k6, k7⟩ := k3
        rw [if_neg (by omega), if_neg (by omega), if_neg (by omega)] at t
        rw [if_neg (by omega), if_neg (by omega)]
        refine ⟨p2, by omega, ?_⟩
        rw [if_pos k4]
        refine ⟨by omega, ?_⟩
        rw [if_neg k5, if_pos s1]
        refine ⟨p3, ?_⟩
        rw [if_pos k6]
        refine ⟨p4, ?_⟩
        intro v hv hb
        subst hv
        refine ⟨by omega, by omega, ?_⟩
        rw [if_pos k7]
        exact ⟨by omega, by omega, by omega, by omega, by omega, by omega, t⟩
      · obtain ⟨s3, k4, k5, k6, k7⟩ := k3
        rw [if_neg (by omega), if_neg (by omega), if_neg (by omega)] at t
        rw [if_neg (by omega), if_neg (by omega)]
        refine ⟨p2, by omega, ?_⟩
        rw [if_pos k4]
        refine ⟨by omega, ?_⟩
        rw [if_neg k5, if_neg (by omega)]
        refine ⟨p3, ?_⟩
        rw [if_pos k6]
        by_cases s4 : sort = 4
        · rw [if_pos s4]
          refine ⟨by omega, ?_⟩
          rw [if_neg (by have := k7 s4; omega)]
          exact ⟨by omega, by omega, by omega, by omega, by omega, by omega, t⟩
        · rw [if_neg s4, if_pos (by omega)]
          exact ⟨by omega, by omega, by omega, by omega, by omega, by omega, t⟩
    · rw [if_neg hk, if_neg hk, uc_id] at t
      generalize hKW : k_work (σ 84) person sort where_ n = KW at hk
      repeat' (first | exact t | (intro v hv hb; subst hv) | refine ⟨by assumption, ?_⟩ | refine ⟨by omega, ?_⟩ | refine ifI (fun _ => ?_) (fun _ => ?_) | (exfalso; exact hk (hKW ▸ (show k_work (σ 84) person sort where_ n by simp only [k_work]; omega))))
  · rw [if_neg b1]
    have hk : ¬ k_work (σ 84) person sort where_ n := fun h => b1 h.1
    rw [if_neg hk, if_neg hk, uc_id] at t
    exact t
def r_put (a : Int → Int) (text mill from_ to : Int) : Int → Int := u1 (u1 (u1 (u1 (u1 (u1 a (5012 + 8 * a 6) text) (5012 + 8 * a 6 + 1) mill) (5012 + 8 * a 6 + 2) from_) (5012 + 8 * a 6 + 3) to) (5012 + 8 * a 6 + 4) (a 0)) 6 (a 6 + 1)
abbrev k_force (a : Int → Int) (text mill from_ to : Int) : Prop := (0 ≤ text ∧ text ≤ a 5 - 1) ∧ (mill = -1 ∨ 0 ≤ mill ∧ mill < a 1) ∧ (a 0 ≤ from_ ∧ from_ ≤ 399) ∧ (from_ ≤ to ∧ to ≤ 399) ∧ a 6 ≠ 60
def r_force (a : Int → Int) (text mill from_ to : Int) : Int → Int := if k_force a text mill from_ to then r_put a text mill from_ to else a
def v_force (a : Int → Int) (text mill from_ to : Int) : Int := if k_force a text mill from_ to then a 6 else -1
-- method 220: MillTownModel.putForce(IIII)V
theorem c_220_0 : pg_cd 220 0 = (1, 3, 0, 0, 5012) := by decide +kernel
theorem c_220_3 : pg_cd 220 3 = (1, 2, 0, 0, 8) := by decide +kernel
theorem c_220_5 : pg_cd 220 5 = (5, 1, 0, 0, 0) := by decide +kernel
theorem c_220_6 : pg_cd 220 6 = (45, 12, 8, 0, 0) := by decide +kernel
theorem c_220_9 : pg_cd 220 9 = (1, 2, 0, 0, 6) := by decide +kernel
theorem c_220_11 : pg_cd 220 11 = (50, 1, 0, 0, 0) := by decide +kernel
theorem c_220_12 : pg_cd 220 12 = (12, 1, 0, 0, 0) := by decide +kernel
theorem c_220_13 : pg_cd 220 13 = (10, 1, 0, 0, 0) := by decide +kernel
theorem c_220_14 : pg_cd 220 14 = (6, 2, 0, 5, 0) := by decide +kernel
theorem c_220_16 : pg_cd 220 16 = (5, 1, 0, 0, 0) := by decide +kernel
theorem c_220_17 : pg_cd 220 17 = (45, 12, 8, 0, 0) := by decide +kernel
theorem c_220_20 : pg_cd 220 20 = (3, 2, 0, 5, 0) := by decide +kernel
theorem c_220_22 : pg_cd 220 22 = (3, 1, 0, 1, 0) := by decide +kernel
theorem c_220_23 : pg_cd 220 23 = (54, 1, 0, 0, 0) := by decide +kernel
theorem c_220_24 : pg_cd 220 24 = (5, 1, 0, 0, 0) := by decide +kernel
theorem c_220_25 : pg_cd 220 25 = (45, 12, 8, 0, 0) := by decide +kernel
theorem c_220_28 : pg_cd 220 28 = (3, 2, 0, 5, 0) := by decide +kernel
theorem c_220_30 : pg_cd 220 30 = (1, 1, 0, 0, 1) := by decide +kernel
theorem c_220_31 : pg_cd 220 31 = (10, 1, 0, 0, 0) := by decide +kernel
theorem c_220_32 : pg_cd 220 32 = (3, 1, 0, 2, 0) := by decide +kernel
theorem c_220_33 : pg_cd 220 33 = (54, 1, 0, 0, 0) := by decide +kernel
theorem c_220_34 : pg_cd 220 34 = (5, 1, 0, 0, 0) := by decide +kernel
theorem c_220_35 : pg_cd 220 35 = (45, 12, 8, 0, 0) := by decide +kernel
theorem c_220_38 : pg_cd 220 38 = (3, 2, 0, 5, 0) := by decide +kernel
theorem c_220_40 : pg_cd 220 40 = (1, 1, 0, 0, 2) := by decide +kernel
theorem c_220_41 : pg_cd 220 41 = (10, 1, 0, 0, 0) := by decide +kernel
theorem c_220_42 : pg_cd 220 42 = (3, 1, 0, 3, 0) := by decide +kernel
theorem c_220_43 : pg_cd 220 43 = (54, 1, 0, 0, 0) := by decide +kernel
theorem c_220_44 : pg_cd 220 44 = (5, 1, 0, 0, 0) := by decide +kernel
theorem c_220_45 : pg_cd 220 45 = (45, 12, 8, 0, 0) := by decide +kernel
theorem c_220_48 : pg_cd 220 48 = (3, 2, 0, 5, 0) := by decide +kernel
theorem c_220_50 : pg_cd 220 50 = (1, 1, 0, 0, 3) := by decide +kernel
theorem c_220_51 : pg_cd 220 51 = (10, 1, 0, 0, 0) := by decide +kernel
theorem c_220_52 : pg_cd 220 52 = (3, 2, 0, 4, 0) := by decide +kernel
theorem c_220_54 : pg_cd 220 54 = (54, 1, 0, 0, 0) := by decide +kernel
theorem c_220_55 : pg_cd 220 55 = (5, 1, 0, 0, 0) := by decide +kernel
theorem c_220_56 : pg_cd 220 56 = (45, 12, 8, 0, 0) := by decide +kernel
theorem c_220_59 : pg_cd 220 59 = (3, 2, 0, 5, 0) := by decide +kernel
theorem c_220_61 : pg_cd 220 61 = (1, 1, 0, 0, 4) := by decide +kernel
theorem c_220_62 : pg_cd 220 62 = (10, 1, 0, 0, 0) := by decide +kernel
theorem c_220_63 : pg_cd 220 63 = (5, 1, 0, 0, 0) := by decide +kernel
theorem c_220_64 : pg_cd 220 64 = (45, 12, 8, 0, 0) := by decide +kernel
theorem c_220_67 : pg_cd 220 67 = (1, 1, 0, 0, 0) := by decide +kernel
theorem c_220_68 : pg_cd 220 68 = (50, 1, 0, 0, 0) := by decide +kernel
theorem c_220_69 : pg_cd 220 69 = (54, 1, 0, 0, 0) := by decide +kernel
theorem c_220_70 : pg_cd 220 70 = (5, 1, 0, 0, 0) := by decide +kernel
theorem c_220_71 : pg_cd 220 71 = (45, 12, 8, 0, 0) := by decide +kernel
theorem c_220_74 : pg_cd 220 74 = (1, 2, 0, 0, 6) := by decide +kernel
theorem c_220_76 : pg_cd 220 76 = (34, 1, 0, 0, 0) := by decide +kernel
theorem c_220_77 : pg_cd 220 77 = (50, 1, 0, 0, 0) := by decide +kernel
theorem c_220_78 : pg_cd 220 78 = (1, 1, 0, 0, 1) := by decide +kernel
theorem c_220_79 : pg_cd 220 79 = (10, 1, 0, 0, 0) := by decide +kernel
theorem c_220_80 : pg_cd 220 80 = (54, 1, 0, 0, 0) := by decide +kernel
theorem c_220_81 : pg_cd 220 81 = (94, 0, 0, 0, 0) := by decide +kernel
theorem mi_220 : pg_mc 220 = 12 ∧ pg_na 220 = 4 ∧ pg_mx 220 = 6 := by decide +kernel
set_option maxRecDepth 20000 in
theorem u_220_0 {d : Nat} {S : zS} {σ τ : zI} {Q : zQ} {x1 : Int} {x2 : Int} {x3 : Int} {x4 : Int} (t : (0 ≤ 5012 + (8 * (σ 84 6)) ∧ 5012 + (8 * (σ 84 6)) < 112300) ∧ ∃ w3 : Int, wI w3 = wI x1 ∧ rg w3 ∧ (0 ≤ (5012 + (8 * (σ 84 6))) + 1 ∧ (5012 + (8 * (σ 84 6))) + 1 < 112300) ∧ ∃ w7 : Int, wI w7 = wI x2 ∧ rg w7 ∧ (0 ≤ (5012 + (8 * (σ 84 6))) + 2 ∧ (5012 + (8 * (σ 84 6))) + 2 < 112300) ∧ ∃ w11 : Int, wI w11 = wI x3 ∧ rg w11 ∧ (0 ≤ (5012 + (8 * (σ 84 6))) + 3 ∧ (5012 + (8 * (σ 84 6))) + 3 < 112300) ∧ ∃ w15 : Int, wI w15 = wI x4 ∧ rg w15 ∧ ((0 : Int) ≠ ((5012 + (8 * (σ 84 6))) + 3)) ∧ ((0 : Int) ≠ ((5012 + (8 * (σ 84 6))) + 2)) ∧ ((0 : Int) ≠ ((5012 + (8 * (σ 84 6))) + 1)) ∧ ((0 : Int) ≠ (5012 + (8 * (σ 84 6)))) ∧ (0 ≤ (5012 + (8 * (σ 84 6))) + 4 ∧ (5012 + (8 * (σ 84 6))) + 4 < 112300) ∧ ((6 : Int) ≠ ((5012 + (8 * (σ 84 6))) + 4)) ∧ ((6 : Int) ≠ ((5012 + (8 * (σ 84 6))) + 3)) ∧ ((6 : Int) ≠ ((5012 + (8 * (σ 84 6))) + 2)) ∧ ((6 : Int) ≠ ((5012 + (8 * (σ 84 6))) + 1)) ∧ ((6 : Int) ≠ (5012 + (8 * (σ 84 6)))) ∧ ∃ w30 : Int, wI w30 = wI ((σ 84 6) + 1) ∧ rg w30 ∧ Q none S (uc σ 84 (u1 (u1 (u1 (u1 (u1 (u1 (σ 84) (5012 + (8 * (σ 84 6))) w3) ((5012 + (8 * (σ 84 6))) + 1) w7) ((5012 + (8 * (σ 84 6))) + 2) w11) ((5012 + (8 * (σ 84 6))) + 3) w15) ((5012 + (8 * (σ 84 6))) + 4) (σ 84 0)) 6 w30)) τ) : wi (d + 0) 220 0 [.ref 83, .int (wI x1), .int (wI x2), .int (wI x3), .int (wI x4), .retAddr 0] [] S σ τ Q := by
  refine i1 c_220_0 (i1 c_220_3 (i5 c_220_5 rfl (i45 c_220_6 (lo (c := 83) (kd := 112) (n := 0) rfl (by decide)) (lro (c := 83) (k := 0) (j := 84) (by decide)) (i1 c_220_9 (wi_ok (fun K1 => ?_))))))
  obtain ⟨r2, t⟩ := t
  obtain ⟨w3, e4, r5, t⟩ := t
  obtain ⟨r6, t⟩ := t
  obtain ⟨w7, e8, r9, t⟩ := t
  obtain ⟨r10, t⟩ := t
  obtain ⟨w11, e12, r13, t⟩ := t
  obtain ⟨r14, t⟩ := t
  obtain ⟨w15, e16, r17, t⟩ := t
  obtain ⟨n18, t⟩ := t
  obtain ⟨n19, t⟩ := t
  obtain ⟨n20, t⟩ := t
  obtain ⟨n21, t⟩ := t
  refine i50 (v := σ 84 6) c_220_11 (lo (c := 84) (kd := 0) (n := 112300) rfl (by decide)) (by decide) (by decide) rfl (i12 c_220_12 (i10 c_220_13 (i6 (L' := [.ref 83, .int (wI x1), .int (wI x2), .int (wI x3), .int (wI x4), .int (wI (5012 + (8 * (σ 84 6))))]) c_220_14 rfl (i5 c_220_16 rfl (i45 c_220_17 (lo (c := 83) (kd := 112) (n := 0) rfl (by decide)) (lro (c := 83) (k := 0) (j := 84) (by decide)) (i3 c_220_20 rfl (i3 c_220_22 rfl (i54 (σ1 := uc σ 84 (u1 (σ 84) (5012 + (8 * (σ 84 6))) w3)) c_220_23 (lo (c := 84) (kd := 0) (n := 112300) rfl (by decide)) (by decide) r2 (by decide) e4 r5 (wr_ rfl rfl) (i5 c_220_24 rfl (i45 c_220_25 (lo (c := 83) (kd := 112) (n := 0) rfl (by decide)) (lro (c := 83) (k := 0) (j := 84) (by decide)) (i3 c_220_28 rfl (i1 c_220_30 (i10 c_220_31 (i3 c_220_32 rfl (i54 (σ1 := uc σ 84 (u1 (u1 (σ 84) (5012 + (8 * (σ 84 6))) w3) ((5012 + (8 * (σ 84 6))) + 1) w7)) c_220_33 (lo (c := 84) (kd := 0) (n := 112300) rfl (by decide)) (by decide) r6 (by decide) e8 r9 (wr_ (uc_s _ _ _) (uc_uc _ _ _ _)) (i5 c_220_34 rfl (i45 c_220_35 (lo (c := 83) (kd := 112) (n := 0) rfl (by decide)) (lro (c := 83) (k := 0) (j := 84) (by decide)) (i3 c_220_38 rfl (i1 c_220_40 (i10 c_220_41 (i3 c_220_42 rfl (i54 (σ1 := uc σ 84 (u1 (u1 (u1 (σ 84) (5012 + (8 * (σ 84 6))) w3) ((5012 + (8 * (σ 84 6))) + 1) w7) ((5012 + (8 * (σ 84 6))) + 2) w11)) c_220_43 (lo (c := 84) (kd := 0) (n := 112300) rfl (by decide)) (by decide) r10 (by decide) e12 r13 (wr_ (uc_s _ _ _) (uc_uc _ _ _ _)) (i5 c_220_44 rfl (i45 c_220_45 (lo (c := 83) (kd := 112) (n := 0) rfl (by decide)) (lro (c := 83) (k := 0) (j := 84) (by decide)) (i3 c_220_48 rfl (i1 c_220_50 (i10 c_220_51 (i3 c_220_52 rfl (i54 (σ1 := uc σ 84 (u1 (u1 (u1 (u1 (σ 84) (5012 + (8 * (σ 84 6))) w3) ((5012 + (8 * (σ 84 6))) + 1) w7) ((5012 + (8 * (σ 84 6))) + 2) w11) ((5012 + (8 * (σ 84 6))) + 3) w15)) c_220_54 (lo (c := 84) (kd := 0) (n := 112300) rfl (by decide)) (by decide) r14 (by decide) e16 r17 (wr_ (uc_s _ _ _) (uc_uc _ _ _ _)) (i5 c_220_55 rfl (i45 c_220_56 (lo (c := 83) (kd := 112) (n := 0) rfl (by decide)) (lro (c := 83) (k := 0) (j := 84) (by decide)) (i3 c_220_59 rfl (i1 c_220_61 (i10 c_220_62 (i5 c_220_63 rfl (i45 c_220_64 (lo (c := 83) (kd := 112) (n := 0) rfl (by decide)) (lro (c := 83) (k := 0) (j := 84) (by decide)) (i1 c_220_67 (wi_ok (fun K22 => ?_)))))))))))))))))))))))))))))))))))))))
  obtain ⟨r23, t⟩ := t
  obtain ⟨n24, t⟩ := t
  obtain ⟨n25, t⟩ := t
  obtain ⟨n26, t⟩ := t
  obtain ⟨n27, t⟩ := t
  obtain ⟨n28, t⟩ := t
  refine i50 (v := σ 84 0) c_220_68 (lo (c := 84) (kd := 0) (n := 112300) rfl (by decide)) (by decide) (by decide) (((((congrFun (uc_s _ _ _) _).trans (u1_n n18)).trans (u1_n n19)).trans (u1_n n20)).trans (u1_n n21)) (i54 (σ1 := uc σ 84 (u1 (u1 (u1 (u1 (u1 (σ 84) (5012 + (8 * (σ 84 6))) w3) ((5012 + (8 * (σ 84 6))) + 1) w7) ((5012 + (8 * (σ 84 6))) + 2) w11) ((5012 + (8 * (σ 84 6))) + 3) w15) ((5012 + (8 * (σ 84 6))) + 4) (σ 84 0))) c_220_69 (lo (c := 84) (kd := 0) (n := 112300) rfl (by decide)) (by decide) r23 (by decide) rfl (rge_ K22 (((((congrFun (uc_s _ _ _) _).trans (u1_n n18)).trans (u1_n n19)).trans (u1_n n20)).trans (u1_n n21))) (wr_ (uc_s _ _ _) (uc_uc _ _ _ _)) (i5 c_220_70 rfl (i45 c_220_71 (lo (c := 83) (kd := 112) (n := 0) rfl (by decide)) (lro (c := 83) (k := 0) (j := 84) (by decide)) (i1 c_220_74 (i34a c_220_76 (wi_ok (fun K29 => ?_)))))))
  obtain ⟨w30, e31, r32, t⟩ := t
  refine i50 (v := σ 84 6) c_220_77 (lo (c := 84) (kd := 0) (n := 112300) rfl (by decide)) (by decide) (by decide) ((((((congrFun (uc_s _ _ _) _).trans (u1_n n24)).trans (u1_n n25)).trans (u1_n n26)).trans (u1_n n27)).trans (u1_n n28)) (i1 c_220_78 (i10 c_220_79 (i54 (σ1 := uc σ 84 (u1 (u1 (u1 (u1 (u1 (u1 (σ 84) (5012 + (8 * (σ 84 6))) w3) ((5012 + (8 * (σ 84 6))) + 1) w7) ((5012 + (8 * (σ 84 6))) + 2) w11) ((5012 + (8 * (σ 84 6))) + 3) w15) ((5012 + (8 * (σ 84 6))) + 4) (σ 84 0)) 6 w30)) c_220_80 (lo (c := 84) (kd := 0) (n := 112300) rfl (by decide)) (by decide) (by decide) (by decide) e31 r32 (wr_ (uc_s _ _ _) (uc_uc _ _ _ _)) ?_)))
  exact i94 c_220_81 t
theorem q_220 {d : Nat} {S : zS} {σ τ : zI} {Q : zQ} {text : Int} {mill : Int} {from_ : Int} {to : Int} (p0 : rg text) (p1 : rg mill) (p2 : rg from_) (p3 : rg to) (p4 : 0 ≤ σ 84 6 ∧ σ 84 6 ≤ 60) (t : Q none S (uc σ 84 (r_put (σ 84) text mill from_ to)) τ) : wc (d + 0) 220 [.ref 83, .int (wI text), .int (wI mill), .int (wI from_), .int (wI to)] S σ τ Q := by
  refine wc_of mi_220 rfl (u_220_0 ?_)
  unfold r_put at t
  repeat' (first | exact t | (intro v hv hb; subst hv) | refine ⟨_, rfl, by omega, ?_⟩ | refine ⟨by assumption, ?_⟩ | refine ⟨by omega, ?_⟩ | refine ifI (fun _ => ?_) (fun _ => ?_) | (exfalso; omega))
-- method 219: MillTownModel.force(IIII)I
theorem c_219_0 : pg_cd 219 0 = (3, 1, 0, 1, 0) := by decide +kernel
theorem c_219_1 : pg_cd 219 1 = (1, 1, 0, 0, 0) := by decide +kernel
theorem c_219_2 : pg_cd 219 2 = (5, 1, 0, 0, 0) := by decide +kernel
theorem c_219_3 : pg_cd 219 3 = (45, 12, 8, 0, 0) := by decide +kernel
theorem c_219_6 : pg_cd 219 6 = (1, 1, 0, 0, 5) := by decide +kernel
theorem c_219_7 : pg_cd 219 7 = (50, 1, 0, 0, 0) := by decide +kernel
theorem c_219_8 : pg_cd 219 8 = (1, 1, 0, 0, 1) := by decide +kernel
theorem c_219_9 : pg_cd 219 9 = (11, 1, 0, 0, 0) := by decide +kernel
theorem c_219_10 : pg_cd 219 10 = (81, 196, 76, 0, 0) := by decide +kernel
theorem c_219_13 : pg_cd 219 13 = (36, 3, 0, 0, 56) := by decide +kernel
theorem c_219_16 : pg_cd 219 16 = (3, 1, 0, 2, 0) := by decide +kernel
theorem c_219_17 : pg_cd 219 17 = (1, 1, 0, 0, (-1)) := by decide +kernel
theorem c_219_18 : pg_cd 219 18 = (37, 3, 0, 0, 11) := by decide +kernel
theorem c_219_21 : pg_cd 219 21 = (5, 1, 0, 0, 0) := by decide +kernel
theorem c_219_22 : pg_cd 219 22 = (3, 1, 0, 2, 0) := by decide +kernel
theorem c_219_23 : pg_cd 219 23 = (80, 201, 115, 0, 0) := by decide +kernel
theorem c_219_26 : pg_cd 219 26 = (36, 3, 0, 0, 43) := by decide +kernel
theorem c_219_29 : pg_cd 219 29 = (3, 1, 0, 3, 0) := by decide +kernel
theorem c_219_30 : pg_cd 219 30 = (5, 1, 0, 0, 0) := by decide +kernel
theorem c_219_31 : pg_cd 219 31 = (45, 12, 8, 0, 0) := by decide +kernel
theorem c_219_34 : pg_cd 219 34 = (1, 1, 0, 0, 0) := by decide +kernel
theorem c_219_35 : pg_cd 219 35 = (50, 1, 0, 0, 0) := by decide +kernel
theorem c_219_36 : pg_cd 219 36 = (1, 3, 0, 0, 399) := by decide +kernel
theorem c_219_39 : pg_cd 219 39 = (81, 196, 76, 0, 0) := by decide +kernel
theorem c_219_42 : pg_cd 219 42 = (36, 3, 0, 0, 27) := by decide +kernel
theorem c_219_45 : pg_cd 219 45 = (3, 2, 0, 4, 0) := by decide +kernel
theorem c_219_47 : pg_cd 219 47 = (3, 1, 0, 3, 0) := by decide +kernel
theorem c_219_48 : pg_cd 219 48 = (1, 3, 0, 0, 399) := by decide +kernel
theorem c_219_51 : pg_cd 219 51 = (81, 196, 76, 0, 0) := by decide +kernel
theorem c_219_54 : pg_cd 219 54 = (36, 3, 0, 0, 15) := by decide +kernel
theorem c_219_57 : pg_cd 219 57 = (5, 1, 0, 0, 0) := by decide +kernel
theorem c_219_58 : pg_cd 219 58 = (45, 12, 8, 0, 0) := by decide +kernel
theorem c_219_61 : pg_cd 219 61 = (1, 2, 0, 0, 6) := by decide +kernel
theorem c_219_63 : pg_cd 219 63 = (50, 1, 0, 0, 0) := by decide +kernel
theorem c_219_64 : pg_cd 219 64 = (1, 2, 0, 0, 60) := by decide +kernel
theorem c_219_66 : pg_cd 219 66 = (37, 3, 0, 1, 5) := by decide +kernel
theorem c_219_69 : pg_cd 219 69 = (1, 1, 0, 0, (-1)) := by decide +kernel
theorem c_219_70 : pg_cd 219 70 = (90, 0, 0, 0, 0) := by decide +kernel
theorem c_219_71 : pg_cd 219 71 = (5, 1, 0, 0, 0) := by decide +kernel
theorem c_219_72 : pg_cd 219 72 = (3, 1, 0, 1, 0) := by decide +kernel
theorem c_219_73 : pg_cd 219 73 = (3, 1, 0, 2, 0) := by decide +kernel
theorem c_219_74 : pg_cd 219 74 = (3, 1, 0, 3, 0) := by decide +kernel
theorem c_219_75 : pg_cd 219 75 = (3, 2, 0, 4, 0) := by decide +kernel
theorem c_219_77 : pg_cd 219 77 = (80, 220, 124, 0, 0) := by decide +kernel
theorem c_219_80 : pg_cd 219 80 = (5, 1, 0, 0, 0) := by decide +kernel
theorem c_219_81 : pg_cd 219 81 = (45, 12, 8, 0, 0) := by decide +kernel
theorem c_219_84 : pg_cd 219 84 = (1, 2, 0, 0, 6) := by decide +kernel
theorem c_219_86 : pg_cd 219 86 = (50, 1, 0, 0, 0) := by decide +kernel
theorem c_219_87 : pg_cd 219 87 = (1, 1, 0, 0, 1) := by decide +kernel
theorem c_219_88 : pg_cd 219 88 = (11, 1, 0, 0, 0) := by decide +kernel
theorem c_219_89 : pg_cd 219 89 = (90, 0, 0, 0, 0) := by decide +kernel
theorem mi_219 : pg_mc 219 = 12 ∧ pg_na 219 = 4 ∧ pg_mx 219 = 5 := by decide +kernel
set_option maxRecDepth 20000 in
theorem u_219_0 {d : Nat} {S : zS} {σ τ : zI} {Q : zQ} {x1 : Int} {x2 : Int} {x3 : Int} {x4 : Int} (t : (rg x1) ∧ (rg ((σ 84 5) - 1)) ∧ if 0 ≤ x1 ∧ x1 ≤ ((σ 84 5) - 1) then ((rg x2) ∧ if x2 = (-1) then ((rg x3) ∧ if (σ 84 0) ≤ x3 ∧ x3 ≤ 399 then ((rg x4) ∧ if x3 ≤ x4 ∧ x4 ≤ 399 then (if (σ 84 6) = 60 then (Q (some (.int (wI (-1)))) S σ τ) else ((0 ≤ σ 84 6 ∧ σ 84 6 ≤ 60) ∧ Q (some (.int (wI ((r_put ((σ 84)) x1 x2 x3 x4 6) - 1)))) S (uc σ 84 (r_put ((σ 84)) x1 x2 x3 x4)) τ)) else (Q (some (.int (wI (-1)))) S σ τ)) else (Q (some (.int (wI (-1)))) S σ τ)) else ((0 ≤ σ 84 1) ∧ if 0 ≤ x2 ∧ x2 < σ 84 1 then ((rg x3) ∧ if (σ 84 0) ≤ x3 ∧ x3 ≤ 399 then ((rg x4) ∧ if x3 ≤ x4 ∧ x4 ≤ 399 then (if (σ 84 6) = 60 then (Q (some (.int (wI (-1)))) S σ τ) else ((0 ≤ σ 84 6 ∧ σ 84 6 ≤ 60) ∧ Q (some (.int (wI ((r_put ((σ 84)) x1 x2 x3 x4 6) - 1)))) S (uc σ 84 (r_put ((σ 84)) x1 x2 x3 x4)) τ)) else (Q (some (.int (wI (-1)))) S σ τ)) else (Q (some (.int (wI (-1)))) S σ τ)) else (Q (some (.int (wI (-1)))) S σ τ))) else (Q (some (.int (wI (-1)))) S σ τ)) : wi (d + 3) 219 0 [.ref 83, .int (wI x1), .int (wI x2), .int (wI x3), .int (wI x4)] [] S σ τ Q := by
  refine i3 c_219_0 rfl (i1 c_219_1 (i5 c_219_2 rfl (i45 c_219_3 (lo (c := 83) (kd := 112) (n := 0) rfl (by decide)) (lro (c := 83) (k := 0) (j := 84) (by decide)) (i1 c_219_6 (wi_ok (fun K1 => ?_))))))
  obtain ⟨r2, t⟩ := t
  obtain ⟨r3, t⟩ := t
  refine i50 (v := σ 84 5) c_219_7 (lo (c := 84) (kd := 0) (n := 112300) rfl (by decide)) (by decide) (by decide) rfl (i1 c_219_8 (i11 c_219_9 ?_))
  refine i81 (As := [.int (wI x1), .int (wI 0), .int (wI ((σ 84 5) - 1))]) (rest := []) c_219_10 mi_196 rfl rfl (Nat.le_of_ble_eq_true rfl) (Nat.le_of_ble_eq_true rfl) (q_196 r2 (by decide) r3 ?_)
  show wi (d + 3) 219 13 [.ref 83, .int (wI x1), .int (wI x2), .int (wI x3), .int (wI x4)] [.int (wI (if 0 ≤ x1 ∧ x1 ≤ ((σ 84 5) - 1) then 1 else 0))] S σ τ Q
  refine i36e c_219_13 rfl (fun hc => ?_) (fun hc => ?_)
  · have t := iT t hc
    have ha4 : 0 ≤ x1 ∧ x1 ≤ ((σ 84 5) - 1) := hc
    obtain ⟨r5, t⟩ := t
    refine i3 c_219_16 rfl (i1 c_219_17 ?_)
    refine i37 c_219_18 r5 (by decide) rfl (fun hc => ?_) (fun hc => ?_)
    · have t := iT t hc
      have ha6 : x2 = (-1) := hc
      obtain ⟨r7, t⟩ := t
      refine i3 c_219_29 rfl (i5 c_219_30 rfl (i45 c_219_31 (lo (c := 83) (kd := 112) (n := 0) rfl (by decide)) (lro (c := 83) (k := 0) (j := 84) (by decide)) (i1 c_219_34 (i50 (v := σ 84 0) c_219_35 (lo (c := 84) (kd := 0) (n := 112300) rfl (by decide)) (by decide) (by decide) rfl (i1 c_219_36 ?_)))))
      refine i81 (As := [.int (wI x3), .int (wI (σ 84 0)), .int (wI 399)]) (rest := []) c_219_39 mi_196 rfl rfl (Nat.le_of_ble_eq_true rfl) (Nat.le_of_ble_eq_true rfl) (q_196 r7 (rge_ K1 rfl) (by decide) ?_)
      show wi (d + 3) 219 42 [.ref 83, .int (wI x1), .int (wI x2), .int (wI x3), .int (wI x4)] [.int (wI (if (σ 84 0) ≤ x3 ∧ x3 ≤ 399 then 1 else 0))] S σ τ Q
      refine i36e c_219_42 rfl (fun hc => ?_) (fun hc => ?_)
      · have t := iT t hc
        have ha8 : (σ 84 0) ≤ x3 ∧ x3 ≤ 399 := hc
        obtain ⟨r9, t⟩ := t
        refine i3 c_219_45 rfl (i3 c_219_47 rfl (i1 c_219_48 ?_))
        refine i81 (As := [.int (wI x4), .int (wI x3), .int (wI 399)]) (rest := []) c_219_51 mi_196 rfl rfl (Nat.le_of_ble_eq_true rfl) (Nat.le_of_ble_eq_true rfl) (q_196 r9 r7 (by decide) ?_)
        show wi (d + 3) 219 54 [.ref 83, .int (wI x1), .int (wI x2), .int (wI x3), .int (wI x4)] [.int (wI (if x3 ≤ x4 ∧ x4 ≤ 399 then 1 else 0))] S σ τ Q
        refine i36e c_219_54 rfl (fun hc => ?_) (fun hc => ?_)
        · have t := iT t hc
          have ha10 : x3 ≤ x4 ∧ x4 ≤ 399 := hc
          refine i5 c_219_57 rfl (i45 c_219_58 (lo (c := 83) (kd := 112) (n := 0) rfl (by decide)) (lro (c := 83) (k := 0) (j := 84) (by decide)) (i1 c_219_61 (i50 (v := σ 84 6) c_219_63 (lo (c := 84) (kd := 0) (n := 112300) rfl (by decide)) (by decide) (by decide) rfl (i1 c_219_64 ?_))))
          refine i37 c_219_66 (rge_ K1 rfl) (by decide) rfl (fun hc => ?_) (fun hc => ?_)
          · have t := iF t hc
            have ha11 : ¬ ((σ 84 6) = 60) := hc
            obtain ⟨p12, t⟩ := t
            refine i5 c_219_71 rfl (i3 c_219_72 rfl (i3 c_219_73 rfl (i3 c_219_74 rfl (i3 c_219_75 rfl ?_))))
            refine i80 (As := [.int (wI x1), .int (wI x2), .int (wI x3), .int (wI x4)]) (rest := []) c_219_77 mi_220 rfl rfl (Nat.le_of_ble_eq_true rfl) (Nat.le_of_ble_eq_true rfl) (lo (c := 83) (kd := 112) (n := 0) rfl (by decide)) (q_220 r2 r5 r7 r9 p12 ?_)
            show wi (d + 3) 219 80 [.ref 83, .int (wI x1), .int (wI x2), .int (wI x3), .int (wI x4)] [] S (uc σ 84 (r_put ((σ 84)) x1 x2 x3 x4)) τ Q
            refine i5 c_219_80 rfl (i45 c_219_81 (lo (c := 83) (kd := 112) (n := 0) rfl (by decide)) (lro (c := 83) (k := 0) (j := 84) (by decide)) (i1 c_219_84 (wi_ok (fun K13 => ?_))))
            refine i50 (v := r_put ((σ 84)) x1 x2 x3 x4 6) c_219_86 (lo (c := 84) (kd := 0) (n := 112300) rfl (by decide)) (by decide) (by decide) (congrFun (uc_s _ _ _) _) (i1 c_219_87 (i11 c_219_88 ?_))
            exact i90 c_219_89 t
          · have t := iT t (Decidable.not_not.mp hc)
            have ha11 : (σ 84 6) = 60 := Decidable.not_not.mp hc
            refine i1 c_219_69 ?_
            exact i90 c_219_70 t
        · have t := iF t hc
          have ha10 : ¬ (x3 ≤ x4 ∧ x4 ≤ 399) := hc
          refine i1 c_219_69 ?_
          exact i90 c_219_70 t
      · have t := iF t hc
        have ha8 : ¬ ((σ 84 0) ≤ x3 ∧ x3 ≤ 399) := hc
        refine i1 c_219_69 ?_
        exact i90 c_219_70 t
    · have t := iF t hc
      have ha6 : ¬ (x2 = (-1)) := hc
      obtain ⟨p14, t⟩ := t
      refine i5 c_219_21 rfl (i3 c_219_22 rfl ?_)
      refine i80 (As := [.int (wI x2)]) (rest := []) c_219_23 mi_201 rfl rfl (Nat.le_of_ble_eq_true rfl) (Nat.le_of_ble_eq_true rfl) (lo (c := 83) (kd := 112) (n := 0) rfl (by decide)) (q_201 r5 p14 ?_)
      show wi (d + 3) 219 26 [.ref 83, .int (wI x1), .int (wI x2), .int (wI x3), .int (wI x4)] [.int (wI (if 0 ≤ x2 ∧ x2 < σ 84 1 then 1 else 0))] S σ τ Q
      refine i36e c_219_26 rfl (fun hc => ?_) (fun hc => ?_)
      · have t := iT t hc
        have ha15 : 0 ≤ x2 ∧ x2 < σ 84 1 := hc
        obtain ⟨r16, t⟩ := t
        refine i3 c_219_29 rfl (i5 c_219_30 rfl (i45 c_219_31 (lo (c := 83) (kd := 112) (n := 0) rfl (by decide)) (lro (c := 83) (k := 0) (j := 84) (by decide)) (i1 c_219_34 (i50 (v := σ 84 0) c_219_35 (lo (c := 84) (kd := 0) (n := 112300) rfl (by decide)) (by decide) (by decide) rfl (i1 c_219_36 ?_)))))
        refine i81 (As := [.int (wI x3), .int (wI (σ 84 0)), .int (wI 399)]) (rest := []) c_219_39 mi_196 rfl rfl (Nat.le_of_ble_eq_true rfl) (Nat.le_of_ble_eq_true rfl) (q_196 r16 (rge_ K1 rfl) (by decide) ?_)
        show wi (d + 3) 219 42 [.ref 83, .int (wI x1), .int (wI x2), .int (wI x3), .int (wI x4)] [.int (wI (if (σ 84 0) ≤ x3 ∧ x3 ≤ 399 then 1 else 0))] S σ τ Q
        refine i36e c_219_42 rfl (fun hc => ?_) (fun hc => ?_)
        · have t := iT t hc
          have ha17 : (σ 84 0) ≤ x3 ∧ x3 ≤ 399 := hc
          obtain ⟨r18, t⟩ := t
          refine i3 c_219_45 rfl (i3 c_219_47 rfl (i1 c_219_48 ?_))
          refine i81 (As := [.int (wI x4), .int (wI x3), .int (wI 399)]) (rest := []) c_219_51 mi_196 rfl rfl (Nat.le_of_ble_eq_true rfl) (Nat.le_of_ble_eq_true rfl) (q_196 r18 r16 (by decide) ?_)
          show wi (d + 3) 219 54 [.ref 83, .int (wI x1), .int (wI x2), .int (wI x3), .int (wI x4)] [.int (wI (if x3 ≤ x4 ∧ x4 ≤ 399 then 1 else 0))] S σ τ Q
          refine i36e c_219_54 rfl (fun hc => ?_) (fun hc => ?_)
          · have t := iT t hc
            have ha19 : x3 ≤ x4 ∧ x4 ≤ 399 := hc
            refine i5 c_219_57 rfl (i45 c_219_58 (lo (c := 83) (kd := 112) (n := 0) rfl (by decide)) (lro (c := 83) (k := 0) (j := 84) (by decide)) (i1 c_219_61 (i50 (v := σ 84 6) c_219_63 (lo (c := 84) (kd := 0) (n := 112300) rfl (by decide)) (by decide) (by decide) rfl (i1 c_219_64 ?_))))
            refine i37 c_219_66 (rge_ K1 rfl) (by decide) rfl (fun hc => ?_) (fun hc => ?_)
            · have t := iF t hc
              have ha20 : ¬ ((σ 84 6) = 60) := hc
              obtain ⟨p21, t⟩ := t
              refine i5 c_219_71 rfl (i3 c_219_72 rfl (i3 c_219_73 rfl (i3 c_219_74 rfl (i3 c_219_75 rfl ?_))))
              refine i80 (As := [.int (wI x1), .int (wI x2), .int (wI x3), .int (wI x4)]) (rest := []) c_219_77 mi_220 rfl rfl (Nat.le_of_ble_eq_true rfl) (Nat.le_of_ble_eq_true rfl) (lo (c := 83) (kd := 112) (n := 0) rfl (by decide)) (q_220 r2 r5 r16 r18 p21 ?_)
              show wi (d + 3) 219 80 [.ref 83, .int (wI x1), .int (wI x2), .int (wI x3), .int (wI x4)] [] S (uc σ 84 (r_put ((σ 84)) x1 x2 x3 x4)) τ Q
              refine i5 c_219_80 rfl (i45 c_219_81 (lo (c := 83) (kd := 112) (n := 0) rfl (by decide)) (lro (c := 83) (k := 0) (j := 84) (by decide)) (i1 c_219_84 (wi_ok (fun K22 => ?_))))
              refine i50 (v := r_put ((σ 84)) x1 x2 x3 x4 6) c_219_86 (lo (c := 84) (kd := 0) (n := 112300) rfl (by decide)) (by decide) (by decide) (congrFun (uc_s _ _ _) _) (i1 c_219_87 (i11 c_219_88 ?_))
              exact i90 c_219_89 t
            · have t := iT t (Decidable.not_not.mp hc)
              have ha20 : (σ 84 6) = 60 := Decidable.not_not.mp hc
              refine i1 c_219_69 ?_
              exact i90 c_219_70 t
          · have t := iF t hc
            have ha19 : ¬ (x3 ≤ x4 ∧ x4 ≤ 399) := hc
            refine i1 c_219_69 ?_
            exact i90 c_219_70 t
        · have t := iF t hc
          have ha17 : ¬ ((σ 84 0) ≤ x3 ∧ x3 ≤ 399) := hc
          refine i1 c_219_69 ?_
          exact i90 c_219_70 t
      · have t := iF t hc
        have ha15 : ¬ (0 ≤ x2 ∧ x2 < σ 84 1) := hc
        refine i1 c_219_69 ?_
        exact i90 c_219_70 t
  · have t := iF t hc
    have ha4 : ¬ (0 ≤ x1 ∧ x1 ≤ ((σ 84 5) - 1)) := hc
    refine i1 c_219_69 ?_
    exact i90 c_219_70 t
theorem q_219 {d : Nat} {S : zS} {σ τ : zI} {Q : zQ} {text : Int} {mill : Int} {from_ : Int} {to : Int} (p0 : rg text) (p1 : rg mill) (p2 : rg from_) (p3 : rg to) (p4 : 0 ≤ σ 84 6 ∧ σ 84 6 ≤ 60) (p5 : 0 ≤ σ 84 1 ∧ σ 84 1 ≤ 8) (p6 : 0 ≤ σ 84 5 ∧ σ 84 5 ≤ 20) (t : Q (some (.int (wI (v_force (σ 84) text mill from_ to)))) S (uc σ 84 (r_force (σ 84) text mill from_ to)) τ) : wc (d + 3) 219 [.ref 83, .int (wI text), .int (wI mill), .int (wI from_), .int (wI to)] S σ τ Q := by
  refine wc_ok fun K => ?_
  refine wc_of mi_219 rfl (u_219_0 ?_)
  have e6 : r_put (σ 84) text mill from_ to 6 = σ 84 6 + 1 := by unfold r_put; exact u1_s _ _ _
  unfold r_force v_force at t
  by_cases hk : k_force (σ 84) text mill from_ to
  · rw [if_pos hk, if_pos hk] at t
    simp only [k_force] at hk
    rw [show σ 84 6 = r_put (σ 84) text mill from_ to 6 - 1 by rw [e6]; omega] at t
    repeat' (first | exact t | (intro v hv hb; subst hv) | refine ⟨_, rfl, by omega, ?_⟩ | refine ⟨by assumption, ?_⟩ | refine ⟨by omega, ?_⟩ | refine ifI (fun _ => ?_) (fun _ => ?_) | (exfalso; omega))
  · rw [if_neg hk, if_neg hk, uc_id] at t
    simp only [k_force] at hk
    repeat' (first | exact t | (intro v hv hb; subst hv) | refine ⟨_, rfl, by omega, ?_⟩ | refine ⟨by assumption, ?_⟩ | refine ⟨by omega, ?_⟩ | refine ifI (fun _ => ?_) (fun _ => ?_) | (exfalso; omega))
abbrev k_fund (more levy relief : Int) : Prop := (0 ≤ more ∧ more ≤ 100000) ∧ (0 ≤ levy ∧ levy ≤ 50) ∧ (0 ≤ relief ∧ relief ≤ 500)
def r_fund (a : Int → Int) (more levy relief : Int) : Int → Int := if k_fund more levy relief then u1 (u1 (u1 a 8 (zw (a 8 + more))) 9 levy) 10 relief else a
abbrev k_meet (a : Int → Int) : Prop := 0 ≤ a 13 ∧ 0 ≤ a 14 ∧ a 13 ≤ a 14
def r_meet (a : Int → Int) : Int → Int := if k_meet a then u1 (u1 a 13 (-1)) 14 (-1) else a
def v_meet (a : Int → Int) : Int := if k_meet a then Int.tdiv (a 13 + a 14) 2 else -1
abbrev k_proof (a : Int → Int) (x y : Int) : Prop := (0 ≤ x ∧ x ≤ 5) ∧ (0 ≤ y ∧ y ≤ 5) ∧ 0 ≤ a (20 + 8 * x + 6) ∧ 0 ≤ a (20 + 8 * y + 6) ∧ a (20 + 8 * y + 1) ≤ a (20 + 8 * x + 1) ∧ a (20 + 8 * y + 2) ≤ a (20 + 8 * x + 2) ∧ a (20 + 8 * x + 6) < a (20 + 8 * y + 6)
-- method 223: MillTownModel.fund(III)Z
theorem c_223_0 : pg_cd 223 0 = (3, 1, 0, 1, 0) := by decide +kernel
theorem c_223_1 : pg_cd 223 1 = (1, 1, 0, 0, 0) := by decide +kernel
theorem c_223_2 : pg_cd 223 2 = (1, 2, 71, 0, 100000) := by decide +kernel
theorem c_223_4 : pg_cd 223 4 = (81, 196, 76, 0, 0) := by decide +kernel
theorem c_223_7 : pg_cd 223 7 = (36, 3, 0, 0, 24) := by decide +kernel
theorem c_223_10 : pg_cd 223 10 = (3, 1, 0, 2, 0) := by decide +kernel
theorem c_223_11 : pg_cd 223 11 = (1, 1, 0, 0, 0) := by decide +kernel
theorem c_223_12 : pg_cd 223 12 = (1, 2, 0, 0, 50) := by decide +kernel
theorem c_223_14 : pg_cd 223 14 = (81, 196, 76, 0, 0) := by decide +kernel
theorem c_223_17 : pg_cd 223 17 = (36, 3, 0, 0, 14) := by decide +kernel
theorem c_223_20 : pg_cd 223 20 = (3, 1, 0, 3, 0) := by decide +kernel
theorem c_223_21 : pg_cd 223 21 = (1, 1, 0, 0, 0) := by decide +kernel
theorem c_223_22 : pg_cd 223 22 = (1, 3, 0, 0, 500) := by decide +kernel
theorem c_223_25 : pg_cd 223 25 = (81, 196, 76, 0, 0) := by decide +kernel
theorem c_223_28 : pg_cd 223 28 = (36, 3, 0, 1, 5) := by decide +kernel
theorem c_223_31 : pg_cd 223 31 = (1, 1, 0, 0, 0) := by decide +kernel
theorem c_223_32 : pg_cd 223 32 = (91, 0, 0, 0, 0) := by decide +kernel
theorem c_223_33 : pg_cd 223 33 = (5, 1, 0, 0, 0) := by decide +kernel
theorem c_223_34 : pg_cd 223 34 = (45, 12, 8, 0, 0) := by decide +kernel
theorem c_223_37 : pg_cd 223 37 = (1, 2, 0, 0, 8) := by decide +kernel
theorem c_223_39 : pg_cd 223 39 = (34, 1, 0, 0, 0) := by decide +kernel
theorem c_223_40 : pg_cd 223 40 = (50, 1, 0, 0, 0) := by decide +kernel
theorem c_223_41 : pg_cd 223 41 = (3, 1, 0, 1, 0) := by decide +kernel
theorem c_223_42 : pg_cd 223 42 = (10, 1, 0, 0, 0) := by decide +kernel
theorem c_223_43 : pg_cd 223 43 = (54, 1, 0, 0, 0) := by decide +kernel
theorem c_223_44 : pg_cd 223 44 = (5, 1, 0, 0, 0) := by decide +kernel
theorem c_223_45 : pg_cd 223 45 = (45, 12, 8, 0, 0) := by decide +kernel
theorem c_223_48 : pg_cd 223 48 = (1, 2, 0, 0, 9) := by decide +kernel
theorem c_223_50 : pg_cd 223 50 = (3, 1, 0, 2, 0) := by decide +kernel
theorem c_223_51 : pg_cd 223 51 = (54, 1, 0, 0, 0) := by decide +kernel
theorem c_223_52 : pg_cd 223 52 = (5, 1, 0, 0, 0) := by decide +kernel
theorem c_223_53 : pg_cd 223 53 = (45, 12, 8, 0, 0) := by decide +kernel
theorem c_223_56 : pg_cd 223 56 = (1, 2, 0, 0, 10) := by decide +kernel
theorem c_223_58 : pg_cd 223 58 = (3, 1, 0, 3, 0) := by decide +kernel
theorem c_223_59 : pg_cd 223 59 = (54, 1, 0, 0, 0) := by decide +kernel
theorem c_223_60 : pg_cd 223 60 = (1, 1, 0, 0, 1) := by decide +kernel
theorem c_223_61 : pg_cd 223 61 = (91, 0, 0, 0, 0) := by decide +kernel
theorem mi_223 : pg_mc 223 = 12 ∧ pg_na 223 = 3 ∧ pg_mx 223 = 4 := by decide +kernel
set_option maxRecDepth 20000 in
theorem u_223_0 {d : Nat} {S : zS} {σ τ : zI} {Q : zQ} {x1 : Int} {x2 : Int} {x3 : Int} (t : (rg x1) ∧ if 0 ≤ x1 ∧ x1 ≤ 100000 then ((rg x2) ∧ if 0 ≤ x2 ∧ x2 ≤ 50 then ((rg x3) ∧ if 0 ≤ x3 ∧ x3 ≤ 500 then (∃ w8 : Int, wI w8 = wI ((σ 84 8) + x1) ∧ rg w8 ∧ Q (some (.int (wI 1))) S (uc σ 84 (u1 (u1 (u1 (σ 84) 8 w8) 9 x2) 10 x3)) τ) else (Q (some (.int (wI 0))) S σ τ)) else (Q (some (.int (wI 0))) S σ τ)) else (Q (some (.int (wI 0))) S σ τ)) : wi (d + 1) 223 0 [.ref 83, .int (wI x1), .int (wI x2), .int (wI x3)] [] S σ τ Q := by
  obtain ⟨r1, t⟩ := t
  refine i3 c_223_0 rfl (i1 c_223_1 (i1 c_223_2 ?_))
  refine i81 (As := [.int (wI x1), .int (wI 0), .int (wI 100000)]) (rest := []) c_223_4 mi_196 rfl rfl (Nat.le_of_ble_eq_true rfl) (Nat.le_of_ble_eq_true rfl) (q_196 r1 (by decide) (by decide) ?_)
  show wi (d + 1) 223 7 [.ref 83, .int (wI x1), .int (wI x2), .int (wI x3)] [.int (wI (if 0 ≤ x1 ∧ x1 ≤ 100000 then 1 else 0))] S σ τ Q
  refine i36e c_223_7 rfl (fun hc => ?_) (fun hc => ?_)
  · have t := iT t hc
    have ha2 : 0 ≤ x1 ∧ x1 ≤ 100000 := hc
    obtain ⟨r3, t⟩ := t
    refine i3 c_223_10 rfl (i1 c_223_11 (i1 c_223_12 ?_))
    refine i81 (As := [.int (wI x2), .int (wI 0), .int (wI 50)]) (rest := []) c_223_14 mi_196 rfl rfl (Nat.le_of_ble_eq_true rfl) (Nat.le_of_ble_eq_true rfl) (q_196 r3 (by decide) (by decide) ?_)
    show wi (d + 1) 223 17 [.ref 83, .int (wI x1), .int (wI x2), .int (wI x3)] [.int (wI (if 0 ≤ x2 ∧ x2 ≤ 50 then 1 else 0))] S σ τ Q
    refine i36e c_223_17 rfl (fun hc => ?_) (fun hc => ?_)
    · have t := iT t hc
      have ha4 : 0 ≤ x2 ∧ x2 ≤ 50 := hc
      obtain ⟨r5, t⟩ := t
      refine i3 c_223_20 rfl (i1 c_223_21 (i1 c_223_22 ?_))
      refine i81 (As := [.int (wI x3), .int (wI 0), .int (wI 500)]) (rest := []) c_223_25 mi_196 rfl rfl (Nat.le_of_ble_eq_true rfl) (Nat.le_of_ble_eq_true rfl) (q_196 r5 (by decide) (by decide) ?_)
      show wi (d + 1) 223 28 [.ref 83, .int (wI x1), .int (wI x2), .int (wI x3)] [.int (wI (if 0 ≤ x3 ∧ x3 ≤ 500 then 1 else 0))] S σ τ Q
      refine i36f c_223_28 rfl (fun hc => ?_) (fun hc => ?_)
      · have t := iT t hc
        have ha6 : 0 ≤ x3 ∧ x3 ≤ 500 := hc
        refine i5 c_223_33 rfl (i45 c_223_34 (lo (c := 83) (kd := 112) (n := 0) rfl (by decide)) (lro (c := 83) (k := 0) (j := 84) (by decide)) (i1 c_223_37 (i34a c_223_39 (wi_ok (fun K7 => ?_)))))
        obtain ⟨w8, e9, r10, t⟩ := t
        refine i50 (v := σ 84 8) c_223_40 (lo (c := 84) (kd := 0) (n := 112300) rfl (by decide)) (by decide) (by decide) rfl (i3 c_223_41 rfl (i10 c_223_42 (i54 (σ1 := uc σ 84 (u1 (σ 84) 8 w8)) c_223_43 (lo (c := 84) (kd := 0) (n := 112300) rfl (by decide)) (by decide) (by decide) (by decide) e9 r10 (wr_ rfl rfl) (i5 c_223_44 rfl (i45 c_223_45 (lo (c := 83) (kd := 112) (n := 0) rfl (by decide)) (lro (c := 83) (k := 0) (j := 84) (by decide)) (i1 c_223_48 (i3 c_223_50 rfl (i54 (σ1 := uc σ 84 (u1 (u1 (σ 84) 8 w8) 9 x2)) c_223_51 (lo (c := 84) (kd := 0) (n := 112300) rfl (by decide)) (by decide) (by decide) (by decide) rfl r3 (wr_ (uc_s _ _ _) (uc_uc _ _ _ _)) (i5 c_223_52 rfl (i45 c_223_53 (lo (c := 83) (kd := 112) (n := 0) rfl (by decide)) (lro (c := 83) (k := 0) (j := 84) (by decide)) (i1 c_223_56 (i3 c_223_58 rfl (i54 (σ1 := uc σ 84 (u1 (u1 (u1 (σ 84) 8 w8) 9 x2) 10 x3)) c_223_59 (lo (c := 84) (kd := 0) (n := 112300) rfl (by decide)) (by decide) (by decide) (by decide) rfl r5 (wr_ (uc_s _ _ _) (uc_uc _ _ _ _)) (i1 c_223_60 ?_))))))))))))))
        exact i91 c_223_61 (by decide) t
      · have t := iF t hc
        have ha6 : ¬ (0 ≤ x3 ∧ x3 ≤ 500) := hc
        refine i1 c_223_31 ?_
        exact i91 c_223_32 (by decide) t
    · have t := iF t hc
      have ha4 : ¬ (0 ≤ x2 ∧ x2 ≤ 50) := hc
      refine i1 c_223_31 ?_
      exact i91 c_223_32 (by decide) t
  · have t := iF t hc
    have ha2 : ¬ (0 ≤ x1 ∧ x1 ≤ 100000) := hc
    refine i1 c_223_31 ?_
    exact i91 c_223_32 (by decide) t
theorem q_223 {d : Nat} {S : zS} {σ τ : zI} {Q : zQ} {more : Int} {levy : Int} {relief : Int} (p0 : rg more) (p1 : rg levy) (p2 : rg relief) (t : Q (some (.int (wI (if k_fund more levy relief then 1 else 0)))) S (uc σ 84 (r_fund (σ 84) more levy relief)) τ) : wc (d + 1) 223 [.ref 83, .int (wI more), .int (wI levy), .int (wI relief)] S σ τ Q := by
  refine wc_of mi_223 rfl (u_223_0 ?_)
  unfold r_fund at t
  by_cases hk : k_fund more levy relief
  · rw [if_pos hk, if_pos hk] at t
    simp only [k_fund] at hk
    repeat' (first | exact t | refine ⟨zw _, wI_zw _, rg_zw _, ?_⟩ | refine ⟨by omega, ?_⟩ | refine ifI (fun _ => ?_) (fun _ => ?_) | (exfalso; omega))
  · rw [if_neg hk, if_neg hk, uc_id] at t
    simp only [k_fund] at hk
    repeat' (first | exact t | (exfalso; omega) | refine ⟨by omega, ?_⟩ | refine ifI (fun _ => ?_) (fun _ => ?_))
-- method 306: MillTownModel.meet()I
theorem c_306_0 : pg_cd 306 0 = (5, 1, 0, 0, 0) := by decide +kernel
theorem c_306_1 : pg_cd 306 1 = (45, 12, 8, 0, 0) := by decide +kernel
theorem c_306_4 : pg_cd 306 4 = (1, 2, 0, 0, 13) := by decide +kernel
theorem c_306_6 : pg_cd 306 6 = (50, 1, 0, 0, 0) := by decide +kernel
theorem c_306_7 : pg_cd 306 7 = (6, 1, 0, 1, 0) := by decide +kernel
theorem c_306_8 : pg_cd 306 8 = (5, 1, 0, 0, 0) := by decide +kernel
theorem c_306_9 : pg_cd 306 9 = (45, 12, 8, 0, 0) := by decide +kernel
theorem c_306_12 : pg_cd 306 12 = (1, 2, 0, 0, 14) := by decide +kernel
theorem c_306_14 : pg_cd 306 14 = (50, 1, 0, 0, 0) := by decide +kernel
theorem c_306_15 : pg_cd 306 15 = (6, 1, 0, 2, 0) := by decide +kernel
theorem c_306_16 : pg_cd 306 16 = (3, 1, 0, 1, 0) := by decide +kernel
theorem c_306_17 : pg_cd 306 17 = (36, 3, 0, 2, 12) := by decide +kernel
theorem c_306_20 : pg_cd 306 20 = (3, 1, 0, 2, 0) := by decide +kernel
theorem c_306_21 : pg_cd 306 21 = (36, 3, 0, 2, 8) := by decide +kernel
theorem c_306_24 : pg_cd 306 24 = (3, 1, 0, 1, 0) := by decide +kernel
theorem c_306_25 : pg_cd 306 25 = (3, 1, 0, 2, 0) := by decide +kernel
theorem c_306_26 : pg_cd 306 26 = (37, 3, 0, 5, 5) := by decide +kernel
theorem c_306_29 : pg_cd 306 29 = (1, 1, 0, 0, (-1)) := by decide +kernel
theorem c_306_30 : pg_cd 306 30 = (90, 0, 0, 0, 0) := by decide +kernel
theorem c_306_31 : pg_cd 306 31 = (5, 1, 0, 0, 0) := by decide +kernel
theorem c_306_32 : pg_cd 306 32 = (45, 12, 8, 0, 0) := by decide +kernel
theorem c_306_35 : pg_cd 306 35 = (1, 2, 0, 0, 13) := by decide +kernel
theorem c_306_37 : pg_cd 306 37 = (1, 1, 0, 0, (-1)) := by decide +kernel
theorem c_306_38 : pg_cd 306 38 = (54, 1, 0, 0, 0) := by decide +kernel
theorem c_306_39 : pg_cd 306 39 = (5, 1, 0, 0, 0) := by decide +kernel
theorem c_306_40 : pg_cd 306 40 = (45, 12, 8, 0, 0) := by decide +kernel
theorem c_306_43 : pg_cd 306 43 = (1, 2, 0, 0, 14) := by decide +kernel
theorem c_306_45 : pg_cd 306 45 = (1, 1, 0, 0, (-1)) := by decide +kernel
theorem c_306_46 : pg_cd 306 46 = (54, 1, 0, 0, 0) := by decide +kernel
theorem c_306_47 : pg_cd 306 47 = (3, 1, 0, 1, 0) := by decide +kernel
theorem c_306_48 : pg_cd 306 48 = (3, 1, 0, 2, 0) := by decide +kernel
theorem c_306_49 : pg_cd 306 49 = (10, 1, 0, 0, 0) := by decide +kernel
theorem c_306_50 : pg_cd 306 50 = (1, 1, 0, 0, 2) := by decide +kernel
theorem c_306_51 : pg_cd 306 51 = (16, 1, 0, 0, 0) := by decide +kernel
theorem c_306_52 : pg_cd 306 52 = (90, 0, 0, 0, 0) := by decide +kernel
theorem mi_306 : pg_mc 306 = 12 ∧ pg_na 306 = 0 ∧ pg_mx 306 = 3 := by decide +kernel
set_option maxRecDepth 20000 in
theorem u_306_0 {d : Nat} {S : zS} {σ τ : zI} {Q : zQ} (t : if (σ 84 13) < 0 then (Q (some (.int (wI (-1)))) S σ τ) else (if (σ 84 14) < 0 then (Q (some (.int (wI (-1)))) S σ τ) else (if (σ 84 13) ≤ (σ 84 14) then ((rg ((σ 84 13) + (σ 84 14))) ∧ Q (some (.int (wI (Int.tdiv ((σ 84 13) + (σ 84 14)) 2)))) S (uc σ 84 (u1 (u1 (σ 84) 13 (-1)) 14 (-1))) τ) else (Q (some (.int (wI (-1)))) S σ τ)))) : wi (d + 0) 306 0 [.ref 83, .retAddr 0, .retAddr 0] [] S σ τ Q := by
  refine i5 c_306_0 rfl (i45 c_306_1 (lo (c := 83) (kd := 112) (n := 0) rfl (by decide)) (lro (c := 83) (k := 0) (j := 84) (by decide)) (i1 c_306_4 (wi_ok (fun K1 => ?_))))
  refine i50 (v := σ 84 13) c_306_6 (lo (c := 84) (kd := 0) (n := 112300) rfl (by decide)) (by decide) (by decide) rfl (i6 (L' := [.ref 83, .int (wI (σ 84 13)), .retAddr 0]) c_306_7 rfl (i5 c_306_8 rfl (i45 c_306_9 (lo (c := 83) (kd := 112) (n := 0) rfl (by decide)) (lro (c := 83) (k := 0) (j := 84) (by decide)) (i1 c_306_12 (i50 (v := σ 84 14) c_306_14 (lo (c := 84) (kd := 0) (n := 112300) rfl (by decide)) (by decide) (by decide) rfl (i6 (L' := [.ref 83, .int (wI (σ 84 13)), .int (wI (σ 84 14))]) c_306_15 rfl (i3 c_306_16 rfl ?_)))))))
  refine i36 c_306_17 (rge_ K1 rfl) rfl (fun hc => ?_) (fun hc => ?_)
  · have t := iT t hc
    have ha2 : (σ 84 13) < 0 := hc
    refine i1 c_306_29 ?_
    exact i90 c_306_30 t
  · have t := iF t hc
    have ha2 : ¬ ((σ 84 13) < 0) := hc
    refine i3 c_306_20 rfl ?_
    refine i36 c_306_21 (rge_ K1 rfl) rfl (fun hc => ?_) (fun hc => ?_)
    · have t := iT t hc
      have ha3 : (σ 84 14) < 0 := hc
      refine i1 c_306_29 ?_
      exact i90 c_306_30 t
    · have t := iF t hc
      have ha3 : ¬ ((σ 84 14) < 0) := hc
      refine i3 c_306_24 rfl (i3 c_306_25 rfl ?_)
      refine i37 c_306_26 (rge_ K1 rfl) (rge_ K1 rfl) rfl (fun hc => ?_) (fun hc => ?_)
      · have t := iT t hc
        have ha4 : (σ 84 13) ≤ (σ 84 14) := hc
        obtain ⟨r5, t⟩ := t
        refine i5 c_306_31 rfl (i45 c_306_32 (lo (c := 83) (kd := 112) (n := 0) rfl (by decide)) (lro (c := 83) (k := 0) (j := 84) (by decide)) (i1 c_306_35 (i1 c_306_37 (i54 (σ1 := uc σ 84 (u1 (σ 84) 13 (-1))) c_306_38 (lo (c := 84) (kd := 0) (n := 112300) rfl (by decide)) (by decide) (by decide) (by decide) rfl (by decide) (wr_ rfl rfl) (i5 c_306_39 rfl (i45 c_306_40 (lo (c := 83) (kd := 112) (n := 0) rfl (by decide)) (lro (c := 83) (k := 0) (j := 84) (by decide)) (i1 c_306_43 (i1 c_306_45 (i54 (σ1 := uc σ 84 (u1 (u1 (σ 84) 13 (-1)) 14 (-1))) c_306_46 (lo (c := 84) (kd := 0) (n := 112300) rfl (by decide)) (by decide) (by decide) (by decide) rfl (by decide) (wr_ (uc_s _ _ _) (uc_uc _ _ _ _)) (i3 c_306_47 rfl (i3 c_306_48 rfl (i10 c_306_49 (i1 c_306_50 (i16 c_306_51 r5 (by decide) (by decide) ?_))))))))))))))
        exact i90 c_306_52 t
      · have t := iF t hc
        have ha4 : ¬ ((σ 84 13) ≤ (σ 84 14)) := hc
        refine i1 c_306_29 ?_
        exact i90 c_306_30 t
theorem q_306 {d : Nat} {S : zS} {σ τ : zI} {Q : zQ} (p0 : jv_S (σ 84)) (t : Q (some (.int (wI (v_meet (σ 84))))) S (uc σ 84 (r_meet (σ 84))) τ) : wc (d + 0) 306 [.ref 83] S σ τ Q := by
  have hS := p0
  unfold jv_S at hS
  refine wc_of mi_306 rfl (u_306_0 ?_)
  unfold r_meet v_meet at t
  by_cases hk : k_meet (σ 84)
  · rw [if_pos hk, if_pos hk] at t
    simp only [k_meet] at hk
    repeat' (first | exact t | (intro v hv hb; subst hv) | refine ⟨_, rfl, by omega, ?_⟩ | refine ⟨by assumption, ?_⟩ | refine ⟨by omega, ?_⟩ | refine ifI (fun _ => ?_) (fun _ => ?_) | (exfalso; omega))
  · rw [if_neg hk, if_neg hk, uc_id] at t
    simp only [k_meet] at hk
    repeat' (first | exact t | (intro v hv hb; subst hv) | refine ⟨_, rfl, by omega, ?_⟩ | refine ⟨by assumption, ?_⟩ | refine ⟨by omega, ?_⟩ | refine ifI (fun _ => ?_) (fun _ => ?_) | (exfalso; omega))
-- method 311: MillTownModel.proof(II)Z
theorem c_311_0 : pg_cd 311 0 = (3, 1, 0, 1, 0) := by decide +kernel
theorem c_311_1 : pg_cd 311 1 = (81, 204, 80, 0, 0) := by decide +kernel
theorem c_311_4 : pg_cd 311 4 = (36, 3, 0, 0, 30) := by decide +kernel
theorem c_311_7 : pg_cd 311 7 = (3, 1, 0, 2, 0) := by decide +kernel
theorem c_311_8 : pg_cd 311 8 = (81, 204, 80, 0, 0) := by decide +kernel
theorem c_311_11 : pg_cd 311 11 = (36, 3, 0, 0, 23) := by decide +kernel
theorem c_311_14 : pg_cd 311 14 = (5, 1, 0, 0, 0) := by decide +kernel
theorem c_311_15 : pg_cd 311 15 = (3, 1, 0, 1, 0) := by decide +kernel
theorem c_311_16 : pg_cd 311 16 = (1, 2, 0, 0, 6) := by decide +kernel
theorem c_311_18 : pg_cd 311 18 = (80, 197, 85, 0, 0) := by decide +kernel
theorem c_311_21 : pg_cd 311 21 = (36, 3, 0, 2, 13) := by decide +kernel
theorem c_311_24 : pg_cd 311 24 = (5, 1, 0, 0, 0) := by decide +kernel
theorem c_311_25 : pg_cd 311 25 = (3, 1, 0, 2, 0) := by decide +kernel
theorem c_311_26 : pg_cd 311 26 = (1, 2, 0, 0, 6) := by decide +kernel
theorem c_311_28 : pg_cd 311 28 = (80, 197, 85, 0, 0) := by decide +kernel
theorem c_311_31 : pg_cd 311 31 = (36, 3, 0, 3, 5) := by decide +kernel
theorem c_311_34 : pg_cd 311 34 = (1, 1, 0, 0, 0) := by decide +kernel
theorem c_311_35 : pg_cd 311 35 = (91, 0, 0, 0, 0) := by decide +kernel
theorem c_311_36 : pg_cd 311 36 = (5, 1, 0, 0, 0) := by decide +kernel
theorem c_311_37 : pg_cd 311 37 = (3, 1, 0, 1, 0) := by decide +kernel
theorem c_311_38 : pg_cd 311 38 = (1, 1, 0, 0, 1) := by decide +kernel
theorem c_311_39 : pg_cd 311 39 = (80, 197, 85, 0, 0) := by decide +kernel
theorem c_311_42 : pg_cd 311 42 = (5, 1, 0, 0, 0) := by decide +kernel
theorem c_311_43 : pg_cd 311 43 = (3, 1, 0, 2, 0) := by decide +kernel
theorem c_311_44 : pg_cd 311 44 = (1, 1, 0, 0, 1) := by decide +kernel
theorem c_311_45 : pg_cd 311 45 = (80, 197, 85, 0, 0) := by decide +kernel
theorem c_311_48 : pg_cd 311 48 = (37, 3, 0, 2, 39) := by decide +kernel
theorem c_311_51 : pg_cd 311 51 = (5, 1, 0, 0, 0) := by decide +kernel
theorem c_311_52 : pg_cd 311 52 = (3, 1, 0, 1, 0) := by decide +kernel
theorem c_311_53 : pg_cd 311 53 = (1, 1, 0, 0, 2) := by decide +kernel
theorem c_311_54 : pg_cd 311 54 = (80, 197, 85, 0, 0) := by decide +kernel
theorem c_311_57 : pg_cd 311 57 = (5, 1, 0, 0, 0) := by decide +kernel
theorem c_311_58 : pg_cd 311 58 = (3, 1, 0, 2, 0) := by decide +kernel
theorem c_311_59 : pg_cd 311 59 = (1, 1, 0, 0, 2) := by decide +kernel
theorem c_311_60 : pg_cd 311 60 = (80, 197, 85, 0, 0) := by decide +kernel
theorem c_311_63 : pg_cd 311 63 = (37, 3, 0, 2, 24) := by decide +kernel
theorem c_311_66 : pg_cd 311 66 = (5, 1, 0, 0, 0) := by decide +kernel
theorem c_311_67 : pg_cd 311 67 = (3, 1, 0, 1, 0) := by decide +kernel
theorem c_311_68 : pg_cd 311 68 = (1, 2, 0, 0, 6) := by decide +kernel
theorem c_311_70 : pg_cd 311 70 = (80, 197, 85, 0, 0) := by decide +kernel
theorem c_311_73 : pg_cd 311 73 = (5, 1, 0, 0, 0) := by decide +kernel
theorem c_311_74 : pg_cd 311 74 = (3, 1, 0, 2, 0) := by decide +kernel
theorem c_311_75 : pg_cd 311 75 = (1, 2, 0, 0, 6) := by decide +kernel
theorem c_311_77 : pg_cd 311 77 = (80, 197, 85, 0, 0) := by decide +kernel
theorem c_311_80 : pg_cd 311 80 = (37, 3, 0, 3, 7) := by decide +kernel
theorem c_311_83 : pg_cd 311 83 = (1, 1, 0, 0, 1) := by decide +kernel
theorem c_311_84 : pg_cd 311 84 = (38, 3, 0, 0, 4) := by decide +kernel
theorem c_311_87 : pg_cd 311 87 = (1, 1, 0, 0, 0) := by decide +kernel
theorem c_311_88 : pg_cd 311 88 = (91, 0, 0, 0, 0) := by decide +kernel
theorem mi_311 : pg_mc 311 = 12 ∧ pg_na 311 = 2 ∧ pg_mx 311 = 3 := by decide +kernel
set_option maxRecDepth 20000 in
theorem u_311_0 {d : Nat} {S : zS} {σ τ : zI} {Q : zQ} {x1 : Int} {x2 : Int} (t : (rg x1) ∧ if 0 ≤ x1 ∧ x1 ≤ 5 then ((rg x2) ∧ if 0 ≤ x2 ∧ x2 ≤ 5 then ((0 ≤ 20 + 8 * x1 + 6 ∧ 20 + 8 * x1 + 6 < 112300) ∧ if (σ 84 (20 + 8 * x1 + 6)) < 0 then (Q (some (.int (wI 0))) S σ τ) else ((0 ≤ 20 + 8 * x2 + 6 ∧ 20 + 8 * x2 + 6 < 112300) ∧ if (0 : Int) ≤ (σ 84 (20 + 8 * x2 + 6)) then ((0 ≤ 20 + 8 * x1 + 1 ∧ 20 + 8 * x1 + 1 < 112300) ∧ (0 ≤ 20 + 8 * x2 + 1 ∧ 20 + 8 * x2 + 1 < 112300) ∧ if (σ 84 (20 + 8 * x1 + 1)) < (σ 84 (20 + 8 * x2 + 1)) then (Q (some (.int (wI 0))) S σ τ) else ((0 ≤ 20 + 8 * x1 + 2 ∧ 20 + 8 * x1 + 2 < 112300) ∧ (0 ≤ 20 + 8 * x2 + 2 ∧ 20 + 8 * x2 + 2 < 112300) ∧ if (σ 84 (20 + 8 * x1 + 2)) < (σ 84 (20 + 8 * x2 + 2)) then (Q (some (.int (wI 0))) S σ τ) else (if (σ 84 (20 + 8 * x2 + 6)) ≤ (σ 84 (20 + 8 * x1 + 6)) then (Q (some (.int (wI 0))) S σ τ) else (Q (some (.int (wI 1))) S σ τ)))) else (Q (some (.int (wI 0))) S σ τ))) else (Q (some (.int (wI 0))) S σ τ)) else (Q (some (.int (wI 0))) S σ τ)) : wi (d + 2) 311 0 [.ref 83, .int (wI x1), .int (wI x2)] [] S σ τ Q := by
  obtain ⟨r1, t⟩ := t
  refine i3 c_311_0 rfl ?_
  refine i81 (As := [.int (wI x1)]) (rest := []) c_311_1 mi_204 rfl rfl (Nat.le_of_ble_eq_true rfl) (Nat.le_of_ble_eq_true rfl) (q_204 r1 ?_)
  show wi (d + 2) 311 4 [.ref 83, .int (wI x1), .int (wI x2)] [.int (wI (if 0 ≤ x1 ∧ x1 ≤ 5 then 1 else 0))] S σ τ Q
  refine i36e c_311_4 rfl (fun hc => ?_) (fun hc => ?_)
  · have t := iT t hc
    have ha2 : 0 ≤ x1 ∧ x1 ≤ 5 := hc
    obtain ⟨r3, t⟩ := t
    refine i3 c_311_7 rfl ?_
    refine i81 (As := [.int (wI x2)]) (rest := []) c_311_8 mi_204 rfl rfl (Nat.le_of_ble_eq_true rfl) (Nat.le_of_ble_eq_true rfl) (q_204 r3 ?_)
    show wi (d + 2) 311 11 [.ref 83, .int (wI x1), .int (wI x2)] [.int (wI (if 0 ≤ x2 ∧ x2 ≤ 5 then 1 else 0))] S σ τ Q
    refine i36e c_311_11 rfl (fun hc => ?_) (fun hc => ?_)
    · have t := iT t hc
      have ha4 : 0 ≤ x2 ∧ x2 ≤ 5 := hc
      obtain ⟨p5, t⟩ := t
      refine i5 c_311_14 rfl (i3 c_311_15 rfl (i1 c_311_16 ?_))
      refine i80 (As := [.int (wI x1), .int (wI 6)]) (rest := []) c_311_18 mi_197 rfl rfl (Nat.le_of_ble_eq_true rfl) (Nat.le_of_ble_eq_true rfl) (lo (c := 83) (kd := 112) (n := 0) rfl (by decide)) (q_197 p5 ?_)
      show wi (d + 2) 311 21 [.ref 83, .int (wI x1), .int (wI x2)] [.int (wI (σ 84 (20 + 8 * x1 + 6)))] S σ τ Q
      refine wi_ok (fun K6 => ?_)
      refine i36 c_311_21 (rge_ K6 rfl) rfl (fun hc => ?_) (fun hc => ?_)
      · have t := iT t hc
        have ha7 : (σ 84 (20 + 8 * x1 + 6)) < 0 := hc
        refine i1 c_311_34 ?_
        exact i91 c_311_35 (by decide) t
      · have t := iF t hc
        have ha7 : ¬ ((σ 84 (20 + 8 * x1 + 6)) < 0) := hc
        obtain ⟨p8, t⟩ := t
        refine i5 c_311_24 rfl (i3 c_311_25 rfl (i1 c_311_26 ?_))
        refine i80 (As := [.int (wI x2), .int (wI 6)]) (rest := []) c_311_28 mi_197 rfl rfl (Nat.le_of_ble_eq_true rfl) (Nat.le_of_ble_eq_true rfl) (lo (c := 83) (kd := 112) (n := 0) rfl (by decide)) (q_197 p8 ?_)
        show wi (d + 2) 311 31 [.ref 83, .int (wI x1), .int (wI x2)] [.int (wI (σ 84 (20 + 8 * x2 + 6)))] S σ τ Q
        refine i36 c_311_31 (rge_ K6 rfl) rfl (fun hc => ?_) (fun hc => ?_)
        · have t := iT t hc
          have ha9 : (0 : Int) ≤ (σ 84 (20 + 8 * x2 + 6)) := hc
          obtain ⟨p10, t⟩ := t
          refine i5 c_311_36 rfl (i3 c_311_37 rfl (i1 c_311_38 ?_))
          refine i80 (As := [.int (wI x1), .int (wI 1)]) (rest := []) c_311_39 mi_197 rfl rfl (Nat.le_of_ble_eq_true rfl) (Nat.le_of_ble_eq_true rfl) (lo (c := 83) (kd := 112) (n := 0) rfl (by decide)) (q_197 p10 ?_)
          show wi (d + 2) 311 42 [.ref 83, .int (wI x1), .int (wI x2)] [.int (wI (σ 84 (20 + 8 * x1 + 1)))] S σ τ Q
          obtain ⟨p11, t⟩ := t
          refine i5 c_311_42 rfl (i3 c_311_43 rfl (i1 c_311_44 ?_))
          refine i80 (As := [.int (wI x2), .int (wI 1)]) (rest := [.int (wI (σ 84 (20 + 8 * x1 + 1)))]) c_311_45 mi_197 rfl rfl (Nat.le_of_ble_eq_true rfl) (Nat.le_of_ble_eq_true rfl) (lo (c := 83) (kd := 112) (n := 0) rfl (by decide)) (q_197 p11 ?_)
          show wi (d + 2) 311 48 [.ref 83, .int (wI x1), .int (wI x2)] [.int (wI (σ 84 (20 + 8 * x2 + 1))), .int (wI (σ 84 (20 + 8 * x1 + 1)))] S σ τ Q
          refine i37 c_311_48 (rge_ K6 rfl) (rge_ K6 rfl) rfl (fun hc => ?_) (fun hc => ?_)
          · have t := iT t hc
            have ha12 : (σ 84 (20 + 8 * x1 + 1)) < (σ 84 (20 + 8 * x2 + 1)) := hc
            refine i1 c_311_87 ?_
            exact i91 c_311_88 (by decide) t
          · have t := iF t hc
            have ha12 : ¬ ((σ 84 (20 + 8 * x1 + 1)) < (σ 84 (20 + 8 * x2 + 1))) := hc
            obtain ⟨p13, t⟩ := t
            refine i5 c_311_51 rfl (i3 c_311_52 rfl (i1 c_311_53 ?_))
            refine i80 (As := [.int (wI x1), .int (wI 2)]) (rest := []) c_311_54 mi_197 rfl rfl (Nat.le_of_ble_eq_true rfl) (Nat.le_of_ble_eq_true rfl) (lo (c := 83) (kd := 112) (n := 0) rfl (by decide)) (q_197 p13 ?_)
            show wi (d + 2) 311 57 [.ref 83, .int (wI x1), .int (wI x2)] [.int (wI (σ 84 (20 + 8 * x1 + 2)))] S σ τ Q
            obtain ⟨p14, t⟩ := t
            refine i5 c_311_57 rfl (i3 c_311_58 rfl (i1 c_311_59 ?_))
            refine i80 (As := [.int (wI x2), .int (wI 2)]) (rest := [.int (wI (σ 84 (20 + 8 * x1 + 2)))]) c_311_60 mi_197 rfl rfl (Nat.le_of_ble_eq_true rfl) (Nat.le_of_ble_eq_true rfl) (lo (c := 83) (kd := 112) (n := 0) rfl (by decide)) (q_197 p14 ?_)
            show wi (d + 2) 311 63 [.ref 83, .int (wI x1), .int (wI x2)] [.int (wI (σ 84 (20 + 8 * x2 + 2))), .int (wI (σ 84 (20 + 8 * x1 + 2)))] S σ τ Q
            refine i37 c_311_63 (rge_ K6 rfl) (rge_ K6 rfl) rfl (fun hc => ?_) (fun hc => ?_)
            · have t := iT t hc
              have ha15 : (σ 84 (20 + 8 * x1 + 2)) < (σ 84 (20 + 8 * x2 + 2)) := hc
              refine i1 c_311_87 ?_
              exact i91 c_311_88 (by decide) t
            · have t := iF t hc
              have ha15 : ¬ ((σ 84 (20 + 8 * x1 + 2)) < (σ 84 (20 + 8 * x2 + 2))) := hc
              refine i5 c_311_66 rfl (i3 c_311_67 rfl (i1 c_311_68 ?_))
              refine i80 (As := [.int (wI x1), .int (wI 6)]) (rest := []) c_311_70 mi_197 rfl rfl (Nat.le_of_ble_eq_true rfl) (Nat.le_of_ble_eq_true rfl) (lo (c := 83) (kd := 112) (n := 0) rfl (by decide)) (q_197 p5 ?_)
              show wi (d + 2) 311 73 [.ref 83, .int (wI x1), .int (wI x2)] [.int (wI (σ 84 (20 + 8 * x1 + 6)))] S σ τ Q
              refine i5 c_311_73 rfl (i3 c_311_74 rfl (i1 c_311_75 ?_))
              refine i80 (As := [.int (wI x2), .int (wI 6)]) (rest := [.int (wI (σ 84 (20 + 8 * x1 + 6)))]) c_311_77 mi_197 rfl rfl (Nat.le_of_ble_eq_true rfl) (Nat.le_of_ble_eq_true rfl) (lo (c := 83) (kd := 112) (n := 0) rfl (by decide)) (q_197 p8 ?_)
              show wi (d + 2) 311 80 [.ref 83, .int (wI x1), .int (wI x2)] [.int (wI (σ 84 (20 + 8 * x2 + 6))), .int (wI (σ 84 (20 + 8 * x1 + 6)))] S σ τ Q
              refine i37 c_311_80 (rge_ K6 rfl) (rge_ K6 rfl) rfl (fun hc => ?_) (fun hc => ?_)
              · have t := iT t hc
                have ha16 : (σ 84 (20 + 8 * x2 + 6)) ≤ (σ 84 (20 + 8 * x1 + 6)) := hc
                refine i1 c_311_87 ?_
                exact i91 c_311_88 (by decide) t
              · have t := iF t hc
                have ha16 : ¬ ((σ 84 (20 + 8 * x2 + 6)) ≤ (σ 84 (20 + 8 * x1 + 6))) := hc
                refine i1 c_311_83 (i38 c_311_84 rfl ?_)
                exact i91 c_311_88 (by decide) t
        · have t := iF t hc
          have ha9 : ¬ ((0 : Int) ≤ (σ 84 (20 + 8 * x2 + 6))) := hc
          refine i1 c_311_34 ?_
          exact i91 c_311_35 (by decide) t
    · have t := iF t hc
      have ha4 : ¬ (0 ≤ x2 ∧ x2 ≤ 5) := hc
      refine i1 c_311_34 ?_
      exact i91 c_311_35 (by decide) t
  · have t := iF t hc
    have ha2 : ¬ (0 ≤ x1 ∧ x1 ≤ 5) := hc
    refine i1 c_311_34 ?_
    exact i91 c_311_35 (by decide) t
theorem q_311 {d : Nat} {S : zS} {σ τ : zI} {Q : zQ} {first : Int} {second : Int} (p0 : rg first) (p1 : rg second) (t : Q (some (.int (wI (if k_proof (σ 84) first second then 1 else 0)))) S σ τ) : wc (d + 2) 311 [.ref 83, .int (wI first), .int (wI second)] S σ τ Q := by
  refine wc_of mi_311 rfl (u_311_0 ?_)
  by_cases hk : k_proof (σ 84) first second
  · rw [if_pos hk] at t
    simp only [k_proof] at hk
    repeat' (first | exact t | (intro v hv hb; subst hv) | refine ⟨_, rfl, by omega, ?_⟩ | refine ⟨by assumption, ?_⟩ | refine ⟨by omega, ?_⟩ | refine ifI (fun _ => ?_) (fun _ => ?_) | (exfalso; omega))
  · rw [if_neg hk] at t
    simp only [k_proof] at hk
    repeat' (first | exact t | (intro v hv hb; subst hv) | refine ⟨_, rfl, by omega, ?_⟩ | refine ⟨by assumption, ?_⟩ | refine ⟨by omega, ?_⟩ | refine ifI (fun _ => ?_) (fun _ => ?_) | (exfalso; omega))
-- method 265: MillTownModel.clauseAt(II)I
theorem c_265_0 : pg_cd 265 0 = (1, 3, 0, 0, 5500) := by decide +kernel
theorem c_265_3 : pg_cd 265 3 = (1, 3, 0, 0, 840) := by decide +kernel
theorem c_265_6 : pg_cd 265 6 = (3, 1, 0, 1, 0) := by decide +kernel
theorem c_265_7 : pg_cd 265 7 = (12, 1, 0, 0, 0) := by decide +kernel
theorem c_265_8 : pg_cd 265 8 = (10, 1, 0, 0, 0) := by decide +kernel
theorem c_265_9 : pg_cd 265 9 = (1, 1, 0, 0, 1) := by decide +kernel
theorem c_265_10 : pg_cd 265 10 = (10, 1, 0, 0, 0) := by decide +kernel
theorem c_265_11 : pg_cd 265 11 = (1, 2, 0, 0, 8) := by decide +kernel
theorem c_265_13 : pg_cd 265 13 = (3, 1, 0, 2, 0) := by decide +kernel
theorem c_265_14 : pg_cd 265 14 = (12, 1, 0, 0, 0) := by decide +kernel
theorem c_265_15 : pg_cd 265 15 = (10, 1, 0, 0, 0) := by decide +kernel
theorem c_265_16 : pg_cd 265 16 = (90, 0, 0, 0, 0) := by decide +kernel
theorem mi_265 : pg_mc 265 = 12 ∧ pg_na 265 = 2 ∧ pg_mx 265 = 3 := by decide +kernel
set_option maxRecDepth 20000 in
theorem u_265_0 {d : Nat} {S : zS} {σ τ : zI} {Q : zQ} {x1 : Int} {x2 : Int} (t : Q (some (.int (wI (((5500 + (840 * x1)) + 1) + (8 * x2))))) S σ τ) : wi (d + 0) 265 0 [.ref 83, .int (wI x1), .int (wI x2)] [] S σ τ Q := by
  refine i1 c_265_0 (i1 c_265_3 (i3 c_265_6 rfl (i12 c_265_7 (i10 c_265_8 (i1 c_265_9 (i10 c_265_10 (i1 c_265_11 (i3 c_265_13 rfl (i12 c_265_14 (i10 c_265_15 ?_))))))))))
  exact i90 c_265_16 t
theorem q_265 {d : Nat} {S : zS} {σ τ : zI} {Q : zQ} {text : Int} {i : Int} (t : Q (some (.int (wI (5500 + 840 * text + 1 + 8 * i)))) S σ τ) : wc (d + 0) 265 [.ref 83, .int (wI text), .int (wI i)] S σ τ Q := by
  exact wc_of mi_265 rfl (u_265_0 t)
-- method 266: MillTownModel.clausesOf(I)I
theorem c_266_0 : pg_cd 266 0 = (5, 1, 0, 0, 0) := by decide +kernel
theorem c_266_1 : pg_cd 266 1 = (45, 12, 8, 0, 0) := by decide +kernel
theorem c_266_4 : pg_cd 266 4 = (1, 3, 0, 0, 5500) := by decide +kernel
theorem c_266_7 : pg_cd 266 7 = (1, 3, 0, 0, 840) := by decide +kernel
theorem c_266_10 : pg_cd 266 10 = (3, 1, 0, 1, 0) := by decide +kernel
theorem c_266_11 : pg_cd 266 11 = (12, 1, 0, 0, 0) := by decide +kernel
theorem c_266_12 : pg_cd 266 12 = (10, 1, 0, 0, 0) := by decide +kernel
theorem c_266_13 : pg_cd 266 13 = (50, 1, 0, 0, 0) := by decide +kernel
theorem c_266_14 : pg_cd 266 14 = (90, 0, 0, 0, 0) := by decide +kernel
theorem mi_266 : pg_mc 266 = 12 ∧ pg_na 266 = 1 ∧ pg_mx 266 = 2 := by decide +kernel
set_option maxRecDepth 20000 in
theorem u_266_0 {d : Nat} {S : zS} {σ τ : zI} {Q : zQ} {x1 : Int} (t : (0 ≤ 5500 + (840 * x1) ∧ 5500 + (840 * x1) < 112300) ∧ Q (some (.int (wI (σ 84 (5500 + (840 * x1)))))) S σ τ) : wi (d + 0) 266 0 [.ref 83, .int (wI x1)] [] S σ τ Q := by
  obtain ⟨r1, t⟩ := t
  refine i5 c_266_0 rfl (i45 c_266_1 (lo (c := 83) (kd := 112) (n := 0) rfl (by decide)) (lro (c := 83) (k := 0) (j := 84) (by decide)) (i1 c_266_4 (i1 c_266_7 (i3 c_266_10 rfl (i12 c_266_11 (i10 c_266_12 (wi_ok (fun K2 => ?_))))))))
  refine i50 (v := σ 84 (5500 + (840 * x1))) c_266_13 (lo (c := 84) (kd := 0) (n := 112300) rfl (by decide)) (by decide) r1 rfl ?_
  exact i90 c_266_14 t
theorem q_266 {d : Nat} {S : zS} {σ τ : zI} {Q : zQ} {text : Int} (p0 : (0 ≤ 5500 + 840 * text ∧ 5500 + 840 * text < 112300)) (t : Q (some (.int (wI (σ 84 (5500 + 840 * text))))) S σ τ) : wc (d + 0) 266 [.ref 83, .int (wI text)] S σ τ Q := by
  exact wc_of mi_266 rfl (u_266_0 ⟨p0, t⟩)
-- method 260: MillTownModel.fault(I)I
theorem c_260_0 : pg_cd 260 0 = (3, 1, 0, 1, 0) := by decide +kernel
theorem c_260_1 : pg_cd 260 1 = (36, 3, 0, 1, 10) := by decide +kernel
theorem c_260_4 : pg_cd 260 4 = (5, 1, 0, 0, 0) := by decide +kernel
theorem c_260_5 : pg_cd 260 5 = (43, 12, 23, 5, 0) := by decide +kernel
theorem c_260_8 : pg_cd 260 8 = (38, 3, 0, 0, 16) := by decide +kernel
theorem c_260_11 : pg_cd 260 11 = (3, 1, 0, 1, 0) := by decide +kernel
theorem c_260_12 : pg_cd 260 12 = (1, 1, 0, 0, 1) := by decide +kernel
theorem c_260_13 : pg_cd 260 13 = (37, 3, 0, 1, 10) := by decide +kernel
theorem c_260_16 : pg_cd 260 16 = (5, 1, 0, 0, 0) := by decide +kernel
theorem c_260_17 : pg_cd 260 17 = (43, 12, 27, 6, 0) := by decide +kernel
theorem c_260_20 : pg_cd 260 20 = (38, 3, 0, 0, 4) := by decide +kernel
theorem c_260_23 : pg_cd 260 23 = (1, 1, 0, 0, (-1)) := by decide +kernel
theorem c_260_24 : pg_cd 260 24 = (90, 0, 0, 0, 0) := by decide +kernel
theorem mi_260 : pg_mc 260 = 12 ∧ pg_na 260 = 1 ∧ pg_mx 260 = 2 := by decide +kernel
set_option maxRecDepth 20000 in
theorem u_260_0 {d : Nat} {S : zS} {σ τ : zI} {Q : zQ} {x1 : Int} (t : (rg x1) ∧ if x1 = 0 then (Q (some (.int (wI (σ 83 5)))) S σ τ) else (if x1 = 1 then (Q (some (.int (wI (σ 83 6)))) S σ τ) else (Q (some (.int (wI (-1)))) S σ τ))) : wi (d + 0) 260 0 [.ref 83, .int (wI x1)] [] S σ τ Q := by
  obtain ⟨r1, t⟩ := t
  refine i3 c_260_0 rfl ?_
  refine i36 c_260_1 r1 rfl (fun hc => ?_) (fun hc => ?_)
  · have t := iF t hc
    have ha2 : ¬ (x1 = 0) := hc
    refine i3 c_260_11 rfl (i1 c_260_12 ?_)
    refine i37 c_260_13 r1 (by decide) rfl (fun hc => ?_) (fun hc => ?_)
    · have t := iF t hc
      have ha3 : ¬ (x1 = 1) := hc
      refine i1 c_260_23 ?_
      exact i90 c_260_24 t
    · have t := iT t (Decidable.not_not.mp hc)
      have ha3 : x1 = 1 := Decidable.not_not.mp hc
      refine i5 c_260_16 rfl (wi_ok (fun K4 => ?_))
      refine i43 (v := σ 83 6) c_260_17 (lo (c := 83) (kd := 112) (n := 0) rfl (by decide)) rfl (i38 c_260_20 rfl ?_)
      exact i90 c_260_24 t
  · have t := iT t (Decidable.not_not.mp hc)
    have ha2 : x1 = 0 := Decidable.not_not.mp hc
    refine i5 c_260_4 rfl (wi_ok (fun K5 => ?_))
    refine i43 (v := σ 83 5) c_260_5 (lo (c := 83) (kd := 112) (n := 0) rfl (by decide)) rfl (i38 c_260_8 rfl ?_)
    exact i90 c_260_24 t
theorem q_260 {d : Nat} {S : zS} {σ τ : zI} {Q : zQ} {what : Int} (p0 : rg what) (t : Q (some (.int (wI (if what = 0 then σ 83 5 else if what = 1 then σ 83 6 else -1)))) S σ τ) : wc (d + 0) 260 [.ref 83, .int (wI what)] S σ τ Q := by
  refine wc_of mi_260 rfl (u_260_0 ⟨p0, ?_⟩)
  split at t
  · next h => rw [if_pos h]; exact t
  · next h =>
    rw [if_neg h]
    split at t
    · next h => rw [if_pos h]; exact t
    · next h => rw [if_neg h]; exact t
-- method 227: MillTownModel.end(I)I
theorem c_227_0 : pg_cd 227 0 = (3, 1, 0, 1, 0) := by decide +kernel
theorem c_227_1 : pg_cd 227 1 = (1, 1, 0, 0, 0) := by decide +kernel
theorem c_227_2 : pg_cd 227 2 = (5, 1, 0, 0, 0) := by decide +kernel
theorem c_227_3 : pg_cd 227 3 = (43, 12, 128, 4, 0) := by decide +kernel
theorem c_227_6 : pg_cd 227 6 = (81, 196, 76, 0, 0) := by decide +kernel
theorem c_227_9 : pg_cd 227 9 = (36, 3, 0, 1, 5) := by decide +kernel
theorem c_227_12 : pg_cd 227 12 = (1, 1, 0, 0, (-1)) := by decide +kernel
theorem c_227_13 : pg_cd 227 13 = (90, 0, 0, 0, 0) := by decide +kernel
theorem c_227_14 : pg_cd 227 14 = (5, 1, 0, 0, 0) := by decide +kernel
theorem c_227_15 : pg_cd 227 15 = (3, 1, 0, 1, 0) := by decide +kernel
theorem c_227_16 : pg_cd 227 16 = (46, 12, 128, 4, 0) := by decide +kernel
theorem c_227_19 : pg_cd 227 19 = (3, 1, 0, 1, 0) := by decide +kernel
theorem c_227_20 : pg_cd 227 20 = (90, 0, 0, 0, 0) := by decide +kernel
theorem mi_227 : pg_mc 227 = 12 ∧ pg_na 227 = 1 ∧ pg_mx 227 = 2 := by decide +kernel
set_option maxRecDepth 20000 in
theorem u_227_0 {d : Nat} {S : zS} {σ τ : zI} {Q : zQ} {x1 : Int} (t : (rg x1) ∧ if 0 ≤ x1 ∧ x1 ≤ (σ 83 4) then (Q (some (.int (wI x1))) S (uc σ 83 (u1 (σ 83) 4 x1)) τ) else (Q (some (.int (wI (-1)))) S σ τ)) : wi (d + 1) 227 0 [.ref 83, .int (wI x1)] [] S σ τ Q := by
  refine i3 c_227_0 rfl (i1 c_227_1 (i5 c_227_2 rfl (wi_ok (fun K1 => ?_))))
  obtain ⟨r2, t⟩ := t
  refine i43 (v := σ 83 4) c_227_3 (lo (c := 83) (kd := 112) (n := 0) rfl (by decide)) rfl ?_
  refine i81 (As := [.int (wI x1), .int (wI 0), .int (wI (σ 83 4))]) (rest := []) c_227_6 mi_196 rfl rfl (Nat.le_of_ble_eq_true rfl) (Nat.le_of_ble_eq_true rfl) (q_196 r2 (by decide) (rge_ K1 rfl) ?_)
  show wi (d + 1) 227 9 [.ref 83, .int (wI x1)] [.int (wI (if 0 ≤ x1 ∧ x1 ≤ (σ 83 4) then 1 else 0))] S σ τ Q
  refine i36f c_227_9 rfl (fun hc => ?_) (fun hc => ?_)
  · have t := iT t hc
    have ha3 : 0 ≤ x1 ∧ x1 ≤ (σ 83 4) := hc
    refine i5 c_227_14 rfl (i3 c_227_15 rfl (i46 (σ1 := uc σ 83 (u1 (σ 83) 4 x1)) c_227_16 (lo (c := 83) (kd := 112) (n := 0) rfl (by decide)) (by decide) rfl r2 (wr_ rfl rfl) (i3 c_227_19 rfl ?_)))
    exact i90 c_227_20 t
  · have t := iF t hc
    have ha3 : ¬ (0 ≤ x1 ∧ x1 ≤ (σ 83 4)) := hc
    refine i1 c_227_12 ?_
    exact i90 c_227_13 t
theorem q_227 {d : Nat} {S : zS} {σ τ : zI} {Q : zQ} {n : Int} (p0 : rg n) (t : Q (some (.int (wI (if 0 ≤ n ∧ n ≤ σ 83 4 then n else -1)))) S (uc σ 83 (u1 (σ 83) 4 (if 0 ≤ n ∧ n ≤ σ 83 4 then n else σ 83 4))) τ) : wc (d + 1) 227 [.ref 83, .int (wI n)] S σ τ Q := by
  refine wc_ok fun K => ?_
  refine wc_of mi_227 rfl (u_227_0 ?_)
  by_cases hk : 0 ≤ n ∧ n ≤ σ 83 4
  · rw [if_pos hk, if_pos hk] at t
    repeat' (first | exact t | (intro v hv hb; subst hv) | refine ⟨_, rfl, by omega, ?_⟩ | refine ⟨by assumption, ?_⟩ | refine ⟨by omega, ?_⟩ | refine ifI (fun _ => ?_) (fun _ => ?_) | (exfalso; omega))
  · rw [if_neg hk, if_neg hk] at t
    have e : u1 (σ 83) 4 (σ 83 4) = σ 83 := by
      funext j
      unfold u1
      split
      · next h => rw [h]
      · rfl
    rw [e, uc_id] at t
    repeat' (first | exact t | (intro v hv hb; subst hv) | refine ⟨_, rfl, by omega, ?_⟩ | refine ⟨by assumption, ?_⟩ | refine ⟨by omega, ?_⟩ | refine ifI (fun _ => ?_) (fun _ => ?_) | (exfalso; omega))
-- method 288: MillTownModel.needOf(I)I
theorem c_288_0 : pg_cd 288 0 = (1, 1, 0, 0, 0) := by decide +kernel
theorem c_288_1 : pg_cd 288 1 = (6, 1, 0, 2, 0) := by decide +kernel
theorem c_288_2 : pg_cd 288 2 = (1, 1, 0, 0, 0) := by decide +kernel
theorem c_288_3 : pg_cd 288 3 = (6, 1, 0, 3, 0) := by decide +kernel
theorem c_288_4 : pg_cd 288 4 = (3, 1, 0, 3, 0) := by decide +kernel
theorem c_288_5 : pg_cd 288 5 = (5, 1, 0, 0, 0) := by decide +kernel
theorem c_288_6 : pg_cd 288 6 = (45, 12, 8, 0, 0) := by decide +kernel
theorem c_288_9 : pg_cd 288 9 = (1, 1, 0, 0, 4) := by decide +kernel
theorem c_288_10 : pg_cd 288 10 = (50, 1, 0, 0, 0) := by decide +kernel
theorem c_288_11 : pg_cd 288 11 = (37, 3, 0, 3, 38) := by decide +kernel
theorem c_288_14 : pg_cd 288 14 = (5, 1, 0, 0, 0) := by decide +kernel
theorem c_288_15 : pg_cd 288 15 = (3, 1, 0, 3, 0) := by decide +kernel
theorem c_288_16 : pg_cd 288 16 = (1, 1, 0, 0, 0) := by decide +kernel
theorem c_288_17 : pg_cd 288 17 = (80, 199, 102, 0, 0) := by decide +kernel
theorem c_288_20 : pg_cd 288 20 = (3, 1, 0, 1, 0) := by decide +kernel
theorem c_288_21 : pg_cd 288 21 = (37, 3, 0, 1, 22) := by decide +kernel
theorem c_288_24 : pg_cd 288 24 = (3, 1, 0, 2, 0) := by decide +kernel
theorem c_288_25 : pg_cd 288 25 = (5, 1, 0, 0, 0) := by decide +kernel
theorem c_288_26 : pg_cd 288 26 = (3, 1, 0, 3, 0) := by decide +kernel
theorem c_288_27 : pg_cd 288 27 = (1, 1, 0, 0, 1) := by decide +kernel
theorem c_288_28 : pg_cd 288 28 = (80, 199, 102, 0, 0) := by decide +kernel
theorem c_288_31 : pg_cd 288 31 = (1, 2, 0, 0, 13) := by decide +kernel
theorem c_288_33 : pg_cd 288 33 = (37, 3, 0, 2, 7) := by decide +kernel
theorem c_288_36 : pg_cd 288 36 = (1, 1, 0, 0, 4) := by decide +kernel
theorem c_288_37 : pg_cd 288 37 = (38, 3, 0, 0, 4) := by decide +kernel
theorem c_288_40 : pg_cd 288 40 = (1, 1, 0, 0, 2) := by decide +kernel
theorem c_288_41 : pg_cd 288 41 = (10, 1, 0, 0, 0) := by decide +kernel
theorem c_288_42 : pg_cd 288 42 = (6, 1, 0, 2, 0) := by decide +kernel
theorem c_288_43 : pg_cd 288 43 = (9, 3, 0, 3, 1) := by decide +kernel
theorem c_288_46 : pg_cd 288 46 = (38, 3, 0, 0, (-42)) := by decide +kernel
theorem c_288_49 : pg_cd 288 49 = (3, 1, 0, 2, 0) := by decide +kernel
theorem c_288_50 : pg_cd 288 50 = (90, 0, 0, 0, 0) := by decide +kernel
theorem mi_288 : pg_mc 288 = 12 ∧ pg_na 288 = 1 ∧ pg_mx 288 = 4 := by decide +kernel
set_option maxRecDepth 20000 in
theorem u_288_0 {d : Nat} {S : zS} {σ τ : zI} {Q : zQ} {x1 : Int} (t : wi (d + 1) 288 4 [.ref 83, .int (wI x1), .int (wI 0), .int (wI 0)] [] S σ τ Q) : wi (d + 1) 288 0 [.ref 83, .int (wI x1), .retAddr 0, .retAddr 0] [] S σ τ Q := by
  refine i1 c_288_0 (i6 (L' := [.ref 83, .int (wI x1), .int (wI 0), .retAddr 0]) c_288_1 rfl (i1 c_288_2 (i6 (L' := [.ref 83, .int (wI x1), .int (wI 0), .int (wI 0)]) c_288_3 rfl t)))
set_option maxRecDepth 20000 in
theorem u_288_4 {d : Nat} {S : zS} {σ τ : zI} {Q : zQ} {x1 : Int} {x2 : Int} {x3 : Int} (t : (rg x3) ∧ if (σ 84 4) ≤ x3 then (Q (some (.int (wI x2))) S σ τ) else ((0 ≤ 3652 + 12 * x3 + 0 ∧ 3652 + 12 * x3 + 0 < 112300) ∧ (rg x1) ∧ if (σ 84 (3652 + 12 * x3 + 0)) = x1 then ((0 ≤ 3652 + 12 * x3 + 1 ∧ 3652 + 12 * x3 + 1 < 112300) ∧ if (σ 84 (3652 + 12 * x3 + 1)) < 13 then (wi (d + 1) 288 4 [.ref 83, .int (wI x1), .int (wI (x2 + 2)), .int (wI (x3 + 1))] [] S σ τ Q) else (wi (d + 1) 288 4 [.ref 83, .int (wI x1), .int (wI (x2 + 4)), .int (wI (x3 + 1))] [] S σ τ Q)) else (wi (d + 1) 288 4 [.ref 83, .int (wI x1), .int (wI x2), .int (wI (x3 + 1))] [] S σ τ Q))) : wi (d + 1) 288 4 [.ref 83, .int (wI x1), .int (wI x2), .int (wI x3)] [] S σ τ Q := by
  refine i3 c_288_4 rfl (i5 c_288_5 rfl (i45 c_288_6 (lo (c := 83) (kd := 112) (n := 0) rfl (by decide)) (lro (c := 83) (k := 0) (j := 84) (by decide)) (i1 c_288_9 (wi_ok (fun K1 => ?_)))))
  obtain ⟨r2, t⟩ := t
  refine i50 (v := σ 84 4) c_288_10 (lo (c := 84) (kd := 0) (n := 112300) rfl (by decide)) (by decide) (by decide) rfl ?_
  refine i37 c_288_11 r2 (rge_ K1 rfl) rfl (fun hc => ?_) (fun hc => ?_)
  · have t := iT t hc
    have ha3 : (σ 84 4) ≤ x3 := hc
    refine i3 c_288_49 rfl ?_
    exact i90 c_288_50 t
  · have t := iF t hc
    have ha3 : ¬ ((σ 84 4) ≤ x3) := hc
    obtain ⟨p4, t⟩ := t
    refine i5 c_288_14 rfl (i3 c_288_15 rfl (i1 c_288_16 ?_))
    refine i80 (As := [.int (wI x3), .int (wI 0)]) (rest := []) c_288_17 mi_199 rfl rfl (Nat.le_of_ble_eq_true rfl) (Nat.le_of_ble_eq_true rfl) (lo (c := 83) (kd := 112) (n := 0) rfl (by decide)) (q_199 p4 ?_)
    show wi (d + 1) 288 20 [.ref 83, .int (wI x1), .int (wI x2), .int (wI x3)] [.int (wI (σ 84 (3652 + 12 * x3 + 0)))] S σ τ Q
    obtain ⟨r5, t⟩ := t
    refine i3 c_288_20 rfl ?_
    refine i37 c_288_21 (rge_ K1 rfl) r5 rfl (fun hc => ?_) (fun hc => ?_)
    · have t := iF t hc
      have ha6 : ¬ ((σ 84 (3652 + 12 * x3 + 0)) = x1) := hc
      refine i9 (L' := [.ref 83, .int (wI x1), .int (wI x2), .int (wI (x3 + 1))]) c_288_43 rfl rfl (i38 c_288_46 rfl t)
    · have t := iT t (Decidable.not_not.mp hc)
      have ha6 : (σ 84 (3652 + 12 * x3 + 0)) = x1 := Decidable.not_not.mp hc
      obtain ⟨p7, t⟩ := t
      refine i3 c_288_24 rfl (i5 c_288_25 rfl (i3 c_288_26 rfl (i1 c_288_27 ?_)))
      refine i80 (As := [.int (wI x3), .int (wI 1)]) (rest := [.int (wI x2)]) c_288_28 mi_199 rfl rfl (Nat.le_of_ble_eq_true rfl) (Nat.le_of_ble_eq_true rfl) (lo (c := 83) (kd := 112) (n := 0) rfl (by decide)) (q_199 p7 ?_)
      show wi (d + 1) 288 31 [.ref 83, .int (wI x1), .int (wI x2), .int (wI x3)] [.int (wI (σ 84 (3652 + 12 * x3 + 1))), .int (wI x2)] S σ τ Q
      refine i1 c_288_31 ?_
      refine i37 c_288_33 (rge_ K1 rfl) (by decide) rfl (fun hc => ?_) (fun hc => ?_)
      · have t := iT t hc
        have ha8 : (σ 84 (3652 + 12 * x3 + 1)) < 13 := hc
        refine i1 c_288_40 (i10 c_288_41 (i6 (L' := [.ref 83, .int (wI x1), .int (wI (x2 + 2)), .int (wI x3)]) c_288_42 rfl (i9 (L' := [.ref 83, .int (wI x1), .int (wI (x2 + 2)), .int (wI (x3 + 1))]) c_288_43 rfl rfl (i38 c_288_46 rfl t))))
      · have t := iF t hc
        have ha8 : ¬ ((σ 84 (3652 + 12 * x3 + 1)) < 13) := hc
        refine i1 c_288_36 (i38 c_288_37 rfl (i10 c_288_41 (i6 (L' := [.ref 83, .int (wI x1), .int (wI (x2 + 4)), .int (wI x3)]) c_288_42 rfl (i9 (L' := [.ref 83, .int (wI x1), .int (wI (x2 + 4)), .int (wI (x3 + 1))]) c_288_43 rfl rfl (i38 c_288_46 rfl t)))))
theorem q_288 {d : Nat} {S : zS} {σ τ : zI} {Q : zQ} {h : Int} (p0 : rg h) (p1 : 0 ≤ σ 84 4 ∧ σ 84 4 ≤ 60) (t : ∀ (v : Int), v = r_need (σ 84) h → 0 ≤ v ∧ v ≤ 240 → Q (some (.int (wI v))) S σ τ) : wc (d + 1) 288 [.ref 83, .int (wI h)] S σ τ Q := by
  have t := t (r_need (σ 84) h) rfl (by
    have b := sI_b (f := fun p => if σ 84 (3652 + 12 * p + 0) = h then (if 13 ≤ σ 84 (3652 + 12 * p + 1) then 4 else 2) else 0) (n := σ 84 4) (lo := 0) (hi := 4) (by omega) (fun p h0 h1 => by
      try dsimp only
      repeat' (first | omega | split))
    show 0 ≤ r_need (σ 84) h ∧ r_need (σ 84) h ≤ 240
    unfold r_need
    omega)
  refine wc_of mi_288 rfl (u_288_0 ?_)
  have key : ∀ p, 0 ≤ p → p ≤ σ 84 4 → ∀ s, s = sI (fun p => if σ 84 (3652 + 12 * p + 0) = h then (if 13 ≤ σ 84 (3652 + 12 * p + 1) then 4 else 2) else 0) p → wi (d + 1) 288 4 [.ref 83, .int (wI h), .int (wI s), .int (wI p)] [] S σ τ Q := by
    refine lp_up (fun p h0 h1 ih => ?_)
    intro s hs
    refine u_288_4 ⟨by omega, ?_⟩
    by_cases c : σ 84 4 ≤ p
    · have : p = σ 84 4 := by omega
      subst this
      rw [if_pos (by omega), hs]
      exact t
    · have ih := ih (by omega)
      rw [sI_s h0, ← hs] at ih
      rw [if_neg c]
      refine ⟨by omega, p0, ?_⟩
      split
      · next h2 =>
        rw [if_pos h2] at ih
        refine ⟨by omega, ?_⟩
        split
        · next h3 => rw [if_neg (by omega)] at ih; exact ih _ rfl
        · next h3 => rw [if_pos (by omega)] at ih; exact ih _ rfl
      · next h2 => rw [if_neg h2, Int.add_zero] at ih; exact ih s rfl
  exact key 0 (by omega) (by omega) 0 rfl
-- method 296: MillTownModel.lately(II)I
theorem c_296_0 : pg_cd 296 0 = (5, 1, 0, 0, 0) := by decide +kernel
theorem c_296_1 : pg_cd 296 1 = (45, 12, 8, 0, 0) := by decide +kernel
theorem c_296_4 : pg_cd 296 4 = (1, 1, 0, 0, 0) := by decide +kernel
theorem c_296_5 : pg_cd 296 5 = (50, 1, 0, 0, 0) := by decide +kernel
theorem c_296_6 : pg_cd 296 6 = (36, 3, 0, 1, 7) := by decide +kernel
theorem c_296_9 : pg_cd 296 9 = (1, 1, 0, 0, 0) := by decide +kernel
theorem c_296_10 : pg_cd 296 10 = (38, 3, 0, 0, 23) := by decide +kernel
theorem c_296_13 : pg_cd 296 13 = (5, 1, 0, 0, 0) := by decide +kernel
theorem c_296_14 : pg_cd 296 14 = (45, 12, 8, 0, 0) := by decide +kernel
theorem c_296_17 : pg_cd 296 17 = (3, 1, 0, 1, 0) := by decide +kernel
theorem c_296_18 : pg_cd 296 18 = (1, 2, 0, 0, 24) := by decide +kernel
theorem c_296_20 : pg_cd 296 20 = (5, 1, 0, 0, 0) := by decide +kernel
theorem c_296_21 : pg_cd 296 21 = (45, 12, 8, 0, 0) := by decide +kernel
theorem c_296_24 : pg_cd 296 24 = (1, 1, 0, 0, 0) := by decide +kernel
theorem c_296_25 : pg_cd 296 25 = (50, 1, 0, 0, 0) := by decide +kernel
theorem c_296_26 : pg_cd 296 26 = (1, 1, 0, 0, 1) := by decide +kernel
theorem c_296_27 : pg_cd 296 27 = (11, 1, 0, 0, 0) := by decide +kernel
theorem c_296_28 : pg_cd 296 28 = (12, 1, 0, 0, 0) := by decide +kernel
theorem c_296_29 : pg_cd 296 29 = (10, 1, 0, 0, 0) := by decide +kernel
theorem c_296_30 : pg_cd 296 30 = (3, 1, 0, 2, 0) := by decide +kernel
theorem c_296_31 : pg_cd 296 31 = (10, 1, 0, 0, 0) := by decide +kernel
theorem c_296_32 : pg_cd 296 32 = (50, 1, 0, 0, 0) := by decide +kernel
theorem c_296_33 : pg_cd 296 33 = (90, 0, 0, 0, 0) := by decide +kernel
theorem mi_296 : pg_mc 296 = 12 ∧ pg_na 296 = 2 ∧ pg_mx 296 = 3 := by decide +kernel
set_option maxRecDepth 20000 in
theorem u_296_0 {d : Nat} {S : zS} {σ τ : zI} {Q : zQ} {x1 : Int} {x2 : Int} (t : if (σ 84 0) = 0 then (Q (some (.int (wI 0))) S σ τ) else ((0 ≤ (x1 + (24 * ((σ 84 0) - 1))) + x2 ∧ (x1 + (24 * ((σ 84 0) - 1))) + x2 < 112300) ∧ Q (some (.int (wI (σ 84 ((x1 + (24 * ((σ 84 0) - 1))) + x2))))) S σ τ)) : wi (d + 0) 296 0 [.ref 83, .int (wI x1), .int (wI x2)] [] S σ τ Q := by
  refine i5 c_296_0 rfl (i45 c_296_1 (lo (c := 83) (kd := 112) (n := 0) rfl (by decide)) (lro (c := 83) (k := 0) (j := 84) (by decide)) (i1 c_296_4 (wi_ok (fun K1 => ?_))))
  refine i50 (v := σ 84 0) c_296_5 (lo (c := 84) (kd := 0) (n := 112300) rfl (by decide)) (by decide) (by decide) rfl ?_
  refine i36 c_296_6 (rge_ K1 rfl) rfl (fun hc => ?_) (fun hc => ?_)
  · have t := iF t hc
    have ha2 : ¬ ((σ 84 0) = 0) := hc
    obtain ⟨r3, t⟩ := t
    refine i5 c_296_13 rfl (i45 c_296_14 (lo (c := 83) (kd := 112) (n := 0) rfl (by decide)) (lro (c := 83) (k := 0) (j := 84) (by decide)) (i3 c_296_17 rfl (i1 c_296_18 (i5 c_296_20 rfl (i45 c_296_21 (lo (c := 83) (kd := 112) (n := 0) rfl (by decide)) (lro (c := 83) (k := 0) (j := 84) (by decide)) (i1 c_296_24 (i50 (v := σ 84 0) c_296_25 (lo (c := 84) (kd := 0) (n := 112300) rfl (by decide)) (by decide) (by decide) rfl (i1 c_296_26 (i11 c_296_27 (i12 c_296_28 (i10 c_296_29 (i3 c_296_30 rfl (i10 c_296_31 (i50 (v := σ 84 ((x1 + (24 * ((σ 84 0) - 1))) + x2)) c_296_32 (lo (c := 84) (kd := 0) (n := 112300) rfl (by decide)) (by decide) r3 rfl ?_))))))))))))))
    exact i90 c_296_33 t
  · have t := iT t (Decidable.not_not.mp hc)
    have ha2 : (σ 84 0) = 0 := Decidable.not_not.mp hc
    refine i1 c_296_9 (i38 c_296_10 rfl ?_)
    exact i90 c_296_33 t
theorem q_296 {d : Nat} {S : zS} {σ τ : zI} {Q : zQ} {from_ : Int} {h : Int} (p0 : 0 ≤ σ 84 0 ∧ σ 84 0 ≤ 400) (p1 : ((0 : Int) + from_ = 22300 ∨ (0 : Int) + from_ = 31900) ∧ 0 ≤ h ∧ h < 24) (t : Q (some (.int (wI (r_late (σ 84) from_ h)))) S σ τ) : wc (d + 0) 296 [.ref 83, .int (wI from_), .int (wI h)] S σ τ Q := by
  refine wc_of mi_296 rfl (u_296_0 ?_)
  unfold r_late at t
  split at t
  · next h => rw [if_pos h]; exact t
  · next h => rw [if_neg h]; exact ⟨by omega, t⟩
def v_millOf (a : Int → Int) (mill what : Int) : Int := if 0 ≤ mill ∧ mill < a 1 then (if what = 0 then a (3300 + 16 * mill + 0) else if what = 1 then r_had a mill (-1) else if what = 2 then a (3300 + 16 * mill + 2) else if what = 3 then a (3300 + 16 * mill + 4) else if what = 4 then a (3300 + 16 * mill + 5) else if what = 5 then a (3300 + 16 * mill + 6) else if what = 6 then a (3300 + 16 * mill + 7) else if what = 7 then a (3300 + 16 * mill + 8) else if what = 8 then a (3300 + 16 * mill + 9) else if what = 9 then a (3300 + 16 * mill + 10) else -1) else -1
def v_homeOf (a : Int → Int) (home what : Int) : Int := if 0 ≤ home ∧ home < a 3 then (if what = 0 then a (3460 + 8 * home + 1) else if what = 1 then a (3460 + 8 * home + 2) else if what = 2 then a (3460 + 8 * home + 3) else if what = 3 then r_need a home else if what = 4 then r_pers a home else if what = 5 then r_late a 22300 home else if what = 6 then r_late a 31900 home else -1) else -1
def v_personOf (a : Int → Int) (person what : Int) : Int := if (0 ≤ person ∧ person < a 4) ∧ (0 ≤ what ∧ what ≤ 8) then a (3652 + 12 * person + what) else -1
def v_shopOf (a : Int → Int) (shop what : Int) : Int := if 0 ≤ shop ∧ shop ≤ a 2 - 1 then (if what = 0 then a (3428 + 8 * shop) else if what = 1 then r_debts a shop else if what = 2 then a (3428 + 8 * shop + 3) else -1) else -1
def v_orderOf (a : Int → Int) (order what : Int) : Int := if (0 ≤ order ∧ order ≤ a 7 - 1) ∧ (0 ≤ what ∧ what ≤ 4) then a (4372 + 8 * order + what) else -1
def v_book (a : Int → Int) (home week what : Int) : Int := if (0 ≤ home ∧ home < a 3) ∧ (0 ≤ week ∧ week ≤ a 0 - 1) ∧ (0 ≤ what ∧ what ≤ 1) then (if what = 0 then a (22300 + 24 * week + home) else a (31900 + 24 * week + home)) else -1
def v_about (a : Int → Int) (taped what : Int) : Int := if what = 0 then a 0 else if what = 1 then a 1 else if what = 2 then a 2 else if what = 3 then a 3 else if what = 4 then a 4 else if what = 5 then a 5 else if what = 6 then a 6 else if what = 7 then a 7 else if what = 8 then a 8 else if what = 9 then a 15 else if what = 10 then taped else if what = 11 then a 9 else if what = 12 then a 10 else if what = 13 then a 11 else if what = 14 then a 12 else if what = 15 then (if a 5 = 0 then -1 else a (5500 + 840 * (a 5 - 1))) else -1
-- method 295: MillTownModel.millOf(II)I
theorem c_295_0 : pg_cd 295 0 = (5, 1, 0, 0, 0) := by decide +kernel
theorem c_295_1 : pg_cd 295 1 = (3, 1, 0, 1, 0) := by decide +kernel
theorem c_295_2 : pg_cd 295 2 = (80, 201, 115, 0, 0) := by decide +kernel
theorem c_295_5 : pg_cd 295 5 = (36, 3, 0, 1, 5) := by decide +kernel
theorem c_295_8 : pg_cd 295 8 = (1, 1, 0, 0, (-1)) := by decide +kernel
theorem c_295_9 : pg_cd 295 9 = (90, 0, 0, 0, 0) := by decide +kernel
theorem c_295_10 : pg_cd 295 10 = (3, 1, 0, 2, 0) := by decide +kernel
theorem c_295_11 : pg_cd 295 11 = (42, 6, 53, 0, 0) := by decide +kernel
theorem c_295_64 : pg_cd 295 64 = (5, 1, 0, 0, 0) := by decide +kernel
theorem c_295_65 : pg_cd 295 65 = (3, 1, 0, 1, 0) := by decide +kernel
theorem c_295_66 : pg_cd 295 66 = (1, 1, 0, 0, 0) := by decide +kernel
theorem c_295_67 : pg_cd 295 67 = (80, 198, 118, 0, 0) := by decide +kernel
theorem c_295_70 : pg_cd 295 70 = (90, 0, 0, 0, 0) := by decide +kernel
theorem c_295_71 : pg_cd 295 71 = (5, 1, 0, 0, 0) := by decide +kernel
theorem c_295_72 : pg_cd 295 72 = (3, 1, 0, 1, 0) := by decide +kernel
theorem c_295_73 : pg_cd 295 73 = (1, 1, 0, 0, (-1)) := by decide +kernel
theorem c_295_74 : pg_cd 295 74 = (80, 215, 121, 0, 0) := by decide +kernel
theorem c_295_77 : pg_cd 295 77 = (90, 0, 0, 0, 0) := by decide +kernel
theorem c_295_78 : pg_cd 295 78 = (5, 1, 0, 0, 0) := by decide +kernel
theorem c_295_79 : pg_cd 295 79 = (3, 1, 0, 1, 0) := by decide +kernel
theorem c_295_80 : pg_cd 295 80 = (1, 1, 0, 0, 2) := by decide +kernel
theorem c_295_81 : pg_cd 295 81 = (80, 198, 118, 0, 0) := by decide +kernel
theorem c_295_84 : pg_cd 295 84 = (90, 0, 0, 0, 0) := by decide +kernel
theorem c_295_85 : pg_cd 295 85 = (5, 1, 0, 0, 0) := by decide +kernel
theorem c_295_86 : pg_cd 295 86 = (3, 1, 0, 1, 0) := by decide +kernel
theorem c_295_87 : pg_cd 295 87 = (1, 1, 0, 0, 4) := by decide +kernel
theorem c_295_88 : pg_cd 295 88 = (80, 198, 118, 0, 0) := by decide +kernel
theorem c_295_91 : pg_cd 295 91 = (90, 0, 0, 0, 0) := by decide +kernel
theorem c_295_92 : pg_cd 295 92 = (5, 1, 0, 0, 0) := by decide +kernel
theorem c_295_93 : pg_cd 295 93 = (3, 1, 0, 1, 0) := by decide +kernel
theorem c_295_94 : pg_cd 295 94 = (1, 1, 0, 0, 5) := by decide +kernel
theorem c_295_95 : pg_cd 295 95 = (80, 198, 118, 0, 0) := by decide +kernel
theorem c_295_98 : pg_cd 295 98 = (90, 0, 0, 0, 0) := by decide +kernel
theorem c_295_99 : pg_cd 295 99 = (5, 1, 0, 0, 0) := by decide +kernel
theorem c_295_100 : pg_cd 295 100 = (3, 1, 0, 1, 0) := by decide +kernel
theorem c_295_101 : pg_cd 295 101 = (1, 2, 0, 0, 6) := by decide +kernel
theorem c_295_103 : pg_cd 295 103 = (80, 198, 118, 0, 0) := by decide +kernel
theorem c_295_106 : pg_cd 295 106 = (90, 0, 0, 0, 0) := by decide +kernel
theorem c_295_107 : pg_cd 295 107 = (5, 1, 0, 0, 0) := by decide +kernel
theorem c_295_108 : pg_cd 295 108 = (3, 1, 0, 1, 0) := by decide +kernel
theorem c_295_109 : pg_cd 295 109 = (1, 2, 0, 0, 7) := by decide +kernel
theorem c_295_111 : pg_cd 295 111 = (80, 198, 118, 0, 0) := by decide +kernel
theorem c_295_114 : pg_cd 295 114 = (90, 0, 0, 0, 0) := by decide +kernel
theorem c_295_115 : pg_cd 295 115 = (5, 1, 0, 0, 0) := by decide +kernel
theorem c_295_116 : pg_cd 295 116 = (3, 1, 0, 1, 0) := by decide +kernel
theorem c_295_117 : pg_cd 295 117 = (1, 2, 0, 0, 8) := by decide +kernel
theorem c_295_119 : pg_cd 295 119 = (80, 198, 118, 0, 0) := by decide +kernel
theorem c_295_122 : pg_cd 295 122 = (90, 0, 0, 0, 0) := by decide +kernel
theorem c_295_123 : pg_cd 295 123 = (5, 1, 0, 0, 0) := by decide +kernel
theorem c_295_124 : pg_cd 295 124 = (3, 1, 0, 1, 0) := by decide +kernel
theorem c_295_125 : pg_cd 295 125 = (1, 2, 0, 0, 9) := by decide +kernel
theorem c_295_127 : pg_cd 295 127 = (80, 198, 118, 0, 0) := by decide +kernel
theorem c_295_130 : pg_cd 295 130 = (90, 0, 0, 0, 0) := by decide +kernel
theorem c_295_131 : pg_cd 295 131 = (5, 1, 0, 0, 0) := by decide +kernel
theorem c_295_132 : pg_cd 295 132 = (3, 1, 0, 1, 0) := by decide +kernel
theorem c_295_133 : pg_cd 295 133 = (1, 2, 0, 0, 10) := by decide +kernel
theorem c_295_135 : pg_cd 295 135 = (80, 198, 118, 0, 0) := by decide +kernel
theorem c_295_138 : pg_cd 295 138 = (90, 0, 0, 0, 0) := by decide +kernel
theorem c_295_139 : pg_cd 295 139 = (1, 1, 0, 0, (-1)) := by decide +kernel
theorem c_295_140 : pg_cd 295 140 = (90, 0, 0, 0, 0) := by decide +kernel
theorem mi_295 : pg_mc 295 = 12 ∧ pg_na 295 = 2 ∧ pg_mx 295 = 3 := by decide +kernel
theorem sw_6 : pg_sw 6 = (128, 0, 9, [53, 60, 67, 74, 81, 88, 96, 104, 112, 120]) := by decide +kernel
set_option maxRecDepth 20000 in
theorem u_295_0 {d : Nat} {S : zS} {σ τ : zI} {Q : zQ} {x1 : Int} {x2 : Int} (t : (rg x1) ∧ (0 ≤ σ 84 1) ∧ if 0 ≤ x1 ∧ x1 < σ 84 1 then ((rg x2) ∧ if x2 = 0 then ((0 ≤ 3300 + 16 * x1 + 0 ∧ 3300 + 16 * x1 + 0 < 112300) ∧ Q (some (.int (wI (σ 84 (3300 + 16 * x1 + 0))))) S σ τ) else (if x2 = 1 then ((Jv (σ 84)) ∧ ∀ (v8 : Int), v8 = r_had (σ 84) x1 (-1) → 0 ≤ v8 ∧ v8 ≤ 3000 → Q (some (.int (wI v8))) S σ τ) else (if x2 = 2 then ((0 ≤ 3300 + 16 * x1 + 2 ∧ 3300 + 16 * x1 + 2 < 112300) ∧ Q (some (.int (wI (σ 84 (3300 + 16 * x1 + 2))))) S σ τ) else (if x2 = 3 then ((0 ≤ 3300 + 16 * x1 + 4 ∧ 3300 + 16 * x1 + 4 < 112300) ∧ Q (some (.int (wI (σ 84 (3300 + 16 * x1 + 4))))) S σ τ) else (if x2 = 4 then ((0 ≤ 3300 + 16 * x1 + 5 ∧ 3300 + 16 * x1 + 5 < 112300) ∧ Q (some (.int (wI (σ 84 (3300 + 16 * x1 + 5))))) S σ τ) else (if x2 = 5 then ((0 ≤ 3300 + 16 * x1 + 6 ∧ 3300 + 16 * x1 + 6 < 112300) ∧ Q (some (.int (wI (σ 84 (3300 + 16 * x1 + 6))))) S σ τ) else (if x2 = 6 then ((0 ≤ 3300 + 16 * x1 + 7 ∧ 3300 + 16 * x1 + 7 < 112300) ∧ Q (some (.int (wI (σ 84 (3300 + 16 * x1 + 7))))) S σ τ) else (if x2 = 7 then ((0 ≤ 3300 + 16 * x1 + 8 ∧ 3300 + 16 * x1 + 8 < 112300) ∧ Q (some (.int (wI (σ 84 (3300 + 16 * x1 + 8))))) S σ τ) else (if x2 = 8 then ((0 ≤ 3300 + 16 * x1 + 9 ∧ 3300 + 16 * x1 + 9 < 112300) ∧ Q (some (.int (wI (σ 84 (3300 + 16 * x1 + 9))))) S σ τ) else (if x2 = 9 then ((0 ≤ 3300 + 16 * x1 + 10 ∧ 3300 + 16 * x1 + 10 < 112300) ∧ Q (some (.int (wI (σ 84 (3300 + 16 * x1 + 10))))) S σ τ) else (Q (some (.int (wI (-1)))) S σ τ))))))))))) else (Q (some (.int (wI (-1)))) S σ τ)) : wi (d + 2) 295 0 [.ref 83, .int (wI x1), .int (wI x2)] [] S σ τ Q := by
  obtain ⟨r1, t⟩ := t
  obtain ⟨p2, t⟩ := t
  refine i5 c_295_0 rfl (i3 c_295_1 rfl ?_)
  refine i80 (As := [.int (wI x1)]) (rest := []) c_295_2 mi_201 rfl rfl (Nat.le_of_ble_eq_true rfl) (Nat.le_of_ble_eq_true rfl) (lo (c := 83) (kd := 112) (n := 0) rfl (by decide)) (q_201 r1 p2 ?_)
  show wi (d + 2) 295 5 [.ref 83, .int (wI x1), .int (wI x2)] [.int (wI (if 0 ≤ x1 ∧ x1 < σ 84 1 then 1 else 0))] S σ τ Q
  refine i36f c_295_5 rfl (fun hc => ?_) (fun hc => ?_)
  · have t := iT t hc
    have ha3 : 0 ≤ x1 ∧ x1 < σ 84 1 := hc
    obtain ⟨r4, t⟩ := t
    refine i3 c_295_10 rfl ?_
    by_cases e0 : x2 = 0
    · have t := iT t e0
      refine i42 (o := 53) c_295_11 sw_6 0 e0 (by decide) (by decide) rfl rfl ?_
      obtain ⟨p5, t⟩ := t
      refine i5 c_295_64 rfl (i3 c_295_65 rfl (i1 c_295_66 ?_))
      refine i80 (As := [.int (wI x1), .int (wI 0)]) (rest := []) c_295_67 mi_198 rfl rfl (Nat.le_of_ble_eq_true rfl) (Nat.le_of_ble_eq_true rfl) (lo (c := 83) (kd := 112) (n := 0) rfl (by decide)) (q_198 p5 ?_)
      show wi (d + 2) 295 70 [.ref 83, .int (wI x1), .int (wI x2)] [.int (wI (σ 84 (3300 + 16 * x1 + 0)))] S σ τ Q
      refine wi_ok (fun K6 => ?_)
      exact i90 c_295_70 t
    have t := iF t e0
    by_cases e1 : x2 = 1
    · have t := iT t e1
      refine i42 (o := 60) c_295_11 sw_6 1 e1 (by decide) (by decide) rfl rfl ?_
      obtain ⟨p7, t⟩ := t
      refine i5 c_295_71 rfl (i3 c_295_72 rfl (i1 c_295_73 ?_))
      refine i80 (As := [.int (wI x1), .int (wI (-1))]) (rest := []) c_295_74 mi_215 rfl rfl (Nat.le_of_ble_eq_true rfl) (Nat.le_of_ble_eq_true rfl) (lo (c := 83) (kd := 112) (n := 0) rfl (by decide)) (q_215 r1 (by decide) p7 (fun v8 q9 q10 => ?_))
      have t := t v8 q9 q10
      show wi (d + 2) 295 77 [.ref 83, .int (wI x1), .int (wI x2)] [.int (wI v8)] S σ τ Q
      exact i90 c_295_77 t
    have t := iF t e1
    by_cases e2 : x2 = 2
    · have t := iT t e2
      refine i42 (o := 67) c_295_11 sw_6 2 e2 (by decide) (by decide) rfl rfl ?_
      obtain ⟨p11, t⟩ := t
      refine i5 c_295_78 rfl (i3 c_295_79 rfl (i1 c_295_80 ?_))
      refine i80 (As := [.int (wI x1), .int (wI 2)]) (rest := []) c_295_81 mi_198 rfl rfl (Nat.le_of_ble_eq_true rfl) (Nat.le_of_ble_eq_true rfl) (lo (c := 83) (kd := 112) (n := 0) rfl (by decide)) (q_198 p11 ?_)
      show wi (d + 2) 295 84 [.ref 83, .int (wI x1), .int (wI x2)] [.int (wI (σ 84 (3300 + 16 * x1 + 2)))] S σ τ Q
      refine wi_ok (fun K12 => ?_)
      exact i90 c_295_84 t
    have t := iF t e2
    by_cases e3 : x2 = 3
    · have t := iT t e3
      refine i42 (o := 74) c_295_11 sw_6 3 e3 (by decide) (by decide) rfl rfl ?_
      obtain ⟨p13, t⟩ := t
      refine i5 c_295_85 rfl (i3 c_295_86 rfl (i1 c_295_87 ?_))
      refine i80 (As := [.int (wI x1), .int (wI 4)]) (rest := []) c_295_88 mi_198 rfl rfl (Nat.le_of_ble_eq_true rfl) (Nat.le_of_ble_eq_true rfl) (lo (c := 83) (kd := 112) (n := 0) rfl (by decide)) (q_198 p13 ?_)
      show wi (d + 2) 295 91 [.ref 83, .int (wI x1), .int (wI x2)] [.int (wI (σ 84 (3300 + 16 * x1 + 4)))] S σ τ Q
      refine wi_ok (fun K14 => ?_)
      exact i90 c_295_91 t
    have t := iF t e3
    by_cases e4 : x2 = 4
    · have t := iT t e4
      refine i42 (o := 81) c_295_11 sw_6 4 e4 (by decide) (by decide) rfl rfl ?_
      obtain ⟨p15, t⟩ := t
      refine i5 c_295_92 rfl (i3 c_295_93 rfl (i1 c_295_94 ?_))
      refine i80 (As := [.int (wI x1), .int (wI 5)]) (rest := []) c_295_95 mi_198 rfl rfl (Nat.le_of_ble_eq_true rfl) (Nat.le_of_ble_eq_true rfl) (lo (c := 83) (kd := 112) (n := 0) rfl (by decide)) (q_198 p15 ?_)
      show wi (d + 2) 295 98 [.ref 83, .int (wI x1), .int (wI x2)] [.int (wI (σ 84 (3300 + 16 * x1 + 5)))] S σ τ Q
      refine wi_ok (fun K16 => ?_)
      exact i90 c_295_98 t
    have t := iF t e4
    by_cases e5 : x2 = 5
    · have t := iT t e5
      refine i42 (o := 88) c_295_11 sw_6 5 e5 (by decide) (by decide) rfl rfl ?_
      obtain ⟨p17, t⟩ := t
      refine i5 c_295_99 rfl (i3 c_295_100 rfl (i1 c_295_101 ?_))
      refine i80 (As := [.int (wI x1), .int (wI 6)]) (rest := []) c_295_103 mi_198 rfl rfl (Nat.le_of_ble_eq_true rfl) (Nat.le_of_ble_eq_true rfl) (lo (c := 83) (kd := 112) (n := 0) rfl (by decide)) (q_198 p17 ?_)
      show wi (d + 2) 295 106 [.ref 83, .int (wI x1), .int (wI x2)] [.int (wI (σ 84 (3300 + 16 * x1 + 6)))] S σ τ Q
      refine wi_ok (fun K18 => ?_)
      exact i90 c_295_106 t
    have t := iF t e5
    by_cases e6 : x2 = 6
    · have t := iT t e6
      refine i42 (o := 96) c_295_11 sw_6 6 e6 (by decide) (by decide) rfl rfl ?_
      obtain ⟨p19, t⟩ := t
      refine i5 c_295_107 rfl (i3 c_295_108 rfl (i1 c_295_109 ?_))
      refine i80 (As := [.int (wI x1), .int (wI 7)]) (rest := []) c_295_111 mi_198 rfl rfl (Nat.le_of_ble_eq_true rfl) (Nat.le_of_ble_eq_true rfl) (lo (c := 83) (kd := 112) (n := 0) rfl (by decide)) (q_198 p19 ?_)
      show wi (d + 2) 295 114 [.ref 83, .int (wI x1), .int (wI x2)] [.int (wI (σ 84 (3300 + 16 * x1 + 7)))] S σ τ Q
      refine wi_ok (fun K20 => ?_)
      exact i90 c_295_114 t
    have t := iF t e6
    by_cases e7 : x2 = 7
    · have t := iT t e7
      refine i42 (o := 104) c_295_11 sw_6 7 e7 (by decide) (by decide) rfl rfl ?_
      obtain ⟨p21, t⟩ := t
      refine i5 c_295_115 rfl (i3 c_295_116 rfl (i1 c_295_117 ?_))
      refine i80 (As := [.int (wI x1), .int (wI 8)]) (rest := []) c_295_119 mi_198 rfl rfl (Nat.le_of_ble_eq_true rfl) (Nat.le_of_ble_eq_true rfl) (lo (c := 83) (kd := 112) (n := 0) rfl (by decide)) (q_198 p21 ?_)
      show wi (d + 2) 295 122 [.ref 83, .int (wI x1), .int (wI x2)] [.int (wI (σ 84 (3300 + 16 * x1 + 8)))] S σ τ Q
      refine wi_ok (fun K22 => ?_)
      exact i90 c_295_122 t
    have t := iF t e7
    by_cases e8 : x2 = 8
    · have t := iT t e8
      refine i42 (o := 112) c_295_11 sw_6 8 e8 (by decide) (by decide) rfl rfl ?_
      obtain ⟨p23, t⟩ := t
      refine i5 c_295_123 rfl (i3 c_295_124 rfl (i1 c_295_125 ?_))
      refine i80 (As := [.int (wI x1), .int (wI 9)]) (rest := []) c_295_127 mi_198 rfl rfl (Nat.le_of_ble_eq_true rfl) (Nat.le_of_ble_eq_true rfl) (lo (c := 83) (kd := 112) (n := 0) rfl (by decide)) (q_198 p23 ?_)
      show wi (d + 2) 295 130 [.ref 83, .int (wI x1), .int (wI x2)] [.int (wI (σ 84 (3300 + 16 * x1 + 9)))] S σ τ Q
      refine wi_ok (fun K24 => ?_)
      exact i90 c_295_130 t
    have t := iF t e8
    by_cases e9 : x2 = 9
    · have t := iT t e9
      refine i42 (o := 120) c_295_11 sw_6 9 e9 (by decide) (by decide) rfl rfl ?_
      obtain ⟨p25, t⟩ := t
      refine i5 c_295_131 rfl (i3 c_295_132 rfl (i1 c_295_133 ?_))
      refine i80 (As := [.int (wI x1), .int (wI 10)]) (rest := []) c_295_135 mi_198 rfl rfl (Nat.le_of_ble_eq_true rfl) (Nat.le_of_ble_eq_true rfl) (lo (c := 83) (kd := 112) (n := 0) rfl (by decide)) (q_198 p25 ?_)
      show wi (d + 2) 295 138 [.ref 83, .int (wI x1), .int (wI x2)] [.int (wI (σ 84 (3300 + 16 * x1 + 10)))] S σ τ Q
      refine wi_ok (fun K26 => ?_)
      exact i90 c_295_138 t
    have t := iF t e9
    refine i42d c_295_11 sw_6 r4 (by omega) rfl ?_
    refine i1 c_295_139 ?_
    exact i90 c_295_140 t
  · have t := iF t hc
    have ha3 : ¬ (0 ≤ x1 ∧ x1 < σ 84 1) := hc
    refine i1 c_295_8 ?_
    exact i90 c_295_9 t
theorem q_295 {d : Nat} {S : zS} {σ τ : zI} {Q : zQ} {mill : Int} {what : Int} (p0 : rg mill) (p1 : rg what) (p2 : Jv (σ 84)) (t : Q (some (.int (wI (v_millOf (σ 84) mill what)))) S σ τ) : wc (d + 2) 295 [.ref 83, .int (wI mill), .int (wI what)] S σ τ Q := by
  have hC := jC p2
  unfold jv_C at hC
  refine wc_of mi_295 rfl (u_295_0 ⟨p0, by omega, ?_⟩)
  unfold v_millOf at t
  by_cases b1 : 0 ≤ mill ∧ mill < σ 84 1
  · rw [if_pos b1] at t
    rw [if_pos b1]
    refine ⟨p1, ?_⟩
    repeat' (first | exact t | (intro v hv hb; subst hv; exact t) | refine ⟨by omega, ?_⟩ | refine ⟨by assumption, ?_⟩ | (split at t) | (rw [if_pos (by assumption)]) | (rw [if_neg (by assumption)]) | (exfalso; omega))
  · rw [if_neg b1] at t
    rw [if_neg b1]
    exact t
-- method 298: MillTownModel.personOf(II)I
theorem c_298_0 : pg_cd 298 0 = (5, 1, 0, 0, 0) := by decide +kernel
theorem c_298_1 : pg_cd 298 1 = (3, 1, 0, 1, 0) := by decide +kernel
theorem c_298_2 : pg_cd 298 2 = (80, 203, 109, 0, 0) := by decide +kernel
theorem c_298_5 : pg_cd 298 5 = (36, 3, 0, 1, 5) := by decide +kernel
theorem c_298_8 : pg_cd 298 8 = (1, 1, 0, 0, (-1)) := by decide +kernel
theorem c_298_9 : pg_cd 298 9 = (90, 0, 0, 0, 0) := by decide +kernel
theorem c_298_10 : pg_cd 298 10 = (3, 1, 0, 2, 0) := by decide +kernel
theorem c_298_11 : pg_cd 298 11 = (42, 8, 49, 0, 0) := by decide +kernel
theorem c_298_60 : pg_cd 298 60 = (5, 1, 0, 0, 0) := by decide +kernel
theorem c_298_61 : pg_cd 298 61 = (3, 1, 0, 1, 0) := by decide +kernel
theorem c_298_62 : pg_cd 298 62 = (1, 1, 0, 0, 0) := by decide +kernel
theorem c_298_63 : pg_cd 298 63 = (80, 199, 102, 0, 0) := by decide +kernel
theorem c_298_66 : pg_cd 298 66 = (90, 0, 0, 0, 0) := by decide +kernel
theorem c_298_67 : pg_cd 298 67 = (5, 1, 0, 0, 0) := by decide +kernel
theorem c_298_68 : pg_cd 298 68 = (3, 1, 0, 1, 0) := by decide +kernel
theorem c_298_69 : pg_cd 298 69 = (1, 1, 0, 0, 1) := by decide +kernel
theorem c_298_70 : pg_cd 298 70 = (80, 199, 102, 0, 0) := by decide +kernel
theorem c_298_73 : pg_cd 298 73 = (90, 0, 0, 0, 0) := by decide +kernel
theorem c_298_74 : pg_cd 298 74 = (5, 1, 0, 0, 0) := by decide +kernel
theorem c_298_75 : pg_cd 298 75 = (3, 1, 0, 1, 0) := by decide +kernel
theorem c_298_76 : pg_cd 298 76 = (1, 1, 0, 0, 2) := by decide +kernel
theorem c_298_77 : pg_cd 298 77 = (80, 199, 102, 0, 0) := by decide +kernel
theorem c_298_80 : pg_cd 298 80 = (90, 0, 0, 0, 0) := by decide +kernel
theorem c_298_81 : pg_cd 298 81 = (5, 1, 0, 0, 0) := by decide +kernel
theorem c_298_82 : pg_cd 298 82 = (3, 1, 0, 1, 0) := by decide +kernel
theorem c_298_83 : pg_cd 298 83 = (1, 1, 0, 0, 3) := by decide +kernel
theorem c_298_84 : pg_cd 298 84 = (80, 199, 102, 0, 0) := by decide +kernel
theorem c_298_87 : pg_cd 298 87 = (90, 0, 0, 0, 0) := by decide +kernel
theorem c_298_88 : pg_cd 298 88 = (5, 1, 0, 0, 0) := by decide +kernel
theorem c_298_89 : pg_cd 298 89 = (3, 1, 0, 1, 0) := by decide +kernel
theorem c_298_90 : pg_cd 298 90 = (1, 1, 0, 0, 4) := by decide +kernel
theorem c_298_91 : pg_cd 298 91 = (80, 199, 102, 0, 0) := by decide +kernel
theorem c_298_94 : pg_cd 298 94 = (90, 0, 0, 0, 0) := by decide +kernel
theorem c_298_95 : pg_cd 298 95 = (5, 1, 0, 0, 0) := by decide +kernel
theorem c_298_96 : pg_cd 298 96 = (3, 1, 0, 1, 0) := by decide +kernel
theorem c_298_97 : pg_cd 298 97 = (1, 1, 0, 0, 5) := by decide +kernel
theorem c_298_98 : pg_cd 298 98 = (80, 199, 102, 0, 0) := by decide +kernel
theorem c_298_101 : pg_cd 298 101 = (90, 0, 0, 0, 0) := by decide +kernel
theorem c_298_102 : pg_cd 298 102 = (5, 1, 0, 0, 0) := by decide +kernel
theorem c_298_103 : pg_cd 298 103 = (3, 1, 0, 1, 0) := by decide +kernel
theorem c_298_104 : pg_cd 298 104 = (1, 2, 0, 0, 6) := by decide +kernel
theorem c_298_106 : pg_cd 298 106 = (80, 199, 102, 0, 0) := by decide +kernel
theorem c_298_109 : pg_cd 298 109 = (90, 0, 0, 0, 0) := by decide +kernel
theorem c_298_110 : pg_cd 298 110 = (5, 1, 0, 0, 0) := by decide +kernel
theorem c_298_111 : pg_cd 298 111 = (3, 1, 0, 1, 0) := by decide +kernel
theorem c_298_112 : pg_cd 298 112 = (1, 2, 0, 0, 7) := by decide +kernel
theorem c_298_114 : pg_cd 298 114 = (80, 199, 102, 0, 0) := by decide +kernel
theorem c_298_117 : pg_cd 298 117 = (90, 0, 0, 0, 0) := by decide +kernel
theorem c_298_118 : pg_cd 298 118 = (5, 1, 0, 0, 0) := by decide +kernel
theorem c_298_119 : pg_cd 298 119 = (3, 1, 0, 1, 0) := by decide +kernel
theorem c_298_120 : pg_cd 298 120 = (1, 2, 0, 0, 8) := by decide +kernel
theorem c_298_122 : pg_cd 298 122 = (80, 199, 102, 0, 0) := by decide +kernel
theorem c_298_125 : pg_cd 298 125 = (90, 0, 0, 0, 0) := by decide +kernel
theorem c_298_126 : pg_cd 298 126 = (1, 1, 0, 0, (-1)) := by decide +kernel
theorem c_298_127 : pg_cd 298 127 = (90, 0, 0, 0, 0) := by decide +kernel
theorem mi_298 : pg_mc 298 = 12 ∧ pg_na 298 = 2 ∧ pg_mx 298 = 3 := by decide +kernel
theorem sw_8 : pg_sw 8 = (115, 0, 8, [49, 56, 63, 70, 77, 84, 91, 99, 107]) := by decide +kernel
set_option maxRecDepth 20000 in
theorem u_298_0 {d : Nat} {S : zS} {σ τ : zI} {Q : zQ} {x1 : Int} {x2 : Int} (t : (rg x1) ∧ (0 ≤ σ 84 4) ∧ if 0 ≤ x1 ∧ x1 < σ 84 4 then ((rg x2) ∧ if x2 = 0 then ((0 ≤ 3652 + 12 * x1 + 0 ∧ 3652 + 12 * x1 + 0 < 112300) ∧ Q (some (.int (wI (σ 84 (3652 + 12 * x1 + 0))))) S σ τ) else (if x2 = 1 then ((0 ≤ 3652 + 12 * x1 + 1 ∧ 3652 + 12 * x1 + 1 < 112300) ∧ Q (some (.int (wI (σ 84 (3652 + 12 * x1 + 1))))) S σ τ) else (if x2 = 2 then ((0 ≤ 3652 + 12 * x1 + 2 ∧ 3652 + 12 * x1 + 2 < 112300) ∧ Q (some (.int (wI (σ 84 (3652 + 12 * x1 + 2))))) S σ τ) else (if x2 = 3 then ((0 ≤ 3652 + 12 * x1 + 3 ∧ 3652 + 12 * x1 + 3 < 112300) ∧ Q (some (.int (wI (σ 84 (3652 + 12 * x1 + 3))))) S σ τ) else (if x2 = 4 then ((0 ≤ 3652 + 12 * x1 + 4 ∧ 3652 + 12 * x1 + 4 < 112300) ∧ Q (some (.int (wI (σ 84 (3652 + 12 * x1 + 4))))) S σ τ) else (if x2 = 5 then ((0 ≤ 3652 + 12 * x1 + 5 ∧ 3652 + 12 * x1 + 5 < 112300) ∧ Q (some (.int (wI (σ 84 (3652 + 12 * x1 + 5))))) S σ τ) else (if x2 = 6 then ((0 ≤ 3652 + 12 * x1 + 6 ∧ 3652 + 12 * x1 + 6 < 112300) ∧ Q (some (.int (wI (σ 84 (3652 + 12 * x1 + 6))))) S σ τ) else (if x2 = 7 then ((0 ≤ 3652 + 12 * x1 + 7 ∧ 3652 + 12 * x1 + 7 < 112300) ∧ Q (some (.int (wI (σ 84 (3652 + 12 * x1 + 7))))) S σ τ) else (if x2 = 8 then ((0 ≤ 3652 + 12 * x1 + 8 ∧ 3652 + 12 * x1 + 8 < 112300) ∧ Q (some (.int (wI (σ 84 (3652 + 12 * x1 + 8))))) S σ τ) else (Q (some (.int (wI (-1)))) S σ τ)))))))))) else (Q (some (.int (wI (-1)))) S σ τ)) : wi (d + 2) 298 0 [.ref 83, .int (wI x1), .int (wI x2)] [] S σ τ Q := by
  obtain ⟨r1, t⟩ := t
  obtain ⟨p2, t⟩ := t
  refine i5 c_298_0 rfl (i3 c_298_1 rfl ?_)
  refine i80 (As := [.int (wI x1)]) (rest := []) c_298_2 mi_203 rfl rfl (Nat.le_of_ble_eq_true rfl) (Nat.le_of_ble_eq_true rfl) (lo (c := 83) (kd := 112) (n := 0) rfl (by decide)) (q_203 r1 p2 ?_)
  show wi (d + 2) 298 5 [.ref 83, .int (wI x1), .int (wI x2)] [.int (wI (if 0 ≤ x1 ∧ x1 < σ 84 4 then 1 else 0))] S σ τ Q
  refine i36f c_298_5 rfl (fun hc => ?_) (fun hc => ?_)
  · have t := iT t hc
    have ha3 : 0 ≤ x1 ∧ x1 < σ 84 4 := hc
    obtain ⟨r4, t⟩ := t
    refine i3 c_298_10 rfl ?_
    by_cases e0 : x2 = 0
    · have t := iT t e0
      refine i42 (o := 49) c_298_11 sw_8 0 e0 (by decide) (by decide) rfl rfl ?_
      obtain ⟨p5, t⟩ := t
      refine i5 c_298_60 rfl (i3 c_298_61 rfl (i1 c_298_62 ?_))
      refine i80 (As := [.int (wI x1), .int (wI 0)]) (rest := []) c_298_63 mi_199 rfl rfl (Nat.le_of_ble_eq_true rfl) (Nat.le_of_ble_eq_true rfl) (lo (c := 83) (kd := 112) (n := 0) rfl (by decide)) (q_199 p5 ?_)
      show wi (d + 2) 298 66 [.ref 83, .int (wI x1), .int (wI x2)] [.int (wI (σ 84 (3652 + 12 * x1 + 0)))] S σ τ Q
      refine wi_ok (fun K6 => ?_)
      exact i90 c_298_66 t
    have t := iF t e0
    by_cases e1 : x2 = 1
    · have t := iT t e1
      refine i42 (o := 56) c_298_11 sw_8 1 e1 (by decide) (by decide) rfl rfl ?_
      obtain ⟨p7, t⟩ := t
      refine i5 c_298_67 rfl (i3 c_298_68 rfl (i1 c_298_69 ?_))
      refine i80 (As := [.int (wI x1), .int (wI 1)]) (rest := []) c_298_70 mi_199 rfl rfl (Nat.le_of_ble_eq_true rfl) (Nat.le_of_ble_eq_true rfl) (lo (c := 83) (kd := 112) (n := 0) rfl (by decide)) (q_199 p7 ?_)
      show wi (d + 2) 298 73 [.ref 83, .int (wI x1), .int (wI x2)] [.int (wI (σ 84 (3652 + 12 * x1 + 1)))] S σ τ Q
      refine wi_ok (fun K8 => ?_)
      exact i90 c_298_73 t
    have t := iF t e1
    by_cases e2 : x2 = 2
    · have t := iT t e2
      refine i42 (o := 63) c_298_11 sw_8 2 e2 (by decide) (by decide) rfl rfl ?_
      obtain ⟨p9, t⟩ := t
      refine i5 c_298_74 rfl (i3 c_298_75 rfl (i1 c_298_76 ?_))
      refine i80 (As := [.int (wI x1), .int (wI 2)]) (rest := []) c_298_77 mi_199 rfl rfl (Nat.le_of_ble_eq_true rfl) (Nat.le_of_ble_eq_true rfl) (lo (c := 83) (kd := 112) (n := 0) rfl (by decide)) (q_199 p9 ?_)
      show wi (d + 2) 298 80 [.ref 83, .int (wI x1), .int (wI x2)] [.int (wI (σ 84 (3652 + 12 * x1 + 2)))] S σ τ Q
      refine wi_ok (fun K10 => ?_)
      exact i90 c_298_80 t
    have t := iF t e2
    by_cases e3 : x2 = 3
    · have t := iT t e3
      refine i42 (o := 70) c_298_11 sw_8 3 e3 (by decide) (by decide) rfl rfl ?_
      obtain ⟨p11, t⟩ := t
      refine i5 c_298_81 rfl (i3 c_298_82 rfl (i1 c_298_83 ?_))
      refine i80 (As := [.int (wI x1), .int (wI 3)]) (rest := []) c_298_84 mi_199 rfl rfl (Nat.le_of_ble_eq_true rfl) (Nat.le_of_ble_eq_true rfl) (lo (c := 83) (kd := 112) (n := 0) rfl (by decide)) (q_199 p11 ?_)
      show wi (d + 2) 298 87 [.ref 83, .int (wI x1), .int (wI x2)] [.int (wI (σ 84 (3652 + 12 * x1 + 3)))] S σ τ Q
      refine wi_ok (fun K12 => ?_)
      exact i90 c_298_87 t
    have t := iF t e3
    by_cases e4 : x2 = 4
    · have t := iT t e4
      refine i42 (o := 77) c_298_11 sw_8 4 e4 (by decide) (by decide) rfl rfl ?_
      obtain ⟨p13, t⟩ := t
      refine i5 c_298_88 rfl (i3 c_298_89 rfl (i1 c_298_90 ?_))
      refine i80 (As := [.int (wI x1), .int (wI 4)]) (rest := []) c_298_91 mi_199 rfl rfl (Nat.le_of_ble_eq_true rfl) (Nat.le_of_ble_eq_true rfl) (lo (c := 83) (kd := 112) (n := 0) rfl (by decide)) (q_199 p13 ?_)
      show wi (d + 2) 298 94 [.ref 83, .int (wI x1), .int (wI x2)] [.int (wI (σ 84 (3652 + 12 * x1 + 4)))] S σ τ Q
      refine wi_ok (fun K14 => ?_)
      exact i90 c_298_94 t
    have t := iF t e4
    by_cases e5 : x2 = 5
    · have t := iT t e5
      refine i42 (o := 84) c_298_11 sw_8 5 e5 (by decide) (by decide) rfl rfl ?_
      obtain ⟨p15, t⟩ := t
      refine i5 c_298_95 rfl (i3 c_298_96 rfl (i1 c_298_97 ?_))
      refine i80 (As := [.int (wI x1), .int (wI 5)]) (rest := []) c_298_98 mi_199 rfl rfl (Nat.le_of_ble_eq_true rfl) (Nat.le_of_ble_eq_true rfl) (lo (c := 83) (kd := 112) (n := 0) rfl (by decide)) (q_199 p15 ?_)
      show wi (d + 2) 298 101 [.ref 83, .int (wI x1), .int (wI x2)] [.int (wI (σ 84 (3652 + 12 * x1 + 5)))] S σ τ Q
      refine wi_ok (fun K16 => ?_)
      exact i90 c_298_101 t
    have t := iF t e5
    by_cases e6 : x2 = 6
    · have t := iT t e6
      refine i42 (o := 91) c_298_11 sw_8 6 e6 (by decide) (by decide) rfl rfl ?_
      obtain ⟨p17, t⟩ := t
      refine i5 c_298_102 rfl (i3 c_298_103 rfl (i1 c_298_104 ?_))
      refine i80 (As := [.int (wI x1), .int (wI 6)]) (rest := []) c_298_106 mi_199 rfl rfl (Nat.le_of_ble_eq_true rfl) (Nat.le_of_ble_eq_true rfl) (lo (c := 83) (kd := 112) (n := 0) rfl (by decide)) (q_199 p17 ?_)
      show wi (d + 2) 298 109 [.ref 83, .int (wI x1), .int (wI x2)] [.int (wI (σ 84 (3652 + 12 * x1 + 6)))] S σ τ Q
      refine wi_ok (fun K18 => ?_)
      exact i90 c_298_109 t
    have t := iF t e6
    by_cases e7 : x2 = 7
    · have t := iT t e7
      refine i42 (o := 99) c_298_11 sw_8 7 e7 (by decide) (by decide) rfl rfl ?_
      obtain ⟨p19, t⟩ := t
      refine i5 c_298_110 rfl (i3 c_298_111 rfl (i1 c_298_112 ?_))
      refine i80 (As := [.int (wI x1), .int (wI 7)]) (rest := []) c_298_114 mi_199 rfl rfl (Nat.le_of_ble_eq_true rfl) (Nat.le_of_ble_eq_true rfl) (lo (c := 83) (kd := 112) (n := 0) rfl (by decide)) (q_199 p19 ?_)
      show wi (d + 2) 298 117 [.ref 83, .int (wI x1), .int (wI x2)] [.int (wI (σ 84 (3652 + 12 * x1 + 7)))] S σ τ Q
      refine wi_ok (fun K20 => ?_)
      exact i90 c_298_117 t
    have t := iF t e7
    by_cases e8 : x2 = 8
    · have t := iT t e8
      refine i42 (o := 107) c_298_11 sw_8 8 e8 (by decide) (by decide) rfl rfl ?_
      obtain ⟨p21, t⟩ := t
      refine i5 c_298_118 rfl (i3 c_298_119 rfl (i1 c_298_120 ?_))
      refine i80 (As := [.int (wI x1), .int (wI 8)]) (rest := []) c_298_122 mi_199 rfl rfl (Nat.le_of_ble_eq_true rfl) (Nat.le_of_ble_eq_true rfl) (lo (c := 83) (kd := 112) (n := 0) rfl (by decide)) (q_199 p21 ?_)
      show wi (d + 2) 298 125 [.ref 83, .int (wI x1), .int (wI x2)] [.int (wI (σ 84 (3652 + 12 * x1 + 8)))] S σ τ Q
      refine wi_ok (fun K22 => ?_)
      exact i90 c_298_125 t
    have t := iF t e8
    refine i42d c_298_11 sw_8 r4 (by omega) rfl ?_
    refine i1 c_298_126 ?_
    exact i90 c_298_127 t
  · have t := iF t hc
    have ha3 : ¬ (0 ≤ x1 ∧ x1 < σ 84 4) := hc
    refine i1 c_298_8 ?_
    exact i90 c_298_9 t
theorem q_298 {d : Nat} {S : zS} {σ τ : zI} {Q : zQ} {person : Int} {what : Int} (p0 : rg person) (p1 : rg what) (p2 : 0 ≤ σ 84 4 ∧ σ 84 4 ≤ 60) (t : Q (some (.int (wI (v_personOf (σ 84) person what)))) S σ τ) : wc (d + 2) 298 [.ref 83, .int (wI person), .int (wI what)] S σ τ Q := by
  refine wc_of mi_298 rfl (u_298_0 ⟨p0, by omega, ?_⟩)
  unfold v_personOf at t
  by_cases b1 : 0 ≤ person ∧ person < σ 84 4
  · rw [if_pos b1]
    refine ⟨p1, ?_⟩
    by_cases b2 : 0 ≤ what ∧ what ≤ 8
    · rw [if_pos ⟨b1, b2⟩] at t
      repeat' (first | (exfalso; omega) | (rename_i e; subst e; exact t) | refine ⟨by omega, ?_⟩ | refine ifI (fun _ => ?_) (fun _ => ?_))
    · rw [if_neg (fun q => b2 q.2)] at t
      repeat' (first | exact t | (exfalso; omega) | refine ⟨by omega, ?_⟩ | refine ifI (fun _ => ?_) (fun _ => ?_))
  · rw [if_neg (fun q => b1 q.1)] at t
    rw [if_neg b1]
    exact t
-- method 300: MillTownModel.orderOf(II)I
theorem c_300_0 : pg_cd 300 0 = (3, 1, 0, 1, 0) := by decide +kernel
theorem c_300_1 : pg_cd 300 1 = (1, 1, 0, 0, 0) := by decide +kernel
theorem c_300_2 : pg_cd 300 2 = (5, 1, 0, 0, 0) := by decide +kernel
theorem c_300_3 : pg_cd 300 3 = (45, 12, 8, 0, 0) := by decide +kernel
theorem c_300_6 : pg_cd 300 6 = (1, 2, 0, 0, 7) := by decide +kernel
theorem c_300_8 : pg_cd 300 8 = (50, 1, 0, 0, 0) := by decide +kernel
theorem c_300_9 : pg_cd 300 9 = (1, 1, 0, 0, 1) := by decide +kernel
theorem c_300_10 : pg_cd 300 10 = (11, 1, 0, 0, 0) := by decide +kernel
theorem c_300_11 : pg_cd 300 11 = (81, 196, 76, 0, 0) := by decide +kernel
theorem c_300_14 : pg_cd 300 14 = (36, 3, 0, 0, 30) := by decide +kernel
theorem c_300_17 : pg_cd 300 17 = (3, 1, 0, 2, 0) := by decide +kernel
theorem c_300_18 : pg_cd 300 18 = (1, 1, 0, 0, 0) := by decide +kernel
theorem c_300_19 : pg_cd 300 19 = (1, 1, 0, 0, 4) := by decide +kernel
theorem c_300_20 : pg_cd 300 20 = (81, 196, 76, 0, 0) := by decide +kernel
theorem c_300_23 : pg_cd 300 23 = (36, 3, 0, 0, 21) := by decide +kernel
theorem c_300_26 : pg_cd 300 26 = (5, 1, 0, 0, 0) := by decide +kernel
theorem c_300_27 : pg_cd 300 27 = (45, 12, 8, 0, 0) := by decide +kernel
theorem c_300_30 : pg_cd 300 30 = (1, 3, 0, 0, 4372) := by decide +kernel
theorem c_300_33 : pg_cd 300 33 = (1, 2, 0, 0, 8) := by decide +kernel
theorem c_300_35 : pg_cd 300 35 = (3, 1, 0, 1, 0) := by decide +kernel
theorem c_300_36 : pg_cd 300 36 = (12, 1, 0, 0, 0) := by decide +kernel
theorem c_300_37 : pg_cd 300 37 = (10, 1, 0, 0, 0) := by decide +kernel
theorem c_300_38 : pg_cd 300 38 = (3, 1, 0, 2, 0) := by decide +kernel
theorem c_300_39 : pg_cd 300 39 = (10, 1, 0, 0, 0) := by decide +kernel
theorem c_300_40 : pg_cd 300 40 = (50, 1, 0, 0, 0) := by decide +kernel
theorem c_300_41 : pg_cd 300 41 = (38, 3, 0, 0, 4) := by decide +kernel
theorem c_300_44 : pg_cd 300 44 = (1, 1, 0, 0, (-1)) := by decide +kernel
theorem c_300_45 : pg_cd 300 45 = (90, 0, 0, 0, 0) := by decide +kernel
theorem mi_300 : pg_mc 300 = 12 ∧ pg_na 300 = 2 ∧ pg_mx 300 = 3 := by decide +kernel
set_option maxRecDepth 20000 in
theorem u_300_0 {d : Nat} {S : zS} {σ τ : zI} {Q : zQ} {x1 : Int} {x2 : Int} (t : (rg x1) ∧ (rg ((σ 84 7) - 1)) ∧ if 0 ≤ x1 ∧ x1 ≤ ((σ 84 7) - 1) then ((rg x2) ∧ if 0 ≤ x2 ∧ x2 ≤ 4 then ((0 ≤ (4372 + (8 * x1)) + x2 ∧ (4372 + (8 * x1)) + x2 < 112300) ∧ Q (some (.int (wI (σ 84 ((4372 + (8 * x1)) + x2))))) S σ τ) else (Q (some (.int (wI (-1)))) S σ τ)) else (Q (some (.int (wI (-1)))) S σ τ)) : wi (d + 1) 300 0 [.ref 83, .int (wI x1), .int (wI x2)] [] S σ τ Q := by
  refine i3 c_300_0 rfl (i1 c_300_1 (i5 c_300_2 rfl (i45 c_300_3 (lo (c := 83) (kd := 112) (n := 0) rfl (by decide)) (lro (c := 83) (k := 0) (j := 84) (by decide)) (i1 c_300_6 (wi_ok (fun K1 => ?_))))))
  obtain ⟨r2, t⟩ := t
  obtain ⟨r3, t⟩ := t
  refine i50 (v := σ 84 7) c_300_8 (lo (c := 84) (kd := 0) (n := 112300) rfl (by decide)) (by decide) (by decide) rfl (i1 c_300_9 (i11 c_300_10 ?_))
  refine i81 (As := [.int (wI x1), .int (wI 0), .int (wI ((σ 84 7) - 1))]) (rest := []) c_300_11 mi_196 rfl rfl (Nat.le_of_ble_eq_true rfl) (Nat.le_of_ble_eq_true rfl) (q_196 r2 (by decide) r3 ?_)
  show wi (d + 1) 300 14 [.ref 83, .int (wI x1), .int (wI x2)] [.int (wI (if 0 ≤ x1 ∧ x1 ≤ ((σ 84 7) - 1) then 1 else 0))] S σ τ Q
  refine i36e c_300_14 rfl (fun hc => ?_) (fun hc => ?_)
  · have t := iT t hc
    have ha4 : 0 ≤ x1 ∧ x1 ≤ ((σ 84 7) - 1) := hc
    obtain ⟨r5, t⟩ := t
    refine i3 c_300_17 rfl (i1 c_300_18 (i1 c_300_19 ?_))
    refine i81 (As := [.int (wI x2), .int (wI 0), .int (wI 4)]) (rest := []) c_300_20 mi_196 rfl rfl (Nat.le_of_ble_eq_true rfl) (Nat.le_of_ble_eq_true rfl) (q_196 r5 (by decide) (by decide) ?_)
    show wi (d + 1) 300 23 [.ref 83, .int (wI x1), .int (wI x2)] [.int (wI (if 0 ≤ x2 ∧ x2 ≤ 4 then 1 else 0))] S σ τ Q
    refine i36e c_300_23 rfl (fun hc => ?_) (fun hc => ?_)
    · have t := iT t hc
      have ha6 : 0 ≤ x2 ∧ x2 ≤ 4 := hc
      obtain ⟨r7, t⟩ := t
      refine i5 c_300_26 rfl (i45 c_300_27 (lo (c := 83) (kd := 112) (n := 0) rfl (by decide)) (lro (c := 83) (k := 0) (j := 84) (by decide)) (i1 c_300_30 (i1 c_300_33 (i3 c_300_35 rfl (i12 c_300_36 (i10 c_300_37 (i3 c_300_38 rfl (i10 c_300_39 (i50 (v := σ 84 ((4372 + (8 * x1)) + x2)) c_300_40 (lo (c := 84) (kd := 0) (n := 112300) rfl (by decide)) (by decide) r7 rfl (i38 c_300_41 rfl ?_))))))))))
      exact i90 c_300_45 t
    · have t := iF t hc
      have ha6 : ¬ (0 ≤ x2 ∧ x2 ≤ 4) := hc
      refine i1 c_300_44 ?_
      exact i90 c_300_45 t
  · have t := iF t hc
    have ha4 : ¬ (0 ≤ x1 ∧ x1 ≤ ((σ 84 7) - 1)) := hc
    refine i1 c_300_44 ?_
    exact i90 c_300_45 t
theorem q_300 {d : Nat} {S : zS} {σ τ : zI} {Q : zQ} {order : Int} {what : Int} (p0 : rg order) (p1 : rg what) (p2 : 0 ≤ σ 84 7 ∧ σ 84 7 ≤ 80) (t : Q (some (.int (wI (v_orderOf (σ 84) order what)))) S σ τ) : wc (d + 1) 300 [.ref 83, .int (wI order), .int (wI what)] S σ τ Q := by
  refine wc_of mi_300 rfl (u_300_0 ?_)
  unfold v_orderOf at t
  split at t
  · repeat' (first | exact t | (intro v hv hb; subst hv) | refine ⟨_, rfl, by omega, ?_⟩ | refine ⟨by assumption, ?_⟩ | refine ⟨by omega, ?_⟩ | refine ifI (fun _ => ?_) (fun _ => ?_) | (exfalso; omega))
  · repeat' (first | exact t | (intro v hv hb; subst hv) | refine ⟨_, rfl, by omega, ?_⟩ | refine ⟨by assumption, ?_⟩ | refine ⟨by omega, ?_⟩ | refine ifI (fun _ => ?_) (fun _ => ?_) | (exfalso; omega))
-- method 301: MillTownModel.book(III)I
theorem c_301_0 : pg_cd 301 0 = (5, 1, 0, 0, 0) := by decide +kernel
theorem c_301_1 : pg_cd 301 1 = (3, 1, 0, 1, 0) := by decide +kernel
theorem c_301_2 : pg_cd 301 2 = (80, 202, 96, 0, 0) := by decide +kernel
theorem c_301_5 : pg_cd 301 5 = (36, 3, 0, 0, 28) := by decide +kernel
theorem c_301_8 : pg_cd 301 8 = (3, 1, 0, 2, 0) := by decide +kernel
theorem c_301_9 : pg_cd 301 9 = (1, 1, 0, 0, 0) := by decide +kernel
theorem c_301_10 : pg_cd 301 10 = (5, 1, 0, 0, 0) := by decide +kernel
theorem c_301_11 : pg_cd 301 11 = (45, 12, 8, 0, 0) := by decide +kernel
theorem c_301_14 : pg_cd 301 14 = (1, 1, 0, 0, 0) := by decide +kernel
theorem c_301_15 : pg_cd 301 15 = (50, 1, 0, 0, 0) := by decide +kernel
theorem c_301_16 : pg_cd 301 16 = (1, 1, 0, 0, 1) := by decide +kernel
theorem c_301_17 : pg_cd 301 17 = (11, 1, 0, 0, 0) := by decide +kernel
theorem c_301_18 : pg_cd 301 18 = (81, 196, 76, 0, 0) := by decide +kernel
theorem c_301_21 : pg_cd 301 21 = (36, 3, 0, 0, 12) := by decide +kernel
theorem c_301_24 : pg_cd 301 24 = (3, 1, 0, 3, 0) := by decide +kernel
theorem c_301_25 : pg_cd 301 25 = (1, 1, 0, 0, 0) := by decide +kernel
theorem c_301_26 : pg_cd 301 26 = (1, 1, 0, 0, 1) := by decide +kernel
theorem c_301_27 : pg_cd 301 27 = (81, 196, 76, 0, 0) := by decide +kernel
theorem c_301_30 : pg_cd 301 30 = (36, 3, 0, 1, 5) := by decide +kernel
theorem c_301_33 : pg_cd 301 33 = (1, 1, 0, 0, (-1)) := by decide +kernel
theorem c_301_34 : pg_cd 301 34 = (90, 0, 0, 0, 0) := by decide +kernel
theorem c_301_35 : pg_cd 301 35 = (5, 1, 0, 0, 0) := by decide +kernel
theorem c_301_36 : pg_cd 301 36 = (45, 12, 8, 0, 0) := by decide +kernel
theorem c_301_39 : pg_cd 301 39 = (3, 1, 0, 3, 0) := by decide +kernel
theorem c_301_40 : pg_cd 301 40 = (36, 3, 0, 1, 9) := by decide +kernel
theorem c_301_43 : pg_cd 301 43 = (1, 3, 0, 0, 22300) := by decide +kernel
theorem c_301_46 : pg_cd 301 46 = (38, 3, 0, 0, 6) := by decide +kernel
theorem c_301_49 : pg_cd 301 49 = (1, 3, 0, 0, 31900) := by decide +kernel
theorem c_301_52 : pg_cd 301 52 = (1, 2, 0, 0, 24) := by decide +kernel
theorem c_301_54 : pg_cd 301 54 = (3, 1, 0, 2, 0) := by decide +kernel
theorem c_301_55 : pg_cd 301 55 = (12, 1, 0, 0, 0) := by decide +kernel
theorem c_301_56 : pg_cd 301 56 = (10, 1, 0, 0, 0) := by decide +kernel
theorem c_301_57 : pg_cd 301 57 = (3, 1, 0, 1, 0) := by decide +kernel
theorem c_301_58 : pg_cd 301 58 = (10, 1, 0, 0, 0) := by decide +kernel
theorem c_301_59 : pg_cd 301 59 = (50, 1, 0, 0, 0) := by decide +kernel
theorem c_301_60 : pg_cd 301 60 = (90, 0, 0, 0, 0) := by decide +kernel
theorem mi_301 : pg_mc 301 = 12 ∧ pg_na 301 = 3 ∧ pg_mx 301 = 4 := by decide +kernel
set_option maxRecDepth 20000 in
theorem u_301_0 {d : Nat} {S : zS} {σ τ : zI} {Q : zQ} {x1 : Int} {x2 : Int} {x3 : Int} (t : (rg x1) ∧ (0 ≤ σ 84 3) ∧ if 0 ≤ x1 ∧ x1 < σ 84 3 then ((rg x2) ∧ (rg ((σ 84 0) - 1)) ∧ if 0 ≤ x2 ∧ x2 ≤ ((σ 84 0) - 1) then ((rg x3) ∧ if 0 ≤ x3 ∧ x3 ≤ 1 then (if x3 = 0 then ((0 ≤ (22300 + (24 * x2)) + x1 ∧ (22300 + (24 * x2)) + x1 < 112300) ∧ Q (some (.int (wI (σ 84 ((22300 + (24 * x2)) + x1))))) S σ τ) else ((0 ≤ (31900 + (24 * x2)) + x1 ∧ (31900 + (24 * x2)) + x1 < 112300) ∧ Q (some (.int (wI (σ 84 ((31900 + (24 * x2)) + x1))))) S σ τ)) else (Q (some (.int (wI (-1)))) S σ τ)) else (Q (some (.int (wI (-1)))) S σ τ)) else (Q (some (.int (wI (-1)))) S σ τ)) : wi (d + 2) 301 0 [.ref 83, .int (wI x1), .int (wI x2), .int (wI x3)] [] S σ τ Q := by
  obtain ⟨r1, t⟩ := t
  obtain ⟨p2, t⟩ := t
  refine i5 c_301_0 rfl (i3 c_301_1 rfl ?_)
  refine i80 (As := [.int (wI x1)]) (rest := []) c_301_2 mi_202 rfl rfl (Nat.le_of_ble_eq_true rfl) (Nat.le_of_ble_eq_true rfl) (lo (c := 83) (kd := 112) (n := 0) rfl (by decide)) (q_202 r1 p2 ?_)
  show wi (d + 2) 301 5 [.ref 83, .int (wI x1), .int (wI x2), .int (wI x3)] [.int (wI (if 0 ≤ x1 ∧ x1 < σ 84 3 then 1 else 0))] S σ τ Q
  refine i36e c_301_5 rfl (fun hc => ?_) (fun hc => ?_)
  · have t := iT t hc
    have ha3 : 0 ≤ x1 ∧ x1 < σ 84 3 := hc
    refine i3 c_301_8 rfl (i1 c_301_9 (i5 c_301_10 rfl (i45 c_301_11 (lo (c := 83) (kd := 112) (n := 0) rfl (by decide)) (lro (c := 83) (k := 0) (j := 84) (by decide)) (i1 c_301_14 (wi_ok (fun K4 => ?_))))))
    obtain ⟨r5, t⟩ := t
    obtain ⟨r6, t⟩ := t
    refine i50 (v := σ 84 0) c_301_15 (lo (c := 84) (kd := 0) (n := 112300) rfl (by decide)) (by decide) (by decide) rfl (i1 c_301_16 (i11 c_301_17 ?_))
    refine i81 (As := [.int (wI x2), .int (wI 0), .int (wI ((σ 84 0) - 1))]) (rest := []) c_301_18 mi_196 rfl rfl (Nat.le_of_ble_eq_true rfl) (Nat.le_of_ble_eq_true rfl) (q_196 r5 (by decide) r6 ?_)
    show wi (d + 2) 301 21 [.ref 83, .int (wI x1), .int (wI x2), .int (wI x3)] [.int (wI (if 0 ≤ x2 ∧ x2 ≤ ((σ 84 0) - 1) then 1 else 0))] S σ τ Q
    refine i36e c_301_21 rfl (fun hc => ?_) (fun hc => ?_)
    · have t := iT t hc
      have ha7 : 0 ≤ x2 ∧ x2 ≤ ((σ 84 0) - 1) := hc
      obtain ⟨r8, t⟩ := t
      refine i3 c_301_24 rfl (i1 c_301_25 (i1 c_301_26 ?_))
      refine i81 (As := [.int (wI x3), .int (wI 0), .int (wI 1)]) (rest := []) c_301_27 mi_196 rfl rfl (Nat.le_of_ble_eq_true rfl) (Nat.le_of_ble_eq_true rfl) (q_196 r8 (by decide) (by decide) ?_)
      show wi (d + 2) 301 30 [.ref 83, .int (wI x1), .int (wI x2), .int (wI x3)] [.int (wI (if 0 ≤ x3 ∧ x3 ≤ 1 then 1 else 0))] S σ τ Q
      refine i36f c_301_30 rfl (fun hc => ?_) (fun hc => ?_)
      · have t := iT t hc
        have ha9 : 0 ≤ x3 ∧ x3 ≤ 1 := hc
        refine i5 c_301_35 rfl (i45 c_301_36 (lo (c := 83) (kd := 112) (n := 0) rfl (by decide)) (lro (c := 83) (k := 0) (j := 84) (by decide)) (i3 c_301_39 rfl ?_))
        refine i36 c_301_40 r8 rfl (fun hc => ?_) (fun hc => ?_)
        · have t := iF t hc
          have ha10 : ¬ (x3 = 0) := hc
          obtain ⟨r11, t⟩ := t
          refine i1 c_301_49 (i1 c_301_52 (i3 c_301_54 rfl (i12 c_301_55 (i10 c_301_56 (i3 c_301_57 rfl (i10 c_301_58 (i50 (v := σ 84 ((31900 + (24 * x2)) + x1)) c_301_59 (lo (c := 84) (kd := 0) (n := 112300) rfl (by decide)) (by decide) r11 rfl ?_)))))))
          exact i90 c_301_60 t
        · have t := iT t (Decidable.not_not.mp hc)
          have ha10 : x3 = 0 := Decidable.not_not.mp hc
          obtain ⟨r12, t⟩ := t
          refine i1 c_301_43 (i38 c_301_46 rfl (i1 c_301_52 (i3 c_301_54 rfl (i12 c_301_55 (i10 c_301_56 (i3 c_301_57 rfl (i10 c_301_58 (i50 (v := σ 84 ((22300 + (24 * x2)) + x1)) c_301_59 (lo (c := 84) (kd := 0) (n := 112300) rfl (by decide)) (by decide) r12 rfl ?_))))))))
          exact i90 c_301_60 t
      · have t := iF t hc
        have ha9 : ¬ (0 ≤ x3 ∧ x3 ≤ 1) := hc
        refine i1 c_301_33 ?_
        exact i90 c_301_34 t
    · have t := iF t hc
      have ha7 : ¬ (0 ≤ x2 ∧ x2 ≤ ((σ 84 0) - 1)) := hc
      refine i1 c_301_33 ?_
      exact i90 c_301_34 t
  · have t := iF t hc
    have ha3 : ¬ (0 ≤ x1 ∧ x1 < σ 84 3) := hc
    refine i1 c_301_33 ?_
    exact i90 c_301_34 t
theorem q_301 {d : Nat} {S : zS} {σ τ : zI} {Q : zQ} {home : Int} {week : Int} {what : Int} (p0 : rg home) (p1 : rg week) (p2 : rg what) (p3 : Jv (σ 84)) (t : Q (some (.int (wI (v_book (σ 84) home week what)))) S σ τ) : wc (d + 2) 301 [.ref 83, .int (wI home), .int (wI week), .int (wI what)] S σ τ Q := by
  have hC := jC p3
  unfold jv_C at hC
  refine wc_of mi_301 rfl (u_301_0 ?_)
  unfold v_book at t
  split at t
  · split at t
    · repeat' (first | exact t | (intro v hv hb; subst hv) | refine ⟨_, rfl, by omega, ?_⟩ | refine ⟨by assumption, ?_⟩ | refine ⟨by omega, ?_⟩ | refine ifI (fun _ => ?_) (fun _ => ?_) | (exfalso; omega))
    · repeat' (first | exact t | (intro v hv hb; subst hv) | refine ⟨_, rfl, by omega, ?_⟩ | refine ⟨by assumption, ?_⟩ | refine ⟨by omega, ?_⟩ | refine ifI (fun _ => ?_) (fun _ => ?_) | (exfalso; omega))
  · repeat' (first | exact t | (intro v hv hb; subst hv) | refine ⟨_, rfl, by omega, ?_⟩ | refine ⟨by assumption, ?_⟩ | refine ⟨by omega, ?_⟩ | refine ifI (fun _ => ?_) (fun _ => ?_) | (exfalso; omega))
-- method 225: MillTownModel.four(I)V
theorem c_225_0 : pg_cd 225 0 = (1, 2, 0, 0, 24) := by decide +kernel
theorem c_225_2 : pg_cd 225 2 = (6, 1, 0, 2, 0) := by decide +kernel
theorem c_225_3 : pg_cd 225 3 = (3, 1, 0, 2, 0) := by decide +kernel
theorem c_225_4 : pg_cd 225 4 = (36, 3, 0, 2, 35) := by decide +kernel
theorem c_225_7 : pg_cd 225 7 = (5, 1, 0, 0, 0) := by decide +kernel
theorem c_225_8 : pg_cd 225 8 = (45, 12, 20, 3, 0) := by decide +kernel
theorem c_225_11 : pg_cd 225 11 = (5, 1, 0, 0, 0) := by decide +kernel
theorem c_225_12 : pg_cd 225 12 = (43, 12, 128, 4, 0) := by decide +kernel
theorem c_225_15 : pg_cd 225 15 = (3, 1, 0, 1, 0) := by decide +kernel
theorem c_225_16 : pg_cd 225 16 = (3, 1, 0, 2, 0) := by decide +kernel
theorem c_225_17 : pg_cd 225 17 = (19, 1, 0, 0, 0) := by decide +kernel
theorem c_225_18 : pg_cd 225 18 = (1, 3, 0, 0, 255) := by decide +kernel
theorem c_225_21 : pg_cd 225 21 = (13, 1, 0, 0, 0) := by decide +kernel
theorem c_225_22 : pg_cd 225 22 = (54, 1, 0, 0, 0) := by decide +kernel
theorem c_225_23 : pg_cd 225 23 = (5, 1, 0, 0, 0) := by decide +kernel
theorem c_225_24 : pg_cd 225 24 = (33, 1, 0, 0, 0) := by decide +kernel
theorem c_225_25 : pg_cd 225 25 = (43, 12, 128, 4, 0) := by decide +kernel
theorem c_225_28 : pg_cd 225 28 = (1, 1, 0, 0, 1) := by decide +kernel
theorem c_225_29 : pg_cd 225 29 = (10, 1, 0, 0, 0) := by decide +kernel
theorem c_225_30 : pg_cd 225 30 = (46, 12, 128, 4, 0) := by decide +kernel
theorem c_225_33 : pg_cd 225 33 = (9, 3, 0, 2, (-8)) := by decide +kernel
theorem c_225_36 : pg_cd 225 36 = (38, 3, 0, 0, (-33)) := by decide +kernel
theorem c_225_39 : pg_cd 225 39 = (94, 0, 0, 0, 0) := by decide +kernel
theorem mi_225 : pg_mc 225 = 12 ∧ pg_na 225 = 1 ∧ pg_mx 225 = 3 := by decide +kernel
set_option maxRecDepth 20000 in
theorem u_225_0 {d : Nat} {S : zS} {σ τ : zI} {Q : zQ} {x1 : Int} (t : wi (d + 0) 225 3 [.ref 83, .int (wI x1), .int (wI 24)] [] S σ τ Q) : wi (d + 0) 225 0 [.ref 83, .int (wI x1), .retAddr 0] [] S σ τ Q := by
  refine i1 c_225_0 (i6 (L' := [.ref 83, .int (wI x1), .int (wI 24)]) c_225_2 rfl t)
set_option maxRecDepth 20000 in
theorem u_225_3 {d : Nat} {S : zS} {σ τ : zI} {Q : zQ} {x1 : Int} {x2 : Int} (t : (rg x2) ∧ if x2 < 0 then (Q none S σ τ) else ((0 ≤ σ 83 4 ∧ σ 83 4 < 300) ∧ ∃ w6 : Int, wI w6 = wI ((σ 83 4) + 1) ∧ rg w6 ∧ wi (d + 0) 225 3 [.ref 83, .int (wI x1), .int (wI (x2 + (-8)))] [] S (uc (uc σ 87 (u1 (σ 87) (σ 83 4) (zand (zshr x1 x2) 255))) 83 (u1 (σ 83) 4 w6)) τ Q)) : wi (d + 0) 225 3 [.ref 83, .int (wI x1), .int (wI x2)] [] S σ τ Q := by
  obtain ⟨r1, t⟩ := t
  refine i3 c_225_3 rfl ?_
  refine i36 c_225_4 r1 rfl (fun hc => ?_) (fun hc => ?_)
  · have t := iT t hc
    have ha2 : x2 < 0 := hc
    exact i94 c_225_39 t
  · have t := iF t hc
    have ha2 : ¬ (x2 < 0) := hc
    refine i5 c_225_7 rfl (i45 c_225_8 (lo (c := 83) (kd := 112) (n := 0) rfl (by decide)) (lro (c := 83) (k := 3) (j := 87) (by decide)) (i5 c_225_11 rfl (wi_ok (fun K3 => ?_))))
    obtain ⟨r4, t⟩ := t
    refine i43 (v := σ 83 4) c_225_12 (lo (c := 83) (kd := 112) (n := 0) rfl (by decide)) rfl (i3 c_225_15 rfl (i3 c_225_16 rfl (i19 c_225_17 (i1 c_225_18 (i13 c_225_21 (i54 (σ1 := uc σ 87 (u1 (σ 87) (σ 83 4) (zand (zshr x1 x2) 255))) c_225_22 (lo (c := 87) (kd := 0) (n := 300) rfl (by decide)) (by decide) r4 (by decide) rfl (rg_toInt _) (wr_ rfl rfl) (i5 c_225_23 rfl (i33a c_225_24 (wi_ok (fun K5 => ?_))))))))))
    obtain ⟨w6, e7, r8, t⟩ := t
    refine i43 (v := σ 83 4) c_225_25 (lo (c := 83) (kd := 112) (n := 0) rfl (by decide)) (congrFun (uc_ns rfl (by decide)) _) (i1 c_225_28 (i10 c_225_29 (i46 (σ1 := uc (uc σ 87 (u1 (σ 87) (σ 83 4) (zand (zshr x1 x2) 255))) 83 (u1 (σ 83) 4 w6)) c_225_30 (lo (c := 83) (kd := 112) (n := 0) rfl (by decide)) (by decide) e7 r8 (wr_ (uc_ns rfl (by decide)) rfl) (i9 (L' := [.ref 83, .int (wI x1), .int (wI (x2 + (-8)))]) c_225_33 rfl rfl (i38 c_225_36 rfl t)))))
def r_four (tp : Int → Int) (n v : Int) : Int → Int := u1 (u1 (u1 (u1 tp n (zand (zshr v 24) 255)) (n + 1) (zand (zshr v 16) 255)) (n + 1 + 1) (zand (zshr v 8) 255)) (n + 1 + 1 + 1) (zand (zshr v 0) 255)
theorem q_225 {d : Nat} {S : zS} {σ τ : zI} {Q : zQ} {v : Int} (p0 : rg v) (p1 : 0 ≤ σ 83 4 ∧ σ 83 4 ≤ 296) (t : ∀ (σ1 : zI), σ1 87 = r_four (σ 87) (σ 83 4) v → σ1 83 = u1 (σ 83) 4 (σ 83 4 + 4) → (∀ c, c ≠ 83 → c ≠ 87 → σ1 c = σ c) → Q none S σ1 τ) : wc (d + 0) 225 [.ref 83, .int (wI v)] S σ τ Q := by
  unfold r_four at t
  refine wc_of mi_225 rfl (u_225_0 ?_)
  refine u_225_3 ⟨by omega, ?_⟩
  rw [if_neg (by omega)]
  refine ⟨by omega, _, rfl, by omega, ?_⟩
  refine u_225_3 ?_
  simp only [uc_s, uc_n (show (83 : Nat) ≠ 87 by decide), uc_n (show (87 : Nat) ≠ 83 by decide), u1_s, u1_u1, Int.reduceAdd, Int.reduceNeg]
  refine ⟨by omega, ?_⟩
  rw [if_neg (by omega)]
  refine ⟨by omega, _, rfl, by omega, ?_⟩
  rw [uc4 (by decide)]
  refine u_225_3 ?_
  simp only [uc_s, uc_n (show (83 : Nat) ≠ 87 by decide), uc_n (show (87 : Nat) ≠ 83 by decide), u1_s, u1_u1, Int.reduceAdd, Int.reduceNeg]
  refine ⟨by omega, ?_⟩
  rw [if_neg (by omega)]
  refine ⟨by omega, _, rfl, by omega, ?_⟩
  rw [uc4 (by decide)]
  refine u_225_3 ?_
  simp only [uc_s, uc_n (show (83 : Nat) ≠ 87 by decide), uc_n (show (87 : Nat) ≠ 83 by decide), u1_s, u1_u1, Int.reduceAdd, Int.reduceNeg]
  refine ⟨by omega, ?_⟩
  rw [if_neg (by omega)]
  refine ⟨by omega, _, rfl, by omega, ?_⟩
  rw [uc4 (by decide)]
  refine u_225_3 ?_
  refine ⟨by omega, ?_⟩
  rw [if_pos (by omega)]
  refine t _ ?_ ?_ ?_
  · simp only [uc_s, uc_n (show (87 : Nat) ≠ 83 by decide)]
  · rw [uc_s]
    rw [show σ 83 4 + 4 = σ 83 4 + 1 + 1 + 1 + 1 by omega]
  · intro c h1 h2
    rw [uc_n h1, uc_n h2]
