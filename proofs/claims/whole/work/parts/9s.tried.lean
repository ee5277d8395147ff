/-! ===== tried, of both (segments printed by wip/whole, contracts own work) ===== -/
/-- what WEEKS come to -/
def te1 (c : Int → Int) : Int := sI (fun h => r_week c (22300 + 24 * c 0 + h)) (c 3)
def th1 (c : Int → Int) : Int := sI (fun h => r_week c (31900 + 24 * c 0 + h)) (c 3)
def tm1 (c : Int → Int) : Int := sI (wk_md c) (c 1)
def tp1 (c : Int → Int) : Int := sI (wk_Wf c) (c 4)
def tSm (f : (Int → Int) → Int) (b : Int → Int) (n : Int) : Int := sI (fun i => f (r_ws b i)) n
theorem tSm_s {f : (Int → Int) → Int} {b : Int → Int} {n : Int} (h : 0 ≤ n) : tSm f b (n + 1) = tSm f b n + f (r_ws b n) := sI_s h
theorem tSm_0 {f : (Int → Int) → Int} {b : Int → Int} : tSm f b 0 = 0 := rfl
def v_bh (c : Int → Int) (what : Int) : Int := if what = 4 then sI (fun m => c (3300 + 16 * m + 5)) (c 1) else if what = 5 then sI (fun s => c (3428 + 8 * s + 3)) (c 2) else if what = 6 then sI (fun h => c (3460 + 8 * h + 3)) (c 3) else 0
abbrev k_try (a : Int → Int) (text mill n what : Int) : Prop := (text = -1 ∨ 0 ≤ text ∧ text < a 5) ∧ (mill = -1 ∨ 0 ≤ mill ∧ mill < a 1) ∧ (1 ≤ n ∧ n ≤ 30) ∧ (0 ≤ what ∧ what ≤ 6) ∧ a 0 + n ≤ 400
def r_tb (a : Int → Int) (text mill : Int) : Int → Int := if text = -1 then a else r_put a text mill (a 0) 399
def v_tw (b : Int → Int) (n what : Int) : Int := if what = 0 then tSm te1 b n else if what = 1 then tSm th1 b n else if what = 2 then tSm tm1 b n else if what = 3 then tSm tp1 b n else v_bh (r_ws b n) what
def v_try (a : Int → Int) (text mill n what : Int) : Int := if k_try a text mill n what then v_tw (r_tb a text mill) n what else -1
theorem w_tb {a : Int → Int} {text mill n what : Int} (h : WP a) (h6 : a 6 ≤ 60) (k : k_try a text mill n what) : (WP (r_tb a text mill) ∧ PB (r_tb a text mill) = PB a) ∧ eT a (r_tb a text mill) := by
  have hc := jC h.1
  unfold jv_C at hc
  obtain ⟨k1, k2, k3, k4, k5⟩ := k
  unfold r_tb
  by_cases e : text = -1
  · rw [if_pos e]
    exact ⟨⟨h, rfl⟩, fun _ _ => rfl⟩
  · rw [if_neg e]
    exact w_put h h6 (by omega) (by omega) (by omega) (by omega) (by omega)
/-- what tried of the reference leaves alone -/
def FT (σ σ1 : zI) : Prop := (∀ c, c ≠ 83 → c ≠ 84 → c ≠ 86 → c ≠ 91 → c ≠ 92 → c ≠ 93 → c ≠ 94 → σ1 c = σ c) ∧ ∀ k, k < 22 ∨ 25 < k ∧ k < 29 ∨ 31 < k → σ1 83 k = σ 83 k
-- method 304: MillTownModel.tried(IIII)I
theorem c_304_0 : pg_cd 304 0 = (3, 1, 0, 1, 0) := by decide +kernel
theorem c_304_1 : pg_cd 304 1 = (1, 1, 0, 0, (-1)) := by decide +kernel
theorem c_304_2 : pg_cd 304 2 = (37, 3, 0, 0, 19) := by decide +kernel
theorem c_304_5 : pg_cd 304 5 = (3, 1, 0, 1, 0) := by decide +kernel
theorem c_304_6 : pg_cd 304 6 = (1, 1, 0, 0, 0) := by decide +kernel
theorem c_304_7 : pg_cd 304 7 = (5, 1, 0, 0, 0) := by decide +kernel
theorem c_304_8 : pg_cd 304 8 = (45, 12, 8, 0, 0) := by decide +kernel
theorem c_304_11 : pg_cd 304 11 = (1, 1, 0, 0, 5) := by decide +kernel
theorem c_304_12 : pg_cd 304 12 = (50, 1, 0, 0, 0) := by decide +kernel
theorem c_304_13 : pg_cd 304 13 = (1, 1, 0, 0, 1) := by decide +kernel
theorem c_304_14 : pg_cd 304 14 = (11, 1, 0, 0, 0) := by decide +kernel
theorem c_304_15 : pg_cd 304 15 = (81, 196, 76, 0, 0) := by decide +kernel
theorem c_304_18 : pg_cd 304 18 = (36, 3, 0, 0, 51) := by decide +kernel
theorem c_304_21 : pg_cd 304 21 = (3, 1, 0, 2, 0) := by decide +kernel
theorem c_304_22 : pg_cd 304 22 = (1, 1, 0, 0, (-1)) := by decide +kernel
theorem c_304_23 : pg_cd 304 23 = (37, 3, 0, 0, 11) := by decide +kernel
theorem c_304_26 : pg_cd 304 26 = (5, 1, 0, 0, 0) := by decide +kernel
theorem c_304_27 : pg_cd 304 27 = (3, 1, 0, 2, 0) := by decide +kernel
theorem c_304_28 : pg_cd 304 28 = (80, 201, 115, 0, 0) := by decide +kernel
theorem c_304_31 : pg_cd 304 31 = (36, 3, 0, 0, 38) := by decide +kernel
theorem c_304_34 : pg_cd 304 34 = (3, 1, 0, 3, 0) := by decide +kernel
theorem c_304_35 : pg_cd 304 35 = (1, 1, 0, 0, 1) := by decide +kernel
theorem c_304_36 : pg_cd 304 36 = (1, 2, 0, 0, 30) := by decide +kernel
theorem c_304_38 : pg_cd 304 38 = (81, 196, 76, 0, 0) := by decide +kernel
theorem c_304_41 : pg_cd 304 41 = (36, 3, 0, 0, 28) := by decide +kernel
theorem c_304_44 : pg_cd 304 44 = (3, 2, 0, 4, 0) := by decide +kernel
theorem c_304_46 : pg_cd 304 46 = (1, 1, 0, 0, 0) := by decide +kernel
theorem c_304_47 : pg_cd 304 47 = (1, 2, 0, 0, 6) := by decide +kernel
theorem c_304_49 : pg_cd 304 49 = (81, 196, 76, 0, 0) := by decide +kernel
theorem c_304_52 : pg_cd 304 52 = (36, 3, 0, 0, 17) := by decide +kernel
theorem c_304_55 : pg_cd 304 55 = (5, 1, 0, 0, 0) := by decide +kernel
theorem c_304_56 : pg_cd 304 56 = (45, 12, 8, 0, 0) := by decide +kernel
theorem c_304_59 : pg_cd 304 59 = (1, 1, 0, 0, 0) := by decide +kernel
theorem c_304_60 : pg_cd 304 60 = (50, 1, 0, 0, 0) := by decide +kernel
theorem c_304_61 : pg_cd 304 61 = (3, 1, 0, 3, 0) := by decide +kernel
theorem c_304_62 : pg_cd 304 62 = (10, 1, 0, 0, 0) := by decide +kernel
theorem c_304_63 : pg_cd 304 63 = (1, 3, 0, 0, 400) := by decide +kernel
theorem c_304_66 : pg_cd 304 66 = (37, 3, 0, 5, 5) := by decide +kernel
theorem c_304_69 : pg_cd 304 69 = (1, 1, 0, 0, (-1)) := by decide +kernel
theorem c_304_70 : pg_cd 304 70 = (90, 0, 0, 0, 0) := by decide +kernel
theorem c_304_71 : pg_cd 304 71 = (5, 1, 0, 0, 0) := by decide +kernel
theorem c_304_72 : pg_cd 304 72 = (45, 12, 8, 0, 0) := by decide +kernel
theorem c_304_75 : pg_cd 304 75 = (5, 1, 0, 0, 0) := by decide +kernel
theorem c_304_76 : pg_cd 304 76 = (45, 12, 17, 2, 0) := by decide +kernel
theorem c_304_79 : pg_cd 304 79 = (81, 195, 72, 0, 0) := by decide +kernel
theorem c_304_82 : pg_cd 304 82 = (3, 1, 0, 1, 0) := by decide +kernel
theorem c_304_83 : pg_cd 304 83 = (1, 1, 0, 0, (-1)) := by decide +kernel
theorem c_304_84 : pg_cd 304 84 = (37, 3, 0, 0, 18) := by decide +kernel
theorem c_304_87 : pg_cd 304 87 = (5, 1, 0, 0, 0) := by decide +kernel
theorem c_304_88 : pg_cd 304 88 = (3, 1, 0, 1, 0) := by decide +kernel
theorem c_304_89 : pg_cd 304 89 = (3, 1, 0, 2, 0) := by decide +kernel
theorem c_304_90 : pg_cd 304 90 = (5, 1, 0, 0, 0) := by decide +kernel
theorem c_304_91 : pg_cd 304 91 = (45, 12, 8, 0, 0) := by decide +kernel
theorem c_304_94 : pg_cd 304 94 = (1, 1, 0, 0, 0) := by decide +kernel
theorem c_304_95 : pg_cd 304 95 = (50, 1, 0, 0, 0) := by decide +kernel
theorem c_304_96 : pg_cd 304 96 = (1, 3, 0, 0, 399) := by decide +kernel
theorem c_304_99 : pg_cd 304 99 = (80, 220, 124, 0, 0) := by decide +kernel
theorem c_304_102 : pg_cd 304 102 = (1, 1, 0, 0, 0) := by decide +kernel
theorem c_304_103 : pg_cd 304 103 = (6, 2, 0, 5, 0) := by decide +kernel
theorem c_304_105 : pg_cd 304 105 = (1, 1, 0, 0, 0) := by decide +kernel
theorem c_304_106 : pg_cd 304 106 = (6, 2, 0, 6, 0) := by decide +kernel
theorem c_304_108 : pg_cd 304 108 = (1, 1, 0, 0, 0) := by decide +kernel
theorem c_304_109 : pg_cd 304 109 = (6, 2, 0, 7, 0) := by decide +kernel
theorem c_304_111 : pg_cd 304 111 = (5, 1, 0, 0, 0) := by decide +kernel
theorem c_304_112 : pg_cd 304 112 = (1, 1, 0, 0, 0) := by decide +kernel
theorem c_304_113 : pg_cd 304 113 = (46, 12, 367, 31, 0) := by decide +kernel
theorem c_304_116 : pg_cd 304 116 = (1, 1, 0, 0, 0) := by decide +kernel
theorem c_304_117 : pg_cd 304 117 = (6, 2, 0, 8, 0) := by decide +kernel
theorem c_304_119 : pg_cd 304 119 = (3, 2, 0, 8, 0) := by decide +kernel
theorem c_304_121 : pg_cd 304 121 = (3, 1, 0, 3, 0) := by decide +kernel
theorem c_304_122 : pg_cd 304 122 = (37, 3, 0, 3, 82) := by decide +kernel
theorem c_304_125 : pg_cd 304 125 = (5, 1, 0, 0, 0) := by decide +kernel
theorem c_304_126 : pg_cd 304 126 = (45, 12, 8, 0, 0) := by decide +kernel
theorem c_304_129 : pg_cd 304 129 = (1, 1, 0, 0, 0) := by decide +kernel
theorem c_304_130 : pg_cd 304 130 = (50, 1, 0, 0, 0) := by decide +kernel
theorem c_304_131 : pg_cd 304 131 = (6, 2, 0, 9, 0) := by decide +kernel
theorem c_304_133 : pg_cd 304 133 = (5, 1, 0, 0, 0) := by decide +kernel
theorem c_304_134 : pg_cd 304 134 = (80, 293, 408, 0, 0) := by decide +kernel
theorem c_304_137 : pg_cd 304 137 = (3, 2, 0, 5, 0) := by decide +kernel
theorem c_304_139 : pg_cd 304 139 = (5, 1, 0, 0, 0) := by decide +kernel
theorem c_304_140 : pg_cd 304 140 = (1, 3, 0, 0, 22300) := by decide +kernel
theorem c_304_143 : pg_cd 304 143 = (3, 2, 0, 9, 0) := by decide +kernel
theorem c_304_145 : pg_cd 304 145 = (80, 302, 414, 0, 0) := by decide +kernel
theorem c_304_148 : pg_cd 304 148 = (10, 1, 0, 0, 0) := by decide +kernel
theorem c_304_149 : pg_cd 304 149 = (6, 2, 0, 5, 0) := by decide +kernel
theorem c_304_151 : pg_cd 304 151 = (3, 2, 0, 6, 0) := by decide +kernel
theorem c_304_153 : pg_cd 304 153 = (5, 1, 0, 0, 0) := by decide +kernel
theorem c_304_154 : pg_cd 304 154 = (1, 3, 0, 0, 31900) := by decide +kernel
theorem c_304_157 : pg_cd 304 157 = (3, 2, 0, 9, 0) := by decide +kernel
theorem c_304_159 : pg_cd 304 159 = (80, 302, 414, 0, 0) := by decide +kernel
theorem c_304_162 : pg_cd 304 162 = (10, 1, 0, 0, 0) := by decide +kernel
theorem c_304_163 : pg_cd 304 163 = (6, 2, 0, 6, 0) := by decide +kernel
theorem c_304_165 : pg_cd 304 165 = (1, 1, 0, 0, 0) := by decide +kernel
theorem c_304_166 : pg_cd 304 166 = (6, 2, 0, 10, 0) := by decide +kernel
theorem c_304_168 : pg_cd 304 168 = (3, 2, 0, 10, 0) := by decide +kernel
theorem c_304_170 : pg_cd 304 170 = (5, 1, 0, 0, 0) := by decide +kernel
theorem c_304_171 : pg_cd 304 171 = (45, 12, 8, 0, 0) := by decide +kernel
theorem c_304_174 : pg_cd 304 174 = (1, 1, 0, 0, 1) := by decide +kernel
theorem c_304_175 : pg_cd 304 175 = (50, 1, 0, 0, 0) := by decide +kernel
theorem c_304_176 : pg_cd 304 176 = (37, 3, 0, 3, 22) := by decide +kernel
theorem c_304_179 : pg_cd 304 179 = (3, 2, 0, 7, 0) := by decide +kernel
theorem c_304_181 : pg_cd 304 181 = (5, 1, 0, 0, 0) := by decide +kernel
theorem c_304_182 : pg_cd 304 182 = (3, 2, 0, 10, 0) := by decide +kernel
theorem c_304_184 : pg_cd 304 184 = (1, 2, 0, 0, 10) := by decide +kernel
theorem c_304_186 : pg_cd 304 186 = (80, 198, 118, 0, 0) := by decide +kernel
theorem c_304_189 : pg_cd 304 189 = (10, 1, 0, 0, 0) := by decide +kernel
theorem c_304_190 : pg_cd 304 190 = (6, 2, 0, 7, 0) := by decide +kernel
theorem c_304_192 : pg_cd 304 192 = (9, 3, 0, 10, 1) := by decide +kernel
theorem c_304_195 : pg_cd 304 195 = (38, 3, 0, 0, (-27)) := by decide +kernel
theorem c_304_198 : pg_cd 304 198 = (9, 3, 0, 8, 1) := by decide +kernel
theorem c_304_201 : pg_cd 304 201 = (38, 3, 0, 0, (-82)) := by decide +kernel
theorem c_304_204 : pg_cd 304 204 = (3, 2, 0, 4, 0) := by decide +kernel
theorem c_304_206 : pg_cd 304 206 = (36, 3, 0, 1, 8) := by decide +kernel
theorem c_304_209 : pg_cd 304 209 = (3, 2, 0, 5, 0) := by decide +kernel
theorem c_304_211 : pg_cd 304 211 = (38, 3, 0, 0, 44) := by decide +kernel
theorem c_304_214 : pg_cd 304 214 = (3, 2, 0, 4, 0) := by decide +kernel
theorem c_304_216 : pg_cd 304 216 = (1, 1, 0, 0, 1) := by decide +kernel
theorem c_304_217 : pg_cd 304 217 = (37, 3, 0, 1, 8) := by decide +kernel
theorem c_304_220 : pg_cd 304 220 = (3, 2, 0, 6, 0) := by decide +kernel
theorem c_304_222 : pg_cd 304 222 = (38, 3, 0, 0, 33) := by decide +kernel
theorem c_304_225 : pg_cd 304 225 = (3, 2, 0, 4, 0) := by decide +kernel
theorem c_304_227 : pg_cd 304 227 = (1, 1, 0, 0, 2) := by decide +kernel
theorem c_304_228 : pg_cd 304 228 = (37, 3, 0, 1, 8) := by decide +kernel
theorem c_304_231 : pg_cd 304 231 = (3, 2, 0, 7, 0) := by decide +kernel
theorem c_304_233 : pg_cd 304 233 = (38, 3, 0, 0, 22) := by decide +kernel
theorem c_304_236 : pg_cd 304 236 = (3, 2, 0, 4, 0) := by decide +kernel
theorem c_304_238 : pg_cd 304 238 = (1, 1, 0, 0, 3) := by decide +kernel
theorem c_304_239 : pg_cd 304 239 = (37, 3, 0, 1, 10) := by decide +kernel
theorem c_304_242 : pg_cd 304 242 = (5, 1, 0, 0, 0) := by decide +kernel
theorem c_304_243 : pg_cd 304 243 = (43, 12, 367, 31, 0) := by decide +kernel
theorem c_304_246 : pg_cd 304 246 = (38, 3, 0, 0, 9) := by decide +kernel
theorem c_304_249 : pg_cd 304 249 = (5, 1, 0, 0, 0) := by decide +kernel
theorem c_304_250 : pg_cd 304 250 = (3, 2, 0, 4, 0) := by decide +kernel
theorem c_304_252 : pg_cd 304 252 = (80, 303, 417, 0, 0) := by decide +kernel
theorem c_304_255 : pg_cd 304 255 = (6, 2, 0, 8, 0) := by decide +kernel
theorem c_304_257 : pg_cd 304 257 = (5, 1, 0, 0, 0) := by decide +kernel
theorem c_304_258 : pg_cd 304 258 = (45, 12, 17, 2, 0) := by decide +kernel
theorem c_304_261 : pg_cd 304 261 = (5, 1, 0, 0, 0) := by decide +kernel
theorem c_304_262 : pg_cd 304 262 = (45, 12, 8, 0, 0) := by decide +kernel
theorem c_304_265 : pg_cd 304 265 = (81, 195, 72, 0, 0) := by decide +kernel
theorem c_304_268 : pg_cd 304 268 = (3, 2, 0, 8, 0) := by decide +kernel
theorem c_304_270 : pg_cd 304 270 = (90, 0, 0, 0, 0) := by decide +kernel
theorem mi_304 : pg_mc 304 = 12 ∧ pg_na 304 = 4 ∧ pg_mx 304 = 11 := by decide +kernel
set_option maxRecDepth 20000 in
theorem u_304_0 {d : Nat} {S : zS} {σ τ : zI} {Q : zQ} {x1 : Int} {x2 : Int} {x3 : Int} {x4 : Int} (t : (rg x1) ∧ if x1 = (-1) then ((rg x2) ∧ if x2 = (-1) then ((rg x3) ∧ if 1 ≤ x3 ∧ x3 ≤ 30 then ((rg x4) ∧ if 0 ≤ x4 ∧ x4 ≤ 6 then ((rg ((σ 84 0) + x3)) ∧ if ((σ 84 0) + x3) ≤ 400 then ((84 ≠ 86) ∧ wi (d + 20) 304 119 [.ref 83, .int (wI x1), .int (wI x2), .int (wI x3), .int (wI x4), .int (wI 0), .int (wI 0), .int (wI 0), .int (wI 0), .retAddr 0, .retAddr 0] [] S (uc (uc σ 86 (cpA ((σ 84)) ((σ 86)))) 83 (u1 (σ 83) 31 0)) τ Q) else (Q (some (.int (wI (-1)))) S σ τ)) else (Q (some (.int (wI (-1)))) S σ τ)) else (Q (some (.int (wI (-1)))) S σ τ)) else ((0 ≤ σ 84 1) ∧ if 0 ≤ x2 ∧ x2 < σ 84 1 then ((rg x3) ∧ if 1 ≤ x3 ∧ x3 ≤ 30 then ((rg x4) ∧ if 0 ≤ x4 ∧ x4 ≤ 6 then ((rg ((σ 84 0) + x3)) ∧ if ((σ 84 0) + x3) ≤ 400 then ((84 ≠ 86) ∧ wi (d + 20) 304 119 [.ref 83, .int (wI x1), .int (wI x2), .int (wI x3), .int (wI x4), .int (wI 0), .int (wI 0), .int (wI 0), .int (wI 0), .retAddr 0, .retAddr 0] [] S (uc (uc σ 86 (cpA ((σ 84)) ((σ 86)))) 83 (u1 (σ 83) 31 0)) τ Q) else (Q (some (.int (wI (-1)))) S σ τ)) else (Q (some (.int (wI (-1)))) S σ τ)) else (Q (some (.int (wI (-1)))) S σ τ)) else (Q (some (.int (wI (-1)))) S σ τ))) else ((rg ((σ 84 5) - 1)) ∧ if 0 ≤ x1 ∧ x1 ≤ ((σ 84 5) - 1) then ((rg x2) ∧ if x2 = (-1) then ((rg x3) ∧ if 1 ≤ x3 ∧ x3 ≤ 30 then ((rg x4) ∧ if 0 ≤ x4 ∧ x4 ≤ 6 then ((rg ((σ 84 0) + x3)) ∧ if ((σ 84 0) + x3) ≤ 400 then ((84 ≠ 86) ∧ (0 ≤ (uc σ 86 (cpA ((σ 84)) ((σ 86)))) 84 6 ∧ (uc σ 86 (cpA ((σ 84)) ((σ 86)))) 84 6 ≤ 60) ∧ wi (d + 20) 304 119 [.ref 83, .int (wI x1), .int (wI x2), .int (wI x3), .int (wI x4), .int (wI 0), .int (wI 0), .int (wI 0), .int (wI 0), .retAddr 0, .retAddr 0] [] S (uc (uc (uc σ 86 (cpA ((σ 84)) ((σ 86)))) 84 (r_put ((σ 84)) x1 x2 (σ 84 0) 399)) 83 (u1 (σ 83) 31 0)) τ Q) else (Q (some (.int (wI (-1)))) S σ τ)) else (Q (some (.int (wI (-1)))) S σ τ)) else (Q (some (.int (wI (-1)))) S σ τ)) else ((0 ≤ σ 84 1) ∧ if 0 ≤ x2 ∧ x2 < σ 84 1 then ((rg x3) ∧ if 1 ≤ x3 ∧ x3 ≤ 30 then ((rg x4) ∧ if 0 ≤ x4 ∧ x4 ≤ 6 then ((rg ((σ 84 0) + x3)) ∧ if ((σ 84 0) + x3) ≤ 400 then ((84 ≠ 86) ∧ (0 ≤ (uc σ 86 (cpA ((σ 84)) ((σ 86)))) 84 6 ∧ (uc σ 86 (cpA ((σ 84)) ((σ 86)))) 84 6 ≤ 60) ∧ wi (d + 20) 304 119 [.ref 83, .int (wI x1), .int (wI x2), .int (wI x3), .int (wI x4), .int (wI 0), .int (wI 0), .int (wI 0), .int (wI 0), .retAddr 0, .retAddr 0] [] S (uc (uc (uc σ 86 (cpA ((σ 84)) ((σ 86)))) 84 (r_put ((σ 84)) x1 x2 (σ 84 0) 399)) 83 (u1 (σ 83) 31 0)) τ Q) else (Q (some (.int (wI (-1)))) S σ τ)) else (Q (some (.int (wI (-1)))) S σ τ)) else (Q (some (.int (wI (-1)))) S σ τ)) else (Q (some (.int (wI (-1)))) S σ τ))) else (Q (some (.int (wI (-1)))) S σ τ))) : wi (d + 20) 304 0 [.ref 83, .int (wI x1), .int (wI x2), .int (wI x3), .int (wI x4), .retAddr 0, .retAddr 0, .retAddr 0, .retAddr 0, .retAddr 0, .retAddr 0] [] S σ τ Q := by
  obtain ⟨r1, t⟩ := t
  refine i3 c_304_0 rfl (i1 c_304_1 ?_)
  refine i37 c_304_2 r1 (by decide) rfl (fun hc => ?_) (fun hc => ?_)
  · have t := iT t hc
    have ha2 : x1 = (-1) := hc
    obtain ⟨r3, t⟩ := t
    refine i3 c_304_21 rfl (i1 c_304_22 ?_)
    refine i37 c_304_23 r3 (by decide) rfl (fun hc => ?_) (fun hc => ?_)
    · have t := iT t hc
      have ha4 : x2 = (-1) := hc
      obtain ⟨r5, t⟩ := t
      refine i3 c_304_34 rfl (i1 c_304_35 (i1 c_304_36 ?_))
      refine i81 (As := [.int (wI x3), .int (wI 1), .int (wI 30)]) (rest := []) c_304_38 mi_196 rfl rfl (Nat.le_of_ble_eq_true rfl) (Nat.le_of_ble_eq_true rfl) (q_196 r5 (by decide) (by decide) ?_)
      show wi (d + 20) 304 41 [.ref 83, .int (wI x1), .int (wI x2), .int (wI x3), .int (wI x4), .retAddr 0, .retAddr 0, .retAddr 0, .retAddr 0, .retAddr 0, .retAddr 0] [.int (wI (if 1 ≤ x3 ∧ x3 ≤ 30 then 1 else 0))] S σ τ Q
      refine i36e c_304_41 rfl (fun hc => ?_) (fun hc => ?_)
      · have t := iT t hc
        have ha6 : 1 ≤ x3 ∧ x3 ≤ 30 := hc
        obtain ⟨r7, t⟩ := t
        refine i3 c_304_44 rfl (i1 c_304_46 (i1 c_304_47 ?_))
        refine i81 (As := [.int (wI x4), .int (wI 0), .int (wI 6)]) (rest := []) c_304_49 mi_196 rfl rfl (Nat.le_of_ble_eq_true rfl) (Nat.le_of_ble_eq_true rfl) (q_196 r7 (by decide) (by decide) ?_)
        show wi (d + 20) 304 52 [.ref 83, .int (wI x1), .int (wI x2), .int (wI x3), .int (wI x4), .retAddr 0, .retAddr 0, .retAddr 0, .retAddr 0, .retAddr 0, .retAddr 0] [.int (wI (if 0 ≤ x4 ∧ x4 ≤ 6 then 1 else 0))] S σ τ Q
        refine i36e c_304_52 rfl (fun hc => ?_) (fun hc => ?_)
        · have t := iT t hc
          have ha8 : 0 ≤ x4 ∧ x4 ≤ 6 := hc
          refine i5 c_304_55 rfl (i45 c_304_56 (lo (c := 83) (kd := 112) (n := 0) rfl (by decide)) (lro (c := 83) (k := 0) (j := 84) (by decide)) (i1 c_304_59 (wi_ok (fun K9 => ?_))))
          obtain ⟨r10, t⟩ := t
          refine i50 (v := σ 84 0) c_304_60 (lo (c := 84) (kd := 0) (n := 112300) rfl (by decide)) (by decide) (by decide) rfl (i3 c_304_61 rfl (i10 c_304_62 (i1 c_304_63 ?_)))
          refine i37 c_304_66 r10 (by decide) rfl (fun hc => ?_) (fun hc => ?_)
          · have t := iT t hc
            have ha11 : ((σ 84 0) + x3) ≤ 400 := hc
            obtain ⟨p12, t⟩ := t
            refine i5 c_304_71 rfl (i45 c_304_72 (lo (c := 83) (kd := 112) (n := 0) rfl (by decide)) (lro (c := 83) (k := 0) (j := 84) (by decide)) (i5 c_304_75 rfl (i45 c_304_76 (lo (c := 83) (kd := 112) (n := 0) rfl (by decide)) (lro (c := 83) (k := 2) (j := 86) (by decide)) ?_)))
            refine i81 (As := [.ref 84, .ref 86]) (rest := []) c_304_79 mi_195 rfl rfl (Nat.le_of_ble_eq_true rfl) (Nat.le_of_ble_eq_true rfl) (q_195 ⟨fun _ _ => (lo (c := 84) (kd := 0) (n := 112300) rfl (by decide)), (by decide)⟩ ⟨fun _ _ => (lo (c := 86) (kd := 0) (n := 112300) rfl (by decide)), (by decide)⟩ p12 ?_)
            show wi (d + 20) 304 82 [.ref 83, .int (wI x1), .int (wI x2), .int (wI x3), .int (wI x4), .retAddr 0, .retAddr 0, .retAddr 0, .retAddr 0, .retAddr 0, .retAddr 0] [] S (uc σ 86 (cpA ((σ 84)) ((σ 86)))) τ Q
            refine i3 c_304_82 rfl (i1 c_304_83 ?_)
            refine i37 c_304_84 r1 (by decide) rfl (fun _ => ?_) (fun hc => absurd (show x1 = (-1) by omega) hc)
            refine i1 c_304_102 (i6 (L' := [.ref 83, .int (wI x1), .int (wI x2), .int (wI x3), .int (wI x4), .int (wI 0), .retAddr 0, .retAddr 0, .retAddr 0, .retAddr 0, .retAddr 0]) c_304_103 rfl (i1 c_304_105 (i6 (L' := [.ref 83, .int (wI x1), .int (wI x2), .int (wI x3), .int (wI x4), .int (wI 0), .int (wI 0), .retAddr 0, .retAddr 0, .retAddr 0, .retAddr 0]) c_304_106 rfl (i1 c_304_108 (i6 (L' := [.ref 83, .int (wI x1), .int (wI x2), .int (wI x3), .int (wI x4), .int (wI 0), .int (wI 0), .int (wI 0), .retAddr 0, .retAddr 0, .retAddr 0]) c_304_109 rfl (i5 c_304_111 rfl (i1 c_304_112 (i46 (σ1 := uc (uc σ 86 (cpA ((σ 84)) ((σ 86)))) 83 (u1 (σ 83) 31 0)) c_304_113 (lo (c := 83) (kd := 112) (n := 0) rfl (by decide)) (by decide) rfl (by decide) (wr_ (uc_ns rfl (by decide)) rfl) (i1 c_304_116 (i6 (L' := [.ref 83, .int (wI x1), .int (wI x2), .int (wI x3), .int (wI x4), .int (wI 0), .int (wI 0), .int (wI 0), .int (wI 0), .retAddr 0, .retAddr 0]) c_304_117 rfl t))))))))))
          · have t := iF t hc
            have ha11 : ¬ (((σ 84 0) + x3) ≤ 400) := hc
            refine i1 c_304_69 ?_
            exact i90 c_304_70 t
        · have t := iF t hc
          have ha8 : ¬ (0 ≤ x4 ∧ x4 ≤ 6) := hc
          refine i1 c_304_69 ?_
          exact i90 c_304_70 t
      · have t := iF t hc
        have ha6 : ¬ (1 ≤ x3 ∧ x3 ≤ 30) := hc
        refine i1 c_304_69 ?_
        exact i90 c_304_70 t
    · have t := iF t hc
      have ha4 : ¬ (x2 = (-1)) := hc
      obtain ⟨p14, t⟩ := t
      refine i5 c_304_26 rfl (i3 c_304_27 rfl ?_)
      refine i80 (As := [.int (wI x2)]) (rest := []) c_304_28 mi_201 rfl rfl (Nat.le_of_ble_eq_true rfl) (Nat.le_of_ble_eq_true rfl) (lo (c := 83) (kd := 112) (n := 0) rfl (by decide)) (q_201 r3 p14 ?_)
      show wi (d + 20) 304 31 [.ref 83, .int (wI x1), .int (wI x2), .int (wI x3), .int (wI x4), .retAddr 0, .retAddr 0, .retAddr 0, .retAddr 0, .retAddr 0, .retAddr 0] [.int (wI (if 0 ≤ x2 ∧ x2 < σ 84 1 then 1 else 0))] S σ τ Q
      refine i36e c_304_31 rfl (fun hc => ?_) (fun hc => ?_)
      · have t := iT t hc
        have ha15 : 0 ≤ x2 ∧ x2 < σ 84 1 := hc
        obtain ⟨r16, t⟩ := t
        refine i3 c_304_34 rfl (i1 c_304_35 (i1 c_304_36 ?_))
        refine i81 (As := [.int (wI x3), .int (wI 1), .int (wI 30)]) (rest := []) c_304_38 mi_196 rfl rfl (Nat.le_of_ble_eq_true rfl) (Nat.le_of_ble_eq_true rfl) (q_196 r16 (by decide) (by decide) ?_)
        show wi (d + 20) 304 41 [.ref 83, .int (wI x1), .int (wI x2), .int (wI x3), .int (wI x4), .retAddr 0, .retAddr 0, .retAddr 0, .retAddr 0, .retAddr 0, .retAddr 0] [.int (wI (if 1 ≤ x3 ∧ x3 ≤ 30 then 1 else 0))] S σ τ Q
        refine i36e c_304_41 rfl (fun hc => ?_) (fun hc => ?_)
        · have t := iT t hc
          have ha17 : 1 ≤ x3 ∧ x3 ≤ 30 := hc
          obtain ⟨r18, t⟩ := t
          refine i3 c_304_44 rfl (i1 c_304_46 (i1 c_304_47 ?_))
          refine i81 (As := [.int (wI x4), .int (wI 0), .int (wI 6)]) (rest := []) c_304_49 mi_196 rfl rfl (Nat.le_of_ble_eq_true rfl) (Nat.le_of_ble_eq_true rfl) (q_196 r18 (by decide) (by decide) ?_)
          show wi (d + 20) 304 52 [.ref 83, .int (wI x1), .int (wI x2), .int (wI x3), .int (wI x4), .retAddr 0, .retAddr 0, .retAddr 0, .retAddr 0, .retAddr 0, .retAddr 0] [.int (wI (if 0 ≤ x4 ∧ x4 ≤ 6 then 1 else 0))] S σ τ Q
          refine i36e c_304_52 rfl (fun hc => ?_) (fun hc => ?_)
          · have t := iT t hc
            have ha19 : 0 ≤ x4 ∧ x4 ≤ 6 := hc
            refine i5 c_304_55 rfl (i45 c_304_56 (lo (c := 83) (kd := 112) (n := 0) rfl (by decide)) (lro (c := 83) (k := 0) (j := 84) (by decide)) (i1 c_304_59 (wi_ok (fun K20 => ?_))))
            obtain ⟨r21, t⟩ := t
            refine i50 (v := σ 84 0) c_304_60 (lo (c := 84) (kd := 0) (n := 112300) rfl (by decide)) (by decide) (by decide) rfl (i3 c_304_61 rfl (i10 c_304_62 (i1 c_304_63 ?_)))
            refine i37 c_304_66 r21 (by decide) rfl (fun hc => ?_) (fun hc => ?_)
            · have t := iT t hc
              have ha22 : ((σ 84 0) + x3) ≤ 400 := hc
              obtain ⟨p23, t⟩ := t
              refine i5 c_304_71 rfl (i45 c_304_72 (lo (c := 83) (kd := 112) (n := 0) rfl (by decide)) (lro (c := 83) (k := 0) (j := 84) (by decide)) (i5 c_304_75 rfl (i45 c_304_76 (lo (c := 83) (kd := 112) (n := 0) rfl (by decide)) (lro (c := 83) (k := 2) (j := 86) (by decide)) ?_)))
              refine i81 (As := [.ref 84, .ref 86]) (rest := []) c_304_79 mi_195 rfl rfl (Nat.le_of_ble_eq_true rfl) (Nat.le_of_ble_eq_true rfl) (q_195 ⟨fun _ _ => (lo (c := 84) (kd := 0) (n := 112300) rfl (by decide)), (by decide)⟩ ⟨fun _ _ => (lo (c := 86) (kd := 0) (n := 112300) rfl (by decide)), (by decide)⟩ p23 ?_)
              show wi (d + 20) 304 82 [.ref 83, .int (wI x1), .int (wI x2), .int (wI x3), .int (wI x4), .retAddr 0, .retAddr 0, .retAddr 0, .retAddr 0, .retAddr 0, .retAddr 0] [] S (uc σ 86 (cpA ((σ 84)) ((σ 86)))) τ Q
              refine i3 c_304_82 rfl (i1 c_304_83 ?_)
              refine i37 c_304_84 r1 (by decide) rfl (fun _ => ?_) (fun hc => absurd (show x1 = (-1) by omega) hc)
              refine i1 c_304_102 (i6 (L' := [.ref 83, .int (wI x1), .int (wI x2), .int (wI x3), .int (wI x4), .int (wI 0), .retAddr 0, .retAddr 0, .retAddr 0, .retAddr 0, .retAddr 0]) c_304_103 rfl (i1 c_304_105 (i6 (L' := [.ref 83, .int (wI x1), .int (wI x2), .int (wI x3), .int (wI x4), .int (wI 0), .int (wI 0), .retAddr 0, .retAddr 0, .retAddr 0, .retAddr 0]) c_304_106 rfl (i1 c_304_108 (i6 (L' := [.ref 83, .int (wI x1), .int (wI x2), .int (wI x3), .int (wI x4), .int (wI 0), .int (wI 0), .int (wI 0), .retAddr 0, .retAddr 0, .retAddr 0]) c_304_109 rfl (i5 c_304_111 rfl (i1 c_304_112 (i46 (σ1 := uc (uc σ 86 (cpA ((σ 84)) ((σ 86)))) 83 (u1 (σ 83) 31 0)) c_304_113 (lo (c := 83) (kd := 112) (n := 0) rfl (by decide)) (by decide) rfl (by decide) (wr_ (uc_ns rfl (by decide)) rfl) (i1 c_304_116 (i6 (L' := [.ref 83, .int (wI x1), .int (wI x2), .int (wI x3), .int (wI x4), .int (wI 0), .int (wI 0), .int (wI 0), .int (wI 0), .retAddr 0, .retAddr 0]) c_304_117 rfl t))))))))))
            · have t := iF t hc
              have ha22 : ¬ (((σ 84 0) + x3) ≤ 400) := hc
              refine i1 c_304_69 ?_
              exact i90 c_304_70 t
          · have t := iF t hc
            have ha19 : ¬ (0 ≤ x4 ∧ x4 ≤ 6) := hc
            refine i1 c_304_69 ?_
            exact i90 c_304_70 t
        · have t := iF t hc
          have ha17 : ¬ (1 ≤ x3 ∧ x3 ≤ 30) := hc
          refine i1 c_304_69 ?_
          exact i90 c_304_70 t
      · have t := iF t hc
        have ha15 : ¬ (0 ≤ x2 ∧ x2 < σ 84 1) := hc
        refine i1 c_304_69 ?_
        exact i90 c_304_70 t
  · have t := iF t hc
    have ha2 : ¬ (x1 = (-1)) := hc
    refine i3 c_304_5 rfl (i1 c_304_6 (i5 c_304_7 rfl (i45 c_304_8 (lo (c := 83) (kd := 112) (n := 0) rfl (by decide)) (lro (c := 83) (k := 0) (j := 84) (by decide)) (i1 c_304_11 (wi_ok (fun K25 => ?_))))))
    obtain ⟨r26, t⟩ := t
    refine i50 (v := σ 84 5) c_304_12 (lo (c := 84) (kd := 0) (n := 112300) rfl (by decide)) (by decide) (by decide) rfl (i1 c_304_13 (i11 c_304_14 ?_))
    refine i81 (As := [.int (wI x1), .int (wI 0), .int (wI ((σ 84 5) - 1))]) (rest := []) c_304_15 mi_196 rfl rfl (Nat.le_of_ble_eq_true rfl) (Nat.le_of_ble_eq_true rfl) (q_196 r1 (by decide) r26 ?_)
    show wi (d + 20) 304 18 [.ref 83, .int (wI x1), .int (wI x2), .int (wI x3), .int (wI x4), .retAddr 0, .retAddr 0, .retAddr 0, .retAddr 0, .retAddr 0, .retAddr 0] [.int (wI (if 0 ≤ x1 ∧ x1 ≤ ((σ 84 5) - 1) then 1 else 0))] S σ τ Q
    refine i36e c_304_18 rfl (fun hc => ?_) (fun hc => ?_)
    · have t := iT t hc
      have ha27 : 0 ≤ x1 ∧ x1 ≤ ((σ 84 5) - 1) := hc
      obtain ⟨r28, t⟩ := t
      refine i3 c_304_21 rfl (i1 c_304_22 ?_)
      refine i37 c_304_23 r28 (by decide) rfl (fun hc => ?_) (fun hc => ?_)
      · have t := iT t hc
        have ha29 : x2 = (-1) := hc
        obtain ⟨r30, t⟩ := t
        refine i3 c_304_34 rfl (i1 c_304_35 (i1 c_304_36 ?_))
        refine i81 (As := [.int (wI x3), .int (wI 1), .int (wI 30)]) (rest := []) c_304_38 mi_196 rfl rfl (Nat.le_of_ble_eq_true rfl) (Nat.le_of_ble_eq_true rfl) (q_196 r30 (by decide) (by decide) ?_)
        show wi (d + 20) 304 41 [.ref 83, .int (wI x1), .int (wI x2), .int (wI x3), .int (wI x4), .retAddr 0, .retAddr 0, .retAddr 0, .retAddr 0, .retAddr 0, .retAddr 0] [.int (wI (if 1 ≤ x3 ∧ x3 ≤ 30 then 1 else 0))] S σ τ Q
        refine i36e c_304_41 rfl (fun hc => ?_) (fun hc => ?_)
        · have t := iT t hc
          have ha31 : 1 ≤ x3 ∧ x3 ≤ 30 := hc
          obtain ⟨r32, t⟩ := t
          refine i3 c_304_44 rfl (i1 c_304_46 (i1 c_304_47 ?_))
          refine i81 (As := [.int (wI x4), .int (wI 0), .int (wI 6)]) (rest := []) c_304_49 mi_196 rfl rfl (Nat.le_of_ble_eq_true rfl) (Nat.le_of_ble_eq_true rfl) (q_196 r32 (by decide) (by decide) ?_)
          show wi (d + 20) 304 52 [.ref 83, .int (wI x1), .int (wI x2), .int (wI x3), .int (wI x4), .retAddr 0, .retAddr 0, .retAddr 0, .retAddr 0, .retAddr 0, .retAddr 0] [.int (wI (if 0 ≤ x4 ∧ x4 ≤ 6 then 1 else 0))] S σ τ Q
          refine i36e c_304_52 rfl (fun hc => ?_) (fun hc => ?_)
          · have t := iT t hc
            have ha33 : 0 ≤ x4 ∧ x4 ≤ 6 := hc
            obtain ⟨r34, t⟩ := t
            refine i5 c_304_55 rfl (i45 c_304_56 (lo (c := 83) (kd := 112) (n := 0) rfl (by decide)) (lro (c := 83) (k := 0) (j := 84) (by decide)) (i1 c_304_59 (i50 (v := σ 84 0) c_304_60 (lo (c := 84) (kd := 0) (n := 112300) rfl (by decide)) (by decide) (by decide) rfl (i3 c_304_61 rfl (i10 c_304_62 (i1 c_304_63 ?_))))))
            refine i37 c_304_66 r34 (by decide) rfl (fun hc => ?_) (fun hc => ?_)
            · have t := iT t hc
              have ha35 : ((σ 84 0) + x3) ≤ 400 := hc
              obtain ⟨p36, t⟩ := t
              refine i5 c_304_71 rfl (i45 c_304_72 (lo (c := 83) (kd := 112) (n := 0) rfl (by decide)) (lro (c := 83) (k := 0) (j := 84) (by decide)) (i5 c_304_75 rfl (i45 c_304_76 (lo (c := 83) (kd := 112) (n := 0) rfl (by decide)) (lro (c := 83) (k := 2) (j := 86) (by decide)) ?_)))
              refine i81 (As := [.ref 84, .ref 86]) (rest := []) c_304_79 mi_195 rfl rfl (Nat.le_of_ble_eq_true rfl) (Nat.le_of_ble_eq_true rfl) (q_195 ⟨fun _ _ => (lo (c := 84) (kd := 0) (n := 112300) rfl (by decide)), (by decide)⟩ ⟨fun _ _ => (lo (c := 86) (kd := 0) (n := 112300) rfl (by decide)), (by decide)⟩ p36 ?_)
              show wi (d + 20) 304 82 [.ref 83, .int (wI x1), .int (wI x2), .int (wI x3), .int (wI x4), .retAddr 0, .retAddr 0, .retAddr 0, .retAddr 0, .retAddr 0, .retAddr 0] [] S (uc σ 86 (cpA ((σ 84)) ((σ 86)))) τ Q
              refine i3 c_304_82 rfl (i1 c_304_83 ?_)
              refine i37 c_304_84 r1 (by decide) rfl (fun hc => absurd hc (show ¬ (x1 = (-1)) by omega)) (fun _ => ?_)
              refine i5 c_304_87 rfl (i3 c_304_88 rfl (i3 c_304_89 rfl (i5 c_304_90 rfl (i45 c_304_91 (lo (c := 83) (kd := 112) (n := 0) rfl (by decide)) (lro (c := 83) (k := 0) (j := 84) (by decide)) (i1 c_304_94 (wi_ok (fun K38 => ?_)))))))
              obtain ⟨p39, t⟩ := t
              refine i50 (v := σ 84 0) c_304_95 (lo (c := 84) (kd := 0) (n := 112300) rfl (by decide)) (by decide) (by decide) (congrFun (uc_ns rfl (by decide)) _) (i1 c_304_96 ?_)
              refine i80 (As := [.int (wI x1), .int (wI x2), .int (wI (σ 84 0)), .int (wI 399)]) (rest := []) c_304_99 mi_220 rfl rfl (Nat.le_of_ble_eq_true rfl) (Nat.le_of_ble_eq_true rfl) (lo (c := 83) (kd := 112) (n := 0) rfl (by decide)) (q_220 r1 r28 (rge_ K38 (congrFun (uc_ns rfl (by decide)) _)) (by decide) p39 ?_)
              show wi (d + 20) 304 102 [.ref 83, .int (wI x1), .int (wI x2), .int (wI x3), .int (wI x4), .retAddr 0, .retAddr 0, .retAddr 0, .retAddr 0, .retAddr 0, .retAddr 0] [] S (uc (uc σ 86 (cpA ((σ 84)) ((σ 86)))) 84 (r_put ((uc σ 86 (cpA ((σ 84)) ((σ 86)))) 84) x1 x2 (σ 84 0) 399)) τ Q
              refine wi_s (σ1 := uc (uc σ 86 (cpA ((σ 84)) ((σ 86)))) 84 (r_put ((σ 84)) x1 x2 (σ 84 0) 399)) (by simp only [(show (uc σ 86 (cpA ((σ 84)) ((σ 86)))) 84 = σ 84 from (uc_ns rfl (by decide)))]) (i1 c_304_102 (i6 (L' := [.ref 83, .int (wI x1), .int (wI x2), .int (wI x3), .int (wI x4), .int (wI 0), .retAddr 0, .retAddr 0, .retAddr 0, .retAddr 0, .retAddr 0]) c_304_103 rfl (i1 c_304_105 (i6 (L' := [.ref 83, .int (wI x1), .int (wI x2), .int (wI x3), .int (wI x4), .int (wI 0), .int (wI 0), .retAddr 0, .retAddr 0, .retAddr 0, .retAddr 0]) c_304_106 rfl (i1 c_304_108 (i6 (L' := [.ref 83, .int (wI x1), .int (wI x2), .int (wI x3), .int (wI x4), .int (wI 0), .int (wI 0), .int (wI 0), .retAddr 0, .retAddr 0, .retAddr 0]) c_304_109 rfl (i5 c_304_111 rfl (i1 c_304_112 (i46 (σ1 := uc (uc (uc σ 86 (cpA ((σ 84)) ((σ 86)))) 84 (r_put ((σ 84)) x1 x2 (σ 84 0) 399)) 83 (u1 (σ 83) 31 0)) c_304_113 (lo (c := 83) (kd := 112) (n := 0) rfl (by decide)) (by decide) rfl (by decide) (wr_ (uc_ns (uc_ns rfl (by decide)) (by decide)) rfl) (i1 c_304_116 (i6 (L' := [.ref 83, .int (wI x1), .int (wI x2), .int (wI x3), .int (wI x4), .int (wI 0), .int (wI 0), .int (wI 0), .int (wI 0), .retAddr 0, .retAddr 0]) c_304_117 rfl t)))))))))))
            · have t := iF t hc
              have ha35 : ¬ (((σ 84 0) + x3) ≤ 400) := hc
              refine i1 c_304_69 ?_
              exact i90 c_304_70 t
          · have t := iF t hc
            have ha33 : ¬ (0 ≤ x4 ∧ x4 ≤ 6) := hc
            refine i1 c_304_69 ?_
            exact i90 c_304_70 t
        · have t := iF t hc
          have ha31 : ¬ (1 ≤ x3 ∧ x3 ≤ 30) := hc
          refine i1 c_304_69 ?_
          exact i90 c_304_70 t
      · have t := iF t hc
        have ha29 : ¬ (x2 = (-1)) := hc
        obtain ⟨p40, t⟩ := t
        refine i5 c_304_26 rfl (i3 c_304_27 rfl ?_)
        refine i80 (As := [.int (wI x2)]) (rest := []) c_304_28 mi_201 rfl rfl (Nat.le_of_ble_eq_true rfl) (Nat.le_of_ble_eq_true rfl) (lo (c := 83) (kd := 112) (n := 0) rfl (by decide)) (q_201 r28 p40 ?_)
        show wi (d + 20) 304 31 [.ref 83, .int (wI x1), .int (wI x2), .int (wI x3), .int (wI x4), .retAddr 0, .retAddr 0, .retAddr 0, .retAddr 0, .retAddr 0, .retAddr 0] [.int (wI (if 0 ≤ x2 ∧ x2 < σ 84 1 then 1 else 0))] S σ τ Q
        refine i36e c_304_31 rfl (fun hc => ?_) (fun hc => ?_)
        · have t := iT t hc
          have ha41 : 0 ≤ x2 ∧ x2 < σ 84 1 := hc
          obtain ⟨r42, t⟩ := t
          refine i3 c_304_34 rfl (i1 c_304_35 (i1 c_304_36 ?_))
          refine i81 (As := [.int (wI x3), .int (wI 1), .int (wI 30)]) (rest := []) c_304_38 mi_196 rfl rfl (Nat.le_of_ble_eq_true rfl) (Nat.le_of_ble_eq_true rfl) (q_196 r42 (by decide) (by decide) ?_)
          show wi (d + 20) 304 41 [.ref 83, .int (wI x1), .int (wI x2), .int (wI x3), .int (wI x4), .retAddr 0, .retAddr 0, .retAddr 0, .retAddr 0, .retAddr 0, .retAddr 0] [.int (wI (if 1 ≤ x3 ∧ x3 ≤ 30 then 1 else 0))] S σ τ Q
          refine i36e c_304_41 rfl (fun hc => ?_) (fun hc => ?_)
          · have t := iT t hc
            have ha43 : 1 ≤ x3 ∧ x3 ≤ 30 := hc
            obtain ⟨r44, t⟩ := t
            refine i3 c_304_44 rfl (i1 c_304_46 (i1 c_304_47 ?_))
            refine i81 (As := [.int (wI x4), .int (wI 0), .int (wI 6)]) (rest := []) c_304_49 mi_196 rfl rfl (Nat.le_of_ble_eq_true rfl) (Nat.le_of_ble_eq_true rfl) (q_196 r44 (by decide) (by decide) ?_)
            show wi (d + 20) 304 52 [.ref 83, .int (wI x1), .int (wI x2), .int (wI x3), .int (wI x4), .retAddr 0, .retAddr 0, .retAddr 0, .retAddr 0, .retAddr 0, .retAddr 0] [.int (wI (if 0 ≤ x4 ∧ x4 ≤ 6 then 1 else 0))] S σ τ Q
            refine i36e c_304_52 rfl (fun hc => ?_) (fun hc => ?_)
            · have t := iT t hc
              have ha45 : 0 ≤ x4 ∧ x4 ≤ 6 := hc
              obtain ⟨r46, t⟩ := t
              refine i5 c_304_55 rfl (i45 c_304_56 (lo (c := 83) (kd := 112) (n := 0) rfl (by decide)) (lro (c := 83) (k := 0) (j := 84) (by decide)) (i1 c_304_59 (i50 (v := σ 84 0) c_304_60 (lo (c := 84) (kd := 0) (n := 112300) rfl (by decide)) (by decide) (by decide) rfl (i3 c_304_61 rfl (i10 c_304_62 (i1 c_304_63 ?_))))))
              refine i37 c_304_66 r46 (by decide) rfl (fun hc => ?_) (fun hc => ?_)
              · have t := iT t hc
                have ha47 : ((σ 84 0) + x3) ≤ 400 := hc
                obtain ⟨p48, t⟩ := t
                refine i5 c_304_71 rfl (i45 c_304_72 (lo (c := 83) (kd := 112) (n := 0) rfl (by decide)) (lro (c := 83) (k := 0) (j := 84) (by decide)) (i5 c_304_75 rfl (i45 c_304_76 (lo (c := 83) (kd := 112) (n := 0) rfl (by decide)) (lro (c := 83) (k := 2) (j := 86) (by decide)) ?_)))
                refine i81 (As := [.ref 84, .ref 86]) (rest := []) c_304_79 mi_195 rfl rfl (Nat.le_of_ble_eq_true rfl) (Nat.le_of_ble_eq_true rfl) (q_195 ⟨fun _ _ => (lo (c := 84) (kd := 0) (n := 112300) rfl (by decide)), (by decide)⟩ ⟨fun _ _ => (lo (c := 86) (kd := 0) (n := 112300) rfl (by decide)), (by decide)⟩ p48 ?_)
                show wi (d + 20) 304 82 [.ref 83, .int (wI x1), .int (wI x2), .int (wI x3), .int (wI x4), .retAddr 0, .retAddr 0, .retAddr 0, .retAddr 0, .retAddr 0, .retAddr 0] [] S (uc σ 86 (cpA ((σ 84)) ((σ 86)))) τ Q
                refine i3 c_304_82 rfl (i1 c_304_83 ?_)
                refine i37 c_304_84 r1 (by decide) rfl (fun hc => absurd hc (show ¬ (x1 = (-1)) by omega)) (fun _ => ?_)
                refine i5 c_304_87 rfl (i3 c_304_88 rfl (i3 c_304_89 rfl (i5 c_304_90 rfl (i45 c_304_91 (lo (c := 83) (kd := 112) (n := 0) rfl (by decide)) (lro (c := 83) (k := 0) (j := 84) (by decide)) (i1 c_304_94 (wi_ok (fun K50 => ?_)))))))
                obtain ⟨p51, t⟩ := t
                refine i50 (v := σ 84 0) c_304_95 (lo (c := 84) (kd := 0) (n := 112300) rfl (by decide)) (by decide) (by decide) (congrFun (uc_ns rfl (by decide)) _) (i1 c_304_96 ?_)
                refine i80 (As := [.int (wI x1), .int (wI x2), .int (wI (σ 84 0)), .int (wI 399)]) (rest := []) c_304_99 mi_220 rfl rfl (Nat.le_of_ble_eq_true rfl) (Nat.le_of_ble_eq_true rfl) (lo (c := 83) (kd := 112) (n := 0) rfl (by decide)) (q_220 r1 r28 (rge_ K50 (congrFun (uc_ns rfl (by decide)) _)) (by decide) p51 ?_)
                show wi (d + 20) 304 102 [.ref 83, .int (wI x1), .int (wI x2), .int (wI x3), .int (wI x4), .retAddr 0, .retAddr 0, .retAddr 0, .retAddr 0, .retAddr 0, .retAddr 0] [] S (uc (uc σ 86 (cpA ((σ 84)) ((σ 86)))) 84 (r_put ((uc σ 86 (cpA ((σ 84)) ((σ 86)))) 84) x1 x2 (σ 84 0) 399)) τ Q
                refine wi_s (σ1 := uc (uc σ 86 (cpA ((σ 84)) ((σ 86)))) 84 (r_put ((σ 84)) x1 x2 (σ 84 0) 399)) (by simp only [(show (uc σ 86 (cpA ((σ 84)) ((σ 86)))) 84 = σ 84 from (uc_ns rfl (by decide)))]) (i1 c_304_102 (i6 (L' := [.ref 83, .int (wI x1), .int (wI x2), .int (wI x3), .int (wI x4), .int (wI 0), .retAddr 0, .retAddr 0, .retAddr 0, .retAddr 0, .retAddr 0]) c_304_103 rfl (i1 c_304_105 (i6 (L' := [.ref 83, .int (wI x1), .int (wI x2), .int (wI x3), .int (wI x4), .int (wI 0), .int (wI 0), .retAddr 0, .retAddr 0, .retAddr 0, .retAddr 0]) c_304_106 rfl (i1 c_304_108 (i6 (L' := [.ref 83, .int (wI x1), .int (wI x2), .int (wI x3), .int (wI x4), .int (wI 0), .int (wI 0), .int (wI 0), .retAddr 0, .retAddr 0, .retAddr 0]) c_304_109 rfl (i5 c_304_111 rfl (i1 c_304_112 (i46 (σ1 := uc (uc (uc σ 86 (cpA ((σ 84)) ((σ 86)))) 84 (r_put ((σ 84)) x1 x2 (σ 84 0) 399)) 83 (u1 (σ 83) 31 0)) c_304_113 (lo (c := 83) (kd := 112) (n := 0) rfl (by decide)) (by decide) rfl (by decide) (wr_ (uc_ns (uc_ns rfl (by decide)) (by decide)) rfl) (i1 c_304_116 (i6 (L' := [.ref 83, .int (wI x1), .int (wI x2), .int (wI x3), .int (wI x4), .int (wI 0), .int (wI 0), .int (wI 0), .int (wI 0), .retAddr 0, .retAddr 0]) c_304_117 rfl t)))))))))))
              · have t := iF t hc
                have ha47 : ¬ (((σ 84 0) + x3) ≤ 400) := hc
                refine i1 c_304_69 ?_
                exact i90 c_304_70 t
            · have t := iF t hc
              have ha45 : ¬ (0 ≤ x4 ∧ x4 ≤ 6) := hc
              refine i1 c_304_69 ?_
              exact i90 c_304_70 t
          · have t := iF t hc
            have ha43 : ¬ (1 ≤ x3 ∧ x3 ≤ 30) := hc
            refine i1 c_304_69 ?_
            exact i90 c_304_70 t
        · have t := iF t hc
          have ha41 : ¬ (0 ≤ x2 ∧ x2 < σ 84 1) := hc
          refine i1 c_304_69 ?_
          exact i90 c_304_70 t
    · have t := iF t hc
      have ha27 : ¬ (0 ≤ x1 ∧ x1 ≤ ((σ 84 5) - 1)) := hc
      refine i1 c_304_69 ?_
      exact i90 c_304_70 t
set_option maxRecDepth 20000 in
theorem u_304_119 {d : Nat} {S : zS} {σ τ : zI} {Q : zQ} {x1 : Int} {x2 : Int} {x3 : Int} {x4 : Int} {x5 : Int} {x6 : Int} {x7 : Int} {x8 : Int} {y9 : Value} {y10 : Value} (t : (rg x8) ∧ (rg x3) ∧ if x3 ≤ x8 then ((rg x4) ∧ if x4 = 0 then ((86 ≠ 84) ∧ Q (some (.int (wI x5))) S (uc σ 84 (cpA ((σ 86)) ((σ 84)))) τ) else (if x4 = 1 then ((86 ≠ 84) ∧ Q (some (.int (wI x6))) S (uc σ 84 (cpA ((σ 86)) ((σ 84)))) τ) else (if x4 = 2 then ((86 ≠ 84) ∧ Q (some (.int (wI x7))) S (uc σ 84 (cpA ((σ 86)) ((σ 84)))) τ) else (if x4 = 3 then ((86 ≠ 84) ∧ Q (some (.int (wI (σ 83 31)))) S (uc σ 84 (cpA ((σ 86)) ((σ 84)))) τ) else ((jv_C (σ 84)) ∧ (86 ≠ 84) ∧ Q (some (.int (wI (if x4 = 4 then sI (fun m => σ 84 (3300 + 16 * m + 5)) (σ 84 1) else if x4 = 5 then sI (fun s => σ 84 (3428 + 8 * s + 3)) (σ 84 2) else if x4 = 6 then sI (fun h => σ 84 (3460 + 8 * h + 3)) (σ 84 3) else 0)))) S (uc σ 84 (cpA ((σ 86)) ((σ 84)))) τ))))) else (∃ a17 : Int → Int, (σ 84 = a17) ∧ (Jv a17) ∧ (jv_T a17) ∧ (jv_E a17) ∧ (a17 0 ≤ 399) ∧ (jv_U a17) ∧ (jv_B a17) ∧ ∀ (σ125 : zI) (τ126 : zI), FW σ σ125 → σ125 83 31 = zw (σ 83 31 + wk_pd a17 (a17 1)) → σ125 84 = r_week a17 → ((0 : Int) ≤ 22300 ∧ 22300 ≤ (60000 : Int)) ∧ (0 ≤ (σ 84 0) ∧ (σ 84 0) ≤ 399) ∧ (jv_C (σ125 84)) ∧ ((0 : Int) ≤ 31900 ∧ 31900 ≤ (60000 : Int)) ∧ wi (d + 20) 304 168 [.ref 83, .int (wI x1), .int (wI x2), .int (wI x3), .int (wI x4), .int (wI (x5 + (sI (fun h => σ125 84 (22300 + 24 * (σ 84 0) + h)) (σ125 84 3)))), .int (wI (x6 + (sI (fun h => σ125 84 (31900 + 24 * (σ 84 0) + h)) (σ125 84 3)))), .int (wI x7), .int (wI x8), .int (wI (σ 84 0)), .int (wI 0)] [] S σ125 τ126 Q)) : wi (d + 20) 304 119 [.ref 83, .int (wI x1), .int (wI x2), .int (wI x3), .int (wI x4), .int (wI x5), .int (wI x6), .int (wI x7), .int (wI x8), y9, y10] [] S σ τ Q := by
  obtain ⟨r1, t⟩ := t
  obtain ⟨r2, t⟩ := t
  refine i3 c_304_119 rfl (i3 c_304_121 rfl ?_)
  refine i37 c_304_122 r1 r2 rfl (fun hc => ?_) (fun hc => ?_)
  · have t := iT t hc
    have ha3 : x3 ≤ x8 := hc
    obtain ⟨r4, t⟩ := t
    refine i3 c_304_204 rfl ?_
    refine i36 c_304_206 r4 rfl (fun hc => ?_) (fun hc => ?_)
    · have t := iF t hc
      have ha5 : ¬ (x4 = 0) := hc
      refine i3 c_304_214 rfl (i1 c_304_216 ?_)
      refine i37 c_304_217 r4 (by decide) rfl (fun hc => ?_) (fun hc => ?_)
      · have t := iF t hc
        have ha6 : ¬ (x4 = 1) := hc
        refine i3 c_304_225 rfl (i1 c_304_227 ?_)
        refine i37 c_304_228 r4 (by decide) rfl (fun hc => ?_) (fun hc => ?_)
        · have t := iF t hc
          have ha7 : ¬ (x4 = 2) := hc
          refine i3 c_304_236 rfl (i1 c_304_238 ?_)
          refine i37 c_304_239 r4 (by decide) rfl (fun hc => ?_) (fun hc => ?_)
          · have t := iF t hc
            have ha8 : ¬ (x4 = 3) := hc
            obtain ⟨p9, t⟩ := t
            refine i5 c_304_249 rfl (i3 c_304_250 rfl ?_)
            refine i80 (As := [.int (wI x4)]) (rest := []) c_304_252 mi_303 rfl rfl (Nat.le_of_ble_eq_true rfl) (Nat.le_of_ble_eq_true rfl) (lo (c := 83) (kd := 112) (n := 0) rfl (by decide)) (q_303 r4 p9 ?_)
            show wi (d + 20) 304 255 [.ref 83, .int (wI x1), .int (wI x2), .int (wI x3), .int (wI x4), .int (wI x5), .int (wI x6), .int (wI x7), .int (wI x8), y9, y10] [.int (wI (if x4 = 4 then sI (fun m => σ 84 (3300 + 16 * m + 5)) (σ 84 1) else if x4 = 5 then sI (fun s => σ 84 (3428 + 8 * s + 3)) (σ 84 2) else if x4 = 6 then sI (fun h => σ 84 (3460 + 8 * h + 3)) (σ 84 3) else 0))] S σ τ Q
            obtain ⟨p10, t⟩ := t
            refine i6 (L' := [.ref 83, .int (wI x1), .int (wI x2), .int (wI x3), .int (wI x4), .int (wI x5), .int (wI x6), .int (wI x7), .int (wI (if x4 = 4 then sI (fun m => σ 84 (3300 + 16 * m + 5)) (σ 84 1) else if x4 = 5 then sI (fun s => σ 84 (3428 + 8 * s + 3)) (σ 84 2) else if x4 = 6 then sI (fun h => σ 84 (3460 + 8 * h + 3)) (σ 84 3) else 0)), y9, y10]) c_304_255 rfl (i5 c_304_257 rfl (i45 c_304_258 (lo (c := 83) (kd := 112) (n := 0) rfl (by decide)) (lro (c := 83) (k := 2) (j := 86) (by decide)) (i5 c_304_261 rfl (i45 c_304_262 (lo (c := 83) (kd := 112) (n := 0) rfl (by decide)) (lro (c := 83) (k := 0) (j := 84) (by decide)) ?_))))
            refine i81 (As := [.ref 86, .ref 84]) (rest := []) c_304_265 mi_195 rfl rfl (Nat.le_of_ble_eq_true rfl) (Nat.le_of_ble_eq_true rfl) (q_195 ⟨fun _ _ => (lo (c := 86) (kd := 0) (n := 112300) rfl (by decide)), (by decide)⟩ ⟨fun _ _ => (lo (c := 84) (kd := 0) (n := 112300) rfl (by decide)), (by decide)⟩ p10 ?_)
            show wi (d + 20) 304 268 [.ref 83, .int (wI x1), .int (wI x2), .int (wI x3), .int (wI x4), .int (wI x5), .int (wI x6), .int (wI x7), .int (wI (if x4 = 4 then sI (fun m => σ 84 (3300 + 16 * m + 5)) (σ 84 1) else if x4 = 5 then sI (fun s => σ 84 (3428 + 8 * s + 3)) (σ 84 2) else if x4 = 6 then sI (fun h => σ 84 (3460 + 8 * h + 3)) (σ 84 3) else 0)), y9, y10] [] S (uc σ 84 (cpA ((σ 86)) ((σ 84)))) τ Q
            refine i3 c_304_268 rfl ?_
            exact i90 c_304_270 t
          · have t := iT t (Decidable.not_not.mp hc)
            have ha8 : x4 = 3 := Decidable.not_not.mp hc
            refine i5 c_304_242 rfl (wi_ok (fun K11 => ?_))
            obtain ⟨p12, t⟩ := t
            refine i43 (v := σ 83 31) c_304_243 (lo (c := 83) (kd := 112) (n := 0) rfl (by decide)) rfl (i38 c_304_246 rfl (i6 (L' := [.ref 83, .int (wI x1), .int (wI x2), .int (wI x3), .int (wI x4), .int (wI x5), .int (wI x6), .int (wI x7), .int (wI (σ 83 31)), y9, y10]) c_304_255 rfl (i5 c_304_257 rfl (i45 c_304_258 (lo (c := 83) (kd := 112) (n := 0) rfl (by decide)) (lro (c := 83) (k := 2) (j := 86) (by decide)) (i5 c_304_261 rfl (i45 c_304_262 (lo (c := 83) (kd := 112) (n := 0) rfl (by decide)) (lro (c := 83) (k := 0) (j := 84) (by decide)) ?_))))))
            refine i81 (As := [.ref 86, .ref 84]) (rest := []) c_304_265 mi_195 rfl rfl (Nat.le_of_ble_eq_true rfl) (Nat.le_of_ble_eq_true rfl) (q_195 ⟨fun _ _ => (lo (c := 86) (kd := 0) (n := 112300) rfl (by decide)), (by decide)⟩ ⟨fun _ _ => (lo (c := 84) (kd := 0) (n := 112300) rfl (by decide)), (by decide)⟩ p12 ?_)
            show wi (d + 20) 304 268 [.ref 83, .int (wI x1), .int (wI x2), .int (wI x3), .int (wI x4), .int (wI x5), .int (wI x6), .int (wI x7), .int (wI (σ 83 31)), y9, y10] [] S (uc σ 84 (cpA ((σ 86)) ((σ 84)))) τ Q
            refine i3 c_304_268 rfl ?_
            exact i90 c_304_270 t
        · have t := iT t (Decidable.not_not.mp hc)
          have ha7 : x4 = 2 := Decidable.not_not.mp hc
          obtain ⟨p13, t⟩ := t
          refine i3 c_304_231 rfl (i38 c_304_233 rfl (i6 (L' := [.ref 83, .int (wI x1), .int (wI x2), .int (wI x3), .int (wI x4), .int (wI x5), .int (wI x6), .int (wI x7), .int (wI x7), y9, y10]) c_304_255 rfl (i5 c_304_257 rfl (i45 c_304_258 (lo (c := 83) (kd := 112) (n := 0) rfl (by decide)) (lro (c := 83) (k := 2) (j := 86) (by decide)) (i5 c_304_261 rfl (i45 c_304_262 (lo (c := 83) (kd := 112) (n := 0) rfl (by decide)) (lro (c := 83) (k := 0) (j := 84) (by decide)) ?_))))))
          refine i81 (As := [.ref 86, .ref 84]) (rest := []) c_304_265 mi_195 rfl rfl (Nat.le_of_ble_eq_true rfl) (Nat.le_of_ble_eq_true rfl) (q_195 ⟨fun _ _ => (lo (c := 86) (kd := 0) (n := 112300) rfl (by decide)), (by decide)⟩ ⟨fun _ _ => (lo (c := 84) (kd := 0) (n := 112300) rfl (by decide)), (by decide)⟩ p13 ?_)
          show wi (d + 20) 304 268 [.ref 83, .int (wI x1), .int (wI x2), .int (wI x3), .int (wI x4), .int (wI x5), .int (wI x6), .int (wI x7), .int (wI x7), y9, y10] [] S (uc σ 84 (cpA ((σ 86)) ((σ 84)))) τ Q
          refine i3 c_304_268 rfl ?_
          exact i90 c_304_270 t
      · have t := iT t (Decidable.not_not.mp hc)
        have ha6 : x4 = 1 := Decidable.not_not.mp hc
        obtain ⟨p14, t⟩ := t
        refine i3 c_304_220 rfl (i38 c_304_222 rfl (i6 (L' := [.ref 83, .int (wI x1), .int (wI x2), .int (wI x3), .int (wI x4), .int (wI x5), .int (wI x6), .int (wI x7), .int (wI x6), y9, y10]) c_304_255 rfl (i5 c_304_257 rfl (i45 c_304_258 (lo (c := 83) (kd := 112) (n := 0) rfl (by decide)) (lro (c := 83) (k := 2) (j := 86) (by decide)) (i5 c_304_261 rfl (i45 c_304_262 (lo (c := 83) (kd := 112) (n := 0) rfl (by decide)) (lro (c := 83) (k := 0) (j := 84) (by decide)) ?_))))))
        refine i81 (As := [.ref 86, .ref 84]) (rest := []) c_304_265 mi_195 rfl rfl (Nat.le_of_ble_eq_true rfl) (Nat.le_of_ble_eq_true rfl) (q_195 ⟨fun _ _ => (lo (c := 86) (kd := 0) (n := 112300) rfl (by decide)), (by decide)⟩ ⟨fun _ _ => (lo (c := 84) (kd := 0) (n := 112300) rfl (by decide)), (by decide)⟩ p14 ?_)
        show wi (d + 20) 304 268 [.ref 83, .int (wI x1), .int (wI x2), .int (wI x3), .int (wI x4), .int (wI x5), .int (wI x6), .int (wI x7), .int (wI x6), y9, y10] [] S (uc σ 84 (cpA ((σ 86)) ((σ 84)))) τ Q
        refine i3 c_304_268 rfl ?_
        exact i90 c_304_270 t
    · have t := iT t (Decidable.not_not.mp hc)
      have ha5 : x4 = 0 := Decidable.not_not.mp hc
      obtain ⟨p15, t⟩ := t
      refine i3 c_304_209 rfl (i38 c_304_211 rfl (i6 (L' := [.ref 83, .int (wI x1), .int (wI x2), .int (wI x3), .int (wI x4), .int (wI x5), .int (wI x6), .int (wI x7), .int (wI x5), y9, y10]) c_304_255 rfl (i5 c_304_257 rfl (i45 c_304_258 (lo (c := 83) (kd := 112) (n := 0) rfl (by decide)) (lro (c := 83) (k := 2) (j := 86) (by decide)) (i5 c_304_261 rfl (i45 c_304_262 (lo (c := 83) (kd := 112) (n := 0) rfl (by decide)) (lro (c := 83) (k := 0) (j := 84) (by decide)) ?_))))))
      refine i81 (As := [.ref 86, .ref 84]) (rest := []) c_304_265 mi_195 rfl rfl (Nat.le_of_ble_eq_true rfl) (Nat.le_of_ble_eq_true rfl) (q_195 ⟨fun _ _ => (lo (c := 86) (kd := 0) (n := 112300) rfl (by decide)), (by decide)⟩ ⟨fun _ _ => (lo (c := 84) (kd := 0) (n := 112300) rfl (by decide)), (by decide)⟩ p15 ?_)
      show wi (d + 20) 304 268 [.ref 83, .int (wI x1), .int (wI x2), .int (wI x3), .int (wI x4), .int (wI x5), .int (wI x6), .int (wI x7), .int (wI x5), y9, y10] [] S (uc σ 84 (cpA ((σ 86)) ((σ 84)))) τ Q
      refine i3 c_304_268 rfl ?_
      exact i90 c_304_270 t
  · have t := iF t hc
    have ha3 : ¬ (x3 ≤ x8) := hc
    refine i5 c_304_125 rfl (i45 c_304_126 (lo (c := 83) (kd := 112) (n := 0) rfl (by decide)) (lro (c := 83) (k := 0) (j := 84) (by decide)) (i1 c_304_129 (wi_ok (fun K16 => ?_))))
    obtain ⟨a17, t⟩ := t
    obtain ⟨p18, t⟩ := t
    obtain ⟨p19, t⟩ := t
    obtain ⟨p20, t⟩ := t
    obtain ⟨p21, t⟩ := t
    obtain ⟨p22, t⟩ := t
    obtain ⟨p23, t⟩ := t
    obtain ⟨p24, t⟩ := t
    refine i50 (v := σ 84 0) c_304_130 (lo (c := 84) (kd := 0) (n := 112300) rfl (by decide)) (by decide) (by decide) rfl (i6 (L' := [.ref 83, .int (wI x1), .int (wI x2), .int (wI x3), .int (wI x4), .int (wI x5), .int (wI x6), .int (wI x7), .int (wI x8), .int (wI (σ 84 0)), y10]) c_304_131 rfl (i5 c_304_133 rfl ?_))
    refine i80 (As := []) (rest := []) c_304_134 mi_293 rfl rfl (Nat.le_of_ble_eq_true rfl) (Nat.le_of_ble_eq_true rfl) (lo (c := 83) (kd := 112) (n := 0) rfl (by decide)) (q_293 (a := a17) p18 p19 p20 p21 p22 p23 p24 (fun σ125 τ126 q27 q28 q29 => ?_))
    have t := t σ125 τ126 q27 q28 q29
    show wi (d + 20) 304 137 [.ref 83, .int (wI x1), .int (wI x2), .int (wI x3), .int (wI x4), .int (wI x5), .int (wI x6), .int (wI x7), .int (wI x8), .int (wI (σ 84 0)), y10] [] S σ125 τ126 Q
    obtain ⟨p30, t⟩ := t
    obtain ⟨p31, t⟩ := t
    obtain ⟨p32, t⟩ := t
    refine i3 c_304_137 rfl (i5 c_304_139 rfl (i1 c_304_140 (i3 c_304_143 rfl ?_)))
    refine i80 (As := [.int (wI 22300), .int (wI (σ 84 0))]) (rest := [.int (wI x5)]) c_304_145 mi_302 rfl rfl (Nat.le_of_ble_eq_true rfl) (Nat.le_of_ble_eq_true rfl) (lo (c := 83) (kd := 112) (n := 0) rfl (by decide)) (q_302 p30 p31 p32 ?_)
    show wi (d + 20) 304 148 [.ref 83, .int (wI x1), .int (wI x2), .int (wI x3), .int (wI x4), .int (wI x5), .int (wI x6), .int (wI x7), .int (wI x8), .int (wI (σ 84 0)), y10] [.int (wI (sI (fun h => σ125 84 (22300 + 24 * (σ 84 0) + h)) (σ125 84 3))), .int (wI x5)] S σ125 τ126 Q
    obtain ⟨p33, t⟩ := t
    refine i10 c_304_148 (i6 (L' := [.ref 83, .int (wI x1), .int (wI x2), .int (wI x3), .int (wI x4), .int (wI (x5 + (sI (fun h => σ125 84 (22300 + 24 * (σ 84 0) + h)) (σ125 84 3)))), .int (wI x6), .int (wI x7), .int (wI x8), .int (wI (σ 84 0)), y10]) c_304_149 rfl (i3 c_304_151 rfl (i5 c_304_153 rfl (i1 c_304_154 (i3 c_304_157 rfl ?_)))))
    refine i80 (As := [.int (wI 31900), .int (wI (σ 84 0))]) (rest := [.int (wI x6)]) c_304_159 mi_302 rfl rfl (Nat.le_of_ble_eq_true rfl) (Nat.le_of_ble_eq_true rfl) (lo (c := 83) (kd := 112) (n := 0) rfl (by decide)) (q_302 p33 p31 p32 ?_)
    show wi (d + 20) 304 162 [.ref 83, .int (wI x1), .int (wI x2), .int (wI x3), .int (wI x4), .int (wI (x5 + (sI (fun h => σ125 84 (22300 + 24 * (σ 84 0) + h)) (σ125 84 3)))), .int (wI x6), .int (wI x7), .int (wI x8), .int (wI (σ 84 0)), y10] [.int (wI (sI (fun h => σ125 84 (31900 + 24 * (σ 84 0) + h)) (σ125 84 3))), .int (wI x6)] S σ125 τ126 Q
    refine i10 c_304_162 (i6 (L' := [.ref 83, .int (wI x1), .int (wI x2), .int (wI x3), .int (wI x4), .int (wI (x5 + (sI (fun h => σ125 84 (22300 + 24 * (σ 84 0) + h)) (σ125 84 3)))), .int (wI (x6 + (sI (fun h => σ125 84 (31900 + 24 * (σ 84 0) + h)) (σ125 84 3)))), .int (wI x7), .int (wI x8), .int (wI (σ 84 0)), y10]) c_304_163 rfl (i1 c_304_165 (i6 (L' := [.ref 83, .int (wI x1), .int (wI x2), .int (wI x3), .int (wI x4), .int (wI (x5 + (sI (fun h => σ125 84 (22300 + 24 * (σ 84 0) + h)) (σ125 84 3)))), .int (wI (x6 + (sI (fun h => σ125 84 (31900 + 24 * (σ 84 0) + h)) (σ125 84 3)))), .int (wI x7), .int (wI x8), .int (wI (σ 84 0)), .int (wI 0)]) c_304_166 rfl t)))
set_option maxRecDepth 20000 in
theorem u_304_168 {d : Nat} {S : zS} {σ τ : zI} {Q : zQ} {x1 : Int} {x2 : Int} {x3 : Int} {x4 : Int} {x5 : Int} {x6 : Int} {x7 : Int} {x8 : Int} {x9 : Int} {x10 : Int} (t : (rg x10) ∧ if (σ 84 1) ≤ x10 then (wi (d + 20) 304 119 [.ref 83, .int (wI x1), .int (wI x2), .int (wI x3), .int (wI x4), .int (wI x5), .int (wI x6), .int (wI x7), .int (wI (x8 + 1)), .int (wI x9), .int (wI x10)] [] S σ τ Q) else ((0 ≤ 3300 + 16 * x10 + 10 ∧ 3300 + 16 * x10 + 10 < 112300) ∧ wi (d + 20) 304 168 [.ref 83, .int (wI x1), .int (wI x2), .int (wI x3), .int (wI x4), .int (wI x5), .int (wI x6), .int (wI (x7 + (σ 84 (3300 + 16 * x10 + 10)))), .int (wI x8), .int (wI x9), .int (wI (x10 + 1))] [] S σ τ Q)) : wi (d + 20) 304 168 [.ref 83, .int (wI x1), .int (wI x2), .int (wI x3), .int (wI x4), .int (wI x5), .int (wI x6), .int (wI x7), .int (wI x8), .int (wI x9), .int (wI x10)] [] S σ τ Q := by
  refine i3 c_304_168 rfl (i5 c_304_170 rfl (i45 c_304_171 (lo (c := 83) (kd := 112) (n := 0) rfl (by decide)) (lro (c := 83) (k := 0) (j := 84) (by decide)) (i1 c_304_174 (wi_ok (fun K1 => ?_)))))
  obtain ⟨r2, t⟩ := t
  refine i50 (v := σ 84 1) c_304_175 (lo (c := 84) (kd := 0) (n := 112300) rfl (by decide)) (by decide) (by decide) rfl ?_
  refine i37 c_304_176 r2 (rge_ K1 rfl) rfl (fun hc => ?_) (fun hc => ?_)
  · have t := iT t hc
    have ha3 : (σ 84 1) ≤ x10 := hc
    refine i9 (L' := [.ref 83, .int (wI x1), .int (wI x2), .int (wI x3), .int (wI x4), .int (wI x5), .int (wI x6), .int (wI x7), .int (wI (x8 + 1)), .int (wI x9), .int (wI x10)]) c_304_198 rfl rfl (i38 c_304_201 rfl t)
  · have t := iF t hc
    have ha3 : ¬ ((σ 84 1) ≤ x10) := hc
    obtain ⟨p4, t⟩ := t
    refine i3 c_304_179 rfl (i5 c_304_181 rfl (i3 c_304_182 rfl (i1 c_304_184 ?_)))
    refine i80 (As := [.int (wI x10), .int (wI 10)]) (rest := [.int (wI x7)]) c_304_186 mi_198 rfl rfl (Nat.le_of_ble_eq_true rfl) (Nat.le_of_ble_eq_true rfl) (lo (c := 83) (kd := 112) (n := 0) rfl (by decide)) (q_198 p4 ?_)
    show wi (d + 20) 304 189 [.ref 83, .int (wI x1), .int (wI x2), .int (wI x3), .int (wI x4), .int (wI x5), .int (wI x6), .int (wI x7), .int (wI x8), .int (wI x9), .int (wI x10)] [.int (wI (σ 84 (3300 + 16 * x10 + 10))), .int (wI x7)] S σ τ Q
    refine i10 c_304_189 (i6 (L' := [.ref 83, .int (wI x1), .int (wI x2), .int (wI x3), .int (wI x4), .int (wI x5), .int (wI x6), .int (wI (x7 + (σ 84 (3300 + 16 * x10 + 10)))), .int (wI x8), .int (wI x9), .int (wI x10)]) c_304_190 rfl (i9 (L' := [.ref 83, .int (wI x1), .int (wI x2), .int (wI x3), .int (wI x4), .int (wI x5), .int (wI x6), .int (wI (x7 + (σ 84 (3300 + 16 * x10 + 10)))), .int (wI x8), .int (wI x9), .int (wI (x10 + 1))]) c_304_192 rfl rfl (i38 c_304_195 rfl t)))
theorem q_304 {d : Nat} {S : zS} {σ τ : zI} {Q : zQ} {text : Int} {mill : Int} {n : Int} {what : Int} {a : Int → Int} (p0 : σ 84 = a) (p1 : WP a) (p2 : PB a ≤ 600000000) (p3 : a 6 ≤ 60) (p4 : rg text) (p5 : rg mill) (p6 : rg n) (p7 : rg what) (t : ∀ (σ1 : zI) (τ1 : zI), FT σ σ1 → eA a (σ1 84) → Q (some (.int (wI (v_try a text mill n what)))) S σ1 τ1) : wc (d + 20) 304 [.ref 83, .int (wI text), .int (wI mill), .int (wI n), .int (wI what)] S σ τ Q := by
  have hC := jC p1.1
  unfold jv_C at hC
  have fl : ¬ k_try a text mill n what → Q (some (.int (wI (-1)))) S σ τ := fun z => by
    unfold v_try at t
    rw [if_neg z] at t
    exact t σ τ ⟨fun _ _ _ _ _ _ _ _ => rfl, fun _ _ => rfl⟩ (by rw [p0]; exact eA_r)
  -- the WEEKS
  have go : k_try a text mill n what → ∀ σ0, σ0 84 = r_tb a text mill → σ0 86 = cpA a (σ 86) → (∀ c, c ≠ 83 → c ≠ 84 → c ≠ 86 → σ0 c = σ c) → (∀ k, k ≠ 31 → σ0 83 k = σ 83 k) → σ0 83 31 = 0 → ∀ y9 y10, wi (d + 20) 304 119 [.ref 83, .int (wI text), .int (wI mill), .int (wI n), .int (wI what), .int (wI 0), .int (wI 0), .int (wI 0), .int (wI 0), y9, y10] [] S σ0 τ Q := fun k σ0 g84 g86 g g83 g31 y9 y10 => by
    have tb := w_tb p1 p3 k
    obtain ⟨b, hb⟩ : ∃ b, b = r_tb a text mill := ⟨_, rfl⟩
    rw [← hb] at tb g84
    have hB := jC tb.1.1.1
    unfold jv_C at hB
    have b0 : b 0 = a 0 := tb.2 0 (by omega)
    have pt : PT b ≤ 600000000 := by have := tb.1.2; unfold PB at this p2; omega
    have v : v_try a text mill n what = v_tw b n what := by unfold v_try; rw [if_pos k, hb]
    rw [v] at t
    clear fl
    have ws := fun i i0 (i1 : i ≤ n) => WP_ws tb.1.1 pt i i0 (show b 0 + i ≤ 400 by have := k.2.2.2.2; omega)
    have loop : ∀ i, 0 ≤ i → i ≤ n → ∀ σ' τ', FT σ σ' → σ' 86 = cpA a (σ 86) → σ' 84 = r_ws b i → σ' 83 31 = zw (tSm tp1 b i) → ∀ y9 y10, wi (d + 20) 304 119 [.ref 83, .int (wI text), .int (wI mill), .int (wI n), .int (wI what), .int (wI (tSm te1 b i)), .int (wI (tSm th1 b i)), .int (wI (tSm tm1 b i)), .int (wI i), y9, y10] [] S σ' τ' Q := by
      refine lp_up (fun i i0 i1 ih => ?_)
      intro σ' τ' f f86 f84 f31 y9 y10
      have w := ws i i0 i1
      refine u_304_119 ⟨by have := k.2.2.1; omega, p6, ifI (fun e => ?_) (fun e => ?_)⟩
      · have e : i = n := by omega
        subst e
        have fin : ∀ r : Int, wI r = wI (v_tw b i what) → Q (some (.int (wI r))) S (uc σ' 84 (cpA (σ' 86) (σ' 84))) τ' := fun r hr => by
          rw [hr]
          refine t _ τ' ⟨fun c h1 h2 h3 h4 h5 h6 h7 => by rw [uc_n h2]; exact f.1 c h1 h2 h3 h4 h5 h6 h7, fun k hk => by rw [uc_n (by decide)]; exact f.2 k hk⟩ ?_
          rw [uc_s, f86]
          exact eA_t (eA_c a (σ 86)) (eA_c _ _)
        refine ⟨p7, ifI (fun q => ⟨by decide, fin _ ?_⟩) (fun q0 => ifI (fun q => ⟨by decide, fin _ ?_⟩) (fun q1 => ifI (fun q => ⟨by decide, fin _ ?_⟩) (fun q2 => ifI (fun q => ⟨by decide, fin _ ?_⟩) (fun q3 => ⟨?_, by decide, fin _ ?_⟩))))⟩
        · unfold v_tw; rw [if_pos q]
        · unfold v_tw; rw [if_neg q0, if_pos q]
        · unfold v_tw; rw [if_neg q0, if_neg q1, if_pos q]
        · unfold v_tw; rw [if_neg q0, if_neg q1, if_neg q2, if_pos q, f31, wI_zw]
        · rw [f84]; exact jC w.1.1
        · unfold v_tw v_bh; rw [if_neg q0, if_neg q1, if_neg q2, if_neg q3, f84]
      · have ih := ih (by omega)
        have hw := jC w.1.1
        unfold jv_C at hw
        have i0' : r_ws b i 0 ≤ 399 := by have := k.2.2.2.2; omega
        obtain ⟨c, hc⟩ : ∃ c, c = r_ws b i := ⟨_, rfl⟩
        rw [← hc] at w f84 hw i0'
        have cc := rW_c w.1 i0'
        refine ⟨c, f84, w.1.1, w.1.2.1, w.1.2.2.1, i0', w.1.2.2.2.1, w.1.2.2.2.2.1, fun σ2 τ2 f2 s31 s84 => ⟨by omega, by rw [f84]; omega, by rw [s84]; exact jC (Jv_w w.1 i0'), by omega, ?_⟩⟩
        rw [s84, f84, cc.2.2.1]
        have ft : FT σ σ2 := ⟨fun c h1 h2 h3 h4 h5 h6 h7 => by rw [f2.1 c h1 h2 h4 h5 h6 h7]; exact f.1 c h1 h2 h3 h4 h5 h6 h7, fun k hk => by rw [f2.2 k hk]; exact f.2 k hk⟩
        have g86' : σ2 86 = cpA a (σ 86) := by rw [f2.1 86 (by decide) (by decide) (by decide) (by decide) (by decide) (by decide)]; exact f86
        have g84' : σ2 84 = r_ws b (i + 1) := by rw [r_ws_s i0, ← hc]; exact s84
        have g31' : σ2 83 31 = zw (tSm tp1 b (i + 1)) := by
          rw [s31, f31, wk_pd_v w.1.1, zw_add, tSm_s i0, ← hc]
          rfl
        have inner : ∀ m, 0 ≤ m → m ≤ c 1 → ∀ y9, wi (d + 20) 304 168 [.ref 83, .int (wI text), .int (wI mill), .int (wI n), .int (wI what), .int (wI (tSm te1 b (i + 1))), .int (wI (tSm th1 b (i + 1))), .int (wI (tSm tm1 b i + sI (wk_md c) m)), .int (wI i), .int (wI y9), .int (wI m)] [] S σ2 τ2 Q := by
          refine lp_up (fun m m0 m1 ihm => ?_)
          intro y9
          refine u_304_168 ?_
          rw [s84, cc.1]
          refine ⟨by omega, ifI (fun em => ?_) (fun em => ⟨by omega, ?_⟩)⟩
          · have em : m = c 1 := by omega
            subst em
            have e1 : tSm tm1 b i + sI (wk_md c) (c 1) = tSm tm1 b (i + 1) := by rw [tSm_s i0, ← hc]; rfl
            rw [e1]
            exact ih σ2 τ2 ft g86' g84' g31' _ _
          · have e2 : r_week c (3300 + 16 * m + 10) = wk_md c m := by
              rw [rW_m w.1 i0' (by omega) (by omega)]
              exact wk_md_e (by omega)
            rw [e2]
            have := ihm (by omega) y9
            rw [sI_s m0, ← Int.add_assoc] at this
            exact this
        have e1 : tSm te1 b i + sI (fun h => r_week c (22300 + 24 * c 0 + h)) (c 3) = tSm te1 b (i + 1) := by rw [tSm_s i0, ← hc]; rfl
        have e2 : tSm th1 b i + sI (fun h => r_week c (31900 + 24 * c 0 + h)) (c 3) = tSm th1 b (i + 1) := by rw [tSm_s i0, ← hc]; rfl
        rw [e1, e2]
        have := inner 0 (by omega) (by omega) (c 0)
        rw [sI_0, Int.add_zero] at this
        exact this
    have := loop 0 (by omega) (by have := k.2.2.1; omega) σ0 τ ⟨fun c h1 h2 h3 h4 h5 h6 h7 => g c h1 h2 h3, fun k hk => g83 k (by omega)⟩ g86 (by rw [r_ws_0]; exact g84) (by rw [tSm_0, g31]; rfl) y9 y10
    rw [tSm_0, tSm_0, tSm_0] at this
    exact this
  clear t
  refine wc_of mi_304 rfl (u_304_0 ?_)
  rw [p0]
  have nt : ∀ σ0 : zI, σ0 = uc (uc σ 86 (cpA a (σ 86))) 83 (u1 (σ 83) 31 0) → text = -1 → k_try a text mill n what → ∀ y9 y10, wi (d + 20) 304 119 [.ref 83, .int (wI text), .int (wI mill), .int (wI n), .int (wI what), .int (wI 0), .int (wI 0), .int (wI 0), .int (wI 0), y9, y10] [] S σ0 τ Q := fun σ0 h0 ht k y9 y10 => by
    subst h0
    refine go k _ ?_ ?_ (fun c h1 h2 h3 => ?_) (fun k hk => ?_) ?_ y9 y10
    · rw [uc_n (by decide), uc_n (by decide), p0]; unfold r_tb; rw [if_pos ht]
    · rw [uc_n (by decide), uc_s]
    · rw [uc_n h1, uc_n h3]
    · rw [uc_s, u1_n hk]
    · rw [uc_s, u1_s]
  have wt : ∀ σ0 : zI, σ0 = uc (uc (uc σ 86 (cpA a (σ 86))) 84 (r_put a text mill (a 0) 399)) 83 (u1 (σ 83) 31 0) → text ≠ -1 → k_try a text mill n what → ∀ y9 y10, wi (d + 20) 304 119 [.ref 83, .int (wI text), .int (wI mill), .int (wI n), .int (wI what), .int (wI 0), .int (wI 0), .int (wI 0), .int (wI 0), y9, y10] [] S σ0 τ Q := fun σ0 h0 ht k y9 y10 => by
    subst h0
    refine go k _ ?_ ?_ (fun c h1 h2 h3 => ?_) (fun k hk => ?_) ?_ y9 y10
    · rw [uc_n (by decide), uc_s]; unfold r_tb; rw [if_neg ht]
    · rw [uc_n (by decide), uc_n (by decide), uc_s]
    · rw [uc_n h1, uc_n h2, uc_n h3]
    · rw [uc_s, u1_n hk]
    · rw [uc_s, u1_s]
  have e6 : ∀ f, uc σ 86 f 84 6 = a 6 := fun f => by rw [uc_n (by decide), p0]
  refine ⟨p4, ifI (fun c1 => ⟨p5, ifI (fun c2 => ⟨p6, ifI (fun e1 => ⟨p7, ifI (fun e2 => ⟨by omega, ifI (fun e3 => ⟨by decide, nt _ rfl c1 ⟨by omega, by omega, e1, e2, e3⟩ _ _⟩) (fun e3 => fl (fun z => e3 z.2.2.2.2))⟩) (fun e2 => fl (fun z => e2 z.2.2.2.1))⟩) (fun e1 => fl (fun z => e1 z.2.2.1))⟩) (fun c2 => ⟨by omega, ifI (fun c2 => ⟨p6, ifI (fun e1 => ⟨p7, ifI (fun e2 => ⟨by omega, ifI (fun e3 => ⟨by decide, nt _ rfl c1 ⟨by omega, by omega, e1, e2, e3⟩ _ _⟩) (fun e3 => fl (fun z => e3 z.2.2.2.2))⟩) (fun e2 => fl (fun z => e2 z.2.2.2.1))⟩) (fun e1 => fl (fun z => e1 z.2.2.1))⟩) (fun c3 => fl (fun z => by omega))⟩)⟩) (fun c1 => ⟨by omega, ifI (fun c1' => ⟨p5, ifI (fun c2 => ⟨p6, ifI (fun e1 => ⟨p7, ifI (fun e2 => ⟨by omega, ifI (fun e3 => ⟨by decide, by rw [e6]; omega, wt _ rfl c1 ⟨by omega, by omega, e1, e2, e3⟩ _ _⟩) (fun e3 => fl (fun z => e3 z.2.2.2.2))⟩) (fun e2 => fl (fun z => e2 z.2.2.2.1))⟩) (fun e1 => fl (fun z => e1 z.2.2.1))⟩) (fun c2 => ⟨by omega, ifI (fun c2 => ⟨p6, ifI (fun e1 => ⟨p7, ifI (fun e2 => ⟨by omega, ifI (fun e3 => ⟨by decide, by rw [e6]; omega, wt _ rfl c1 ⟨by omega, by omega, e1, e2, e3⟩ _ _⟩) (fun e3 => fl (fun z => e3 z.2.2.2.2))⟩) (fun e2 => fl (fun z => e2 z.2.2.2.1))⟩) (fun e1 => fl (fun z => e1 z.2.2.1))⟩) (fun c3 => fl (fun z => by omega))⟩)⟩) (fun c1' => fl (fun z => by omega))⟩)⟩
