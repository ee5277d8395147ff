/-! ===== a WEEK: the reference begins it, and its MILLS choose (segments printed by wip/whole, contracts own work) ===== -/
/-- a' is a but for the FUND, what changes in a WEEK's tables, HOMES and SHOPS, and the books -/
def eB (a a' : Int → Int) : Prop := ∀ k, (0 ≤ k ∧ k < 3300 ∧ k ≠ 8) ∨ 5012 ≤ k ∧ k < 22300 → a' k = a k
section EB
variable {a a1 : Int → Int} {PE MI OD : Int → Int → Int}
theorem eB_L (h : eB a a1) : eL a a1 := fun k hk => h k (by omega)
theorem eB_A (h : eB a a1) : eB a (As a1 PE MI OD) := fun k hk => by rw [As_k (by omega)]; exact h k hk
theorem eB_C (h : eB a a1) (q : jv_C a) : jv_C a1 := by
  unfold jv_C at *
  rw [h 0 (by omega), h 1 (by omega), h 2 (by omega), h 3 (by omega), h 4 (by omega), h 5 (by omega), h 6 (by omega), h 7 (by omega)]
  exact q
theorem eB_K (h : eB a a1) (q : jv_K a) : jv_K a1 := hK (fun k k0 k1 => h k (by omega)) q
theorem eB_l (h : eB a a1) (hC : jv_C a) (q : Jl a) : Jl a1 := ⟨eB_C h hC, eB_K h (lK q), jF_c (eB_L h) hC (lF q)⟩
theorem pr_c (h : eB a a1) {what w : Int} (h0 : 0 ≤ what ∧ what ≤ 7) (h1 : w ≤ 399) : r_pr a1 what w = r_pr a what w := by
  have key : ∀ n : Nat, (n : Int) ≤ 400 → r_prN a1 what n = r_prN a what n := by
    intro n
    induction n with
    | zero => intro _; exact h _ (by omega)
    | succ n ih =>
      intro hn
      show (if a1 (100 + 400 * what + (n : Int)) = -1 then r_prN a1 what n else if a1 (100 + 400 * what + (n : Int)) = 0 then a1 (70 + what) else a1 (100 + 400 * what + (n : Int))) = (if a (100 + 400 * what + (n : Int)) = -1 then r_prN a what n else if a (100 + 400 * what + (n : Int)) = 0 then a (70 + what) else a (100 + 400 * what + (n : Int)))
      rw [ih (by omega), h (100 + 400 * what + (n : Int)) (by omega), h (70 + what) (by omega)]
  exact key _ (by omega)
end EB
/-- the tables while the WEEK begins -/
def PEb (a : Int → Int) (n p c : Int) : Int := if c = 8 ∧ p < n then 0 else a (3652 + 12 * p + c)
def MIb (a : Int → Int) (n m c : Int) : Int := if m < n ∧ (c = 8 ∨ c = 9 ∨ c = 10) then (if c = 9 then -1 else 0) else a (3300 + 16 * m + c)
def ODb (a : Int → Int) (n o c : Int) : Int := if c = 5 ∧ o < n then 0 else a (4372 + 8 * o + c)
theorem PEb_0 (a : Int → Int) : ∀ p c, 0 ≤ p → p < 60 → 0 ≤ c → c < 12 → PEb a 0 p c = a (3652 + 12 * p + c) := fun p c p0 _ _ _ => if_neg (by omega)
theorem MIb_0 (a : Int → Int) : ∀ p c, 0 ≤ p → p < 8 → 0 ≤ c → c < 16 → MIb a 0 p c = a (3300 + 16 * p + c) := fun p c p0 _ _ _ => if_neg (by omega)
theorem ODb_0 (a : Int → Int) : ∀ p c, 0 ≤ p → p < 80 → 0 ≤ c → c < 8 → ODb a 0 p c = a (4372 + 8 * p + c) := fun p c p0 _ _ _ => if_neg (by omega)
def wk_a0 (a : Int → Int) : Int → Int := u1 a (111900 + a 0) (wk_lf a)
theorem wk_a0_B {a : Int → Int} (h : 0 ≤ a 0) : eB a (wk_a0 a) := fun k hk => u1_n (by omega)
/-- what begin leaves -/
def BG (a : Int → Int) (σ σ1 : zI) : Prop := σ1 84 = As (wk_a0 a) (PE0 a) (MI0 a) (OD1 a 0) ∧ (σ1 83 29 = wk_ct a ∧ σ1 83 30 = wk_lf a) ∧ (∀ p, 0 ≤ p → p < a 4 → σ1 93 p = wk_h a p ∧ σ1 94 p = 0) ∧ (∀ c, c ≠ 83 → c ≠ 84 → c ≠ 93 → c ≠ 94 → σ1 c = σ c) ∧ ∀ k, k ≠ 29 → k ≠ 30 → σ1 83 k = σ 83 k
theorem OD1_0 (a : Int → Int) : ∀ p c, 0 ≤ p → p < 80 → 0 ≤ c → c < 8 → ODb a (a 7) p c = OD1 a 0 p c := fun p c _ _ _ _ => by
  unfold ODb OD1
  rw [wk_T_0]
-- method 291: MillTownModel.begin(I)V
theorem c_291_0 : pg_cd 291 0 = (5, 1, 0, 0, 0) := by decide +kernel
theorem c_291_1 : pg_cd 291 1 = (5, 1, 0, 0, 0) := by decide +kernel
theorem c_291_2 : pg_cd 291 2 = (1, 1, 0, 0, 0) := by decide +kernel
theorem c_291_3 : pg_cd 291 3 = (3, 1, 0, 1, 0) := by decide +kernel
theorem c_291_4 : pg_cd 291 4 = (80, 209, 92, 0, 0) := by decide +kernel
theorem c_291_7 : pg_cd 291 7 = (46, 12, 355, 29, 0) := by decide +kernel
theorem c_291_10 : pg_cd 291 10 = (5, 1, 0, 0, 0) := by decide +kernel
theorem c_291_11 : pg_cd 291 11 = (5, 1, 0, 0, 0) := by decide +kernel
theorem c_291_12 : pg_cd 291 12 = (1, 1, 0, 0, 1) := by decide +kernel
theorem c_291_13 : pg_cd 291 13 = (3, 1, 0, 1, 0) := by decide +kernel
theorem c_291_14 : pg_cd 291 14 = (80, 209, 92, 0, 0) := by decide +kernel
theorem c_291_17 : pg_cd 291 17 = (46, 12, 373, 30, 0) := by decide +kernel
theorem c_291_20 : pg_cd 291 20 = (5, 1, 0, 0, 0) := by decide +kernel
theorem c_291_21 : pg_cd 291 21 = (45, 12, 8, 0, 0) := by decide +kernel
theorem c_291_24 : pg_cd 291 24 = (1, 3, 383, 0, 111900) := by decide +kernel
theorem c_291_27 : pg_cd 291 27 = (3, 1, 0, 1, 0) := by decide +kernel
theorem c_291_28 : pg_cd 291 28 = (10, 1, 0, 0, 0) := by decide +kernel
theorem c_291_29 : pg_cd 291 29 = (5, 1, 0, 0, 0) := by decide +kernel
theorem c_291_30 : pg_cd 291 30 = (43, 12, 373, 30, 0) := by decide +kernel
theorem c_291_33 : pg_cd 291 33 = (54, 1, 0, 0, 0) := by decide +kernel
theorem c_291_34 : pg_cd 291 34 = (1, 1, 0, 0, 0) := by decide +kernel
theorem c_291_35 : pg_cd 291 35 = (6, 1, 0, 2, 0) := by decide +kernel
theorem c_291_36 : pg_cd 291 36 = (3, 1, 0, 2, 0) := by decide +kernel
theorem c_291_37 : pg_cd 291 37 = (5, 1, 0, 0, 0) := by decide +kernel
theorem c_291_38 : pg_cd 291 38 = (45, 12, 8, 0, 0) := by decide +kernel
theorem c_291_41 : pg_cd 291 41 = (1, 1, 0, 0, 4) := by decide +kernel
theorem c_291_42 : pg_cd 291 42 = (50, 1, 0, 0, 0) := by decide +kernel
theorem c_291_43 : pg_cd 291 43 = (37, 3, 0, 3, 70) := by decide +kernel
theorem c_291_46 : pg_cd 291 46 = (5, 1, 0, 0, 0) := by decide +kernel
theorem c_291_47 : pg_cd 291 47 = (45, 12, 8, 0, 0) := by decide +kernel
theorem c_291_50 : pg_cd 291 50 = (1, 3, 0, 0, 3652) := by decide +kernel
theorem c_291_53 : pg_cd 291 53 = (1, 2, 0, 0, 12) := by decide +kernel
theorem c_291_55 : pg_cd 291 55 = (3, 1, 0, 2, 0) := by decide +kernel
theorem c_291_56 : pg_cd 291 56 = (12, 1, 0, 0, 0) := by decide +kernel
theorem c_291_57 : pg_cd 291 57 = (10, 1, 0, 0, 0) := by decide +kernel
theorem c_291_58 : pg_cd 291 58 = (1, 2, 0, 0, 8) := by decide +kernel
theorem c_291_60 : pg_cd 291 60 = (10, 1, 0, 0, 0) := by decide +kernel
theorem c_291_61 : pg_cd 291 61 = (1, 1, 0, 0, 0) := by decide +kernel
theorem c_291_62 : pg_cd 291 62 = (54, 1, 0, 0, 0) := by decide +kernel
theorem c_291_63 : pg_cd 291 63 = (5, 1, 0, 0, 0) := by decide +kernel
theorem c_291_64 : pg_cd 291 64 = (45, 12, 50, 33, 0) := by decide +kernel
theorem c_291_67 : pg_cd 291 67 = (3, 1, 0, 2, 0) := by decide +kernel
theorem c_291_68 : pg_cd 291 68 = (1, 1, 0, 0, 0) := by decide +kernel
theorem c_291_69 : pg_cd 291 69 = (54, 1, 0, 0, 0) := by decide +kernel
theorem c_291_70 : pg_cd 291 70 = (5, 1, 0, 0, 0) := by decide +kernel
theorem c_291_71 : pg_cd 291 71 = (45, 12, 47, 32, 0) := by decide +kernel
theorem c_291_74 : pg_cd 291 74 = (3, 1, 0, 2, 0) := by decide +kernel
theorem c_291_75 : pg_cd 291 75 = (5, 1, 0, 0, 0) := by decide +kernel
theorem c_291_76 : pg_cd 291 76 = (3, 1, 0, 2, 0) := by decide +kernel
theorem c_291_77 : pg_cd 291 77 = (1, 1, 0, 0, 4) := by decide +kernel
theorem c_291_78 : pg_cd 291 78 = (80, 199, 102, 0, 0) := by decide +kernel
theorem c_291_81 : pg_cd 291 81 = (36, 3, 0, 3, 7) := by decide +kernel
theorem c_291_84 : pg_cd 291 84 = (1, 1, 0, 0, 0) := by decide +kernel
theorem c_291_85 : pg_cd 291 85 = (38, 3, 0, 0, 21) := by decide +kernel
theorem c_291_88 : pg_cd 291 88 = (5, 1, 0, 0, 0) := by decide +kernel
theorem c_291_89 : pg_cd 291 89 = (5, 1, 0, 0, 0) := by decide +kernel
theorem c_291_90 : pg_cd 291 90 = (3, 1, 0, 2, 0) := by decide +kernel
theorem c_291_91 : pg_cd 291 91 = (1, 1, 0, 0, 1) := by decide +kernel
theorem c_291_92 : pg_cd 291 92 = (80, 199, 102, 0, 0) := by decide +kernel
theorem c_291_95 : pg_cd 291 95 = (5, 1, 0, 0, 0) := by decide +kernel
theorem c_291_96 : pg_cd 291 96 = (3, 1, 0, 2, 0) := by decide +kernel
theorem c_291_97 : pg_cd 291 97 = (1, 1, 0, 0, 4) := by decide +kernel
theorem c_291_98 : pg_cd 291 98 = (80, 199, 102, 0, 0) := by decide +kernel
theorem c_291_101 : pg_cd 291 101 = (3, 1, 0, 1, 0) := by decide +kernel
theorem c_291_102 : pg_cd 291 102 = (3, 1, 0, 1, 0) := by decide +kernel
theorem c_291_103 : pg_cd 291 103 = (80, 276, 343, 0, 0) := by decide +kernel
theorem c_291_106 : pg_cd 291 106 = (54, 1, 0, 0, 0) := by decide +kernel
theorem c_291_107 : pg_cd 291 107 = (9, 3, 0, 2, 1) := by decide +kernel
theorem c_291_110 : pg_cd 291 110 = (38, 3, 0, 0, (-74)) := by decide +kernel
theorem c_291_113 : pg_cd 291 113 = (1, 1, 0, 0, 0) := by decide +kernel
theorem c_291_114 : pg_cd 291 114 = (6, 1, 0, 2, 0) := by decide +kernel
theorem c_291_115 : pg_cd 291 115 = (3, 1, 0, 2, 0) := by decide +kernel
theorem c_291_116 : pg_cd 291 116 = (5, 1, 0, 0, 0) := by decide +kernel
theorem c_291_117 : pg_cd 291 117 = (45, 12, 8, 0, 0) := by decide +kernel
theorem c_291_120 : pg_cd 291 120 = (1, 2, 0, 0, 7) := by decide +kernel
theorem c_291_122 : pg_cd 291 122 = (50, 1, 0, 0, 0) := by decide +kernel
theorem c_291_123 : pg_cd 291 123 = (37, 3, 0, 3, 25) := by decide +kernel
theorem c_291_126 : pg_cd 291 126 = (5, 1, 0, 0, 0) := by decide +kernel
theorem c_291_127 : pg_cd 291 127 = (45, 12, 8, 0, 0) := by decide +kernel
theorem c_291_130 : pg_cd 291 130 = (1, 3, 0, 0, 4372) := by decide +kernel
theorem c_291_133 : pg_cd 291 133 = (1, 2, 0, 0, 8) := by decide +kernel
theorem c_291_135 : pg_cd 291 135 = (3, 1, 0, 2, 0) := by decide +kernel
theorem c_291_136 : pg_cd 291 136 = (12, 1, 0, 0, 0) := by decide +kernel
theorem c_291_137 : pg_cd 291 137 = (10, 1, 0, 0, 0) := by decide +kernel
theorem c_291_138 : pg_cd 291 138 = (1, 1, 0, 0, 5) := by decide +kernel
theorem c_291_139 : pg_cd 291 139 = (10, 1, 0, 0, 0) := by decide +kernel
theorem c_291_140 : pg_cd 291 140 = (1, 1, 0, 0, 0) := by decide +kernel
theorem c_291_141 : pg_cd 291 141 = (54, 1, 0, 0, 0) := by decide +kernel
theorem c_291_142 : pg_cd 291 142 = (9, 3, 0, 2, 1) := by decide +kernel
theorem c_291_145 : pg_cd 291 145 = (38, 3, 0, 0, (-30)) := by decide +kernel
theorem c_291_148 : pg_cd 291 148 = (1, 1, 0, 0, 0) := by decide +kernel
theorem c_291_149 : pg_cd 291 149 = (6, 1, 0, 2, 0) := by decide +kernel
theorem c_291_150 : pg_cd 291 150 = (3, 1, 0, 2, 0) := by decide +kernel
theorem c_291_151 : pg_cd 291 151 = (5, 1, 0, 0, 0) := by decide +kernel
theorem c_291_152 : pg_cd 291 152 = (45, 12, 8, 0, 0) := by decide +kernel
theorem c_291_155 : pg_cd 291 155 = (1, 1, 0, 0, 1) := by decide +kernel
theorem c_291_156 : pg_cd 291 156 = (50, 1, 0, 0, 0) := by decide +kernel
theorem c_291_157 : pg_cd 291 157 = (37, 3, 0, 3, 60) := by decide +kernel
theorem c_291_160 : pg_cd 291 160 = (5, 1, 0, 0, 0) := by decide +kernel
theorem c_291_161 : pg_cd 291 161 = (45, 12, 8, 0, 0) := by decide +kernel
theorem c_291_164 : pg_cd 291 164 = (1, 3, 0, 0, 3300) := by decide +kernel
theorem c_291_167 : pg_cd 291 167 = (1, 2, 0, 0, 16) := by decide +kernel
theorem c_291_169 : pg_cd 291 169 = (3, 1, 0, 2, 0) := by decide +kernel
theorem c_291_170 : pg_cd 291 170 = (12, 1, 0, 0, 0) := by decide +kernel
theorem c_291_171 : pg_cd 291 171 = (10, 1, 0, 0, 0) := by decide +kernel
theorem c_291_172 : pg_cd 291 172 = (1, 2, 0, 0, 8) := by decide +kernel
theorem c_291_174 : pg_cd 291 174 = (10, 1, 0, 0, 0) := by decide +kernel
theorem c_291_175 : pg_cd 291 175 = (1, 1, 0, 0, 0) := by decide +kernel
theorem c_291_176 : pg_cd 291 176 = (54, 1, 0, 0, 0) := by decide +kernel
theorem c_291_177 : pg_cd 291 177 = (5, 1, 0, 0, 0) := by decide +kernel
theorem c_291_178 : pg_cd 291 178 = (45, 12, 8, 0, 0) := by decide +kernel
theorem c_291_181 : pg_cd 291 181 = (1, 3, 0, 0, 3300) := by decide +kernel
theorem c_291_184 : pg_cd 291 184 = (1, 2, 0, 0, 16) := by decide +kernel
theorem c_291_186 : pg_cd 291 186 = (3, 1, 0, 2, 0) := by decide +kernel
theorem c_291_187 : pg_cd 291 187 = (12, 1, 0, 0, 0) := by decide +kernel
theorem c_291_188 : pg_cd 291 188 = (10, 1, 0, 0, 0) := by decide +kernel
theorem c_291_189 : pg_cd 291 189 = (1, 2, 0, 0, 9) := by decide +kernel
theorem c_291_191 : pg_cd 291 191 = (10, 1, 0, 0, 0) := by decide +kernel
theorem c_291_192 : pg_cd 291 192 = (1, 1, 0, 0, (-1)) := by decide +kernel
theorem c_291_193 : pg_cd 291 193 = (54, 1, 0, 0, 0) := by decide +kernel
theorem c_291_194 : pg_cd 291 194 = (5, 1, 0, 0, 0) := by decide +kernel
theorem c_291_195 : pg_cd 291 195 = (45, 12, 8, 0, 0) := by decide +kernel
theorem c_291_198 : pg_cd 291 198 = (1, 3, 0, 0, 3300) := by decide +kernel
theorem c_291_201 : pg_cd 291 201 = (1, 2, 0, 0, 16) := by decide +kernel
theorem c_291_203 : pg_cd 291 203 = (3, 1, 0, 2, 0) := by decide +kernel
theorem c_291_204 : pg_cd 291 204 = (12, 1, 0, 0, 0) := by decide +kernel
theorem c_291_205 : pg_cd 291 205 = (10, 1, 0, 0, 0) := by decide +kernel
theorem c_291_206 : pg_cd 291 206 = (1, 2, 0, 0, 10) := by decide +kernel
theorem c_291_208 : pg_cd 291 208 = (10, 1, 0, 0, 0) := by decide +kernel
theorem c_291_209 : pg_cd 291 209 = (1, 1, 0, 0, 0) := by decide +kernel
theorem c_291_210 : pg_cd 291 210 = (54, 1, 0, 0, 0) := by decide +kernel
theorem c_291_211 : pg_cd 291 211 = (9, 3, 0, 2, 1) := by decide +kernel
theorem c_291_214 : pg_cd 291 214 = (38, 3, 0, 0, (-64)) := by decide +kernel
theorem c_291_217 : pg_cd 291 217 = (94, 0, 0, 0, 0) := by decide +kernel
theorem mi_291 : pg_mc 291 = 12 ∧ pg_na 291 = 1 ∧ pg_mx 291 = 3 := by decide +kernel
set_option maxRecDepth 20000 in
theorem u_291_0 {d : Nat} {S : zS} {σ τ : zI} {Q : zQ} {x1 : Int} (t : (((0 : Int) ≤ 0 ∧ 0 ≤ (7 : Int)) ∧ (-1 : Int) ≤ x1 ∧ x1 ≤ (399 : Int)) ∧ ∃ w2 : Int, wI w2 = wI (r_pr (σ 84) 0 x1) ∧ rg w2 ∧ (((0 : Int) ≤ 1 ∧ 1 ≤ (7 : Int)) ∧ (-1 : Int) ≤ x1 ∧ x1 ≤ (399 : Int)) ∧ ∃ w6 : Int, wI w6 = wI (r_pr ((uc σ 83 (u1 (σ 83) 29 w2)) 84) 1 x1) ∧ rg w6 ∧ (0 ≤ 111900 + x1 ∧ 111900 + x1 < 112300) ∧ wi (d + 6) 291 36 [.ref 83, .int (wI x1), .int (wI 0)] [] S (uc (uc σ 83 (u1 (u1 (σ 83) 29 w2) 30 w6)) 84 (u1 (σ 84) (111900 + x1) w6)) τ Q) : wi (d + 6) 291 0 [.ref 83, .int (wI x1), .retAddr 0] [] S σ τ Q := by
  obtain ⟨p1, t⟩ := t
  refine i5 c_291_0 rfl (i5 c_291_1 rfl (i1 c_291_2 (i3 c_291_3 rfl ?_)))
  refine i80 (As := [.int (wI 0), .int (wI x1)]) (rest := [.ref 83]) c_291_4 mi_209 rfl rfl (Nat.le_of_ble_eq_true rfl) (Nat.le_of_ble_eq_true rfl) (lo (c := 83) (kd := 112) (n := 0) rfl (by decide)) (q_209i p1 ?_)
  show wi (d + 6) 291 7 [.ref 83, .int (wI x1), .retAddr 0] [.int (wI (r_pr (σ 84) 0 x1)), .ref 83] S σ τ Q
  obtain ⟨w2, e3, r4, t⟩ := t
  obtain ⟨p5, t⟩ := t
  refine i46 (σ1 := uc σ 83 (u1 (σ 83) 29 w2)) c_291_7 (lo (c := 83) (kd := 112) (n := 0) rfl (by decide)) (by decide) e3 r4 (wr_ rfl rfl) (i5 c_291_10 rfl (i5 c_291_11 rfl (i1 c_291_12 (i3 c_291_13 rfl ?_))))
  refine i80 (As := [.int (wI 1), .int (wI x1)]) (rest := [.ref 83]) c_291_14 mi_209 rfl rfl (Nat.le_of_ble_eq_true rfl) (Nat.le_of_ble_eq_true rfl) (lo (c := 83) (kd := 112) (n := 0) rfl (by decide)) (q_209i p5 ?_)
  show wi (d + 6) 291 17 [.ref 83, .int (wI x1), .retAddr 0] [.int (wI (r_pr ((uc σ 83 (u1 (σ 83) 29 w2)) 84) 1 x1)), .ref 83] S (uc σ 83 (u1 (σ 83) 29 w2)) τ Q
  obtain ⟨w6, e7, r8, t⟩ := t
  refine i46 (σ1 := uc σ 83 (u1 (u1 (σ 83) 29 w2) 30 w6)) c_291_17 (lo (c := 83) (kd := 112) (n := 0) rfl (by decide)) (by decide) e7 r8 (wr_ (uc_s _ _ _) (uc_uc _ _ _ _)) (i5 c_291_20 rfl (i45 c_291_21 (lo (c := 83) (kd := 112) (n := 0) rfl (by decide)) (lro (c := 83) (k := 0) (j := 84) (by decide)) (i1 c_291_24 (i3 c_291_27 rfl (i10 c_291_28 (i5 c_291_29 rfl (wi_ok (fun K9 => ?_))))))))
  obtain ⟨r10, t⟩ := t
  refine i43 (v := w6) c_291_30 (lo (c := 83) (kd := 112) (n := 0) rfl (by decide)) ((congrFun (uc_s _ _ _) _).trans (u1_s _ _ _)) (i54 (σ1 := uc (uc σ 83 (u1 (u1 (σ 83) 29 w2) 30 w6)) 84 (u1 (σ 84) (111900 + x1) w6)) c_291_33 (lo (c := 84) (kd := 0) (n := 112300) rfl (by decide)) (by decide) r10 (by decide) rfl r8 (wr_ (uc_ns rfl (by decide)) rfl) (i1 c_291_34 (i6 (L' := [.ref 83, .int (wI x1), .int (wI 0)]) c_291_35 rfl t)))
set_option maxRecDepth 20000 in
theorem u_291_36 {d : Nat} {S : zS} {σ τ : zI} {Q : zQ} {x1 : Int} {x2 : Int} (t : (rg x2) ∧ if (σ 84 4) ≤ x2 then (wi (d + 6) 291 115 [.ref 83, .int (wI x1), .int (wI 0)] [] S σ τ Q) else ((0 ≤ (3652 + (12 * x2)) + 8 ∧ (3652 + (12 * x2)) + 8 < 112300) ∧ (0 ≤ x2 ∧ x2 < 60) ∧ (0 ≤ 3652 + 12 * x2 + 4 ∧ 3652 + 12 * x2 + 4 < 112300) ∧ ((3652 + 12 * x2 + 4) ≠ ((3652 + (12 * x2)) + 8)) ∧ if (0 : Int) ≤ (σ 84 (3652 + 12 * x2 + 4)) then ((0 ≤ 3652 + 12 * x2 + 1 ∧ 3652 + 12 * x2 + 1 < 112300) ∧ ((3652 + 12 * x2 + 1) ≠ ((3652 + (12 * x2)) + 8)) ∧ (Jl ((uc (uc σ 84 (u1 (σ 84) ((3652 + (12 * x2)) + 8) 0)) 94 (u1 (σ 94) x2 0)) 84)) ∧ (jv_T ((uc (uc σ 84 (u1 (σ 84) ((3652 + (12 * x2)) + 8) 0)) 94 (u1 (σ 94) x2 0)) 84)) ∧ (rg x1) ∧ ∀ (v15 : Int), v15 = r_hours ((uc (uc σ 84 (u1 (σ 84) ((3652 + (12 * x2)) + 8) 0)) 94 (u1 (σ 94) x2 0)) 84) (σ 84 (3652 + 12 * x2 + 1)) (σ 84 (3652 + 12 * x2 + 4)) x1 x1 → 0 ≤ v15 ∧ v15 ≤ 80 → ∃ w18 : Int, wI w18 = wI v15 ∧ rg w18 ∧ wi (d + 6) 291 36 [.ref 83, .int (wI x1), .int (wI (x2 + 1))] [] S (uc (uc (uc σ 84 (u1 (σ 84) ((3652 + (12 * x2)) + 8) 0)) 94 (u1 (σ 94) x2 0)) 93 (u1 (σ 93) x2 w18)) τ Q) else (wi (d + 6) 291 36 [.ref 83, .int (wI x1), .int (wI (x2 + 1))] [] S (uc (uc (uc σ 84 (u1 (σ 84) ((3652 + (12 * x2)) + 8) 0)) 94 (u1 (σ 94) x2 0)) 93 (u1 (σ 93) x2 0)) τ Q))) : wi (d + 6) 291 36 [.ref 83, .int (wI x1), .int (wI x2)] [] S σ τ Q := by
  refine i3 c_291_36 rfl (i5 c_291_37 rfl (i45 c_291_38 (lo (c := 83) (kd := 112) (n := 0) rfl (by decide)) (lro (c := 83) (k := 0) (j := 84) (by decide)) (i1 c_291_41 (wi_ok (fun K1 => ?_)))))
  obtain ⟨r2, t⟩ := t
  refine i50 (v := σ 84 4) c_291_42 (lo (c := 84) (kd := 0) (n := 112300) rfl (by decide)) (by decide) (by decide) rfl ?_
  refine i37 c_291_43 r2 (rge_ K1 rfl) rfl (fun hc => ?_) (fun hc => ?_)
  · have t := iT t hc
    have ha3 : (σ 84 4) ≤ x2 := hc
    refine i1 c_291_113 (i6 (L' := [.ref 83, .int (wI x1), .int (wI 0)]) c_291_114 rfl t)
  · have t := iF t hc
    have ha3 : ¬ ((σ 84 4) ≤ x2) := hc
    obtain ⟨r4, t⟩ := t
    obtain ⟨r5, t⟩ := t
    obtain ⟨p6, t⟩ := t
    refine i5 c_291_46 rfl (i45 c_291_47 (lo (c := 83) (kd := 112) (n := 0) rfl (by decide)) (lro (c := 83) (k := 0) (j := 84) (by decide)) (i1 c_291_50 (i1 c_291_53 (i3 c_291_55 rfl (i12 c_291_56 (i10 c_291_57 (i1 c_291_58 (i10 c_291_60 (i1 c_291_61 (i54 (σ1 := uc σ 84 (u1 (σ 84) ((3652 + (12 * x2)) + 8) 0)) c_291_62 (lo (c := 84) (kd := 0) (n := 112300) rfl (by decide)) (by decide) r4 (by decide) rfl (by decide) (wr_ rfl rfl) (i5 c_291_63 rfl (i45 c_291_64 (lo (c := 83) (kd := 112) (n := 0) rfl (by decide)) (lro (c := 83) (k := 33) (j := 94) (by decide)) (i3 c_291_67 rfl (i1 c_291_68 (i54 (σ1 := uc (uc σ 84 (u1 (σ 84) ((3652 + (12 * x2)) + 8) 0)) 94 (u1 (σ 94) x2 0)) c_291_69 (lo (c := 94) (kd := 0) (n := 60) rfl (by decide)) (by decide) r5 (by decide) rfl (by decide) (wr_ (uc_ns rfl (by decide)) rfl) (i5 c_291_70 rfl (i45 c_291_71 (lo (c := 83) (kd := 112) (n := 0) rfl (by decide)) (lro (c := 83) (k := 32) (j := 93) (by decide)) (i3 c_291_74 rfl (i5 c_291_75 rfl (i3 c_291_76 rfl (i1 c_291_77 ?_)))))))))))))))))))))
    refine i80 (As := [.int (wI x2), .int (wI 4)]) (rest := [.int (wI x2), .ref 93]) c_291_78 mi_199 rfl rfl (Nat.le_of_ble_eq_true rfl) (Nat.le_of_ble_eq_true rfl) (lo (c := 83) (kd := 112) (n := 0) rfl (by decide)) (q_199 p6 ?_)
    show wi (d + 6) 291 81 [.ref 83, .int (wI x1), .int (wI x2)] [.int (wI ((u1 (σ 84) ((3652 + (12 * x2)) + 8) 0) (3652 + 12 * x2 + 4))), .int (wI x2), .ref 93] S (uc (uc σ 84 (u1 (σ 84) ((3652 + (12 * x2)) + 8) 0)) 94 (u1 (σ 94) x2 0)) τ Q
    refine wi_ok (fun K7 => ?_)
    obtain ⟨n8, t⟩ := t
    refine wi_v (v := σ 84 (3652 + 12 * x2 + 4)) (show (uc (uc σ 84 (u1 (σ 84) ((3652 + (12 * x2)) + 8) 0)) 94 (u1 (σ 94) x2 0)) 84 (3652 + 12 * x2 + 4) = _ from ((congrFun (uc_ns (uc_s _ _ _) (by decide)) _).trans (u1_n n8))) ?_
    refine i36 c_291_81 (rge_ K7 ((congrFun (uc_ns (uc_s _ _ _) (by decide)) _).trans (u1_n n8))) rfl (fun hc => ?_) (fun hc => ?_)
    · have t := iT t hc
      have ha9 : (0 : Int) ≤ (σ 84 (3652 + 12 * x2 + 4)) := hc
      obtain ⟨p10, t⟩ := t
      refine i5 c_291_88 rfl (i5 c_291_89 rfl (i3 c_291_90 rfl (i1 c_291_91 ?_)))
      refine i80 (As := [.int (wI x2), .int (wI 1)]) (rest := [.ref 83, .int (wI x2), .ref 93]) c_291_92 mi_199 rfl rfl (Nat.le_of_ble_eq_true rfl) (Nat.le_of_ble_eq_true rfl) (lo (c := 83) (kd := 112) (n := 0) rfl (by decide)) (q_199 p10 ?_)
      show wi (d + 6) 291 95 [.ref 83, .int (wI x1), .int (wI x2)] [.int (wI ((u1 (σ 84) ((3652 + (12 * x2)) + 8) 0) (3652 + 12 * x2 + 1))), .ref 83, .int (wI x2), .ref 93] S (uc (uc σ 84 (u1 (σ 84) ((3652 + (12 * x2)) + 8) 0)) 94 (u1 (σ 94) x2 0)) τ Q
      obtain ⟨n11, t⟩ := t
      refine wi_v (v := σ 84 (3652 + 12 * x2 + 1)) (show (uc (uc σ 84 (u1 (σ 84) ((3652 + (12 * x2)) + 8) 0)) 94 (u1 (σ 94) x2 0)) 84 (3652 + 12 * x2 + 1) = _ from ((congrFun (uc_ns (uc_s _ _ _) (by decide)) _).trans (u1_n n11))) (i5 c_291_95 rfl (i3 c_291_96 rfl (i1 c_291_97 ?_)))
      refine i80 (As := [.int (wI x2), .int (wI 4)]) (rest := [.int (wI (σ 84 (3652 + 12 * x2 + 1))), .ref 83, .int (wI x2), .ref 93]) c_291_98 mi_199 rfl rfl (Nat.le_of_ble_eq_true rfl) (Nat.le_of_ble_eq_true rfl) (lo (c := 83) (kd := 112) (n := 0) rfl (by decide)) (q_199 p6 ?_)
      show wi (d + 6) 291 101 [.ref 83, .int (wI x1), .int (wI x2)] [.int (wI ((u1 (σ 84) ((3652 + (12 * x2)) + 8) 0) (3652 + 12 * x2 + 4))), .int (wI (σ 84 (3652 + 12 * x2 + 1))), .ref 83, .int (wI x2), .ref 93] S (uc (uc σ 84 (u1 (σ 84) ((3652 + (12 * x2)) + 8) 0)) 94 (u1 (σ 94) x2 0)) τ Q
      obtain ⟨p12, t⟩ := t
      obtain ⟨p13, t⟩ := t
      obtain ⟨r14, t⟩ := t
      refine wi_v (v := σ 84 (3652 + 12 * x2 + 4)) (show (uc (uc σ 84 (u1 (σ 84) ((3652 + (12 * x2)) + 8) 0)) 94 (u1 (σ 94) x2 0)) 84 (3652 + 12 * x2 + 4) = _ from ((congrFun (uc_ns (uc_s _ _ _) (by decide)) _).trans (u1_n n8))) (i3 c_291_101 rfl (i3 c_291_102 rfl ?_))
      refine i80 (As := [.int (wI (σ 84 (3652 + 12 * x2 + 1))), .int (wI (σ 84 (3652 + 12 * x2 + 4))), .int (wI x1), .int (wI x1)]) (rest := [.int (wI x2), .ref 93]) c_291_103 mi_276 rfl rfl (Nat.le_of_ble_eq_true rfl) (Nat.le_of_ble_eq_true rfl) (lo (c := 83) (kd := 112) (n := 0) rfl (by decide)) (q_276 p12 p13 (rge_ K7 ((congrFun (uc_ns (uc_s _ _ _) (by decide)) _).trans (u1_n n11))) (rge_ K7 ((congrFun (uc_ns (uc_s _ _ _) (by decide)) _).trans (u1_n n8))) r14 r14 (fun v15 q16 q17 => ?_))
      have t := t v15 q16 q17
      show wi (d + 6) 291 106 [.ref 83, .int (wI x1), .int (wI x2)] [.int (wI v15), .int (wI x2), .ref 93] S (uc (uc σ 84 (u1 (σ 84) ((3652 + (12 * x2)) + 8) 0)) 94 (u1 (σ 94) x2 0)) τ Q
      obtain ⟨w18, e19, r20, t⟩ := t
      refine i54 (σ1 := uc (uc (uc σ 84 (u1 (σ 84) ((3652 + (12 * x2)) + 8) 0)) 94 (u1 (σ 94) x2 0)) 93 (u1 (σ 93) x2 w18)) c_291_106 (lo (c := 93) (kd := 0) (n := 60) rfl (by decide)) (by decide) r5 (by decide) e19 r20 (wr_ (uc_ns (uc_ns rfl (by decide)) (by decide)) rfl) (i9 (L' := [.ref 83, .int (wI x1), .int (wI (x2 + 1))]) c_291_107 rfl rfl (i38 c_291_110 rfl t))
    · have t := iF t hc
      have ha9 : ¬ ((0 : Int) ≤ (σ 84 (3652 + 12 * x2 + 4))) := hc
      refine i1 c_291_84 (i38 c_291_85 rfl (i54 (σ1 := uc (uc (uc σ 84 (u1 (σ 84) ((3652 + (12 * x2)) + 8) 0)) 94 (u1 (σ 94) x2 0)) 93 (u1 (σ 93) x2 0)) c_291_106 (lo (c := 93) (kd := 0) (n := 60) rfl (by decide)) (by decide) r5 (by decide) rfl (by decide) (wr_ (uc_ns (uc_ns rfl (by decide)) (by decide)) rfl) (i9 (L' := [.ref 83, .int (wI x1), .int (wI (x2 + 1))]) c_291_107 rfl rfl (i38 c_291_110 rfl t))))
set_option maxRecDepth 20000 in
theorem u_291_115 {d : Nat} {S : zS} {σ τ : zI} {Q : zQ} {x1 : Int} {x2 : Int} (t : (rg x2) ∧ if (σ 84 7) ≤ x2 then (wi (d + 6) 291 150 [.ref 83, .int (wI x1), .int (wI 0)] [] S σ τ Q) else ((0 ≤ (4372 + (8 * x2)) + 5 ∧ (4372 + (8 * x2)) + 5 < 112300) ∧ wi (d + 6) 291 115 [.ref 83, .int (wI x1), .int (wI (x2 + 1))] [] S (uc σ 84 (u1 (σ 84) ((4372 + (8 * x2)) + 5) 0)) τ Q)) : wi (d + 6) 291 115 [.ref 83, .int (wI x1), .int (wI x2)] [] S σ τ Q := by
  refine i3 c_291_115 rfl (i5 c_291_116 rfl (i45 c_291_117 (lo (c := 83) (kd := 112) (n := 0) rfl (by decide)) (lro (c := 83) (k := 0) (j := 84) (by decide)) (i1 c_291_120 (wi_ok (fun K1 => ?_)))))
  obtain ⟨r2, t⟩ := t
  refine i50 (v := σ 84 7) c_291_122 (lo (c := 84) (kd := 0) (n := 112300) rfl (by decide)) (by decide) (by decide) rfl ?_
  refine i37 c_291_123 r2 (rge_ K1 rfl) rfl (fun hc => ?_) (fun hc => ?_)
  · have t := iT t hc
    have ha3 : (σ 84 7) ≤ x2 := hc
    refine i1 c_291_148 (i6 (L' := [.ref 83, .int (wI x1), .int (wI 0)]) c_291_149 rfl t)
  · have t := iF t hc
    have ha3 : ¬ ((σ 84 7) ≤ x2) := hc
    obtain ⟨r4, t⟩ := t
    refine i5 c_291_126 rfl (i45 c_291_127 (lo (c := 83) (kd := 112) (n := 0) rfl (by decide)) (lro (c := 83) (k := 0) (j := 84) (by decide)) (i1 c_291_130 (i1 c_291_133 (i3 c_291_135 rfl (i12 c_291_136 (i10 c_291_137 (i1 c_291_138 (i10 c_291_139 (i1 c_291_140 (i54 (σ1 := uc σ 84 (u1 (σ 84) ((4372 + (8 * x2)) + 5) 0)) c_291_141 (lo (c := 84) (kd := 0) (n := 112300) rfl (by decide)) (by decide) r4 (by decide) rfl (by decide) (wr_ rfl rfl) (i9 (L' := [.ref 83, .int (wI x1), .int (wI (x2 + 1))]) c_291_142 rfl rfl (i38 c_291_145 rfl t))))))))))))
set_option maxRecDepth 20000 in
theorem u_291_150 {d : Nat} {S : zS} {σ τ : zI} {Q : zQ} {x1 : Int} {x2 : Int} (t : (rg x2) ∧ if (σ 84 1) ≤ x2 then (Q none S σ τ) else ((0 ≤ (3300 + (16 * x2)) + 8 ∧ (3300 + (16 * x2)) + 8 < 112300) ∧ (0 ≤ (3300 + (16 * x2)) + 9 ∧ (3300 + (16 * x2)) + 9 < 112300) ∧ (0 ≤ (3300 + (16 * x2)) + 10 ∧ (3300 + (16 * x2)) + 10 < 112300) ∧ wi (d + 6) 291 150 [.ref 83, .int (wI x1), .int (wI (x2 + 1))] [] S (uc σ 84 (u1 (u1 (u1 (σ 84) ((3300 + (16 * x2)) + 8) 0) ((3300 + (16 * x2)) + 9) (-1)) ((3300 + (16 * x2)) + 10) 0)) τ Q)) : wi (d + 6) 291 150 [.ref 83, .int (wI x1), .int (wI x2)] [] S σ τ Q := by
  refine i3 c_291_150 rfl (i5 c_291_151 rfl (i45 c_291_152 (lo (c := 83) (kd := 112) (n := 0) rfl (by decide)) (lro (c := 83) (k := 0) (j := 84) (by decide)) (i1 c_291_155 (wi_ok (fun K1 => ?_)))))
  obtain ⟨r2, t⟩ := t
  refine i50 (v := σ 84 1) c_291_156 (lo (c := 84) (kd := 0) (n := 112300) rfl (by decide)) (by decide) (by decide) rfl ?_
  refine i37 c_291_157 r2 (rge_ K1 rfl) rfl (fun hc => ?_) (fun hc => ?_)
  · have t := iT t hc
    have ha3 : (σ 84 1) ≤ x2 := hc
    exact i94 c_291_217 t
  · have t := iF t hc
    have ha3 : ¬ ((σ 84 1) ≤ x2) := hc
    obtain ⟨r4, t⟩ := t
    obtain ⟨r5, t⟩ := t
    obtain ⟨r6, t⟩ := t
    refine i5 c_291_160 rfl (i45 c_291_161 (lo (c := 83) (kd := 112) (n := 0) rfl (by decide)) (lro (c := 83) (k := 0) (j := 84) (by decide)) (i1 c_291_164 (i1 c_291_167 (i3 c_291_169 rfl (i12 c_291_170 (i10 c_291_171 (i1 c_291_172 (i10 c_291_174 (i1 c_291_175 (i54 (σ1 := uc σ 84 (u1 (σ 84) ((3300 + (16 * x2)) + 8) 0)) c_291_176 (lo (c := 84) (kd := 0) (n := 112300) rfl (by decide)) (by decide) r4 (by decide) rfl (by decide) (wr_ rfl rfl) (i5 c_291_177 rfl (i45 c_291_178 (lo (c := 83) (kd := 112) (n := 0) rfl (by decide)) (lro (c := 83) (k := 0) (j := 84) (by decide)) (i1 c_291_181 (i1 c_291_184 (i3 c_291_186 rfl (i12 c_291_187 (i10 c_291_188 (i1 c_291_189 (i10 c_291_191 (i1 c_291_192 (i54 (σ1 := uc σ 84 (u1 (u1 (σ 84) ((3300 + (16 * x2)) + 8) 0) ((3300 + (16 * x2)) + 9) (-1))) c_291_193 (lo (c := 84) (kd := 0) (n := 112300) rfl (by decide)) (by decide) r5 (by decide) rfl (by decide) (wr_ (uc_s _ _ _) (uc_uc _ _ _ _)) (i5 c_291_194 rfl (i45 c_291_195 (lo (c := 83) (kd := 112) (n := 0) rfl (by decide)) (lro (c := 83) (k := 0) (j := 84) (by decide)) (i1 c_291_198 (i1 c_291_201 (i3 c_291_203 rfl (i12 c_291_204 (i10 c_291_205 (i1 c_291_206 (i10 c_291_208 (i1 c_291_209 (i54 (σ1 := uc σ 84 (u1 (u1 (u1 (σ 84) ((3300 + (16 * x2)) + 8) 0) ((3300 + (16 * x2)) + 9) (-1)) ((3300 + (16 * x2)) + 10) 0)) c_291_210 (lo (c := 84) (kd := 0) (n := 112300) rfl (by decide)) (by decide) r6 (by decide) rfl (by decide) (wr_ (uc_s _ _ _) (uc_uc _ _ _ _)) (i9 (L' := [.ref 83, .int (wI x1), .int (wI (x2 + 1))]) c_291_211 rfl rfl (i38 c_291_214 rfl t))))))))))))))))))))))))))))))))))
theorem q_291 {d : Nat} {S : zS} {σ τ : zI} {Q : zQ} {w : Int} {a : Int → Int} (p0 : σ 84 = a) (p1 : Jv a) (p2 : jv_T a) (p3 : w = a 0) (p4 : a 0 ≤ 399) (t : ∀ (σ1 : zI), BG a σ σ1 → Q none S σ1 τ) : wc (d + 6) 291 [.ref 83, .int (wI w)] S σ τ Q := by
  have hC := jC p1
  have hC' := hC
  unfold jv_C at hC
  subst p3
  refine wc_of mi_291 rfl (u_291_0 ?_)
  rw [p0]
  have c1 := wk_ct_b p1 p4
  have c2 := wk_lf_b p1 p4
  refine ⟨by omega, wk_ct a, rfl, by omega, by omega, wk_lf a, ?_, by omega, by omega, ?_⟩
  · rw [uc_n (by decide), p0]; rfl
  have fr : ∀ σ' : zI, (∀ c, c ≠ 83 → c ≠ 84 → c ≠ 93 → c ≠ 94 → σ' c = σ c) → (∀ k, k ≠ 29 → k ≠ 30 → σ' 83 k = σ 83 k) → (σ' 83 29 = wk_ct a ∧ σ' 83 30 = wk_lf a) → (∀ p, 0 ≤ p → p < a 4 → σ' 93 p = wk_h a p ∧ σ' 94 p = 0) → ∀ m, 0 ≤ m → m ≤ a 1 → ∀ σ'' : zI, (∀ c, c ≠ 84 → σ'' c = σ' c) → σ'' 84 = As (wk_a0 a) (PE0 a) (MIb a m) (OD1 a 0) → wi (d + 6) 291 150 [.ref 83, .int (wI (a 0)), .int (wI m)] [] S σ'' τ Q := fun σ' f1 f2 f3 f4 => by
    refine lp_up (fun m m0 m1 ih => ?_)
    intro σ'' g1 g2
    refine u_291_150 ?_
    rw [g2]
    simp (disch := omega) only [As_k]
    have e1 : wk_a0 a 1 = a 1 := u1_n (by omega)
    rw [e1]
    refine ⟨by omega, ifI (fun e => ?_) (fun e => ⟨by omega, by omega, by omega, ?_⟩)⟩
    · have e : m = a 1 := by omega
      subst e
      refine t _ ⟨?_, ?_, ?_, fun c h1 h2 h3 h4 => ?_, fun k h1 h2 => ?_⟩
      · exact g2
      · rw [g1 83 (by decide)]; exact f3
      · rw [g1 93 (by decide), g1 94 (by decide)]; exact f4
      · rw [g1 c h2]; exact f1 c h1 h2 h3 h4
      · rw [g1 83 (by decide)]; exact f2 k h1 h2
    · refine ih (by omega) _ (fun c hc => ?_) ?_
      · rw [uc_n hc]; exact g1 c hc
      · rw [uc_s]
        simp (disch := omega) only [As_um]
        refine As_c (fun _ _ => rfl) (fun _ _ _ _ _ _ => rfl) (fun x c x0 x1 c0 c1 => ?_) (fun _ _ _ _ _ _ => rfl)
        by_cases e : x = m
        · subst e
          by_cases d1 : c = 10
          · subst d1; rw [t2_s]; unfold MIb; rw [if_pos (by omega), if_neg (by omega)]
          · rw [t2_n (by omega)]
            by_cases d2 : c = 9
            · subst d2; rw [t2_s]; unfold MIb; rw [if_pos (by omega), if_pos rfl]
            · rw [t2_n (by omega)]
              by_cases d3 : c = 8
              · subst d3; rw [t2_s]; unfold MIb; rw [if_pos (by omega), if_neg (by omega)]
              · rw [t2_n (by omega)]; unfold MIb; rw [if_neg (by omega), if_neg (by omega)]
        · rw [t2_n (by omega), t2_n (by omega), t2_n (by omega)]
          unfold MIb
          by_cases e2 : x < m ∧ (c = 8 ∨ c = 9 ∨ c = 10)
          · rw [if_pos e2, if_pos (show x < m + 1 ∧ (c = 8 ∨ c = 9 ∨ c = 10) by omega)]
          · rw [if_neg e2, if_neg (show ¬ (x < m + 1 ∧ (c = 8 ∨ c = 9 ∨ c = 10)) by omega)]
  have fo : ∀ σ' : zI, (∀ c, c ≠ 83 → c ≠ 84 → c ≠ 93 → c ≠ 94 → σ' c = σ c) → (∀ k, k ≠ 29 → k ≠ 30 → σ' 83 k = σ 83 k) → (σ' 83 29 = wk_ct a ∧ σ' 83 30 = wk_lf a) → (∀ p, 0 ≤ p → p < a 4 → σ' 93 p = wk_h a p ∧ σ' 94 p = 0) → ∀ m, 0 ≤ m → m ≤ a 7 → ∀ σ'' : zI, (∀ c, c ≠ 84 → σ'' c = σ' c) → σ'' 84 = As (wk_a0 a) (PE0 a) (MIb a 0) (ODb a m) → wi (d + 6) 291 115 [.ref 83, .int (wI (a 0)), .int (wI m)] [] S σ'' τ Q := fun σ' f1 f2 f3 f4 => by
    refine lp_up (fun m m0 m1 ih => ?_)
    intro σ'' g1 g2
    refine u_291_115 ?_
    rw [g2]
    simp (disch := omega) only [As_k]
    have e1 : wk_a0 a 7 = a 7 := u1_n (by omega)
    rw [e1]
    refine ⟨by omega, ifI (fun e => ?_) (fun e => ⟨by omega, ?_⟩)⟩
    · have e : m = a 7 := by omega
      subst e
      refine fr σ'' (fun c h1 h2 h3 h4 => ?_) (fun k h1 h2 => ?_) ?_ ?_ 0 (by omega) (by omega) σ'' (fun _ _ => rfl) ?_
      · rw [g1 c h2]; exact f1 c h1 h2 h3 h4
      · rw [g1 83 (by decide)]; exact f2 k h1 h2
      · rw [g1 83 (by decide)]; exact f3
      · rw [g1 93 (by decide), g1 94 (by decide)]; exact f4
      · rw [g2]; exact As_c (fun _ _ => rfl) (fun _ _ _ _ _ _ => rfl) (fun _ _ _ _ _ _ => rfl) (OD1_0 a)
    · refine ih (by omega) _ (fun c hc => ?_) ?_
      · rw [uc_n hc]; exact g1 c hc
      · rw [uc_s]
        simp (disch := omega) only [As_uo]
        refine As_c (fun _ _ => rfl) (fun _ _ _ _ _ _ => rfl) (fun _ _ _ _ _ _ => rfl) (fun x c x0 x1 c0 c1 => ?_)
        by_cases e : x = m ∧ c = 5
        · obtain ⟨rfl, rfl⟩ := e
          rw [t2_s]; unfold ODb; rw [if_pos (by omega)]
        · rw [t2_n e]; unfold ODb
          by_cases e2 : c = 5 ∧ x < m
          · rw [if_pos e2, if_pos (by omega)]
          · rw [if_neg e2, if_neg (by omega)]
  have fp : ∀ p, 0 ≤ p → p ≤ a 4 → ∀ σ' : zI, (∀ c, c ≠ 83 → c ≠ 84 → c ≠ 93 → c ≠ 94 → σ' c = σ c) → (∀ k, k ≠ 29 → k ≠ 30 → σ' 83 k = σ 83 k) → (σ' 83 29 = wk_ct a ∧ σ' 83 30 = wk_lf a) → (∀ x, 0 ≤ x → x < p → σ' 93 x = wk_h a x ∧ σ' 94 x = 0) → σ' 84 = As (wk_a0 a) (PEb a p) (MIb a 0) (ODb a 0) → wi (d + 6) 291 36 [.ref 83, .int (wI (a 0)), .int (wI p)] [] S σ' τ Q := by
    refine lp_up (fun p q0 q1 ih => ?_)
    intro σ' f1 f2 f3 f4 g2
    refine u_291_36 ?_
    have b1 : eB a (As (wk_a0 a) (t2 (PEb a p) p 8 0) (MIb a 0) (ODb a 0)) := eB_A (wk_a0_B hC.1.1)
    have e1 : σ' 84 4 = a 4 := by rw [g2, As_k (by omega)]; exact u1_n (by omega)
    rw [e1]
    refine ⟨by omega, ifI (fun e => ?_) (fun e => ?_)⟩
    · have e : p = a 4 := by omega
      subst e
      exact fo σ' f1 f2 f3 f4 0 (by omega) (by omega) σ' (fun _ _ => rfl) g2
    · rw [g2]
      simp (disch := omega) only [uc_n, uc_s, As_k, As_up, As_p]
      have v4 : PEb a p p 4 = a (3652 + 12 * p + 4) := if_neg (by omega)
      have v1 : PEb a p p 1 = a (3652 + 12 * p + 1) := if_neg (by omega)
      rw [v4, v1]
      have hP := jP p1 p q0 (by omega)
      have fin : ∀ w, w = wk_h a p → wi (d + 6) 291 36 [.ref 83, .int (wI (a 0)), .int (wI (p + 1))] [] S (uc (uc (uc σ' 84 (As (wk_a0 a) (t2 (PEb a p) p 8 0) (MIb a 0) (ODb a 0))) 94 (u1 (σ' 94) p 0)) 93 (u1 (σ' 93) p w)) τ Q := fun w hw => by
        refine ih (by omega) _ (fun c h1 h2 h3 h4 => ?_) (fun k h1 h2 => ?_) ?_ (fun x x0 x1 => ?_) ?_
        · rw [uc_n h3, uc_n h4, uc_n h2]; exact f1 c h1 h2 h3 h4
        · rw [uc_n (by decide), uc_n (by decide), uc_n (by decide)]; exact f2 k h1 h2
        · rw [uc_n (by decide), uc_n (by decide), uc_n (by decide)]; exact f3
        · rw [uc_s, uc_n (by decide), uc_s]
          by_cases ex : x = p
          · subst ex; rw [u1_s, u1_s]; exact ⟨hw, rfl⟩
          · rw [u1_n ex, u1_n ex]; exact f4 x x0 (by omega)
        · rw [uc_n (by decide), uc_n (by decide), uc_s]
          refine As_c (fun _ _ => rfl) (fun x c x0 x1 c0 c1 => ?_) (fun _ _ _ _ _ _ => rfl) (fun _ _ _ _ _ _ => rfl)
          by_cases e : x = p ∧ c = 8
          · obtain ⟨rfl, rfl⟩ := e
            rw [t2_s]; unfold PEb; rw [if_pos (by omega)]
          · rw [t2_n e]; unfold PEb
            by_cases e2 : c = 8 ∧ x < p
            · rw [if_pos e2, if_pos (by omega)]
            · rw [if_neg e2, if_neg (by omega)]
      refine ⟨by omega, by omega, by omega, by omega, ifI (fun e2 => ?_) (fun e2 => ?_)⟩
      · refine ⟨by omega, by omega, eB_l b1 hC' (Jl_of p1), jT_c (eB_L b1) hC' p2, by omega, fun v hv vb => ⟨v, rfl, by omega, fin v ?_⟩⟩
        rw [hv, hours_c (eB_L b1) (Jl_of p1) p2]
        unfold wk_h
        rw [if_neg (by omega)]
      · refine fin 0 ?_
        unfold wk_h
        rw [if_pos (by omega)]
  refine fp 0 (by omega) (by omega) _ (fun c h1 h2 h3 h4 => ?_) (fun k h1 h2 => ?_) ?_ (fun x x0 x1 => by omega) ?_
  · rw [uc_n h2, uc_n h1]
  · rw [uc_n (by decide), uc_s, u1_n h2, u1_n h1]
  · rw [uc_n (by decide), uc_s, u1_n (by decide), u1_s, u1_s]; exact ⟨rfl, rfl⟩
  · rw [uc_s]
    refine As_e (fun k hk => rfl) (fun p c p0 p1 c0 c1 => ?_) (fun p c p0 p1 c0 c1 => ?_) (fun p c p0 p1 c0 c1 => ?_)
    · rw [u1_n (by omega), PEb_0 a p c p0 p1 c0 c1]
    · rw [u1_n (by omega), MIb_0 a p c p0 p1 c0 c1]
    · rw [u1_n (by omega), ODb_0 a p c p0 p1 c0 c1]
theorem q_280w {d : Nat} {S : zS} {σ τ : zI} {Q : zQ} {p h : Int} (p0 : 0 ≤ p ∧ p < (60 : Int)) (p1 : 0 ≤ σ 84 (3652 + 12 * p + 4) ∧ σ 84 (3652 + 12 * p + 4) < (8 : Int)) (t : ∀ v, v = r_pts (σ 84) p h → Q (some (.int (wI v))) S σ τ) : wc (d + 1) 280 [.ref 83, .int (wI p), .int (wI h)] S σ τ Q := by
  exact wc_of mi_280 rfl (u_280_0 ⟨by omega, by omega, by omega, by omega, t (r_pts (σ 84) p h) rfl⟩)
/-- what of PERSONS and MILLS a WEEK leaves as it is -/
def sP (a : Int → Int) (PE : Int → Int → Int) : Prop := ∀ p c, 0 ≤ p → p < 60 → 0 ≤ c → c < 12 → c ≠ 7 → c ≠ 8 → PE p c = a (3652 + 12 * p + c)
def sM (a : Int → Int) (MI : Int → Int → Int) : Prop := ∀ m c, 0 ≤ m → m < 8 → c = 0 ∨ c = 1 ∨ c = 3 ∨ c = 6 → MI m c = a (3300 + 16 * m + c)
theorem As_pts {a a1 : Int → Int} {PE MI OD : Int → Int → Int} (h1 : sP a PE) (h2 : sM a MI) {p h : Int} (hp : 0 ≤ p ∧ p < 60) (hm : 0 ≤ a (3652 + 12 * p + 4) ∧ a (3652 + 12 * p + 4) < 8) : r_pts (As a1 PE MI OD) p h = r_pts a p h := by
  unfold r_pts
  rw [As_p hp (by omega), As_p hp (by omega), As_p hp (by omega), h1 p 4 (by omega) (by omega) (by omega) (by omega) (by omega) (by omega), As_m hm (by omega), h1 p 5 (by omega) (by omega) (by omega) (by omega) (by omega) (by omega), h1 p 2 (by omega) (by omega) (by omega) (by omega) (by omega) (by omega), h2 _ 1 hm.1 hm.2 (by omega)]
theorem sP_1 {a : Int → Int} {n : Int} : sP a (PE1 a n) := fun p c _ _ _ _ h7 h8 => by
  unfold PE1 PE0
  rw [if_neg (by omega), if_neg (by omega)]
theorem sM_1 {a : Int → Int} {n : Int} : sM a (MI1 a n) := fun p c _ _ h => by
  unfold MI1 MI0
  rw [if_neg (by omega), if_neg (by omega)]
-- method 281: MillTownModel.canOf(II)I
theorem c_281_0 : pg_cd 281 0 = (1, 1, 0, 0, 0) := by decide +kernel
theorem c_281_1 : pg_cd 281 1 = (6, 1, 0, 3, 0) := by decide +kernel
theorem c_281_2 : pg_cd 281 2 = (1, 1, 0, 0, 0) := by decide +kernel
theorem c_281_3 : pg_cd 281 3 = (6, 2, 0, 4, 0) := by decide +kernel
theorem c_281_5 : pg_cd 281 5 = (3, 2, 0, 4, 0) := by decide +kernel
theorem c_281_7 : pg_cd 281 7 = (5, 1, 0, 0, 0) := by decide +kernel
theorem c_281_8 : pg_cd 281 8 = (45, 12, 8, 0, 0) := by decide +kernel
theorem c_281_11 : pg_cd 281 11 = (1, 1, 0, 0, 4) := by decide +kernel
theorem c_281_12 : pg_cd 281 12 = (50, 1, 0, 0, 0) := by decide +kernel
theorem c_281_13 : pg_cd 281 13 = (37, 3, 0, 3, 50) := by decide +kernel
theorem c_281_16 : pg_cd 281 16 = (5, 1, 0, 0, 0) := by decide +kernel
theorem c_281_17 : pg_cd 281 17 = (3, 2, 0, 4, 0) := by decide +kernel
theorem c_281_19 : pg_cd 281 19 = (3, 1, 0, 1, 0) := by decide +kernel
theorem c_281_20 : pg_cd 281 20 = (80, 279, 346, 0, 0) := by decide +kernel
theorem c_281_23 : pg_cd 281 23 = (36, 3, 0, 0, 34) := by decide +kernel
theorem c_281_26 : pg_cd 281 26 = (3, 1, 0, 3, 0) := by decide +kernel
theorem c_281_27 : pg_cd 281 27 = (5, 1, 0, 0, 0) := by decide +kernel
theorem c_281_28 : pg_cd 281 28 = (3, 2, 0, 4, 0) := by decide +kernel
theorem c_281_30 : pg_cd 281 30 = (1, 2, 0, 0, 7) := by decide +kernel
theorem c_281_32 : pg_cd 281 32 = (80, 199, 102, 0, 0) := by decide +kernel
theorem c_281_35 : pg_cd 281 35 = (5, 1, 0, 0, 0) := by decide +kernel
theorem c_281_36 : pg_cd 281 36 = (3, 2, 0, 4, 0) := by decide +kernel
theorem c_281_38 : pg_cd 281 38 = (5, 1, 0, 0, 0) := by decide +kernel
theorem c_281_39 : pg_cd 281 39 = (45, 12, 47, 32, 0) := by decide +kernel
theorem c_281_42 : pg_cd 281 42 = (3, 2, 0, 4, 0) := by decide +kernel
theorem c_281_44 : pg_cd 281 44 = (50, 1, 0, 0, 0) := by decide +kernel
theorem c_281_45 : pg_cd 281 45 = (80, 280, 349, 0, 0) := by decide +kernel
theorem c_281_48 : pg_cd 281 48 = (10, 1, 0, 0, 0) := by decide +kernel
theorem c_281_49 : pg_cd 281 49 = (5, 1, 0, 0, 0) := by decide +kernel
theorem c_281_50 : pg_cd 281 50 = (3, 1, 0, 2, 0) := by decide +kernel
theorem c_281_51 : pg_cd 281 51 = (80, 278, 352, 0, 0) := by decide +kernel
theorem c_281_54 : pg_cd 281 54 = (16, 1, 0, 0, 0) := by decide +kernel
theorem c_281_55 : pg_cd 281 55 = (10, 1, 0, 0, 0) := by decide +kernel
theorem c_281_56 : pg_cd 281 56 = (6, 1, 0, 3, 0) := by decide +kernel
theorem c_281_57 : pg_cd 281 57 = (9, 3, 0, 4, 1) := by decide +kernel
theorem c_281_60 : pg_cd 281 60 = (38, 3, 0, 0, (-55)) := by decide +kernel
theorem c_281_63 : pg_cd 281 63 = (3, 1, 0, 3, 0) := by decide +kernel
theorem c_281_64 : pg_cd 281 64 = (90, 0, 0, 0, 0) := by decide +kernel
theorem mi_281 : pg_mc 281 = 12 ∧ pg_na 281 = 2 ∧ pg_mx 281 = 5 := by decide +kernel
set_option maxRecDepth 20000 in
theorem u_281_0 {d : Nat} {S : zS} {σ τ : zI} {Q : zQ} {x1 : Int} {x2 : Int} (t : wi (d + 3) 281 5 [.ref 83, .int (wI x1), .int (wI x2), .int (wI 0), .int (wI 0)] [] S σ τ Q) : wi (d + 3) 281 0 [.ref 83, .int (wI x1), .int (wI x2), .retAddr 0, .retAddr 0] [] S σ τ Q := by
  refine i1 c_281_0 (i6 (L' := [.ref 83, .int (wI x1), .int (wI x2), .int (wI 0), .retAddr 0]) c_281_1 rfl (i1 c_281_2 (i6 (L' := [.ref 83, .int (wI x1), .int (wI x2), .int (wI 0), .int (wI 0)]) c_281_3 rfl t)))
set_option maxRecDepth 20000 in
theorem u_281_5 {d : Nat} {S : zS} {σ τ : zI} {Q : zQ} {x1 : Int} {x2 : Int} {x3 : Int} {x4 : Int} (t : (rg x4) ∧ if (σ 84 4) ≤ x4 then (Q (some (.int (wI x3))) S σ τ) else ((0 ≤ x4 ∧ x4 < (60 : Int)) ∧ (rg x1) ∧ if σ 84 (3652 + 12 * x4 + 4) = x1 ∧ (1 ≤ σ 84 (3652 + 12 * x4 + 3) ∧ σ 84 (3652 + 12 * x4 + 3) ≤ 2) then ((0 ≤ 3652 + 12 * x4 + 7 ∧ 3652 + 12 * x4 + 7 < 112300) ∧ (0 ≤ x4 ∧ x4 < 60) ∧ (0 ≤ σ 84 (3652 + 12 * x4 + 4) ∧ σ 84 (3652 + 12 * x4 + 4) < (8 : Int)) ∧ ∀ (v10 : Int), v10 = r_pts (σ 84) x4 (σ 93 x4) → (jv_K (σ 84)) ∧ (0 ≤ x2 ∧ x2 ≤ (5 : Int)) ∧ ∀ (v14 : Int), v14 = r_cost (σ 84) x2 → 2000 ≤ v14 ∧ v14 ≤ 228000 → (rg ((σ 84 (3652 + 12 * x4 + 7)) + v10)) ∧ (rg v14) ∧ (v14 ≠ 0) ∧ wi (d + 3) 281 5 [.ref 83, .int (wI x1), .int (wI x2), .int (wI (x3 + (Int.tdiv ((σ 84 (3652 + 12 * x4 + 7)) + v10) v14))), .int (wI (x4 + 1))] [] S σ τ Q) else (wi (d + 3) 281 5 [.ref 83, .int (wI x1), .int (wI x2), .int (wI x3), .int (wI (x4 + 1))] [] S σ τ Q))) : wi (d + 3) 281 5 [.ref 83, .int (wI x1), .int (wI x2), .int (wI x3), .int (wI x4)] [] S σ τ Q := by
  refine i3 c_281_5 rfl (i5 c_281_7 rfl (i45 c_281_8 (lo (c := 83) (kd := 112) (n := 0) rfl (by decide)) (lro (c := 83) (k := 0) (j := 84) (by decide)) (i1 c_281_11 (wi_ok (fun K1 => ?_)))))
  obtain ⟨r2, t⟩ := t
  refine i50 (v := σ 84 4) c_281_12 (lo (c := 84) (kd := 0) (n := 112300) rfl (by decide)) (by decide) (by decide) rfl ?_
  refine i37 c_281_13 r2 (rge_ K1 rfl) rfl (fun hc => ?_) (fun hc => ?_)
  · have t := iT t hc
    have ha3 : (σ 84 4) ≤ x4 := hc
    refine i3 c_281_63 rfl ?_
    exact i90 c_281_64 t
  · have t := iF t hc
    have ha3 : ¬ ((σ 84 4) ≤ x4) := hc
    obtain ⟨p4, t⟩ := t
    obtain ⟨r5, t⟩ := t
    refine i5 c_281_16 rfl (i3 c_281_17 rfl (i3 c_281_19 rfl ?_))
    refine i80 (As := [.int (wI x4), .int (wI x1)]) (rest := []) c_281_20 mi_279 rfl rfl (Nat.le_of_ble_eq_true rfl) (Nat.le_of_ble_eq_true rfl) (lo (c := 83) (kd := 112) (n := 0) rfl (by decide)) (q_279 p4 r5 ?_)
    show wi (d + 3) 281 23 [.ref 83, .int (wI x1), .int (wI x2), .int (wI x3), .int (wI x4)] [.int (wI (if σ 84 (3652 + 12 * x4 + 4) = x1 ∧ (1 ≤ σ 84 (3652 + 12 * x4 + 3) ∧ σ 84 (3652 + 12 * x4 + 3) ≤ 2) then 1 else 0))] S σ τ Q
    refine i36e c_281_23 rfl (fun hc => ?_) (fun hc => ?_)
    · have t := iT t hc
      have ha6 : σ 84 (3652 + 12 * x4 + 4) = x1 ∧ (1 ≤ σ 84 (3652 + 12 * x4 + 3) ∧ σ 84 (3652 + 12 * x4 + 3) ≤ 2) := hc
      obtain ⟨p7, t⟩ := t
      refine i3 c_281_26 rfl (i5 c_281_27 rfl (i3 c_281_28 rfl (i1 c_281_30 ?_)))
      refine i80 (As := [.int (wI x4), .int (wI 7)]) (rest := [.int (wI x3)]) c_281_32 mi_199 rfl rfl (Nat.le_of_ble_eq_true rfl) (Nat.le_of_ble_eq_true rfl) (lo (c := 83) (kd := 112) (n := 0) rfl (by decide)) (q_199 p7 ?_)
      show wi (d + 3) 281 35 [.ref 83, .int (wI x1), .int (wI x2), .int (wI x3), .int (wI x4)] [.int (wI (σ 84 (3652 + 12 * x4 + 7))), .int (wI x3)] S σ τ Q
      obtain ⟨r8, t⟩ := t
      obtain ⟨p9, t⟩ := t
      refine i5 c_281_35 rfl (i3 c_281_36 rfl (i5 c_281_38 rfl (i45 c_281_39 (lo (c := 83) (kd := 112) (n := 0) rfl (by decide)) (lro (c := 83) (k := 32) (j := 93) (by decide)) (i3 c_281_42 rfl (i50 (v := σ 93 x4) c_281_44 (lo (c := 93) (kd := 0) (n := 60) rfl (by decide)) (by decide) r8 rfl ?_)))))
      refine i80 (As := [.int (wI x4), .int (wI (σ 93 x4))]) (rest := [.int (wI (σ 84 (3652 + 12 * x4 + 7))), .int (wI x3)]) c_281_45 mi_280 rfl rfl (Nat.le_of_ble_eq_true rfl) (Nat.le_of_ble_eq_true rfl) (lo (c := 83) (kd := 112) (n := 0) rfl (by decide)) (q_280w p4 p9 (fun v10 q11 => ?_))
      have t := t v10 q11
      show wi (d + 3) 281 48 [.ref 83, .int (wI x1), .int (wI x2), .int (wI x3), .int (wI x4)] [.int (wI v10), .int (wI (σ 84 (3652 + 12 * x4 + 7))), .int (wI x3)] S σ τ Q
      obtain ⟨p12, t⟩ := t
      obtain ⟨p13, t⟩ := t
      refine i10 c_281_48 (i5 c_281_49 rfl (i3 c_281_50 rfl ?_))
      refine i80 (As := [.int (wI x2)]) (rest := [.int (wI ((σ 84 (3652 + 12 * x4 + 7)) + v10)), .int (wI x3)]) c_281_51 mi_278 rfl rfl (Nat.le_of_ble_eq_true rfl) (Nat.le_of_ble_eq_true rfl) (lo (c := 83) (kd := 112) (n := 0) rfl (by decide)) (q_278 p12 p13 (fun v14 q15 q16 => ?_))
      have t := t v14 q15 q16
      show wi (d + 3) 281 54 [.ref 83, .int (wI x1), .int (wI x2), .int (wI x3), .int (wI x4)] [.int (wI v14), .int (wI ((σ 84 (3652 + 12 * x4 + 7)) + v10)), .int (wI x3)] S σ τ Q
      obtain ⟨r17, t⟩ := t
      obtain ⟨r18, t⟩ := t
      obtain ⟨y19, t⟩ := t
      refine i16 c_281_54 r17 r18 y19 (i10 c_281_55 (i6 (L' := [.ref 83, .int (wI x1), .int (wI x2), .int (wI (x3 + (Int.tdiv ((σ 84 (3652 + 12 * x4 + 7)) + v10) v14))), .int (wI x4)]) c_281_56 rfl (i9 (L' := [.ref 83, .int (wI x1), .int (wI x2), .int (wI (x3 + (Int.tdiv ((σ 84 (3652 + 12 * x4 + 7)) + v10) v14))), .int (wI (x4 + 1))]) c_281_57 rfl rfl (i38 c_281_60 rfl t))))
    · have t := iF t hc
      have ha6 : ¬ (σ 84 (3652 + 12 * x4 + 4) = x1 ∧ (1 ≤ σ 84 (3652 + 12 * x4 + 3) ∧ σ 84 (3652 + 12 * x4 + 3) ≤ 2)) := hc
      refine i9 (L' := [.ref 83, .int (wI x1), .int (wI x2), .int (wI x3), .int (wI (x4 + 1))]) c_281_57 rfl rfl (i38 c_281_60 rfl t)
theorem q_281 {d : Nat} {S : zS} {σ τ : zI} {Q : zQ} {m : Int} {k : Int} {a : Int → Int} {a1 : Int → Int} {tk : Int → Int} {PE : Int → Int → Int} {MI : Int → Int → Int} {OD : Int → Int → Int} (p0 : σ 84 = As a1 PE MI OD) (p1 : eB a a1) (p2 : Jv a) (p3 : jv_T a) (p4 : sP a PE) (p5 : sM a MI) (p6 : 0 ≤ m ∧ m < a 1) (p7 : k = wk_kd a tk m ∧ (0 ≤ k ∧ k ≤ 5)) (p8 : (∀ p, 0 ≤ p → p < a 4 → wk_wv a m p → PE p 7 = wk_r0 a tk m p)) (p9 : (∀ p, 0 ≤ p → p < a 4 → σ 93 p = wk_h a p)) (t : ∀ (v : Int), v = wk_can a tk m → 0 ≤ v ∧ v ≤ 35640 → Q (some (.int (wI v))) S σ τ) : wc (d + 3) 281 [.ref 83, .int (wI m), .int (wI k)] S σ τ Q := by
  have hC := jC p2
  have hC' := hC
  unfold jv_C at hC
  obtain ⟨rfl, kb⟩ := p7
  refine wc_of mi_281 rfl (u_281_0 ?_)
  have key : ∀ p, 0 ≤ p → p ≤ a 4 → wi (d + 3) 281 5 [.ref 83, .int (wI m), .int (wI (wk_kd a tk m)), .int (wI (sI (wk_c1 a tk m) p)), .int (wI p)] [] S σ τ Q := by
    refine lp_up (fun p q0 q1 ih => ?_)
    have cb := wk_can_b p2 p3 p6.1 ⟨q0, q1⟩ kb
    refine u_281_5 ?_
    have e4 : σ 84 4 = a 4 := by rw [p0, As_k (by omega)]; exact p1 4 (by omega)
    rw [e4]
    refine ⟨by omega, ifI (fun e => ?_) (fun e => ?_)⟩
    · have e : p = a 4 := by omega
      rw [e] at cb ⊢
      exact t _ rfl cb
    · have ih := ih (by omega)
      rw [sI_s q0] at ih
      have hP := jP p2 p q0 (by omega)
      have v3 : σ 84 (3652 + 12 * p + 3) = a (3652 + 12 * p + 3) := by rw [p0, As_p (by omega) (by omega)]; exact p4 p 3 (by omega) (by omega) (by omega) (by omega) (by omega) (by omega)
      have v4 : σ 84 (3652 + 12 * p + 4) = a (3652 + 12 * p + 4) := by rw [p0, As_p (by omega) (by omega)]; exact p4 p 4 (by omega) (by omega) (by omega) (by omega) (by omega) (by omega)
      have v7 : σ 84 (3652 + 12 * p + 7) = PE p 7 := by rw [p0, As_p (by omega) (by omega)]
      rw [v3, v4, v7]
      refine ⟨by omega, by omega, ifI (fun e2 => ?_) (fun e2 => ?_)⟩
      · have w7 := p8 p q0 (by omega) e2
        have hh := p9 p q0 (by omega)
        have rb := wk_r0_b (tk := tk) (m := m) p2 ⟨q0, by omega⟩
        have pb := wk_pt_b p2 ⟨q0, by omega⟩ p6.1 e2 (wk_h_b (Jl_of p2) p3 p)
        have ec : wk_c1 a tk m p = (wk_r0 a tk m p + r_pts a p (wk_h a p)).tdiv (r_cost a (wk_kd a tk m)) := if_pos e2
        rw [ec] at ih
        have cst := r_cost_b (jK p2) kb
        rw [w7, hh]
        refine ⟨by omega, by omega, by omega, fun v hv => ?_⟩
        rw [p0, As_pts p4 p5 (by omega) (by omega)] at hv
        subst hv
        refine ⟨by rw [p0]; exact eB_K (eB_A p1) (jK p2), kb, fun v2 hv2 vb => ?_⟩
        rw [p0, r_cost_c (eB_L (eB_A p1)) kb] at hv2
        subst hv2
        exact ⟨by omega, by omega, by omega, ih⟩
      · have ec : wk_c1 a tk m p = 0 := if_neg e2
        rw [ec, Int.add_zero] at ih
        exact ih
  exact key 0 (by omega) (by omega)
