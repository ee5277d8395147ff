/-! ===== a WEEK of the reference (segments printed by wip/whole, contracts own work) ===== -/
/-- what a WEEK leaves alone -/
def FW (σ σ1 : zI) : Prop := (∀ c, c ≠ 83 → c ≠ 84 → c ≠ 91 → c ≠ 92 → c ≠ 93 → c ≠ 94 → σ1 c = σ c) ∧ ∀ k, k < 22 ∨ 25 < k ∧ k < 29 ∨ 31 < k → σ1 83 k = σ 83 k
theorem MI1_0' (a : Int → Int) (m c : Int) (hm : 0 ≤ m) : MI1 a 0 m c = MI0 a m c := by
  unfold MI1
  rw [if_neg (by omega)]
theorem PE1_0' (a : Int → Int) (p c : Int) : PE1 a 0 p c = PE0 a p c := by
  unfold PE1
  rw [if_neg (by omega)]
theorem PE2_0' (a : Int → Int) (p c : Int) : PE2 a 0 p c = PE1 a (a 1) p c := by
  unfold PE2
  rw [if_neg (by omega)]
theorem MI2_0' (a : Int → Int) (m c : Int) (hm : 0 ≤ m) : MI2 a 0 m c = MI1 a (a 1) m c := by
  unfold MI2
  rw [if_neg (by omega)]
theorem wk_mp_0 (a : Int → Int) (p : Int) : wk_mp a 0 p = 0 := by
  unfold wk_mp
  rw [if_neg (by omega)]
theorem rts_c {b : Int → Int} (h2 : b 2 ≤ 4) : ∀ n, 0 ≤ n → n ≤ b 2 → ∀ k, k < 3428 ∨ 3428 + 8 * n ≤ k → r_rts b n k = b k := by
  have key : ∀ n : Nat, (n : Int) ≤ b 2 → ∀ k, k < 3428 ∨ 3428 + 8 * (n : Int) ≤ k → r_rts b n k = b k := by
    intro n
    induction n with
    | zero => intro _ k _; rfl
    | succ n ih =>
      intro hn k hk
      rw [show ((n + 1 : Nat) : Int) = (n : Int) + 1 by omega, r_rts_s (by omega)]
      have i := ih (by omega) k (by omega)
      unfold r_rt1
      repeat' split
      · exact i
      · rw [u1_n (by omega)]; exact i
      · rw [u1_n (by omega), u1_n (by omega)]; exact i
  intro n n0 n1
  have := key n.toNat (by omega)
  rw [Int.toNat_of_nonneg n0] at this
  exact this
/-- where HOMES change nothing -/
abbrev hgo (w k : Int) : Prop := (k < 3428 ∧ k ≠ 15) ∨ (3428 ≤ k ∧ k < 3460 ∧ (k - 3428) % 8 ≠ 0) ∨ (3460 ≤ k ∧ k < 3652 ∧ (k - 3460) % 8 ≠ 1 ∧ (k - 3460) % 8 ≠ 2) ∨ (3652 ≤ k ∧ k < 22300) ∨ (22300 ≤ k ∧ ¬ (22300 + 24 * w ≤ k ∧ k < 22300 + 24 * w + 24) ∧ ¬ (31900 + 24 * w ≤ k ∧ k < 31900 + 24 * w + 24) ∧ ¬ (41500 + 24 * w ≤ k ∧ k < 41500 + 24 * w + 24) ∧ ¬ (51100 + 24 * w ≤ k ∧ k < 51100 + 24 * w + 24))
theorem hgs_k {b : Int → Int} {L : Int} (H : HI b L 0) : ∀ n, 0 ≤ n → n ≤ b 3 → ∀ k, hgo (b 0) k → r_hgs b L n k = b k := by
  have key : ∀ n : Nat, (n : Int) ≤ b 3 → ∀ k, hgo (b 0) k → r_hgs b L n k = b k := by
    intro n
    induction n with
    | zero => intro _ k _; rfl
    | succ n ih =>
      intro hn k hk
      have hi := HI_I H n (by omega) (by omega)
      rw [show ((n + 1 : Nat) : Int) = (n : Int) + 1 by omega, r_hgs_s (by omega)]
      have i := ih (by omega) k hk
      split
      · have hp := HI_HP hi.1 (n := n) ⟨by omega, by omega⟩
        have h0 := hp.1.1
        have hs := hp.2.2.1.1
        have h3 := hi.1.1.2.2.1
        rw [r_hg_k hp (by omega)]; exact i
      · exact i
  intro n n0 n1
  have := key n.toNat (by omega)
  rw [Int.toNat_of_nonneg n0] at this
  exact this
theorem endW_c {b : Int → Int} {p k : Int} (h4 : 0 ≤ b 4) (hp : 0 ≤ p ∧ p < b 4) (hk : k < 3652 ∨ 3652 + 12 * b 4 ≤ k) : r_endW b p k = b k := by
  unfold r_endW
  rw [r_end1_n (by omega)]
  split
  · exact r_endL_n h4 (by omega)
  · rfl
theorem ewP_c {b : Int → Int} {h : Int} (h4 : 0 ≤ b 4) : ∀ n, 0 ≤ n → n ≤ b 4 → ∀ k, k < 3652 ∨ 3652 + 12 * b 4 ≤ k → fI (r_ewP h) n b k = b k := by
  have key : ∀ n : Nat, (n : Int) ≤ b 4 → ∀ k, k < 3652 ∨ 3652 + 12 * b 4 ≤ k → fI (r_ewP h) n b k = b k := by
    intro n
    induction n with
    | zero => intro _ k _; rfl
    | succ n ih =>
      intro hn k hk
      rw [show ((n + 1 : Nat) : Int) = (n : Int) + 1 by omega, fI_s (by omega)]
      have i := ih (by omega)
      have i4 := i 4 (by omega)
      show (if fI (r_ewP h) (n : Int) b (3652 + 12 * (n : Int) + 0) = h then r_endW (fI (r_ewP h) (n : Int) b) n else fI (r_ewP h) (n : Int) b) k = b k
      split
      · rw [endW_c (by omega) (by omega) (by omega)]; exact i k hk
      · exact i k hk
  intro n n0 n1
  have := key n.toNat (by omega)
  rw [Int.toNat_of_nonneg n0] at this
  exact this
theorem lvs_c {b : Int → Int} {w : Int} (h3 : b 3 ≤ 24) (h4 : 0 ≤ b 4 ∧ b 4 ≤ 60) : ∀ n, 0 ≤ n → n ≤ b 3 → ∀ k, k < 3460 ∨ 4372 ≤ k → r_lvs b w n k = b k := by
  have key : ∀ n : Nat, (n : Int) ≤ b 3 → ∀ k, k < 3460 ∨ 4372 ≤ k → r_lvs b w n k = b k := by
    intro n
    induction n with
    | zero => intro _ k _; rfl
    | succ n ih =>
      intro hn k hk
      rw [show ((n + 1 : Nat) : Int) = (n : Int) + 1 by omega, r_lvs_s (by omega)]
      have i := ih (by omega)
      have i4 := i 4 (by omega)
      split
      · exact i k hk
      · split
        · have e4 : u1 (r_lvs b w n) (3460 + 8 * (n : Int) + 3) 1 4 = r_lvs b w n 4 := u1_n (by omega)
          rw [← e4, ewP_c (by omega) _ (by omega) (by omega) k (by omega), u1_n (by omega)]
          exact i k hk
        · exact i k hk
  intro n n0 n1
  have := key n.toNat (by omega)
  rw [Int.toNat_of_nonneg n0] at this
  exact this
-- method 293: MillTownModel.week()V
theorem c_293_0 : pg_cd 293 0 = (5, 1, 0, 0, 0) := by decide +kernel
theorem c_293_1 : pg_cd 293 1 = (45, 12, 8, 0, 0) := by decide +kernel
theorem c_293_4 : pg_cd 293 4 = (1, 1, 0, 0, 0) := by decide +kernel
theorem c_293_5 : pg_cd 293 5 = (50, 1, 0, 0, 0) := by decide +kernel
theorem c_293_6 : pg_cd 293 6 = (6, 1, 0, 1, 0) := by decide +kernel
theorem c_293_7 : pg_cd 293 7 = (5, 1, 0, 0, 0) := by decide +kernel
theorem c_293_8 : pg_cd 293 8 = (3, 1, 0, 1, 0) := by decide +kernel
theorem c_293_9 : pg_cd 293 9 = (80, 291, 384, 0, 0) := by decide +kernel
theorem c_293_12 : pg_cd 293 12 = (1, 1, 0, 0, 0) := by decide +kernel
theorem c_293_13 : pg_cd 293 13 = (6, 1, 0, 2, 0) := by decide +kernel
theorem c_293_14 : pg_cd 293 14 = (3, 1, 0, 2, 0) := by decide +kernel
theorem c_293_15 : pg_cd 293 15 = (5, 1, 0, 0, 0) := by decide +kernel
theorem c_293_16 : pg_cd 293 16 = (45, 12, 8, 0, 0) := by decide +kernel
theorem c_293_19 : pg_cd 293 19 = (1, 1, 0, 0, 1) := by decide +kernel
theorem c_293_20 : pg_cd 293 20 = (50, 1, 0, 0, 0) := by decide +kernel
theorem c_293_21 : pg_cd 293 21 = (37, 3, 0, 3, 34) := by decide +kernel
theorem c_293_24 : pg_cd 293 24 = (5, 1, 0, 0, 0) := by decide +kernel
theorem c_293_25 : pg_cd 293 25 = (3, 1, 0, 2, 0) := by decide +kernel
theorem c_293_26 : pg_cd 293 26 = (1, 1, 0, 0, 5) := by decide +kernel
theorem c_293_27 : pg_cd 293 27 = (80, 198, 118, 0, 0) := by decide +kernel
theorem c_293_30 : pg_cd 293 30 = (36, 3, 0, 1, 19) := by decide +kernel
theorem c_293_33 : pg_cd 293 33 = (5, 1, 0, 0, 0) := by decide +kernel
theorem c_293_34 : pg_cd 293 34 = (3, 1, 0, 2, 0) := by decide +kernel
theorem c_293_35 : pg_cd 293 35 = (1, 2, 0, 0, 6) := by decide +kernel
theorem c_293_37 : pg_cd 293 37 = (80, 198, 118, 0, 0) := by decide +kernel
theorem c_293_40 : pg_cd 293 40 = (36, 3, 0, 1, 9) := by decide +kernel
theorem c_293_43 : pg_cd 293 43 = (5, 1, 0, 0, 0) := by decide +kernel
theorem c_293_44 : pg_cd 293 44 = (3, 1, 0, 2, 0) := by decide +kernel
theorem c_293_45 : pg_cd 293 45 = (3, 1, 0, 1, 0) := by decide +kernel
theorem c_293_46 : pg_cd 293 46 = (80, 282, 387, 0, 0) := by decide +kernel
theorem c_293_49 : pg_cd 293 49 = (9, 3, 0, 2, 1) := by decide +kernel
theorem c_293_52 : pg_cd 293 52 = (38, 3, 0, 0, (-38)) := by decide +kernel
theorem c_293_55 : pg_cd 293 55 = (1, 1, 0, 0, 0) := by decide +kernel
theorem c_293_56 : pg_cd 293 56 = (6, 1, 0, 2, 0) := by decide +kernel
theorem c_293_57 : pg_cd 293 57 = (3, 1, 0, 2, 0) := by decide +kernel
theorem c_293_58 : pg_cd 293 58 = (5, 1, 0, 0, 0) := by decide +kernel
theorem c_293_59 : pg_cd 293 59 = (45, 12, 8, 0, 0) := by decide +kernel
theorem c_293_62 : pg_cd 293 62 = (1, 1, 0, 0, 1) := by decide +kernel
theorem c_293_63 : pg_cd 293 63 = (50, 1, 0, 0, 0) := by decide +kernel
theorem c_293_64 : pg_cd 293 64 = (37, 3, 0, 3, 24) := by decide +kernel
theorem c_293_67 : pg_cd 293 67 = (5, 1, 0, 0, 0) := by decide +kernel
theorem c_293_68 : pg_cd 293 68 = (3, 1, 0, 2, 0) := by decide +kernel
theorem c_293_69 : pg_cd 293 69 = (1, 2, 0, 0, 8) := by decide +kernel
theorem c_293_71 : pg_cd 293 71 = (80, 198, 118, 0, 0) := by decide +kernel
theorem c_293_74 : pg_cd 293 74 = (36, 3, 0, 5, 8) := by decide +kernel
theorem c_293_77 : pg_cd 293 77 = (5, 1, 0, 0, 0) := by decide +kernel
theorem c_293_78 : pg_cd 293 78 = (3, 1, 0, 2, 0) := by decide +kernel
theorem c_293_79 : pg_cd 293 79 = (80, 284, 390, 0, 0) := by decide +kernel
theorem c_293_82 : pg_cd 293 82 = (9, 3, 0, 2, 1) := by decide +kernel
theorem c_293_85 : pg_cd 293 85 = (38, 3, 0, 0, (-28)) := by decide +kernel
theorem c_293_88 : pg_cd 293 88 = (5, 1, 0, 0, 0) := by decide +kernel
theorem c_293_89 : pg_cd 293 89 = (3, 1, 0, 1, 0) := by decide +kernel
theorem c_293_90 : pg_cd 293 90 = (80, 286, 393, 0, 0) := by decide +kernel
theorem c_293_93 : pg_cd 293 93 = (5, 1, 0, 0, 0) := by decide +kernel
theorem c_293_94 : pg_cd 293 94 = (80, 287, 396, 0, 0) := by decide +kernel
theorem c_293_97 : pg_cd 293 97 = (1, 1, 0, 0, 0) := by decide +kernel
theorem c_293_98 : pg_cd 293 98 = (6, 1, 0, 2, 0) := by decide +kernel
theorem c_293_99 : pg_cd 293 99 = (3, 1, 0, 2, 0) := by decide +kernel
theorem c_293_100 : pg_cd 293 100 = (5, 1, 0, 0, 0) := by decide +kernel
theorem c_293_101 : pg_cd 293 101 = (45, 12, 8, 0, 0) := by decide +kernel
theorem c_293_104 : pg_cd 293 104 = (1, 1, 0, 0, 4) := by decide +kernel
theorem c_293_105 : pg_cd 293 105 = (50, 1, 0, 0, 0) := by decide +kernel
theorem c_293_106 : pg_cd 293 106 = (37, 3, 0, 3, 54) := by decide +kernel
theorem c_293_109 : pg_cd 293 109 = (5, 1, 0, 0, 0) := by decide +kernel
theorem c_293_110 : pg_cd 293 110 = (45, 12, 8, 0, 0) := by decide +kernel
theorem c_293_113 : pg_cd 293 113 = (1, 3, 399, 0, 60700) := by decide +kernel
theorem c_293_116 : pg_cd 293 116 = (1, 2, 0, 0, 60) := by decide +kernel
theorem c_293_118 : pg_cd 293 118 = (3, 1, 0, 1, 0) := by decide +kernel
theorem c_293_119 : pg_cd 293 119 = (12, 1, 0, 0, 0) := by decide +kernel
theorem c_293_120 : pg_cd 293 120 = (10, 1, 0, 0, 0) := by decide +kernel
theorem c_293_121 : pg_cd 293 121 = (3, 1, 0, 2, 0) := by decide +kernel
theorem c_293_122 : pg_cd 293 122 = (10, 1, 0, 0, 0) := by decide +kernel
theorem c_293_123 : pg_cd 293 123 = (5, 1, 0, 0, 0) := by decide +kernel
theorem c_293_124 : pg_cd 293 124 = (3, 1, 0, 2, 0) := by decide +kernel
theorem c_293_125 : pg_cd 293 125 = (1, 2, 0, 0, 8) := by decide +kernel
theorem c_293_127 : pg_cd 293 127 = (80, 199, 102, 0, 0) := by decide +kernel
theorem c_293_130 : pg_cd 293 130 = (54, 1, 0, 0, 0) := by decide +kernel
theorem c_293_131 : pg_cd 293 131 = (5, 1, 0, 0, 0) := by decide +kernel
theorem c_293_132 : pg_cd 293 132 = (45, 12, 8, 0, 0) := by decide +kernel
theorem c_293_135 : pg_cd 293 135 = (1, 3, 400, 0, 84700) := by decide +kernel
theorem c_293_138 : pg_cd 293 138 = (1, 2, 0, 0, 60) := by decide +kernel
theorem c_293_140 : pg_cd 293 140 = (3, 1, 0, 1, 0) := by decide +kernel
theorem c_293_141 : pg_cd 293 141 = (12, 1, 0, 0, 0) := by decide +kernel
theorem c_293_142 : pg_cd 293 142 = (10, 1, 0, 0, 0) := by decide +kernel
theorem c_293_143 : pg_cd 293 143 = (3, 1, 0, 2, 0) := by decide +kernel
theorem c_293_144 : pg_cd 293 144 = (10, 1, 0, 0, 0) := by decide +kernel
theorem c_293_145 : pg_cd 293 145 = (5, 1, 0, 0, 0) := by decide +kernel
theorem c_293_146 : pg_cd 293 146 = (3, 1, 0, 2, 0) := by decide +kernel
theorem c_293_147 : pg_cd 293 147 = (1, 1, 0, 0, 4) := by decide +kernel
theorem c_293_148 : pg_cd 293 148 = (80, 199, 102, 0, 0) := by decide +kernel
theorem c_293_151 : pg_cd 293 151 = (1, 1, 0, 0, 1) := by decide +kernel
theorem c_293_152 : pg_cd 293 152 = (10, 1, 0, 0, 0) := by decide +kernel
theorem c_293_153 : pg_cd 293 153 = (54, 1, 0, 0, 0) := by decide +kernel
theorem c_293_154 : pg_cd 293 154 = (9, 3, 0, 2, 1) := by decide +kernel
theorem c_293_157 : pg_cd 293 157 = (38, 3, 0, 0, (-58)) := by decide +kernel
theorem c_293_160 : pg_cd 293 160 = (1, 1, 0, 0, 0) := by decide +kernel
theorem c_293_161 : pg_cd 293 161 = (6, 1, 0, 2, 0) := by decide +kernel
theorem c_293_162 : pg_cd 293 162 = (3, 1, 0, 2, 0) := by decide +kernel
theorem c_293_163 : pg_cd 293 163 = (5, 1, 0, 0, 0) := by decide +kernel
theorem c_293_164 : pg_cd 293 164 = (45, 12, 8, 0, 0) := by decide +kernel
theorem c_293_167 : pg_cd 293 167 = (1, 1, 0, 0, 1) := by decide +kernel
theorem c_293_168 : pg_cd 293 168 = (50, 1, 0, 0, 0) := by decide +kernel
theorem c_293_169 : pg_cd 293 169 = (37, 3, 0, 3, 33) := by decide +kernel
theorem c_293_172 : pg_cd 293 172 = (5, 1, 0, 0, 0) := by decide +kernel
theorem c_293_173 : pg_cd 293 173 = (45, 12, 8, 0, 0) := by decide +kernel
theorem c_293_176 : pg_cd 293 176 = (1, 3, 401, 0, 108700) := by decide +kernel
theorem c_293_179 : pg_cd 293 179 = (1, 2, 0, 0, 8) := by decide +kernel
theorem c_293_181 : pg_cd 293 181 = (3, 1, 0, 1, 0) := by decide +kernel
theorem c_293_182 : pg_cd 293 182 = (12, 1, 0, 0, 0) := by decide +kernel
theorem c_293_183 : pg_cd 293 183 = (10, 1, 0, 0, 0) := by decide +kernel
theorem c_293_184 : pg_cd 293 184 = (3, 1, 0, 2, 0) := by decide +kernel
theorem c_293_185 : pg_cd 293 185 = (10, 1, 0, 0, 0) := by decide +kernel
theorem c_293_186 : pg_cd 293 186 = (5, 1, 0, 0, 0) := by decide +kernel
theorem c_293_187 : pg_cd 293 187 = (3, 1, 0, 2, 0) := by decide +kernel
theorem c_293_188 : pg_cd 293 188 = (1, 2, 0, 0, 9) := by decide +kernel
theorem c_293_190 : pg_cd 293 190 = (80, 198, 118, 0, 0) := by decide +kernel
theorem c_293_193 : pg_cd 293 193 = (1, 1, 0, 0, 1) := by decide +kernel
theorem c_293_194 : pg_cd 293 194 = (10, 1, 0, 0, 0) := by decide +kernel
theorem c_293_195 : pg_cd 293 195 = (54, 1, 0, 0, 0) := by decide +kernel
theorem c_293_196 : pg_cd 293 196 = (9, 3, 0, 2, 1) := by decide +kernel
theorem c_293_199 : pg_cd 293 199 = (38, 3, 0, 0, (-37)) := by decide +kernel
theorem c_293_202 : pg_cd 293 202 = (1, 1, 0, 0, 0) := by decide +kernel
theorem c_293_203 : pg_cd 293 203 = (6, 1, 0, 2, 0) := by decide +kernel
theorem c_293_204 : pg_cd 293 204 = (3, 1, 0, 2, 0) := by decide +kernel
theorem c_293_205 : pg_cd 293 205 = (5, 1, 0, 0, 0) := by decide +kernel
theorem c_293_206 : pg_cd 293 206 = (45, 12, 8, 0, 0) := by decide +kernel
theorem c_293_209 : pg_cd 293 209 = (1, 1, 0, 0, 3) := by decide +kernel
theorem c_293_210 : pg_cd 293 210 = (50, 1, 0, 0, 0) := by decide +kernel
theorem c_293_211 : pg_cd 293 211 = (37, 3, 0, 3, 24) := by decide +kernel
theorem c_293_214 : pg_cd 293 214 = (5, 1, 0, 0, 0) := by decide +kernel
theorem c_293_215 : pg_cd 293 215 = (3, 1, 0, 2, 0) := by decide +kernel
theorem c_293_216 : pg_cd 293 216 = (1, 1, 0, 0, 3) := by decide +kernel
theorem c_293_217 : pg_cd 293 217 = (80, 200, 99, 0, 0) := by decide +kernel
theorem c_293_220 : pg_cd 293 220 = (36, 3, 0, 1, 9) := by decide +kernel
theorem c_293_223 : pg_cd 293 223 = (5, 1, 0, 0, 0) := by decide +kernel
theorem c_293_224 : pg_cd 293 224 = (3, 1, 0, 2, 0) := by decide +kernel
theorem c_293_225 : pg_cd 293 225 = (3, 1, 0, 1, 0) := by decide +kernel
theorem c_293_226 : pg_cd 293 226 = (80, 290, 402, 0, 0) := by decide +kernel
theorem c_293_229 : pg_cd 293 229 = (9, 3, 0, 2, 1) := by decide +kernel
theorem c_293_232 : pg_cd 293 232 = (38, 3, 0, 0, (-28)) := by decide +kernel
theorem c_293_235 : pg_cd 293 235 = (1, 1, 0, 0, 0) := by decide +kernel
theorem c_293_236 : pg_cd 293 236 = (6, 1, 0, 2, 0) := by decide +kernel
theorem c_293_237 : pg_cd 293 237 = (3, 1, 0, 2, 0) := by decide +kernel
theorem c_293_238 : pg_cd 293 238 = (5, 1, 0, 0, 0) := by decide +kernel
theorem c_293_239 : pg_cd 293 239 = (45, 12, 8, 0, 0) := by decide +kernel
theorem c_293_242 : pg_cd 293 242 = (1, 1, 0, 0, 2) := by decide +kernel
theorem c_293_243 : pg_cd 293 243 = (50, 1, 0, 0, 0) := by decide +kernel
theorem c_293_244 : pg_cd 293 244 = (37, 3, 0, 3, 68) := by decide +kernel
theorem c_293_247 : pg_cd 293 247 = (1, 3, 0, 0, 3428) := by decide +kernel
theorem c_293_250 : pg_cd 293 250 = (1, 2, 0, 0, 8) := by decide +kernel
theorem c_293_252 : pg_cd 293 252 = (3, 1, 0, 2, 0) := by decide +kernel
theorem c_293_253 : pg_cd 293 253 = (12, 1, 0, 0, 0) := by decide +kernel
theorem c_293_254 : pg_cd 293 254 = (10, 1, 0, 0, 0) := by decide +kernel
theorem c_293_255 : pg_cd 293 255 = (6, 1, 0, 3, 0) := by decide +kernel
theorem c_293_256 : pg_cd 293 256 = (5, 1, 0, 0, 0) := by decide +kernel
theorem c_293_257 : pg_cd 293 257 = (45, 12, 8, 0, 0) := by decide +kernel
theorem c_293_260 : pg_cd 293 260 = (3, 1, 0, 3, 0) := by decide +kernel
theorem c_293_261 : pg_cd 293 261 = (1, 1, 0, 0, 3) := by decide +kernel
theorem c_293_262 : pg_cd 293 262 = (10, 1, 0, 0, 0) := by decide +kernel
theorem c_293_263 : pg_cd 293 263 = (50, 1, 0, 0, 0) := by decide +kernel
theorem c_293_264 : pg_cd 293 264 = (1, 1, 0, 0, 1) := by decide +kernel
theorem c_293_265 : pg_cd 293 265 = (37, 3, 0, 1, 6) := by decide +kernel
theorem c_293_268 : pg_cd 293 268 = (38, 3, 0, 0, 38) := by decide +kernel
theorem c_293_271 : pg_cd 293 271 = (5, 1, 0, 0, 0) := by decide +kernel
theorem c_293_272 : pg_cd 293 272 = (45, 12, 8, 0, 0) := by decide +kernel
theorem c_293_275 : pg_cd 293 275 = (3, 1, 0, 3, 0) := by decide +kernel
theorem c_293_276 : pg_cd 293 276 = (34, 1, 0, 0, 0) := by decide +kernel
theorem c_293_277 : pg_cd 293 277 = (50, 1, 0, 0, 0) := by decide +kernel
theorem c_293_278 : pg_cd 293 278 = (5, 1, 0, 0, 0) := by decide +kernel
theorem c_293_279 : pg_cd 293 279 = (45, 12, 8, 0, 0) := by decide +kernel
theorem c_293_282 : pg_cd 293 282 = (3, 1, 0, 3, 0) := by decide +kernel
theorem c_293_283 : pg_cd 293 283 = (1, 1, 0, 0, 2) := by decide +kernel
theorem c_293_284 : pg_cd 293 284 = (10, 1, 0, 0, 0) := by decide +kernel
theorem c_293_285 : pg_cd 293 285 = (50, 1, 0, 0, 0) := by decide +kernel
theorem c_293_286 : pg_cd 293 286 = (11, 1, 0, 0, 0) := by decide +kernel
theorem c_293_287 : pg_cd 293 287 = (54, 1, 0, 0, 0) := by decide +kernel
theorem c_293_288 : pg_cd 293 288 = (5, 1, 0, 0, 0) := by decide +kernel
theorem c_293_289 : pg_cd 293 289 = (45, 12, 8, 0, 0) := by decide +kernel
theorem c_293_292 : pg_cd 293 292 = (3, 1, 0, 3, 0) := by decide +kernel
theorem c_293_293 : pg_cd 293 293 = (50, 1, 0, 0, 0) := by decide +kernel
theorem c_293_294 : pg_cd 293 294 = (36, 3, 0, 3, 12) := by decide +kernel
theorem c_293_297 : pg_cd 293 297 = (5, 1, 0, 0, 0) := by decide +kernel
theorem c_293_298 : pg_cd 293 298 = (45, 12, 8, 0, 0) := by decide +kernel
theorem c_293_301 : pg_cd 293 301 = (3, 1, 0, 3, 0) := by decide +kernel
theorem c_293_302 : pg_cd 293 302 = (1, 1, 0, 0, 3) := by decide +kernel
theorem c_293_303 : pg_cd 293 303 = (10, 1, 0, 0, 0) := by decide +kernel
theorem c_293_304 : pg_cd 293 304 = (1, 1, 0, 0, 1) := by decide +kernel
theorem c_293_305 : pg_cd 293 305 = (54, 1, 0, 0, 0) := by decide +kernel
theorem c_293_306 : pg_cd 293 306 = (9, 3, 0, 2, 1) := by decide +kernel
theorem c_293_309 : pg_cd 293 309 = (38, 3, 0, 0, (-72)) := by decide +kernel
theorem c_293_312 : pg_cd 293 312 = (1, 1, 0, 0, 0) := by decide +kernel
theorem c_293_313 : pg_cd 293 313 = (6, 1, 0, 2, 0) := by decide +kernel
theorem c_293_314 : pg_cd 293 314 = (3, 1, 0, 2, 0) := by decide +kernel
theorem c_293_315 : pg_cd 293 315 = (5, 1, 0, 0, 0) := by decide +kernel
theorem c_293_316 : pg_cd 293 316 = (45, 12, 8, 0, 0) := by decide +kernel
theorem c_293_319 : pg_cd 293 319 = (1, 1, 0, 0, 3) := by decide +kernel
theorem c_293_320 : pg_cd 293 320 = (50, 1, 0, 0, 0) := by decide +kernel
theorem c_293_321 : pg_cd 293 321 = (37, 3, 0, 3, 80) := by decide +kernel
theorem c_293_324 : pg_cd 293 324 = (5, 1, 0, 0, 0) := by decide +kernel
theorem c_293_325 : pg_cd 293 325 = (3, 1, 0, 2, 0) := by decide +kernel
theorem c_293_326 : pg_cd 293 326 = (1, 1, 0, 0, 3) := by decide +kernel
theorem c_293_327 : pg_cd 293 327 = (80, 200, 99, 0, 0) := by decide +kernel
theorem c_293_330 : pg_cd 293 330 = (1, 1, 0, 0, 1) := by decide +kernel
theorem c_293_331 : pg_cd 293 331 = (37, 3, 0, 0, 64) := by decide +kernel
theorem c_293_334 : pg_cd 293 334 = (5, 1, 0, 0, 0) := by decide +kernel
theorem c_293_335 : pg_cd 293 335 = (3, 1, 0, 2, 0) := by decide +kernel
theorem c_293_336 : pg_cd 293 336 = (3, 1, 0, 1, 0) := by decide +kernel
theorem c_293_337 : pg_cd 293 337 = (80, 292, 405, 0, 0) := by decide +kernel
theorem c_293_340 : pg_cd 293 340 = (36, 3, 0, 1, 6) := by decide +kernel
theorem c_293_343 : pg_cd 293 343 = (38, 3, 0, 0, 52) := by decide +kernel
theorem c_293_346 : pg_cd 293 346 = (5, 1, 0, 0, 0) := by decide +kernel
theorem c_293_347 : pg_cd 293 347 = (45, 12, 8, 0, 0) := by decide +kernel
theorem c_293_350 : pg_cd 293 350 = (1, 3, 0, 0, 3460) := by decide +kernel
theorem c_293_353 : pg_cd 293 353 = (1, 2, 0, 0, 8) := by decide +kernel
theorem c_293_355 : pg_cd 293 355 = (3, 1, 0, 2, 0) := by decide +kernel
theorem c_293_356 : pg_cd 293 356 = (12, 1, 0, 0, 0) := by decide +kernel
theorem c_293_357 : pg_cd 293 357 = (10, 1, 0, 0, 0) := by decide +kernel
theorem c_293_358 : pg_cd 293 358 = (1, 1, 0, 0, 3) := by decide +kernel
theorem c_293_359 : pg_cd 293 359 = (10, 1, 0, 0, 0) := by decide +kernel
theorem c_293_360 : pg_cd 293 360 = (1, 1, 0, 0, 1) := by decide +kernel
theorem c_293_361 : pg_cd 293 361 = (54, 1, 0, 0, 0) := by decide +kernel
theorem c_293_362 : pg_cd 293 362 = (1, 1, 0, 0, 0) := by decide +kernel
theorem c_293_363 : pg_cd 293 363 = (6, 1, 0, 3, 0) := by decide +kernel
theorem c_293_364 : pg_cd 293 364 = (3, 1, 0, 3, 0) := by decide +kernel
theorem c_293_365 : pg_cd 293 365 = (5, 1, 0, 0, 0) := by decide +kernel
theorem c_293_366 : pg_cd 293 366 = (45, 12, 8, 0, 0) := by decide +kernel
theorem c_293_369 : pg_cd 293 369 = (1, 1, 0, 0, 4) := by decide +kernel
theorem c_293_370 : pg_cd 293 370 = (50, 1, 0, 0, 0) := by decide +kernel
theorem c_293_371 : pg_cd 293 371 = (37, 3, 0, 3, 24) := by decide +kernel
theorem c_293_374 : pg_cd 293 374 = (5, 1, 0, 0, 0) := by decide +kernel
theorem c_293_375 : pg_cd 293 375 = (3, 1, 0, 3, 0) := by decide +kernel
theorem c_293_376 : pg_cd 293 376 = (1, 1, 0, 0, 0) := by decide +kernel
theorem c_293_377 : pg_cd 293 377 = (80, 199, 102, 0, 0) := by decide +kernel
theorem c_293_380 : pg_cd 293 380 = (3, 1, 0, 2, 0) := by decide +kernel
theorem c_293_381 : pg_cd 293 381 = (37, 3, 0, 1, 8) := by decide +kernel
theorem c_293_384 : pg_cd 293 384 = (5, 1, 0, 0, 0) := by decide +kernel
theorem c_293_385 : pg_cd 293 385 = (3, 1, 0, 3, 0) := by decide +kernel
theorem c_293_386 : pg_cd 293 386 = (80, 217, 112, 0, 0) := by decide +kernel
theorem c_293_389 : pg_cd 293 389 = (9, 3, 0, 3, 1) := by decide +kernel
theorem c_293_392 : pg_cd 293 392 = (38, 3, 0, 0, (-28)) := by decide +kernel
theorem c_293_395 : pg_cd 293 395 = (9, 3, 0, 2, 1) := by decide +kernel
theorem c_293_398 : pg_cd 293 398 = (38, 3, 0, 0, (-84)) := by decide +kernel
theorem c_293_401 : pg_cd 293 401 = (5, 1, 0, 0, 0) := by decide +kernel
theorem c_293_402 : pg_cd 293 402 = (45, 12, 8, 0, 0) := by decide +kernel
theorem c_293_405 : pg_cd 293 405 = (1, 1, 0, 0, 0) := by decide +kernel
theorem c_293_406 : pg_cd 293 406 = (34, 1, 0, 0, 0) := by decide +kernel
theorem c_293_407 : pg_cd 293 407 = (50, 1, 0, 0, 0) := by decide +kernel
theorem c_293_408 : pg_cd 293 408 = (1, 1, 0, 0, 1) := by decide +kernel
theorem c_293_409 : pg_cd 293 409 = (10, 1, 0, 0, 0) := by decide +kernel
theorem c_293_410 : pg_cd 293 410 = (54, 1, 0, 0, 0) := by decide +kernel
theorem c_293_411 : pg_cd 293 411 = (94, 0, 0, 0, 0) := by decide +kernel
theorem mi_293 : pg_mc 293 = 12 ∧ pg_na 293 = 0 ∧ pg_mx 293 = 4 := by decide +kernel
set_option maxRecDepth 20000 in
theorem u_293_0 {d : Nat} {S : zS} {σ τ : zI} {Q : zQ} (t : ∃ a2 : Int → Int, (σ 84 = a2) ∧ (Jv a2) ∧ (jv_T a2) ∧ ((σ 84 0) = a2 0) ∧ (a2 0 ≤ 399) ∧ ∀ (σ18 : zI), BG a2 σ σ18 → wi (d + 11) 293 14 [.ref 83, .int (wI (σ 84 0)), .int (wI 0), .retAddr 0] [] S σ18 τ Q) : wi (d + 11) 293 0 [.ref 83, .retAddr 0, .retAddr 0, .retAddr 0] [] S σ τ Q := by
  refine i5 c_293_0 rfl (i45 c_293_1 (lo (c := 83) (kd := 112) (n := 0) rfl (by decide)) (lro (c := 83) (k := 0) (j := 84) (by decide)) (i1 c_293_4 (wi_ok (fun K1 => ?_))))
  obtain ⟨a2, t⟩ := t
  obtain ⟨p3, t⟩ := t
  obtain ⟨p4, t⟩ := t
  obtain ⟨p5, t⟩ := t
  obtain ⟨p6, t⟩ := t
  obtain ⟨p7, t⟩ := t
  refine i50 (v := σ 84 0) c_293_5 (lo (c := 84) (kd := 0) (n := 112300) rfl (by decide)) (by decide) (by decide) rfl (i6 (L' := [.ref 83, .int (wI (σ 84 0)), .retAddr 0, .retAddr 0]) c_293_6 rfl (i5 c_293_7 rfl (i3 c_293_8 rfl ?_)))
  refine i80 (As := [.int (wI (σ 84 0))]) (rest := []) c_293_9 mi_291 rfl rfl (Nat.le_of_ble_eq_true rfl) (Nat.le_of_ble_eq_true rfl) (lo (c := 83) (kd := 112) (n := 0) rfl (by decide)) (q_291 (a := a2) p3 p4 p5 p6 p7 (fun σ18 q9 => ?_))
  have t := t σ18 q9
  show wi (d + 11) 293 12 [.ref 83, .int (wI (σ 84 0)), .retAddr 0, .retAddr 0] [] S σ18 τ Q
  refine i1 c_293_12 (i6 (L' := [.ref 83, .int (wI (σ 84 0)), .int (wI 0), .retAddr 0]) c_293_13 rfl t)
set_option maxRecDepth 20000 in
theorem u_293_14 {d : Nat} {S : zS} {σ τ : zI} {Q : zQ} {x1 : Int} {x2 : Int} {y3 : Value} (t : (rg x2) ∧ if (σ 84 1) ≤ x2 then (wi (d + 11) 293 57 [.ref 83, .int (wI x1), .int (wI 0), y3] [] S σ τ Q) else ((0 ≤ 3300 + 16 * x2 + 5 ∧ 3300 + 16 * x2 + 5 < 112300) ∧ if (σ 84 (3300 + 16 * x2 + 5)) = 0 then ((0 ≤ 3300 + 16 * x2 + 6 ∧ 3300 + 16 * x2 + 6 < 112300) ∧ if (σ 84 (3300 + 16 * x2 + 6)) = 0 then (∃ a8 : Int → Int, ∃ a19 : Int → Int, (σ 84 = As a19 (PE1 a8 x2) (MI1 a8 x2) (OD1 a8 x2)) ∧ (eB a8 a19) ∧ (Jv a8) ∧ (jv_T a8) ∧ (jv_E a8) ∧ (a8 0 ≤ 399) ∧ (x1 = a8 0) ∧ (0 ≤ x2 ∧ x2 < a8 1) ∧ (wk_cr a8 x2) ∧ (σ 83 29 = wk_ct a8) ∧ (∀ p, 0 ≤ p → p < a8 4 → σ 93 p = wk_h a8 p) ∧ ∀ (σ121 : zI) (τ122 : zI), CHF a8 a19 (x2 + 1) σ σ121 → wi (d + 11) 293 14 [.ref 83, .int (wI x1), .int (wI (x2 + 1)), y3] [] S σ121 τ122 Q) else (wi (d + 11) 293 14 [.ref 83, .int (wI x1), .int (wI (x2 + 1)), y3] [] S σ τ Q)) else (wi (d + 11) 293 14 [.ref 83, .int (wI x1), .int (wI (x2 + 1)), y3] [] S σ τ Q))) : wi (d + 11) 293 14 [.ref 83, .int (wI x1), .int (wI x2), y3] [] S σ τ Q := by
  refine i3 c_293_14 rfl (i5 c_293_15 rfl (i45 c_293_16 (lo (c := 83) (kd := 112) (n := 0) rfl (by decide)) (lro (c := 83) (k := 0) (j := 84) (by decide)) (i1 c_293_19 (wi_ok (fun K1 => ?_)))))
  obtain ⟨r2, t⟩ := t
  refine i50 (v := σ 84 1) c_293_20 (lo (c := 84) (kd := 0) (n := 112300) rfl (by decide)) (by decide) (by decide) rfl ?_
  refine i37 c_293_21 r2 (rge_ K1 rfl) rfl (fun hc => ?_) (fun hc => ?_)
  · have t := iT t hc
    have ha3 : (σ 84 1) ≤ x2 := hc
    refine i1 c_293_55 (i6 (L' := [.ref 83, .int (wI x1), .int (wI 0), y3]) c_293_56 rfl t)
  · have t := iF t hc
    have ha3 : ¬ ((σ 84 1) ≤ x2) := hc
    obtain ⟨p4, t⟩ := t
    refine i5 c_293_24 rfl (i3 c_293_25 rfl (i1 c_293_26 ?_))
    refine i80 (As := [.int (wI x2), .int (wI 5)]) (rest := []) c_293_27 mi_198 rfl rfl (Nat.le_of_ble_eq_true rfl) (Nat.le_of_ble_eq_true rfl) (lo (c := 83) (kd := 112) (n := 0) rfl (by decide)) (q_198 p4 ?_)
    show wi (d + 11) 293 30 [.ref 83, .int (wI x1), .int (wI x2), y3] [.int (wI (σ 84 (3300 + 16 * x2 + 5)))] S σ τ Q
    refine i36 c_293_30 (rge_ K1 rfl) rfl (fun hc => ?_) (fun hc => ?_)
    · have t := iF t hc
      have ha5 : ¬ ((σ 84 (3300 + 16 * x2 + 5)) = 0) := hc
      refine i9 (L' := [.ref 83, .int (wI x1), .int (wI (x2 + 1)), y3]) c_293_49 rfl rfl (i38 c_293_52 rfl t)
    · have t := iT t (Decidable.not_not.mp hc)
      have ha5 : (σ 84 (3300 + 16 * x2 + 5)) = 0 := Decidable.not_not.mp hc
      obtain ⟨p6, t⟩ := t
      refine i5 c_293_33 rfl (i3 c_293_34 rfl (i1 c_293_35 ?_))
      refine i80 (As := [.int (wI x2), .int (wI 6)]) (rest := []) c_293_37 mi_198 rfl rfl (Nat.le_of_ble_eq_true rfl) (Nat.le_of_ble_eq_true rfl) (lo (c := 83) (kd := 112) (n := 0) rfl (by decide)) (q_198 p6 ?_)
      show wi (d + 11) 293 40 [.ref 83, .int (wI x1), .int (wI x2), y3] [.int (wI (σ 84 (3300 + 16 * x2 + 6)))] S σ τ Q
      refine i36 c_293_40 (rge_ K1 rfl) rfl (fun hc => ?_) (fun hc => ?_)
      · have t := iF t hc
        have ha7 : ¬ ((σ 84 (3300 + 16 * x2 + 6)) = 0) := hc
        refine i9 (L' := [.ref 83, .int (wI x1), .int (wI (x2 + 1)), y3]) c_293_49 rfl rfl (i38 c_293_52 rfl t)
      · have t := iT t (Decidable.not_not.mp hc)
        have ha7 : (σ 84 (3300 + 16 * x2 + 6)) = 0 := Decidable.not_not.mp hc
        obtain ⟨a8, t⟩ := t
        obtain ⟨a19, t⟩ := t
        obtain ⟨p10, t⟩ := t
        obtain ⟨p11, t⟩ := t
        obtain ⟨p12, t⟩ := t
        obtain ⟨p13, t⟩ := t
        obtain ⟨p14, t⟩ := t
        obtain ⟨p15, t⟩ := t
        obtain ⟨p16, t⟩ := t
        obtain ⟨p17, t⟩ := t
        obtain ⟨p18, t⟩ := t
        obtain ⟨p19, t⟩ := t
        obtain ⟨p20, t⟩ := t
        refine i5 c_293_43 rfl (i3 c_293_44 rfl (i3 c_293_45 rfl ?_))
        refine i80 (As := [.int (wI x2), .int (wI x1)]) (rest := []) c_293_46 mi_282 rfl rfl (Nat.le_of_ble_eq_true rfl) (Nat.le_of_ble_eq_true rfl) (lo (c := 83) (kd := 112) (n := 0) rfl (by decide)) (q_282 (a := a8) (a1 := a19) p10 p11 p12 p13 p14 p15 p16 p17 p18 p19 p20 (fun σ121 τ122 q23 => ?_))
        have t := t σ121 τ122 q23
        show wi (d + 11) 293 49 [.ref 83, .int (wI x1), .int (wI x2), y3] [] S σ121 τ122 Q
        refine i9 (L' := [.ref 83, .int (wI x1), .int (wI (x2 + 1)), y3]) c_293_49 rfl rfl (i38 c_293_52 rfl t)
set_option maxRecDepth 20000 in
theorem u_293_57 {d : Nat} {S : zS} {σ τ : zI} {Q : zQ} {x1 : Int} {x2 : Int} {y3 : Value} (t : (rg x2) ∧ if (σ 84 1) ≤ x2 then (∃ a4 : Int → Int, ∃ a15 : Int → Int, (σ 84 = As a15 (PE2 a4 (a4 1)) (MI2 a4 (a4 1)) (OD1 a4 (a4 1))) ∧ (eB a4 a15) ∧ (Jv a4) ∧ (jv_T a4) ∧ (jv_E a4) ∧ (a4 0 ≤ 399) ∧ (x1 = a4 0) ∧ (∀ p, 0 ≤ p → p < a4 4 → σ 93 p = wk_h a4 p) ∧ (∀ p, 0 ≤ p → p < a4 4 → σ 94 p = wk_mp a4 (a4 1) p) ∧ ∀ (σ115 : zI) (τ116 : zI), PAF a4 a15 (a4 1) σ σ115 → ∃ a18 : Int → Int, ∃ a119 : Int → Int, (σ115 84 = As a119 (PE3 a18 (a18 1) 0) (MI3 a18 (a18 1)) (OD3 a18 (a18 1))) ∧ (eB a18 a119 ∧ a119 8 = a18 8) ∧ (Jv a18) ∧ (jv_T a18) ∧ (a18 0 ≤ 399) ∧ (jv_U a18) ∧ ∀ (σ126 : zI), (∀ c, c ≠ 84 → σ126 c = σ115 c) → σ126 84 = As (u1 a119 8 (wk_F2 a18 (a18 4))) (PE4 a18) (MI3 a18 (a18 1)) (OD3 a18 (a18 1)) → wi (d + 11) 293 99 [.ref 83, .int (wI x1), .int (wI 0), y3] [] S σ126 τ116 Q) else ((0 ≤ 3300 + 16 * x2 + 8 ∧ 3300 + 16 * x2 + 8 < 112300) ∧ if (σ 84 (3300 + 16 * x2 + 8)) ≤ 0 then (wi (d + 11) 293 57 [.ref 83, .int (wI x1), .int (wI (x2 + 1)), y3] [] S σ τ Q) else (∃ a31 : Int → Int, ∃ a132 : Int → Int, (σ 84 = As a132 (PE2 a31 x2) (MI2 a31 x2) (OD1 a31 (a31 1))) ∧ (eB a31 a132) ∧ (Jv a31) ∧ (jv_T a31) ∧ (a31 0 ≤ 399) ∧ (0 ≤ x2 ∧ x2 < a31 1) ∧ (wk_D a31 x2) ∧ (σ 83 29 = wk_ct a31) ∧ (∀ p, 0 ≤ p → p < a31 4 → σ 93 p = wk_h a31 p) ∧ (∀ p, 0 ≤ p → p < a31 4 → σ 94 p = wk_mp a31 x2 p) ∧ ∀ (σ143 : zI), WVF a31 a132 (x2 + 1) σ σ143 → wi (d + 11) 293 57 [.ref 83, .int (wI x1), .int (wI (x2 + 1)), y3] [] S σ143 τ Q))) : wi (d + 11) 293 57 [.ref 83, .int (wI x1), .int (wI x2), y3] [] S σ τ Q := by
  refine i3 c_293_57 rfl (i5 c_293_58 rfl (i45 c_293_59 (lo (c := 83) (kd := 112) (n := 0) rfl (by decide)) (lro (c := 83) (k := 0) (j := 84) (by decide)) (i1 c_293_62 (wi_ok (fun K1 => ?_)))))
  obtain ⟨r2, t⟩ := t
  refine i50 (v := σ 84 1) c_293_63 (lo (c := 84) (kd := 0) (n := 112300) rfl (by decide)) (by decide) (by decide) rfl ?_
  refine i37 c_293_64 r2 (rge_ K1 rfl) rfl (fun hc => ?_) (fun hc => ?_)
  · have t := iT t hc
    have ha3 : (σ 84 1) ≤ x2 := hc
    obtain ⟨a4, t⟩ := t
    obtain ⟨a15, t⟩ := t
    obtain ⟨p6, t⟩ := t
    obtain ⟨p7, t⟩ := t
    obtain ⟨p8, t⟩ := t
    obtain ⟨p9, t⟩ := t
    obtain ⟨p10, t⟩ := t
    obtain ⟨p11, t⟩ := t
    obtain ⟨p12, t⟩ := t
    obtain ⟨p13, t⟩ := t
    obtain ⟨p14, t⟩ := t
    refine i5 c_293_88 rfl (i3 c_293_89 rfl ?_)
    refine i80 (As := [.int (wI x1)]) (rest := []) c_293_90 mi_286 rfl rfl (Nat.le_of_ble_eq_true rfl) (Nat.le_of_ble_eq_true rfl) (lo (c := 83) (kd := 112) (n := 0) rfl (by decide)) (q_286 (a := a4) (a1 := a15) p6 p7 p8 p9 p10 p11 p12 p13 p14 (fun σ115 τ116 q17 => ?_))
    have t := t σ115 τ116 q17
    show wi (d + 11) 293 93 [.ref 83, .int (wI x1), .int (wI x2), y3] [] S σ115 τ116 Q
    obtain ⟨a18, t⟩ := t
    obtain ⟨a119, t⟩ := t
    obtain ⟨p20, t⟩ := t
    obtain ⟨p21, t⟩ := t
    obtain ⟨p22, t⟩ := t
    obtain ⟨p23, t⟩ := t
    obtain ⟨p24, t⟩ := t
    obtain ⟨p25, t⟩ := t
    refine i5 c_293_93 rfl ?_
    refine i80 (As := []) (rest := []) c_293_94 mi_287 rfl rfl (Nat.le_of_ble_eq_true rfl) (Nat.le_of_ble_eq_true rfl) (lo (c := 83) (kd := 112) (n := 0) rfl (by decide)) (q_287 (a := a18) (a1 := a119) p20 p21 p22 p23 p24 p25 (fun σ126 q27 q28 => ?_))
    have t := t σ126 q27 q28
    show wi (d + 11) 293 97 [.ref 83, .int (wI x1), .int (wI x2), y3] [] S σ126 τ116 Q
    refine i1 c_293_97 (i6 (L' := [.ref 83, .int (wI x1), .int (wI 0), y3]) c_293_98 rfl t)
  · have t := iF t hc
    have ha3 : ¬ ((σ 84 1) ≤ x2) := hc
    obtain ⟨p29, t⟩ := t
    refine i5 c_293_67 rfl (i3 c_293_68 rfl (i1 c_293_69 ?_))
    refine i80 (As := [.int (wI x2), .int (wI 8)]) (rest := []) c_293_71 mi_198 rfl rfl (Nat.le_of_ble_eq_true rfl) (Nat.le_of_ble_eq_true rfl) (lo (c := 83) (kd := 112) (n := 0) rfl (by decide)) (q_198 p29 ?_)
    show wi (d + 11) 293 74 [.ref 83, .int (wI x1), .int (wI x2), y3] [.int (wI (σ 84 (3300 + 16 * x2 + 8)))] S σ τ Q
    refine i36 c_293_74 (rge_ K1 rfl) rfl (fun hc => ?_) (fun hc => ?_)
    · have t := iT t hc
      have ha30 : (σ 84 (3300 + 16 * x2 + 8)) ≤ 0 := hc
      refine i9 (L' := [.ref 83, .int (wI x1), .int (wI (x2 + 1)), y3]) c_293_82 rfl rfl (i38 c_293_85 rfl t)
    · have t := iF t hc
      have ha30 : ¬ ((σ 84 (3300 + 16 * x2 + 8)) ≤ 0) := hc
      obtain ⟨a31, t⟩ := t
      obtain ⟨a132, t⟩ := t
      obtain ⟨p33, t⟩ := t
      obtain ⟨p34, t⟩ := t
      obtain ⟨p35, t⟩ := t
      obtain ⟨p36, t⟩ := t
      obtain ⟨p37, t⟩ := t
      obtain ⟨p38, t⟩ := t
      obtain ⟨p39, t⟩ := t
      obtain ⟨p40, t⟩ := t
      obtain ⟨p41, t⟩ := t
      obtain ⟨p42, t⟩ := t
      refine i5 c_293_77 rfl (i3 c_293_78 rfl ?_)
      refine i80 (As := [.int (wI x2)]) (rest := []) c_293_79 mi_284 rfl rfl (Nat.le_of_ble_eq_true rfl) (Nat.le_of_ble_eq_true rfl) (lo (c := 83) (kd := 112) (n := 0) rfl (by decide)) (q_284 (a := a31) (a1 := a132) p33 p34 p35 p36 p37 p38 p39 p40 p41 p42 (fun σ143 q44 => ?_))
      have t := t σ143 q44
      show wi (d + 11) 293 82 [.ref 83, .int (wI x1), .int (wI x2), y3] [] S σ143 τ Q
      refine i9 (L' := [.ref 83, .int (wI x1), .int (wI (x2 + 1)), y3]) c_293_82 rfl rfl (i38 c_293_85 rfl t)
set_option maxRecDepth 20000 in
theorem u_293_99 {d : Nat} {S : zS} {σ τ : zI} {Q : zQ} {x1 : Int} {x2 : Int} {y3 : Value} (t : (rg x2) ∧ if (σ 84 4) ≤ x2 then (wi (d + 11) 293 162 [.ref 83, .int (wI x1), .int (wI 0), y3] [] S σ τ Q) else ((0 ≤ 3652 + 12 * x2 + 8 ∧ 3652 + 12 * x2 + 8 < 112300) ∧ (0 ≤ (60700 + (60 * x1)) + x2 ∧ (60700 + (60 * x1)) + x2 < 112300) ∧ (0 ≤ 3652 + 12 * x2 + 4 ∧ 3652 + 12 * x2 + 4 < 112300) ∧ (0 ≤ (84700 + (60 * x1)) + x2 ∧ (84700 + (60 * x1)) + x2 < 112300) ∧ ∃ w9 : Int, wI w9 = wI (((u1 (σ 84) ((60700 + (60 * x1)) + x2) (σ 84 (3652 + 12 * x2 + 8))) (3652 + 12 * x2 + 4)) + 1) ∧ rg w9 ∧ wi (d + 11) 293 99 [.ref 83, .int (wI x1), .int (wI (x2 + 1)), y3] [] S (uc σ 84 (u1 (u1 (σ 84) ((60700 + (60 * x1)) + x2) (σ 84 (3652 + 12 * x2 + 8))) ((84700 + (60 * x1)) + x2) w9)) τ Q)) : wi (d + 11) 293 99 [.ref 83, .int (wI x1), .int (wI x2), y3] [] S σ τ Q := by
  refine i3 c_293_99 rfl (i5 c_293_100 rfl (i45 c_293_101 (lo (c := 83) (kd := 112) (n := 0) rfl (by decide)) (lro (c := 83) (k := 0) (j := 84) (by decide)) (i1 c_293_104 (wi_ok (fun K1 => ?_)))))
  obtain ⟨r2, t⟩ := t
  refine i50 (v := σ 84 4) c_293_105 (lo (c := 84) (kd := 0) (n := 112300) rfl (by decide)) (by decide) (by decide) rfl ?_
  refine i37 c_293_106 r2 (rge_ K1 rfl) rfl (fun hc => ?_) (fun hc => ?_)
  · have t := iT t hc
    have ha3 : (σ 84 4) ≤ x2 := hc
    refine i1 c_293_160 (i6 (L' := [.ref 83, .int (wI x1), .int (wI 0), y3]) c_293_161 rfl t)
  · have t := iF t hc
    have ha3 : ¬ ((σ 84 4) ≤ x2) := hc
    obtain ⟨p4, t⟩ := t
    refine i5 c_293_109 rfl (i45 c_293_110 (lo (c := 83) (kd := 112) (n := 0) rfl (by decide)) (lro (c := 83) (k := 0) (j := 84) (by decide)) (i1 c_293_113 (i1 c_293_116 (i3 c_293_118 rfl (i12 c_293_119 (i10 c_293_120 (i3 c_293_121 rfl (i10 c_293_122 (i5 c_293_123 rfl (i3 c_293_124 rfl (i1 c_293_125 ?_)))))))))))
    refine i80 (As := [.int (wI x2), .int (wI 8)]) (rest := [.int (wI ((60700 + (60 * x1)) + x2)), .ref 84]) c_293_127 mi_199 rfl rfl (Nat.le_of_ble_eq_true rfl) (Nat.le_of_ble_eq_true rfl) (lo (c := 83) (kd := 112) (n := 0) rfl (by decide)) (q_199 p4 ?_)
    show wi (d + 11) 293 130 [.ref 83, .int (wI x1), .int (wI x2), y3] [.int (wI (σ 84 (3652 + 12 * x2 + 8))), .int (wI ((60700 + (60 * x1)) + x2)), .ref 84] S σ τ Q
    obtain ⟨r5, t⟩ := t
    obtain ⟨p6, t⟩ := t
    refine i54 (σ1 := uc σ 84 (u1 (σ 84) ((60700 + (60 * x1)) + x2) (σ 84 (3652 + 12 * x2 + 8)))) c_293_130 (lo (c := 84) (kd := 0) (n := 112300) rfl (by decide)) (by decide) r5 (by decide) rfl (rge_ K1 rfl) (wr_ rfl rfl) (i5 c_293_131 rfl (i45 c_293_132 (lo (c := 83) (kd := 112) (n := 0) rfl (by decide)) (lro (c := 83) (k := 0) (j := 84) (by decide)) (i1 c_293_135 (i1 c_293_138 (i3 c_293_140 rfl (i12 c_293_141 (i10 c_293_142 (i3 c_293_143 rfl (i10 c_293_144 (i5 c_293_145 rfl (i3 c_293_146 rfl (i1 c_293_147 ?_))))))))))))
    refine i80 (As := [.int (wI x2), .int (wI 4)]) (rest := [.int (wI ((84700 + (60 * x1)) + x2)), .ref 84]) c_293_148 mi_199 rfl rfl (Nat.le_of_ble_eq_true rfl) (Nat.le_of_ble_eq_true rfl) (lo (c := 83) (kd := 112) (n := 0) rfl (by decide)) (q_199 p6 ?_)
    show wi (d + 11) 293 151 [.ref 83, .int (wI x1), .int (wI x2), y3] [.int (wI ((u1 (σ 84) ((60700 + (60 * x1)) + x2) (σ 84 (3652 + 12 * x2 + 8))) (3652 + 12 * x2 + 4))), .int (wI ((84700 + (60 * x1)) + x2)), .ref 84] S (uc σ 84 (u1 (σ 84) ((60700 + (60 * x1)) + x2) (σ 84 (3652 + 12 * x2 + 8)))) τ Q
    refine wi_ok (fun K7 => ?_)
    obtain ⟨r8, t⟩ := t
    obtain ⟨w9, e10, r11, t⟩ := t
    refine i1 c_293_151 (i10 c_293_152 (i54 (σ1 := uc σ 84 (u1 (u1 (σ 84) ((60700 + (60 * x1)) + x2) (σ 84 (3652 + 12 * x2 + 8))) ((84700 + (60 * x1)) + x2) w9)) c_293_153 (lo (c := 84) (kd := 0) (n := 112300) rfl (by decide)) (by decide) r8 (by decide) e10 r11 (wr_ (uc_s _ _ _) (uc_uc _ _ _ _)) (i9 (L' := [.ref 83, .int (wI x1), .int (wI (x2 + 1)), y3]) c_293_154 rfl rfl (i38 c_293_157 rfl t))))
set_option maxRecDepth 20000 in
theorem u_293_162 {d : Nat} {S : zS} {σ τ : zI} {Q : zQ} {x1 : Int} {x2 : Int} {y3 : Value} (t : (rg x2) ∧ if (σ 84 1) ≤ x2 then (wi (d + 11) 293 204 [.ref 83, .int (wI x1), .int (wI 0), y3] [] S σ τ Q) else ((0 ≤ 3300 + 16 * x2 + 9 ∧ 3300 + 16 * x2 + 9 < 112300) ∧ (0 ≤ (108700 + (8 * x1)) + x2 ∧ (108700 + (8 * x1)) + x2 < 112300) ∧ ∃ w6 : Int, wI w6 = wI ((σ 84 (3300 + 16 * x2 + 9)) + 1) ∧ rg w6 ∧ wi (d + 11) 293 162 [.ref 83, .int (wI x1), .int (wI (x2 + 1)), y3] [] S (uc σ 84 (u1 (σ 84) ((108700 + (8 * x1)) + x2) w6)) τ Q)) : wi (d + 11) 293 162 [.ref 83, .int (wI x1), .int (wI x2), y3] [] S σ τ Q := by
  refine i3 c_293_162 rfl (i5 c_293_163 rfl (i45 c_293_164 (lo (c := 83) (kd := 112) (n := 0) rfl (by decide)) (lro (c := 83) (k := 0) (j := 84) (by decide)) (i1 c_293_167 (wi_ok (fun K1 => ?_)))))
  obtain ⟨r2, t⟩ := t
  refine i50 (v := σ 84 1) c_293_168 (lo (c := 84) (kd := 0) (n := 112300) rfl (by decide)) (by decide) (by decide) rfl ?_
  refine i37 c_293_169 r2 (rge_ K1 rfl) rfl (fun hc => ?_) (fun hc => ?_)
  · have t := iT t hc
    have ha3 : (σ 84 1) ≤ x2 := hc
    refine i1 c_293_202 (i6 (L' := [.ref 83, .int (wI x1), .int (wI 0), y3]) c_293_203 rfl t)
  · have t := iF t hc
    have ha3 : ¬ ((σ 84 1) ≤ x2) := hc
    obtain ⟨p4, t⟩ := t
    refine i5 c_293_172 rfl (i45 c_293_173 (lo (c := 83) (kd := 112) (n := 0) rfl (by decide)) (lro (c := 83) (k := 0) (j := 84) (by decide)) (i1 c_293_176 (i1 c_293_179 (i3 c_293_181 rfl (i12 c_293_182 (i10 c_293_183 (i3 c_293_184 rfl (i10 c_293_185 (i5 c_293_186 rfl (i3 c_293_187 rfl (i1 c_293_188 ?_)))))))))))
    refine i80 (As := [.int (wI x2), .int (wI 9)]) (rest := [.int (wI ((108700 + (8 * x1)) + x2)), .ref 84]) c_293_190 mi_198 rfl rfl (Nat.le_of_ble_eq_true rfl) (Nat.le_of_ble_eq_true rfl) (lo (c := 83) (kd := 112) (n := 0) rfl (by decide)) (q_198 p4 ?_)
    show wi (d + 11) 293 193 [.ref 83, .int (wI x1), .int (wI x2), y3] [.int (wI (σ 84 (3300 + 16 * x2 + 9))), .int (wI ((108700 + (8 * x1)) + x2)), .ref 84] S σ τ Q
    obtain ⟨r5, t⟩ := t
    obtain ⟨w6, e7, r8, t⟩ := t
    refine i1 c_293_193 (i10 c_293_194 (i54 (σ1 := uc σ 84 (u1 (σ 84) ((108700 + (8 * x1)) + x2) w6)) c_293_195 (lo (c := 84) (kd := 0) (n := 112300) rfl (by decide)) (by decide) r5 (by decide) e7 r8 (wr_ rfl rfl) (i9 (L' := [.ref 83, .int (wI x1), .int (wI (x2 + 1)), y3]) c_293_196 rfl rfl (i38 c_293_199 rfl t))))
set_option maxRecDepth 20000 in
theorem u_293_204 {d : Nat} {S : zS} {σ τ : zI} {Q : zQ} {x1 : Int} {x2 : Int} {y3 : Value} (t : (rg x2) ∧ if (σ 84 3) ≤ x2 then (wi (d + 11) 293 237 [.ref 83, .int (wI x1), .int (wI 0), y3] [] S σ τ Q) else ((0 ≤ 3460 + 8 * x2 + 3 ∧ 3460 + 8 * x2 + 3 < 112300) ∧ if (σ 84 (3460 + 8 * x2 + 3)) = 0 then (∃ b6 : Int → Int, ∃ L7 : Int, (σ 84 = b6) ∧ (HP b6 L7 x2) ∧ (x1 = b6 0) ∧ (σ 83 30 = L7) ∧ ∀ (σ112 : zI), σ112 84 = r_hg b6 L7 x2 → (∀ c, c ≠ 84 → σ112 c = σ c) → wi (d + 11) 293 204 [.ref 83, .int (wI x1), .int (wI (x2 + 1)), y3] [] S σ112 τ Q) else (wi (d + 11) 293 204 [.ref 83, .int (wI x1), .int (wI (x2 + 1)), y3] [] S σ τ Q))) : wi (d + 11) 293 204 [.ref 83, .int (wI x1), .int (wI x2), y3] [] S σ τ Q := by
  refine i3 c_293_204 rfl (i5 c_293_205 rfl (i45 c_293_206 (lo (c := 83) (kd := 112) (n := 0) rfl (by decide)) (lro (c := 83) (k := 0) (j := 84) (by decide)) (i1 c_293_209 (wi_ok (fun K1 => ?_)))))
  obtain ⟨r2, t⟩ := t
  refine i50 (v := σ 84 3) c_293_210 (lo (c := 84) (kd := 0) (n := 112300) rfl (by decide)) (by decide) (by decide) rfl ?_
  refine i37 c_293_211 r2 (rge_ K1 rfl) rfl (fun hc => ?_) (fun hc => ?_)
  · have t := iT t hc
    have ha3 : (σ 84 3) ≤ x2 := hc
    refine i1 c_293_235 (i6 (L' := [.ref 83, .int (wI x1), .int (wI 0), y3]) c_293_236 rfl t)
  · have t := iF t hc
    have ha3 : ¬ ((σ 84 3) ≤ x2) := hc
    obtain ⟨p4, t⟩ := t
    refine i5 c_293_214 rfl (i3 c_293_215 rfl (i1 c_293_216 ?_))
    refine i80 (As := [.int (wI x2), .int (wI 3)]) (rest := []) c_293_217 mi_200 rfl rfl (Nat.le_of_ble_eq_true rfl) (Nat.le_of_ble_eq_true rfl) (lo (c := 83) (kd := 112) (n := 0) rfl (by decide)) (q_200 p4 ?_)
    show wi (d + 11) 293 220 [.ref 83, .int (wI x1), .int (wI x2), y3] [.int (wI (σ 84 (3460 + 8 * x2 + 3)))] S σ τ Q
    refine i36 c_293_220 (rge_ K1 rfl) rfl (fun hc => ?_) (fun hc => ?_)
    · have t := iF t hc
      have ha5 : ¬ ((σ 84 (3460 + 8 * x2 + 3)) = 0) := hc
      refine i9 (L' := [.ref 83, .int (wI x1), .int (wI (x2 + 1)), y3]) c_293_229 rfl rfl (i38 c_293_232 rfl t)
    · have t := iT t (Decidable.not_not.mp hc)
      have ha5 : (σ 84 (3460 + 8 * x2 + 3)) = 0 := Decidable.not_not.mp hc
      obtain ⟨b6, t⟩ := t
      obtain ⟨L7, t⟩ := t
      obtain ⟨p8, t⟩ := t
      obtain ⟨p9, t⟩ := t
      obtain ⟨p10, t⟩ := t
      obtain ⟨p11, t⟩ := t
      refine i5 c_293_223 rfl (i3 c_293_224 rfl (i3 c_293_225 rfl ?_))
      refine i80 (As := [.int (wI x2), .int (wI x1)]) (rest := []) c_293_226 mi_290 rfl rfl (Nat.le_of_ble_eq_true rfl) (Nat.le_of_ble_eq_true rfl) (lo (c := 83) (kd := 112) (n := 0) rfl (by decide)) (q_290 (b := b6) (L := L7) p8 p9 p10 p11 (fun σ112 q13 q14 => ?_))
      have t := t σ112 q13 q14
      show wi (d + 11) 293 229 [.ref 83, .int (wI x1), .int (wI x2), y3] [] S σ112 τ Q
      refine i9 (L' := [.ref 83, .int (wI x1), .int (wI (x2 + 1)), y3]) c_293_229 rfl rfl (i38 c_293_232 rfl t)
set_option maxRecDepth 20000 in
theorem u_293_237 {d : Nat} {S : zS} {σ τ : zI} {Q : zQ} {x1 : Int} {x2 : Int} {y3 : Value} (t : (rg x2) ∧ if (σ 84 2) ≤ x2 then (wi (d + 11) 293 314 [.ref 83, .int (wI x1), .int (wI 0), y3] [] S σ τ Q) else ((0 ≤ (3428 + (8 * x2)) + 3 ∧ (3428 + (8 * x2)) + 3 < 112300) ∧ if (σ 84 ((3428 + (8 * x2)) + 3)) = 1 then (wi (d + 11) 293 237 [.ref 83, .int (wI x1), .int (wI (x2 + 1)), .int (wI (3428 + (8 * x2)))] [] S σ τ Q) else ((0 ≤ 3428 + (8 * x2) ∧ 3428 + (8 * x2) < 112300) ∧ (0 ≤ (3428 + (8 * x2)) + 2 ∧ (3428 + (8 * x2)) + 2 < 112300) ∧ ∃ w8 : Int, wI w8 = wI ((σ 84 (3428 + (8 * x2))) - (σ 84 ((3428 + (8 * x2)) + 2))) ∧ rg w8 ∧ if (0 : Int) ≤ w8 then (wi (d + 11) 293 237 [.ref 83, .int (wI x1), .int (wI (x2 + 1)), .int (wI (3428 + (8 * x2)))] [] S (uc σ 84 (u1 (σ 84) (3428 + (8 * x2)) w8)) τ Q) else (wi (d + 11) 293 237 [.ref 83, .int (wI x1), .int (wI (x2 + 1)), .int (wI (3428 + (8 * x2)))] [] S (uc σ 84 (u1 (u1 (σ 84) (3428 + (8 * x2)) w8) ((3428 + (8 * x2)) + 3) 1)) τ Q)))) : wi (d + 11) 293 237 [.ref 83, .int (wI x1), .int (wI x2), y3] [] S σ τ Q := by
  refine i3 c_293_237 rfl (i5 c_293_238 rfl (i45 c_293_239 (lo (c := 83) (kd := 112) (n := 0) rfl (by decide)) (lro (c := 83) (k := 0) (j := 84) (by decide)) (i1 c_293_242 (wi_ok (fun K1 => ?_)))))
  obtain ⟨r2, t⟩ := t
  refine i50 (v := σ 84 2) c_293_243 (lo (c := 84) (kd := 0) (n := 112300) rfl (by decide)) (by decide) (by decide) rfl ?_
  refine i37 c_293_244 r2 (rge_ K1 rfl) rfl (fun hc => ?_) (fun hc => ?_)
  · have t := iT t hc
    have ha3 : (σ 84 2) ≤ x2 := hc
    refine i1 c_293_312 (i6 (L' := [.ref 83, .int (wI x1), .int (wI 0), y3]) c_293_313 rfl t)
  · have t := iF t hc
    have ha3 : ¬ ((σ 84 2) ≤ x2) := hc
    obtain ⟨r4, t⟩ := t
    refine i1 c_293_247 (i1 c_293_250 (i3 c_293_252 rfl (i12 c_293_253 (i10 c_293_254 (i6 (L' := [.ref 83, .int (wI x1), .int (wI x2), .int (wI (3428 + (8 * x2)))]) c_293_255 rfl (i5 c_293_256 rfl (i45 c_293_257 (lo (c := 83) (kd := 112) (n := 0) rfl (by decide)) (lro (c := 83) (k := 0) (j := 84) (by decide)) (i3 c_293_260 rfl (i1 c_293_261 (i10 c_293_262 (i50 (v := σ 84 ((3428 + (8 * x2)) + 3)) c_293_263 (lo (c := 84) (kd := 0) (n := 112300) rfl (by decide)) (by decide) r4 rfl (i1 c_293_264 ?_))))))))))))
    refine i37 c_293_265 (rge_ K1 rfl) (by decide) rfl (fun hc => ?_) (fun hc => ?_)
    · have t := iF t hc
      have ha5 : ¬ ((σ 84 ((3428 + (8 * x2)) + 3)) = 1) := hc
      obtain ⟨r6, t⟩ := t
      obtain ⟨r7, t⟩ := t
      obtain ⟨w8, e9, r10, t⟩ := t
      refine i5 c_293_271 rfl (i45 c_293_272 (lo (c := 83) (kd := 112) (n := 0) rfl (by decide)) (lro (c := 83) (k := 0) (j := 84) (by decide)) (i3 c_293_275 rfl (i34a c_293_276 (i50 (v := σ 84 (3428 + (8 * x2))) c_293_277 (lo (c := 84) (kd := 0) (n := 112300) rfl (by decide)) (by decide) r6 rfl (i5 c_293_278 rfl (i45 c_293_279 (lo (c := 83) (kd := 112) (n := 0) rfl (by decide)) (lro (c := 83) (k := 0) (j := 84) (by decide)) (i3 c_293_282 rfl (i1 c_293_283 (i10 c_293_284 (i50 (v := σ 84 ((3428 + (8 * x2)) + 2)) c_293_285 (lo (c := 84) (kd := 0) (n := 112300) rfl (by decide)) (by decide) r7 rfl (i11 c_293_286 (i54 (σ1 := uc σ 84 (u1 (σ 84) (3428 + (8 * x2)) w8)) c_293_287 (lo (c := 84) (kd := 0) (n := 112300) rfl (by decide)) (by decide) r6 (by decide) e9 r10 (wr_ rfl rfl) (i5 c_293_288 rfl (i45 c_293_289 (lo (c := 83) (kd := 112) (n := 0) rfl (by decide)) (lro (c := 83) (k := 0) (j := 84) (by decide)) (i3 c_293_292 rfl (wi_ok (fun K11 => ?_)))))))))))))))))
      refine i50 (v := w8) c_293_293 (lo (c := 84) (kd := 0) (n := 112300) rfl (by decide)) (by decide) r6 ((congrFun (uc_s _ _ _) _).trans (u1_s _ _ _)) ?_
      refine i36 c_293_294 r10 rfl (fun hc => ?_) (fun hc => ?_)
      · have t := iT t hc
        have ha12 : (0 : Int) ≤ w8 := hc
        refine i9 (L' := [.ref 83, .int (wI x1), .int (wI (x2 + 1)), .int (wI (3428 + (8 * x2)))]) c_293_306 rfl rfl (i38 c_293_309 rfl t)
      · have t := iF t hc
        have ha12 : ¬ ((0 : Int) ≤ w8) := hc
        refine i5 c_293_297 rfl (i45 c_293_298 (lo (c := 83) (kd := 112) (n := 0) rfl (by decide)) (lro (c := 83) (k := 0) (j := 84) (by decide)) (i3 c_293_301 rfl (i1 c_293_302 (i10 c_293_303 (i1 c_293_304 (i54 (σ1 := uc σ 84 (u1 (u1 (σ 84) (3428 + (8 * x2)) w8) ((3428 + (8 * x2)) + 3) 1)) c_293_305 (lo (c := 84) (kd := 0) (n := 112300) rfl (by decide)) (by decide) r4 (by decide) rfl (by decide) (wr_ (uc_s _ _ _) (uc_uc _ _ _ _)) (i9 (L' := [.ref 83, .int (wI x1), .int (wI (x2 + 1)), .int (wI (3428 + (8 * x2)))]) c_293_306 rfl rfl (i38 c_293_309 rfl t))))))))
    · have t := iT t (Decidable.not_not.mp hc)
      have ha5 : (σ 84 ((3428 + (8 * x2)) + 3)) = 1 := Decidable.not_not.mp hc
      refine i38 c_293_268 rfl (i9 (L' := [.ref 83, .int (wI x1), .int (wI (x2 + 1)), .int (wI (3428 + (8 * x2)))]) c_293_306 rfl rfl (i38 c_293_309 rfl t))
set_option maxRecDepth 20000 in
theorem u_293_314 {d : Nat} {S : zS} {σ τ : zI} {Q : zQ} {x1 : Int} {x2 : Int} {y3 : Value} (t : (rg x2) ∧ if (σ 84 3) ≤ x2 then (∃ w4 : Int, wI w4 = wI ((σ 84 0) + 1) ∧ rg w4 ∧ Q none S (uc σ 84 (u1 (σ 84) 0 w4)) τ) else ((0 ≤ 3460 + 8 * x2 + 3 ∧ 3460 + 8 * x2 + 3 < 112300) ∧ if (σ 84 (3460 + 8 * x2 + 3)) = 1 then (wi (d + 11) 293 314 [.ref 83, .int (wI x1), .int (wI (x2 + 1)), y3] [] S σ τ Q) else ((0 ≤ x2 ∧ x2 < (24 : Int)) ∧ (0 ≤ x1 ∧ x1 ≤ (399 : Int)) ∧ if r_sv (σ 84) x2 x1 then ((0 ≤ (3460 + (8 * x2)) + 3 ∧ (3460 + (8 * x2)) + 3 < 112300) ∧ wi (d + 11) 293 364 [.ref 83, .int (wI x1), .int (wI x2), .int (wI 0)] [] S (uc σ 84 (u1 (σ 84) ((3460 + (8 * x2)) + 3) 1)) τ Q) else (wi (d + 11) 293 314 [.ref 83, .int (wI x1), .int (wI (x2 + 1)), y3] [] S σ τ Q)))) : wi (d + 11) 293 314 [.ref 83, .int (wI x1), .int (wI x2), y3] [] S σ τ Q := by
  refine i3 c_293_314 rfl (i5 c_293_315 rfl (i45 c_293_316 (lo (c := 83) (kd := 112) (n := 0) rfl (by decide)) (lro (c := 83) (k := 0) (j := 84) (by decide)) (i1 c_293_319 (wi_ok (fun K1 => ?_)))))
  obtain ⟨r2, t⟩ := t
  refine i50 (v := σ 84 3) c_293_320 (lo (c := 84) (kd := 0) (n := 112300) rfl (by decide)) (by decide) (by decide) rfl ?_
  refine i37 c_293_321 r2 (rge_ K1 rfl) rfl (fun hc => ?_) (fun hc => ?_)
  · have t := iT t hc
    have ha3 : (σ 84 3) ≤ x2 := hc
    obtain ⟨w4, e5, r6, t⟩ := t
    refine i5 c_293_401 rfl (i45 c_293_402 (lo (c := 83) (kd := 112) (n := 0) rfl (by decide)) (lro (c := 83) (k := 0) (j := 84) (by decide)) (i1 c_293_405 (i34a c_293_406 (i50 (v := σ 84 0) c_293_407 (lo (c := 84) (kd := 0) (n := 112300) rfl (by decide)) (by decide) (by decide) rfl (i1 c_293_408 (i10 c_293_409 (i54 (σ1 := uc σ 84 (u1 (σ 84) 0 w4)) c_293_410 (lo (c := 84) (kd := 0) (n := 112300) rfl (by decide)) (by decide) (by decide) (by decide) e5 r6 (wr_ rfl rfl) ?_)))))))
    exact i94 c_293_411 t
  · have t := iF t hc
    have ha3 : ¬ ((σ 84 3) ≤ x2) := hc
    obtain ⟨p7, t⟩ := t
    refine i5 c_293_324 rfl (i3 c_293_325 rfl (i1 c_293_326 ?_))
    refine i80 (As := [.int (wI x2), .int (wI 3)]) (rest := []) c_293_327 mi_200 rfl rfl (Nat.le_of_ble_eq_true rfl) (Nat.le_of_ble_eq_true rfl) (lo (c := 83) (kd := 112) (n := 0) rfl (by decide)) (q_200 p7 ?_)
    show wi (d + 11) 293 330 [.ref 83, .int (wI x1), .int (wI x2), y3] [.int (wI (σ 84 (3460 + 8 * x2 + 3)))] S σ τ Q
    refine i1 c_293_330 ?_
    refine i37 c_293_331 (rge_ K1 rfl) (by decide) rfl (fun hc => ?_) (fun hc => ?_)
    · have t := iT t hc
      have ha8 : (σ 84 (3460 + 8 * x2 + 3)) = 1 := hc
      refine i9 (L' := [.ref 83, .int (wI x1), .int (wI (x2 + 1)), y3]) c_293_395 rfl rfl (i38 c_293_398 rfl t)
    · have t := iF t hc
      have ha8 : ¬ ((σ 84 (3460 + 8 * x2 + 3)) = 1) := hc
      obtain ⟨p9, t⟩ := t
      obtain ⟨p10, t⟩ := t
      refine i5 c_293_334 rfl (i3 c_293_335 rfl (i3 c_293_336 rfl ?_))
      refine i80 (As := [.int (wI x2), .int (wI x1)]) (rest := []) c_293_337 mi_292 rfl rfl (Nat.le_of_ble_eq_true rfl) (Nat.le_of_ble_eq_true rfl) (lo (c := 83) (kd := 112) (n := 0) rfl (by decide)) (q_292 p9 p10 ?_)
      show wi (d + 11) 293 340 [.ref 83, .int (wI x1), .int (wI x2), y3] [.int (wI (if r_sv (σ 84) x2 x1 then 1 else 0))] S σ τ Q
      refine i36f c_293_340 rfl (fun hc => ?_) (fun hc => ?_)
      · have t := iT t hc
        have ha11 : r_sv (σ 84) x2 x1 := hc
        obtain ⟨r12, t⟩ := t
        refine i5 c_293_346 rfl (i45 c_293_347 (lo (c := 83) (kd := 112) (n := 0) rfl (by decide)) (lro (c := 83) (k := 0) (j := 84) (by decide)) (i1 c_293_350 (i1 c_293_353 (i3 c_293_355 rfl (i12 c_293_356 (i10 c_293_357 (i1 c_293_358 (i10 c_293_359 (i1 c_293_360 (i54 (σ1 := uc σ 84 (u1 (σ 84) ((3460 + (8 * x2)) + 3) 1)) c_293_361 (lo (c := 84) (kd := 0) (n := 112300) rfl (by decide)) (by decide) r12 (by decide) rfl (by decide) (wr_ rfl rfl) (i1 c_293_362 (i6 (L' := [.ref 83, .int (wI x1), .int (wI x2), .int (wI 0)]) c_293_363 rfl t))))))))))))
      · have t := iF t hc
        have ha11 : ¬ (r_sv (σ 84) x2 x1) := hc
        refine i38 c_293_343 rfl (i9 (L' := [.ref 83, .int (wI x1), .int (wI (x2 + 1)), y3]) c_293_395 rfl rfl (i38 c_293_398 rfl t))
set_option maxRecDepth 20000 in
theorem u_293_364 {d : Nat} {S : zS} {σ τ : zI} {Q : zQ} {x1 : Int} {x2 : Int} {x3 : Int} (t : (rg x3) ∧ if (σ 84 4) ≤ x3 then (wi (d + 11) 293 314 [.ref 83, .int (wI x1), .int (wI (x2 + 1)), .int (wI x3)] [] S σ τ Q) else ((0 ≤ 3652 + 12 * x3 + 0 ∧ 3652 + 12 * x3 + 0 < 112300) ∧ (rg x2) ∧ if (σ 84 (3652 + 12 * x3 + 0)) = x2 then ((0 ≤ x3 ∧ x3 < 60) ∧ (0 ≤ σ 84 4 ∧ σ 84 4 ≤ 60) ∧ wi (d + 11) 293 364 [.ref 83, .int (wI x1), .int (wI x2), .int (wI (x3 + 1))] [] S (uc σ 84 (r_endW ((σ 84)) x3)) τ Q) else (wi (d + 11) 293 364 [.ref 83, .int (wI x1), .int (wI x2), .int (wI (x3 + 1))] [] S σ τ Q))) : wi (d + 11) 293 364 [.ref 83, .int (wI x1), .int (wI x2), .int (wI x3)] [] S σ τ Q := by
  refine i3 c_293_364 rfl (i5 c_293_365 rfl (i45 c_293_366 (lo (c := 83) (kd := 112) (n := 0) rfl (by decide)) (lro (c := 83) (k := 0) (j := 84) (by decide)) (i1 c_293_369 (wi_ok (fun K1 => ?_)))))
  obtain ⟨r2, t⟩ := t
  refine i50 (v := σ 84 4) c_293_370 (lo (c := 84) (kd := 0) (n := 112300) rfl (by decide)) (by decide) (by decide) rfl ?_
  refine i37 c_293_371 r2 (rge_ K1 rfl) rfl (fun hc => ?_) (fun hc => ?_)
  · have t := iT t hc
    have ha3 : (σ 84 4) ≤ x3 := hc
    refine i9 (L' := [.ref 83, .int (wI x1), .int (wI (x2 + 1)), .int (wI x3)]) c_293_395 rfl rfl (i38 c_293_398 rfl t)
  · have t := iF t hc
    have ha3 : ¬ ((σ 84 4) ≤ x3) := hc
    obtain ⟨p4, t⟩ := t
    refine i5 c_293_374 rfl (i3 c_293_375 rfl (i1 c_293_376 ?_))
    refine i80 (As := [.int (wI x3), .int (wI 0)]) (rest := []) c_293_377 mi_199 rfl rfl (Nat.le_of_ble_eq_true rfl) (Nat.le_of_ble_eq_true rfl) (lo (c := 83) (kd := 112) (n := 0) rfl (by decide)) (q_199 p4 ?_)
    show wi (d + 11) 293 380 [.ref 83, .int (wI x1), .int (wI x2), .int (wI x3)] [.int (wI (σ 84 (3652 + 12 * x3 + 0)))] S σ τ Q
    obtain ⟨r5, t⟩ := t
    refine i3 c_293_380 rfl ?_
    refine i37 c_293_381 (rge_ K1 rfl) r5 rfl (fun hc => ?_) (fun hc => ?_)
    · have t := iF t hc
      have ha6 : ¬ ((σ 84 (3652 + 12 * x3 + 0)) = x2) := hc
      refine i9 (L' := [.ref 83, .int (wI x1), .int (wI x2), .int (wI (x3 + 1))]) c_293_389 rfl rfl (i38 c_293_392 rfl t)
    · have t := iT t (Decidable.not_not.mp hc)
      have ha6 : (σ 84 (3652 + 12 * x3 + 0)) = x2 := Decidable.not_not.mp hc
      obtain ⟨p7, t⟩ := t
      obtain ⟨p8, t⟩ := t
      refine i5 c_293_384 rfl (i3 c_293_385 rfl ?_)
      refine i80 (As := [.int (wI x3)]) (rest := []) c_293_386 mi_217 rfl rfl (Nat.le_of_ble_eq_true rfl) (Nat.le_of_ble_eq_true rfl) (lo (c := 83) (kd := 112) (n := 0) rfl (by decide)) (q_217 p7 p8 ?_)
      show wi (d + 11) 293 389 [.ref 83, .int (wI x1), .int (wI x2), .int (wI x3)] [] S (uc σ 84 (r_endW ((σ 84)) x3)) τ Q
      refine i9 (L' := [.ref 83, .int (wI x1), .int (wI x2), .int (wI (x3 + 1))]) c_293_389 rfl rfl (i38 c_293_392 rfl t)
theorem q_293 {d : Nat} {S : zS} {σ τ : zI} {Q : zQ} {a : Int → Int} (p0 : σ 84 = a) (p1 : Jv a) (p2 : jv_T a) (p3 : jv_E a) (p4 : a 0 ≤ 399) (p5 : jv_U a) (p6 : jv_B a) (t : ∀ (σ1 : zI) (τ1 : zI), FW σ σ1 → σ1 83 31 = zw (σ 83 31 + wk_pd a (a 1)) → σ1 84 = r_week a → Q none S σ1 τ1) : wc (d + 11) 293 [.ref 83] S σ τ Q := by
  have hC := jC p1
  have hC' := hC
  unfold jv_C at hC
  have hS := jS p1
  unfold jv_S at hS
  have A := A5_c (a := a) (by omega)
  have H0 := HI_0 p1 p2 p4 p5 p6
  refine wc_ok fun K => ?_
  have k31 := kO_r K 83 31
  refine wc_of mi_293 rfl (u_293_0 ?_)
  have t' : ∀ σ1 τ1, FW σ σ1 → σ1 83 31 = zw (σ 83 31 + wk_pd a (a 1)) → σ1 84 = r_week a → Q none S σ1 τ1 := fun σ1 τ1 f g h => t σ1 τ1 f g h
  -- HOMES are left
  have leave : ∀ h, 0 ≤ h → h ≤ a 3 → ∀ σ' τ', FW σ σ' → σ' 83 31 = zw (σ 83 31 + wk_pd a (a 1)) → σ' 84 = r_lvs (A7 a) (a 0) h → ∀ y3, wi (d + 11) 293 314 [.ref 83, .int (wI (a 0)), .int (wI h), y3] [] S σ' τ' Q := by
    have a6 := HI_I H0 (a 3) (by omega) (by omega)
    have e7 : ∀ k, k < 3428 ∨ 3460 ≤ k → A7 a k = A6 a k := fun k hk => rts_c (b := A6 a) (by unfold A6; omega) (a 2) (by omega) (by unfold A6; omega) k (by omega)
    have c0 : A7 a 0 = a 0 := by rw [e7 0 (by omega)]; unfold A6; omega
    have c3 : A7 a 3 = a 3 := by rw [e7 3 (by omega)]; unfold A6; omega
    have c4 : A7 a 4 = a 4 := by rw [e7 4 (by omega)]; unfold A6; omega
    refine lp_up (fun h q0 q1 ih => ?_)
    intro σ' τ' f g f3 y3
    have lc := lvs_c (b := A7 a) (w := a 0) (by omega) (by omega) h q0 (by omega)
    refine u_293_314 ?_
    have s3 : σ' 84 3 = a 3 := by rw [f3, lc 3 (by omega)]; exact c3
    have s4 : r_lvs (A7 a) (a 0) h 4 = a 4 := by rw [lc 4 (by omega)]; exact c4
    rw [s3]
    refine ⟨by omega, ifI (fun e => ?_) (fun e => ?_)⟩
    · have e : h = a 3 := by omega
      subst e
      have s0 : σ' 84 0 = a 0 := by rw [f3, lc 0 (by omega)]; exact c0
      rw [s0]
      refine ⟨a 0 + 1, rfl, by omega, t' _ _ ⟨fun c h1 h2 h3 h4 h5 h6 => by rw [uc_n h2]; exact f.1 c h1 h2 h3 h4 h5 h6, fun k hk => by rw [uc_n (by decide)]; exact f.2 k hk⟩ (by rw [uc_n (by decide)]; exact g) ?_⟩
      rw [uc_s, f3]
      rfl
    · have ih := ih (by omega)
      have ls := r_lvs_s (b := A7 a) (w := a 0) q0
      rw [f3]
      refine ⟨by omega, ifI (fun e1 => ?_) (fun e1 => ⟨by omega, by omega, ifI (fun e2 => ⟨by omega, ?_⟩) (fun e2 => ?_)⟩)⟩
      · rw [if_pos e1] at ls
        rw [ls] at ih
        exact ih σ' τ' f g f3 _
      · rw [if_neg e1, if_pos e2] at ls
        rw [ls] at ih
        rw [s4] at ih
        have inner : ∀ p, 0 ≤ p → p ≤ a 4 → ∀ σ2 : zI, (∀ c, c ≠ 84 → σ2 c = σ' c) → σ2 84 = fI (r_ewP h) p (u1 (r_lvs (A7 a) (a 0) h) (3460 + 8 * h + 3) 1) → wi (d + 11) 293 364 [.ref 83, .int (wI (a 0)), .int (wI h), .int (wI p)] [] S σ2 τ' Q := by
          have u4 : u1 (r_lvs (A7 a) (a 0) h) (3460 + 8 * h + 3) 1 4 = a 4 := by rw [u1_n (by omega)]; exact s4
          refine lp_up (fun p r0 r1 ih2 => ?_)
          intro σ2 g1 g3
          have ec := ewP_c (b := u1 (r_lvs (A7 a) (a 0) h) (3460 + 8 * h + 3) 1) (h := h) (by omega) p r0 (by omega)
          refine u_293_364 ?_
          have w4 : σ2 84 4 = a 4 := by rw [g3, ec 4 (by omega)]; exact u4
          rw [w4]
          have fs : fI (r_ewP h) (p + 1) (u1 (r_lvs (A7 a) (a 0) h) (3460 + 8 * h + 3) 1) = r_ewP h p (fI (r_ewP h) p (u1 (r_lvs (A7 a) (a 0) h) (3460 + 8 * h + 3) 1)) := fI_s r0
          refine ⟨by omega, ifI (fun e5 => ?_) (fun e5 => ⟨by omega, by omega, ifI (fun e6 => ⟨by omega, by omega, ?_⟩) (fun e6 => ?_)⟩)⟩
          · have e5 : p = a 4 := by omega
            subst e5
            refine ih σ2 τ' ⟨fun c h1 h2 h3 h4 h5 h6 => by rw [g1 c h2]; exact f.1 c h1 h2 h3 h4 h5 h6, fun k hk => by rw [g1 83 (by decide)]; exact f.2 k hk⟩ (by rw [g1 83 (by decide)]; exact g) g3 _
          · refine ih2 (by omega) _ (fun c hc => by rw [uc_n hc]; exact g1 c hc) ?_
            rw [uc_s, fs, ← g3]
            unfold r_ewP
            rw [if_pos e6]
          · refine ih2 (by omega) σ2 g1 ?_
            rw [fs, ← g3]
            unfold r_ewP
            rw [if_neg e6]
        exact inner 0 (by omega) (by omega) _ (fun c hc => uc_n hc) (by rw [uc_s]; rfl)
      · rw [if_neg e1, if_neg e2] at ls
        rw [ls] at ih
        exact ih σ' τ' f g f3 _
  -- RENTS
  have rents : ∀ s, 0 ≤ s → s ≤ a 2 → ∀ σ' τ', FW σ σ' → σ' 83 31 = zw (σ 83 31 + wk_pd a (a 1)) → σ' 84 = r_rts (A6 a) s → ∀ y3, wi (d + 11) 293 237 [.ref 83, .int (wI (a 0)), .int (wI s), y3] [] S σ' τ' Q := by
    have a6 := HI_I H0 (a 3) (by omega) (by omega)
    have e62 : A6 a 2 = a 2 := by unfold A6; omega
    refine lp_up (fun s q0 q1 ih => ?_)
    intro σ' τ' f g f3 y3
    have rc := rts_c (b := A6 a) (by omega) s q0 (by omega)
    refine wi_ok (fun K' => u_293_237 ?_)
    have s2 : σ' 84 2 = a 2 := by rw [f3, rc 2 (by omega)]; exact e62
    rw [s2]
    have r0 := kO_r K' 84 (3428 + 8 * s)
    have r2 := kO_r K' 84 (3428 + 8 * s + 2)
    refine ⟨by omega, ifI (fun e => ?_) (fun e => ?_)⟩
    · have e : s = a 2 := by omega
      subst e
      exact leave 0 (by omega) (by omega) σ' τ' f g f3 _
    · have ih := ih (by omega)
      have rs := r_rts_s (b := A6 a) q0
      -- the RENT of a SHOP and its COINS are small
      have sm : -1000 ≤ σ' 84 (3428 + 8 * s) ∧ (0 ≤ σ' 84 (3428 + 8 * s + 2) ∧ σ' 84 (3428 + 8 * s + 2) ≤ 1000) := by
        have x1 := (a6.1.2.2.2.1 s q0 (by omega)).1
        have x2 : A6 a (3428 + 8 * s + 2) = a (3428 + 8 * s + 2) := by
          unfold A6
          rw [hgs_k H0 (a 3) (by omega) (by omega) _ (by omega)]
          exact A5_k (by omega) (by omega) (by omega)
        have x3 := (jQ p1 s q0 (by omega)).2.1
        rw [f3, rc _ (by omega), rc _ (by omega), x2]
        exact ⟨x1, x3⟩
      refine ⟨by omega, ifI (fun e1 => ?_) (fun e1 => ⟨by omega, by omega, σ' 84 (3428 + 8 * s) - σ' 84 (3428 + 8 * s + 2), rfl, by omega, ifI (fun e2 => ?_) (fun e2 => ?_)⟩)⟩
      · refine ih σ' τ' f g ?_ _
        rw [rs, ← f3]; unfold r_rt1; rw [if_pos e1]
      · refine ih _ τ' ⟨fun c h1 h2 h3 h4 h5 h6 => by rw [uc_n h2]; exact f.1 c h1 h2 h3 h4 h5 h6, fun k hk => by rw [uc_n (by decide)]; exact f.2 k hk⟩ (by rw [uc_n (by decide)]; exact g) ?_ _
        rw [uc_s, rs, ← f3]; unfold r_rt1; rw [if_neg e1, if_pos e2]
      · refine ih _ τ' ⟨fun c h1 h2 h3 h4 h5 h6 => by rw [uc_n h2]; exact f.1 c h1 h2 h3 h4 h5 h6, fun k hk => by rw [uc_n (by decide)]; exact f.2 k hk⟩ (by rw [uc_n (by decide)]; exact g) ?_ _
        rw [uc_s, rs, ← f3]; unfold r_rt1; rw [if_neg e1, if_neg e2]
  -- HOMES
  have homes : ∀ h, 0 ≤ h → h ≤ a 3 → ∀ σ' τ', FW σ σ' → σ' 83 31 = zw (σ 83 31 + wk_pd a (a 1)) → σ' 83 30 = wk_lf a → σ' 84 = r_hgs (A5 a) (wk_lf a) h → ∀ y3, wi (d + 11) 293 204 [.ref 83, .int (wI (a 0)), .int (wI h), y3] [] S σ' τ' Q := by
    refine lp_up (fun h q0 q1 ih => ?_)
    intro σ' τ' f g g30 f3 y3
    have hi := HI_I H0 h q0 (by omega)
    refine u_293_204 ?_
    rw [f3, hi.2.2.2.2.1, A.2.2.2.1]
    refine ⟨by omega, ifI (fun e => ?_) (fun e => ?_)⟩
    · have e : h = a 3 := by omega
      subst e
      exact rents 0 (by omega) (by omega) σ' τ' f g f3 _
    · have ih := ih (by omega)
      have hs := r_hgs_s (b := A5 a) (L := wk_lf a) q0
      refine ⟨by omega, ifI (fun e1 => ?_) (fun e1 => ?_)⟩
      · rw [if_pos e1] at hs
        refine ⟨_, wk_lf a, rfl, HI_HP hi.1 (by omega), by omega, g30, fun σ2 h84 fr => ?_⟩
        refine ih σ2 τ' ⟨fun c h1 h2 h3 h4 h5 h6 => by rw [fr c h2]; exact f.1 c h1 h2 h3 h4 h5 h6, fun k hk => by rw [fr 83 (by decide)]; exact f.2 k hk⟩ (by rw [fr 83 (by decide)]; exact g) (by rw [fr 83 (by decide)]; exact g30) ?_ _
        rw [h84, hs]
      · rw [if_neg e1] at hs
        exact ih σ' τ' f g g30 (by rw [f3, hs]) _
  -- the books
  have ran : ∀ m, 0 ≤ m → m ≤ a 1 → ∀ σ' τ', FW σ σ' → σ' 83 31 = zw (σ 83 31 + wk_pd a (a 1)) → σ' 83 30 = wk_lf a → σ' 84 = As (wk_ab a (a 4) m) (PE4 a) (MI3 a (a 1)) (OD3 a (a 1)) → ∀ y3, wi (d + 11) 293 162 [.ref 83, .int (wI (a 0)), .int (wI m), y3] [] S σ' τ' Q := by
    refine lp_up (fun m q0 q1 ih => ?_)
    intro σ' τ' f g g30 f3 y3
    refine u_293_162 ?_
    have s1 : σ' 84 1 = a 1 := by rw [f3, As_k (by omega)]; exact wk_ab_k (by omega) (by omega) (by omega)
    rw [s1]
    refine ⟨by omega, ifI (fun e => ?_) (fun e => ?_)⟩
    · have e : m = a 1 := by omega
      subst e
      exact homes 0 (by omega) (by omega) σ' τ' f g g30 (by rw [f3]; rfl) _
    · have v9 : σ' 84 (3300 + 16 * m + 9) = wk_by a m := by rw [f3, As_m (by omega) (by omega), MI3_k (by omega) (by omega), if_neg (by omega), if_neg (by omega), if_pos rfl]
      have by1 : -1 ≤ wk_by a m ∧ wk_by a m < 80 := by
        by_cases c : wk_D a m
        · have := (wk_by_b p1 p2 p4 ⟨q0, by omega⟩ c).1; omega
        · have : wk_by a m = -1 := if_neg c
          omega
      rw [v9]
      refine ⟨by omega, by omega, wk_by a m + 1, rfl, by omega, ih (by omega) _ τ' ⟨fun c h1 h2 h3 h4 h5 h6 => by rw [uc_n h2]; exact f.1 c h1 h2 h3 h4 h5 h6, fun k hk => by rw [uc_n (by decide)]; exact f.2 k hk⟩ (by rw [uc_n (by decide)]; exact g) (by rw [uc_n (by decide)]; exact g30) ?_ _⟩
      rw [uc_s, f3, As_uk (by omega), wk_ab_m (by omega) (by omega) (by omega)]
  have wages : ∀ p, 0 ≤ p → p ≤ a 4 → ∀ σ' τ', FW σ σ' → σ' 83 31 = zw (σ 83 31 + wk_pd a (a 1)) → σ' 83 30 = wk_lf a → σ' 84 = As (wk_ab a p 0) (PE4 a) (MI3 a (a 1)) (OD3 a (a 1)) → ∀ y3, wi (d + 11) 293 99 [.ref 83, .int (wI (a 0)), .int (wI p), y3] [] S σ' τ' Q := by
    refine lp_up (fun p q0 q1 ih => ?_)
    intro σ' τ' f g g30 f3 y3
    refine u_293_99 ?_
    have s4 : σ' 84 4 = a 4 := by rw [f3, As_k (by omega)]; exact wk_ab_k (by omega) (by omega) (by omega)
    rw [s4]
    refine ⟨by omega, ifI (fun e => ?_) (fun e => ?_)⟩
    · have e : p = a 4 := by omega
      subst e
      exact ran 0 (by omega) (by omega) σ' τ' f g g30 f3 _
    · have hP := jP p1 p q0 (by omega)
      have v8 : σ' 84 (3652 + 12 * p + 8) = wk_W2 a p := by rw [f3, As_p (by omega) (by omega)]; unfold PE4; rw [if_pos (by omega)]
      have v4 : σ' 84 (3652 + 12 * p + 4) = a (3652 + 12 * p + 4) := by rw [f3, As_p (by omega) (by omega)]; exact sP_4 p 4 (by omega) (by omega) (by omega) (by omega) (by omega) (by omega)
      rw [v8]
      refine ⟨by omega, by omega, by omega, by omega, a (3652 + 12 * p + 4) + 1, ?_, by omega, ih (by omega) _ τ' ⟨fun c h1 h2 h3 h4 h5 h6 => by rw [uc_n h2]; exact f.1 c h1 h2 h3 h4 h5 h6, fun k hk => by rw [uc_n (by decide)]; exact f.2 k hk⟩ (by rw [uc_n (by decide)]; exact g) (by rw [uc_n (by decide)]; exact g30) ?_ _⟩
      · rw [u1_n (by omega), v4]
      · rw [uc_s, f3, As_uk (by omega), As_uk (by omega), wk_ab_p (by omega) (by omega)]
  -- the weavers
  have weave : ∀ m, 0 ≤ m → m ≤ a 1 → ∀ σ' τ', FW σ σ' → σ' 83 31 = σ 83 31 → (σ' 83 29 = wk_ct a ∧ σ' 83 30 = wk_lf a) → (∀ p, 0 ≤ p → p < a 4 → σ' 93 p = wk_h a p) → (∀ p, 0 ≤ p → p < a 4 → σ' 94 p = wk_mp a m p) → σ' 84 = As (wk_a0 a) (PE2 a m) (MI2 a m) (OD1 a (a 1)) → ∀ y3, wi (d + 11) 293 57 [.ref 83, .int (wI (a 0)), .int (wI m), y3] [] S σ' τ' Q := by
    refine lp_up (fun m q0 q1 ih => ?_)
    intro σ' τ' f g g29 h93 h94 f3 y3
    have b0 := wk_a0_B (a := a) (by omega)
    refine u_293_57 ?_
    have s1 : σ' 84 1 = a 1 := by rw [f3, As_k (by omega)]; exact b0 1 (by omega)
    rw [s1]
    refine ⟨by omega, ifI (fun e => ?_) (fun e => ?_)⟩
    · have e : m = a 1 := by omega
      subst e
      refine ⟨a, wk_a0 a, f3, b0, p1, p2, p3, p4, rfl, h93, h94, fun σ2 τ2 pa => ⟨a, wk_a0 a, pa.1, ⟨b0, u1_n (by omega)⟩, p1, p2, p4, p5, fun σ3 fr h84 => ?_⟩⟩
      refine wages 0 (by omega) (by omega) σ3 τ2 ⟨fun c h1 h2 h3 h4 h5 h6 => ?_, fun k hk => ?_⟩ ?_ ?_ (by rw [h84, wk_ab_0]) _
      · rw [fr c h2, pa.2.2.1 c h1 h2 h3 h4]; exact f.1 c h1 h2 h3 h4 h5 h6
      · rw [fr 83 (by decide), pa.2.2.2 k (by omega)]; exact f.2 k hk
      · rw [fr 83 (by decide), pa.2.1, g]
      · rw [fr 83 (by decide), pa.2.2.2 30 (by omega)]; exact g29.2
    · have ih := ih (by omega)
      have v8 : σ' 84 (3300 + 16 * m + 8) = wk_ht a m := by rw [f3, As_m (by omega) (by omega), MI2_k (by omega) (by omega), if_neg (by omega), if_pos rfl]
      rw [v8]
      refine ⟨by omega, ifI (fun e1 => ?_) (fun e1 => ?_)⟩
      · have hD : ¬ wk_D a m := fun q => by have := wk_ht_D q; omega
        refine ih σ' τ' f g g29 h93 (fun p r0 r1 => by rw [wk_mp_no hD]; exact h94 p r0 r1) ?_ _
        rw [f3]
        exact As_c (fun _ _ => rfl) (fun x c _ _ _ _ => (PE2_no (by omega) hD x c).symm) (fun x c _ _ _ _ => (MI2_no hD x c).symm) (fun _ _ _ _ _ _ => rfl)
      · have hD : wk_D a m := by
          by_cases q : wk_D a m
          · exact q
          · have := wk_ht_N q; omega
        refine ⟨a, wk_a0 a, f3, b0, p1, p2, p4, by omega, hD, g29.1, h93, h94, fun σ2 wv => ?_⟩
        refine ih σ2 τ' ⟨fun c h1 h2 h3 h4 h5 h6 => by rw [wv.2.2 c h2 h6]; exact f.1 c h1 h2 h3 h4 h5 h6, fun k hk => by rw [wv.2.2 83 (by decide) (by decide)]; exact f.2 k hk⟩ ?_ ?_ ?_ wv.2.1 wv.1 _
        · rw [wv.2.2 83 (by decide) (by decide)]; exact g
        · rw [wv.2.2 83 (by decide) (by decide)]; exact g29
        · rw [wv.2.2 93 (by decide) (by decide)]; exact h93
  -- the MILLS choose
  have choose : ∀ m, 0 ≤ m → m ≤ a 1 → ∀ σ' τ', FW σ σ' → σ' 83 31 = σ 83 31 → (σ' 83 29 = wk_ct a ∧ σ' 83 30 = wk_lf a) → (∀ p, 0 ≤ p → p < a 4 → σ' 93 p = wk_h a p) → (∀ p, 0 ≤ p → p < a 4 → σ' 94 p = 0) → σ' 84 = As (wk_a0 a) (PE1 a m) (MI1 a m) (OD1 a m) → ∀ y3, wi (d + 11) 293 14 [.ref 83, .int (wI (a 0)), .int (wI m), y3] [] S σ' τ' Q := by
    refine lp_up (fun m q0 q1 ih => ?_)
    intro σ' τ' f g g29 h93 h94 f3 y3
    have b0 := wk_a0_B (a := a) (by omega)
    refine u_293_14 ?_
    have s1 : σ' 84 1 = a 1 := by rw [f3, As_k (by omega)]; exact b0 1 (by omega)
    rw [s1]
    refine ⟨by omega, ifI (fun e => ?_) (fun e => ?_)⟩
    · have e : m = a 1 := by omega
      subst e
      refine weave 0 (by omega) (by omega) σ' τ' f g g29 h93 (fun p r0 r1 => by rw [wk_mp_0]; exact h94 p r0 r1) ?_ _
      rw [f3]
      exact As_c (fun _ _ => rfl) (fun x c _ _ _ _ => (PE2_0' a x c).symm) (fun x c x0 _ _ _ => (MI2_0' a x c x0).symm) (fun _ _ _ _ _ _ => rfl)
    · have ih := ih (by omega)
      have v5 : σ' 84 (3300 + 16 * m + 5) = a (3300 + 16 * m + 5) := by rw [f3, As_m (by omega) (by omega), MI1_0]; unfold MI0; rw [if_neg (by omega)]
      have v6 : σ' 84 (3300 + 16 * m + 6) = a (3300 + 16 * m + 6) := by rw [f3, As_m (by omega) (by omega), MI1_0]; unfold MI0; rw [if_neg (by omega)]
      have skip : ¬ wk_cr a m → ∀ y3, wi (d + 11) 293 14 [.ref 83, .int (wI (a 0)), .int (wI (m + 1)), y3] [] S σ' τ' Q := fun hn y3 => by
        have hO : ¬ wk_O a m := fun q => hn q.1
        refine ih σ' τ' f g g29 h93 h94 ?_ _
        rw [f3]
        exact As_c (fun _ _ => rfl) (fun x c _ _ _ _ => (PE1_no (Or.inl hO) x c).symm) (fun x c _ _ _ _ => (MI1_no (by omega) hO x c).symm) (fun x c _ _ _ _ => (OD1_no q0 (fun q => hO q.1) x c).symm)
      rw [v5, v6]
      refine ⟨by omega, ifI (fun e1 => ⟨by omega, ifI (fun e2 => ?_) (fun e2 => skip (fun q => e2 q.2) _)⟩) (fun e1 => skip (fun q => e1 q.1) _)⟩
      refine ⟨a, wk_a0 a, f3, b0, p1, p2, p3, p4, rfl, by omega, ⟨e1, e2⟩, g29.1, h93, fun σ2 τ2 ch => ?_⟩
      refine ih σ2 τ2 ⟨fun c h1 h2 h3 h4 h5 h6 => by rw [ch.2.1 c h1 h2 h3 h4]; exact f.1 c h1 h2 h3 h4 h5 h6, fun k hk => by rw [ch.2.2 k (by omega)]; exact f.2 k hk⟩ ?_ ?_ ?_ ?_ ch.1 _
      · rw [ch.2.2 31 (by omega)]; exact g
      · rw [ch.2.2 29 (by omega), ch.2.2 30 (by omega)]; exact g29
      · rw [ch.2.1 93 (by decide) (by decide) (by decide) (by decide)]; exact h93
      · rw [ch.2.1 94 (by decide) (by decide) (by decide) (by decide)]; exact h94
  rw [p0]
  refine ⟨a, rfl, p1, p2, rfl, p4, fun σ2 bg => ?_⟩
  refine choose 0 (by omega) (by omega) σ2 τ ⟨fun c h1 h2 h3 h4 h5 h6 => bg.2.2.2.1 c h1 h2 h5 h6, fun k hk => bg.2.2.2.2 k (by omega) (by omega)⟩ (bg.2.2.2.2 31 (by omega) (by omega)) bg.2.1 (fun p r0 r1 => (bg.2.2.1 p r0 r1).1) (fun p r0 r1 => (bg.2.2.1 p r0 r1).2) ?_ _
  rw [bg.1]
  exact As_c (fun _ _ => rfl) (fun x c _ _ _ _ => (PE1_0' a x c).symm) (fun x c x0 _ _ _ => (MI1_0' a x c x0).symm) (fun _ _ _ _ _ _ => rfl)
