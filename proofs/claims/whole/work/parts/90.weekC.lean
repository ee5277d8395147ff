/-! ===== a WEEK: a MILL of the reference chooses (segments printed by wip/whole, contracts own work) ===== -/
section CHO
variable {a : Int → Int} {m : Int}
theorem PE1_no (h : ¬ wk_O a m ∨ wk_kd a (wk_T a m) m = a (3300 + 16 * m + 7)) (p c : Int) : PE1 a (m + 1) p c = PE1 a m p c := by
  unfold PE1
  by_cases c1 : c = 7 ∧ p < a 4 ∧ 0 ≤ a (3652 + 12 * p + 4) ∧ a (3652 + 12 * p + 4) < m
  · rw [if_pos c1, if_pos (by omega)]
  · rw [if_neg c1]
    by_cases c2 : c = 7 ∧ p < a 4 ∧ 0 ≤ a (3652 + 12 * p + 4) ∧ a (3652 + 12 * p + 4) < m + 1
    · rw [if_pos c2]
      have e : a (3652 + 12 * p + 4) = m := by omega
      obtain ⟨rfl, _⟩ := c2
      unfold wk_r1 PE0
      rw [e]
      unfold wk_rx
      rw [if_neg (fun q => by rcases h with h | h; exact h q.2.1; exact q.2.2 h), if_neg (by omega)]
    · rw [if_neg c2]
/-- REST is 0 of the weavers below n -/
def PEr (a : Int → Int) (m n p c : Int) : Int := if c = 7 ∧ p < n ∧ wk_wv a m p then 0 else PE1 a m p c
theorem PE1_r (hm : 0 ≤ m) (h1 : wk_O a m) (h2 : wk_kd a (wk_T a m) m ≠ a (3300 + 16 * m + 7)) (p c : Int) : PEr a m (a 4) p c = PE1 a (m + 1) p c := by
  unfold PEr PE1
  by_cases c1 : c = 7 ∧ p < a 4 ∧ wk_wv a m p
  · obtain ⟨rfl, c2, c3⟩ := c1
    rw [if_pos ⟨rfl, c2, c3⟩, if_pos ⟨rfl, c2, by omega, by omega⟩]
    unfold wk_r1
    rw [c3.1]
    unfold wk_rx
    rw [if_pos ⟨c3, h1, h2⟩]
  · rw [if_neg c1]
    by_cases c4 : c = 7 ∧ p < a 4 ∧ 0 ≤ a (3652 + 12 * p + 4) ∧ a (3652 + 12 * p + 4) < m
    · rw [if_pos c4, if_pos (by omega)]
    · rw [if_neg c4]
      by_cases c2 : c = 7 ∧ p < a 4 ∧ 0 ≤ a (3652 + 12 * p + 4) ∧ a (3652 + 12 * p + 4) < m + 1
      · rw [if_pos c2]
        have e : a (3652 + 12 * p + 4) = m := by omega
        obtain ⟨rfl, c5, _⟩ := c2
        unfold wk_r1 PE0
        rw [e]
        unfold wk_rx
        rw [if_neg (show ¬ ((7 : Int) = 8 ∧ p < a 4) by omega), if_neg (fun q => c1 ⟨rfl, c5, q.1⟩)]
      · rw [if_neg c2]
theorem PE1_7 {p : Int} (hm : 0 ≤ m) (h1 : wk_O a m) (hp : p < a 4) (hw : wk_wv a m p) : PE1 a (m + 1) p 7 = wk_r0 a (wk_T a m) m p := by
  unfold PE1
  rw [if_pos ⟨rfl, hp, by omega, by omega⟩]
  unfold wk_r1
  rw [hw.1]
  unfold wk_rx wk_r0
  by_cases c : wk_kd a (wk_T a m) m = a (3300 + 16 * m + 7)
  · rw [if_pos c, if_neg (fun q => q.2.2 c)]
  · rw [if_neg c, if_pos ⟨hw, h1, c⟩]
theorem T_no (hm : 0 ≤ m) (h : ¬ wk_D a m) : wk_T a (m + 1) = wk_T a m := by rw [wk_T_s hm, if_neg h]
theorem OD1_no (hm : 0 ≤ m) (h : ¬ wk_D a m) (o c : Int) : OD1 a (m + 1) o c = OD1 a m o c := by unfold OD1; rw [T_no hm h]
theorem OD1_D (hm : 0 ≤ m) (h : wk_D a m) (hb : wk_bo a (wk_T a m) m < a 7) (o c : Int) : t2 (OD1 a m) (wk_bo a (wk_T a m) m) 5 (wk_T a m (wk_bo a (wk_T a m) m) + wk_tk a (wk_T a m) m) o c = OD1 a (m + 1) o c := by
  unfold t2 OD1
  rw [wk_T_s hm, if_pos h]
  by_cases c1 : o = wk_bo a (wk_T a m) m ∧ c = 5
  · obtain ⟨rfl, rfl⟩ := c1
    rw [if_pos ⟨rfl, rfl⟩, if_pos ⟨rfl, hb⟩, u1_s]
  · rw [if_neg c1]
    by_cases c2 : c = 5 ∧ o < a 7
    · rw [if_pos c2, if_pos c2, u1_n (fun q => c1 ⟨q, c2.1⟩)]
    · rw [if_neg c2, if_neg c2]
theorem MI1_x {x c : Int} (h : ¬ (x = m ∧ (c = 7 ∨ c = 8 ∨ c = 9 ∨ c = 11))) : MI1 a (m + 1) x c = MI1 a m x c := by
  unfold MI1
  by_cases c1 : x < m ∧ (c = 7 ∨ c = 8 ∨ c = 9 ∨ c = 11)
  · rw [if_pos c1, if_pos (show x < m + 1 ∧ (c = 7 ∨ c = 8 ∨ c = 9 ∨ c = 11) by omega)]
  · rw [if_neg c1, if_neg (show ¬ (x < m + 1 ∧ (c = 7 ∨ c = 8 ∨ c = 9 ∨ c = 11)) by omega)]
theorem MI1_m (c : Int) (hc : c = 7 ∨ c = 8 ∨ c = 9 ∨ c = 11) : MI1 a (m + 1) m c = if c = 7 then wk_ls a m else if c = 8 then wk_ht a m else if c = 9 then wk_by a m else wk_tx a m := by
  unfold MI1
  rw [if_pos (show m < m + 1 ∧ (c = 7 ∨ c = 8 ∨ c = 9 ∨ c = 11) by omega)]
theorem MI1_0 (c : Int) : MI1 a m m c = MI0 a m c := by
  unfold MI1
  rw [if_neg (by omega)]
theorem MI1_no (hm : m < a 1) (h : ¬ wk_O a m) (x c : Int) : MI1 a (m + 1) x c = MI1 a m x c := by
  by_cases e : x = m ∧ (c = 7 ∨ c = 8 ∨ c = 9 ∨ c = 11)
  · obtain ⟨rfl, hc⟩ := e
    rw [MI1_m c hc, MI1_0]
    have h2 : ¬ wk_D a x := fun q => h q.1
    unfold wk_ls wk_ht wk_by wk_tx MI0
    rw [if_neg h, if_neg h2, if_neg h2, if_neg h2]
    rcases hc with rfl | rfl | rfl | rfl
    all_goals simp [hm]
  · exact MI1_x e
theorem MI1_ls (hm : m < a 1) (h : wk_O a m) (h2 : ¬ wk_D a m) (x c : Int) : t2 (MI1 a m) m 7 (wk_kd a (wk_T a m) m) x c = MI1 a (m + 1) x c := by
  unfold t2
  by_cases e : x = m ∧ c = 7
  · obtain ⟨rfl, rfl⟩ := e
    rw [if_pos ⟨rfl, rfl⟩, MI1_m 7 (by omega), if_pos rfl]
    unfold wk_ls
    rw [if_pos h]
  · rw [if_neg e]
    by_cases e : x = m ∧ (c = 7 ∨ c = 8 ∨ c = 9 ∨ c = 11)
    · obtain ⟨rfl, hc⟩ := e
      rw [MI1_m c hc, MI1_0]
      unfold wk_ht wk_by wk_tx MI0
      rw [if_neg h2, if_neg h2, if_neg h2]
      rcases hc with rfl | rfl | rfl | rfl
      · omega
      all_goals simp [hm]
    · exact (MI1_x e).symm
theorem MI1_D (h : wk_D a m) {v8 : Int} (h8 : v8 = if wk_can a (wk_T a m) m ≤ 2 * wk_tk a (wk_T a m) m ∧ wk_ct a ≤ a 12 then 2 else 1) (x c : Int) : t2 (t2 (t2 (t2 (MI1 a m) m 7 (wk_kd a (wk_T a m) m)) m 11 (wk_tk a (wk_T a m) m)) m 9 (wk_bo a (wk_T a m) m)) m 8 v8 x c = MI1 a (m + 1) x c := by
  by_cases e : x = m ∧ (c = 7 ∨ c = 8 ∨ c = 9 ∨ c = 11)
  · obtain ⟨rfl, hc⟩ := e
    rw [MI1_m c hc]
    unfold wk_ls wk_ht wk_by wk_tx
    rw [if_pos h.1, if_pos h, if_pos h, if_pos h]
    rcases hc with rfl | rfl | rfl | rfl
    · rw [t2_n (by omega), t2_n (by omega), t2_n (by omega), t2_s, if_pos rfl]
    · rw [t2_s, if_neg (by omega), if_pos rfl, h8]
    · rw [t2_n (by omega), t2_s, if_neg (by omega), if_neg (by omega), if_pos rfl]
    · rw [t2_n (by omega), t2_n (by omega), t2_s, if_neg (by omega), if_neg (by omega), if_neg (by omega)]
  · rw [t2_n (by omega), t2_n (by omega), t2_n (by omega), t2_n (by omega)]
    exact (MI1_x e).symm
end CHO
/-- what choose leaves -/
def CHF (a a1 : Int → Int) (m : Int) (σ σ1 : zI) : Prop := σ1 84 = As a1 (PE1 a m) (MI1 a m) (OD1 a m) ∧ (∀ c, c ≠ 83 → c ≠ 84 → c ≠ 91 → c ≠ 92 → σ1 c = σ c) ∧ ∀ k, k < 22 ∨ 25 < k → σ1 83 k = σ 83 k
theorem sM_t {a : Int → Int} {MI : Int → Int → Int} {m c v : Int} (h : sM a MI) (hc : ¬ (c = 0 ∨ c = 1 ∨ c = 3 ∨ c = 6)) : sM a (t2 MI m c v) := fun x c' x0 x1 h' => by rw [t2_n (by omega)]; exact h x c' x0 x1 h'
-- method 282: MillTownModel.choose(II)V
theorem c_282_0 : pg_cd 282 0 = (1, 1, 0, 0, (-1)) := by decide +kernel
theorem c_282_1 : pg_cd 282 1 = (6, 1, 0, 3, 0) := by decide +kernel
theorem c_282_2 : pg_cd 282 2 = (1, 1, 0, 0, 0) := by decide +kernel
theorem c_282_3 : pg_cd 282 3 = (6, 2, 0, 4, 0) := by decide +kernel
theorem c_282_5 : pg_cd 282 5 = (1, 1, 0, 0, 0) := by decide +kernel
theorem c_282_6 : pg_cd 282 6 = (6, 2, 0, 5, 0) := by decide +kernel
theorem c_282_8 : pg_cd 282 8 = (3, 2, 0, 5, 0) := by decide +kernel
theorem c_282_10 : pg_cd 282 10 = (5, 1, 0, 0, 0) := by decide +kernel
theorem c_282_11 : pg_cd 282 11 = (45, 12, 8, 0, 0) := by decide +kernel
theorem c_282_14 : pg_cd 282 14 = (1, 2, 0, 0, 7) := by decide +kernel
theorem c_282_16 : pg_cd 282 16 = (50, 1, 0, 0, 0) := by decide +kernel
theorem c_282_17 : pg_cd 282 17 = (37, 3, 0, 3, 181) := by decide +kernel
theorem c_282_20 : pg_cd 282 20 = (1, 3, 0, 0, 4372) := by decide +kernel
theorem c_282_23 : pg_cd 282 23 = (1, 2, 0, 0, 8) := by decide +kernel
theorem c_282_25 : pg_cd 282 25 = (3, 2, 0, 5, 0) := by decide +kernel
theorem c_282_27 : pg_cd 282 27 = (12, 1, 0, 0, 0) := by decide +kernel
theorem c_282_28 : pg_cd 282 28 = (10, 1, 0, 0, 0) := by decide +kernel
theorem c_282_29 : pg_cd 282 29 = (6, 2, 0, 6, 0) := by decide +kernel
theorem c_282_31 : pg_cd 282 31 = (3, 1, 0, 2, 0) := by decide +kernel
theorem c_282_32 : pg_cd 282 32 = (5, 1, 0, 0, 0) := by decide +kernel
theorem c_282_33 : pg_cd 282 33 = (45, 12, 8, 0, 0) := by decide +kernel
theorem c_282_36 : pg_cd 282 36 = (3, 2, 0, 6, 0) := by decide +kernel
theorem c_282_38 : pg_cd 282 38 = (1, 1, 0, 0, 3) := by decide +kernel
theorem c_282_39 : pg_cd 282 39 = (10, 1, 0, 0, 0) := by decide +kernel
theorem c_282_40 : pg_cd 282 40 = (50, 1, 0, 0, 0) := by decide +kernel
theorem c_282_41 : pg_cd 282 41 = (5, 1, 0, 0, 0) := by decide +kernel
theorem c_282_42 : pg_cd 282 42 = (45, 12, 8, 0, 0) := by decide +kernel
theorem c_282_45 : pg_cd 282 45 = (3, 2, 0, 6, 0) := by decide +kernel
theorem c_282_47 : pg_cd 282 47 = (1, 1, 0, 0, 4) := by decide +kernel
theorem c_282_48 : pg_cd 282 48 = (10, 1, 0, 0, 0) := by decide +kernel
theorem c_282_49 : pg_cd 282 49 = (50, 1, 0, 0, 0) := by decide +kernel
theorem c_282_50 : pg_cd 282 50 = (81, 196, 76, 0, 0) := by decide +kernel
theorem c_282_53 : pg_cd 282 53 = (36, 3, 0, 0, 139) := by decide +kernel
theorem c_282_56 : pg_cd 282 56 = (5, 1, 0, 0, 0) := by decide +kernel
theorem c_282_57 : pg_cd 282 57 = (45, 12, 8, 0, 0) := by decide +kernel
theorem c_282_60 : pg_cd 282 60 = (3, 2, 0, 6, 0) := by decide +kernel
theorem c_282_62 : pg_cd 282 62 = (1, 1, 0, 0, 1) := by decide +kernel
theorem c_282_63 : pg_cd 282 63 = (10, 1, 0, 0, 0) := by decide +kernel
theorem c_282_64 : pg_cd 282 64 = (50, 1, 0, 0, 0) := by decide +kernel
theorem c_282_65 : pg_cd 282 65 = (5, 1, 0, 0, 0) := by decide +kernel
theorem c_282_66 : pg_cd 282 66 = (45, 12, 8, 0, 0) := by decide +kernel
theorem c_282_69 : pg_cd 282 69 = (3, 2, 0, 6, 0) := by decide +kernel
theorem c_282_71 : pg_cd 282 71 = (1, 1, 0, 0, 5) := by decide +kernel
theorem c_282_72 : pg_cd 282 72 = (10, 1, 0, 0, 0) := by decide +kernel
theorem c_282_73 : pg_cd 282 73 = (50, 1, 0, 0, 0) := by decide +kernel
theorem c_282_74 : pg_cd 282 74 = (11, 1, 0, 0, 0) := by decide +kernel
theorem c_282_75 : pg_cd 282 75 = (36, 3, 0, 4, 6) := by decide +kernel
theorem c_282_78 : pg_cd 282 78 = (38, 3, 0, 0, 114) := by decide +kernel
theorem c_282_81 : pg_cd 282 81 = (5, 1, 0, 0, 0) := by decide +kernel
theorem c_282_82 : pg_cd 282 82 = (45, 12, 8, 0, 0) := by decide +kernel
theorem c_282_85 : pg_cd 282 85 = (3, 2, 0, 6, 0) := by decide +kernel
theorem c_282_87 : pg_cd 282 87 = (1, 1, 0, 0, 2) := by decide +kernel
theorem c_282_88 : pg_cd 282 88 = (10, 1, 0, 0, 0) := by decide +kernel
theorem c_282_89 : pg_cd 282 89 = (50, 1, 0, 0, 0) := by decide +kernel
theorem c_282_90 : pg_cd 282 90 = (5, 1, 0, 0, 0) := by decide +kernel
theorem c_282_91 : pg_cd 282 91 = (45, 12, 8, 0, 0) := by decide +kernel
theorem c_282_94 : pg_cd 282 94 = (1, 2, 0, 0, 11) := by decide +kernel
theorem c_282_96 : pg_cd 282 96 = (50, 1, 0, 0, 0) := by decide +kernel
theorem c_282_97 : pg_cd 282 97 = (11, 1, 0, 0, 0) := by decide +kernel
theorem c_282_98 : pg_cd 282 98 = (5, 1, 0, 0, 0) := by decide +kernel
theorem c_282_99 : pg_cd 282 99 = (5, 1, 0, 0, 0) := by decide +kernel
theorem c_282_100 : pg_cd 282 100 = (45, 12, 8, 0, 0) := by decide +kernel
theorem c_282_103 : pg_cd 282 103 = (3, 2, 0, 6, 0) := by decide +kernel
theorem c_282_105 : pg_cd 282 105 = (50, 1, 0, 0, 0) := by decide +kernel
theorem c_282_106 : pg_cd 282 106 = (3, 1, 0, 1, 0) := by decide +kernel
theorem c_282_107 : pg_cd 282 107 = (3, 1, 0, 2, 0) := by decide +kernel
theorem c_282_108 : pg_cd 282 108 = (3, 1, 0, 2, 0) := by decide +kernel
theorem c_282_109 : pg_cd 282 109 = (80, 271, 337, 0, 0) := by decide +kernel
theorem c_282_112 : pg_cd 282 112 = (11, 1, 0, 0, 0) := by decide +kernel
theorem c_282_113 : pg_cd 282 113 = (5, 1, 0, 0, 0) := by decide +kernel
theorem c_282_114 : pg_cd 282 114 = (5, 1, 0, 0, 0) := by decide +kernel
theorem c_282_115 : pg_cd 282 115 = (45, 12, 8, 0, 0) := by decide +kernel
theorem c_282_118 : pg_cd 282 118 = (3, 2, 0, 6, 0) := by decide +kernel
theorem c_282_120 : pg_cd 282 120 = (50, 1, 0, 0, 0) := by decide +kernel
theorem c_282_121 : pg_cd 282 121 = (1, 1, 0, 0, 3) := by decide +kernel
theorem c_282_122 : pg_cd 282 122 = (80, 197, 85, 0, 0) := by decide +kernel
theorem c_282_125 : pg_cd 282 125 = (5, 1, 0, 0, 0) := by decide +kernel
theorem c_282_126 : pg_cd 282 126 = (43, 12, 355, 29, 0) := by decide +kernel
theorem c_282_129 : pg_cd 282 129 = (12, 1, 0, 0, 0) := by decide +kernel
theorem c_282_130 : pg_cd 282 130 = (1, 3, 0, 0, 400) := by decide +kernel
theorem c_282_133 : pg_cd 282 133 = (16, 1, 0, 0, 0) := by decide +kernel
theorem c_282_134 : pg_cd 282 134 = (11, 1, 0, 0, 0) := by decide +kernel
theorem c_282_135 : pg_cd 282 135 = (6, 2, 0, 7, 0) := by decide +kernel
theorem c_282_137 : pg_cd 282 137 = (3, 1, 0, 3, 0) := by decide +kernel
theorem c_282_138 : pg_cd 282 138 = (36, 3, 0, 2, 47) := by decide +kernel
theorem c_282_141 : pg_cd 282 141 = (3, 2, 0, 7, 0) := by decide +kernel
theorem c_282_143 : pg_cd 282 143 = (3, 2, 0, 4, 0) := by decide +kernel
theorem c_282_145 : pg_cd 282 145 = (37, 3, 0, 2, 47) := by decide +kernel
theorem c_282_148 : pg_cd 282 148 = (3, 2, 0, 7, 0) := by decide +kernel
theorem c_282_150 : pg_cd 282 150 = (3, 2, 0, 4, 0) := by decide +kernel
theorem c_282_152 : pg_cd 282 152 = (37, 3, 0, 1, 33) := by decide +kernel
theorem c_282_155 : pg_cd 282 155 = (5, 1, 0, 0, 0) := by decide +kernel
theorem c_282_156 : pg_cd 282 156 = (45, 12, 8, 0, 0) := by decide +kernel
theorem c_282_159 : pg_cd 282 159 = (3, 2, 0, 6, 0) := by decide +kernel
theorem c_282_161 : pg_cd 282 161 = (1, 1, 0, 0, 4) := by decide +kernel
theorem c_282_162 : pg_cd 282 162 = (10, 1, 0, 0, 0) := by decide +kernel
theorem c_282_163 : pg_cd 282 163 = (50, 1, 0, 0, 0) := by decide +kernel
theorem c_282_164 : pg_cd 282 164 = (5, 1, 0, 0, 0) := by decide +kernel
theorem c_282_165 : pg_cd 282 165 = (45, 12, 8, 0, 0) := by decide +kernel
theorem c_282_168 : pg_cd 282 168 = (1, 3, 0, 0, 4372) := by decide +kernel
theorem c_282_171 : pg_cd 282 171 = (1, 2, 0, 0, 8) := by decide +kernel
theorem c_282_173 : pg_cd 282 173 = (3, 1, 0, 3, 0) := by decide +kernel
theorem c_282_174 : pg_cd 282 174 = (12, 1, 0, 0, 0) := by decide +kernel
theorem c_282_175 : pg_cd 282 175 = (10, 1, 0, 0, 0) := by decide +kernel
theorem c_282_176 : pg_cd 282 176 = (1, 1, 0, 0, 4) := by decide +kernel
theorem c_282_177 : pg_cd 282 177 = (10, 1, 0, 0, 0) := by decide +kernel
theorem c_282_178 : pg_cd 282 178 = (50, 1, 0, 0, 0) := by decide +kernel
theorem c_282_179 : pg_cd 282 179 = (37, 3, 0, 2, 6) := by decide +kernel
theorem c_282_182 : pg_cd 282 182 = (38, 3, 0, 0, 10) := by decide +kernel
theorem c_282_185 : pg_cd 282 185 = (3, 2, 0, 5, 0) := by decide +kernel
theorem c_282_187 : pg_cd 282 187 = (6, 1, 0, 3, 0) := by decide +kernel
theorem c_282_188 : pg_cd 282 188 = (3, 2, 0, 7, 0) := by decide +kernel
theorem c_282_190 : pg_cd 282 190 = (6, 2, 0, 4, 0) := by decide +kernel
theorem c_282_192 : pg_cd 282 192 = (9, 3, 0, 5, 1) := by decide +kernel
theorem c_282_195 : pg_cd 282 195 = (38, 3, 0, 0, (-187)) := by decide +kernel
theorem c_282_198 : pg_cd 282 198 = (3, 1, 0, 3, 0) := by decide +kernel
theorem c_282_199 : pg_cd 282 199 = (36, 3, 0, 2, 14) := by decide +kernel
theorem c_282_202 : pg_cd 282 202 = (3, 2, 0, 4, 0) := by decide +kernel
theorem c_282_204 : pg_cd 282 204 = (5, 1, 0, 0, 0) := by decide +kernel
theorem c_282_205 : pg_cd 282 205 = (3, 1, 0, 1, 0) := by decide +kernel
theorem c_282_206 : pg_cd 282 206 = (1, 1, 0, 0, 3) := by decide +kernel
theorem c_282_207 : pg_cd 282 207 = (80, 198, 118, 0, 0) := by decide +kernel
theorem c_282_210 : pg_cd 282 210 = (37, 3, 0, 3, 4) := by decide +kernel
theorem c_282_213 : pg_cd 282 213 = (94, 0, 0, 0, 0) := by decide +kernel
theorem c_282_214 : pg_cd 282 214 = (1, 3, 0, 0, 3300) := by decide +kernel
theorem c_282_217 : pg_cd 282 217 = (1, 2, 0, 0, 16) := by decide +kernel
theorem c_282_219 : pg_cd 282 219 = (3, 1, 0, 1, 0) := by decide +kernel
theorem c_282_220 : pg_cd 282 220 = (12, 1, 0, 0, 0) := by decide +kernel
theorem c_282_221 : pg_cd 282 221 = (10, 1, 0, 0, 0) := by decide +kernel
theorem c_282_222 : pg_cd 282 222 = (6, 2, 0, 5, 0) := by decide +kernel
theorem c_282_224 : pg_cd 282 224 = (1, 3, 0, 0, 4372) := by decide +kernel
theorem c_282_227 : pg_cd 282 227 = (1, 2, 0, 0, 8) := by decide +kernel
theorem c_282_229 : pg_cd 282 229 = (3, 1, 0, 3, 0) := by decide +kernel
theorem c_282_230 : pg_cd 282 230 = (12, 1, 0, 0, 0) := by decide +kernel
theorem c_282_231 : pg_cd 282 231 = (10, 1, 0, 0, 0) := by decide +kernel
theorem c_282_232 : pg_cd 282 232 = (6, 2, 0, 6, 0) := by decide +kernel
theorem c_282_234 : pg_cd 282 234 = (5, 1, 0, 0, 0) := by decide +kernel
theorem c_282_235 : pg_cd 282 235 = (45, 12, 8, 0, 0) := by decide +kernel
theorem c_282_238 : pg_cd 282 238 = (3, 2, 0, 6, 0) := by decide +kernel
theorem c_282_240 : pg_cd 282 240 = (50, 1, 0, 0, 0) := by decide +kernel
theorem c_282_241 : pg_cd 282 241 = (5, 1, 0, 0, 0) := by decide +kernel
theorem c_282_242 : pg_cd 282 242 = (45, 12, 8, 0, 0) := by decide +kernel
theorem c_282_245 : pg_cd 282 245 = (3, 2, 0, 5, 0) := by decide +kernel
theorem c_282_247 : pg_cd 282 247 = (1, 2, 0, 0, 7) := by decide +kernel
theorem c_282_249 : pg_cd 282 249 = (10, 1, 0, 0, 0) := by decide +kernel
theorem c_282_250 : pg_cd 282 250 = (50, 1, 0, 0, 0) := by decide +kernel
theorem c_282_251 : pg_cd 282 251 = (37, 3, 0, 0, 51) := by decide +kernel
theorem c_282_254 : pg_cd 282 254 = (1, 1, 0, 0, 0) := by decide +kernel
theorem c_282_255 : pg_cd 282 255 = (6, 2, 0, 7, 0) := by decide +kernel
theorem c_282_257 : pg_cd 282 257 = (3, 2, 0, 7, 0) := by decide +kernel
theorem c_282_259 : pg_cd 282 259 = (5, 1, 0, 0, 0) := by decide +kernel
theorem c_282_260 : pg_cd 282 260 = (45, 12, 8, 0, 0) := by decide +kernel
theorem c_282_263 : pg_cd 282 263 = (1, 1, 0, 0, 4) := by decide +kernel
theorem c_282_264 : pg_cd 282 264 = (50, 1, 0, 0, 0) := by decide +kernel
theorem c_282_265 : pg_cd 282 265 = (37, 3, 0, 3, 37) := by decide +kernel
theorem c_282_268 : pg_cd 282 268 = (5, 1, 0, 0, 0) := by decide +kernel
theorem c_282_269 : pg_cd 282 269 = (3, 2, 0, 7, 0) := by decide +kernel
theorem c_282_271 : pg_cd 282 271 = (3, 1, 0, 1, 0) := by decide +kernel
theorem c_282_272 : pg_cd 282 272 = (80, 279, 346, 0, 0) := by decide +kernel
theorem c_282_275 : pg_cd 282 275 = (36, 3, 0, 0, 21) := by decide +kernel
theorem c_282_278 : pg_cd 282 278 = (5, 1, 0, 0, 0) := by decide +kernel
theorem c_282_279 : pg_cd 282 279 = (45, 12, 8, 0, 0) := by decide +kernel
theorem c_282_282 : pg_cd 282 282 = (1, 3, 0, 0, 3652) := by decide +kernel
theorem c_282_285 : pg_cd 282 285 = (1, 2, 0, 0, 12) := by decide +kernel
theorem c_282_287 : pg_cd 282 287 = (3, 2, 0, 7, 0) := by decide +kernel
theorem c_282_289 : pg_cd 282 289 = (12, 1, 0, 0, 0) := by decide +kernel
theorem c_282_290 : pg_cd 282 290 = (10, 1, 0, 0, 0) := by decide +kernel
theorem c_282_291 : pg_cd 282 291 = (1, 2, 0, 0, 7) := by decide +kernel
theorem c_282_293 : pg_cd 282 293 = (10, 1, 0, 0, 0) := by decide +kernel
theorem c_282_294 : pg_cd 282 294 = (1, 1, 0, 0, 0) := by decide +kernel
theorem c_282_295 : pg_cd 282 295 = (54, 1, 0, 0, 0) := by decide +kernel
theorem c_282_296 : pg_cd 282 296 = (9, 3, 0, 7, 1) := by decide +kernel
theorem c_282_299 : pg_cd 282 299 = (38, 3, 0, 0, (-42)) := by decide +kernel
theorem c_282_302 : pg_cd 282 302 = (5, 1, 0, 0, 0) := by decide +kernel
theorem c_282_303 : pg_cd 282 303 = (45, 12, 8, 0, 0) := by decide +kernel
theorem c_282_306 : pg_cd 282 306 = (3, 2, 0, 5, 0) := by decide +kernel
theorem c_282_308 : pg_cd 282 308 = (1, 2, 0, 0, 7) := by decide +kernel
theorem c_282_310 : pg_cd 282 310 = (10, 1, 0, 0, 0) := by decide +kernel
theorem c_282_311 : pg_cd 282 311 = (5, 1, 0, 0, 0) := by decide +kernel
theorem c_282_312 : pg_cd 282 312 = (45, 12, 8, 0, 0) := by decide +kernel
theorem c_282_315 : pg_cd 282 315 = (3, 2, 0, 6, 0) := by decide +kernel
theorem c_282_317 : pg_cd 282 317 = (50, 1, 0, 0, 0) := by decide +kernel
theorem c_282_318 : pg_cd 282 318 = (54, 1, 0, 0, 0) := by decide +kernel
theorem c_282_319 : pg_cd 282 319 = (5, 1, 0, 0, 0) := by decide +kernel
theorem c_282_320 : pg_cd 282 320 = (3, 1, 0, 1, 0) := by decide +kernel
theorem c_282_321 : pg_cd 282 321 = (5, 1, 0, 0, 0) := by decide +kernel
theorem c_282_322 : pg_cd 282 322 = (45, 12, 8, 0, 0) := by decide +kernel
theorem c_282_325 : pg_cd 282 325 = (3, 2, 0, 6, 0) := by decide +kernel
theorem c_282_327 : pg_cd 282 327 = (50, 1, 0, 0, 0) := by decide +kernel
theorem c_282_328 : pg_cd 282 328 = (80, 281, 358, 0, 0) := by decide +kernel
theorem c_282_331 : pg_cd 282 331 = (6, 2, 0, 7, 0) := by decide +kernel
theorem c_282_333 : pg_cd 282 333 = (3, 2, 0, 7, 0) := by decide +kernel
theorem c_282_335 : pg_cd 282 335 = (36, 3, 0, 1, 4) := by decide +kernel
theorem c_282_338 : pg_cd 282 338 = (94, 0, 0, 0, 0) := by decide +kernel
theorem c_282_339 : pg_cd 282 339 = (5, 1, 0, 0, 0) := by decide +kernel
theorem c_282_340 : pg_cd 282 340 = (45, 12, 8, 0, 0) := by decide +kernel
theorem c_282_343 : pg_cd 282 343 = (3, 2, 0, 6, 0) := by decide +kernel
theorem c_282_345 : pg_cd 282 345 = (1, 1, 0, 0, 1) := by decide +kernel
theorem c_282_346 : pg_cd 282 346 = (10, 1, 0, 0, 0) := by decide +kernel
theorem c_282_347 : pg_cd 282 347 = (50, 1, 0, 0, 0) := by decide +kernel
theorem c_282_348 : pg_cd 282 348 = (5, 1, 0, 0, 0) := by decide +kernel
theorem c_282_349 : pg_cd 282 349 = (45, 12, 8, 0, 0) := by decide +kernel
theorem c_282_352 : pg_cd 282 352 = (3, 2, 0, 6, 0) := by decide +kernel
theorem c_282_354 : pg_cd 282 354 = (1, 1, 0, 0, 5) := by decide +kernel
theorem c_282_355 : pg_cd 282 355 = (10, 1, 0, 0, 0) := by decide +kernel
theorem c_282_356 : pg_cd 282 356 = (50, 1, 0, 0, 0) := by decide +kernel
theorem c_282_357 : pg_cd 282 357 = (11, 1, 0, 0, 0) := by decide +kernel
theorem c_282_358 : pg_cd 282 358 = (6, 2, 0, 8, 0) := by decide +kernel
theorem c_282_360 : pg_cd 282 360 = (5, 1, 0, 0, 0) := by decide +kernel
theorem c_282_361 : pg_cd 282 361 = (45, 12, 8, 0, 0) := by decide +kernel
theorem c_282_364 : pg_cd 282 364 = (3, 2, 0, 5, 0) := by decide +kernel
theorem c_282_366 : pg_cd 282 366 = (1, 2, 0, 0, 11) := by decide +kernel
theorem c_282_368 : pg_cd 282 368 = (10, 1, 0, 0, 0) := by decide +kernel
theorem c_282_369 : pg_cd 282 369 = (3, 2, 0, 7, 0) := by decide +kernel
theorem c_282_371 : pg_cd 282 371 = (3, 2, 0, 8, 0) := by decide +kernel
theorem c_282_373 : pg_cd 282 373 = (37, 3, 0, 3, 8) := by decide +kernel
theorem c_282_376 : pg_cd 282 376 = (3, 2, 0, 7, 0) := by decide +kernel
theorem c_282_378 : pg_cd 282 378 = (38, 3, 0, 0, 5) := by decide +kernel
theorem c_282_381 : pg_cd 282 381 = (3, 2, 0, 8, 0) := by decide +kernel
theorem c_282_383 : pg_cd 282 383 = (54, 1, 0, 0, 0) := by decide +kernel
theorem c_282_384 : pg_cd 282 384 = (5, 1, 0, 0, 0) := by decide +kernel
theorem c_282_385 : pg_cd 282 385 = (45, 12, 8, 0, 0) := by decide +kernel
theorem c_282_388 : pg_cd 282 388 = (3, 2, 0, 6, 0) := by decide +kernel
theorem c_282_390 : pg_cd 282 390 = (1, 1, 0, 0, 5) := by decide +kernel
theorem c_282_391 : pg_cd 282 391 = (10, 1, 0, 0, 0) := by decide +kernel
theorem c_282_392 : pg_cd 282 392 = (34, 1, 0, 0, 0) := by decide +kernel
theorem c_282_393 : pg_cd 282 393 = (50, 1, 0, 0, 0) := by decide +kernel
theorem c_282_394 : pg_cd 282 394 = (5, 1, 0, 0, 0) := by decide +kernel
theorem c_282_395 : pg_cd 282 395 = (45, 12, 8, 0, 0) := by decide +kernel
theorem c_282_398 : pg_cd 282 398 = (3, 2, 0, 5, 0) := by decide +kernel
theorem c_282_400 : pg_cd 282 400 = (1, 2, 0, 0, 11) := by decide +kernel
theorem c_282_402 : pg_cd 282 402 = (10, 1, 0, 0, 0) := by decide +kernel
theorem c_282_403 : pg_cd 282 403 = (50, 1, 0, 0, 0) := by decide +kernel
theorem c_282_404 : pg_cd 282 404 = (10, 1, 0, 0, 0) := by decide +kernel
theorem c_282_405 : pg_cd 282 405 = (54, 1, 0, 0, 0) := by decide +kernel
theorem c_282_406 : pg_cd 282 406 = (5, 1, 0, 0, 0) := by decide +kernel
theorem c_282_407 : pg_cd 282 407 = (45, 12, 8, 0, 0) := by decide +kernel
theorem c_282_410 : pg_cd 282 410 = (3, 2, 0, 5, 0) := by decide +kernel
theorem c_282_412 : pg_cd 282 412 = (1, 2, 0, 0, 9) := by decide +kernel
theorem c_282_414 : pg_cd 282 414 = (10, 1, 0, 0, 0) := by decide +kernel
theorem c_282_415 : pg_cd 282 415 = (3, 1, 0, 3, 0) := by decide +kernel
theorem c_282_416 : pg_cd 282 416 = (54, 1, 0, 0, 0) := by decide +kernel
theorem c_282_417 : pg_cd 282 417 = (5, 1, 0, 0, 0) := by decide +kernel
theorem c_282_418 : pg_cd 282 418 = (45, 12, 8, 0, 0) := by decide +kernel
theorem c_282_421 : pg_cd 282 421 = (3, 2, 0, 5, 0) := by decide +kernel
theorem c_282_423 : pg_cd 282 423 = (1, 2, 0, 0, 8) := by decide +kernel
theorem c_282_425 : pg_cd 282 425 = (10, 1, 0, 0, 0) := by decide +kernel
theorem c_282_426 : pg_cd 282 426 = (1, 1, 0, 0, 2) := by decide +kernel
theorem c_282_427 : pg_cd 282 427 = (5, 1, 0, 0, 0) := by decide +kernel
theorem c_282_428 : pg_cd 282 428 = (45, 12, 8, 0, 0) := by decide +kernel
theorem c_282_431 : pg_cd 282 431 = (3, 2, 0, 5, 0) := by decide +kernel
theorem c_282_433 : pg_cd 282 433 = (1, 2, 0, 0, 11) := by decide +kernel
theorem c_282_435 : pg_cd 282 435 = (10, 1, 0, 0, 0) := by decide +kernel
theorem c_282_436 : pg_cd 282 436 = (50, 1, 0, 0, 0) := by decide +kernel
theorem c_282_437 : pg_cd 282 437 = (12, 1, 0, 0, 0) := by decide +kernel
theorem c_282_438 : pg_cd 282 438 = (3, 2, 0, 7, 0) := by decide +kernel
theorem c_282_440 : pg_cd 282 440 = (37, 3, 0, 2, 21) := by decide +kernel
theorem c_282_443 : pg_cd 282 443 = (5, 1, 0, 0, 0) := by decide +kernel
theorem c_282_444 : pg_cd 282 444 = (43, 12, 355, 29, 0) := by decide +kernel
theorem c_282_447 : pg_cd 282 447 = (5, 1, 0, 0, 0) := by decide +kernel
theorem c_282_448 : pg_cd 282 448 = (45, 12, 8, 0, 0) := by decide +kernel
theorem c_282_451 : pg_cd 282 451 = (1, 2, 0, 0, 12) := by decide +kernel
theorem c_282_453 : pg_cd 282 453 = (50, 1, 0, 0, 0) := by decide +kernel
theorem c_282_454 : pg_cd 282 454 = (37, 3, 0, 4, 7) := by decide +kernel
theorem c_282_457 : pg_cd 282 457 = (1, 1, 0, 0, 2) := by decide +kernel
theorem c_282_458 : pg_cd 282 458 = (38, 3, 0, 0, 4) := by decide +kernel
theorem c_282_461 : pg_cd 282 461 = (1, 1, 0, 0, 1) := by decide +kernel
theorem c_282_462 : pg_cd 282 462 = (54, 1, 0, 0, 0) := by decide +kernel
theorem c_282_463 : pg_cd 282 463 = (94, 0, 0, 0, 0) := by decide +kernel
theorem mi_282 : pg_mc 282 = 12 ∧ pg_na 282 = 2 ∧ pg_mx 282 = 9 := by decide +kernel
set_option maxRecDepth 20000 in
theorem u_282_0 {d : Nat} {S : zS} {σ τ : zI} {Q : zQ} {x1 : Int} {x2 : Int} (t : wi (d + 10) 282 8 [.ref 83, .int (wI x1), .int (wI x2), .int (wI (-1)), .int (wI 0), .int (wI 0), .retAddr 0, .retAddr 0, .retAddr 0] [] S σ τ Q) : wi (d + 10) 282 0 [.ref 83, .int (wI x1), .int (wI x2), .retAddr 0, .retAddr 0, .retAddr 0, .retAddr 0, .retAddr 0, .retAddr 0] [] S σ τ Q := by
  refine i1 c_282_0 (i6 (L' := [.ref 83, .int (wI x1), .int (wI x2), .int (wI (-1)), .retAddr 0, .retAddr 0, .retAddr 0, .retAddr 0, .retAddr 0]) c_282_1 rfl (i1 c_282_2 (i6 (L' := [.ref 83, .int (wI x1), .int (wI x2), .int (wI (-1)), .int (wI 0), .retAddr 0, .retAddr 0, .retAddr 0, .retAddr 0]) c_282_3 rfl (i1 c_282_5 (i6 (L' := [.ref 83, .int (wI x1), .int (wI x2), .int (wI (-1)), .int (wI 0), .int (wI 0), .retAddr 0, .retAddr 0, .retAddr 0]) c_282_6 rfl t)))))
set_option maxRecDepth 20000 in
theorem u_282_8 {d : Nat} {S : zS} {σ τ : zI} {Q : zQ} {x1 : Int} {x2 : Int} {x3 : Int} {x4 : Int} {x5 : Int} {y6 : Value} {y7 : Value} {y8 : Value} (t : (rg x5) ∧ if (σ 84 7) ≤ x5 then ((rg x3) ∧ if x3 < 0 then (wi (d + 10) 282 213 [.ref 83, .int (wI x1), .int (wI x2), .int (wI x3), .int (wI x4), .int (wI x5), y6, y7, y8] [] S σ τ Q) else ((0 ≤ 3300 + 16 * x1 + 3 ∧ 3300 + 16 * x1 + 3 < 112300) ∧ (rg x4) ∧ if (σ 84 (3300 + 16 * x1 + 3)) ≤ x4 then ((0 ≤ 4372 + (8 * x3) ∧ 4372 + (8 * x3) < 112300) ∧ (0 ≤ (3300 + (16 * x1)) + 7 ∧ (3300 + (16 * x1)) + 7 < 112300) ∧ if (σ 84 (4372 + (8 * x3))) = (σ 84 ((3300 + (16 * x1)) + 7)) then (wi (d + 10) 282 302 [.ref 83, .int (wI x1), .int (wI x2), .int (wI x3), .int (wI x4), .int (wI (3300 + (16 * x1))), .int (wI (4372 + (8 * x3))), y7, y8] [] S σ τ Q) else (wi (d + 10) 282 257 [.ref 83, .int (wI x1), .int (wI x2), .int (wI x3), .int (wI x4), .int (wI (3300 + (16 * x1))), .int (wI (4372 + (8 * x3))), .int (wI 0), y8] [] S σ τ Q)) else (wi (d + 10) 282 213 [.ref 83, .int (wI x1), .int (wI x2), .int (wI x3), .int (wI x4), .int (wI x5), y6, y7, y8] [] S σ τ Q))) else ((0 ≤ (4372 + (8 * x5)) + 3 ∧ (4372 + (8 * x5)) + 3 < 112300) ∧ (0 ≤ (4372 + (8 * x5)) + 4 ∧ (4372 + (8 * x5)) + 4 < 112300) ∧ (rg x2) ∧ if (σ 84 ((4372 + (8 * x5)) + 3)) ≤ x2 ∧ x2 ≤ (σ 84 ((4372 + (8 * x5)) + 4)) then ((0 ≤ (4372 + (8 * x5)) + 1 ∧ (4372 + (8 * x5)) + 1 < 112300) ∧ (0 ≤ (4372 + (8 * x5)) + 5 ∧ (4372 + (8 * x5)) + 5 < 112300) ∧ (rg ((σ 84 ((4372 + (8 * x5)) + 1)) - (σ 84 ((4372 + (8 * x5)) + 5)))) ∧ if (0 : Int) < ((σ 84 ((4372 + (8 * x5)) + 1)) - (σ 84 ((4372 + (8 * x5)) + 5))) then ((0 ≤ (4372 + (8 * x5)) + 2 ∧ (4372 + (8 * x5)) + 2 < 112300) ∧ (0 ≤ 4372 + (8 * x5) ∧ 4372 + (8 * x5) < 112300) ∧ (Jl (σ 84)) ∧ (jv_T (σ 84)) ∧ (jv_E (σ 84)) ∧ (0 ≤ (σ 84 (4372 + (8 * x5))) ∧ (σ 84 (4372 + (8 * x5))) ≤ 5) ∧ (rg x1) ∧ ∀ (σ127 : zI) (τ128 : zI), Fr8 σ σ127 τ τ128 → σ127 83 24 = r_fc (σ 84) 1 x1 x2 x2 → Wy σ127 (σ 84) (σ 84 (4372 + (8 * x5))) x1 x2 x2 → (0 ≤ 20 + 8 * (σ127 84 (4372 + (8 * x5))) + 3 ∧ 20 + 8 * (σ127 84 (4372 + (8 * x5))) + 3 < 112300) ∧ (rg ((σ127 84 (20 + 8 * (σ127 84 (4372 + (8 * x5))) + 3)) * (σ127 83 29))) ∧ (rg x3) ∧ if x3 < 0 then (wi (d + 10) 282 185 [.ref 83, .int (wI x1), .int (wI x2), .int (wI x3), .int (wI x4), .int (wI x5), .int (wI (4372 + (8 * x5))), .int (wI ((((σ 84 ((4372 + (8 * x5)) + 2)) - (σ 84 11)) - (r_pay (σ 84) (σ 84 (4372 + (8 * x5))) x1 x2 x2)) - (Int.tdiv ((σ127 84 (20 + 8 * (σ127 84 (4372 + (8 * x5))) + 3)) * (σ127 83 29)) 400))), y8] [] S σ127 τ128 Q) else ((rg ((((σ 84 ((4372 + (8 * x5)) + 2)) - (σ 84 11)) - (r_pay (σ 84) (σ 84 (4372 + (8 * x5))) x1 x2 x2)) - (Int.tdiv ((σ127 84 (20 + 8 * (σ127 84 (4372 + (8 * x5))) + 3)) * (σ127 83 29)) 400))) ∧ (rg x4) ∧ if ((((σ 84 ((4372 + (8 * x5)) + 2)) - (σ 84 11)) - (r_pay (σ 84) (σ 84 (4372 + (8 * x5))) x1 x2 x2)) - (Int.tdiv ((σ127 84 (20 + 8 * (σ127 84 (4372 + (8 * x5))) + 3)) * (σ127 83 29)) 400)) < x4 then (wi (d + 10) 282 192 [.ref 83, .int (wI x1), .int (wI x2), .int (wI x3), .int (wI x4), .int (wI x5), .int (wI (4372 + (8 * x5))), .int (wI ((((σ 84 ((4372 + (8 * x5)) + 2)) - (σ 84 11)) - (r_pay (σ 84) (σ 84 (4372 + (8 * x5))) x1 x2 x2)) - (Int.tdiv ((σ127 84 (20 + 8 * (σ127 84 (4372 + (8 * x5))) + 3)) * (σ127 83 29)) 400))), y8] [] S σ127 τ128 Q) else (if ((((σ 84 ((4372 + (8 * x5)) + 2)) - (σ 84 11)) - (r_pay (σ 84) (σ 84 (4372 + (8 * x5))) x1 x2 x2)) - (Int.tdiv ((σ127 84 (20 + 8 * (σ127 84 (4372 + (8 * x5))) + 3)) * (σ127 83 29)) 400)) = x4 then ((0 ≤ (4372 + (8 * x3)) + 4 ∧ (4372 + (8 * x3)) + 4 < 112300) ∧ if (σ127 84 ((4372 + (8 * x5)) + 4)) < (σ127 84 ((4372 + (8 * x3)) + 4)) then (wi (d + 10) 282 185 [.ref 83, .int (wI x1), .int (wI x2), .int (wI x3), .int (wI x4), .int (wI x5), .int (wI (4372 + (8 * x5))), .int (wI ((((σ 84 ((4372 + (8 * x5)) + 2)) - (σ 84 11)) - (r_pay (σ 84) (σ 84 (4372 + (8 * x5))) x1 x2 x2)) - (Int.tdiv ((σ127 84 (20 + 8 * (σ127 84 (4372 + (8 * x5))) + 3)) * (σ127 83 29)) 400))), y8] [] S σ127 τ128 Q) else (wi (d + 10) 282 192 [.ref 83, .int (wI x1), .int (wI x2), .int (wI x3), .int (wI x4), .int (wI x5), .int (wI (4372 + (8 * x5))), .int (wI ((((σ 84 ((4372 + (8 * x5)) + 2)) - (σ 84 11)) - (r_pay (σ 84) (σ 84 (4372 + (8 * x5))) x1 x2 x2)) - (Int.tdiv ((σ127 84 (20 + 8 * (σ127 84 (4372 + (8 * x5))) + 3)) * (σ127 83 29)) 400))), y8] [] S σ127 τ128 Q)) else (wi (d + 10) 282 185 [.ref 83, .int (wI x1), .int (wI x2), .int (wI x3), .int (wI x4), .int (wI x5), .int (wI (4372 + (8 * x5))), .int (wI ((((σ 84 ((4372 + (8 * x5)) + 2)) - (σ 84 11)) - (r_pay (σ 84) (σ 84 (4372 + (8 * x5))) x1 x2 x2)) - (Int.tdiv ((σ127 84 (20 + 8 * (σ127 84 (4372 + (8 * x5))) + 3)) * (σ127 83 29)) 400))), y8] [] S σ127 τ128 Q)))) else (wi (d + 10) 282 192 [.ref 83, .int (wI x1), .int (wI x2), .int (wI x3), .int (wI x4), .int (wI x5), .int (wI (4372 + (8 * x5))), y7, y8] [] S σ τ Q)) else (wi (d + 10) 282 192 [.ref 83, .int (wI x1), .int (wI x2), .int (wI x3), .int (wI x4), .int (wI x5), .int (wI (4372 + (8 * x5))), y7, y8] [] S σ τ Q))) : wi (d + 10) 282 8 [.ref 83, .int (wI x1), .int (wI x2), .int (wI x3), .int (wI x4), .int (wI x5), y6, y7, y8] [] S σ τ Q := by
  refine i3 c_282_8 rfl (i5 c_282_10 rfl (i45 c_282_11 (lo (c := 83) (kd := 112) (n := 0) rfl (by decide)) (lro (c := 83) (k := 0) (j := 84) (by decide)) (i1 c_282_14 (wi_ok (fun K1 => ?_)))))
  obtain ⟨r2, t⟩ := t
  refine i50 (v := σ 84 7) c_282_16 (lo (c := 84) (kd := 0) (n := 112300) rfl (by decide)) (by decide) (by decide) rfl ?_
  refine i37 c_282_17 r2 (rge_ K1 rfl) rfl (fun hc => ?_) (fun hc => ?_)
  · have t := iT t hc
    have ha3 : (σ 84 7) ≤ x5 := hc
    obtain ⟨r4, t⟩ := t
    refine i3 c_282_198 rfl ?_
    refine i36 c_282_199 r4 rfl (fun hc => ?_) (fun hc => ?_)
    · have t := iT t hc
      have ha5 : x3 < 0 := hc
      exact t
    · have t := iF t hc
      have ha5 : ¬ (x3 < 0) := hc
      obtain ⟨p6, t⟩ := t
      refine i3 c_282_202 rfl (i5 c_282_204 rfl (i3 c_282_205 rfl (i1 c_282_206 ?_)))
      refine i80 (As := [.int (wI x1), .int (wI 3)]) (rest := [.int (wI x4)]) c_282_207 mi_198 rfl rfl (Nat.le_of_ble_eq_true rfl) (Nat.le_of_ble_eq_true rfl) (lo (c := 83) (kd := 112) (n := 0) rfl (by decide)) (q_198 p6 ?_)
      show wi (d + 10) 282 210 [.ref 83, .int (wI x1), .int (wI x2), .int (wI x3), .int (wI x4), .int (wI x5), y6, y7, y8] [.int (wI (σ 84 (3300 + 16 * x1 + 3))), .int (wI x4)] S σ τ Q
      obtain ⟨r7, t⟩ := t
      refine i37 c_282_210 r7 (rge_ K1 rfl) rfl (fun hc => ?_) (fun hc => ?_)
      · have t := iT t hc
        have ha8 : (σ 84 (3300 + 16 * x1 + 3)) ≤ x4 := hc
        obtain ⟨r9, t⟩ := t
        obtain ⟨r10, t⟩ := t
        refine i1 c_282_214 (i1 c_282_217 (i3 c_282_219 rfl (i12 c_282_220 (i10 c_282_221 (i6 (L' := [.ref 83, .int (wI x1), .int (wI x2), .int (wI x3), .int (wI x4), .int (wI (3300 + (16 * x1))), y6, y7, y8]) c_282_222 rfl (i1 c_282_224 (i1 c_282_227 (i3 c_282_229 rfl (i12 c_282_230 (i10 c_282_231 (i6 (L' := [.ref 83, .int (wI x1), .int (wI x2), .int (wI x3), .int (wI x4), .int (wI (3300 + (16 * x1))), .int (wI (4372 + (8 * x3))), y7, y8]) c_282_232 rfl (i5 c_282_234 rfl (i45 c_282_235 (lo (c := 83) (kd := 112) (n := 0) rfl (by decide)) (lro (c := 83) (k := 0) (j := 84) (by decide)) (i3 c_282_238 rfl (i50 (v := σ 84 (4372 + (8 * x3))) c_282_240 (lo (c := 84) (kd := 0) (n := 112300) rfl (by decide)) (by decide) r9 rfl (i5 c_282_241 rfl (i45 c_282_242 (lo (c := 83) (kd := 112) (n := 0) rfl (by decide)) (lro (c := 83) (k := 0) (j := 84) (by decide)) (i3 c_282_245 rfl (i1 c_282_247 (i10 c_282_249 (i50 (v := σ 84 ((3300 + (16 * x1)) + 7)) c_282_250 (lo (c := 84) (kd := 0) (n := 112300) rfl (by decide)) (by decide) r10 rfl ?_)))))))))))))))))))))
        refine i37 c_282_251 (rge_ K1 rfl) (rge_ K1 rfl) rfl (fun hc => ?_) (fun hc => ?_)
        · have t := iT t hc
          have ha11 : (σ 84 (4372 + (8 * x3))) = (σ 84 ((3300 + (16 * x1)) + 7)) := hc
          exact t
        · have t := iF t hc
          have ha11 : ¬ ((σ 84 (4372 + (8 * x3))) = (σ 84 ((3300 + (16 * x1)) + 7))) := hc
          refine i1 c_282_254 (i6 (L' := [.ref 83, .int (wI x1), .int (wI x2), .int (wI x3), .int (wI x4), .int (wI (3300 + (16 * x1))), .int (wI (4372 + (8 * x3))), .int (wI 0), y8]) c_282_255 rfl t)
      · have t := iF t hc
        have ha8 : ¬ ((σ 84 (3300 + 16 * x1 + 3)) ≤ x4) := hc
        exact t
  · have t := iF t hc
    have ha3 : ¬ ((σ 84 7) ≤ x5) := hc
    obtain ⟨r12, t⟩ := t
    obtain ⟨r13, t⟩ := t
    obtain ⟨r14, t⟩ := t
    refine i1 c_282_20 (i1 c_282_23 (i3 c_282_25 rfl (i12 c_282_27 (i10 c_282_28 (i6 (L' := [.ref 83, .int (wI x1), .int (wI x2), .int (wI x3), .int (wI x4), .int (wI x5), .int (wI (4372 + (8 * x5))), y7, y8]) c_282_29 rfl (i3 c_282_31 rfl (i5 c_282_32 rfl (i45 c_282_33 (lo (c := 83) (kd := 112) (n := 0) rfl (by decide)) (lro (c := 83) (k := 0) (j := 84) (by decide)) (i3 c_282_36 rfl (i1 c_282_38 (i10 c_282_39 (i50 (v := σ 84 ((4372 + (8 * x5)) + 3)) c_282_40 (lo (c := 84) (kd := 0) (n := 112300) rfl (by decide)) (by decide) r12 rfl (i5 c_282_41 rfl (i45 c_282_42 (lo (c := 83) (kd := 112) (n := 0) rfl (by decide)) (lro (c := 83) (k := 0) (j := 84) (by decide)) (i3 c_282_45 rfl (i1 c_282_47 (i10 c_282_48 (i50 (v := σ 84 ((4372 + (8 * x5)) + 4)) c_282_49 (lo (c := 84) (kd := 0) (n := 112300) rfl (by decide)) (by decide) r13 rfl ?_))))))))))))))))))
    refine i81 (As := [.int (wI x2), .int (wI (σ 84 ((4372 + (8 * x5)) + 3))), .int (wI (σ 84 ((4372 + (8 * x5)) + 4)))]) (rest := []) c_282_50 mi_196 rfl rfl (Nat.le_of_ble_eq_true rfl) (Nat.le_of_ble_eq_true rfl) (q_196 r14 (rge_ K1 rfl) (rge_ K1 rfl) ?_)
    show wi (d + 10) 282 53 [.ref 83, .int (wI x1), .int (wI x2), .int (wI x3), .int (wI x4), .int (wI x5), .int (wI (4372 + (8 * x5))), y7, y8] [.int (wI (if (σ 84 ((4372 + (8 * x5)) + 3)) ≤ x2 ∧ x2 ≤ (σ 84 ((4372 + (8 * x5)) + 4)) then 1 else 0))] S σ τ Q
    refine i36e c_282_53 rfl (fun hc => ?_) (fun hc => ?_)
    · have t := iT t hc
      have ha15 : (σ 84 ((4372 + (8 * x5)) + 3)) ≤ x2 ∧ x2 ≤ (σ 84 ((4372 + (8 * x5)) + 4)) := hc
      obtain ⟨r16, t⟩ := t
      obtain ⟨r17, t⟩ := t
      obtain ⟨r18, t⟩ := t
      refine i5 c_282_56 rfl (i45 c_282_57 (lo (c := 83) (kd := 112) (n := 0) rfl (by decide)) (lro (c := 83) (k := 0) (j := 84) (by decide)) (i3 c_282_60 rfl (i1 c_282_62 (i10 c_282_63 (i50 (v := σ 84 ((4372 + (8 * x5)) + 1)) c_282_64 (lo (c := 84) (kd := 0) (n := 112300) rfl (by decide)) (by decide) r16 rfl (i5 c_282_65 rfl (i45 c_282_66 (lo (c := 83) (kd := 112) (n := 0) rfl (by decide)) (lro (c := 83) (k := 0) (j := 84) (by decide)) (i3 c_282_69 rfl (i1 c_282_71 (i10 c_282_72 (i50 (v := σ 84 ((4372 + (8 * x5)) + 5)) c_282_73 (lo (c := 84) (kd := 0) (n := 112300) rfl (by decide)) (by decide) r17 rfl (i11 c_282_74 ?_))))))))))))
      refine i36 c_282_75 r18 rfl (fun hc => ?_) (fun hc => ?_)
      · have t := iT t hc
        have ha19 : (0 : Int) < ((σ 84 ((4372 + (8 * x5)) + 1)) - (σ 84 ((4372 + (8 * x5)) + 5))) := hc
        obtain ⟨r20, t⟩ := t
        obtain ⟨r21, t⟩ := t
        obtain ⟨p22, t⟩ := t
        obtain ⟨p23, t⟩ := t
        obtain ⟨p24, t⟩ := t
        obtain ⟨p25, t⟩ := t
        obtain ⟨r26, t⟩ := t
        refine i5 c_282_81 rfl (i45 c_282_82 (lo (c := 83) (kd := 112) (n := 0) rfl (by decide)) (lro (c := 83) (k := 0) (j := 84) (by decide)) (i3 c_282_85 rfl (i1 c_282_87 (i10 c_282_88 (i50 (v := σ 84 ((4372 + (8 * x5)) + 2)) c_282_89 (lo (c := 84) (kd := 0) (n := 112300) rfl (by decide)) (by decide) r20 rfl (i5 c_282_90 rfl (i45 c_282_91 (lo (c := 83) (kd := 112) (n := 0) rfl (by decide)) (lro (c := 83) (k := 0) (j := 84) (by decide)) (i1 c_282_94 (i50 (v := σ 84 11) c_282_96 (lo (c := 84) (kd := 0) (n := 112300) rfl (by decide)) (by decide) (by decide) rfl (i11 c_282_97 (i5 c_282_98 rfl (i5 c_282_99 rfl (i45 c_282_100 (lo (c := 83) (kd := 112) (n := 0) rfl (by decide)) (lro (c := 83) (k := 0) (j := 84) (by decide)) (i3 c_282_103 rfl (i50 (v := σ 84 (4372 + (8 * x5))) c_282_105 (lo (c := 84) (kd := 0) (n := 112300) rfl (by decide)) (by decide) r21 rfl (i3 c_282_106 rfl (i3 c_282_107 rfl (i3 c_282_108 rfl ?_))))))))))))))))))
        refine i80 (As := [.int (wI (σ 84 (4372 + (8 * x5)))), .int (wI x1), .int (wI x2), .int (wI x2)]) (rest := [.int (wI ((σ 84 ((4372 + (8 * x5)) + 2)) - (σ 84 11)))]) c_282_109 mi_271 rfl rfl (Nat.le_of_ble_eq_true rfl) (Nat.le_of_ble_eq_true rfl) (lo (c := 83) (kd := 112) (n := 0) rfl (by decide)) (q_271 p22 p23 p24 p25 r26 r14 r14 (fun σ127 τ128 q29 q30 q31 => ?_))
        have t := t σ127 τ128 q29 q30 q31
        show wi (d + 10) 282 112 [.ref 83, .int (wI x1), .int (wI x2), .int (wI x3), .int (wI x4), .int (wI x5), .int (wI (4372 + (8 * x5))), y7, y8] [.int (wI (r_pay (σ 84) (σ 84 (4372 + (8 * x5))) x1 x2 x2)), .int (wI ((σ 84 ((4372 + (8 * x5)) + 2)) - (σ 84 11)))] S σ127 τ128 Q
        refine i11 c_282_112 (i5 c_282_113 rfl (i5 c_282_114 rfl (i45 c_282_115 (lo (c := 83) (kd := 112) (n := 0) rfl (by decide)) (lro (c := 83) (k := 0) (j := 84) (by decide)) (i3 c_282_118 rfl (wi_ok (fun K32 => ?_))))))
        obtain ⟨p33, t⟩ := t
        refine i50 (v := σ127 84 (4372 + (8 * x5))) c_282_120 (lo (c := 84) (kd := 0) (n := 112300) rfl (by decide)) (by decide) r21 rfl (i1 c_282_121 ?_)
        refine i80 (As := [.int (wI (σ127 84 (4372 + (8 * x5)))), .int (wI 3)]) (rest := [.int (wI (((σ 84 ((4372 + (8 * x5)) + 2)) - (σ 84 11)) - (r_pay (σ 84) (σ 84 (4372 + (8 * x5))) x1 x2 x2)))]) c_282_122 mi_197 rfl rfl (Nat.le_of_ble_eq_true rfl) (Nat.le_of_ble_eq_true rfl) (lo (c := 83) (kd := 112) (n := 0) rfl (by decide)) (q_197 p33 ?_)
        show wi (d + 10) 282 125 [.ref 83, .int (wI x1), .int (wI x2), .int (wI x3), .int (wI x4), .int (wI x5), .int (wI (4372 + (8 * x5))), y7, y8] [.int (wI (σ127 84 (20 + 8 * (σ127 84 (4372 + (8 * x5))) + 3))), .int (wI (((σ 84 ((4372 + (8 * x5)) + 2)) - (σ 84 11)) - (r_pay (σ 84) (σ 84 (4372 + (8 * x5))) x1 x2 x2)))] S σ127 τ128 Q
        obtain ⟨r34, t⟩ := t
        obtain ⟨r35, t⟩ := t
        refine i5 c_282_125 rfl (i43 (v := σ127 83 29) c_282_126 (lo (c := 83) (kd := 112) (n := 0) rfl (by decide)) rfl (i12 c_282_129 (i1 c_282_130 (i16 c_282_133 r34 (by decide) (by decide) (i11 c_282_134 (i6 (L' := [.ref 83, .int (wI x1), .int (wI x2), .int (wI x3), .int (wI x4), .int (wI x5), .int (wI (4372 + (8 * x5))), .int (wI ((((σ 84 ((4372 + (8 * x5)) + 2)) - (σ 84 11)) - (r_pay (σ 84) (σ 84 (4372 + (8 * x5))) x1 x2 x2)) - (Int.tdiv ((σ127 84 (20 + 8 * (σ127 84 (4372 + (8 * x5))) + 3)) * (σ127 83 29)) 400))), y8]) c_282_135 rfl (i3 c_282_137 rfl ?_)))))))
        refine i36 c_282_138 r35 rfl (fun hc => ?_) (fun hc => ?_)
        · have t := iT t hc
          have ha36 : x3 < 0 := hc
          exact t
        · have t := iF t hc
          have ha36 : ¬ (x3 < 0) := hc
          obtain ⟨r37, t⟩ := t
          obtain ⟨r38, t⟩ := t
          refine i3 c_282_141 rfl (i3 c_282_143 rfl ?_)
          refine i37 c_282_145 r37 r38 rfl (fun hc => ?_) (fun hc => ?_)
          · have t := iT t hc
            have ha39 : ((((σ 84 ((4372 + (8 * x5)) + 2)) - (σ 84 11)) - (r_pay (σ 84) (σ 84 (4372 + (8 * x5))) x1 x2 x2)) - (Int.tdiv ((σ127 84 (20 + 8 * (σ127 84 (4372 + (8 * x5))) + 3)) * (σ127 83 29)) 400)) < x4 := hc
            exact t
          · have t := iF t hc
            have ha39 : ¬ (((((σ 84 ((4372 + (8 * x5)) + 2)) - (σ 84 11)) - (r_pay (σ 84) (σ 84 (4372 + (8 * x5))) x1 x2 x2)) - (Int.tdiv ((σ127 84 (20 + 8 * (σ127 84 (4372 + (8 * x5))) + 3)) * (σ127 83 29)) 400)) < x4) := hc
            refine i3 c_282_148 rfl (i3 c_282_150 rfl ?_)
            refine i37 c_282_152 r37 r38 rfl (fun hc => ?_) (fun hc => ?_)
            · have t := iF t hc
              have ha40 : ¬ (((((σ 84 ((4372 + (8 * x5)) + 2)) - (σ 84 11)) - (r_pay (σ 84) (σ 84 (4372 + (8 * x5))) x1 x2 x2)) - (Int.tdiv ((σ127 84 (20 + 8 * (σ127 84 (4372 + (8 * x5))) + 3)) * (σ127 83 29)) 400)) = x4) := hc
              exact t
            · have t := iT t (Decidable.not_not.mp hc)
              have ha40 : ((((σ 84 ((4372 + (8 * x5)) + 2)) - (σ 84 11)) - (r_pay (σ 84) (σ 84 (4372 + (8 * x5))) x1 x2 x2)) - (Int.tdiv ((σ127 84 (20 + 8 * (σ127 84 (4372 + (8 * x5))) + 3)) * (σ127 83 29)) 400)) = x4 := Decidable.not_not.mp hc
              obtain ⟨r41, t⟩ := t
              refine i5 c_282_155 rfl (i45 c_282_156 (lo (c := 83) (kd := 112) (n := 0) rfl (by decide)) (lro (c := 83) (k := 0) (j := 84) (by decide)) (i3 c_282_159 rfl (i1 c_282_161 (i10 c_282_162 (i50 (v := σ127 84 ((4372 + (8 * x5)) + 4)) c_282_163 (lo (c := 84) (kd := 0) (n := 112300) rfl (by decide)) (by decide) r13 rfl (i5 c_282_164 rfl (i45 c_282_165 (lo (c := 83) (kd := 112) (n := 0) rfl (by decide)) (lro (c := 83) (k := 0) (j := 84) (by decide)) (i1 c_282_168 (i1 c_282_171 (i3 c_282_173 rfl (i12 c_282_174 (i10 c_282_175 (i1 c_282_176 (i10 c_282_177 (i50 (v := σ127 84 ((4372 + (8 * x3)) + 4)) c_282_178 (lo (c := 84) (kd := 0) (n := 112300) rfl (by decide)) (by decide) r41 rfl ?_)))))))))))))))
              refine i37 c_282_179 (rge_ K32 rfl) (rge_ K32 rfl) rfl (fun hc => ?_) (fun hc => ?_)
              · have t := iT t hc
                have ha42 : (σ127 84 ((4372 + (8 * x5)) + 4)) < (σ127 84 ((4372 + (8 * x3)) + 4)) := hc
                exact t
              · have t := iF t hc
                have ha42 : ¬ ((σ127 84 ((4372 + (8 * x5)) + 4)) < (σ127 84 ((4372 + (8 * x3)) + 4))) := hc
                refine i38 c_282_182 rfl t
      · have t := iF t hc
        have ha19 : ¬ ((0 : Int) < ((σ 84 ((4372 + (8 * x5)) + 1)) - (σ 84 ((4372 + (8 * x5)) + 5)))) := hc
        refine i38 c_282_78 rfl t
    · have t := iF t hc
      have ha15 : ¬ ((σ 84 ((4372 + (8 * x5)) + 3)) ≤ x2 ∧ x2 ≤ (σ 84 ((4372 + (8 * x5)) + 4))) := hc
      exact t
set_option maxRecDepth 20000 in
theorem u_282_185 {d : Nat} {S : zS} {σ τ : zI} {Q : zQ} {x1 : Int} {x2 : Int} {x3 : Int} {x4 : Int} {x5 : Int} {x6 : Int} {x7 : Int} {y8 : Value} (t : wi (d + 10) 282 192 [.ref 83, .int (wI x1), .int (wI x2), .int (wI x5), .int (wI x7), .int (wI x5), .int (wI x6), .int (wI x7), y8] [] S σ τ Q) : wi (d + 10) 282 185 [.ref 83, .int (wI x1), .int (wI x2), .int (wI x3), .int (wI x4), .int (wI x5), .int (wI x6), .int (wI x7), y8] [] S σ τ Q := by
  refine i3 c_282_185 rfl (i6 (L' := [.ref 83, .int (wI x1), .int (wI x2), .int (wI x5), .int (wI x4), .int (wI x5), .int (wI x6), .int (wI x7), y8]) c_282_187 rfl (i3 c_282_188 rfl (i6 (L' := [.ref 83, .int (wI x1), .int (wI x2), .int (wI x5), .int (wI x7), .int (wI x5), .int (wI x6), .int (wI x7), y8]) c_282_190 rfl t)))
set_option maxRecDepth 20000 in
theorem u_282_192 {d : Nat} {S : zS} {σ τ : zI} {Q : zQ} {x1 : Int} {x2 : Int} {x3 : Int} {x4 : Int} {x5 : Int} {x6 : Int} {y7 : Value} {y8 : Value} (t : wi (d + 10) 282 8 [.ref 83, .int (wI x1), .int (wI x2), .int (wI x3), .int (wI x4), .int (wI (x5 + 1)), .int (wI x6), y7, y8] [] S σ τ Q) : wi (d + 10) 282 192 [.ref 83, .int (wI x1), .int (wI x2), .int (wI x3), .int (wI x4), .int (wI x5), .int (wI x6), y7, y8] [] S σ τ Q := by
  refine i9 (L' := [.ref 83, .int (wI x1), .int (wI x2), .int (wI x3), .int (wI x4), .int (wI (x5 + 1)), .int (wI x6), y7, y8]) c_282_192 rfl rfl (i38 c_282_195 rfl t)
set_option maxRecDepth 20000 in
theorem u_282_213 {d : Nat} {S : zS} {σ τ : zI} {Q : zQ} {x1 : Int} {x2 : Int} {x3 : Int} {x4 : Int} {x5 : Int} {y6 : Value} {y7 : Value} {y8 : Value} (t : Q none S σ τ) : wi (d + 10) 282 213 [.ref 83, .int (wI x1), .int (wI x2), .int (wI x3), .int (wI x4), .int (wI x5), y6, y7, y8] [] S σ τ Q := by
  exact i94 c_282_213 t
set_option maxRecDepth 20000 in
theorem u_282_257 {d : Nat} {S : zS} {σ τ : zI} {Q : zQ} {x1 : Int} {x2 : Int} {x3 : Int} {x4 : Int} {x5 : Int} {x6 : Int} {x7 : Int} {y8 : Value} (t : (rg x7) ∧ if (σ 84 4) ≤ x7 then (wi (d + 10) 282 302 [.ref 83, .int (wI x1), .int (wI x2), .int (wI x3), .int (wI x4), .int (wI x5), .int (wI x6), .int (wI x7), y8] [] S σ τ Q) else ((0 ≤ x7 ∧ x7 < (60 : Int)) ∧ (rg x1) ∧ if σ 84 (3652 + 12 * x7 + 4) = x1 ∧ (1 ≤ σ 84 (3652 + 12 * x7 + 3) ∧ σ 84 (3652 + 12 * x7 + 3) ≤ 2) then ((0 ≤ (3652 + (12 * x7)) + 7 ∧ (3652 + (12 * x7)) + 7 < 112300) ∧ wi (d + 10) 282 296 [.ref 83, .int (wI x1), .int (wI x2), .int (wI x3), .int (wI x4), .int (wI x5), .int (wI x6), .int (wI x7), y8] [] S (uc σ 84 (u1 (σ 84) ((3652 + (12 * x7)) + 7) 0)) τ Q) else (wi (d + 10) 282 296 [.ref 83, .int (wI x1), .int (wI x2), .int (wI x3), .int (wI x4), .int (wI x5), .int (wI x6), .int (wI x7), y8] [] S σ τ Q))) : wi (d + 10) 282 257 [.ref 83, .int (wI x1), .int (wI x2), .int (wI x3), .int (wI x4), .int (wI x5), .int (wI x6), .int (wI x7), y8] [] S σ τ Q := by
  refine i3 c_282_257 rfl (i5 c_282_259 rfl (i45 c_282_260 (lo (c := 83) (kd := 112) (n := 0) rfl (by decide)) (lro (c := 83) (k := 0) (j := 84) (by decide)) (i1 c_282_263 (wi_ok (fun K1 => ?_)))))
  obtain ⟨r2, t⟩ := t
  refine i50 (v := σ 84 4) c_282_264 (lo (c := 84) (kd := 0) (n := 112300) rfl (by decide)) (by decide) (by decide) rfl ?_
  refine i37 c_282_265 r2 (rge_ K1 rfl) rfl (fun hc => ?_) (fun hc => ?_)
  · have t := iT t hc
    have ha3 : (σ 84 4) ≤ x7 := hc
    exact t
  · have t := iF t hc
    have ha3 : ¬ ((σ 84 4) ≤ x7) := hc
    obtain ⟨p4, t⟩ := t
    obtain ⟨r5, t⟩ := t
    refine i5 c_282_268 rfl (i3 c_282_269 rfl (i3 c_282_271 rfl ?_))
    refine i80 (As := [.int (wI x7), .int (wI x1)]) (rest := []) c_282_272 mi_279 rfl rfl (Nat.le_of_ble_eq_true rfl) (Nat.le_of_ble_eq_true rfl) (lo (c := 83) (kd := 112) (n := 0) rfl (by decide)) (q_279 p4 r5 ?_)
    show wi (d + 10) 282 275 [.ref 83, .int (wI x1), .int (wI x2), .int (wI x3), .int (wI x4), .int (wI x5), .int (wI x6), .int (wI x7), y8] [.int (wI (if σ 84 (3652 + 12 * x7 + 4) = x1 ∧ (1 ≤ σ 84 (3652 + 12 * x7 + 3) ∧ σ 84 (3652 + 12 * x7 + 3) ≤ 2) then 1 else 0))] S σ τ Q
    refine i36e c_282_275 rfl (fun hc => ?_) (fun hc => ?_)
    · have t := iT t hc
      have ha6 : σ 84 (3652 + 12 * x7 + 4) = x1 ∧ (1 ≤ σ 84 (3652 + 12 * x7 + 3) ∧ σ 84 (3652 + 12 * x7 + 3) ≤ 2) := hc
      obtain ⟨r7, t⟩ := t
      refine i5 c_282_278 rfl (i45 c_282_279 (lo (c := 83) (kd := 112) (n := 0) rfl (by decide)) (lro (c := 83) (k := 0) (j := 84) (by decide)) (i1 c_282_282 (i1 c_282_285 (i3 c_282_287 rfl (i12 c_282_289 (i10 c_282_290 (i1 c_282_291 (i10 c_282_293 (i1 c_282_294 (i54 (σ1 := uc σ 84 (u1 (σ 84) ((3652 + (12 * x7)) + 7) 0)) c_282_295 (lo (c := 84) (kd := 0) (n := 112300) rfl (by decide)) (by decide) r7 (by decide) rfl (by decide) (wr_ rfl rfl) t))))))))))
    · have t := iF t hc
      have ha6 : ¬ (σ 84 (3652 + 12 * x7 + 4) = x1 ∧ (1 ≤ σ 84 (3652 + 12 * x7 + 3) ∧ σ 84 (3652 + 12 * x7 + 3) ≤ 2)) := hc
      exact t
set_option maxRecDepth 20000 in
theorem u_282_296 {d : Nat} {S : zS} {σ τ : zI} {Q : zQ} {x1 : Int} {x2 : Int} {x3 : Int} {x4 : Int} {x5 : Int} {x6 : Int} {x7 : Int} {y8 : Value} (t : wi (d + 10) 282 257 [.ref 83, .int (wI x1), .int (wI x2), .int (wI x3), .int (wI x4), .int (wI x5), .int (wI x6), .int (wI (x7 + 1)), y8] [] S σ τ Q) : wi (d + 10) 282 296 [.ref 83, .int (wI x1), .int (wI x2), .int (wI x3), .int (wI x4), .int (wI x5), .int (wI x6), .int (wI x7), y8] [] S σ τ Q := by
  refine i9 (L' := [.ref 83, .int (wI x1), .int (wI x2), .int (wI x3), .int (wI x4), .int (wI x5), .int (wI x6), .int (wI (x7 + 1)), y8]) c_282_296 rfl rfl (i38 c_282_299 rfl t)
set_option maxRecDepth 20000 in
theorem u_282_302 {d : Nat} {S : zS} {σ τ : zI} {Q : zQ} {x1 : Int} {x2 : Int} {x3 : Int} {x4 : Int} {x5 : Int} {x6 : Int} {y7 : Value} {y8 : Value} (t : (0 ≤ x6 ∧ x6 < 112300) ∧ (0 ≤ x5 + 7 ∧ x5 + 7 < 112300) ∧ ∃ a5 : Int → Int, ∃ a16 : Int → Int, ∃ tk7 : Int → Int, ∃ PE8 : Int → Int → Int, ∃ MI9 : Int → Int → Int, ∃ OD10 : Int → Int → Int, ((uc σ 84 (u1 (σ 84) (x5 + 7) (σ 84 x6))) 84 = As a16 PE8 MI9 OD10) ∧ (eB a5 a16) ∧ (Jv a5) ∧ (jv_T a5) ∧ (sP a5 PE8) ∧ (sM a5 MI9) ∧ (0 ≤ x1 ∧ x1 < a5 1) ∧ (((u1 (σ 84) (x5 + 7) (σ 84 x6)) x6) = wk_kd a5 tk7 x1 ∧ (0 ≤ ((u1 (σ 84) (x5 + 7) (σ 84 x6)) x6) ∧ ((u1 (σ 84) (x5 + 7) (σ 84 x6)) x6) ≤ 5)) ∧ (∀ p, 0 ≤ p → p < a5 4 → wk_wv a5 x1 p → PE8 p 7 = wk_r0 a5 tk7 x1 p) ∧ (∀ p, 0 ≤ p → p < a5 4 → (uc σ 84 (u1 (σ 84) (x5 + 7) (σ 84 x6))) 93 p = wk_h a5 p) ∧ ∀ (v21 : Int), v21 = wk_can a5 tk7 x1 → 0 ≤ v21 ∧ v21 ≤ 35640 → (rg v21) ∧ if v21 = 0 then (Q none S (uc σ 84 (u1 (σ 84) (x5 + 7) (σ 84 x6))) τ) else ((0 ≤ x6 + 1 ∧ x6 + 1 < 112300) ∧ (0 ≤ x6 + 5 ∧ x6 + 5 < 112300) ∧ (rg (((u1 (σ 84) (x5 + 7) (σ 84 x6)) (x6 + 1)) - ((u1 (σ 84) (x5 + 7) (σ 84 x6)) (x6 + 5)))) ∧ if (((u1 (σ 84) (x5 + 7) (σ 84 x6)) (x6 + 1)) - ((u1 (σ 84) (x5 + 7) (σ 84 x6)) (x6 + 5))) ≤ v21 then (wi (d + 10) 282 383 [.ref 83, .int (wI x1), .int (wI x2), .int (wI x3), .int (wI x4), .int (wI x5), .int (wI x6), .int (wI v21), .int (wI (((u1 (σ 84) (x5 + 7) (σ 84 x6)) (x6 + 1)) - ((u1 (σ 84) (x5 + 7) (σ 84 x6)) (x6 + 5))))] [.int (wI (((u1 (σ 84) (x5 + 7) (σ 84 x6)) (x6 + 1)) - ((u1 (σ 84) (x5 + 7) (σ 84 x6)) (x6 + 5)))), .int (wI (x5 + 11)), .ref 84] S (uc σ 84 (u1 (σ 84) (x5 + 7) (σ 84 x6))) τ Q) else (wi (d + 10) 282 383 [.ref 83, .int (wI x1), .int (wI x2), .int (wI x3), .int (wI x4), .int (wI x5), .int (wI x6), .int (wI v21), .int (wI (((u1 (σ 84) (x5 + 7) (σ 84 x6)) (x6 + 1)) - ((u1 (σ 84) (x5 + 7) (σ 84 x6)) (x6 + 5))))] [.int (wI v21), .int (wI (x5 + 11)), .ref 84] S (uc σ 84 (u1 (σ 84) (x5 + 7) (σ 84 x6))) τ Q))) : wi (d + 10) 282 302 [.ref 83, .int (wI x1), .int (wI x2), .int (wI x3), .int (wI x4), .int (wI x5), .int (wI x6), y7, y8] [] S σ τ Q := by
  obtain ⟨r1, t⟩ := t
  refine i5 c_282_302 rfl (i45 c_282_303 (lo (c := 83) (kd := 112) (n := 0) rfl (by decide)) (lro (c := 83) (k := 0) (j := 84) (by decide)) (i3 c_282_306 rfl (i1 c_282_308 (i10 c_282_310 (i5 c_282_311 rfl (i45 c_282_312 (lo (c := 83) (kd := 112) (n := 0) rfl (by decide)) (lro (c := 83) (k := 0) (j := 84) (by decide)) (i3 c_282_315 rfl (wi_ok (fun K2 => ?_)))))))))
  obtain ⟨r3, t⟩ := t
  refine i50 (v := σ 84 x6) c_282_317 (lo (c := 84) (kd := 0) (n := 112300) rfl (by decide)) (by decide) r1 rfl (i54 (σ1 := uc σ 84 (u1 (σ 84) (x5 + 7) (σ 84 x6))) c_282_318 (lo (c := 84) (kd := 0) (n := 112300) rfl (by decide)) (by decide) r3 (by decide) rfl (rge_ K2 rfl) (wr_ rfl rfl) (i5 c_282_319 rfl (i3 c_282_320 rfl (i5 c_282_321 rfl (i45 c_282_322 (lo (c := 83) (kd := 112) (n := 0) rfl (by decide)) (lro (c := 83) (k := 0) (j := 84) (by decide)) (i3 c_282_325 rfl (wi_ok (fun K4 => ?_))))))))
  obtain ⟨a5, t⟩ := t
  obtain ⟨a16, t⟩ := t
  obtain ⟨tk7, t⟩ := t
  obtain ⟨PE8, t⟩ := t
  obtain ⟨MI9, t⟩ := t
  obtain ⟨OD10, t⟩ := t
  obtain ⟨p11, t⟩ := t
  obtain ⟨p12, t⟩ := t
  obtain ⟨p13, t⟩ := t
  obtain ⟨p14, t⟩ := t
  obtain ⟨p15, t⟩ := t
  obtain ⟨p16, t⟩ := t
  obtain ⟨p17, t⟩ := t
  obtain ⟨p18, t⟩ := t
  obtain ⟨p19, t⟩ := t
  obtain ⟨p20, t⟩ := t
  refine i50 (v := (u1 (σ 84) (x5 + 7) (σ 84 x6)) x6) c_282_327 (lo (c := 84) (kd := 0) (n := 112300) rfl (by decide)) (by decide) r1 (congrFun (uc_s _ _ _) _) ?_
  refine i80 (As := [.int (wI x1), .int (wI ((u1 (σ 84) (x5 + 7) (σ 84 x6)) x6))]) (rest := []) c_282_328 mi_281 rfl rfl (Nat.le_of_ble_eq_true rfl) (Nat.le_of_ble_eq_true rfl) (lo (c := 83) (kd := 112) (n := 0) rfl (by decide)) (q_281 (a := a5) (a1 := a16) (tk := tk7) (PE := PE8) (MI := MI9) (OD := OD10) p11 p12 p13 p14 p15 p16 p17 p18 p19 p20 (fun v21 q22 q23 => ?_))
  have t := t v21 q22 q23
  show wi (d + 10) 282 331 [.ref 83, .int (wI x1), .int (wI x2), .int (wI x3), .int (wI x4), .int (wI x5), .int (wI x6), y7, y8] [.int (wI v21)] S (uc σ 84 (u1 (σ 84) (x5 + 7) (σ 84 x6))) τ Q
  obtain ⟨r24, t⟩ := t
  refine i6 (L' := [.ref 83, .int (wI x1), .int (wI x2), .int (wI x3), .int (wI x4), .int (wI x5), .int (wI x6), .int (wI v21), y8]) c_282_331 rfl (i3 c_282_333 rfl ?_)
  refine i36 c_282_335 r24 rfl (fun hc => ?_) (fun hc => ?_)
  · have t := iF t hc
    have ha25 : ¬ (v21 = 0) := hc
    obtain ⟨r26, t⟩ := t
    obtain ⟨r27, t⟩ := t
    obtain ⟨r28, t⟩ := t
    refine i5 c_282_339 rfl (i45 c_282_340 (lo (c := 83) (kd := 112) (n := 0) rfl (by decide)) (lro (c := 83) (k := 0) (j := 84) (by decide)) (i3 c_282_343 rfl (i1 c_282_345 (i10 c_282_346 (i50 (v := (u1 (σ 84) (x5 + 7) (σ 84 x6)) (x6 + 1)) c_282_347 (lo (c := 84) (kd := 0) (n := 112300) rfl (by decide)) (by decide) r26 (congrFun (uc_s _ _ _) _) (i5 c_282_348 rfl (i45 c_282_349 (lo (c := 83) (kd := 112) (n := 0) rfl (by decide)) (lro (c := 83) (k := 0) (j := 84) (by decide)) (i3 c_282_352 rfl (i1 c_282_354 (i10 c_282_355 (i50 (v := (u1 (σ 84) (x5 + 7) (σ 84 x6)) (x6 + 5)) c_282_356 (lo (c := 84) (kd := 0) (n := 112300) rfl (by decide)) (by decide) r27 (congrFun (uc_s _ _ _) _) (i11 c_282_357 (i6 (L' := [.ref 83, .int (wI x1), .int (wI x2), .int (wI x3), .int (wI x4), .int (wI x5), .int (wI x6), .int (wI v21), .int (wI (((u1 (σ 84) (x5 + 7) (σ 84 x6)) (x6 + 1)) - ((u1 (σ 84) (x5 + 7) (σ 84 x6)) (x6 + 5))))]) c_282_358 rfl (i5 c_282_360 rfl (i45 c_282_361 (lo (c := 83) (kd := 112) (n := 0) rfl (by decide)) (lro (c := 83) (k := 0) (j := 84) (by decide)) (i3 c_282_364 rfl (i1 c_282_366 (i10 c_282_368 (i3 c_282_369 rfl (i3 c_282_371 rfl ?_))))))))))))))))))))
    refine i37 c_282_373 r24 r28 rfl (fun hc => ?_) (fun hc => ?_)
    · have t := iT t hc
      have ha29 : (((u1 (σ 84) (x5 + 7) (σ 84 x6)) (x6 + 1)) - ((u1 (σ 84) (x5 + 7) (σ 84 x6)) (x6 + 5))) ≤ v21 := hc
      refine i3 c_282_381 rfl t
    · have t := iF t hc
      have ha29 : ¬ ((((u1 (σ 84) (x5 + 7) (σ 84 x6)) (x6 + 1)) - ((u1 (σ 84) (x5 + 7) (σ 84 x6)) (x6 + 5))) ≤ v21) := hc
      refine i3 c_282_376 rfl (i38 c_282_378 rfl t)
  · have t := iT t (Decidable.not_not.mp hc)
    have ha25 : v21 = 0 := Decidable.not_not.mp hc
    exact i94 c_282_338 t
set_option maxRecDepth 20000 in
theorem u_282_383 {d : Nat} {S : zS} {σ τ : zI} {Q : zQ} {x1 : Int} {x2 : Int} {x3 : Int} {x4 : Int} {x5 : Int} {x6 : Int} {x7 : Int} {x8 : Int} {s1 : Int} {s2 : Int} (t : (0 ≤ s1 ∧ s1 < 112300) ∧ ∃ w2 : Int, wI w2 = wI s2 ∧ rg w2 ∧ (0 ≤ x6 + 5 ∧ x6 + 5 < 112300) ∧ (0 ≤ x5 + 11 ∧ x5 + 11 < 112300) ∧ ∃ w8 : Int, wI w8 = wI (((u1 (σ 84) s1 w2) (x6 + 5)) + ((u1 (σ 84) s1 w2) (x5 + 11))) ∧ rg w8 ∧ (0 ≤ x5 + 9 ∧ x5 + 9 < 112300) ∧ ∃ w12 : Int, wI w12 = wI x3 ∧ rg w12 ∧ (rg (2 * ((u1 (u1 (u1 (σ 84) s1 w2) (x6 + 5) w8) (x5 + 9) w12) (x5 + 11)))) ∧ (rg x7) ∧ if (2 * ((u1 (u1 (u1 (σ 84) s1 w2) (x6 + 5) w8) (x5 + 9) w12) (x5 + 11))) < x7 then (wi (d + 10) 282 461 [.ref 83, .int (wI x1), .int (wI x2), .int (wI x3), .int (wI x4), .int (wI x5), .int (wI x6), .int (wI x7), .int (wI x8)] [.int (wI (x5 + 8)), .ref 84] S (uc σ 84 (u1 (u1 (u1 (σ 84) s1 w2) (x6 + 5) w8) (x5 + 9) w12)) τ Q) else (if ((u1 (u1 (u1 (σ 84) s1 w2) (x6 + 5) w8) (x5 + 9) w12) 12) < (σ 83 29) then (wi (d + 10) 282 461 [.ref 83, .int (wI x1), .int (wI x2), .int (wI x3), .int (wI x4), .int (wI x5), .int (wI x6), .int (wI x7), .int (wI x8)] [.int (wI (x5 + 8)), .ref 84] S (uc σ 84 (u1 (u1 (u1 (σ 84) s1 w2) (x6 + 5) w8) (x5 + 9) w12)) τ Q) else (wi (d + 10) 282 462 [.ref 83, .int (wI x1), .int (wI x2), .int (wI x3), .int (wI x4), .int (wI x5), .int (wI x6), .int (wI x7), .int (wI x8)] [.int (wI 2), .int (wI (x5 + 8)), .ref 84] S (uc σ 84 (u1 (u1 (u1 (σ 84) s1 w2) (x6 + 5) w8) (x5 + 9) w12)) τ Q))) : wi (d + 10) 282 383 [.ref 83, .int (wI x1), .int (wI x2), .int (wI x3), .int (wI x4), .int (wI x5), .int (wI x6), .int (wI x7), .int (wI x8)] [.int (wI s2), .int (wI s1), .ref 84] S σ τ Q := by
  obtain ⟨r1, t⟩ := t
  obtain ⟨w2, e3, r4, t⟩ := t
  obtain ⟨r5, t⟩ := t
  refine i54 (σ1 := uc σ 84 (u1 (σ 84) s1 w2)) c_282_383 (lo (c := 84) (kd := 0) (n := 112300) rfl (by decide)) (by decide) r1 (by decide) e3 r4 (wr_ rfl rfl) (i5 c_282_384 rfl (i45 c_282_385 (lo (c := 83) (kd := 112) (n := 0) rfl (by decide)) (lro (c := 83) (k := 0) (j := 84) (by decide)) (i3 c_282_388 rfl (i1 c_282_390 (i10 c_282_391 (i34a c_282_392 (wi_ok (fun K6 => ?_))))))))
  obtain ⟨r7, t⟩ := t
  obtain ⟨w8, e9, r10, t⟩ := t
  obtain ⟨r11, t⟩ := t
  obtain ⟨w12, e13, r14, t⟩ := t
  refine i50 (v := (u1 (σ 84) s1 w2) (x6 + 5)) c_282_393 (lo (c := 84) (kd := 0) (n := 112300) rfl (by decide)) (by decide) r5 (congrFun (uc_s _ _ _) _) (i5 c_282_394 rfl (i45 c_282_395 (lo (c := 83) (kd := 112) (n := 0) rfl (by decide)) (lro (c := 83) (k := 0) (j := 84) (by decide)) (i3 c_282_398 rfl (i1 c_282_400 (i10 c_282_402 (i50 (v := (u1 (σ 84) s1 w2) (x5 + 11)) c_282_403 (lo (c := 84) (kd := 0) (n := 112300) rfl (by decide)) (by decide) r7 (congrFun (uc_s _ _ _) _) (i10 c_282_404 (i54 (σ1 := uc σ 84 (u1 (u1 (σ 84) s1 w2) (x6 + 5) w8)) c_282_405 (lo (c := 84) (kd := 0) (n := 112300) rfl (by decide)) (by decide) r5 (by decide) e9 r10 (wr_ (uc_s _ _ _) (uc_uc _ _ _ _)) (i5 c_282_406 rfl (i45 c_282_407 (lo (c := 83) (kd := 112) (n := 0) rfl (by decide)) (lro (c := 83) (k := 0) (j := 84) (by decide)) (i3 c_282_410 rfl (i1 c_282_412 (i10 c_282_414 (i3 c_282_415 rfl (i54 (σ1 := uc σ 84 (u1 (u1 (u1 (σ 84) s1 w2) (x6 + 5) w8) (x5 + 9) w12)) c_282_416 (lo (c := 84) (kd := 0) (n := 112300) rfl (by decide)) (by decide) r11 (by decide) e13 r14 (wr_ (uc_s _ _ _) (uc_uc _ _ _ _)) (i5 c_282_417 rfl (i45 c_282_418 (lo (c := 83) (kd := 112) (n := 0) rfl (by decide)) (lro (c := 83) (k := 0) (j := 84) (by decide)) (i3 c_282_421 rfl (i1 c_282_423 (i10 c_282_425 (i1 c_282_426 (i5 c_282_427 rfl (i45 c_282_428 (lo (c := 83) (kd := 112) (n := 0) rfl (by decide)) (lro (c := 83) (k := 0) (j := 84) (by decide)) (i3 c_282_431 rfl (i1 c_282_433 (i10 c_282_435 (wi_ok (fun K15 => ?_))))))))))))))))))))))))))))
  obtain ⟨r16, t⟩ := t
  obtain ⟨r17, t⟩ := t
  refine i50 (v := (u1 (u1 (u1 (σ 84) s1 w2) (x6 + 5) w8) (x5 + 9) w12) (x5 + 11)) c_282_436 (lo (c := 84) (kd := 0) (n := 112300) rfl (by decide)) (by decide) r7 (congrFun (uc_s _ _ _) _) (i12 c_282_437 (i3 c_282_438 rfl ?_))
  refine i37 c_282_440 r16 r17 rfl (fun hc => ?_) (fun hc => ?_)
  · have t := iT t hc
    have ha18 : (2 * ((u1 (u1 (u1 (σ 84) s1 w2) (x6 + 5) w8) (x5 + 9) w12) (x5 + 11))) < x7 := hc
    exact t
  · have t := iF t hc
    have ha18 : ¬ ((2 * ((u1 (u1 (u1 (σ 84) s1 w2) (x6 + 5) w8) (x5 + 9) w12) (x5 + 11))) < x7) := hc
    refine i5 c_282_443 rfl (i43 (v := σ 83 29) c_282_444 (lo (c := 83) (kd := 112) (n := 0) rfl (by decide)) (congrFun (uc_ns rfl (by decide)) _) (i5 c_282_447 rfl (i45 c_282_448 (lo (c := 83) (kd := 112) (n := 0) rfl (by decide)) (lro (c := 83) (k := 0) (j := 84) (by decide)) (i1 c_282_451 (i50 (v := (u1 (u1 (u1 (σ 84) s1 w2) (x6 + 5) w8) (x5 + 9) w12) 12) c_282_453 (lo (c := 84) (kd := 0) (n := 112300) rfl (by decide)) (by decide) (by decide) (congrFun (uc_s _ _ _) _) ?_)))))
    refine i37 c_282_454 (rge_ K15 (congrFun (uc_ns rfl (by decide)) _)) (rge_ K15 (congrFun (uc_s _ _ _) _)) rfl (fun hc => ?_) (fun hc => ?_)
    · have t := iT t hc
      have ha19 : ((u1 (u1 (u1 (σ 84) s1 w2) (x6 + 5) w8) (x5 + 9) w12) 12) < (σ 83 29) := hc
      exact t
    · have t := iF t hc
      have ha19 : ¬ (((u1 (u1 (u1 (σ 84) s1 w2) (x6 + 5) w8) (x5 + 9) w12) 12) < (σ 83 29)) := hc
      refine i1 c_282_457 (i38 c_282_458 rfl t)
set_option maxRecDepth 20000 in
theorem u_282_461 {d : Nat} {S : zS} {σ τ : zI} {Q : zQ} {x1 : Int} {x2 : Int} {x3 : Int} {x4 : Int} {x5 : Int} {x6 : Int} {x7 : Int} {x8 : Int} {s1 : Int} (t : wi (d + 10) 282 462 [.ref 83, .int (wI x1), .int (wI x2), .int (wI x3), .int (wI x4), .int (wI x5), .int (wI x6), .int (wI x7), .int (wI x8)] [.int (wI 1), .int (wI s1), .ref 84] S σ τ Q) : wi (d + 10) 282 461 [.ref 83, .int (wI x1), .int (wI x2), .int (wI x3), .int (wI x4), .int (wI x5), .int (wI x6), .int (wI x7), .int (wI x8)] [.int (wI s1), .ref 84] S σ τ Q := by
  refine i1 c_282_461 t
set_option maxRecDepth 20000 in
theorem u_282_462 {d : Nat} {S : zS} {σ τ : zI} {Q : zQ} {x1 : Int} {x2 : Int} {x3 : Int} {x4 : Int} {x5 : Int} {x6 : Int} {x7 : Int} {x8 : Int} {s1 : Int} {s2 : Int} (t : (0 ≤ s1 ∧ s1 < 112300) ∧ ∃ w2 : Int, wI w2 = wI s2 ∧ rg w2 ∧ Q none S (uc σ 84 (u1 (σ 84) s1 w2)) τ) : wi (d + 10) 282 462 [.ref 83, .int (wI x1), .int (wI x2), .int (wI x3), .int (wI x4), .int (wI x5), .int (wI x6), .int (wI x7), .int (wI x8)] [.int (wI s2), .int (wI s1), .ref 84] S σ τ Q := by
  obtain ⟨r1, t⟩ := t
  obtain ⟨w2, e3, r4, t⟩ := t
  refine i54 (σ1 := uc σ 84 (u1 (σ 84) s1 w2)) c_282_462 (lo (c := 84) (kd := 0) (n := 112300) rfl (by decide)) (by decide) r1 (by decide) e3 r4 (wr_ rfl rfl) ?_
  exact i94 c_282_463 t
theorem q_282 {d : Nat} {S : zS} {σ τ : zI} {Q : zQ} {m : Int} {w : Int} {a : Int → Int} {a1 : Int → Int} (p0 : σ 84 = As a1 (PE1 a m) (MI1 a m) (OD1 a m)) (p1 : eB a a1) (p2 : Jv a) (p3 : jv_T a) (p4 : jv_E a) (p5 : a 0 ≤ 399) (p6 : w = a 0) (p7 : 0 ≤ m ∧ m < a 1) (p8 : wk_cr a m) (p9 : σ 83 29 = wk_ct a) (p10 : (∀ p, 0 ≤ p → p < a 4 → σ 93 p = wk_h a p)) (t : ∀ (σ1 : zI) (τ1 : zI), CHF a a1 (m + 1) σ σ1 → Q none S σ1 τ1) : wc (d + 10) 282 [.ref 83, .int (wI m), .int (wI w)] S σ τ Q := by
  have hC := jC p2
  have hC' := hC
  unfold jv_C at hC
  subst p6
  have bA := eB_A (PE := PE1 a m) (MI := MI1 a m) (OD := OD1 a m) p1
  have ct := wk_ct_b p2 p5
  have hM := jM p2 m p7.1 p7.2
  refine wc_of mi_282 rfl (u_282_0 ?_)
  -- the end: the ORDER is taken
  have fin : wk_O a m → ∀ σ' : zI, (∀ c, c ≠ 83 → c ≠ 84 → c ≠ 91 → c ≠ 92 → σ' c = σ c) → (∀ k, k < 22 ∨ 25 < k → σ' 83 k = σ 83 k) → σ' 84 = As a1 (PE1 a (m + 1)) (MI1 a m) (OD1 a m) → ∀ τ' x4 y7 y8, wi (d + 10) 282 302 [.ref 83, .int (wI m), .int (wI (a 0)), .int (wI (wk_bo a (wk_T a m) m)), .int (wI x4), .int (wI (3300 + 16 * m)), .int (wI (4372 + 8 * wk_bo a (wk_T a m) m)), y7, y8] [] S σ' τ' Q := fun hO σ' f1 f2 f3 τ' x4 y7 y8 => by
    have ob := wk_ok_b p2 p3 p5 p7 hO
    obtain ⟨bo, hbo⟩ : ∃ bo, bo = wk_bo a (wk_T a m) m := ⟨_, rfl⟩
    have ekd : wk_kd a (wk_T a m) m = a (4372 + 8 * bo) := by rw [hbo]; rfl
    have elt : wk_lt a (wk_T a m) m = a (4372 + 8 * bo + 1) - wk_T a m bo := by rw [hbo]; rfl
    have tb := wk_T_b p2 p3 p5 m p7.1 (by omega) bo (by omega) (by omega)
    have hOr := (jO p2).1 bo (by omega) (by omega)
    rw [← hbo] at ob ⊢
    refine u_282_302 ?_
    have r0 : σ' 84 (4372 + 8 * bo) = a (4372 + 8 * bo) := by
      rw [f3, As_o0 (by omega)]; show OD1 a m bo 0 = _; unfold OD1; rw [if_neg (by omega), Int.add_zero]
    have e93 : σ' 93 = σ 93 := f1 93 (by decide) (by decide) (by decide) (by decide)
    have b83 : σ' 83 29 = wk_ct a := by rw [f2 29 (by omega)]; exact p9
    rw [r0, f3]
    obtain ⟨B, hB⟩ : ∃ B, B = As a1 (PE1 a (m + 1)) (t2 (MI1 a m) m 7 (a (4372 + 8 * bo))) (OD1 a m) := ⟨_, rfl⟩
    have u7 : u1 (As a1 (PE1 a (m + 1)) (MI1 a m) (OD1 a m)) (3300 + 16 * m + 7) (a (4372 + 8 * bo)) = B := by rw [hB]; exact As_um (by omega) (by omega)
    rw [u7]
    have b0 : B (4372 + 8 * bo) = a (4372 + 8 * bo) := by
      rw [hB, As_o0 (by omega)]; show OD1 a m bo 0 = _; unfold OD1; rw [if_neg (by omega), Int.add_zero]
    have b1 : B (4372 + 8 * bo + 1) = a (4372 + 8 * bo + 1) := by
      rw [hB, As_o (by omega) (by omega)]; unfold OD1; rw [if_neg (by omega)]
    have b5 : B (4372 + 8 * bo + 5) = wk_T a m bo := by
      rw [hB, As_o (by omega) (by omega)]; unfold OD1; rw [if_pos (by omega)]
    rw [b0, b1, b5]
    refine ⟨by omega, by omega, a, a1, wk_T a m, PE1 a (m + 1), t2 (MI1 a m) m 7 (a (4372 + 8 * bo)), OD1 a m, by rw [uc_s, hB], p1, p2, p3, sP_1, sM_t sM_1 (by omega), p7, ⟨by rw [ekd], by omega⟩, fun p q0 q1 hw => PE1_7 p7.1 hO q1 hw, ?_, fun v hv vb => ⟨by omega, ifI (fun e => ?_) (fun e => ?_)⟩⟩
    · rw [uc_n (by decide), e93]; exact p10
    · have hD : ¬ wk_D a m := fun q => q.2 (by omega)
      refine t _ _ ⟨?_, fun c h1 h2 h3 h4 => by rw [uc_n h2]; exact f1 c h1 h2 h3 h4, fun k hk => by rw [uc_n (by decide)]; exact f2 k hk⟩
      rw [uc_s, hB]
      refine As_c (fun _ _ => rfl) (fun _ _ _ _ _ _ => rfl) (fun x c _ _ _ _ => ?_) (fun o c _ _ _ _ => (OD1_no p7.1 hD o c).symm)
      rw [← ekd]
      exact MI1_ls p7.2 hO hD x c
    · have hD : wk_D a m := ⟨hO, by omega⟩
      have db := wk_D_b p2 p3 p5 p7 hD
      have etk : wk_tk a (wk_T a m) m = if v < a (4372 + 8 * bo + 1) - wk_T a m bo then v else a (4372 + 8 * bo + 1) - wk_T a m bo := by rw [hv, ← elt]; rfl
      -- TAKES is known
      have go : ∀ s2 x8, s2 = wk_tk a (wk_T a m) m → wi (d + 10) 282 383 [.ref 83, .int (wI m), .int (wI (a 0)), .int (wI bo), .int (wI x4), .int (wI (3300 + 16 * m)), .int (wI (4372 + 8 * bo)), .int (wI v), .int (wI x8)] [.int (wI s2), .int (wI (3300 + 16 * m + 11)), .ref 84] S (uc σ' 84 B) τ' Q := fun s2 x8 hs => by
        subst hs
        refine u_282_383 ?_
        rw [uc_s, uc_n (show (83 : Nat) ≠ 84 by decide), b83]
        refine ⟨by omega, wk_tk a (wk_T a m) m, rfl, by omega, by omega, by omega, wk_T a m bo + wk_tk a (wk_T a m) m, ?_, by omega, by omega, bo, rfl, by omega, ?_⟩
        · rw [u1_s, u1_n (by omega), b5]
        obtain ⟨D, hDD⟩ : ∃ D, D = As a1 (PE1 a (m + 1)) (t2 (t2 (t2 (MI1 a m) m 7 (a (4372 + 8 * bo))) m 11 (wk_tk a (wk_T a m) m)) m 9 bo) (t2 (OD1 a m) bo 5 (wk_T a m bo + wk_tk a (wk_T a m) m)) := ⟨_, rfl⟩
        have uD : u1 (u1 (u1 B (3300 + 16 * m + 11) (wk_tk a (wk_T a m) m)) (4372 + 8 * bo + 5) (wk_T a m bo + wk_tk a (wk_T a m) m)) (3300 + 16 * m + 9) bo = D := by
          rw [hB, hDD, As_um (by omega) (by omega), As_uo (by omega) (by omega), As_um (by omega) (by omega)]
        rw [uD, uc_uc]
        have d11 : D (3300 + 16 * m + 11) = wk_tk a (wk_T a m) m := by
          rw [hDD, As_m (by omega) (by omega), t2_n (by omega), t2_s]
        have d12 : D 12 = a 12 := by rw [hDD, As_k (by omega)]; exact p1 12 (by omega)
        rw [d11, d12]
        have last : ∀ v8, (v8 = if wk_can a (wk_T a m) m ≤ 2 * wk_tk a (wk_T a m) m ∧ wk_ct a ≤ a 12 then 2 else 1) → rg v8 → wi (d + 10) 282 462 [.ref 83, .int (wI m), .int (wI (a 0)), .int (wI bo), .int (wI x4), .int (wI (3300 + 16 * m)), .int (wI (4372 + 8 * bo)), .int (wI v), .int (wI x8)] [.int (wI v8), .int (wI (3300 + 16 * m + 8)), .ref 84] S (uc σ' 84 D) τ' Q := fun v8 h8 r8 => by
          refine u_282_462 ⟨by omega, v8, rfl, r8, ?_⟩
          rw [uc_s, uc_uc]
          refine t _ _ ⟨?_, fun c h1 h2 h3 h4 => by rw [uc_n h2]; exact f1 c h1 h2 h3 h4, fun k hk => by rw [uc_n (by decide)]; exact f2 k hk⟩
          rw [uc_s, hDD, As_um (by omega) (by omega)]
          refine As_c (fun _ _ => rfl) (fun _ _ _ _ _ _ => rfl) (fun x c _ _ _ _ => ?_) (fun o c _ _ _ _ => ?_)
          · rw [← ekd, hbo]; exact MI1_D hD h8 x c
          · rw [hbo]; exact OD1_D p7.1 hD (by omega) o c
        refine ⟨by omega, by omega, ifI (fun e1 => u_282_461 (last 1 ?_ (by decide))) (fun e1 => ifI (fun e2 => u_282_461 (last 1 ?_ (by decide))) (fun e2 => last 2 ?_ (by decide)))⟩
        · rw [if_neg (by omega)]
        · rw [if_neg (by omega)]
        · rw [if_pos (by omega)]
      refine ⟨by omega, by omega, by omega, ifI (fun e1 => go _ _ ?_) (fun e1 => go _ _ ?_)⟩
      · rw [etk, if_neg (by omega)]
      · rw [etk, if_pos (by omega)]
  -- the weavers' REST
  have rests : wk_O a m → wk_kd a (wk_T a m) m ≠ a (3300 + 16 * m + 7) → ∀ p, 0 ≤ p → p ≤ a 4 → ∀ σ' : zI, (∀ c, c ≠ 83 → c ≠ 84 → c ≠ 91 → c ≠ 92 → σ' c = σ c) → (∀ k, k < 22 ∨ 25 < k → σ' 83 k = σ 83 k) → σ' 84 = As a1 (PEr a m p) (MI1 a m) (OD1 a m) → ∀ τ' x4 y8, wi (d + 10) 282 257 [.ref 83, .int (wI m), .int (wI (a 0)), .int (wI (wk_bo a (wk_T a m) m)), .int (wI x4), .int (wI (3300 + 16 * m)), .int (wI (4372 + 8 * wk_bo a (wk_T a m) m)), .int (wI p), y8] [] S σ' τ' Q := fun hO hk => by
    refine lp_up (fun p q0 q1 ih => ?_)
    intro σ' f1 f2 f3 τ' x4 y8
    refine u_282_257 ?_
    have e4 : σ' 84 4 = a 4 := by rw [f3, As_k (by omega)]; exact p1 4 (by omega)
    rw [e4]
    refine ⟨by omega, ifI (fun e => ?_) (fun e => ?_)⟩
    · have e : p = a 4 := by omega
      subst e
      refine fin hO σ' f1 f2 ?_ τ' x4 _ y8
      rw [f3]
      exact As_c (fun _ _ => rfl) (fun x c _ _ _ _ => PE1_r p7.1 hO hk x c) (fun _ _ _ _ _ _ => rfl) (fun _ _ _ _ _ _ => rfl)
    · have hP := jP p2 p q0 (by omega)
      have v : ∀ c, c = 3 ∨ c = 4 → σ' 84 (3652 + 12 * p + c) = a (3652 + 12 * p + c) := fun c hc => by
        rw [f3, As_p (by omega) (by omega)]; unfold PEr; rw [if_neg (by omega)]; exact sP_1 p c (by omega) (by omega) (by omega) (by omega) (by omega) (by omega)
      rw [v 3 (by omega), v 4 (by omega)]
      refine ⟨by omega, by omega, ifI (fun e2 => ⟨by omega, u_282_296 (ih (by omega) _ ?_ ?_ ?_ τ' x4 y8)⟩) (fun e2 => u_282_296 (ih (by omega) _ f1 f2 ?_ τ' x4 y8))⟩
      · intro c h1 h2 h3 h4; rw [uc_n h2]; exact f1 c h1 h2 h3 h4
      · intro k hk; rw [uc_n (by decide)]; exact f2 k hk
      · rw [uc_s, f3, As_up (by omega) (by omega)]
        refine As_c (fun _ _ => rfl) (fun x c _ _ _ _ => ?_) (fun _ _ _ _ _ _ => rfl) (fun _ _ _ _ _ _ => rfl)
        unfold t2 PEr
        by_cases c1 : x = p ∧ c = 7
        · obtain ⟨rfl, rfl⟩ := c1
          rw [if_pos ⟨rfl, rfl⟩, if_pos ⟨rfl, by omega, e2⟩]
        · rw [if_neg c1]
          by_cases c2 : c = 7 ∧ x < p ∧ wk_wv a m x
          · rw [if_pos c2, if_pos ⟨c2.1, by omega, c2.2.2⟩]
          · rw [if_neg c2, if_neg (fun q => c2 ⟨q.1, by omega, q.2.2⟩)]
      · rw [f3]
        refine As_c (fun _ _ => rfl) (fun x c _ _ _ _ => ?_) (fun _ _ _ _ _ _ => rfl) (fun _ _ _ _ _ _ => rfl)
        unfold PEr
        by_cases c2 : c = 7 ∧ x < p ∧ wk_wv a m x
        · rw [if_pos c2, if_pos ⟨c2.1, by omega, c2.2.2⟩]
        · rw [if_neg c2, if_neg (fun q => c2 ⟨q.1, by
            have := q.2.1
            by_cases ex : x = p
            · subst ex; exact absurd q.2.2 e2
            · omega, q.2.2⟩)]
  -- the ORDERS
  have ords : ∀ o, 0 ≤ o → o ≤ a 7 → ∀ σ' : zI, (∀ c, c ≠ 83 → c ≠ 84 → c ≠ 91 → c ≠ 92 → σ' c = σ c) → (∀ k, k < 22 ∨ 25 < k → σ' 83 k = σ 83 k) → σ' 84 = As a1 (PE1 a m) (MI1 a m) (OD1 a m) → ∀ τ' y6 y7 y8, wi (d + 10) 282 8 [.ref 83, .int (wI m), .int (wI (a 0)), .int (wI (wk_b a (wk_T a m) m o).1), .int (wI (wk_b a (wk_T a m) m o).2), .int (wI o), y6, y7, y8] [] S σ' τ' Q := by
    refine lp_up (fun o q0 q1 ih => ?_)
    intro σ' f1 f2 f3 τ' y6 y7 y8
    have hB : eB a (σ' 84) := by rw [f3]; exact bA
    have bb := wk_b_b (tk := wk_T a m) (m := m) o q0 q1
    have gb : -120000 ≤ (wk_b a (wk_T a m) m o).2 ∧ (wk_b a (wk_T a m) m o).2 ≤ 10000 ∨ (wk_b a (wk_T a m) m o).1 = -1 := by
      by_cases c : 0 ≤ (wk_b a (wk_T a m) m o).1
      · left
        rw [(bb.2.2 c).2]
        exact (wk_gn_b p2 p3 p5 ⟨c, by omega⟩).2.2.1
      · right; omega
    refine u_282_8 ?_
    rw [hB 7 (by omega)]
    refine ⟨by omega, ifI (fun e => ?_) (fun e => ?_)⟩
    · have e : o = a 7 := by omega
      subst e
      have eo : (wk_b a (wk_T a m) m (a 7)).1 = wk_bo a (wk_T a m) m := rfl
      have eg : (wk_b a (wk_T a m) m (a 7)).2 = wk_bg a (wk_T a m) m := rfl
      rw [eo, eg]
      rw [eo, eg] at gb
      rw [eo] at bb
      have no : ¬ wk_O a m → wi (d + 10) 282 213 [.ref 83, .int (wI m), .int (wI (a 0)), .int (wI (wk_bo a (wk_T a m) m)), .int (wI (wk_bg a (wk_T a m) m)), .int (wI (a 7)), y6, y7, y8] [] S σ' τ' Q := fun hO => by
        refine u_282_213 (t _ _ ⟨?_, f1, f2⟩)
        rw [f3]
        exact As_c (fun _ _ => rfl) (fun x c _ _ _ _ => (PE1_no (Or.inl hO) x c).symm) (fun x c _ _ _ _ => (MI1_no p7.2 hO x c).symm) (fun x c _ _ _ _ => (OD1_no p7.1 (fun q => hO q.1) x c).symm)
      have v3 : σ' 84 (3300 + 16 * m + 3) = a (3300 + 16 * m + 3) := by rw [f3, As_m (by omega) (by omega)]; exact sM_1 m 3 (by omega) (by omega) (by omega)
      have v7 : σ' 84 (3300 + 16 * m + 7) = a (3300 + 16 * m + 7) := by rw [f3, As_m (by omega) (by omega), MI1_0]; unfold MI0; rw [if_neg (by omega)]
      rw [v3, v7]
      refine ⟨by omega, ifI (fun e1 => no (fun q => by have := q.2.1; omega)) (fun e1 => ⟨by omega, by omega, ifI (fun e2 => ?_) (fun e2 => no (fun q => by have := q.2.2; omega))⟩)⟩
      have hO : wk_O a m := ⟨p8, by omega, e2⟩
      have ob := wk_ok_b p2 p3 p5 p7 hO
      have vk : σ' 84 (4372 + 8 * wk_bo a (wk_T a m) m) = wk_kd a (wk_T a m) m := by
        rw [f3, As_o0 (by omega)]; unfold OD1 wk_kd; rw [if_neg (by omega), Int.add_zero]
      rw [vk]
      refine ⟨by omega, by omega, ifI (fun e3 => ?_) (fun e3 => ?_)⟩
      · refine fin hO σ' f1 f2 ?_ τ' _ _ _
        rw [f3]
        exact As_c (fun _ _ => rfl) (fun x c _ _ _ _ => (PE1_no (Or.inr e3) x c).symm) (fun _ _ _ _ _ _ => rfl) (fun _ _ _ _ _ _ => rfl)
      · refine rests hO e3 0 (by omega) (by omega) σ' f1 f2 ?_ τ' _ _
        rw [f3]
        refine As_c (fun _ _ => rfl) (fun x c x0 _ _ _ => ?_) (fun _ _ _ _ _ _ => rfl) (fun _ _ _ _ _ _ => rfl)
        unfold PEr
        rw [if_neg (by omega)]
    · have hOr := (jO p2).1 o q0 (by omega)
      have rd : ∀ c, 0 ≤ c → c < 8 → c ≠ 5 → σ' 84 (4372 + 8 * o + c) = a (4372 + 8 * o + c) := fun c c0 c1 c5 => by
        rw [f3, As_o (by omega) (by omega)]; unfold OD1; rw [if_neg (by omega)]
      have rd0 : σ' 84 (4372 + 8 * o) = a (4372 + 8 * o) := by
        have := rd 0 (by omega) (by omega) (by omega); rw [Int.add_zero] at this; exact this
      have rd5 : σ' 84 (4372 + 8 * o + 5) = wk_T a m o := by rw [f3, As_o (by omega) (by omega)]; unfold OD1; rw [if_pos (by omega)]
      have tb := wk_T_b p2 p3 p5 m p7.1 (by omega) o q0 (by omega)
      have gn := wk_gn_b p2 p3 p5 (m := m) (o := o) ⟨q0, by omega⟩
      have ih := ih (by omega)
      have bs := wk_b_s (a := a) (tk := wk_T a m) (m := m) q0
      have b83 : σ' 83 29 = wk_ct a := by rw [f2 29 (by omega)]; exact p9
      rw [rd 3 (by omega) (by omega) (by omega), rd 4 (by omega) (by omega) (by omega), rd 1 (by omega) (by omega) (by omega), rd 2 (by omega) (by omega) (by omega), rd5, rd0, hB 11 (by omega)]
      have skip : ¬ wk_op a (wk_T a m) o → ∀ y7 y8, wi (d + 10) 282 192 [.ref 83, .int (wI m), .int (wI (a 0)), .int (wI (wk_b a (wk_T a m) m o).1), .int (wI (wk_b a (wk_T a m) m o).2), .int (wI o), .int (wI (4372 + 8 * o)), y7, y8] [] S σ' τ' Q := fun hn y7 y8 => by
        rw [if_neg hn] at bs
        rw [bs] at ih
        exact u_282_192 (ih σ' f1 f2 f3 τ' _ _ _)
      refine ⟨by omega, by omega, by omega, ifI (fun e1 => ⟨by omega, by omega, by omega, ifI (fun e2 => ?_) (fun e2 => skip (fun q => e2 q.2) _ _)⟩) (fun e1 => skip (fun q => e1 q.1) _ _)⟩
      rw [if_pos (show wk_op a (wk_T a m) o from ⟨e1, e2⟩)] at bs
      refine ⟨by omega, by omega, eB_l hB hC' (Jl_of p2), jT_c (eB_L hB) hC' p3, jE_c (eB_L hB) hC' p3 p4, by omega, by omega, fun σ2 τ2 fr _ _ => ?_⟩
      have s84 : σ2 84 = σ' 84 := fr.1 84 (by decide) (by decide) (by decide)
      have g1 : ∀ c, c ≠ 83 → c ≠ 84 → c ≠ 91 → c ≠ 92 → σ2 c = σ c := fun c h1 h2 h3 h4 => by rw [fr.1 c h1 h3 h4]; exact f1 c h1 h2 h3 h4
      have g2 : ∀ k, k < 22 ∨ 25 < k → σ2 83 k = σ 83 k := fun k hk => by rw [fr.2.1 k hk]; exact f2 k hk
      have g3 : σ2 84 = As a1 (PE1 a m) (MI1 a m) (OD1 a m) := by rw [s84]; exact f3
      have c83 : σ2 83 29 = wk_ct a := by rw [g2 29 (by omega)]; exact p9
      rw [s84, rd0, c83, pay_c (eB_L hB) (Jl_of p2) p3 p4 (by omega), hB (20 + 8 * a (4372 + 8 * o) + 3) (by omega), rd 4 (by omega) (by omega) (by omega)]
      have eg : a (4372 + 8 * o + 2) - a 11 - r_pay a (a (4372 + 8 * o)) m (a 0) (a 0) - (a (20 + 8 * a (4372 + 8 * o) + 3) * wk_ct a).tdiv 400 = wk_gn a m o := rfl
      rw [eg]
      have take : ¬ (0 ≤ (wk_b a (wk_T a m) m o).1 ∧ (wk_gn a m o < (wk_b a (wk_T a m) m o).2 ∨ wk_gn a m o = (wk_b a (wk_T a m) m o).2 ∧ a (4372 + 8 * (wk_b a (wk_T a m) m o).1 + 4) ≤ a (4372 + 8 * o + 4))) → wi (d + 10) 282 185 [.ref 83, .int (wI m), .int (wI (a 0)), .int (wI (wk_b a (wk_T a m) m o).1), .int (wI (wk_b a (wk_T a m) m o).2), .int (wI o), .int (wI (4372 + 8 * o)), .int (wI (wk_gn a m o)), y8] [] S σ2 τ2 Q := fun hn => by
        rw [if_neg hn] at bs
        rw [bs] at ih
        exact u_282_185 (u_282_192 (ih σ2 g1 g2 g3 τ2 _ _ _))
      have keep : (0 ≤ (wk_b a (wk_T a m) m o).1 ∧ (wk_gn a m o < (wk_b a (wk_T a m) m o).2 ∨ wk_gn a m o = (wk_b a (wk_T a m) m o).2 ∧ a (4372 + 8 * (wk_b a (wk_T a m) m o).1 + 4) ≤ a (4372 + 8 * o + 4))) → wi (d + 10) 282 192 [.ref 83, .int (wI m), .int (wI (a 0)), .int (wI (wk_b a (wk_T a m) m o).1), .int (wI (wk_b a (wk_T a m) m o).2), .int (wI o), .int (wI (4372 + 8 * o)), .int (wI (wk_gn a m o)), y8] [] S σ2 τ2 Q := fun hn => by
        rw [if_pos hn] at bs
        rw [bs] at ih
        exact u_282_192 (ih σ2 g1 g2 g3 τ2 _ _ _)
      refine ⟨by omega, by omega, by omega, ifI (fun e3 => take (by omega)) (fun e3 => ⟨by omega, by omega, ifI (fun e4 => keep ⟨by omega, Or.inl e4⟩) (fun e4 => ifI (fun e5 => ?_) (fun e5 => take (by omega)))⟩)⟩
      have rb : σ' 84 (4372 + 8 * (wk_b a (wk_T a m) m o).1 + 4) = a (4372 + 8 * (wk_b a (wk_T a m) m o).1 + 4) := by
        rw [f3, As_o (by omega) (by omega)]; unfold OD1; rw [if_neg (by omega)]
      rw [rb]
      exact ⟨by omega, ifI (fun e6 => take (by omega)) (fun e6 => keep (by omega))⟩
  exact ords 0 (by omega) (by omega) σ (fun _ _ _ _ _ => rfl) (fun _ _ => rfl) p0 τ _ _ _
