/-! ===== a WEEK of the class: MILLS pay, and the FUND (segments printed by wip/whole, contracts own work) ===== -/
def wk_Sw (a : Int → Int) (m q : Int) : Int := sI (fun p => if a (3652 + 12 * p + 4) = m then wk_Wf a p else 0) q
theorem wk_Sw_m {a : Int → Int} (hJ : Jv a) {m : Int} : wk_Sw a m (a 4) = wk_Sm a m (a 4) := by
  have e1 : wk_Sw a m (a 4) = sI (fun p => sI (fun q => if a (3652 + 12 * p + 4) = m then wk_e a q p else 0) (a 4)) (a 4) := by
    unfold wk_Sw wk_Wf
    exact sI_c (fun p _ _ => (sI_if (f := fun q => wk_e a q p)).symm)
  rw [e1, sI_sw (fun p q => if a (3652 + 12 * p + 4) = m then wk_e a q p else 0)]
  unfold wk_Sm
  refine sI_c (fun q q0 q1 => ?_)
  have hP := jP hJ q q0 q1
  try dsimp only
  have mate : a (3652 + 12 * q + 3) = 2 → a (3652 + 12 * a (3652 + 12 * q + 6) + 4) = a (3652 + 12 * q + 4) := fun h => (hP.2.2.2.2.2.2.2.2.2.2.2.1 h).2.2.2
  by_cases c : a (3652 + 12 * q + 4) = m
  · rw [if_pos c, ← wk_e_s hJ ⟨q0, q1⟩]
    refine sI_c (fun p _ _ => ?_)
    try dsimp only
    by_cases d : a (3652 + 12 * p + 4) = m
    · rw [if_pos d]
    · rw [if_neg d]
      unfold wk_e
      rw [if_neg (fun z => d (by rw [← z]; exact c)), if_neg (fun z => d (by rw [← z.2, mate z.1]; exact c))]
      rfl
  · rw [if_neg c]
    have : sI (fun p => if a (3652 + 12 * p + 4) = m then wk_e a q p else 0) (a 4) = sI (fun _ => 0) (a 4) := sI_c (fun p _ _ => by
      try dsimp only
      by_cases d : a (3652 + 12 * p + 4) = m
      · rw [if_pos d]
        unfold wk_e
        rw [if_neg (fun z => c (by rw [z]; exact d)), if_neg (fun z => c (by rw [← mate z.1, z.2]; exact d))]
        rfl
      · rw [if_neg d])
    rw [this, sI_z]
/-- what all are paid -/
theorem wk_pd_v {a : Int → Int} (hJ : Jv a) : wk_pd a (a 1) = sI (wk_Wf a) (a 4) := by
  rw [wk_Wsum hJ]
  have e1 : wk_pd a (a 1) = sI (fun m => sI (fun q => if wk_D a m then (if a (3652 + 12 * q + 4) = m then wk_v a q else 0) else 0) (a 4)) (a 1) := by
    unfold wk_pd wk_Sm
    exact sI_c (fun m _ _ => (sI_if (f := fun q => if a (3652 + 12 * q + 4) = m then wk_v a q else 0)).symm)
  rw [e1, sI_sw (fun m q => if wk_D a m then (if a (3652 + 12 * q + 4) = m then wk_v a q else 0) else 0)]
  refine sI_c (fun q q0 q1 => ?_)
  have hP := jP hJ q q0 q1
  try dsimp only
  by_cases m0 : 0 ≤ a (3652 + 12 * q + 4)
  · have : sI (fun m => if wk_D a m then (if a (3652 + 12 * q + 4) = m then wk_v a q else 0) else 0) (a 1) = sI (fun m => if m = a (3652 + 12 * q + 4) then wk_v a q else 0) (a 1) := sI_c (fun m _ _ => by
      try dsimp only
      by_cases e : a (3652 + 12 * q + 4) = m
      · rw [if_pos e, if_pos e.symm]
        by_cases d : wk_D a m
        · rw [if_pos d]
        · rw [if_neg d]
          exact ((wk_v_no (by rw [e]; exact d) 0).1).symm
      · rw [if_neg e, if_neg (fun z : m = a (3652 + 12 * q + 4) => e z.symm)]
        split <;> rfl)
    rw [this, sI_one ⟨m0, by omega⟩]
  · have : sI (fun m => if wk_D a m then (if a (3652 + 12 * q + 4) = m then wk_v a q else 0) else 0) (a 1) = sI (fun _ => 0) (a 1) := sI_c (fun m m1 _ => by
      try dsimp only
      rw [if_neg (show ¬ a (3652 + 12 * q + 4) = m by omega)]
      split <;> rfl)
    rw [this, sI_z]
    unfold wk_v wk_vx
    rw [if_neg (fun z => m0 z.1)]
def MIa (a : Int → Int) (q m c : Int) : Int := if c = 2 then zw (MIq a (a 4) m 2 - wk_Sw a m q) else MIq a (a 4) m c
def MIs (a : Int → Int) (n m c : Int) : Int := if m < n ∧ c = 2 then wk_c3 a m else if m < n ∧ c = 5 then wk_cl a m else if c = 2 then zw (MIq a (a 4) m 2 - wk_Sm a m (a 4)) else MIq a (a 4) m c
theorem wk_Sm_no {a : Int → Int} {m : Int} (h : ¬ wk_D a m) : wk_Sm a m (a 4) = 0 := by
  have : wk_Sm a m (a 4) = sI (fun _ => 0) (a 4) := sI_c (fun q _ _ => by
    try dsimp only
    split
    · next e => exact (wk_v_no (by rw [e]; exact h) 0).1
    · rfl)
  rw [this, sI_z]
theorem MIs_e {a : Int → Int} {m c : Int} (hm : m < a 1) : MIs a (a 1) m c = MI3 a (a 1) m c := by
  unfold MIs MI3
  by_cases d : wk_D a m
  · by_cases c2 : c = 2
    · subst c2
      rw [if_pos ⟨hm, rfl⟩, if_pos ⟨⟨hm, d⟩, Or.inl rfl⟩, if_pos rfl]
    · by_cases c5 : c = 5
      · subst c5
        rw [if_neg (by omega), if_pos ⟨hm, rfl⟩, if_pos ⟨⟨hm, d⟩, Or.inr rfl⟩, if_neg (by omega)]
      · rw [if_neg (by omega), if_neg (by omega), if_neg c2, if_neg (by omega)]
        unfold MIq MI2
        by_cases e : c = 2 ∨ c = 4 ∨ c = 10
        · rw [if_pos (show wk_D a m ∧ (c = 2 ∨ c = 4 ∨ c = 10) from ⟨d, e⟩), if_pos (show (m < a 1 ∧ wk_D a m) ∧ (c = 2 ∨ c = 4 ∨ c = 10) from ⟨⟨hm, d⟩, e⟩)]
        · rw [if_neg (fun z => e z.2), if_neg (fun z => e z.2)]
  · rw [if_neg (fun z : (m < a 1 ∧ wk_D a m) ∧ (c = 2 ∨ c = 5) => d z.1.2)]
    have e2 : MI2 a (a 1) m c = MI1 a (a 1) m c := by unfold MI2; rw [if_neg (fun z => d z.1.2)]
    rw [e2]
    by_cases c2 : c = 2
    · subst c2
      rw [if_pos ⟨hm, rfl⟩]
      unfold wk_c3 MI1 MI0
      rw [if_neg d, if_neg (by omega), if_neg (by omega)]
    · by_cases c5 : c = 5
      · subst c5
        rw [if_neg (by omega), if_pos ⟨hm, rfl⟩]
        unfold wk_cl MI1 MI0
        rw [if_neg (fun z => d z.1), if_neg (by omega), if_neg (by omega)]
      · rw [if_neg (by omega), if_neg (by omega), if_neg c2]
        unfold MIq
        rw [if_neg (fun z => d z.1)]
theorem PEq_e {a : Int → Int} (hJ : Jv a) {p c : Int} (hp : 0 ≤ p ∧ p < a 4) : PEq a (a 4) p c = PE2 a (a 1) p c := by
  have hP := jP hJ p hp.1 hp.2
  unfold PEq PE2
  by_cases e : c = 7
  · subst e
    rw [if_pos ⟨rfl, hp.2⟩]
    by_cases m0 : 0 ≤ a (3652 + 12 * p + 4)
    · rw [if_pos ⟨rfl, hp.2, m0, by omega⟩]
    · rw [if_neg (fun z => m0 z.2.2.1)]
      unfold PE1 PE0 wk_r2 wk_ry wk_r1 wk_rx
      rw [if_neg (fun z => by have := z.1.2; omega), if_neg (fun z => by have := z.1.2; omega), if_neg (by omega), if_neg (by omega)]
  · rw [if_neg (fun z => e z.1), if_neg (fun z => e z.1)]
/-- when the MILLS have paid -/
def CT3 (σ : zI) (t : Nat) (a : Int → Int) : Prop := CS σ t a (PE2 a (a 1)) (MI3 a (a 1)) (TKq a (a 4)) (OD3 a (a 1))
-- method 127: MillTown$Week.settleMills(LMillTown$Town;)V
theorem c_127_0 : pg_cd 127 0 = (1, 1, 0, 0, 0) := by decide +kernel
theorem c_127_1 : pg_cd 127 1 = (6, 1, 0, 2, 0) := by decide +kernel
theorem c_127_2 : pg_cd 127 2 = (3, 1, 0, 2, 0) := by decide +kernel
theorem c_127_3 : pg_cd 127 3 = (5, 1, 0, 1, 0) := by decide +kernel
theorem c_127_4 : pg_cd 127 4 = (45, 8, 143, 5, 0) := by decide +kernel
theorem c_127_7 : pg_cd 127 7 = (43, 4, 121, 2, 0) := by decide +kernel
theorem c_127_10 : pg_cd 127 10 = (37, 3, 0, 3, 54) := by decide +kernel
theorem c_127_13 : pg_cd 127 13 = (3, 1, 0, 2, 0) := by decide +kernel
theorem c_127_14 : pg_cd 127 14 = (1, 2, 0, 0, 60) := by decide +kernel
theorem c_127_16 : pg_cd 127 16 = (37, 3, 0, 3, 48) := by decide +kernel
theorem c_127_19 : pg_cd 127 19 = (5, 1, 0, 1, 0) := by decide +kernel
theorem c_127_20 : pg_cd 127 20 = (45, 8, 115, 2, 0) := by decide +kernel
theorem c_127_23 : pg_cd 127 23 = (5, 1, 0, 1, 0) := by decide +kernel
theorem c_127_24 : pg_cd 127 24 = (45, 8, 143, 5, 0) := by decide +kernel
theorem c_127_27 : pg_cd 127 27 = (3, 1, 0, 2, 0) := by decide +kernel
theorem c_127_28 : pg_cd 127 28 = (1, 1, 0, 0, 4) := by decide +kernel
theorem c_127_29 : pg_cd 127 29 = (80, 55, 118, 0, 0) := by decide +kernel
theorem c_127_32 : pg_cd 127 32 = (1, 1, 0, 0, 2) := by decide +kernel
theorem c_127_33 : pg_cd 127 33 = (5, 1, 0, 0, 0) := by decide +kernel
theorem c_127_34 : pg_cd 127 34 = (45, 9, 29, 3, 0) := by decide +kernel
theorem c_127_37 : pg_cd 127 37 = (3, 1, 0, 2, 0) := by decide +kernel
theorem c_127_38 : pg_cd 127 38 = (50, 1, 0, 0, 0) := by decide +kernel
theorem c_127_39 : pg_cd 127 39 = (21, 1, 0, 0, 0) := by decide +kernel
theorem c_127_40 : pg_cd 127 40 = (80, 57, 190, 0, 0) := by decide +kernel
theorem c_127_43 : pg_cd 127 43 = (5, 1, 0, 0, 0) := by decide +kernel
theorem c_127_44 : pg_cd 127 44 = (33, 1, 0, 0, 0) := by decide +kernel
theorem c_127_45 : pg_cd 127 45 = (43, 9, 45, 9, 0) := by decide +kernel
theorem c_127_48 : pg_cd 127 48 = (5, 1, 0, 0, 0) := by decide +kernel
theorem c_127_49 : pg_cd 127 49 = (45, 9, 29, 3, 0) := by decide +kernel
theorem c_127_52 : pg_cd 127 52 = (3, 1, 0, 2, 0) := by decide +kernel
theorem c_127_53 : pg_cd 127 53 = (50, 1, 0, 0, 0) := by decide +kernel
theorem c_127_54 : pg_cd 127 54 = (10, 1, 0, 0, 0) := by decide +kernel
theorem c_127_55 : pg_cd 127 55 = (46, 9, 45, 9, 0) := by decide +kernel
theorem c_127_58 : pg_cd 127 58 = (9, 3, 0, 2, 1) := by decide +kernel
theorem c_127_61 : pg_cd 127 61 = (38, 3, 0, 0, (-59)) := by decide +kernel
theorem c_127_64 : pg_cd 127 64 = (1, 1, 0, 0, 0) := by decide +kernel
theorem c_127_65 : pg_cd 127 65 = (6, 1, 0, 2, 0) := by decide +kernel
theorem c_127_66 : pg_cd 127 66 = (3, 1, 0, 2, 0) := by decide +kernel
theorem c_127_67 : pg_cd 127 67 = (5, 1, 0, 1, 0) := by decide +kernel
theorem c_127_68 : pg_cd 127 68 = (45, 8, 115, 2, 0) := by decide +kernel
theorem c_127_71 : pg_cd 127 71 = (43, 4, 121, 2, 0) := by decide +kernel
theorem c_127_74 : pg_cd 127 74 = (37, 3, 0, 3, 102) := by decide +kernel
theorem c_127_77 : pg_cd 127 77 = (5, 1, 0, 1, 0) := by decide +kernel
theorem c_127_78 : pg_cd 127 78 = (45, 8, 115, 2, 0) := by decide +kernel
theorem c_127_81 : pg_cd 127 81 = (3, 1, 0, 2, 0) := by decide +kernel
theorem c_127_82 : pg_cd 127 82 = (1, 2, 0, 0, 9) := by decide +kernel
theorem c_127_84 : pg_cd 127 84 = (80, 55, 118, 0, 0) := by decide +kernel
theorem c_127_87 : pg_cd 127 87 = (6, 1, 0, 3, 0) := by decide +kernel
theorem c_127_88 : pg_cd 127 88 = (5, 1, 0, 1, 0) := by decide +kernel
theorem c_127_89 : pg_cd 127 89 = (45, 8, 115, 2, 0) := by decide +kernel
theorem c_127_92 : pg_cd 127 92 = (3, 1, 0, 2, 0) := by decide +kernel
theorem c_127_93 : pg_cd 127 93 = (1, 2, 0, 0, 8) := by decide +kernel
theorem c_127_95 : pg_cd 127 95 = (80, 55, 118, 0, 0) := by decide +kernel
theorem c_127_98 : pg_cd 127 98 = (6, 2, 0, 4, 0) := by decide +kernel
theorem c_127_100 : pg_cd 127 100 = (5, 1, 0, 1, 0) := by decide +kernel
theorem c_127_101 : pg_cd 127 101 = (45, 8, 115, 2, 0) := by decide +kernel
theorem c_127_104 : pg_cd 127 104 = (3, 1, 0, 2, 0) := by decide +kernel
theorem c_127_105 : pg_cd 127 105 = (1, 1, 0, 0, 2) := by decide +kernel
theorem c_127_106 : pg_cd 127 106 = (3, 1, 0, 3, 0) := by decide +kernel
theorem c_127_107 : pg_cd 127 107 = (5, 1, 0, 1, 0) := by decide +kernel
theorem c_127_108 : pg_cd 127 108 = (45, 8, 105, 6, 0) := by decide +kernel
theorem c_127_111 : pg_cd 127 111 = (3, 2, 0, 4, 0) := by decide +kernel
theorem c_127_113 : pg_cd 127 113 = (1, 1, 0, 0, 2) := by decide +kernel
theorem c_127_114 : pg_cd 127 114 = (80, 55, 118, 0, 0) := by decide +kernel
theorem c_127_117 : pg_cd 127 117 = (5, 1, 0, 1, 0) := by decide +kernel
theorem c_127_118 : pg_cd 127 118 = (43, 8, 158, 11, 0) := by decide +kernel
theorem c_127_121 : pg_cd 127 121 = (11, 1, 0, 0, 0) := by decide +kernel
theorem c_127_122 : pg_cd 127 122 = (12, 1, 0, 0, 0) := by decide +kernel
theorem c_127_123 : pg_cd 127 123 = (80, 57, 190, 0, 0) := by decide +kernel
theorem c_127_126 : pg_cd 127 126 = (5, 1, 0, 1, 0) := by decide +kernel
theorem c_127_127 : pg_cd 127 127 = (45, 8, 105, 6, 0) := by decide +kernel
theorem c_127_130 : pg_cd 127 130 = (3, 2, 0, 4, 0) := by decide +kernel
theorem c_127_132 : pg_cd 127 132 = (1, 1, 0, 0, 1) := by decide +kernel
theorem c_127_133 : pg_cd 127 133 = (3, 1, 0, 3, 0) := by decide +kernel
theorem c_127_134 : pg_cd 127 134 = (21, 1, 0, 0, 0) := by decide +kernel
theorem c_127_135 : pg_cd 127 135 = (80, 57, 190, 0, 0) := by decide +kernel
theorem c_127_138 : pg_cd 127 138 = (5, 1, 0, 0, 0) := by decide +kernel
theorem c_127_139 : pg_cd 127 139 = (33, 1, 0, 0, 0) := by decide +kernel
theorem c_127_140 : pg_cd 127 140 = (43, 9, 42, 8, 0) := by decide +kernel
theorem c_127_143 : pg_cd 127 143 = (3, 1, 0, 3, 0) := by decide +kernel
theorem c_127_144 : pg_cd 127 144 = (10, 1, 0, 0, 0) := by decide +kernel
theorem c_127_145 : pg_cd 127 145 = (46, 9, 42, 8, 0) := by decide +kernel
theorem c_127_148 : pg_cd 127 148 = (5, 1, 0, 1, 0) := by decide +kernel
theorem c_127_149 : pg_cd 127 149 = (45, 8, 115, 2, 0) := by decide +kernel
theorem c_127_152 : pg_cd 127 152 = (3, 1, 0, 2, 0) := by decide +kernel
theorem c_127_153 : pg_cd 127 153 = (1, 1, 0, 0, 2) := by decide +kernel
theorem c_127_154 : pg_cd 127 154 = (80, 55, 118, 0, 0) := by decide +kernel
theorem c_127_157 : pg_cd 127 157 = (36, 3, 0, 3, 13) := by decide +kernel
theorem c_127_160 : pg_cd 127 160 = (5, 1, 0, 1, 0) := by decide +kernel
theorem c_127_161 : pg_cd 127 161 = (45, 8, 115, 2, 0) := by decide +kernel
theorem c_127_164 : pg_cd 127 164 = (3, 1, 0, 2, 0) := by decide +kernel
theorem c_127_165 : pg_cd 127 165 = (1, 1, 0, 0, 4) := by decide +kernel
theorem c_127_166 : pg_cd 127 166 = (1, 1, 0, 0, 1) := by decide +kernel
theorem c_127_167 : pg_cd 127 167 = (80, 56, 171, 0, 0) := by decide +kernel
theorem c_127_170 : pg_cd 127 170 = (9, 3, 0, 2, 1) := by decide +kernel
theorem c_127_173 : pg_cd 127 173 = (38, 3, 0, 0, (-107)) := by decide +kernel
theorem c_127_176 : pg_cd 127 176 = (94, 0, 0, 0, 0) := by decide +kernel
theorem mi_127 : pg_mc 127 = 9 ∧ pg_na 127 = 1 ∧ pg_mx 127 = 5 := by decide +kernel
set_option maxRecDepth 20000 in
theorem u_127_0 {d : Nat} {S : zS} {σ τ : zI} {Q : zQ} {x1 : Nat} (hx1 : tw x1) (t : wi (d + 1) 127 2 [.ref 53, .ref x1, .int (wI 0), .retAddr 0, .retAddr 0] [] S σ τ Q) : wi (d + 1) 127 0 [.ref 53, .ref x1, .retAddr 0, .retAddr 0, .retAddr 0] [] S σ τ Q := by
  refine i1 c_127_0 (i6 (L' := [.ref 53, .ref x1, .int (wI 0), .retAddr 0, .retAddr 0]) c_127_1 rfl t)
set_option maxRecDepth 20000 in
theorem u_127_2 {d : Nat} {S : zS} {σ τ : zI} {Q : zQ} {x1 : Nat} {x2 : Int} {y3 : Value} {y4 : Value} (hx1 : tw x1) (t : (rg x2) ∧ if (σ (x1 + 11) 2) ≤ x2 then (wi (d + 1) 127 66 [.ref 53, .ref x1, .int (wI 0), y3, y4] [] S σ τ Q) else (if (60 : Int) ≤ x2 then (wi (d + 1) 127 66 [.ref 53, .ref x1, .int (wI 0), y3, y4] [] S σ τ Q) else ((0 ≤ x2 ∧ x2 < 60) ∧ if 0 ≤ rt_ (σ (x1 + 11) 2) (σ (x1 + 12)) 9 4 x2 ∧ rt_ (σ (x1 + 11) 2) (σ (x1 + 12)) 9 4 x2 < (σ (x1 + 5) 2) then (∃ w7 : Int, wI w7 = wI ((σ (x1 + 6) ((rt_ (σ (x1 + 11) 2) (σ (x1 + 12)) 9 4 x2) * 13 + 2)) + (-(σ 61 x2))) ∧ rg w7 ∧ ∃ w11 : Int, wI w11 = wI ((σ 53 9) + (σ 61 x2)) ∧ rg w11 ∧ wi (d + 1) 127 2 [.ref 53, .ref x1, .int (wI (x2 + 1)), y3, y4] [] S (uc (uc σ (x1 + 6) (u1 (σ (x1 + 6)) ((rt_ (σ (x1 + 11) 2) (σ (x1 + 12)) 9 4 x2) * 13 + 2) w7)) 53 (u1 (σ 53) 9 w11)) τ Q) else (∃ w14 : Int, wI w14 = wI ((σ 53 9) + (σ 61 x2)) ∧ rg w14 ∧ wi (d + 1) 127 2 [.ref 53, .ref x1, .int (wI (x2 + 1)), y3, y4] [] S (uc σ 53 (u1 (σ 53) 9 w14)) τ Q)))) : wi (d + 1) 127 2 [.ref 53, .ref x1, .int (wI x2), y3, y4] [] S σ τ Q := by
  refine i3 c_127_2 rfl (i5 c_127_3 rfl (i45 c_127_4 (lo (lyt_0 hx1) (by have := tw_b hx1; omega)) (lro (lrt_5 hx1)) (wi_ok (fun K1 => ?_))))
  obtain ⟨r2, t⟩ := t
  refine i43 (v := σ (x1 + 11) 2) c_127_7 (lo (lyt_11 hx1) (by have := tw_b hx1; omega)) rfl ?_
  refine i37 c_127_10 r2 (rge_ K1 rfl) rfl (fun hc => ?_) (fun hc => ?_)
  · have t := iT t hc
    have ha3 : (σ (x1 + 11) 2) ≤ x2 := hc
    refine i1 c_127_64 (i6 (L' := [.ref 53, .ref x1, .int (wI 0), y3, y4]) c_127_65 rfl t)
  · have t := iF t hc
    have ha3 : ¬ ((σ (x1 + 11) 2) ≤ x2) := hc
    refine i3 c_127_13 rfl (i1 c_127_14 ?_)
    refine i37 c_127_16 r2 (by decide) rfl (fun hc => ?_) (fun hc => ?_)
    · have t := iT t hc
      have ha4 : (60 : Int) ≤ x2 := hc
      refine i1 c_127_64 (i6 (L' := [.ref 53, .ref x1, .int (wI 0), y3, y4]) c_127_65 rfl t)
    · have t := iF t hc
      have ha4 : ¬ ((60 : Int) ≤ x2) := hc
      refine i5 c_127_19 rfl (i45 c_127_20 (lo (lyt_0 hx1) (by have := tw_b hx1; omega)) (lro (lrt_2 hx1)) (i5 c_127_23 rfl (i45 c_127_24 (lo (lyt_0 hx1) (by have := tw_b hx1; omega)) (lro (lrt_5 hx1)) (i3 c_127_27 rfl (i1 c_127_28 ?_)))))
      refine i80 (As := [.int (wI x2), .int (wI 4)]) (rest := [.ref (x1 + 5)]) c_127_29 mi_55 rfl rfl (Nat.le_of_ble_eq_true rfl) (Nat.le_of_ble_eq_true rfl) (lo (lyt_11 hx1) (by have := tw_b hx1; omega)) (q_at (ow_persons hx1) r2 (by decide) ?_)
      show wi (d + 1) 127 32 [.ref 53, .ref x1, .int (wI x2), y3, y4] [.int (wI (rt_ (σ (x1 + 11) 2) (σ (x1 + 12)) 9 4 x2)), .ref (x1 + 5)] S σ τ Q
      obtain ⟨r5, t⟩ := t
      refine i1 c_127_32 (i5 c_127_33 rfl (i45 c_127_34 (lo (c := 53) (kd := 109) (n := 0) rfl (by decide)) (lro (c := 53) (k := 3) (j := 61) (by decide)) (i3 c_127_37 rfl (i50 (v := σ 61 x2) c_127_38 (lo (c := 61) (kd := 0) (n := 60) rfl (by decide)) (by decide) r5 rfl (i21 c_127_39 ?_)))))
      by_cases ha6 : 0 ≤ rt_ (σ (x1 + 11) 2) (σ (x1 + 12)) 9 4 x2 ∧ rt_ (σ (x1 + 11) 2) (σ (x1 + 12)) 9 4 x2 < (σ (x1 + 5) 2)
      · have t := iT t ha6
        obtain ⟨w7, e8, r9, t⟩ := t
        refine i80 (As := [.int (wI (rt_ (σ (x1 + 11) 2) (σ (x1 + 12)) 9 4 x2)), .int (wI 2), .int (wI (-(σ 61 x2)))]) (rest := []) c_127_40 mi_57 rfl rfl (Nat.le_of_ble_eq_true rfl) (Nat.le_of_ble_eq_true rfl) (lo (lyt_5 hx1) (by have := tw_b hx1; omega)) (q_raise (v2 := w7) (ow_mills hx1) (rg_rt_ (fun k => kO_r K1 _ k) _ _ _ _) ha6 (by decide) e8 r9 ?_)
        show wi (d + 1) 127 43 [.ref 53, .ref x1, .int (wI x2), y3, y4] [] S (uc σ (x1 + 6) (u1 (σ (x1 + 6)) ((rt_ (σ (x1 + 11) 2) (σ (x1 + 12)) 9 4 x2) * 13 + 2) w7)) τ Q
        refine i5 c_127_43 rfl (i33a c_127_44 (wi_ok (fun K10 => ?_)))
        obtain ⟨w11, e12, r13, t⟩ := t
        refine i43 (v := σ 53 9) c_127_45 (lo (c := 53) (kd := 109) (n := 0) rfl (by decide)) (congrFun (uc_ns rfl (by have := tw_b hx1; omega)) _) (i5 c_127_48 rfl (i45 c_127_49 (lo (c := 53) (kd := 109) (n := 0) rfl (by decide)) (lro (c := 53) (k := 3) (j := 61) (by decide)) (i3 c_127_52 rfl (i50 (v := σ 61 x2) c_127_53 (lo (c := 61) (kd := 0) (n := 60) rfl (by decide)) (by decide) r5 (congrFun (uc_ns rfl (by have := tw_b hx1; omega)) _) (i10 c_127_54 (i46 (σ1 := uc (uc σ (x1 + 6) (u1 (σ (x1 + 6)) ((rt_ (σ (x1 + 11) 2) (σ (x1 + 12)) 9 4 x2) * 13 + 2) w7)) 53 (u1 (σ 53) 9 w11)) c_127_55 (lo (c := 53) (kd := 109) (n := 0) rfl (by decide)) (by decide) e12 r13 (wr_ (uc_ns rfl (by have := tw_b hx1; omega)) rfl) (i9 (L' := [.ref 53, .ref x1, .int (wI (x2 + 1)), y3, y4]) c_127_58 rfl rfl (i38 c_127_61 rfl t))))))))
      · have t := iF t ha6
        refine i80 (As := [.int (wI (rt_ (σ (x1 + 11) 2) (σ (x1 + 12)) 9 4 x2)), .int (wI 2), .int (wI (-(σ 61 x2)))]) (rest := []) c_127_40 mi_57 rfl rfl (Nat.le_of_ble_eq_true rfl) (Nat.le_of_ble_eq_true rfl) (lo (lyt_5 hx1) (by have := tw_b hx1; omega)) (q_raiseN (ow_mills hx1) (rg_rt_ (fun k => kO_r K1 _ k) _ _ _ _) ha6 ?_)
        show wi (d + 1) 127 43 [.ref 53, .ref x1, .int (wI x2), y3, y4] [] S σ τ Q
        obtain ⟨w14, e15, r16, t⟩ := t
        refine i5 c_127_43 rfl (i33a c_127_44 (i43 (v := σ 53 9) c_127_45 (lo (c := 53) (kd := 109) (n := 0) rfl (by decide)) rfl (i5 c_127_48 rfl (i45 c_127_49 (lo (c := 53) (kd := 109) (n := 0) rfl (by decide)) (lro (c := 53) (k := 3) (j := 61) (by decide)) (i3 c_127_52 rfl (i50 (v := σ 61 x2) c_127_53 (lo (c := 61) (kd := 0) (n := 60) rfl (by decide)) (by decide) r5 rfl (i10 c_127_54 (i46 (σ1 := uc σ 53 (u1 (σ 53) 9 w14)) c_127_55 (lo (c := 53) (kd := 109) (n := 0) rfl (by decide)) (by decide) e15 r16 (wr_ rfl rfl) (i9 (L' := [.ref 53, .ref x1, .int (wI (x2 + 1)), y3, y4]) c_127_58 rfl rfl (i38 c_127_61 rfl t))))))))))
set_option maxRecDepth 20000 in
theorem u_127_66 {d : Nat} {S : zS} {σ τ : zI} {Q : zQ} {x1 : Nat} {x2 : Int} {y3 : Value} {y4 : Value} (hx1 : tw x1) (t : (rg x2) ∧ if (σ (x1 + 5) 2) ≤ x2 then (Q none S σ τ) else ((0 ≤ x2 ∧ x2 < (σ (x1 + 5) 2)) ∧ ∃ w5 : Int, wI w5 = wI ((σ (x1 + 6) (x2 * 13 + 2)) + ((rt_ (σ (x1 + 5) 2) (σ (x1 + 6)) 13 9 x2) * ((rt_ (σ (x1 + 13) 2) (σ (x1 + 14)) 6 2 (rt_ (σ (x1 + 5) 2) (σ (x1 + 6)) 13 8 x2)) - (σ x1 11)))) ∧ rg w5 ∧ if 0 ≤ rt_ (σ (x1 + 5) 2) (σ (x1 + 6)) 13 8 x2 ∧ rt_ (σ (x1 + 5) 2) (σ (x1 + 6)) 13 8 x2 < (σ (x1 + 13) 2) then (∃ w10 : Int, wI w10 = wI ((σ (x1 + 14) ((rt_ (σ (x1 + 5) 2) (σ (x1 + 6)) 13 8 x2) * 6 + 1)) + (-(rt_ (σ (x1 + 5) 2) (σ (x1 + 6)) 13 9 x2))) ∧ rg w10 ∧ ∃ w14 : Int, wI w14 = wI ((σ 53 8) + (rt_ (σ (x1 + 5) 2) (σ (x1 + 6)) 13 9 x2)) ∧ rg w14 ∧ if (0 : Int) ≤ (rt_ (σ (x1 + 5) 2) (u1 (σ (x1 + 6)) (x2 * 13 + 2) w5) 13 2 x2) then (wi (d + 1) 127 66 [.ref 53, .ref x1, .int (wI (x2 + 1)), .int (wI (rt_ (σ (x1 + 5) 2) (σ (x1 + 6)) 13 9 x2)), .int (wI (rt_ (σ (x1 + 5) 2) (σ (x1 + 6)) 13 8 x2))] [] S (uc (uc (uc σ (x1 + 6) (u1 (σ (x1 + 6)) (x2 * 13 + 2) w5)) (x1 + 14) (u1 (σ (x1 + 14)) ((rt_ (σ (x1 + 5) 2) (σ (x1 + 6)) 13 8 x2) * 6 + 1) w10)) 53 (u1 (σ 53) 8 w14)) τ Q) else (wi (d + 1) 127 66 [.ref 53, .ref x1, .int (wI (x2 + 1)), .int (wI (rt_ (σ (x1 + 5) 2) (σ (x1 + 6)) 13 9 x2)), .int (wI (rt_ (σ (x1 + 5) 2) (σ (x1 + 6)) 13 8 x2))] [] S (uc (uc (uc σ (x1 + 6) (u1 (u1 (σ (x1 + 6)) (x2 * 13 + 2) w5) (x2 * 13 + 4) 1)) (x1 + 14) (u1 (σ (x1 + 14)) ((rt_ (σ (x1 + 5) 2) (σ (x1 + 6)) 13 8 x2) * 6 + 1) w10)) 53 (u1 (σ 53) 8 w14)) τ Q)) else (∃ w20 : Int, wI w20 = wI ((σ 53 8) + (rt_ (σ (x1 + 5) 2) (σ (x1 + 6)) 13 9 x2)) ∧ rg w20 ∧ if (0 : Int) ≤ (rt_ (σ (x1 + 5) 2) (u1 (σ (x1 + 6)) (x2 * 13 + 2) w5) 13 2 x2) then (wi (d + 1) 127 66 [.ref 53, .ref x1, .int (wI (x2 + 1)), .int (wI (rt_ (σ (x1 + 5) 2) (σ (x1 + 6)) 13 9 x2)), .int (wI (rt_ (σ (x1 + 5) 2) (σ (x1 + 6)) 13 8 x2))] [] S (uc (uc σ (x1 + 6) (u1 (σ (x1 + 6)) (x2 * 13 + 2) w5)) 53 (u1 (σ 53) 8 w20)) τ Q) else (wi (d + 1) 127 66 [.ref 53, .ref x1, .int (wI (x2 + 1)), .int (wI (rt_ (σ (x1 + 5) 2) (σ (x1 + 6)) 13 9 x2)), .int (wI (rt_ (σ (x1 + 5) 2) (σ (x1 + 6)) 13 8 x2))] [] S (uc (uc σ (x1 + 6) (u1 (u1 (σ (x1 + 6)) (x2 * 13 + 2) w5) (x2 * 13 + 4) 1)) 53 (u1 (σ 53) 8 w20)) τ Q)))) : wi (d + 1) 127 66 [.ref 53, .ref x1, .int (wI x2), y3, y4] [] S σ τ Q := by
  refine i3 c_127_66 rfl (i5 c_127_67 rfl (i45 c_127_68 (lo (lyt_0 hx1) (by have := tw_b hx1; omega)) (lro (lrt_2 hx1)) (wi_ok (fun K1 => ?_))))
  obtain ⟨r2, t⟩ := t
  refine i43 (v := σ (x1 + 5) 2) c_127_71 (lo (lyt_5 hx1) (by have := tw_b hx1; omega)) rfl ?_
  refine i37 c_127_74 r2 (rge_ K1 rfl) rfl (fun hc => ?_) (fun hc => ?_)
  · have t := iT t hc
    have ha3 : (σ (x1 + 5) 2) ≤ x2 := hc
    exact i94 c_127_176 t
  · have t := iF t hc
    have ha3 : ¬ ((σ (x1 + 5) 2) ≤ x2) := hc
    refine i5 c_127_77 rfl (i45 c_127_78 (lo (lyt_0 hx1) (by have := tw_b hx1; omega)) (lro (lrt_2 hx1)) (i3 c_127_81 rfl (i1 c_127_82 ?_)))
    refine i80 (As := [.int (wI x2), .int (wI 9)]) (rest := []) c_127_84 mi_55 rfl rfl (Nat.le_of_ble_eq_true rfl) (Nat.le_of_ble_eq_true rfl) (lo (lyt_5 hx1) (by have := tw_b hx1; omega)) (q_at (ow_mills hx1) r2 (by decide) ?_)
    show wi (d + 1) 127 87 [.ref 53, .ref x1, .int (wI x2), y3, y4] [.int (wI (rt_ (σ (x1 + 5) 2) (σ (x1 + 6)) 13 9 x2))] S σ τ Q
    refine i6 (L' := [.ref 53, .ref x1, .int (wI x2), .int (wI (rt_ (σ (x1 + 5) 2) (σ (x1 + 6)) 13 9 x2)), y4]) c_127_87 rfl (i5 c_127_88 rfl (i45 c_127_89 (lo (lyt_0 hx1) (by have := tw_b hx1; omega)) (lro (lrt_2 hx1)) (i3 c_127_92 rfl (i1 c_127_93 ?_))))
    refine i80 (As := [.int (wI x2), .int (wI 8)]) (rest := []) c_127_95 mi_55 rfl rfl (Nat.le_of_ble_eq_true rfl) (Nat.le_of_ble_eq_true rfl) (lo (lyt_5 hx1) (by have := tw_b hx1; omega)) (q_at (ow_mills hx1) r2 (by decide) ?_)
    show wi (d + 1) 127 98 [.ref 53, .ref x1, .int (wI x2), .int (wI (rt_ (σ (x1 + 5) 2) (σ (x1 + 6)) 13 9 x2)), y4] [.int (wI (rt_ (σ (x1 + 5) 2) (σ (x1 + 6)) 13 8 x2))] S σ τ Q
    refine i6 (L' := [.ref 53, .ref x1, .int (wI x2), .int (wI (rt_ (σ (x1 + 5) 2) (σ (x1 + 6)) 13 9 x2)), .int (wI (rt_ (σ (x1 + 5) 2) (σ (x1 + 6)) 13 8 x2))]) c_127_98 rfl (i5 c_127_100 rfl (i45 c_127_101 (lo (lyt_0 hx1) (by have := tw_b hx1; omega)) (lro (lrt_2 hx1)) (i3 c_127_104 rfl (i1 c_127_105 (i3 c_127_106 rfl (i5 c_127_107 rfl (i45 c_127_108 (lo (lyt_0 hx1) (by have := tw_b hx1; omega)) (lro (lrt_6 hx1)) (i3 c_127_111 rfl (i1 c_127_113 ?_)))))))))
    refine i80 (As := [.int (wI (rt_ (σ (x1 + 5) 2) (σ (x1 + 6)) 13 8 x2)), .int (wI 2)]) (rest := [.int (wI (rt_ (σ (x1 + 5) 2) (σ (x1 + 6)) 13 9 x2)), .int (wI 2), .int (wI x2), .ref (x1 + 5)]) c_127_114 mi_55 rfl rfl (Nat.le_of_ble_eq_true rfl) (Nat.le_of_ble_eq_true rfl) (lo (lyt_13 hx1) (by have := tw_b hx1; omega)) (q_at (ow_orders hx1) (rg_rt_ (fun k => kO_r K1 _ k) _ _ _ _) (by decide) ?_)
    show wi (d + 1) 127 117 [.ref 53, .ref x1, .int (wI x2), .int (wI (rt_ (σ (x1 + 5) 2) (σ (x1 + 6)) 13 9 x2)), .int (wI (rt_ (σ (x1 + 5) 2) (σ (x1 + 6)) 13 8 x2))] [.int (wI (rt_ (σ (x1 + 13) 2) (σ (x1 + 14)) 6 2 (rt_ (σ (x1 + 5) 2) (σ (x1 + 6)) 13 8 x2))), .int (wI (rt_ (σ (x1 + 5) 2) (σ (x1 + 6)) 13 9 x2)), .int (wI 2), .int (wI x2), .ref (x1 + 5)] S σ τ Q
    obtain ⟨b4, t⟩ := t
    obtain ⟨w5, e6, r7, t⟩ := t
    refine i5 c_127_117 rfl (i43 (v := σ x1 11) c_127_118 (lo (lyt_0 hx1) (by have := tw_b hx1; omega)) rfl (i11 c_127_121 (i12 c_127_122 ?_)))
    refine i80 (As := [.int (wI x2), .int (wI 2), .int (wI ((rt_ (σ (x1 + 5) 2) (σ (x1 + 6)) 13 9 x2) * ((rt_ (σ (x1 + 13) 2) (σ (x1 + 14)) 6 2 (rt_ (σ (x1 + 5) 2) (σ (x1 + 6)) 13 8 x2)) - (σ x1 11))))]) (rest := []) c_127_123 mi_57 rfl rfl (Nat.le_of_ble_eq_true rfl) (Nat.le_of_ble_eq_true rfl) (lo (lyt_5 hx1) (by have := tw_b hx1; omega)) (q_raise (v2 := w5) (ow_mills hx1) r2 b4 (by decide) e6 r7 ?_)
    show wi (d + 1) 127 126 [.ref 53, .ref x1, .int (wI x2), .int (wI (rt_ (σ (x1 + 5) 2) (σ (x1 + 6)) 13 9 x2)), .int (wI (rt_ (σ (x1 + 5) 2) (σ (x1 + 6)) 13 8 x2))] [] S (uc σ (x1 + 6) (u1 (σ (x1 + 6)) (x2 * 13 + 2) w5)) τ Q
    refine i5 c_127_126 rfl (i45 c_127_127 (lo (lyt_0 hx1) (by have := tw_b hx1; omega)) (lro (lrt_6 hx1)) (i3 c_127_130 rfl (i1 c_127_132 (i3 c_127_133 rfl (i21 c_127_134 ?_)))))
    by_cases ha8 : 0 ≤ rt_ (σ (x1 + 5) 2) (σ (x1 + 6)) 13 8 x2 ∧ rt_ (σ (x1 + 5) 2) (σ (x1 + 6)) 13 8 x2 < (σ (x1 + 13) 2)
    · have t := iT t ha8
      refine wi_ok (fun K9 => ?_)
      obtain ⟨w10, e11, r12, t⟩ := t
      refine i80 (As := [.int (wI (rt_ (σ (x1 + 5) 2) (σ (x1 + 6)) 13 8 x2)), .int (wI 1), .int (wI (-(rt_ (σ (x1 + 5) 2) (σ (x1 + 6)) 13 9 x2)))]) (rest := []) c_127_135 mi_57 rfl rfl (Nat.le_of_ble_eq_true rfl) (Nat.le_of_ble_eq_true rfl) (lo (lyt_13 hx1) (by have := tw_b hx1; omega)) (q_raise (v2 := w10) (ow_orders hx1) (rg_rt_ (fun k => kO_r K1 _ k) _ _ _ _) (show 0 ≤ rt_ (σ (x1 + 5) 2) (σ (x1 + 6)) 13 8 x2 ∧ rt_ (σ (x1 + 5) 2) (σ (x1 + 6)) 13 8 x2 < (uc σ (x1 + 6) (u1 (σ (x1 + 6)) (x2 * 13 + 2) w5)) (x1 + 13) 2 by rw [(congrFun (uc_ns rfl (by have := tw_b hx1; have := tw_b hx1; omega)) _)]; exact ha8) (by decide) (Eq.trans (show wI w10 = wI ((σ (x1 + 14) ((rt_ (σ (x1 + 5) 2) (σ (x1 + 6)) 13 8 x2) * 6 + 1)) + (-(rt_ (σ (x1 + 5) 2) (σ (x1 + 6)) 13 9 x2))) from e11) (congrArg (fun q => wI (q + (-(rt_ (σ (x1 + 5) 2) (σ (x1 + 6)) 13 9 x2)))) (Eq.symm (congrFun (uc_ns rfl (by have := tw_b hx1; have := tw_b hx1; omega)) _)))) r12 ?_)
      show wi (d + 1) 127 138 [.ref 53, .ref x1, .int (wI x2), .int (wI (rt_ (σ (x1 + 5) 2) (σ (x1 + 6)) 13 9 x2)), .int (wI (rt_ (σ (x1 + 5) 2) (σ (x1 + 6)) 13 8 x2))] [] S (uc (uc σ (x1 + 6) (u1 (σ (x1 + 6)) (x2 * 13 + 2) w5)) (x1 + 14) (u1 ((uc σ (x1 + 6) (u1 (σ (x1 + 6)) (x2 * 13 + 2) w5)) (x1 + 14)) ((rt_ (σ (x1 + 5) 2) (σ (x1 + 6)) 13 8 x2) * 6 + 1) w10)) τ Q
      refine wi_s (σ1 := uc (uc σ (x1 + 6) (u1 (σ (x1 + 6)) (x2 * 13 + 2) w5)) (x1 + 14) (u1 (σ (x1 + 14)) ((rt_ (σ (x1 + 5) 2) (σ (x1 + 6)) 13 8 x2) * 6 + 1) w10)) (wr_ (uc_ns rfl (by have := tw_b hx1; have := tw_b hx1; omega)) rfl) (i5 c_127_138 rfl (i33a c_127_139 (wi_ok (fun K13 => ?_))))
      obtain ⟨w14, e15, r16, t⟩ := t
      refine i43 (v := σ 53 8) c_127_140 (lo (c := 53) (kd := 109) (n := 0) rfl (by decide)) (congrFun (uc_ns (uc_ns rfl (by have := tw_b hx1; omega)) (by have := tw_b hx1; omega)) _) (i3 c_127_143 rfl (i10 c_127_144 (i46 (σ1 := uc (uc (uc σ (x1 + 6) (u1 (σ (x1 + 6)) (x2 * 13 + 2) w5)) (x1 + 14) (u1 (σ (x1 + 14)) ((rt_ (σ (x1 + 5) 2) (σ (x1 + 6)) 13 8 x2) * 6 + 1) w10)) 53 (u1 (σ 53) 8 w14)) c_127_145 (lo (c := 53) (kd := 109) (n := 0) rfl (by decide)) (by decide) e15 r16 (wr_ (uc_ns (uc_ns rfl (by have := tw_b hx1; omega)) (by have := tw_b hx1; omega)) rfl) (i5 c_127_148 rfl (i45 c_127_149 (lo (lyt_0 hx1) (by have := tw_b hx1; omega)) (lro (lrt_2 hx1)) (i3 c_127_152 rfl (i1 c_127_153 (wi_ok (fun K17 => ?_)))))))))
      refine i80 (As := [.int (wI x2), .int (wI 2)]) (rest := []) c_127_154 mi_55 rfl rfl (Nat.le_of_ble_eq_true rfl) (Nat.le_of_ble_eq_true rfl) (lo (lyt_5 hx1) (by have := tw_b hx1; omega)) (q_at (ow_mills hx1) r2 (by decide) ?_)
      show wi (d + 1) 127 157 [.ref 53, .ref x1, .int (wI x2), .int (wI (rt_ (σ (x1 + 5) 2) (σ (x1 + 6)) 13 9 x2)), .int (wI (rt_ (σ (x1 + 5) 2) (σ (x1 + 6)) 13 8 x2))] [.int (wI (rt_ ((uc (uc (uc σ (x1 + 6) (u1 (σ (x1 + 6)) (x2 * 13 + 2) w5)) (x1 + 14) (u1 (σ (x1 + 14)) ((rt_ (σ (x1 + 5) 2) (σ (x1 + 6)) 13 8 x2) * 6 + 1) w10)) 53 (u1 (σ 53) 8 w14)) (x1 + 5) 2) ((uc (uc (uc σ (x1 + 6) (u1 (σ (x1 + 6)) (x2 * 13 + 2) w5)) (x1 + 14) (u1 (σ (x1 + 14)) ((rt_ (σ (x1 + 5) 2) (σ (x1 + 6)) 13 8 x2) * 6 + 1) w10)) 53 (u1 (σ 53) 8 w14)) (x1 + 6)) 13 2 x2))] S (uc (uc (uc σ (x1 + 6) (u1 (σ (x1 + 6)) (x2 * 13 + 2) w5)) (x1 + 14) (u1 (σ (x1 + 14)) ((rt_ (σ (x1 + 5) 2) (σ (x1 + 6)) 13 8 x2) * 6 + 1) w10)) 53 (u1 (σ 53) 8 w14)) τ Q
      refine wi_v (v := rt_ (σ (x1 + 5) 2) (u1 (σ (x1 + 6)) (x2 * 13 + 2) w5) 13 2 x2) (rt_c (congrFun (uc_ns (uc_ns (uc_ns rfl (by have := tw_b hx1; have := tw_b hx1; omega)) (by have := tw_b hx1; have := tw_b hx1; omega)) (by have := tw_b hx1; omega)) _) (uc_ns (uc_ns (uc_s _ _ _) (by have := tw_b hx1; have := tw_b hx1; omega)) (by have := tw_b hx1; omega))) ?_
      refine i36 c_127_157 (rg_rt_ (fun k => rge_ K17 (congrFun (uc_ns (uc_ns (uc_s _ _ _) (by have := tw_b hx1; have := tw_b hx1; omega)) (by have := tw_b hx1; omega)) k)) _ _ _ _) rfl (fun hc => ?_) (fun hc => ?_)
      · have t := iT t hc
        have ha18 : (0 : Int) ≤ (rt_ (σ (x1 + 5) 2) (u1 (σ (x1 + 6)) (x2 * 13 + 2) w5) 13 2 x2) := hc
        refine i9 (L' := [.ref 53, .ref x1, .int (wI (x2 + 1)), .int (wI (rt_ (σ (x1 + 5) 2) (σ (x1 + 6)) 13 9 x2)), .int (wI (rt_ (σ (x1 + 5) 2) (σ (x1 + 6)) 13 8 x2))]) c_127_170 rfl rfl (i38 c_127_173 rfl t)
      · have t := iF t hc
        have ha18 : ¬ ((0 : Int) ≤ (rt_ (σ (x1 + 5) 2) (u1 (σ (x1 + 6)) (x2 * 13 + 2) w5) 13 2 x2)) := hc
        refine i5 c_127_160 rfl (i45 c_127_161 (lo (lyt_0 hx1) (by have := tw_b hx1; omega)) (lro (lrt_2 hx1)) (i3 c_127_164 rfl (i1 c_127_165 (i1 c_127_166 ?_))))
        refine i80 (As := [.int (wI x2), .int (wI 4), .int (wI 1)]) (rest := []) c_127_167 mi_56 rfl rfl (Nat.le_of_ble_eq_true rfl) (Nat.le_of_ble_eq_true rfl) (lo (lyt_5 hx1) (by have := tw_b hx1; omega)) (q_put (v2 := 1) (ow_mills hx1) r2 (show 0 ≤ x2 ∧ x2 < (uc (uc (uc σ (x1 + 6) (u1 (σ (x1 + 6)) (x2 * 13 + 2) w5)) (x1 + 14) (u1 (σ (x1 + 14)) ((rt_ (σ (x1 + 5) 2) (σ (x1 + 6)) 13 8 x2) * 6 + 1) w10)) 53 (u1 (σ 53) 8 w14)) (x1 + 5) 2 by rw [(congrFun (uc_ns (uc_ns (uc_ns rfl (by have := tw_b hx1; have := tw_b hx1; omega)) (by have := tw_b hx1; have := tw_b hx1; omega)) (by have := tw_b hx1; omega)) _)]; exact b4) (by decide) rfl (by decide) ?_)
        show wi (d + 1) 127 170 [.ref 53, .ref x1, .int (wI x2), .int (wI (rt_ (σ (x1 + 5) 2) (σ (x1 + 6)) 13 9 x2)), .int (wI (rt_ (σ (x1 + 5) 2) (σ (x1 + 6)) 13 8 x2))] [] S (uc (uc (uc (uc σ (x1 + 6) (u1 (σ (x1 + 6)) (x2 * 13 + 2) w5)) (x1 + 14) (u1 (σ (x1 + 14)) ((rt_ (σ (x1 + 5) 2) (σ (x1 + 6)) 13 8 x2) * 6 + 1) w10)) 53 (u1 (σ 53) 8 w14)) (x1 + 6) (u1 ((uc (uc (uc σ (x1 + 6) (u1 (σ (x1 + 6)) (x2 * 13 + 2) w5)) (x1 + 14) (u1 (σ (x1 + 14)) ((rt_ (σ (x1 + 5) 2) (σ (x1 + 6)) 13 8 x2) * 6 + 1) w10)) 53 (u1 (σ 53) 8 w14)) (x1 + 6)) (x2 * 13 + 4) 1)) τ Q
        refine wi_s (σ1 := uc (uc (uc σ (x1 + 6) (u1 (u1 (σ (x1 + 6)) (x2 * 13 + 2) w5) (x2 * 13 + 4) 1)) (x1 + 14) (u1 (σ (x1 + 14)) ((rt_ (σ (x1 + 5) 2) (σ (x1 + 6)) 13 8 x2) * 6 + 1) w10)) 53 (u1 (σ 53) 8 w14)) (wr_ (uc_ns (uc_ns (uc_s _ _ _) (by have := tw_b hx1; have := tw_b hx1; omega)) (by have := tw_b hx1; omega)) (uc_cm (uc_cm (uc_uc _ _ _ _) (by have := tw_b hx1; have := tw_b hx1; omega)) (by have := tw_b hx1; omega))) (i9 (L' := [.ref 53, .ref x1, .int (wI (x2 + 1)), .int (wI (rt_ (σ (x1 + 5) 2) (σ (x1 + 6)) 13 9 x2)), .int (wI (rt_ (σ (x1 + 5) 2) (σ (x1 + 6)) 13 8 x2))]) c_127_170 rfl rfl (i38 c_127_173 rfl t))
    · have t := iF t ha8
      refine i80 (As := [.int (wI (rt_ (σ (x1 + 5) 2) (σ (x1 + 6)) 13 8 x2)), .int (wI 1), .int (wI (-(rt_ (σ (x1 + 5) 2) (σ (x1 + 6)) 13 9 x2)))]) (rest := []) c_127_135 mi_57 rfl rfl (Nat.le_of_ble_eq_true rfl) (Nat.le_of_ble_eq_true rfl) (lo (lyt_13 hx1) (by have := tw_b hx1; omega)) (q_raiseN (ow_orders hx1) (rg_rt_ (fun k => kO_r K1 _ k) _ _ _ _) (show ¬ (0 ≤ rt_ (σ (x1 + 5) 2) (σ (x1 + 6)) 13 8 x2 ∧ rt_ (σ (x1 + 5) 2) (σ (x1 + 6)) 13 8 x2 < (uc σ (x1 + 6) (u1 (σ (x1 + 6)) (x2 * 13 + 2) w5)) (x1 + 13) 2) by rw [(congrFun (uc_ns rfl (by have := tw_b hx1; have := tw_b hx1; omega)) _)]; exact ha8) ?_)
      show wi (d + 1) 127 138 [.ref 53, .ref x1, .int (wI x2), .int (wI (rt_ (σ (x1 + 5) 2) (σ (x1 + 6)) 13 9 x2)), .int (wI (rt_ (σ (x1 + 5) 2) (σ (x1 + 6)) 13 8 x2))] [] S (uc σ (x1 + 6) (u1 (σ (x1 + 6)) (x2 * 13 + 2) w5)) τ Q
      refine i5 c_127_138 rfl (i33a c_127_139 (wi_ok (fun K19 => ?_)))
      obtain ⟨w20, e21, r22, t⟩ := t
      refine i43 (v := σ 53 8) c_127_140 (lo (c := 53) (kd := 109) (n := 0) rfl (by decide)) (congrFun (uc_ns rfl (by have := tw_b hx1; omega)) _) (i3 c_127_143 rfl (i10 c_127_144 (i46 (σ1 := uc (uc σ (x1 + 6) (u1 (σ (x1 + 6)) (x2 * 13 + 2) w5)) 53 (u1 (σ 53) 8 w20)) c_127_145 (lo (c := 53) (kd := 109) (n := 0) rfl (by decide)) (by decide) e21 r22 (wr_ (uc_ns rfl (by have := tw_b hx1; omega)) rfl) (i5 c_127_148 rfl (i45 c_127_149 (lo (lyt_0 hx1) (by have := tw_b hx1; omega)) (lro (lrt_2 hx1)) (i3 c_127_152 rfl (i1 c_127_153 (wi_ok (fun K23 => ?_)))))))))
      refine i80 (As := [.int (wI x2), .int (wI 2)]) (rest := []) c_127_154 mi_55 rfl rfl (Nat.le_of_ble_eq_true rfl) (Nat.le_of_ble_eq_true rfl) (lo (lyt_5 hx1) (by have := tw_b hx1; omega)) (q_at (ow_mills hx1) r2 (by decide) ?_)
      show wi (d + 1) 127 157 [.ref 53, .ref x1, .int (wI x2), .int (wI (rt_ (σ (x1 + 5) 2) (σ (x1 + 6)) 13 9 x2)), .int (wI (rt_ (σ (x1 + 5) 2) (σ (x1 + 6)) 13 8 x2))] [.int (wI (rt_ ((uc (uc σ (x1 + 6) (u1 (σ (x1 + 6)) (x2 * 13 + 2) w5)) 53 (u1 (σ 53) 8 w20)) (x1 + 5) 2) ((uc (uc σ (x1 + 6) (u1 (σ (x1 + 6)) (x2 * 13 + 2) w5)) 53 (u1 (σ 53) 8 w20)) (x1 + 6)) 13 2 x2))] S (uc (uc σ (x1 + 6) (u1 (σ (x1 + 6)) (x2 * 13 + 2) w5)) 53 (u1 (σ 53) 8 w20)) τ Q
      refine wi_v (v := rt_ (σ (x1 + 5) 2) (u1 (σ (x1 + 6)) (x2 * 13 + 2) w5) 13 2 x2) (rt_c (congrFun (uc_ns (uc_ns rfl (by have := tw_b hx1; have := tw_b hx1; omega)) (by have := tw_b hx1; omega)) _) (uc_ns (uc_s _ _ _) (by have := tw_b hx1; omega))) ?_
      refine i36 c_127_157 (rg_rt_ (fun k => rge_ K23 (congrFun (uc_ns (uc_s _ _ _) (by have := tw_b hx1; omega)) k)) _ _ _ _) rfl (fun hc => ?_) (fun hc => ?_)
      · have t := iT t hc
        have ha24 : (0 : Int) ≤ (rt_ (σ (x1 + 5) 2) (u1 (σ (x1 + 6)) (x2 * 13 + 2) w5) 13 2 x2) := hc
        refine i9 (L' := [.ref 53, .ref x1, .int (wI (x2 + 1)), .int (wI (rt_ (σ (x1 + 5) 2) (σ (x1 + 6)) 13 9 x2)), .int (wI (rt_ (σ (x1 + 5) 2) (σ (x1 + 6)) 13 8 x2))]) c_127_170 rfl rfl (i38 c_127_173 rfl t)
      · have t := iF t hc
        have ha24 : ¬ ((0 : Int) ≤ (rt_ (σ (x1 + 5) 2) (u1 (σ (x1 + 6)) (x2 * 13 + 2) w5) 13 2 x2)) := hc
        refine i5 c_127_160 rfl (i45 c_127_161 (lo (lyt_0 hx1) (by have := tw_b hx1; omega)) (lro (lrt_2 hx1)) (i3 c_127_164 rfl (i1 c_127_165 (i1 c_127_166 ?_))))
        refine i80 (As := [.int (wI x2), .int (wI 4), .int (wI 1)]) (rest := []) c_127_167 mi_56 rfl rfl (Nat.le_of_ble_eq_true rfl) (Nat.le_of_ble_eq_true rfl) (lo (lyt_5 hx1) (by have := tw_b hx1; omega)) (q_put (v2 := 1) (ow_mills hx1) r2 (show 0 ≤ x2 ∧ x2 < (uc (uc σ (x1 + 6) (u1 (σ (x1 + 6)) (x2 * 13 + 2) w5)) 53 (u1 (σ 53) 8 w20)) (x1 + 5) 2 by rw [(congrFun (uc_ns (uc_ns rfl (by have := tw_b hx1; have := tw_b hx1; omega)) (by have := tw_b hx1; omega)) _)]; exact b4) (by decide) rfl (by decide) ?_)
        show wi (d + 1) 127 170 [.ref 53, .ref x1, .int (wI x2), .int (wI (rt_ (σ (x1 + 5) 2) (σ (x1 + 6)) 13 9 x2)), .int (wI (rt_ (σ (x1 + 5) 2) (σ (x1 + 6)) 13 8 x2))] [] S (uc (uc (uc σ (x1 + 6) (u1 (σ (x1 + 6)) (x2 * 13 + 2) w5)) 53 (u1 (σ 53) 8 w20)) (x1 + 6) (u1 ((uc (uc σ (x1 + 6) (u1 (σ (x1 + 6)) (x2 * 13 + 2) w5)) 53 (u1 (σ 53) 8 w20)) (x1 + 6)) (x2 * 13 + 4) 1)) τ Q
        refine wi_s (σ1 := uc (uc σ (x1 + 6) (u1 (u1 (σ (x1 + 6)) (x2 * 13 + 2) w5) (x2 * 13 + 4) 1)) 53 (u1 (σ 53) 8 w20)) (wr_ (uc_ns (uc_s _ _ _) (by have := tw_b hx1; omega)) (uc_cm (uc_uc _ _ _ _) (by have := tw_b hx1; omega))) (i9 (L' := [.ref 53, .ref x1, .int (wI (x2 + 1)), .int (wI (rt_ (σ (x1 + 5) 2) (σ (x1 + 6)) 13 9 x2)), .int (wI (rt_ (σ (x1 + 5) 2) (σ (x1 + 6)) 13 8 x2))]) c_127_170 rfl rfl (i38 c_127_173 rfl t))
theorem q_127 {d : Nat} {S : zS} {σ τ : zI} {Q : zQ} {tn : Nat} {a : Int → Int} (htn : tw tn) (p0 : CTq σ tn a (a 4)) (p1 : Jv a) (p2 : jv_T a) (p3 : a 0 ≤ 399) (p4 : (∀ p, 0 ≤ p → p < 60 → σ 61 p = wk_Wq a (a 4) p)) (t : ∀ (σ1 : zI), (∀ c, c ≠ 53 → c ≠ tn + 6 → c ≠ tn + 14 → σ1 c = σ c) → (∀ k, k ≠ 8 → k ≠ 9 → σ1 53 k = σ 53 k) → σ1 53 9 = zw (σ 53 9 + sI (wk_Wf a) (a 4)) → σ1 53 8 = zw (σ 53 8 + sI (wk_md a) (a 1)) → CT3 σ1 tn a → Q none S σ1 τ) : wc (d + 1) 127 [.ref 53, .ref tn] S σ τ Q := by
  have hC := jC p1
  unfold jv_C at hC
  have tb := tw_b htn
  have cs0 := p0
  unfold CTq at cs0
  refine wc_ok fun K => ?_
  have k8 := kO_r K 53 8
  have k9 := kO_r K 53 9
  have r2 : ∀ m, 0 ≤ m → m < a 1 → rg (MIq a (a 4) m 2) := fun m m0 m1 => by
    have := kO_r K (tn + 6) (m * 13 + 2)
    rw [((cs_M cs0).2 m m0 m1).1 2 2 (by omega)] at this
    exact this
  have wf : ∀ p, 0 ≤ p → p < 60 → σ 61 p = wk_Wf a p := fun p q0 q1 => p4 p q0 q1
  refine wc_of mi_127 rfl (u_127_0 htn ?_)
  -- the MILLS
  have mills : ∀ m, 0 ≤ m → m ≤ a 1 → ∀ σ' : zI, (∀ c, c ≠ 53 → c ≠ tn + 6 → c ≠ tn + 14 → σ' c = σ c) → (∀ k, k ≠ 8 → k ≠ 9 → σ' 53 k = σ 53 k) → σ' 53 9 = zw (σ 53 9 + sI (wk_Wf a) (a 4)) → σ' 53 8 = zw (σ 53 8 + sI (wk_md a) m) → CS σ' tn a (PEq a (a 4)) (MIs a m) (TKq a (a 4)) (OD3 a m) → ∀ y3 y4, wi (d + 1) 127 66 [.ref 53, .ref tn, .int (wI m), y3, y4] [] S σ' τ Q := by
    refine lp_up (fun m m0 m1 ih => ?_)
    intro σ' f fk g9 g8 cs y3 y4
    refine u_127_66 htn ?_
    rw [(cs_M cs).1]
    refine ⟨by omega, ifI (fun e => ?_) (fun e => ?_)⟩
    · have e : m = a 1 := by omega
      subst e
      refine t σ' f fk g9 g8 ?_
      exact CS_c (fun p c q0 q1 _ _ => PEq_e p1 ⟨q0, q1⟩) (fun x c _ x1 _ _ => MIs_e x1) (fun _ _ _ => rfl) (fun _ _ _ _ _ _ => rfl) cs
    · have ih := ih (by omega)
      have mb : 0 ≤ m ∧ m < a 1 := ⟨m0, by omega⟩
      have md := wk_md_b p1 p2 p3 mb
      have hM := jM p1 m m0 mb.2
      have cm1 := (cs_M cs).1
      have e10 : rt_ (a 1) (σ' (tn + 6)) 13 9 m = wk_md a m := by
        have := vm cs mb (show mcR 9 10 by omega)
        rw [cm1] at this
        rw [this]
        unfold MIs
        rw [if_neg (by omega), if_neg (by omega), if_neg (by omega)]
        unfold wk_md MIq
        by_cases d : wk_D a m
        · rw [if_pos ⟨d, by omega⟩, if_neg (by omega), if_neg (by omega), if_pos d]
        · rw [if_neg (fun z => d z.1), if_neg d]
          unfold MI1 MI0
          rw [if_neg (by omega), if_pos ⟨mb.2, by omega⟩, if_neg (by omega)]
      have e8 : rt_ (a 1) (σ' (tn + 6)) 13 8 m = wk_by a m := by
        have := vm cs mb (show mcR 8 9 by omega)
        rw [cm1] at this
        rw [this]
        unfold MIs
        rw [if_neg (by omega), if_neg (by omega), if_neg (by omega), MIq_k mb.2 (by omega), if_neg (by omega), if_neg (by omega)]
      have e2 : σ' (tn + 6) (m * 13 + 2) = zw (MIq a (a 4) m 2 - wk_Sm a m (a 4)) := by
        rw [((cs_M cs).2 m m0 mb.2).1 2 2 (by omega)]
        unfold MIs
        rw [if_neg (by omega), if_neg (by omega), if_pos rfl]
      have i5 : MIs a m m 5 = a (3300 + 16 * m + 5) := by
        unfold MIs MIq MI1 MI0
        rw [if_neg (by omega), if_neg (by omega), if_neg (by omega), if_neg (by omega), if_neg (by omega), if_neg (by omega)]
      have c11 : σ' tn 11 = a 11 := (cs_R cs).1.2.2.2.1
      obtain ⟨X, hX⟩ : ∃ X, X = rt_ (σ' (tn + 13) 2) (σ' (tn + 14)) 6 2 (wk_by a m) := ⟨_, rfl⟩
      have c3 : zw (zw (MIq a (a 4) m 2 - wk_Sm a m (a 4)) + wk_md a m * (X - a 11)) = wk_c3 a m := by
        rw [zw_add]
        unfold wk_c3
        by_cases d : wk_D a m
        · have yb := wk_by_b p1 p2 p3 mb d
          have hX2 : X = a (4372 + 8 * wk_by a m + 2) := by
            rw [hX, vo cs yb.1 (k := 2) (by omega)]
            unfold OD3 OD1
            rw [if_neg (by omega), if_neg (by omega)]
          rw [if_pos d, hX2, MIq_D d (by omega), if_pos rfl]
          congr 1; omega
        · have e0 : wk_md a m = 0 := if_neg d
          rw [if_neg d, e0, Int.zero_mul, Int.add_zero, wk_Sm_no d, Int.sub_zero, zw_of (r2 m m0 mb.2)]
          unfold MIq MI1 MI0
          rw [if_neg (fun z => d z.1), if_neg (by omega), if_neg (by omega)]
      rw [e10, e8, e2, c11, ← hX, (cs_O cs).1]
      have rc : rg (wk_c3 a m) := by rw [← c3]; exact rg_zw _
      have s8 : zw (σ' 53 8 + wk_md a m) = zw (σ 53 8 + sI (wk_md a) (m + 1)) := by rw [g8, zw_add, sI_s m0, Int.add_assoc]
      have r2' : rt_ (a 1) (u1 (σ' (tn + 6)) (m * 13 + 2) (wk_c3 a m)) 13 2 m = wk_c3 a m := by
        rw [rt_p mb]; exact u1_s _ _ _
      -- what CLOSED is then
      have cl : ∀ (F : Int → Int) (O : Int → Int → Int), (F = u1 (σ' (tn + 6)) (m * 13 + 2) (wk_c3 a m) ∧ 0 ≤ wk_c3 a m ∨ F = u1 (u1 (σ' (tn + 6)) (m * 13 + 2) (wk_c3 a m)) (m * 13 + 4) 1 ∧ wk_c3 a m < 0) → FM_ F a (MIs a (m + 1)) (TKq a (a 4)) := fun F O hF => by
        have c5 : ∀ v5, v5 = wk_cl a m → ∀ x c, t2 (t2 (MIs a m) m 2 (wk_c3 a m)) m 5 v5 x c = MIs a (m + 1) x c := fun v5 h5 x c => by
          by_cases y5 : x = m ∧ c = 5
          · obtain ⟨rfl, rfl⟩ := y5
            rw [t2_s, h5]; unfold MIs; rw [if_neg (by omega), if_pos (by omega)]
          · rw [t2_n y5]
            by_cases y2 : x = m ∧ c = 2
            · obtain ⟨rfl, rfl⟩ := y2
              rw [t2_s]; unfold MIs; rw [if_pos (by omega)]
            · rw [t2_n y2]
              unfold MIs
              by_cases z1 : x < m ∧ c = 2
              · rw [if_pos z1, if_pos (by omega)]
              · rw [if_neg z1, if_neg (show ¬ (x < m + 1 ∧ c = 2) by omega)]
                by_cases z2 : x < m ∧ c = 5
                · rw [if_pos z2, if_pos (by omega)]
                · rw [if_neg z2, if_neg (show ¬ (x < m + 1 ∧ c = 5) by omega)]
        rcases hF with ⟨h1, h2⟩ | ⟨h1, h2⟩
        · rw [h1]
          refine FM_c (fun x c _ _ _ _ => ?_) (fun _ _ _ => rfl) (FM_u (m := m) (v := wk_c3 a m) (show mcR 2 2 by omega) (cs_M cs).2)
          rw [← c5 _ rfl]
          refine (t2_id ?_ x c).symm
          rw [t2_n (by omega), i5]
          unfold wk_cl
          rw [if_neg (by omega)]
        · rw [h1]
          refine FM_c (fun x c _ _ _ _ => c5 1 ?_ x c) (fun _ _ _ => rfl) (FM_u (m := m) (v := 1) (show mcR 4 5 by omega) (FM_u (m := m) (v := wk_c3 a m) (show mcR 2 2 by omega) (cs_M cs).2))
          unfold wk_cl
          by_cases d : wk_D a m
          · rw [if_pos ⟨d, h2⟩]
          · rw [if_neg (fun z => d z.1)]
            have : wk_c3 a m = a (3300 + 16 * m + 2) := if_neg d
            omega
      have go : ∀ (F G : Int → Int), (F = u1 (σ' (tn + 6)) (m * 13 + 2) (wk_c3 a m) ∧ 0 ≤ wk_c3 a m ∨ F = u1 (u1 (σ' (tn + 6)) (m * 13 + 2) (wk_c3 a m)) (m * 13 + 4) 1 ∧ wk_c3 a m < 0) → FO_ G a (OD3 a (m + 1)) → ∀ σ2 : zI, (∀ c, c ≠ 53 → c ≠ tn + 6 → c ≠ tn + 14 → σ2 c = σ' c) → σ2 (tn + 6) = F → σ2 (tn + 14) = G → σ2 53 = u1 (σ' 53) 8 (zw (σ' 53 8 + wk_md a m)) → ∀ y3 y4, wi (d + 1) 127 66 [.ref 53, .ref tn, .int (wI (m + 1)), y3, y4] [] S σ2 τ Q := fun F G hF hG σ2 h2 hM2 hO2 h53 y3 y4 => by
        refine ih σ2 (fun c h3 h4 h5 => by rw [h2 c h3 h4 h5]; exact f c h3 h4 h5) (fun k h3 h4 => by rw [h53, u1_n h3]; exact fk k h3 h4) (by rw [h53, u1_n (by decide)]; exact g9) (by rw [h53, u1_s]; exact s8) ?_ _ _
        exact CS_of cs (fun c hc => h2 c (by omega) (by omega) (by omega)) (by rw [h2 _ (by omega) (by omega) (by omega)]; exact (cs_P cs).2) (by rw [hM2]; exact cl F (OD3 a m) hF) (by rw [hO2]; exact hG)
      refine ⟨by omega, wk_c3 a m, by rw [← c3]; exact wI_zw _, rc, ?_⟩
      by_cases d : wk_D a m
      · have yb := wk_by_b p1 p2 p3 mb d
        have lb := wk_lw_b p1 p2 p3 (m + 1) (by omega) (by omega) (wk_by a m) (by omega) (by omega)
        have Tb := wk_T_b p1 p2 p3 (m + 1) (by omega) (by omega) (wk_by a m) (by omega) (by omega)
        have lw0 := wk_lw_b p1 p2 p3 m m0 (by omega) (wk_by a m) (by omega) (by omega)
        rw [wk_lw_s m0, if_pos rfl] at lb
        have hOr := (jO p1).1 (wk_by a m) (by omega) (by omega)
        have o1 : σ' (tn + 14) (wk_by a m * 6 + 1) = a (4372 + 8 * wk_by a m + 1) - wk_lw a m (wk_by a m) := by
          rw [(cs_O cs).2 (wk_by a m) 1 (by omega) (by omega) (by omega) (by omega)]
          unfold OD3; rw [if_pos (by omega)]
        rw [if_pos (show 0 ≤ wk_by a m ∧ wk_by a m < a 7 by omega), o1]
        have hG : FO_ (u1 (σ' (tn + 14)) (wk_by a m * 6 + 1) (a (4372 + 8 * wk_by a m + 1) - wk_lw a m (wk_by a m) - wk_md a m)) a (OD3 a (m + 1)) := FO_c (fun x c _ _ _ _ => OD3_D m0 (by omega) x c) (FO_u (by omega) (cs_O cs).2)
        refine ⟨a (4372 + 8 * wk_by a m + 1) - wk_lw a m (wk_by a m) - wk_md a m, by congr 1, by omega, zw (σ' 53 8 + wk_md a m), wI_zw _, rg_zw _, ?_⟩
        rw [r2']
        refine ifI (fun e5 => go _ _ (Or.inl ⟨rfl, e5⟩) hG _ (fun c h3 h4 h5 => by rw [uc_n h3, uc_n h5, uc_n h4]) (by rw [uc_n (by omega), uc_n (by omega), uc_s]) (by rw [uc_n (by omega), uc_s]) (by rw [uc_s]) _ _) (fun e5 => go _ _ (Or.inr ⟨rfl, by omega⟩) hG _ (fun c h3 h4 h5 => by rw [uc_n h3, uc_n h5, uc_n h4]) (by rw [uc_n (by omega), uc_n (by omega), uc_s]) (by rw [uc_n (by omega), uc_s]) (by rw [uc_s]) _ _)
      · have eb : wk_by a m = -1 := if_neg d
        rw [if_neg (show ¬ (0 ≤ wk_by a m ∧ wk_by a m < a 7) by omega)]
        have hG : FO_ (σ' (tn + 14)) a (OD3 a (m + 1)) := FO_c (fun x c x0 _ _ _ => (OD3_no m0 d x c x0).symm) (cs_O cs).2
        refine ⟨zw (σ' 53 8 + wk_md a m), wI_zw _, rg_zw _, ?_⟩
        rw [r2']
        refine ifI (fun e5 => go _ _ (Or.inl ⟨rfl, e5⟩) hG _ (fun c h3 h4 h5 => by rw [uc_n h3, uc_n h4]) (by rw [uc_n (by omega), uc_s]) (by rw [uc_n (by omega), uc_n (by omega)]) (by rw [uc_s]) _ _) (fun e5 => go _ _ (Or.inr ⟨rfl, by omega⟩) hG _ (fun c h3 h4 h5 => by rw [uc_n h3, uc_n h4]) (by rw [uc_n (by omega), uc_s]) (by rw [uc_n (by omega), uc_n (by omega)]) (by rw [uc_s]) _ _)
  -- the PERSONS
  have key : ∀ q, 0 ≤ q → q ≤ a 4 → ∀ σ' : zI, (∀ c, c ≠ 53 → c ≠ tn + 6 → σ' c = σ c) → (∀ k, k ≠ 9 → σ' 53 k = σ 53 k) → σ' 53 9 = zw (σ 53 9 + sI (wk_Wf a) q) → CS σ' tn a (PEq a (a 4)) (MIa a q) (TKq a (a 4)) (OD1 a (a 1)) → ∀ y3 y4, wi (d + 1) 127 2 [.ref 53, .ref tn, .int (wI q), y3, y4] [] S σ' τ Q := by
    refine lp_up (fun q q0 q1 ih => ?_)
    intro σ' f fk g9 cs y3 y4
    have fin : q = a 4 → wi (d + 1) 127 66 [.ref 53, .ref tn, .int (wI 0), y3, y4] [] S σ' τ Q := fun e => by
      subst e
      refine mills 0 (by omega) (by omega) σ' (fun c h3 h4 h5 => f c h3 h4) (fun k h3 h4 => fk k h4) g9 ?_ ?_ _ _
      · rw [fk 8 (by omega)]
        show σ 53 8 = zw (σ 53 8 + 0)
        rw [Int.add_zero, zw_of k8]
      · refine CS_c (fun _ _ _ _ _ _ => rfl) (fun x c x0 _ _ _ => ?_) (fun _ _ _ => rfl) (fun x c _ _ _ _ => ?_) cs
        · unfold MIa MIs
          rw [if_neg (show ¬ (x < 0 ∧ c = 2) by omega), if_neg (show ¬ (x < 0 ∧ c = 5) by omega), wk_Sw_m p1]
        · unfold OD3
          by_cases c1 : c = 1 ∧ x < a 7
          · obtain ⟨rfl, _⟩ := c1
            rw [if_pos (by omega), OD1_k (by omega)]
            show _ = _ - 0
            omega
          · rw [if_neg c1]
    refine u_127_2 htn ?_
    rw [(cs_P cs).1]
    refine ⟨by omega, ifI (fun e => fin (by omega)) (fun e => ifI (fun e2 => by omega) (fun e2 => ⟨by omega, ?_⟩))⟩
    have ih := ih (by omega)
    have hP := jP p1 q q0 (by omega)
    have v4 : rt_ (a 4) (σ' (tn + 12)) 9 4 q = a (3652 + 12 * q + 4) := by
      have := vp cs (p := q) (k := 4) ⟨q0, by omega⟩ (by omega)
      rw [(cs_P cs).1] at this
      rw [this]
      exact sP_q q 4 (by omega) (by omega) (by omega) (by omega) (by omega) (by omega)
    rw [v4, f 61 (by omega) (by omega), wf q q0 (by omega), (cs_M cs).1]
    have s9 : zw (σ' 53 9 + wk_Wf a q) = zw (σ 53 9 + sI (wk_Wf a) (q + 1)) := by rw [g9, zw_add, sI_s q0, Int.add_assoc]
    have Ss : ∀ m, wk_Sw a m (q + 1) = wk_Sw a m q + (if a (3652 + 12 * q + 4) = m then wk_Wf a q else 0) := fun m => sI_s q0
    by_cases m0 : 0 ≤ a (3652 + 12 * q + 4)
    · have mb : 0 ≤ a (3652 + 12 * q + 4) ∧ a (3652 + 12 * q + 4) < a 1 := by omega
      have e2' : σ' (tn + 6) (a (3652 + 12 * q + 4) * 13 + 2) = zw (MIq a (a 4) (a (3652 + 12 * q + 4)) 2 - wk_Sw a (a (3652 + 12 * q + 4)) q) := by
        rw [((cs_M cs).2 _ mb.1 mb.2).1 2 2 (by omega)]; unfold MIa; rw [if_pos rfl]
      rw [if_pos mb, e2']
      refine ⟨zw (zw (MIq a (a 4) (a (3652 + 12 * q + 4)) 2 - wk_Sw a (a (3652 + 12 * q + 4)) q) + -wk_Wf a q), wI_zw _, rg_zw _, zw (σ' 53 9 + wk_Wf a q), wI_zw _, rg_zw _, ?_⟩
      refine ih _ (fun c h3 h4 => by rw [uc_n h3, uc_n h4]; exact f c h3 h4) (fun k hk => by rw [uc_s, u1_n hk]; exact fk k hk) (by rw [uc_s, u1_s]; exact s9) ?_ _ _
      refine CS_of cs (fun c hc => by rw [uc_n (by omega), uc_n (by omega)]) (by rw [uc_n (by omega), uc_n (by omega)]; exact (cs_P cs).2) ?_ (by rw [uc_n (by omega), uc_n (by omega)]; exact (cs_O cs).2)
      rw [uc_n (by omega), uc_s]
      refine FM_c (fun x c _ _ _ _ => ?_) (fun _ _ _ => rfl) (FM_u (show mcR 2 2 by omega) (cs_M cs).2)
      unfold t2 MIa
      by_cases y : x = a (3652 + 12 * q + 4) ∧ c = 2
      · obtain ⟨rfl, rfl⟩ := y
        rw [if_pos ⟨rfl, rfl⟩, if_pos rfl, Ss, if_pos rfl, zw_add]
        congr 1; omega
      · rw [if_neg y]
        by_cases z : c = 2
        · rw [if_pos z, if_pos z, Ss, if_neg (fun w => y ⟨w.symm, z⟩), Int.add_zero]
        · rw [if_neg z, if_neg z]
    · rw [if_neg (show ¬ (0 ≤ a (3652 + 12 * q + 4) ∧ a (3652 + 12 * q + 4) < a 1) by omega)]
      refine ⟨zw (σ' 53 9 + wk_Wf a q), wI_zw _, rg_zw _, ?_⟩
      refine ih _ (fun c h3 h4 => by rw [uc_n h3]; exact f c h3 h4) (fun k hk => by rw [uc_s, u1_n hk]; exact fk k hk) (by rw [uc_s, u1_s]; exact s9) ?_ _ _
      refine CS_f (fun c hc => uc_n (by omega)) (CS_c (fun _ _ _ _ _ _ => rfl) (fun x c x0 _ _ _ => ?_) (fun _ _ _ => rfl) (fun _ _ _ _ _ _ => rfl) cs)
      unfold MIa
      rw [Ss, if_neg (show ¬ a (3652 + 12 * q + 4) = x by omega), Int.add_zero]
  refine key 0 (by omega) (by omega) σ (fun _ _ _ => rfl) (fun _ _ => rfl) ?_ ?_ _ _
  · show σ 53 9 = zw (σ 53 9 + 0)
    rw [Int.add_zero, zw_of k9]
  · refine CS_c (fun _ _ _ _ _ _ => rfl) (fun x c x0 x1 _ _ => ?_) (fun _ _ _ => rfl) (fun _ _ _ _ _ _ => rfl) cs0
    unfold MIa
    by_cases z : c = 2
    · rw [if_pos z, z]
      show _ = zw (_ - 0)
      rw [Int.sub_zero, zw_of (r2 x x0 x1)]
    · rw [if_neg z]
