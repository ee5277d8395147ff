/-! the segments of the program, printed by wip/whole/segs.py -/
-- method 260: MillTownModel.fault(I)I
theorem c_260_0 : pg_cd 260 0 = (3, 1, 0, 1, 0) := by decide +kernel
theorem c_260_1 : pg_cd 260 1 = (36, 3, 0, 1, 10) := by decide +kernel
theorem c_260_4 : pg_cd 260 4 = (5, 1, 0, 0, 0) := by decide +kernel
theorem c_260_5 : pg_cd 260 5 = (43, 12, 23, 5, 0) := by decide +kernel
theorem c_260_8 : pg_cd 260 8 = (38, 3, 0, 0, 16) := by decide +kernel
theorem c_260_11 : pg_cd 260 11 = (3, 1, 0, 1, 0) := by decide +kernel
theorem c_260_12 : pg_cd 260 12 = (1, 1, 0, 0, 1) := by decide +kernel
theorem c_260_13 : pg_cd 260 13 = (37, 3, 0, 1, 10) := by decide +kernel
theorem c_260_16 : pg_cd 260 16 = (5, 1, 0, 0, 0) := by decide +kernel
theorem c_260_17 : pg_cd 260 17 = (43, 12, 27, 6, 0) := by decide +kernel
theorem c_260_20 : pg_cd 260 20 = (38, 3, 0, 0, 4) := by decide +kernel
theorem c_260_23 : pg_cd 260 23 = (1, 1, 0, 0, (-1)) := by decide +kernel
theorem c_260_24 : pg_cd 260 24 = (90, 0, 0, 0, 0) := by decide +kernel
theorem mx_260 : pg_mx 260 = 2 := by decide +kernel
theorem m_260 {d : Nat} {h : ab_H} {Q : Option Value → ab_H → Prop} {x0 : Nat} {x1 : Int32} (t : wq d 260 0 [.ref x0, .int x1] [] h Q) : wm d 260 [.ref x0, .int x1] h Q := by
  unfold wm
  rw [mx_260]
  exact t
set_option maxRecDepth 20000 in
theorem t_260_0 {d : Nat} {h : ab_H} {Q : Option Value → ab_H → Prop} {x0 : Nat} {x1 : Int32} (t : if x1 = 0 then (ab_ok h x0 112 = true ∧ Q (some (.int (ab_i h x0 5))) h) else (if x1 = 1 then (ab_ok h x0 112 = true ∧ Q (some (.int (ab_i h x0 6))) h) else (Q (some (.int (-1))) h))) : wq d 260 0 [.ref x0, .int x1] [] h Q := by
  refine g3 c_260_0 rfl ?_
  refine gif c_260_1 (gbn t (ab_c1 _ _) rfl (fun hc t => ?_) (fun hc t => ?_))
  · refine g5 c_260_4 rfl ?_
    obtain ⟨ho, t⟩ := t
    refine g43 c_260_5 ho ?_
    refine g38 c_260_8 rfl ?_
    exact g90 c_260_24 t
  · refine g3 c_260_11 rfl ?_
    refine g1 c_260_12 k_1 ?_
    refine gcm c_260_13 (gbn t (ab_c1 _ _) rfl (fun hc t => ?_) (fun hc t => ?_))
    · refine g5 c_260_16 rfl ?_
      obtain ⟨ho, t⟩ := t
      refine g43 c_260_17 ho ?_
      refine g38 c_260_20 rfl ?_
      exact g90 c_260_24 t
    · refine g1 c_260_23 k_m1 ?_
      exact g90 c_260_24 t
-- method 261: MillTownModel.small(I)V
theorem c_261_0 : pg_cd 261 0 = (5, 1, 0, 0, 0) := by decide +kernel
theorem c_261_1 : pg_cd 261 1 = (45, 12, 37, 20, 0) := by decide +kernel
theorem c_261_4 : pg_cd 261 4 = (3, 1, 0, 1, 0) := by decide +kernel
theorem c_261_5 : pg_cd 261 5 = (52, 1, 0, 0, 0) := by decide +kernel
theorem c_261_6 : pg_cd 261 6 = (2, 1, 0, 0, 0) := by decide +kernel
theorem c_261_7 : pg_cd 261 7 = (28, 1, 0, 0, 0) := by decide +kernel
theorem c_261_8 : pg_cd 261 8 = (36, 3, 0, 1, 4) := by decide +kernel
theorem c_261_11 : pg_cd 261 11 = (94, 0, 0, 0, 0) := by decide +kernel
theorem c_261_12 : pg_cd 261 12 = (5, 1, 0, 0, 0) := by decide +kernel
theorem c_261_13 : pg_cd 261 13 = (45, 12, 37, 20, 0) := by decide +kernel
theorem c_261_16 : pg_cd 261 16 = (3, 1, 0, 1, 0) := by decide +kernel
theorem c_261_17 : pg_cd 261 17 = (52, 1, 0, 0, 0) := by decide +kernel
theorem c_261_18 : pg_cd 261 18 = (2, 1, 0, 0, 0) := by decide +kernel
theorem c_261_19 : pg_cd 261 19 = (28, 1, 0, 0, 0) := by decide +kernel
theorem c_261_20 : pg_cd 261 20 = (36, 3, 0, 3, 29) := by decide +kernel
theorem c_261_23 : pg_cd 261 23 = (5, 1, 0, 0, 0) := by decide +kernel
theorem c_261_24 : pg_cd 261 24 = (45, 12, 37, 20, 0) := by decide +kernel
theorem c_261_27 : pg_cd 261 27 = (3, 1, 0, 1, 0) := by decide +kernel
theorem c_261_28 : pg_cd 261 28 = (5, 1, 0, 0, 0) := by decide +kernel
theorem c_261_29 : pg_cd 261 29 = (45, 12, 37, 20, 0) := by decide +kernel
theorem c_261_32 : pg_cd 261 32 = (3, 1, 0, 1, 0) := by decide +kernel
theorem c_261_33 : pg_cd 261 33 = (52, 1, 0, 0, 0) := by decide +kernel
theorem c_261_34 : pg_cd 261 34 = (29, 1, 0, 0, 0) := by decide +kernel
theorem c_261_35 : pg_cd 261 35 = (56, 1, 0, 0, 0) := by decide +kernel
theorem c_261_36 : pg_cd 261 36 = (5, 1, 0, 0, 0) := by decide +kernel
theorem c_261_37 : pg_cd 261 37 = (45, 12, 33, 19, 0) := by decide +kernel
theorem c_261_40 : pg_cd 261 40 = (3, 1, 0, 1, 0) := by decide +kernel
theorem c_261_41 : pg_cd 261 41 = (5, 1, 0, 0, 0) := by decide +kernel
theorem c_261_42 : pg_cd 261 42 = (45, 12, 33, 19, 0) := by decide +kernel
theorem c_261_45 : pg_cd 261 45 = (3, 1, 0, 1, 0) := by decide +kernel
theorem c_261_46 : pg_cd 261 46 = (52, 1, 0, 0, 0) := by decide +kernel
theorem c_261_47 : pg_cd 261 47 = (29, 1, 0, 0, 0) := by decide +kernel
theorem c_261_48 : pg_cd 261 48 = (56, 1, 0, 0, 0) := by decide +kernel
theorem c_261_49 : pg_cd 261 49 = (5, 1, 0, 0, 0) := by decide +kernel
theorem c_261_50 : pg_cd 261 50 = (45, 12, 33, 19, 0) := by decide +kernel
theorem c_261_53 : pg_cd 261 53 = (3, 1, 0, 1, 0) := by decide +kernel
theorem c_261_54 : pg_cd 261 54 = (52, 1, 0, 0, 0) := by decide +kernel
theorem c_261_55 : pg_cd 261 55 = (2, 1, 0, 0, 0) := by decide +kernel
theorem c_261_56 : pg_cd 261 56 = (28, 1, 0, 0, 0) := by decide +kernel
theorem c_261_57 : pg_cd 261 57 = (36, 3, 0, 3, 13) := by decide +kernel
theorem c_261_60 : pg_cd 261 60 = (5, 1, 0, 0, 0) := by decide +kernel
theorem c_261_61 : pg_cd 261 61 = (45, 12, 33, 19, 0) := by decide +kernel
theorem c_261_64 : pg_cd 261 64 = (3, 1, 0, 1, 0) := by decide +kernel
theorem c_261_65 : pg_cd 261 65 = (52, 1, 0, 0, 0) := by decide +kernel
theorem c_261_66 : pg_cd 261 66 = (29, 1, 0, 0, 0) := by decide +kernel
theorem c_261_67 : pg_cd 261 67 = (38, 3, 0, 0, 9) := by decide +kernel
theorem c_261_70 : pg_cd 261 70 = (5, 1, 0, 0, 0) := by decide +kernel
theorem c_261_71 : pg_cd 261 71 = (45, 12, 33, 19, 0) := by decide +kernel
theorem c_261_74 : pg_cd 261 74 = (3, 1, 0, 1, 0) := by decide +kernel
theorem c_261_75 : pg_cd 261 75 = (52, 1, 0, 0, 0) := by decide +kernel
theorem c_261_76 : pg_cd 261 76 = (7, 1, 0, 2, 0) := by decide +kernel
theorem c_261_77 : pg_cd 261 77 = (5, 1, 0, 0, 0) := by decide +kernel
theorem c_261_78 : pg_cd 261 78 = (45, 12, 37, 20, 0) := by decide +kernel
theorem c_261_81 : pg_cd 261 81 = (3, 1, 0, 1, 0) := by decide +kernel
theorem c_261_82 : pg_cd 261 82 = (52, 1, 0, 0, 0) := by decide +kernel
theorem c_261_83 : pg_cd 261 83 = (7, 2, 0, 4, 0) := by decide +kernel
theorem c_261_85 : pg_cd 261 85 = (4, 2, 0, 4, 0) := by decide +kernel
theorem c_261_87 : pg_cd 261 87 = (2, 1, 0, 0, 0) := by decide +kernel
theorem c_261_88 : pg_cd 261 88 = (28, 1, 0, 0, 0) := by decide +kernel
theorem c_261_89 : pg_cd 261 89 = (36, 3, 0, 0, 19) := by decide +kernel
theorem c_261_92 : pg_cd 261 92 = (4, 1, 0, 2, 0) := by decide +kernel
theorem c_261_93 : pg_cd 261 93 = (4, 2, 0, 4, 0) := by decide +kernel
theorem c_261_95 : pg_cd 261 95 = (27, 1, 0, 0, 0) := by decide +kernel
theorem c_261_96 : pg_cd 261 96 = (7, 2, 0, 6, 0) := by decide +kernel
theorem c_261_98 : pg_cd 261 98 = (4, 2, 0, 4, 0) := by decide +kernel
theorem c_261_100 : pg_cd 261 100 = (7, 1, 0, 2, 0) := by decide +kernel
theorem c_261_101 : pg_cd 261 101 = (4, 2, 0, 6, 0) := by decide +kernel
theorem c_261_103 : pg_cd 261 103 = (7, 2, 0, 4, 0) := by decide +kernel
theorem c_261_105 : pg_cd 261 105 = (38, 3, 0, 0, (-20)) := by decide +kernel
theorem c_261_108 : pg_cd 261 108 = (4, 1, 0, 2, 0) := by decide +kernel
theorem c_261_109 : pg_cd 261 109 = (2, 1, 0, 0, 1) := by decide +kernel
theorem c_261_110 : pg_cd 261 110 = (28, 1, 0, 0, 0) := by decide +kernel
theorem c_261_111 : pg_cd 261 111 = (36, 3, 0, 5, 23) := by decide +kernel
theorem c_261_114 : pg_cd 261 114 = (5, 1, 0, 0, 0) := by decide +kernel
theorem c_261_115 : pg_cd 261 115 = (45, 12, 33, 19, 0) := by decide +kernel
theorem c_261_118 : pg_cd 261 118 = (3, 1, 0, 1, 0) := by decide +kernel
theorem c_261_119 : pg_cd 261 119 = (34, 1, 0, 0, 0) := by decide +kernel
theorem c_261_120 : pg_cd 261 120 = (52, 1, 0, 0, 0) := by decide +kernel
theorem c_261_121 : pg_cd 261 121 = (4, 1, 0, 2, 0) := by decide +kernel
theorem c_261_122 : pg_cd 261 122 = (26, 1, 0, 0, 0) := by decide +kernel
theorem c_261_123 : pg_cd 261 123 = (56, 1, 0, 0, 0) := by decide +kernel
theorem c_261_124 : pg_cd 261 124 = (5, 1, 0, 0, 0) := by decide +kernel
theorem c_261_125 : pg_cd 261 125 = (45, 12, 37, 20, 0) := by decide +kernel
theorem c_261_128 : pg_cd 261 128 = (3, 1, 0, 1, 0) := by decide +kernel
theorem c_261_129 : pg_cd 261 129 = (34, 1, 0, 0, 0) := by decide +kernel
theorem c_261_130 : pg_cd 261 130 = (52, 1, 0, 0, 0) := by decide +kernel
theorem c_261_131 : pg_cd 261 131 = (4, 1, 0, 2, 0) := by decide +kernel
theorem c_261_132 : pg_cd 261 132 = (26, 1, 0, 0, 0) := by decide +kernel
theorem c_261_133 : pg_cd 261 133 = (56, 1, 0, 0, 0) := by decide +kernel
theorem c_261_134 : pg_cd 261 134 = (5, 1, 0, 0, 0) := by decide +kernel
theorem c_261_135 : pg_cd 261 135 = (45, 12, 33, 19, 0) := by decide +kernel
theorem c_261_138 : pg_cd 261 138 = (3, 1, 0, 1, 0) := by decide +kernel
theorem c_261_139 : pg_cd 261 139 = (52, 1, 0, 0, 0) := by decide +kernel
theorem c_261_140 : pg_cd 261 140 = (2, 3, 277, 0, 1000000000) := by decide +kernel
theorem c_261_143 : pg_cd 261 143 = (28, 1, 0, 0, 0) := by decide +kernel
theorem c_261_144 : pg_cd 261 144 = (36, 3, 0, 4, 29) := by decide +kernel
theorem c_261_147 : pg_cd 261 147 = (5, 1, 0, 0, 0) := by decide +kernel
theorem c_261_148 : pg_cd 261 148 = (45, 12, 33, 19, 0) := by decide +kernel
theorem c_261_151 : pg_cd 261 151 = (3, 1, 0, 1, 0) := by decide +kernel
theorem c_261_152 : pg_cd 261 152 = (52, 1, 0, 0, 0) := by decide +kernel
theorem c_261_153 : pg_cd 261 153 = (2, 3, 279, 0, (-1000000000)) := by decide +kernel
theorem c_261_156 : pg_cd 261 156 = (28, 1, 0, 0, 0) := by decide +kernel
theorem c_261_157 : pg_cd 261 157 = (36, 3, 0, 2, 16) := by decide +kernel
theorem c_261_160 : pg_cd 261 160 = (5, 1, 0, 0, 0) := by decide +kernel
theorem c_261_161 : pg_cd 261 161 = (45, 12, 37, 20, 0) := by decide +kernel
theorem c_261_164 : pg_cd 261 164 = (3, 1, 0, 1, 0) := by decide +kernel
theorem c_261_165 : pg_cd 261 165 = (52, 1, 0, 0, 0) := by decide +kernel
theorem c_261_166 : pg_cd 261 166 = (2, 3, 277, 0, 1000000000) := by decide +kernel
theorem c_261_169 : pg_cd 261 169 = (28, 1, 0, 0, 0) := by decide +kernel
theorem c_261_170 : pg_cd 261 170 = (36, 3, 0, 5, 10) := by decide +kernel
theorem c_261_173 : pg_cd 261 173 = (5, 1, 0, 0, 0) := by decide +kernel
theorem c_261_174 : pg_cd 261 174 = (45, 12, 37, 20, 0) := by decide +kernel
theorem c_261_177 : pg_cd 261 177 = (3, 1, 0, 1, 0) := by decide +kernel
theorem c_261_178 : pg_cd 261 178 = (2, 1, 0, 0, 0) := by decide +kernel
theorem c_261_179 : pg_cd 261 179 = (56, 1, 0, 0, 0) := by decide +kernel
theorem c_261_180 : pg_cd 261 180 = (94, 0, 0, 0, 0) := by decide +kernel
theorem mx_261 : pg_mx 261 = 8 := by decide +kernel
theorem m_261 {d : Nat} {h : ab_H} {Q : Option Value → ab_H → Prop} {x0 : Nat} {x1 : Int32} (t : wq d 261 0 [.ref x0, .int x1, .retAddr 0, .retAddr 0, .retAddr 0, .retAddr 0, .retAddr 0, .retAddr 0] [] h Q) : wm d 261 [.ref x0, .int x1] h Q := by
  unfold wm
  rw [mx_261]
  exact t
set_option maxRecDepth 20000 in
theorem t_261_0 {d : Nat} {h : ab_H} {Q : Option Value → ab_H → Prop} {x0 : Nat} {x1 : Int32} (t : ab_ok h x0 112 = true ∧ ∃ j1 : Nat, ab_r h x0 20 = some j1 ∧ (ab_ok h j1 1 = true ∧ ab_in x1 (ab_s h j1).2 = true) ∧ if (lg_cmp (ab_l h j1 (Int32.toNatClampNeg x1)) 0) = 0 then (Q none h) else (ab_ok h x0 112 = true ∧ ∃ j2 : Nat, ab_r h x0 20 = some j2 ∧ (ab_ok h j2 1 = true ∧ ab_in x1 (ab_s h j2).2 = true) ∧ if 0 ≤ (lg_cmp (ab_l h j2 (Int32.toNatClampNeg x1)) 0) then (ab_ok h x0 112 = true ∧ ∃ j3 : Nat, ab_r h x0 19 = some j3 ∧ (ab_ok h j3 1 = true ∧ ab_in x1 (ab_s h j3).2 = true) ∧ if 0 ≤ (lg_cmp (ab_l h j3 (Int32.toNatClampNeg x1)) 0) then (ab_ok h x0 112 = true ∧ ∃ j4 : Nat, ab_r h x0 19 = some j4 ∧ (ab_ok h j4 1 = true ∧ ab_in x1 (ab_s h j4).2 = true) ∧ ab_ok h x0 112 = true ∧ ∃ j5 : Nat, ab_r h x0 20 = some j5 ∧ (ab_ok h j5 1 = true ∧ ab_in x1 (ab_s h j5).2 = true) ∧ wq d 261 85 [.ref x0, .int x1, .long (ab_l h j4 (Int32.toNatClampNeg x1)), .retAddr 0, .long (ab_l h j5 (Int32.toNatClampNeg x1)), .retAddr 0, .retAddr 0, .retAddr 0] [] h Q) else (ab_ok h x0 112 = true ∧ ∃ j6 : Nat, ab_r h x0 19 = some j6 ∧ (ab_ok h j6 1 = true ∧ ab_in x1 (ab_s h j6).2 = true) ∧ ab_ok h x0 112 = true ∧ ∃ j7 : Nat, ab_r h x0 20 = some j7 ∧ (ab_ok h j7 1 = true ∧ ab_in x1 (ab_s h j7).2 = true) ∧ wq d 261 85 [.ref x0, .int x1, .long (-(ab_l h j6 (Int32.toNatClampNeg x1))), .retAddr 0, .long (ab_l h j7 (Int32.toNatClampNeg x1)), .retAddr 0, .retAddr 0, .retAddr 0] [] h Q)) else (ab_ok h x0 112 = true ∧ ∃ j8 : Nat, ab_r h x0 20 = some j8 ∧ ab_ok h x0 112 = true ∧ ∃ j9 : Nat, ab_r h x0 20 = some j9 ∧ (ab_ok h j9 1 = true ∧ ab_in x1 (ab_s h j9).2 = true) ∧ (ab_ok h j8 1 = true ∧ ab_in x1 (ab_s h j8).2 = true) ∧ ∀ h10 : ab_H, h10 = ab_pl h j8 (Int32.toNatClampNeg x1) (-(ab_l h j9 (Int32.toNatClampNeg x1))) → ab_ok h10 x0 112 = true ∧ ∃ j11 : Nat, ab_r h10 x0 19 = some j11 ∧ ab_ok h10 x0 112 = true ∧ ∃ j12 : Nat, ab_r h10 x0 19 = some j12 ∧ (ab_ok h10 j12 1 = true ∧ ab_in x1 (ab_s h10 j12).2 = true) ∧ (ab_ok h10 j11 1 = true ∧ ab_in x1 (ab_s h10 j11).2 = true) ∧ ∀ h13 : ab_H, h13 = ab_pl h10 j11 (Int32.toNatClampNeg x1) (-(ab_l h10 j12 (Int32.toNatClampNeg x1))) → ab_ok h13 x0 112 = true ∧ ∃ j14 : Nat, ab_r h13 x0 19 = some j14 ∧ (ab_ok h13 j14 1 = true ∧ ab_in x1 (ab_s h13 j14).2 = true) ∧ if 0 ≤ (lg_cmp (ab_l h13 j14 (Int32.toNatClampNeg x1)) 0) then (ab_ok h13 x0 112 = true ∧ ∃ j15 : Nat, ab_r h13 x0 19 = some j15 ∧ (ab_ok h13 j15 1 = true ∧ ab_in x1 (ab_s h13 j15).2 = true) ∧ ab_ok h13 x0 112 = true ∧ ∃ j16 : Nat, ab_r h13 x0 20 = some j16 ∧ (ab_ok h13 j16 1 = true ∧ ab_in x1 (ab_s h13 j16).2 = true) ∧ wq d 261 85 [.ref x0, .int x1, .long (ab_l h13 j15 (Int32.toNatClampNeg x1)), .retAddr 0, .long (ab_l h13 j16 (Int32.toNatClampNeg x1)), .retAddr 0, .retAddr 0, .retAddr 0] [] h13 Q) else (ab_ok h13 x0 112 = true ∧ ∃ j17 : Nat, ab_r h13 x0 19 = some j17 ∧ (ab_ok h13 j17 1 = true ∧ ab_in x1 (ab_s h13 j17).2 = true) ∧ ab_ok h13 x0 112 = true ∧ ∃ j18 : Nat, ab_r h13 x0 20 = some j18 ∧ (ab_ok h13 j18 1 = true ∧ ab_in x1 (ab_s h13 j18).2 = true) ∧ wq d 261 85 [.ref x0, .int x1, .long (-(ab_l h13 j17 (Int32.toNatClampNeg x1))), .retAddr 0, .long (ab_l h13 j18 (Int32.toNatClampNeg x1)), .retAddr 0, .retAddr 0, .retAddr 0] [] h13 Q)))) : wq d 261 0 [.ref x0, .int x1, .retAddr 0, .retAddr 0, .retAddr 0, .retAddr 0, .retAddr 0, .retAddr 0] [] h Q := by
  refine g5 c_261_0 rfl ?_
  obtain ⟨ho, j1, hr, t⟩ := t
  refine g45 c_261_1 ho hr ?_
  refine g3 c_261_4 rfl ?_
  obtain ⟨ho, t⟩ := t
  refine g52 c_261_5 ho ?_
  refine g2 c_261_6 kl_0 ?_
  refine g28 c_261_7 ?_
  refine gif c_261_8 (gbn t (ab_c1 _ _) rfl (fun hc t => ?_) (fun hc t => ?_))
  · exact g94 c_261_11 t
  · refine g5 c_261_12 rfl ?_
    obtain ⟨ho, j2, hr, t⟩ := t
    refine g45 c_261_13 ho hr ?_
    refine g3 c_261_16 rfl ?_
    obtain ⟨ho, t⟩ := t
    refine g52 c_261_17 ho ?_
    refine g2 c_261_18 kl_0 ?_
    refine g28 c_261_19 ?_
    refine gif c_261_20 (gbr t rfl rfl (fun hc t => ?_) (fun hc t => ?_))
    · refine g5 c_261_49 rfl ?_
      obtain ⟨ho, j3, hr, t⟩ := t
      refine g45 c_261_50 ho hr ?_
      refine g3 c_261_53 rfl ?_
      obtain ⟨ho, t⟩ := t
      refine g52 c_261_54 ho ?_
      refine g2 c_261_55 kl_0 ?_
      refine g28 c_261_56 ?_
      refine gif c_261_57 (gbr t rfl rfl (fun hc t => ?_) (fun hc t => ?_))
      · refine g5 c_261_70 rfl ?_
        obtain ⟨ho, j4, hr, t⟩ := t
        refine g45 c_261_71 ho hr ?_
        refine g3 c_261_74 rfl ?_
        obtain ⟨ho, t⟩ := t
        refine g52 c_261_75 ho ?_
        refine g7 (L' := [.ref x0, .int x1, .long (ab_l h j4 (Int32.toNatClampNeg x1)), .retAddr 0, .retAddr 0, .retAddr 0, .retAddr 0, .retAddr 0]) c_261_76 rfl ?_
        refine g5 c_261_77 rfl ?_
        obtain ⟨ho, j5, hr, t⟩ := t
        refine g45 c_261_78 ho hr ?_
        refine g3 c_261_81 rfl ?_
        obtain ⟨ho, t⟩ := t
        refine g52 c_261_82 ho ?_
        refine g7 (L' := [.ref x0, .int x1, .long (ab_l h j4 (Int32.toNatClampNeg x1)), .retAddr 0, .long (ab_l h j5 (Int32.toNatClampNeg x1)), .retAddr 0, .retAddr 0, .retAddr 0]) c_261_83 rfl ?_
        exact t
      · refine g5 c_261_60 rfl ?_
        obtain ⟨ho, j6, hr, t⟩ := t
        refine g45 c_261_61 ho hr ?_
        refine g3 c_261_64 rfl ?_
        obtain ⟨ho, t⟩ := t
        refine g52 c_261_65 ho ?_
        refine g29 c_261_66 ?_
        refine g38 c_261_67 rfl ?_
        refine g7 (L' := [.ref x0, .int x1, .long (-(ab_l h j6 (Int32.toNatClampNeg x1))), .retAddr 0, .retAddr 0, .retAddr 0, .retAddr 0, .retAddr 0]) c_261_76 rfl ?_
        refine g5 c_261_77 rfl ?_
        obtain ⟨ho, j7, hr, t⟩ := t
        refine g45 c_261_78 ho hr ?_
        refine g3 c_261_81 rfl ?_
        obtain ⟨ho, t⟩ := t
        refine g52 c_261_82 ho ?_
        refine g7 (L' := [.ref x0, .int x1, .long (-(ab_l h j6 (Int32.toNatClampNeg x1))), .retAddr 0, .long (ab_l h j7 (Int32.toNatClampNeg x1)), .retAddr 0, .retAddr 0, .retAddr 0]) c_261_83 rfl ?_
        exact t
    · refine g5 c_261_23 rfl ?_
      obtain ⟨ho, j8, hr, t⟩ := t
      refine g45 c_261_24 ho hr ?_
      refine g3 c_261_27 rfl ?_
      refine g5 c_261_28 rfl ?_
      obtain ⟨ho, j9, hr, t⟩ := t
      refine g45 c_261_29 ho hr ?_
      refine g3 c_261_32 rfl ?_
      obtain ⟨ho, t⟩ := t
      refine g52 c_261_33 ho ?_
      refine g29 c_261_34 ?_
      obtain ⟨ho, t⟩ := t
      refine g56 c_261_35 ho (fun h10 eh10 => ?_)
      have t := t h10 eh10
      refine g5 c_261_36 rfl ?_
      obtain ⟨ho, j11, hr, t⟩ := t
      refine g45 c_261_37 ho hr ?_
      refine g3 c_261_40 rfl ?_
      refine g5 c_261_41 rfl ?_
      obtain ⟨ho, j12, hr, t⟩ := t
      refine g45 c_261_42 ho hr ?_
      refine g3 c_261_45 rfl ?_
      obtain ⟨ho, t⟩ := t
      refine g52 c_261_46 ho ?_
      refine g29 c_261_47 ?_
      obtain ⟨ho, t⟩ := t
      refine g56 c_261_48 ho (fun h13 eh13 => ?_)
      have t := t h13 eh13
      refine g5 c_261_49 rfl ?_
      obtain ⟨ho, j14, hr, t⟩ := t
      refine g45 c_261_50 ho hr ?_
      refine g3 c_261_53 rfl ?_
      obtain ⟨ho, t⟩ := t
      refine g52 c_261_54 ho ?_
      refine g2 c_261_55 kl_0 ?_
      refine g28 c_261_56 ?_
      refine gif c_261_57 (gbr t rfl rfl (fun hc t => ?_) (fun hc t => ?_))
      · refine g5 c_261_70 rfl ?_
        obtain ⟨ho, j15, hr, t⟩ := t
        refine g45 c_261_71 ho hr ?_
        refine g3 c_261_74 rfl ?_
        obtain ⟨ho, t⟩ := t
        refine g52 c_261_75 ho ?_
        refine g7 (L' := [.ref x0, .int x1, .long (ab_l h13 j15 (Int32.toNatClampNeg x1)), .retAddr 0, .retAddr 0, .retAddr 0, .retAddr 0, .retAddr 0]) c_261_76 rfl ?_
        refine g5 c_261_77 rfl ?_
        obtain ⟨ho, j16, hr, t⟩ := t
        refine g45 c_261_78 ho hr ?_
        refine g3 c_261_81 rfl ?_
        obtain ⟨ho, t⟩ := t
        refine g52 c_261_82 ho ?_
        refine g7 (L' := [.ref x0, .int x1, .long (ab_l h13 j15 (Int32.toNatClampNeg x1)), .retAddr 0, .long (ab_l h13 j16 (Int32.toNatClampNeg x1)), .retAddr 0, .retAddr 0, .retAddr 0]) c_261_83 rfl ?_
        exact t
      · refine g5 c_261_60 rfl ?_
        obtain ⟨ho, j17, hr, t⟩ := t
        refine g45 c_261_61 ho hr ?_
        refine g3 c_261_64 rfl ?_
        obtain ⟨ho, t⟩ := t
        refine g52 c_261_65 ho ?_
        refine g29 c_261_66 ?_
        refine g38 c_261_67 rfl ?_
        refine g7 (L' := [.ref x0, .int x1, .long (-(ab_l h13 j17 (Int32.toNatClampNeg x1))), .retAddr 0, .retAddr 0, .retAddr 0, .retAddr 0, .retAddr 0]) c_261_76 rfl ?_
        refine g5 c_261_77 rfl ?_
        obtain ⟨ho, j18, hr, t⟩ := t
        refine g45 c_261_78 ho hr ?_
        refine g3 c_261_81 rfl ?_
        obtain ⟨ho, t⟩ := t
        refine g52 c_261_82 ho ?_
        refine g7 (L' := [.ref x0, .int x1, .long (-(ab_l h13 j17 (Int32.toNatClampNeg x1))), .retAddr 0, .long (ab_l h13 j18 (Int32.toNatClampNeg x1)), .retAddr 0, .retAddr 0, .retAddr 0]) c_261_83 rfl ?_
        exact t
set_option maxRecDepth 20000 in
theorem t_261_85 {d : Nat} {h : ab_H} {Q : Option Value → ab_H → Prop} {x0 : Nat} {x1 : Int32} {x2 : Int64} {x4 : Int64} (t : if (lg_cmp x4 0) = 0 then (if (lg_cmp x2 1) ≤ 0 then (ab_ok h x0 112 = true ∧ ∃ j1 : Nat, ab_r h x0 19 = some j1 ∧ (ab_ok h j1 1 = true ∧ ab_in x1 (ab_s h j1).2 = true) ∧ if 0 < (lg_cmp (ab_l h j1 (Int32.toNatClampNeg x1)) 1000000000) then (ab_ok h x0 112 = true ∧ ∃ j2 : Nat, ab_r h x0 20 = some j2 ∧ (ab_ok h j2 1 = true ∧ ab_in x1 (ab_s h j2).2 = true) ∧ ∀ h3 : ab_H, h3 = ab_pl h j2 (Int32.toNatClampNeg x1) 0 → Q none h3) else (ab_ok h x0 112 = true ∧ ∃ j4 : Nat, ab_r h x0 19 = some j4 ∧ (ab_ok h j4 1 = true ∧ ab_in x1 (ab_s h j4).2 = true) ∧ if (lg_cmp (ab_l h j4 (Int32.toNatClampNeg x1)) (-1000000000)) < 0 then (ab_ok h x0 112 = true ∧ ∃ j5 : Nat, ab_r h x0 20 = some j5 ∧ (ab_ok h j5 1 = true ∧ ab_in x1 (ab_s h j5).2 = true) ∧ ∀ h6 : ab_H, h6 = ab_pl h j5 (Int32.toNatClampNeg x1) 0 → Q none h6) else (ab_ok h x0 112 = true ∧ ∃ j7 : Nat, ab_r h x0 20 = some j7 ∧ (ab_ok h j7 1 = true ∧ ab_in x1 (ab_s h j7).2 = true) ∧ if (lg_cmp (ab_l h j7 (Int32.toNatClampNeg x1)) 1000000000) ≤ 0 then (Q none h) else (ab_ok h x0 112 = true ∧ ∃ j8 : Nat, ab_r h x0 20 = some j8 ∧ (ab_ok h j8 1 = true ∧ ab_in x1 (ab_s h j8).2 = true) ∧ ∀ h9 : ab_H, h9 = ab_pl h j8 (Int32.toNatClampNeg x1) 0 → Q none h9)))) else (ab_ok h x0 112 = true ∧ ∃ j10 : Nat, ab_r h x0 19 = some j10 ∧ (ab_ok h j10 1 = true ∧ ab_in x1 (ab_s h j10).2 = true) ∧ ¬ (x2 : Int64) = 0 ∧ (ab_ok h j10 1 = true ∧ ab_in x1 (ab_s h j10).2 = true) ∧ ∀ h11 : ab_H, h11 = ab_pl h j10 (Int32.toNatClampNeg x1) ((ab_l h j10 (Int32.toNatClampNeg x1)) / x2) → ab_ok h11 x0 112 = true ∧ ∃ j12 : Nat, ab_r h11 x0 20 = some j12 ∧ (ab_ok h11 j12 1 = true ∧ ab_in x1 (ab_s h11 j12).2 = true) ∧ ¬ (x2 : Int64) = 0 ∧ (ab_ok h11 j12 1 = true ∧ ab_in x1 (ab_s h11 j12).2 = true) ∧ ∀ h13 : ab_H, h13 = ab_pl h11 j12 (Int32.toNatClampNeg x1) ((ab_l h11 j12 (Int32.toNatClampNeg x1)) / x2) → ab_ok h13 x0 112 = true ∧ ∃ j14 : Nat, ab_r h13 x0 19 = some j14 ∧ (ab_ok h13 j14 1 = true ∧ ab_in x1 (ab_s h13 j14).2 = true) ∧ if 0 < (lg_cmp (ab_l h13 j14 (Int32.toNatClampNeg x1)) 1000000000) then (ab_ok h13 x0 112 = true ∧ ∃ j15 : Nat, ab_r h13 x0 20 = some j15 ∧ (ab_ok h13 j15 1 = true ∧ ab_in x1 (ab_s h13 j15).2 = true) ∧ ∀ h16 : ab_H, h16 = ab_pl h13 j15 (Int32.toNatClampNeg x1) 0 → Q none h16) else (ab_ok h13 x0 112 = true ∧ ∃ j17 : Nat, ab_r h13 x0 19 = some j17 ∧ (ab_ok h13 j17 1 = true ∧ ab_in x1 (ab_s h13 j17).2 = true) ∧ if (lg_cmp (ab_l h13 j17 (Int32.toNatClampNeg x1)) (-1000000000)) < 0 then (ab_ok h13 x0 112 = true ∧ ∃ j18 : Nat, ab_r h13 x0 20 = some j18 ∧ (ab_ok h13 j18 1 = true ∧ ab_in x1 (ab_s h13 j18).2 = true) ∧ ∀ h19 : ab_H, h19 = ab_pl h13 j18 (Int32.toNatClampNeg x1) 0 → Q none h19) else (ab_ok h13 x0 112 = true ∧ ∃ j20 : Nat, ab_r h13 x0 20 = some j20 ∧ (ab_ok h13 j20 1 = true ∧ ab_in x1 (ab_s h13 j20).2 = true) ∧ if (lg_cmp (ab_l h13 j20 (Int32.toNatClampNeg x1)) 1000000000) ≤ 0 then (Q none h13) else (ab_ok h13 x0 112 = true ∧ ∃ j21 : Nat, ab_r h13 x0 20 = some j21 ∧ (ab_ok h13 j21 1 = true ∧ ab_in x1 (ab_s h13 j21).2 = true) ∧ ∀ h22 : ab_H, h22 = ab_pl h13 j21 (Int32.toNatClampNeg x1) 0 → Q none h22))))) else (¬ (x4 : Int64) = 0 ∧ wq d 261 85 [.ref x0, .int x1, .long x4, .retAddr 0, .long (x2 - x2 / x4 * x4), .retAddr 0, .long (x2 - x2 / x4 * x4), .retAddr 0] [] h Q)) : wq d 261 85 [.ref x0, .int x1, .long x2, .retAddr 0, .long x4, .retAddr 0, .retAddr 0, .retAddr 0] [] h Q := by
  refine g4 c_261_85 rfl ?_
  refine g2 c_261_87 kl_0 ?_
  refine g28 c_261_88 ?_
  refine gif c_261_89 (gbr t rfl rfl (fun hc t => ?_) (fun hc t => ?_))
  · refine g4 c_261_108 rfl ?_
    refine g2 c_261_109 kl_1 ?_
    refine g28 c_261_110 ?_
    refine gif c_261_111 (gbr t rfl rfl (fun hc t => ?_) (fun hc t => ?_))
    · refine g5 c_261_134 rfl ?_
      obtain ⟨ho, j1, hr, t⟩ := t
      refine g45 c_261_135 ho hr ?_
      refine g3 c_261_138 rfl ?_
      obtain ⟨ho, t⟩ := t
      refine g52 c_261_139 ho ?_
      refine g2 c_261_140 kl_1000000000 ?_
      refine g28 c_261_143 ?_
      refine gif c_261_144 (gbr t rfl rfl (fun hc t => ?_) (fun hc t => ?_))
      · refine g5 c_261_173 rfl ?_
        obtain ⟨ho, j2, hr, t⟩ := t
        refine g45 c_261_174 ho hr ?_
        refine g3 c_261_177 rfl ?_
        refine g2 c_261_178 kl_0 ?_
        obtain ⟨ho, t⟩ := t
        refine g56 c_261_179 ho (fun h3 eh3 => ?_)
        have t := t h3 eh3
        exact g94 c_261_180 t
      · refine g5 c_261_147 rfl ?_
        obtain ⟨ho, j4, hr, t⟩ := t
        refine g45 c_261_148 ho hr ?_
        refine g3 c_261_151 rfl ?_
        obtain ⟨ho, t⟩ := t
        refine g52 c_261_152 ho ?_
        refine g2 c_261_153 kl_m1000000000 ?_
        refine g28 c_261_156 ?_
        refine gif c_261_157 (gbr t rfl rfl (fun hc t => ?_) (fun hc t => ?_))
        · refine g5 c_261_173 rfl ?_
          obtain ⟨ho, j5, hr, t⟩ := t
          refine g45 c_261_174 ho hr ?_
          refine g3 c_261_177 rfl ?_
          refine g2 c_261_178 kl_0 ?_
          obtain ⟨ho, t⟩ := t
          refine g56 c_261_179 ho (fun h6 eh6 => ?_)
          have t := t h6 eh6
          exact g94 c_261_180 t
        · refine g5 c_261_160 rfl ?_
          obtain ⟨ho, j7, hr, t⟩ := t
          refine g45 c_261_161 ho hr ?_
          refine g3 c_261_164 rfl ?_
          obtain ⟨ho, t⟩ := t
          refine g52 c_261_165 ho ?_
          refine g2 c_261_166 kl_1000000000 ?_
          refine g28 c_261_169 ?_
          refine gif c_261_170 (gbr t rfl rfl (fun hc t => ?_) (fun hc t => ?_))
          · exact g94 c_261_180 t
          · refine g5 c_261_173 rfl ?_
            obtain ⟨ho, j8, hr, t⟩ := t
            refine g45 c_261_174 ho hr ?_
            refine g3 c_261_177 rfl ?_
            refine g2 c_261_178 kl_0 ?_
            obtain ⟨ho, t⟩ := t
            refine g56 c_261_179 ho (fun h9 eh9 => ?_)
            have t := t h9 eh9
            exact g94 c_261_180 t
    · refine g5 c_261_114 rfl ?_
      obtain ⟨ho, j10, hr, t⟩ := t
      refine g45 c_261_115 ho hr ?_
      refine g3 c_261_118 rfl ?_
      refine g34a c_261_119 ?_
      obtain ⟨ho, t⟩ := t
      refine g52 c_261_120 ho ?_
      refine g4 c_261_121 rfl ?_
      obtain ⟨hy, t⟩ := t
      refine g26 c_261_122 hy ?_
      obtain ⟨ho, t⟩ := t
      refine g56 c_261_123 ho (fun h11 eh11 => ?_)
      have t := t h11 eh11
      refine g5 c_261_124 rfl ?_
      obtain ⟨ho, j12, hr, t⟩ := t
      refine g45 c_261_125 ho hr ?_
      refine g3 c_261_128 rfl ?_
      refine g34a c_261_129 ?_
      obtain ⟨ho, t⟩ := t
      refine g52 c_261_130 ho ?_
      refine g4 c_261_131 rfl ?_
      obtain ⟨hy, t⟩ := t
      refine g26 c_261_132 hy ?_
      obtain ⟨ho, t⟩ := t
      refine g56 c_261_133 ho (fun h13 eh13 => ?_)
      have t := t h13 eh13
      refine g5 c_261_134 rfl ?_
      obtain ⟨ho, j14, hr, t⟩ := t
      refine g45 c_261_135 ho hr ?_
      refine g3 c_261_138 rfl ?_
      obtain ⟨ho, t⟩ := t
      refine g52 c_261_139 ho ?_
      refine g2 c_261_140 kl_1000000000 ?_
      refine g28 c_261_143 ?_
      refine gif c_261_144 (gbr t rfl rfl (fun hc t => ?_) (fun hc t => ?_))
      · refine g5 c_261_173 rfl ?_
        obtain ⟨ho, j15, hr, t⟩ := t
        refine g45 c_261_174 ho hr ?_
        refine g3 c_261_177 rfl ?_
        refine g2 c_261_178 kl_0 ?_
        obtain ⟨ho, t⟩ := t
        refine g56 c_261_179 ho (fun h16 eh16 => ?_)
        have t := t h16 eh16
        exact g94 c_261_180 t
      · refine g5 c_261_147 rfl ?_
        obtain ⟨ho, j17, hr, t⟩ := t
        refine g45 c_261_148 ho hr ?_
        refine g3 c_261_151 rfl ?_
        obtain ⟨ho, t⟩ := t
        refine g52 c_261_152 ho ?_
        refine g2 c_261_153 kl_m1000000000 ?_
        refine g28 c_261_156 ?_
        refine gif c_261_157 (gbr t rfl rfl (fun hc t => ?_) (fun hc t => ?_))
        · refine g5 c_261_173 rfl ?_
          obtain ⟨ho, j18, hr, t⟩ := t
          refine g45 c_261_174 ho hr ?_
          refine g3 c_261_177 rfl ?_
          refine g2 c_261_178 kl_0 ?_
          obtain ⟨ho, t⟩ := t
          refine g56 c_261_179 ho (fun h19 eh19 => ?_)
          have t := t h19 eh19
          exact g94 c_261_180 t
        · refine g5 c_261_160 rfl ?_
          obtain ⟨ho, j20, hr, t⟩ := t
          refine g45 c_261_161 ho hr ?_
          refine g3 c_261_164 rfl ?_
          obtain ⟨ho, t⟩ := t
          refine g52 c_261_165 ho ?_
          refine g2 c_261_166 kl_1000000000 ?_
          refine g28 c_261_169 ?_
          refine gif c_261_170 (gbr t rfl rfl (fun hc t => ?_) (fun hc t => ?_))
          · exact g94 c_261_180 t
          · refine g5 c_261_173 rfl ?_
            obtain ⟨ho, j21, hr, t⟩ := t
            refine g45 c_261_174 ho hr ?_
            refine g3 c_261_177 rfl ?_
            refine g2 c_261_178 kl_0 ?_
            obtain ⟨ho, t⟩ := t
            refine g56 c_261_179 ho (fun h22 eh22 => ?_)
            have t := t h22 eh22
            exact g94 c_261_180 t
  · refine g4 c_261_92 rfl ?_
    refine g4 c_261_93 rfl ?_
    obtain ⟨hy, t⟩ := t
    refine g27 c_261_95 hy ?_
    refine g7 (L' := [.ref x0, .int x1, .long x2, .retAddr 0, .long x4, .retAddr 0, .long (x2 - x2 / x4 * x4), .retAddr 0]) c_261_96 rfl ?_
    refine g4 c_261_98 rfl ?_
    refine g7 (L' := [.ref x0, .int x1, .long x4, .retAddr 0, .long x4, .retAddr 0, .long (x2 - x2 / x4 * x4), .retAddr 0]) c_261_100 rfl ?_
    refine g4 c_261_101 rfl ?_
    refine g7 (L' := [.ref x0, .int x1, .long x4, .retAddr 0, .long (x2 - x2 / x4 * x4), .retAddr 0, .long (x2 - x2 / x4 * x4), .retAddr 0]) c_261_103 rfl ?_
    refine g38 c_261_105 rfl ?_
    exact t
-- method 262: MillTownModel.two(I)V
theorem c_262_0 : pg_cd 262 0 = (5, 1, 0, 0, 0) := by decide +kernel
theorem c_262_1 : pg_cd 262 1 = (33, 1, 0, 0, 0) := by decide +kernel
theorem c_262_2 : pg_cd 262 2 = (43, 12, 281, 22, 0) := by decide +kernel
theorem c_262_5 : pg_cd 262 5 = (1, 1, 0, 0, 1) := by decide +kernel
theorem c_262_6 : pg_cd 262 6 = (11, 1, 0, 0, 0) := by decide +kernel
theorem c_262_7 : pg_cd 262 7 = (46, 12, 281, 22, 0) := by decide +kernel
theorem c_262_10 : pg_cd 262 10 = (5, 1, 0, 0, 0) := by decide +kernel
theorem c_262_11 : pg_cd 262 11 = (43, 12, 281, 22, 0) := by decide +kernel
theorem c_262_14 : pg_cd 262 14 = (1, 1, 0, 0, 1) := by decide +kernel
theorem c_262_15 : pg_cd 262 15 = (11, 1, 0, 0, 0) := by decide +kernel
theorem c_262_16 : pg_cd 262 16 = (6, 1, 0, 2, 0) := by decide +kernel
theorem c_262_17 : pg_cd 262 17 = (5, 1, 0, 0, 0) := by decide +kernel
theorem c_262_18 : pg_cd 262 18 = (45, 12, 33, 19, 0) := by decide +kernel
theorem c_262_21 : pg_cd 262 21 = (3, 1, 0, 2, 0) := by decide +kernel
theorem c_262_22 : pg_cd 262 22 = (52, 1, 0, 0, 0) := by decide +kernel
theorem c_262_23 : pg_cd 262 23 = (7, 1, 0, 3, 0) := by decide +kernel
theorem c_262_24 : pg_cd 262 24 = (5, 1, 0, 0, 0) := by decide +kernel
theorem c_262_25 : pg_cd 262 25 = (45, 12, 37, 20, 0) := by decide +kernel
theorem c_262_28 : pg_cd 262 28 = (3, 1, 0, 2, 0) := by decide +kernel
theorem c_262_29 : pg_cd 262 29 = (52, 1, 0, 0, 0) := by decide +kernel
theorem c_262_30 : pg_cd 262 30 = (7, 2, 0, 5, 0) := by decide +kernel
theorem c_262_32 : pg_cd 262 32 = (5, 1, 0, 0, 0) := by decide +kernel
theorem c_262_33 : pg_cd 262 33 = (45, 12, 33, 19, 0) := by decide +kernel
theorem c_262_36 : pg_cd 262 36 = (5, 1, 0, 0, 0) := by decide +kernel
theorem c_262_37 : pg_cd 262 37 = (43, 12, 281, 22, 0) := by decide +kernel
theorem c_262_40 : pg_cd 262 40 = (52, 1, 0, 0, 0) := by decide +kernel
theorem c_262_41 : pg_cd 262 41 = (7, 2, 0, 7, 0) := by decide +kernel
theorem c_262_43 : pg_cd 262 43 = (5, 1, 0, 0, 0) := by decide +kernel
theorem c_262_44 : pg_cd 262 44 = (45, 12, 37, 20, 0) := by decide +kernel
theorem c_262_47 : pg_cd 262 47 = (5, 1, 0, 0, 0) := by decide +kernel
theorem c_262_48 : pg_cd 262 48 = (43, 12, 281, 22, 0) := by decide +kernel
theorem c_262_51 : pg_cd 262 51 = (52, 1, 0, 0, 0) := by decide +kernel
theorem c_262_52 : pg_cd 262 52 = (7, 2, 0, 9, 0) := by decide +kernel
theorem c_262_54 : pg_cd 262 54 = (4, 2, 0, 5, 0) := by decide +kernel
theorem c_262_56 : pg_cd 262 56 = (2, 1, 0, 0, 0) := by decide +kernel
theorem c_262_57 : pg_cd 262 57 = (28, 1, 0, 0, 0) := by decide +kernel
theorem c_262_58 : pg_cd 262 58 = (36, 3, 0, 0, 10) := by decide +kernel
theorem c_262_61 : pg_cd 262 61 = (4, 2, 0, 9, 0) := by decide +kernel
theorem c_262_63 : pg_cd 262 63 = (2, 1, 0, 0, 0) := by decide +kernel
theorem c_262_64 : pg_cd 262 64 = (28, 1, 0, 0, 0) := by decide +kernel
theorem c_262_65 : pg_cd 262 65 = (36, 3, 0, 1, 11) := by decide +kernel
theorem c_262_68 : pg_cd 262 68 = (5, 1, 0, 0, 0) := by decide +kernel
theorem c_262_69 : pg_cd 262 69 = (45, 12, 37, 20, 0) := by decide +kernel
theorem c_262_72 : pg_cd 262 72 = (3, 1, 0, 2, 0) := by decide +kernel
theorem c_262_73 : pg_cd 262 73 = (2, 1, 0, 0, 0) := by decide +kernel
theorem c_262_74 : pg_cd 262 74 = (56, 1, 0, 0, 0) := by decide +kernel
theorem c_262_75 : pg_cd 262 75 = (94, 0, 0, 0, 0) := by decide +kernel
theorem c_262_76 : pg_cd 262 76 = (4, 1, 0, 3, 0) := by decide +kernel
theorem c_262_77 : pg_cd 262 77 = (4, 2, 0, 9, 0) := by decide +kernel
theorem c_262_79 : pg_cd 262 79 = (24, 1, 0, 0, 0) := by decide +kernel
theorem c_262_80 : pg_cd 262 80 = (4, 2, 0, 7, 0) := by decide +kernel
theorem c_262_82 : pg_cd 262 82 = (4, 2, 0, 5, 0) := by decide +kernel
theorem c_262_84 : pg_cd 262 84 = (24, 1, 0, 0, 0) := by decide +kernel
theorem c_262_85 : pg_cd 262 85 = (28, 1, 0, 0, 0) := by decide +kernel
theorem c_262_86 : pg_cd 262 86 = (36, 3, 0, 3, 7) := by decide +kernel
theorem c_262_89 : pg_cd 262 89 = (1, 1, 0, 0, 1) := by decide +kernel
theorem c_262_90 : pg_cd 262 90 = (38, 3, 0, 0, 4) := by decide +kernel
theorem c_262_93 : pg_cd 262 93 = (1, 1, 0, 0, 0) := by decide +kernel
theorem c_262_94 : pg_cd 262 94 = (6, 2, 0, 11, 0) := by decide +kernel
theorem c_262_96 : pg_cd 262 96 = (3, 1, 0, 1, 0) := by decide +kernel
theorem c_262_97 : pg_cd 262 97 = (42, 5, 31, 0, 0) := by decide +kernel
theorem c_262_128 : pg_cd 262 128 = (5, 1, 0, 0, 0) := by decide +kernel
theorem c_262_129 : pg_cd 262 129 = (45, 12, 33, 19, 0) := by decide +kernel
theorem c_262_132 : pg_cd 262 132 = (3, 1, 0, 2, 0) := by decide +kernel
theorem c_262_133 : pg_cd 262 133 = (3, 1, 0, 1, 0) := by decide +kernel
theorem c_262_134 : pg_cd 262 134 = (1, 1, 0, 0, 3) := by decide +kernel
theorem c_262_135 : pg_cd 262 135 = (37, 3, 0, 1, 16) := by decide +kernel
theorem c_262_138 : pg_cd 262 138 = (4, 1, 0, 3, 0) := by decide +kernel
theorem c_262_139 : pg_cd 262 139 = (4, 2, 0, 9, 0) := by decide +kernel
theorem c_262_141 : pg_cd 262 141 = (24, 1, 0, 0, 0) := by decide +kernel
theorem c_262_142 : pg_cd 262 142 = (4, 2, 0, 7, 0) := by decide +kernel
theorem c_262_144 : pg_cd 262 144 = (4, 2, 0, 5, 0) := by decide +kernel
theorem c_262_146 : pg_cd 262 146 = (24, 1, 0, 0, 0) := by decide +kernel
theorem c_262_147 : pg_cd 262 147 = (22, 1, 0, 0, 0) := by decide +kernel
theorem c_262_148 : pg_cd 262 148 = (38, 3, 0, 0, 13) := by decide +kernel
theorem c_262_151 : pg_cd 262 151 = (4, 1, 0, 3, 0) := by decide +kernel
theorem c_262_152 : pg_cd 262 152 = (4, 2, 0, 9, 0) := by decide +kernel
theorem c_262_154 : pg_cd 262 154 = (24, 1, 0, 0, 0) := by decide +kernel
theorem c_262_155 : pg_cd 262 155 = (4, 2, 0, 7, 0) := by decide +kernel
theorem c_262_157 : pg_cd 262 157 = (4, 2, 0, 5, 0) := by decide +kernel
theorem c_262_159 : pg_cd 262 159 = (24, 1, 0, 0, 0) := by decide +kernel
theorem c_262_160 : pg_cd 262 160 = (23, 1, 0, 0, 0) := by decide +kernel
theorem c_262_161 : pg_cd 262 161 = (56, 1, 0, 0, 0) := by decide +kernel
theorem c_262_162 : pg_cd 262 162 = (5, 1, 0, 0, 0) := by decide +kernel
theorem c_262_163 : pg_cd 262 163 = (45, 12, 37, 20, 0) := by decide +kernel
theorem c_262_166 : pg_cd 262 166 = (3, 1, 0, 2, 0) := by decide +kernel
theorem c_262_167 : pg_cd 262 167 = (4, 2, 0, 5, 0) := by decide +kernel
theorem c_262_169 : pg_cd 262 169 = (4, 2, 0, 9, 0) := by decide +kernel
theorem c_262_171 : pg_cd 262 171 = (24, 1, 0, 0, 0) := by decide +kernel
theorem c_262_172 : pg_cd 262 172 = (56, 1, 0, 0, 0) := by decide +kernel
theorem c_262_173 : pg_cd 262 173 = (38, 3, 0, 0, 83) := by decide +kernel
theorem c_262_176 : pg_cd 262 176 = (5, 1, 0, 0, 0) := by decide +kernel
theorem c_262_177 : pg_cd 262 177 = (45, 12, 33, 19, 0) := by decide +kernel
theorem c_262_180 : pg_cd 262 180 = (3, 1, 0, 2, 0) := by decide +kernel
theorem c_262_181 : pg_cd 262 181 = (4, 1, 0, 3, 0) := by decide +kernel
theorem c_262_182 : pg_cd 262 182 = (4, 2, 0, 7, 0) := by decide +kernel
theorem c_262_184 : pg_cd 262 184 = (24, 1, 0, 0, 0) := by decide +kernel
theorem c_262_185 : pg_cd 262 185 = (56, 1, 0, 0, 0) := by decide +kernel
theorem c_262_186 : pg_cd 262 186 = (5, 1, 0, 0, 0) := by decide +kernel
theorem c_262_187 : pg_cd 262 187 = (45, 12, 37, 20, 0) := by decide +kernel
theorem c_262_190 : pg_cd 262 190 = (3, 1, 0, 2, 0) := by decide +kernel
theorem c_262_191 : pg_cd 262 191 = (4, 2, 0, 5, 0) := by decide +kernel
theorem c_262_193 : pg_cd 262 193 = (4, 2, 0, 9, 0) := by decide +kernel
theorem c_262_195 : pg_cd 262 195 = (24, 1, 0, 0, 0) := by decide +kernel
theorem c_262_196 : pg_cd 262 196 = (56, 1, 0, 0, 0) := by decide +kernel
theorem c_262_197 : pg_cd 262 197 = (38, 3, 0, 0, 59) := by decide +kernel
theorem c_262_200 : pg_cd 262 200 = (5, 1, 0, 0, 0) := by decide +kernel
theorem c_262_201 : pg_cd 262 201 = (45, 12, 33, 19, 0) := by decide +kernel
theorem c_262_204 : pg_cd 262 204 = (3, 1, 0, 2, 0) := by decide +kernel
theorem c_262_205 : pg_cd 262 205 = (4, 1, 0, 3, 0) := by decide +kernel
theorem c_262_206 : pg_cd 262 206 = (4, 2, 0, 9, 0) := by decide +kernel
theorem c_262_208 : pg_cd 262 208 = (24, 1, 0, 0, 0) := by decide +kernel
theorem c_262_209 : pg_cd 262 209 = (56, 1, 0, 0, 0) := by decide +kernel
theorem c_262_210 : pg_cd 262 210 = (5, 1, 0, 0, 0) := by decide +kernel
theorem c_262_211 : pg_cd 262 211 = (45, 12, 37, 20, 0) := by decide +kernel
theorem c_262_214 : pg_cd 262 214 = (3, 1, 0, 2, 0) := by decide +kernel
theorem c_262_215 : pg_cd 262 215 = (4, 2, 0, 5, 0) := by decide +kernel
theorem c_262_217 : pg_cd 262 217 = (4, 2, 0, 7, 0) := by decide +kernel
theorem c_262_219 : pg_cd 262 219 = (24, 1, 0, 0, 0) := by decide +kernel
theorem c_262_220 : pg_cd 262 220 = (56, 1, 0, 0, 0) := by decide +kernel
theorem c_262_221 : pg_cd 262 221 = (38, 3, 0, 0, 35) := by decide +kernel
theorem c_262_224 : pg_cd 262 224 = (3, 1, 0, 1, 0) := by decide +kernel
theorem c_262_225 : pg_cd 262 225 = (1, 2, 0, 0, 7) := by decide +kernel
theorem c_262_227 : pg_cd 262 227 = (37, 3, 0, 1, 7) := by decide +kernel
theorem c_262_230 : pg_cd 262 230 = (1, 1, 0, 0, 1) := by decide +kernel
theorem c_262_231 : pg_cd 262 231 = (38, 3, 0, 0, 4) := by decide +kernel
theorem c_262_234 : pg_cd 262 234 = (1, 1, 0, 0, 0) := by decide +kernel
theorem c_262_235 : pg_cd 262 235 = (3, 2, 0, 11, 0) := by decide +kernel
theorem c_262_237 : pg_cd 262 237 = (37, 3, 0, 0, 19) := by decide +kernel
theorem c_262_240 : pg_cd 262 240 = (5, 1, 0, 0, 0) := by decide +kernel
theorem c_262_241 : pg_cd 262 241 = (45, 12, 33, 19, 0) := by decide +kernel
theorem c_262_244 : pg_cd 262 244 = (3, 1, 0, 2, 0) := by decide +kernel
theorem c_262_245 : pg_cd 262 245 = (4, 2, 0, 7, 0) := by decide +kernel
theorem c_262_247 : pg_cd 262 247 = (56, 1, 0, 0, 0) := by decide +kernel
theorem c_262_248 : pg_cd 262 248 = (5, 1, 0, 0, 0) := by decide +kernel
theorem c_262_249 : pg_cd 262 249 = (45, 12, 37, 20, 0) := by decide +kernel
theorem c_262_252 : pg_cd 262 252 = (3, 1, 0, 2, 0) := by decide +kernel
theorem c_262_253 : pg_cd 262 253 = (4, 2, 0, 9, 0) := by decide +kernel
theorem c_262_255 : pg_cd 262 255 = (56, 1, 0, 0, 0) := by decide +kernel
theorem c_262_256 : pg_cd 262 256 = (5, 1, 0, 0, 0) := by decide +kernel
theorem c_262_257 : pg_cd 262 257 = (3, 1, 0, 2, 0) := by decide +kernel
theorem c_262_258 : pg_cd 262 258 = (80, 261, 284, 0, 0) := by decide +kernel
theorem c_262_261 : pg_cd 262 261 = (94, 0, 0, 0, 0) := by decide +kernel
theorem mx_262 : pg_mx 262 = 12 := by decide +kernel
theorem m_262 {d : Nat} {h : ab_H} {Q : Option Value → ab_H → Prop} {x0 : Nat} {x1 : Int32} (t : wq d 262 0 [.ref x0, .int x1, .retAddr 0, .retAddr 0, .retAddr 0, .retAddr 0, .retAddr 0, .retAddr 0, .retAddr 0, .retAddr 0, .retAddr 0, .retAddr 0] [] h Q) : wm d 262 [.ref x0, .int x1] h Q := by
  unfold wm
  rw [mx_262]
  exact t
set_option maxRecDepth 20000 in
theorem t_262_0 {d : Nat} {h : ab_H} {Q : Option Value → ab_H → Prop} {x0 : Nat} {x1 : Int32} (t : ab_ok h x0 112 = true ∧ ab_ok h x0 112 = true ∧ ∀ h1 : ab_H, h1 = ab_pi h x0 22 ((ab_i h x0 22) - 1) → ab_ok h1 x0 112 = true ∧ ab_ok h1 x0 112 = true ∧ ∃ j2 : Nat, ab_r h1 x0 19 = some j2 ∧ (ab_ok h1 j2 1 = true ∧ ab_in ((ab_i h1 x0 22) - 1) (ab_s h1 j2).2 = true) ∧ ∀ y3 : Int64, y3 = (ab_l h1 j2 (Int32.toNatClampNeg ((ab_i h1 x0 22) - 1))) → ab_ok h1 x0 112 = true ∧ ∃ j4 : Nat, ab_r h1 x0 20 = some j4 ∧ (ab_ok h1 j4 1 = true ∧ ab_in ((ab_i h1 x0 22) - 1) (ab_s h1 j4).2 = true) ∧ ∀ y5 : Int64, y5 = (ab_l h1 j4 (Int32.toNatClampNeg ((ab_i h1 x0 22) - 1))) → ab_ok h1 x0 112 = true ∧ ∃ j6 : Nat, ab_r h1 x0 19 = some j6 ∧ ab_ok h1 x0 112 = true ∧ (ab_ok h1 j6 1 = true ∧ ab_in (ab_i h1 x0 22) (ab_s h1 j6).2 = true) ∧ ∀ y7 : Int64, y7 = (ab_l h1 j6 (Int32.toNatClampNeg (ab_i h1 x0 22))) → ab_ok h1 x0 112 = true ∧ ∃ j8 : Nat, ab_r h1 x0 20 = some j8 ∧ ab_ok h1 x0 112 = true ∧ (ab_ok h1 j8 1 = true ∧ ab_in (ab_i h1 x0 22) (ab_s h1 j8).2 = true) ∧ ∀ y9 : Int64, y9 = (ab_l h1 j8 (Int32.toNatClampNeg (ab_i h1 x0 22))) → if (lg_cmp y5 0) = 0 then (wq d 262 68 [.ref x0, .int x1, .int ((ab_i h1 x0 22) - 1), .long y3, .retAddr 0, .long y5, .retAddr 0, .long y7, .retAddr 0, .long y9, .retAddr 0, .retAddr 0] [] h1 Q) else (if (lg_cmp y9 0) = 0 then (wq d 262 68 [.ref x0, .int x1, .int ((ab_i h1 x0 22) - 1), .long y3, .retAddr 0, .long y5, .retAddr 0, .long y7, .retAddr 0, .long y9, .retAddr 0, .retAddr 0] [] h1 Q) else (if 0 ≤ (lg_cmp (y3 * y9) (y7 * y5)) then (wq d 262 94 [.ref x0, .int x1, .int ((ab_i h1 x0 22) - 1), .long y3, .retAddr 0, .long y5, .retAddr 0, .long y7, .retAddr 0, .long y9, .retAddr 0, .retAddr 0] [.int 0] h1 Q) else (wq d 262 94 [.ref x0, .int x1, .int ((ab_i h1 x0 22) - 1), .long y3, .retAddr 0, .long y5, .retAddr 0, .long y7, .retAddr 0, .long y9, .retAddr 0, .retAddr 0] [.int 1] h1 Q)))) : wq d 262 0 [.ref x0, .int x1, .retAddr 0, .retAddr 0, .retAddr 0, .retAddr 0, .retAddr 0, .retAddr 0, .retAddr 0, .retAddr 0, .retAddr 0, .retAddr 0] [] h Q := by
  refine g5 c_262_0 rfl ?_
  refine g33a c_262_1 ?_
  obtain ⟨ho, t⟩ := t
  refine g43 c_262_2 ho ?_
  refine g1 c_262_5 k_1 ?_
  refine g11 c_262_6 ?_
  obtain ⟨ho, t⟩ := t
  refine g46 c_262_7 ho (fun h1 eh1 => ?_)
  have t := t h1 eh1
  refine g5 c_262_10 rfl ?_
  obtain ⟨ho, t⟩ := t
  refine g43 c_262_11 ho ?_
  refine g1 c_262_14 k_1 ?_
  refine g11 c_262_15 ?_
  refine g6 (L' := [.ref x0, .int x1, .int ((ab_i h1 x0 22) - 1), .retAddr 0, .retAddr 0, .retAddr 0, .retAddr 0, .retAddr 0, .retAddr 0, .retAddr 0, .retAddr 0, .retAddr 0]) c_262_16 rfl ?_
  refine g5 c_262_17 rfl ?_
  obtain ⟨ho, j2, hr, t⟩ := t
  refine g45 c_262_18 ho hr ?_
  refine g3 c_262_21 rfl ?_
  obtain ⟨ho, t⟩ := t
  refine g52 c_262_22 ho ?_
  refine g7y (Lf := fun y3 => [.ref x0, .int x1, .int ((ab_i h1 x0 22) - 1), .long y3, .retAddr 0, .retAddr 0, .retAddr 0, .retAddr 0, .retAddr 0, .retAddr 0, .retAddr 0, .retAddr 0]) c_262_23 (fun _ => rfl) (fun y3 ey3 => ?_)
  have t := t y3 ey3
  refine g5 c_262_24 rfl ?_
  obtain ⟨ho, j4, hr, t⟩ := t
  refine g45 c_262_25 ho hr ?_
  refine g3 c_262_28 rfl ?_
  obtain ⟨ho, t⟩ := t
  refine g52 c_262_29 ho ?_
  refine g7y (Lf := fun y5 => [.ref x0, .int x1, .int ((ab_i h1 x0 22) - 1), .long y3, .retAddr 0, .long y5, .retAddr 0, .retAddr 0, .retAddr 0, .retAddr 0, .retAddr 0, .retAddr 0]) c_262_30 (fun _ => rfl) (fun y5 ey5 => ?_)
  have t := t y5 ey5
  refine g5 c_262_32 rfl ?_
  obtain ⟨ho, j6, hr, t⟩ := t
  refine g45 c_262_33 ho hr ?_
  refine g5 c_262_36 rfl ?_
  obtain ⟨ho, t⟩ := t
  refine g43 c_262_37 ho ?_
  obtain ⟨ho, t⟩ := t
  refine g52 c_262_40 ho ?_
  refine g7y (Lf := fun y7 => [.ref x0, .int x1, .int ((ab_i h1 x0 22) - 1), .long y3, .retAddr 0, .long y5, .retAddr 0, .long y7, .retAddr 0, .retAddr 0, .retAddr 0, .retAddr 0]) c_262_41 (fun _ => rfl) (fun y7 ey7 => ?_)
  have t := t y7 ey7
  refine g5 c_262_43 rfl ?_
  obtain ⟨ho, j8, hr, t⟩ := t
  refine g45 c_262_44 ho hr ?_
  refine g5 c_262_47 rfl ?_
  obtain ⟨ho, t⟩ := t
  refine g43 c_262_48 ho ?_
  obtain ⟨ho, t⟩ := t
  refine g52 c_262_51 ho ?_
  refine g7y (Lf := fun y9 => [.ref x0, .int x1, .int ((ab_i h1 x0 22) - 1), .long y3, .retAddr 0, .long y5, .retAddr 0, .long y7, .retAddr 0, .long y9, .retAddr 0, .retAddr 0]) c_262_52 (fun _ => rfl) (fun y9 ey9 => ?_)
  have t := t y9 ey9
  refine g4 c_262_54 rfl ?_
  refine g2 c_262_56 kl_0 ?_
  refine g28 c_262_57 ?_
  refine gif c_262_58 (gbr t rfl rfl (fun hc t => ?_) (fun hc t => ?_))
  · exact t
  · refine g4 c_262_61 rfl ?_
    refine g2 c_262_63 kl_0 ?_
    refine g28 c_262_64 ?_
    refine gif c_262_65 (gbn t (ab_c1 _ _) rfl (fun hc t => ?_) (fun hc t => ?_))
    · exact t
    · refine g4 c_262_76 rfl ?_
      refine g4 c_262_77 rfl ?_
      refine g24 c_262_79 ?_
      refine g4 c_262_80 rfl ?_
      refine g4 c_262_82 rfl ?_
      refine g24 c_262_84 ?_
      refine g28 c_262_85 ?_
      refine gif c_262_86 (gbr t rfl rfl (fun hc t => ?_) (fun hc t => ?_))
      · refine g1 c_262_93 k_0 ?_
        exact t
      · refine g1 c_262_89 k_1 ?_
        refine g38 c_262_90 rfl ?_
        exact t
set_option maxRecDepth 20000 in
theorem t_262_68 {d : Nat} {h : ab_H} {Q : Option Value → ab_H → Prop} {x0 : Nat} {x1 : Int32} {x2 : Int32} {x3 : Int64} {x5 : Int64} {x7 : Int64} {x9 : Int64} (t : ab_ok h x0 112 = true ∧ ∃ j1 : Nat, ab_r h x0 20 = some j1 ∧ (ab_ok h j1 1 = true ∧ ab_in x2 (ab_s h j1).2 = true) ∧ ∀ h2 : ab_H, h2 = ab_pl h j1 (Int32.toNatClampNeg x2) 0 → Q none h2) : wq d 262 68 [.ref x0, .int x1, .int x2, .long x3, .retAddr 0, .long x5, .retAddr 0, .long x7, .retAddr 0, .long x9, .retAddr 0, .retAddr 0] [] h Q := by
  refine g5 c_262_68 rfl ?_
  obtain ⟨ho, j1, hr, t⟩ := t
  refine g45 c_262_69 ho hr ?_
  refine g3 c_262_72 rfl ?_
  refine g2 c_262_73 kl_0 ?_
  obtain ⟨ho, t⟩ := t
  refine g56 c_262_74 ho (fun h2 eh2 => ?_)
  have t := t h2 eh2
  exact g94 c_262_75 t
set_option maxRecDepth 20000 in
theorem t_262_94 {d : Nat} {h : ab_H} {Q : Option Value → ab_H → Prop} {x0 : Nat} {x1 : Int32} {x2 : Int32} {x3 : Int64} {x5 : Int64} {x7 : Int64} {x9 : Int64} {s0 : Int32} (t : if x1 = 3 then (ab_ok h x0 112 = true ∧ ∃ j1 : Nat, ab_r h x0 19 = some j1 ∧ if x1 = 3 then (wq d 262 161 [.ref x0, .int x1, .int x2, .long x3, .retAddr 0, .long x5, .retAddr 0, .long x7, .retAddr 0, .long x9, .retAddr 0, .int s0] [.long ((x3 * x9) + (x7 * x5)), .int x2, .ref j1] h Q) else (wq d 262 161 [.ref x0, .int x1, .int x2, .long x3, .retAddr 0, .long x5, .retAddr 0, .long x7, .retAddr 0, .long x9, .retAddr 0, .int s0] [.long ((x3 * x9) - (x7 * x5)), .int x2, .ref j1] h Q)) else (if x1 = 4 then (ab_ok h x0 112 = true ∧ ∃ j2 : Nat, ab_r h x0 19 = some j2 ∧ if x1 = 3 then (wq d 262 161 [.ref x0, .int x1, .int x2, .long x3, .retAddr 0, .long x5, .retAddr 0, .long x7, .retAddr 0, .long x9, .retAddr 0, .int s0] [.long ((x3 * x9) + (x7 * x5)), .int x2, .ref j2] h Q) else (wq d 262 161 [.ref x0, .int x1, .int x2, .long x3, .retAddr 0, .long x5, .retAddr 0, .long x7, .retAddr 0, .long x9, .retAddr 0, .int s0] [.long ((x3 * x9) - (x7 * x5)), .int x2, .ref j2] h Q)) else (if x1 = 5 then (ab_ok h x0 112 = true ∧ ∃ j3 : Nat, ab_r h x0 19 = some j3 ∧ (ab_ok h j3 1 = true ∧ ab_in x2 (ab_s h j3).2 = true) ∧ ∀ h4 : ab_H, h4 = ab_pl h j3 (Int32.toNatClampNeg x2) (x3 * x7) → ab_ok h4 x0 112 = true ∧ ∃ j5 : Nat, ab_r h4 x0 20 = some j5 ∧ (ab_ok h4 j5 1 = true ∧ ab_in x2 (ab_s h4 j5).2 = true) ∧ ∀ h6 : ab_H, h6 = ab_pl h4 j5 (Int32.toNatClampNeg x2) (x5 * x9) → wq d 262 256 [.ref x0, .int x1, .int x2, .long x3, .retAddr 0, .long x5, .retAddr 0, .long x7, .retAddr 0, .long x9, .retAddr 0, .int s0] [] h6 Q) else (if x1 = 6 then (ab_ok h x0 112 = true ∧ ∃ j7 : Nat, ab_r h x0 19 = some j7 ∧ (ab_ok h j7 1 = true ∧ ab_in x2 (ab_s h j7).2 = true) ∧ ∀ h8 : ab_H, h8 = ab_pl h j7 (Int32.toNatClampNeg x2) (x3 * x9) → ab_ok h8 x0 112 = true ∧ ∃ j9 : Nat, ab_r h8 x0 20 = some j9 ∧ (ab_ok h8 j9 1 = true ∧ ab_in x2 (ab_s h8 j9).2 = true) ∧ ∀ h10 : ab_H, h10 = ab_pl h8 j9 (Int32.toNatClampNeg x2) (x5 * x7) → wq d 262 256 [.ref x0, .int x1, .int x2, .long x3, .retAddr 0, .long x5, .retAddr 0, .long x7, .retAddr 0, .long x9, .retAddr 0, .int s0] [] h10 Q) else (if x1 = 7 then (wq d 262 235 [.ref x0, .int x1, .int x2, .long x3, .retAddr 0, .long x5, .retAddr 0, .long x7, .retAddr 0, .long x9, .retAddr 0, .int s0] [.int 1] h Q) else (wq d 262 235 [.ref x0, .int x1, .int x2, .long x3, .retAddr 0, .long x5, .retAddr 0, .long x7, .retAddr 0, .long x9, .retAddr 0, .int s0] [.int 0] h Q)))))) : wq d 262 94 [.ref x0, .int x1, .int x2, .long x3, .retAddr 0, .long x5, .retAddr 0, .long x7, .retAddr 0, .long x9, .retAddr 0, .retAddr 0] [.int s0] h Q := by
  refine g6 (L' := [.ref x0, .int x1, .int x2, .long x3, .retAddr 0, .long x5, .retAddr 0, .long x7, .retAddr 0, .long x9, .retAddr 0, .int s0]) c_262_94 rfl ?_
  refine g3 c_262_96 rfl ?_
  by_cases e0 : x1 = 3
  · rw [if_pos e0] at t
    refine g42 (o := 31) c_262_97 sw_5 (by rw [e0]; decide) (by rw [e0]; decide) rfl ?_
    refine g5 c_262_128 rfl ?_
    obtain ⟨ho, j1, hr, t⟩ := t
    refine g45 c_262_129 ho hr ?_
    refine g3 c_262_132 rfl ?_
    refine g3 c_262_133 rfl ?_
    refine g1 c_262_134 k_3 ?_
    refine gcm c_262_135 (gbn t (ab_c1 _ _) rfl (fun hc t => ?_) (fun hc t => ?_))
    · refine g4 c_262_138 rfl ?_
      refine g4 c_262_139 rfl ?_
      refine g24 c_262_141 ?_
      refine g4 c_262_142 rfl ?_
      refine g4 c_262_144 rfl ?_
      refine g24 c_262_146 ?_
      refine g22 c_262_147 ?_
      refine g38 c_262_148 rfl ?_
      exact t
    · refine g4 c_262_151 rfl ?_
      refine g4 c_262_152 rfl ?_
      refine g24 c_262_154 ?_
      refine g4 c_262_155 rfl ?_
      refine g4 c_262_157 rfl ?_
      refine g24 c_262_159 ?_
      refine g23 c_262_160 ?_
      exact t
  rw [if_neg e0] at t
  by_cases e1 : x1 = 4
  · rw [if_pos e1] at t
    refine g42 (o := 31) c_262_97 sw_5 (by rw [e1]; decide) (by rw [e1]; decide) rfl ?_
    refine g5 c_262_128 rfl ?_
    obtain ⟨ho, j2, hr, t⟩ := t
    refine g45 c_262_129 ho hr ?_
    refine g3 c_262_132 rfl ?_
    refine g3 c_262_133 rfl ?_
    refine g1 c_262_134 k_3 ?_
    refine gcm c_262_135 (gbn t (ab_c1 _ _) rfl (fun hc t => ?_) (fun hc t => ?_))
    · refine g4 c_262_138 rfl ?_
      refine g4 c_262_139 rfl ?_
      refine g24 c_262_141 ?_
      refine g4 c_262_142 rfl ?_
      refine g4 c_262_144 rfl ?_
      refine g24 c_262_146 ?_
      refine g22 c_262_147 ?_
      refine g38 c_262_148 rfl ?_
      exact t
    · refine g4 c_262_151 rfl ?_
      refine g4 c_262_152 rfl ?_
      refine g24 c_262_154 ?_
      refine g4 c_262_155 rfl ?_
      refine g4 c_262_157 rfl ?_
      refine g24 c_262_159 ?_
      refine g23 c_262_160 ?_
      exact t
  rw [if_neg e1] at t
  by_cases e2 : x1 = 5
  · rw [if_pos e2] at t
    refine g42 (o := 79) c_262_97 sw_5 (by rw [e2]; decide) (by rw [e2]; decide) rfl ?_
    refine g5 c_262_176 rfl ?_
    obtain ⟨ho, j3, hr, t⟩ := t
    refine g45 c_262_177 ho hr ?_
    refine g3 c_262_180 rfl ?_
    refine g4 c_262_181 rfl ?_
    refine g4 c_262_182 rfl ?_
    refine g24 c_262_184 ?_
    obtain ⟨ho, t⟩ := t
    refine g56 c_262_185 ho (fun h4 eh4 => ?_)
    have t := t h4 eh4
    refine g5 c_262_186 rfl ?_
    obtain ⟨ho, j5, hr, t⟩ := t
    refine g45 c_262_187 ho hr ?_
    refine g3 c_262_190 rfl ?_
    refine g4 c_262_191 rfl ?_
    refine g4 c_262_193 rfl ?_
    refine g24 c_262_195 ?_
    obtain ⟨ho, t⟩ := t
    refine g56 c_262_196 ho (fun h6 eh6 => ?_)
    have t := t h6 eh6
    refine g38 c_262_197 rfl ?_
    exact t
  rw [if_neg e2] at t
  by_cases e3 : x1 = 6
  · rw [if_pos e3] at t
    refine g42 (o := 103) c_262_97 sw_5 (by rw [e3]; decide) (by rw [e3]; decide) rfl ?_
    refine g5 c_262_200 rfl ?_
    obtain ⟨ho, j7, hr, t⟩ := t
    refine g45 c_262_201 ho hr ?_
    refine g3 c_262_204 rfl ?_
    refine g4 c_262_205 rfl ?_
    refine g4 c_262_206 rfl ?_
    refine g24 c_262_208 ?_
    obtain ⟨ho, t⟩ := t
    refine g56 c_262_209 ho (fun h8 eh8 => ?_)
    have t := t h8 eh8
    refine g5 c_262_210 rfl ?_
    obtain ⟨ho, j9, hr, t⟩ := t
    refine g45 c_262_211 ho hr ?_
    refine g3 c_262_214 rfl ?_
    refine g4 c_262_215 rfl ?_
    refine g4 c_262_217 rfl ?_
    refine g24 c_262_219 ?_
    obtain ⟨ho, t⟩ := t
    refine g56 c_262_220 ho (fun h10 eh10 => ?_)
    have t := t h10 eh10
    refine g38 c_262_221 rfl ?_
    exact t
  rw [if_neg e3] at t
  refine g42d c_262_97 sw_5 (gsw_out (n := 4) (by decide) (by decide) (fun i hi => ?_)) rfl ?_
  · rcases (show i = 0 ∨ i = 1 ∨ i = 2 ∨ i = 3 by omega) with rfl | rfl | rfl | rfl
    · exact fun q => e0 (q.trans k_3)
    · exact fun q => e1 (q.trans k_4)
    · exact fun q => e2 (q.trans k_5)
    · exact fun q => e3 (q.trans k_6)
  refine g3 c_262_224 rfl ?_
  refine g1 c_262_225 k_7 ?_
  refine gcm c_262_227 (gbn t (ab_c1 _ _) rfl (fun hc t => ?_) (fun hc t => ?_))
  · refine g1 c_262_230 k_1 ?_
    refine g38 c_262_231 rfl ?_
    exact t
  · refine g1 c_262_234 k_0 ?_
    exact t
set_option maxRecDepth 20000 in
theorem t_262_161 {d : Nat} {h : ab_H} {Q : Option Value → ab_H → Prop} {x0 : Nat} {x1 : Int32} {x2 : Int32} {x3 : Int64} {x5 : Int64} {x7 : Int64} {x9 : Int64} {x11 : Int32} {s0 : Nat} {s1 : Int32} {s2 : Int64} (t : (ab_ok h s0 1 = true ∧ ab_in s1 (ab_s h s0).2 = true) ∧ ∀ h1 : ab_H, h1 = ab_pl h s0 (Int32.toNatClampNeg s1) s2 → ab_ok h1 x0 112 = true ∧ ∃ j2 : Nat, ab_r h1 x0 20 = some j2 ∧ (ab_ok h1 j2 1 = true ∧ ab_in x2 (ab_s h1 j2).2 = true) ∧ ∀ h3 : ab_H, h3 = ab_pl h1 j2 (Int32.toNatClampNeg x2) (x5 * x9) → wq d 262 256 [.ref x0, .int x1, .int x2, .long x3, .retAddr 0, .long x5, .retAddr 0, .long x7, .retAddr 0, .long x9, .retAddr 0, .int x11] [] h3 Q) : wq d 262 161 [.ref x0, .int x1, .int x2, .long x3, .retAddr 0, .long x5, .retAddr 0, .long x7, .retAddr 0, .long x9, .retAddr 0, .int x11] [.long s2, .int s1, .ref s0] h Q := by
  obtain ⟨ho, t⟩ := t
  refine g56 c_262_161 ho (fun h1 eh1 => ?_)
  have t := t h1 eh1
  refine g5 c_262_162 rfl ?_
  obtain ⟨ho, j2, hr, t⟩ := t
  refine g45 c_262_163 ho hr ?_
  refine g3 c_262_166 rfl ?_
  refine g4 c_262_167 rfl ?_
  refine g4 c_262_169 rfl ?_
  refine g24 c_262_171 ?_
  obtain ⟨ho, t⟩ := t
  refine g56 c_262_172 ho (fun h3 eh3 => ?_)
  have t := t h3 eh3
  refine g38 c_262_173 rfl ?_
  exact t
set_option maxRecDepth 20000 in
theorem t_262_235 {d : Nat} {h : ab_H} {Q : Option Value → ab_H → Prop} {x0 : Nat} {x1 : Int32} {x2 : Int32} {x3 : Int64} {x5 : Int64} {x7 : Int64} {x9 : Int64} {x11 : Int32} {s0 : Int32} (t : if s0 = x11 then (wq d 262 256 [.ref x0, .int x1, .int x2, .long x3, .retAddr 0, .long x5, .retAddr 0, .long x7, .retAddr 0, .long x9, .retAddr 0, .int x11] [] h Q) else (ab_ok h x0 112 = true ∧ ∃ j1 : Nat, ab_r h x0 19 = some j1 ∧ (ab_ok h j1 1 = true ∧ ab_in x2 (ab_s h j1).2 = true) ∧ ∀ h2 : ab_H, h2 = ab_pl h j1 (Int32.toNatClampNeg x2) x7 → ab_ok h2 x0 112 = true ∧ ∃ j3 : Nat, ab_r h2 x0 20 = some j3 ∧ (ab_ok h2 j3 1 = true ∧ ab_in x2 (ab_s h2 j3).2 = true) ∧ ∀ h4 : ab_H, h4 = ab_pl h2 j3 (Int32.toNatClampNeg x2) x9 → wq d 262 256 [.ref x0, .int x1, .int x2, .long x3, .retAddr 0, .long x5, .retAddr 0, .long x7, .retAddr 0, .long x9, .retAddr 0, .int x11] [] h4 Q)) : wq d 262 235 [.ref x0, .int x1, .int x2, .long x3, .retAddr 0, .long x5, .retAddr 0, .long x7, .retAddr 0, .long x9, .retAddr 0, .int x11] [.int s0] h Q := by
  refine g3 c_262_235 rfl ?_
  refine gcm c_262_237 (gbr t rfl rfl (fun hc t => ?_) (fun hc t => ?_))
  · exact t
  · refine g5 c_262_240 rfl ?_
    obtain ⟨ho, j1, hr, t⟩ := t
    refine g45 c_262_241 ho hr ?_
    refine g3 c_262_244 rfl ?_
    refine g4 c_262_245 rfl ?_
    obtain ⟨ho, t⟩ := t
    refine g56 c_262_247 ho (fun h2 eh2 => ?_)
    have t := t h2 eh2
    refine g5 c_262_248 rfl ?_
    obtain ⟨ho, j3, hr, t⟩ := t
    refine g45 c_262_249 ho hr ?_
    refine g3 c_262_252 rfl ?_
    refine g4 c_262_253 rfl ?_
    obtain ⟨ho, t⟩ := t
    refine g56 c_262_255 ho (fun h4 eh4 => ?_)
    have t := t h4 eh4
    exact t
set_option maxRecDepth 20000 in
theorem t_262_256 {d : Nat} {h : ab_H} {Q : Option Value → ab_H → Prop} {x0 : Nat} {x1 : Int32} {x2 : Int32} {x3 : Int64} {x5 : Int64} {x7 : Int64} {x9 : Int64} {x11 : Int32} (t : ab_ok h x0 112 = true ∧ wm d 261 [.ref x0, .int x2] h (fun r9 h9 => wq (d + 1) 262 261 [.ref x0, .int x1, .int x2, .long x3, .retAddr 0, .long x5, .retAddr 0, .long x7, .retAddr 0, .long x9, .retAddr 0, .int x11] (r9.toList ++ []) h9 Q)) : wq (d + 1) 262 256 [.ref x0, .int x1, .int x2, .long x3, .retAddr 0, .long x5, .retAddr 0, .long x7, .retAddr 0, .long x9, .retAddr 0, .int x11] [] h Q := by
  refine g5 c_262_256 rfl ?_
  refine g3 c_262_257 rfl ?_
  exact g80 (As := [.int x2]) (rest := []) c_262_258 rfl rfl (Nat.le_of_ble_eq_true rfl) (Nat.le_of_ble_eq_true rfl) t.1 t.2
set_option maxRecDepth 20000 in
theorem t_262_261 {d : Nat} {h : ab_H} {Q : Option Value → ab_H → Prop} {x0 : Nat} {x1 : Int32} {x2 : Int32} {x3 : Int64} {x5 : Int64} {x7 : Int64} {x9 : Int64} {x11 : Int32} (t : Q none h) : wq d 262 261 [.ref x0, .int x1, .int x2, .long x3, .retAddr 0, .long x5, .retAddr 0, .long x7, .retAddr 0, .long x9, .retAddr 0, .int x11] [] h Q := by
  exact g94 c_262_261 t
-- method 263: MillTownModel.asked(I)V
theorem c_263_0 : pg_cd 263 0 = (5, 1, 0, 0, 0) := by decide +kernel
theorem c_263_1 : pg_cd 263 1 = (33, 1, 0, 0, 0) := by decide +kernel
theorem c_263_2 : pg_cd 263 2 = (43, 12, 281, 22, 0) := by decide +kernel
theorem c_263_5 : pg_cd 263 5 = (1, 1, 0, 0, 2) := by decide +kernel
theorem c_263_6 : pg_cd 263 6 = (11, 1, 0, 0, 0) := by decide +kernel
theorem c_263_7 : pg_cd 263 7 = (46, 12, 281, 22, 0) := by decide +kernel
theorem c_263_10 : pg_cd 263 10 = (1, 1, 0, 0, 0) := by decide +kernel
theorem c_263_11 : pg_cd 263 11 = (6, 1, 0, 2, 0) := by decide +kernel
theorem c_263_12 : pg_cd 263 12 = (5, 1, 0, 0, 0) := by decide +kernel
theorem c_263_13 : pg_cd 263 13 = (45, 12, 37, 20, 0) := by decide +kernel
theorem c_263_16 : pg_cd 263 16 = (5, 1, 0, 0, 0) := by decide +kernel
theorem c_263_17 : pg_cd 263 17 = (43, 12, 281, 22, 0) := by decide +kernel
theorem c_263_20 : pg_cd 263 20 = (52, 1, 0, 0, 0) := by decide +kernel
theorem c_263_21 : pg_cd 263 21 = (2, 1, 0, 0, 0) := by decide +kernel
theorem c_263_22 : pg_cd 263 22 = (28, 1, 0, 0, 0) := by decide +kernel
theorem c_263_23 : pg_cd 263 23 = (36, 3, 0, 0, 182) := by decide +kernel
theorem c_263_26 : pg_cd 263 26 = (5, 1, 0, 0, 0) := by decide +kernel
theorem c_263_27 : pg_cd 263 27 = (45, 12, 37, 20, 0) := by decide +kernel
theorem c_263_30 : pg_cd 263 30 = (5, 1, 0, 0, 0) := by decide +kernel
theorem c_263_31 : pg_cd 263 31 = (43, 12, 281, 22, 0) := by decide +kernel
theorem c_263_34 : pg_cd 263 34 = (1, 1, 0, 0, 1) := by decide +kernel
theorem c_263_35 : pg_cd 263 35 = (10, 1, 0, 0, 0) := by decide +kernel
theorem c_263_36 : pg_cd 263 36 = (52, 1, 0, 0, 0) := by decide +kernel
theorem c_263_37 : pg_cd 263 37 = (2, 1, 0, 0, 0) := by decide +kernel
theorem c_263_38 : pg_cd 263 38 = (28, 1, 0, 0, 0) := by decide +kernel
theorem c_263_39 : pg_cd 263 39 = (36, 3, 0, 0, 166) := by decide +kernel
theorem c_263_42 : pg_cd 263 42 = (5, 1, 0, 0, 0) := by decide +kernel
theorem c_263_43 : pg_cd 263 43 = (45, 12, 33, 19, 0) := by decide +kernel
theorem c_263_46 : pg_cd 263 46 = (5, 1, 0, 0, 0) := by decide +kernel
theorem c_263_47 : pg_cd 263 47 = (43, 12, 281, 22, 0) := by decide +kernel
theorem c_263_50 : pg_cd 263 50 = (52, 1, 0, 0, 0) := by decide +kernel
theorem c_263_51 : pg_cd 263 51 = (5, 1, 0, 0, 0) := by decide +kernel
theorem c_263_52 : pg_cd 263 52 = (45, 12, 37, 20, 0) := by decide +kernel
theorem c_263_55 : pg_cd 263 55 = (5, 1, 0, 0, 0) := by decide +kernel
theorem c_263_56 : pg_cd 263 56 = (43, 12, 281, 22, 0) := by decide +kernel
theorem c_263_59 : pg_cd 263 59 = (1, 1, 0, 0, 1) := by decide +kernel
theorem c_263_60 : pg_cd 263 60 = (10, 1, 0, 0, 0) := by decide +kernel
theorem c_263_61 : pg_cd 263 61 = (52, 1, 0, 0, 0) := by decide +kernel
theorem c_263_62 : pg_cd 263 62 = (24, 1, 0, 0, 0) := by decide +kernel
theorem c_263_63 : pg_cd 263 63 = (7, 1, 0, 3, 0) := by decide +kernel
theorem c_263_64 : pg_cd 263 64 = (5, 1, 0, 0, 0) := by decide +kernel
theorem c_263_65 : pg_cd 263 65 = (45, 12, 33, 19, 0) := by decide +kernel
theorem c_263_68 : pg_cd 263 68 = (5, 1, 0, 0, 0) := by decide +kernel
theorem c_263_69 : pg_cd 263 69 = (43, 12, 281, 22, 0) := by decide +kernel
theorem c_263_72 : pg_cd 263 72 = (1, 1, 0, 0, 1) := by decide +kernel
theorem c_263_73 : pg_cd 263 73 = (10, 1, 0, 0, 0) := by decide +kernel
theorem c_263_74 : pg_cd 263 74 = (52, 1, 0, 0, 0) := by decide +kernel
theorem c_263_75 : pg_cd 263 75 = (5, 1, 0, 0, 0) := by decide +kernel
theorem c_263_76 : pg_cd 263 76 = (45, 12, 37, 20, 0) := by decide +kernel
theorem c_263_79 : pg_cd 263 79 = (5, 1, 0, 0, 0) := by decide +kernel
theorem c_263_80 : pg_cd 263 80 = (43, 12, 281, 22, 0) := by decide +kernel
theorem c_263_83 : pg_cd 263 83 = (52, 1, 0, 0, 0) := by decide +kernel
theorem c_263_84 : pg_cd 263 84 = (24, 1, 0, 0, 0) := by decide +kernel
theorem c_263_85 : pg_cd 263 85 = (7, 2, 0, 5, 0) := by decide +kernel
theorem c_263_87 : pg_cd 263 87 = (3, 1, 0, 1, 0) := by decide +kernel
theorem c_263_88 : pg_cd 263 88 = (1, 2, 0, 0, 10) := by decide +kernel
theorem c_263_90 : pg_cd 263 90 = (37, 3, 0, 1, 18) := by decide +kernel
theorem c_263_93 : pg_cd 263 93 = (4, 1, 0, 3, 0) := by decide +kernel
theorem c_263_94 : pg_cd 263 94 = (4, 2, 0, 5, 0) := by decide +kernel
theorem c_263_96 : pg_cd 263 96 = (28, 1, 0, 0, 0) := by decide +kernel
theorem c_263_97 : pg_cd 263 97 = (36, 3, 0, 3, 7) := by decide +kernel
theorem c_263_100 : pg_cd 263 100 = (1, 1, 0, 0, 1) := by decide +kernel
theorem c_263_101 : pg_cd 263 101 = (38, 3, 0, 0, 103) := by decide +kernel
theorem c_263_104 : pg_cd 263 104 = (1, 1, 0, 0, 0) := by decide +kernel
theorem c_263_105 : pg_cd 263 105 = (38, 3, 0, 0, 99) := by decide +kernel
theorem c_263_108 : pg_cd 263 108 = (3, 1, 0, 1, 0) := by decide +kernel
theorem c_263_109 : pg_cd 263 109 = (1, 2, 0, 0, 11) := by decide +kernel
theorem c_263_111 : pg_cd 263 111 = (37, 3, 0, 1, 18) := by decide +kernel
theorem c_263_114 : pg_cd 263 114 = (4, 1, 0, 3, 0) := by decide +kernel
theorem c_263_115 : pg_cd 263 115 = (4, 2, 0, 5, 0) := by decide +kernel
theorem c_263_117 : pg_cd 263 117 = (28, 1, 0, 0, 0) := by decide +kernel
theorem c_263_118 : pg_cd 263 118 = (36, 3, 0, 4, 7) := by decide +kernel
theorem c_263_121 : pg_cd 263 121 = (1, 1, 0, 0, 1) := by decide +kernel
theorem c_263_122 : pg_cd 263 122 = (38, 3, 0, 0, 82) := by decide +kernel
theorem c_263_125 : pg_cd 263 125 = (1, 1, 0, 0, 0) := by decide +kernel
theorem c_263_126 : pg_cd 263 126 = (38, 3, 0, 0, 78) := by decide +kernel
theorem c_263_129 : pg_cd 263 129 = (3, 1, 0, 1, 0) := by decide +kernel
theorem c_263_130 : pg_cd 263 130 = (1, 2, 0, 0, 12) := by decide +kernel
theorem c_263_132 : pg_cd 263 132 = (37, 3, 0, 1, 18) := by decide +kernel
theorem c_263_135 : pg_cd 263 135 = (4, 1, 0, 3, 0) := by decide +kernel
theorem c_263_136 : pg_cd 263 136 = (4, 2, 0, 5, 0) := by decide +kernel
theorem c_263_138 : pg_cd 263 138 = (28, 1, 0, 0, 0) := by decide +kernel
theorem c_263_139 : pg_cd 263 139 = (36, 3, 0, 5, 7) := by decide +kernel
theorem c_263_142 : pg_cd 263 142 = (1, 1, 0, 0, 1) := by decide +kernel
theorem c_263_143 : pg_cd 263 143 = (38, 3, 0, 0, 61) := by decide +kernel
theorem c_263_146 : pg_cd 263 146 = (1, 1, 0, 0, 0) := by decide +kernel
theorem c_263_147 : pg_cd 263 147 = (38, 3, 0, 0, 57) := by decide +kernel
theorem c_263_150 : pg_cd 263 150 = (3, 1, 0, 1, 0) := by decide +kernel
theorem c_263_151 : pg_cd 263 151 = (1, 2, 0, 0, 13) := by decide +kernel
theorem c_263_153 : pg_cd 263 153 = (37, 3, 0, 1, 18) := by decide +kernel
theorem c_263_156 : pg_cd 263 156 = (4, 1, 0, 3, 0) := by decide +kernel
theorem c_263_157 : pg_cd 263 157 = (4, 2, 0, 5, 0) := by decide +kernel
theorem c_263_159 : pg_cd 263 159 = (28, 1, 0, 0, 0) := by decide +kernel
theorem c_263_160 : pg_cd 263 160 = (36, 3, 0, 2, 7) := by decide +kernel
theorem c_263_163 : pg_cd 263 163 = (1, 1, 0, 0, 1) := by decide +kernel
theorem c_263_164 : pg_cd 263 164 = (38, 3, 0, 0, 40) := by decide +kernel
theorem c_263_167 : pg_cd 263 167 = (1, 1, 0, 0, 0) := by decide +kernel
theorem c_263_168 : pg_cd 263 168 = (38, 3, 0, 0, 36) := by decide +kernel
theorem c_263_171 : pg_cd 263 171 = (3, 1, 0, 1, 0) := by decide +kernel
theorem c_263_172 : pg_cd 263 172 = (1, 2, 0, 0, 14) := by decide +kernel
theorem c_263_174 : pg_cd 263 174 = (37, 3, 0, 1, 18) := by decide +kernel
theorem c_263_177 : pg_cd 263 177 = (4, 1, 0, 3, 0) := by decide +kernel
theorem c_263_178 : pg_cd 263 178 = (4, 2, 0, 5, 0) := by decide +kernel
theorem c_263_180 : pg_cd 263 180 = (28, 1, 0, 0, 0) := by decide +kernel
theorem c_263_181 : pg_cd 263 181 = (36, 3, 0, 1, 7) := by decide +kernel
theorem c_263_184 : pg_cd 263 184 = (1, 1, 0, 0, 1) := by decide +kernel
theorem c_263_185 : pg_cd 263 185 = (38, 3, 0, 0, 19) := by decide +kernel
theorem c_263_188 : pg_cd 263 188 = (1, 1, 0, 0, 0) := by decide +kernel
theorem c_263_189 : pg_cd 263 189 = (38, 3, 0, 0, 15) := by decide +kernel
theorem c_263_192 : pg_cd 263 192 = (4, 1, 0, 3, 0) := by decide +kernel
theorem c_263_193 : pg_cd 263 193 = (4, 2, 0, 5, 0) := by decide +kernel
theorem c_263_195 : pg_cd 263 195 = (28, 1, 0, 0, 0) := by decide +kernel
theorem c_263_196 : pg_cd 263 196 = (36, 3, 0, 0, 7) := by decide +kernel
theorem c_263_199 : pg_cd 263 199 = (1, 1, 0, 0, 1) := by decide +kernel
theorem c_263_200 : pg_cd 263 200 = (38, 3, 0, 0, 4) := by decide +kernel
theorem c_263_203 : pg_cd 263 203 = (1, 1, 0, 0, 0) := by decide +kernel
theorem c_263_204 : pg_cd 263 204 = (6, 1, 0, 2, 0) := by decide +kernel
theorem c_263_205 : pg_cd 263 205 = (5, 1, 0, 0, 0) := by decide +kernel
theorem c_263_206 : pg_cd 263 206 = (45, 12, 40, 21, 0) := by decide +kernel
theorem c_263_209 : pg_cd 263 209 = (5, 1, 0, 0, 0) := by decide +kernel
theorem c_263_210 : pg_cd 263 210 = (43, 12, 287, 23, 0) := by decide +kernel
theorem c_263_213 : pg_cd 263 213 = (3, 1, 0, 2, 0) := by decide +kernel
theorem c_263_214 : pg_cd 263 214 = (55, 1, 0, 0, 0) := by decide +kernel
theorem c_263_215 : pg_cd 263 215 = (5, 1, 0, 0, 0) := by decide +kernel
theorem c_263_216 : pg_cd 263 216 = (33, 1, 0, 0, 0) := by decide +kernel
theorem c_263_217 : pg_cd 263 217 = (43, 12, 287, 23, 0) := by decide +kernel
theorem c_263_220 : pg_cd 263 220 = (1, 1, 0, 0, 1) := by decide +kernel
theorem c_263_221 : pg_cd 263 221 = (10, 1, 0, 0, 0) := by decide +kernel
theorem c_263_222 : pg_cd 263 222 = (46, 12, 287, 23, 0) := by decide +kernel
theorem c_263_225 : pg_cd 263 225 = (94, 0, 0, 0, 0) := by decide +kernel
theorem mx_263 : pg_mx 263 = 7 := by decide +kernel
theorem m_263 {d : Nat} {h : ab_H} {Q : Option Value → ab_H → Prop} {x0 : Nat} {x1 : Int32} (t : wq d 263 0 [.ref x0, .int x1, .retAddr 0, .retAddr 0, .retAddr 0, .retAddr 0, .retAddr 0] [] h Q) : wm d 263 [.ref x0, .int x1] h Q := by
  unfold wm
  rw [mx_263]
  exact t
set_option maxRecDepth 20000 in
theorem t_263_0 {d : Nat} {h : ab_H} {Q : Option Value → ab_H → Prop} {x0 : Nat} {x1 : Int32} (t : ab_ok h x0 112 = true ∧ ab_ok h x0 112 = true ∧ ∀ h1 : ab_H, h1 = ab_pi h x0 22 ((ab_i h x0 22) - 2) → ab_ok h1 x0 112 = true ∧ ∃ j2 : Nat, ab_r h1 x0 20 = some j2 ∧ ab_ok h1 x0 112 = true ∧ (ab_ok h1 j2 1 = true ∧ ab_in (ab_i h1 x0 22) (ab_s h1 j2).2 = true) ∧ if (lg_cmp (ab_l h1 j2 (Int32.toNatClampNeg (ab_i h1 x0 22))) 0) = 0 then (wq d 263 205 [.ref x0, .int x1, .int 0, .retAddr 0, .retAddr 0, .retAddr 0, .retAddr 0] [] h1 Q) else (ab_ok h1 x0 112 = true ∧ ∃ j3 : Nat, ab_r h1 x0 20 = some j3 ∧ ab_ok h1 x0 112 = true ∧ (ab_ok h1 j3 1 = true ∧ ab_in ((ab_i h1 x0 22) + 1) (ab_s h1 j3).2 = true) ∧ if (lg_cmp (ab_l h1 j3 (Int32.toNatClampNeg ((ab_i h1 x0 22) + 1))) 0) = 0 then (wq d 263 205 [.ref x0, .int x1, .int 0, .retAddr 0, .retAddr 0, .retAddr 0, .retAddr 0] [] h1 Q) else (ab_ok h1 x0 112 = true ∧ ∃ j4 : Nat, ab_r h1 x0 19 = some j4 ∧ ab_ok h1 x0 112 = true ∧ (ab_ok h1 j4 1 = true ∧ ab_in (ab_i h1 x0 22) (ab_s h1 j4).2 = true) ∧ ab_ok h1 x0 112 = true ∧ ∃ j5 : Nat, ab_r h1 x0 20 = some j5 ∧ ab_ok h1 x0 112 = true ∧ (ab_ok h1 j5 1 = true ∧ ab_in ((ab_i h1 x0 22) + 1) (ab_s h1 j5).2 = true) ∧ ∀ y6 : Int64, y6 = ((ab_l h1 j4 (Int32.toNatClampNeg (ab_i h1 x0 22))) * (ab_l h1 j5 (Int32.toNatClampNeg ((ab_i h1 x0 22) + 1)))) → ab_ok h1 x0 112 = true ∧ ∃ j7 : Nat, ab_r h1 x0 19 = some j7 ∧ ab_ok h1 x0 112 = true ∧ (ab_ok h1 j7 1 = true ∧ ab_in ((ab_i h1 x0 22) + 1) (ab_s h1 j7).2 = true) ∧ ab_ok h1 x0 112 = true ∧ ∃ j8 : Nat, ab_r h1 x0 20 = some j8 ∧ ab_ok h1 x0 112 = true ∧ (ab_ok h1 j8 1 = true ∧ ab_in (ab_i h1 x0 22) (ab_s h1 j8).2 = true) ∧ ∀ y9 : Int64, y9 = ((ab_l h1 j7 (Int32.toNatClampNeg ((ab_i h1 x0 22) + 1))) * (ab_l h1 j8 (Int32.toNatClampNeg (ab_i h1 x0 22)))) → if x1 = 10 then (if 0 ≤ (lg_cmp y6 y9) then (wq d 263 204 [.ref x0, .int x1, .int 0, .long y6, .retAddr 0, .long y9, .retAddr 0] [.int 0] h1 Q) else (wq d 263 204 [.ref x0, .int x1, .int 0, .long y6, .retAddr 0, .long y9, .retAddr 0] [.int 1] h1 Q)) else (if x1 = 11 then (if 0 < (lg_cmp y6 y9) then (wq d 263 204 [.ref x0, .int x1, .int 0, .long y6, .retAddr 0, .long y9, .retAddr 0] [.int 0] h1 Q) else (wq d 263 204 [.ref x0, .int x1, .int 0, .long y6, .retAddr 0, .long y9, .retAddr 0] [.int 1] h1 Q)) else (if x1 = 12 then (if (lg_cmp y6 y9) ≤ 0 then (wq d 263 204 [.ref x0, .int x1, .int 0, .long y6, .retAddr 0, .long y9, .retAddr 0] [.int 0] h1 Q) else (wq d 263 204 [.ref x0, .int x1, .int 0, .long y6, .retAddr 0, .long y9, .retAddr 0] [.int 1] h1 Q)) else (if x1 = 13 then (if (lg_cmp y6 y9) < 0 then (wq d 263 204 [.ref x0, .int x1, .int 0, .long y6, .retAddr 0, .long y9, .retAddr 0] [.int 0] h1 Q) else (wq d 263 204 [.ref x0, .int x1, .int 0, .long y6, .retAddr 0, .long y9, .retAddr 0] [.int 1] h1 Q)) else (if x1 = 14 then (if (lg_cmp y6 y9) = 0 then (wq d 263 204 [.ref x0, .int x1, .int 0, .long y6, .retAddr 0, .long y9, .retAddr 0] [.int 1] h1 Q) else (wq d 263 204 [.ref x0, .int x1, .int 0, .long y6, .retAddr 0, .long y9, .retAddr 0] [.int 0] h1 Q)) else (if (lg_cmp y6 y9) = 0 then (wq d 263 204 [.ref x0, .int x1, .int 0, .long y6, .retAddr 0, .long y9, .retAddr 0] [.int 0] h1 Q) else (wq d 263 204 [.ref x0, .int x1, .int 0, .long y6, .retAddr 0, .long y9, .retAddr 0] [.int 1] h1 Q))))))))) : wq d 263 0 [.ref x0, .int x1, .retAddr 0, .retAddr 0, .retAddr 0, .retAddr 0, .retAddr 0] [] h Q := by
  refine g5 c_263_0 rfl ?_
  refine g33a c_263_1 ?_
  obtain ⟨ho, t⟩ := t
  refine g43 c_263_2 ho ?_
  refine g1 c_263_5 k_2 ?_
  refine g11 c_263_6 ?_
  obtain ⟨ho, t⟩ := t
  refine g46 c_263_7 ho (fun h1 eh1 => ?_)
  have t := t h1 eh1
  refine g1 c_263_10 k_0 ?_
  refine g6 (L' := [.ref x0, .int x1, .int 0, .retAddr 0, .retAddr 0, .retAddr 0, .retAddr 0]) c_263_11 rfl ?_
  refine g5 c_263_12 rfl ?_
  obtain ⟨ho, j2, hr, t⟩ := t
  refine g45 c_263_13 ho hr ?_
  refine g5 c_263_16 rfl ?_
  obtain ⟨ho, t⟩ := t
  refine g43 c_263_17 ho ?_
  obtain ⟨ho, t⟩ := t
  refine g52 c_263_20 ho ?_
  refine g2 c_263_21 kl_0 ?_
  refine g28 c_263_22 ?_
  refine gif c_263_23 (gbr t rfl rfl (fun hc t => ?_) (fun hc t => ?_))
  · exact t
  · refine g5 c_263_26 rfl ?_
    obtain ⟨ho, j3, hr, t⟩ := t
    refine g45 c_263_27 ho hr ?_
    refine g5 c_263_30 rfl ?_
    obtain ⟨ho, t⟩ := t
    refine g43 c_263_31 ho ?_
    refine g1 c_263_34 k_1 ?_
    refine g10 c_263_35 ?_
    obtain ⟨ho, t⟩ := t
    refine g52 c_263_36 ho ?_
    refine g2 c_263_37 kl_0 ?_
    refine g28 c_263_38 ?_
    refine gif c_263_39 (gbr t rfl rfl (fun hc t => ?_) (fun hc t => ?_))
    · exact t
    · refine g5 c_263_42 rfl ?_
      obtain ⟨ho, j4, hr, t⟩ := t
      refine g45 c_263_43 ho hr ?_
      refine g5 c_263_46 rfl ?_
      obtain ⟨ho, t⟩ := t
      refine g43 c_263_47 ho ?_
      obtain ⟨ho, t⟩ := t
      refine g52 c_263_50 ho ?_
      refine g5 c_263_51 rfl ?_
      obtain ⟨ho, j5, hr, t⟩ := t
      refine g45 c_263_52 ho hr ?_
      refine g5 c_263_55 rfl ?_
      obtain ⟨ho, t⟩ := t
      refine g43 c_263_56 ho ?_
      refine g1 c_263_59 k_1 ?_
      refine g10 c_263_60 ?_
      obtain ⟨ho, t⟩ := t
      refine g52 c_263_61 ho ?_
      refine g24 c_263_62 ?_
      refine g7y (Lf := fun y6 => [.ref x0, .int x1, .int 0, .long y6, .retAddr 0, .retAddr 0, .retAddr 0]) c_263_63 (fun _ => rfl) (fun y6 ey6 => ?_)
      have t := t y6 ey6
      refine g5 c_263_64 rfl ?_
      obtain ⟨ho, j7, hr, t⟩ := t
      refine g45 c_263_65 ho hr ?_
      refine g5 c_263_68 rfl ?_
      obtain ⟨ho, t⟩ := t
      refine g43 c_263_69 ho ?_
      refine g1 c_263_72 k_1 ?_
      refine g10 c_263_73 ?_
      obtain ⟨ho, t⟩ := t
      refine g52 c_263_74 ho ?_
      refine g5 c_263_75 rfl ?_
      obtain ⟨ho, j8, hr, t⟩ := t
      refine g45 c_263_76 ho hr ?_
      refine g5 c_263_79 rfl ?_
      obtain ⟨ho, t⟩ := t
      refine g43 c_263_80 ho ?_
      obtain ⟨ho, t⟩ := t
      refine g52 c_263_83 ho ?_
      refine g24 c_263_84 ?_
      refine g7y (Lf := fun y9 => [.ref x0, .int x1, .int 0, .long y6, .retAddr 0, .long y9, .retAddr 0]) c_263_85 (fun _ => rfl) (fun y9 ey9 => ?_)
      have t := t y9 ey9
      refine g3 c_263_87 rfl ?_
      refine g1 c_263_88 k_10 ?_
      refine gcm c_263_90 (gbn t (ab_c1 _ _) rfl (fun hc t => ?_) (fun hc t => ?_))
      · refine g4 c_263_93 rfl ?_
        refine g4 c_263_94 rfl ?_
        refine g28 c_263_96 ?_
        refine gif c_263_97 (gbr t rfl rfl (fun hc t => ?_) (fun hc t => ?_))
        · refine g1 c_263_104 k_0 ?_
          refine g38 c_263_105 rfl ?_
          exact t
        · refine g1 c_263_100 k_1 ?_
          refine g38 c_263_101 rfl ?_
          exact t
      · refine g3 c_263_108 rfl ?_
        refine g1 c_263_109 k_11 ?_
        refine gcm c_263_111 (gbn t (ab_c1 _ _) rfl (fun hc t => ?_) (fun hc t => ?_))
        · refine g4 c_263_114 rfl ?_
          refine g4 c_263_115 rfl ?_
          refine g28 c_263_117 ?_
          refine gif c_263_118 (gbr t rfl rfl (fun hc t => ?_) (fun hc t => ?_))
          · refine g1 c_263_125 k_0 ?_
            refine g38 c_263_126 rfl ?_
            exact t
          · refine g1 c_263_121 k_1 ?_
            refine g38 c_263_122 rfl ?_
            exact t
        · refine g3 c_263_129 rfl ?_
          refine g1 c_263_130 k_12 ?_
          refine gcm c_263_132 (gbn t (ab_c1 _ _) rfl (fun hc t => ?_) (fun hc t => ?_))
          · refine g4 c_263_135 rfl ?_
            refine g4 c_263_136 rfl ?_
            refine g28 c_263_138 ?_
            refine gif c_263_139 (gbr t rfl rfl (fun hc t => ?_) (fun hc t => ?_))
            · refine g1 c_263_146 k_0 ?_
              refine g38 c_263_147 rfl ?_
              exact t
            · refine g1 c_263_142 k_1 ?_
              refine g38 c_263_143 rfl ?_
              exact t
          · refine g3 c_263_150 rfl ?_
            refine g1 c_263_151 k_13 ?_
            refine gcm c_263_153 (gbn t (ab_c1 _ _) rfl (fun hc t => ?_) (fun hc t => ?_))
            · refine g4 c_263_156 rfl ?_
              refine g4 c_263_157 rfl ?_
              refine g28 c_263_159 ?_
              refine gif c_263_160 (gbr t rfl rfl (fun hc t => ?_) (fun hc t => ?_))
              · refine g1 c_263_167 k_0 ?_
                refine g38 c_263_168 rfl ?_
                exact t
              · refine g1 c_263_163 k_1 ?_
                refine g38 c_263_164 rfl ?_
                exact t
            · refine g3 c_263_171 rfl ?_
              refine g1 c_263_172 k_14 ?_
              refine gcm c_263_174 (gbn t (ab_c1 _ _) rfl (fun hc t => ?_) (fun hc t => ?_))
              · refine g4 c_263_177 rfl ?_
                refine g4 c_263_178 rfl ?_
                refine g28 c_263_180 ?_
                refine gif c_263_181 (gbn t (ab_c1 _ _) rfl (fun hc t => ?_) (fun hc t => ?_))
                · refine g1 c_263_184 k_1 ?_
                  refine g38 c_263_185 rfl ?_
                  exact t
                · refine g1 c_263_188 k_0 ?_
                  refine g38 c_263_189 rfl ?_
                  exact t
              · refine g4 c_263_192 rfl ?_
                refine g4 c_263_193 rfl ?_
                refine g28 c_263_195 ?_
                refine gif c_263_196 (gbr t rfl rfl (fun hc t => ?_) (fun hc t => ?_))
                · refine g1 c_263_203 k_0 ?_
                  exact t
                · refine g1 c_263_199 k_1 ?_
                  refine g38 c_263_200 rfl ?_
                  exact t
set_option maxRecDepth 20000 in
theorem t_263_204 {d : Nat} {h : ab_H} {Q : Option Value → ab_H → Prop} {x0 : Nat} {x1 : Int32} {x2 : Int32} {x3 : Int64} {x5 : Int64} {s0 : Int32} (t : wq d 263 205 [.ref x0, .int x1, .int s0, .long x3, .retAddr 0, .long x5, .retAddr 0] [] h Q) : wq d 263 204 [.ref x0, .int x1, .int x2, .long x3, .retAddr 0, .long x5, .retAddr 0] [.int s0] h Q := by
  refine g6 (L' := [.ref x0, .int x1, .int s0, .long x3, .retAddr 0, .long x5, .retAddr 0]) c_263_204 rfl ?_
  exact t
set_option maxRecDepth 20000 in
theorem t_263_205 {d : Nat} {h : ab_H} {Q : Option Value → ab_H → Prop} {x0 : Nat} {x1 : Int32} {x2 : Int32} (t : ab_ok h x0 112 = true ∧ ∃ j1 : Nat, ab_r h x0 21 = some j1 ∧ ab_ok h x0 112 = true ∧ (ab_ok h j1 2 = true ∧ ab_in (ab_i h x0 23) (ab_s h j1).2 = true) ∧ ∀ h2 : ab_H, h2 = ab_pi h j1 (Int32.toNatClampNeg (ab_i h x0 23)) (x2 &&& 1) → ab_ok h2 x0 112 = true ∧ ab_ok h2 x0 112 = true ∧ ∀ h3 : ab_H, h3 = ab_pi h2 x0 23 ((ab_i h2 x0 23) + 1) → Q none h3) : wq d 263 205 [.ref x0, .int x1, .int x2, .retAddr 0, .retAddr 0, .retAddr 0, .retAddr 0] [] h Q := by
  refine g5 c_263_205 rfl ?_
  obtain ⟨ho, j1, hr, t⟩ := t
  refine g45 c_263_206 ho hr ?_
  refine g5 c_263_209 rfl ?_
  obtain ⟨ho, t⟩ := t
  refine g43 c_263_210 ho ?_
  refine g3 c_263_213 rfl ?_
  obtain ⟨ho, t⟩ := t
  refine g55 c_263_214 ho (fun h2 eh2 => ?_)
  have t := t h2 eh2
  refine g5 c_263_215 rfl ?_
  refine g33a c_263_216 ?_
  obtain ⟨ho, t⟩ := t
  refine g43 c_263_217 ho ?_
  refine g1 c_263_220 k_1 ?_
  refine g10 c_263_221 ?_
  obtain ⟨ho, t⟩ := t
  refine g46 c_263_222 ho (fun h3 eh3 => ?_)
  have t := t h3 eh3
  exact g94 c_263_225 t
-- method 264: MillTownModel.run(IIII)V
theorem c_264_0 : pg_cd 264 0 = (5, 1, 0, 0, 0) := by decide +kernel
theorem c_264_1 : pg_cd 264 1 = (1, 1, 0, 0, 0) := by decide +kernel
theorem c_264_2 : pg_cd 264 2 = (46, 12, 281, 22, 0) := by decide +kernel
theorem c_264_5 : pg_cd 264 5 = (5, 1, 0, 0, 0) := by decide +kernel
theorem c_264_6 : pg_cd 264 6 = (1, 1, 0, 0, 0) := by decide +kernel
theorem c_264_7 : pg_cd 264 7 = (46, 12, 287, 23, 0) := by decide +kernel
theorem c_264_10 : pg_cd 264 10 = (3, 1, 0, 2, 0) := by decide +kernel
theorem c_264_11 : pg_cd 264 11 = (6, 2, 0, 5, 0) := by decide +kernel
theorem c_264_13 : pg_cd 264 13 = (3, 2, 0, 5, 0) := by decide +kernel
theorem c_264_15 : pg_cd 264 15 = (3, 1, 0, 3, 0) := by decide +kernel
theorem c_264_16 : pg_cd 264 16 = (37, 3, 0, 3, 321) := by decide +kernel
theorem c_264_19 : pg_cd 264 19 = (5, 1, 0, 0, 0) := by decide +kernel
theorem c_264_20 : pg_cd 264 20 = (45, 12, 8, 0, 0) := by decide +kernel
theorem c_264_23 : pg_cd 264 23 = (1, 3, 0, 0, 5500) := by decide +kernel
theorem c_264_26 : pg_cd 264 26 = (1, 3, 0, 0, 840) := by decide +kernel
theorem c_264_29 : pg_cd 264 29 = (3, 1, 0, 1, 0) := by decide +kernel
theorem c_264_30 : pg_cd 264 30 = (12, 1, 0, 0, 0) := by decide +kernel
theorem c_264_31 : pg_cd 264 31 = (10, 1, 0, 0, 0) := by decide +kernel
theorem c_264_32 : pg_cd 264 32 = (1, 3, 0, 0, 200) := by decide +kernel
theorem c_264_35 : pg_cd 264 35 = (10, 1, 0, 0, 0) := by decide +kernel
theorem c_264_36 : pg_cd 264 36 = (1, 1, 0, 0, 2) := by decide +kernel
theorem c_264_37 : pg_cd 264 37 = (3, 2, 0, 5, 0) := by decide +kernel
theorem c_264_39 : pg_cd 264 39 = (12, 1, 0, 0, 0) := by decide +kernel
theorem c_264_40 : pg_cd 264 40 = (10, 1, 0, 0, 0) := by decide +kernel
theorem c_264_41 : pg_cd 264 41 = (50, 1, 0, 0, 0) := by decide +kernel
theorem c_264_42 : pg_cd 264 42 = (6, 2, 0, 6, 0) := by decide +kernel
theorem c_264_44 : pg_cd 264 44 = (5, 1, 0, 0, 0) := by decide +kernel
theorem c_264_45 : pg_cd 264 45 = (45, 12, 8, 0, 0) := by decide +kernel
theorem c_264_48 : pg_cd 264 48 = (1, 3, 0, 0, 5500) := by decide +kernel
theorem c_264_51 : pg_cd 264 51 = (1, 3, 0, 0, 840) := by decide +kernel
theorem c_264_54 : pg_cd 264 54 = (3, 1, 0, 1, 0) := by decide +kernel
theorem c_264_55 : pg_cd 264 55 = (12, 1, 0, 0, 0) := by decide +kernel
theorem c_264_56 : pg_cd 264 56 = (10, 1, 0, 0, 0) := by decide +kernel
theorem c_264_57 : pg_cd 264 57 = (1, 3, 0, 0, 200) := by decide +kernel
theorem c_264_60 : pg_cd 264 60 = (10, 1, 0, 0, 0) := by decide +kernel
theorem c_264_61 : pg_cd 264 61 = (1, 1, 0, 0, 2) := by decide +kernel
theorem c_264_62 : pg_cd 264 62 = (3, 2, 0, 5, 0) := by decide +kernel
theorem c_264_64 : pg_cd 264 64 = (12, 1, 0, 0, 0) := by decide +kernel
theorem c_264_65 : pg_cd 264 65 = (10, 1, 0, 0, 0) := by decide +kernel
theorem c_264_66 : pg_cd 264 66 = (1, 1, 0, 0, 1) := by decide +kernel
theorem c_264_67 : pg_cd 264 67 = (10, 1, 0, 0, 0) := by decide +kernel
theorem c_264_68 : pg_cd 264 68 = (50, 1, 0, 0, 0) := by decide +kernel
theorem c_264_69 : pg_cd 264 69 = (6, 2, 0, 7, 0) := by decide +kernel
theorem c_264_71 : pg_cd 264 71 = (3, 2, 0, 6, 0) := by decide +kernel
theorem c_264_73 : pg_cd 264 73 = (36, 3, 0, 0, 9) := by decide +kernel
theorem c_264_76 : pg_cd 264 76 = (3, 2, 0, 6, 0) := by decide +kernel
theorem c_264_78 : pg_cd 264 78 = (1, 1, 0, 0, 1) := by decide +kernel
theorem c_264_79 : pg_cd 264 79 = (37, 3, 0, 1, 55) := by decide +kernel
theorem c_264_82 : pg_cd 264 82 = (5, 1, 0, 0, 0) := by decide +kernel
theorem c_264_83 : pg_cd 264 83 = (45, 12, 33, 19, 0) := by decide +kernel
theorem c_264_86 : pg_cd 264 86 = (5, 1, 0, 0, 0) := by decide +kernel
theorem c_264_87 : pg_cd 264 87 = (43, 12, 281, 22, 0) := by decide +kernel
theorem c_264_90 : pg_cd 264 90 = (3, 2, 0, 6, 0) := by decide +kernel
theorem c_264_92 : pg_cd 264 92 = (36, 3, 0, 1, 9) := by decide +kernel
theorem c_264_95 : pg_cd 264 95 = (3, 2, 0, 7, 0) := by decide +kernel
theorem c_264_97 : pg_cd 264 97 = (31, 1, 0, 0, 0) := by decide +kernel
theorem c_264_98 : pg_cd 264 98 = (38, 3, 0, 0, 12) := by decide +kernel
theorem c_264_101 : pg_cd 264 101 = (5, 1, 0, 0, 0) := by decide +kernel
theorem c_264_102 : pg_cd 264 102 = (3, 2, 0, 4, 0) := by decide +kernel
theorem c_264_104 : pg_cd 264 104 = (3, 2, 0, 7, 0) := by decide +kernel
theorem c_264_106 : pg_cd 264 106 = (80, 197, 85, 0, 0) := by decide +kernel
theorem c_264_109 : pg_cd 264 109 = (31, 1, 0, 0, 0) := by decide +kernel
theorem c_264_110 : pg_cd 264 110 = (56, 1, 0, 0, 0) := by decide +kernel
theorem c_264_111 : pg_cd 264 111 = (5, 1, 0, 0, 0) := by decide +kernel
theorem c_264_112 : pg_cd 264 112 = (45, 12, 37, 20, 0) := by decide +kernel
theorem c_264_115 : pg_cd 264 115 = (5, 1, 0, 0, 0) := by decide +kernel
theorem c_264_116 : pg_cd 264 116 = (43, 12, 281, 22, 0) := by decide +kernel
theorem c_264_119 : pg_cd 264 119 = (2, 1, 0, 0, 1) := by decide +kernel
theorem c_264_120 : pg_cd 264 120 = (56, 1, 0, 0, 0) := by decide +kernel
theorem c_264_121 : pg_cd 264 121 = (5, 1, 0, 0, 0) := by decide +kernel
theorem c_264_122 : pg_cd 264 122 = (33, 1, 0, 0, 0) := by decide +kernel
theorem c_264_123 : pg_cd 264 123 = (43, 12, 281, 22, 0) := by decide +kernel
theorem c_264_126 : pg_cd 264 126 = (1, 1, 0, 0, 1) := by decide +kernel
theorem c_264_127 : pg_cd 264 127 = (10, 1, 0, 0, 0) := by decide +kernel
theorem c_264_128 : pg_cd 264 128 = (46, 12, 281, 22, 0) := by decide +kernel
theorem c_264_131 : pg_cd 264 131 = (38, 3, 0, 0, 200) := by decide +kernel
theorem c_264_134 : pg_cd 264 134 = (3, 2, 0, 6, 0) := by decide +kernel
theorem c_264_136 : pg_cd 264 136 = (1, 1, 0, 0, 2) := by decide +kernel
theorem c_264_137 : pg_cd 264 137 = (37, 3, 0, 1, 29) := by decide +kernel
theorem c_264_140 : pg_cd 264 140 = (5, 1, 0, 0, 0) := by decide +kernel
theorem c_264_141 : pg_cd 264 141 = (45, 12, 33, 19, 0) := by decide +kernel
theorem c_264_144 : pg_cd 264 144 = (5, 1, 0, 0, 0) := by decide +kernel
theorem c_264_145 : pg_cd 264 145 = (43, 12, 281, 22, 0) := by decide +kernel
theorem c_264_148 : pg_cd 264 148 = (1, 1, 0, 0, 1) := by decide +kernel
theorem c_264_149 : pg_cd 264 149 = (11, 1, 0, 0, 0) := by decide +kernel
theorem c_264_150 : pg_cd 264 150 = (5, 1, 0, 0, 0) := by decide +kernel
theorem c_264_151 : pg_cd 264 151 = (45, 12, 33, 19, 0) := by decide +kernel
theorem c_264_154 : pg_cd 264 154 = (5, 1, 0, 0, 0) := by decide +kernel
theorem c_264_155 : pg_cd 264 155 = (43, 12, 281, 22, 0) := by decide +kernel
theorem c_264_158 : pg_cd 264 158 = (1, 1, 0, 0, 1) := by decide +kernel
theorem c_264_159 : pg_cd 264 159 = (11, 1, 0, 0, 0) := by decide +kernel
theorem c_264_160 : pg_cd 264 160 = (52, 1, 0, 0, 0) := by decide +kernel
theorem c_264_161 : pg_cd 264 161 = (29, 1, 0, 0, 0) := by decide +kernel
theorem c_264_162 : pg_cd 264 162 = (56, 1, 0, 0, 0) := by decide +kernel
theorem c_264_163 : pg_cd 264 163 = (38, 3, 0, 0, 168) := by decide +kernel
theorem c_264_166 : pg_cd 264 166 = (3, 2, 0, 6, 0) := by decide +kernel
theorem c_264_168 : pg_cd 264 168 = (1, 2, 0, 0, 10) := by decide +kernel
theorem c_264_170 : pg_cd 264 170 = (37, 3, 0, 3, 12) := by decide +kernel
theorem c_264_173 : pg_cd 264 173 = (5, 1, 0, 0, 0) := by decide +kernel
theorem c_264_174 : pg_cd 264 174 = (3, 2, 0, 6, 0) := by decide +kernel
theorem c_264_176 : pg_cd 264 176 = (80, 262, 290, 0, 0) := by decide +kernel
theorem c_264_179 : pg_cd 264 179 = (38, 3, 0, 0, 152) := by decide +kernel
theorem c_264_182 : pg_cd 264 182 = (3, 2, 0, 6, 0) := by decide +kernel
theorem c_264_184 : pg_cd 264 184 = (1, 2, 0, 0, 20) := by decide +kernel
theorem c_264_186 : pg_cd 264 186 = (37, 3, 0, 3, 12) := by decide +kernel
theorem c_264_189 : pg_cd 264 189 = (5, 1, 0, 0, 0) := by decide +kernel
theorem c_264_190 : pg_cd 264 190 = (3, 2, 0, 6, 0) := by decide +kernel
theorem c_264_192 : pg_cd 264 192 = (80, 263, 293, 0, 0) := by decide +kernel
theorem c_264_195 : pg_cd 264 195 = (38, 3, 0, 0, 136) := by decide +kernel
theorem c_264_198 : pg_cd 264 198 = (3, 2, 0, 6, 0) := by decide +kernel
theorem c_264_200 : pg_cd 264 200 = (1, 2, 0, 0, 20) := by decide +kernel
theorem c_264_202 : pg_cd 264 202 = (37, 3, 0, 1, 36) := by decide +kernel
theorem c_264_205 : pg_cd 264 205 = (5, 1, 0, 0, 0) := by decide +kernel
theorem c_264_206 : pg_cd 264 206 = (45, 12, 40, 21, 0) := by decide +kernel
theorem c_264_209 : pg_cd 264 209 = (5, 1, 0, 0, 0) := by decide +kernel
theorem c_264_210 : pg_cd 264 210 = (43, 12, 287, 23, 0) := by decide +kernel
theorem c_264_213 : pg_cd 264 213 = (1, 1, 0, 0, 1) := by decide +kernel
theorem c_264_214 : pg_cd 264 214 = (11, 1, 0, 0, 0) := by decide +kernel
theorem c_264_215 : pg_cd 264 215 = (5, 1, 0, 0, 0) := by decide +kernel
theorem c_264_216 : pg_cd 264 216 = (45, 12, 40, 21, 0) := by decide +kernel
theorem c_264_219 : pg_cd 264 219 = (5, 1, 0, 0, 0) := by decide +kernel
theorem c_264_220 : pg_cd 264 220 = (43, 12, 287, 23, 0) := by decide +kernel
theorem c_264_223 : pg_cd 264 223 = (1, 1, 0, 0, 1) := by decide +kernel
theorem c_264_224 : pg_cd 264 224 = (11, 1, 0, 0, 0) := by decide +kernel
theorem c_264_225 : pg_cd 264 225 = (51, 1, 0, 0, 0) := by decide +kernel
theorem c_264_226 : pg_cd 264 226 = (36, 3, 0, 1, 7) := by decide +kernel
theorem c_264_229 : pg_cd 264 229 = (1, 1, 0, 0, 1) := by decide +kernel
theorem c_264_230 : pg_cd 264 230 = (38, 3, 0, 0, 4) := by decide +kernel
theorem c_264_233 : pg_cd 264 233 = (1, 1, 0, 0, 0) := by decide +kernel
theorem c_264_234 : pg_cd 264 234 = (55, 1, 0, 0, 0) := by decide +kernel
theorem c_264_235 : pg_cd 264 235 = (38, 3, 0, 0, 96) := by decide +kernel
theorem c_264_238 : pg_cd 264 238 = (5, 1, 0, 0, 0) := by decide +kernel
theorem c_264_239 : pg_cd 264 239 = (33, 1, 0, 0, 0) := by decide +kernel
theorem c_264_240 : pg_cd 264 240 = (43, 12, 287, 23, 0) := by decide +kernel
theorem c_264_243 : pg_cd 264 243 = (1, 1, 0, 0, 1) := by decide +kernel
theorem c_264_244 : pg_cd 264 244 = (11, 1, 0, 0, 0) := by decide +kernel
theorem c_264_245 : pg_cd 264 245 = (46, 12, 287, 23, 0) := by decide +kernel
theorem c_264_248 : pg_cd 264 248 = (5, 1, 0, 0, 0) := by decide +kernel
theorem c_264_249 : pg_cd 264 249 = (45, 12, 40, 21, 0) := by decide +kernel
theorem c_264_252 : pg_cd 264 252 = (5, 1, 0, 0, 0) := by decide +kernel
theorem c_264_253 : pg_cd 264 253 = (43, 12, 287, 23, 0) := by decide +kernel
theorem c_264_256 : pg_cd 264 256 = (1, 1, 0, 0, 1) := by decide +kernel
theorem c_264_257 : pg_cd 264 257 = (11, 1, 0, 0, 0) := by decide +kernel
theorem c_264_258 : pg_cd 264 258 = (3, 2, 0, 6, 0) := by decide +kernel
theorem c_264_260 : pg_cd 264 260 = (1, 2, 0, 0, 21) := by decide +kernel
theorem c_264_262 : pg_cd 264 262 = (37, 3, 0, 1, 37) := by decide +kernel
theorem c_264_265 : pg_cd 264 265 = (5, 1, 0, 0, 0) := by decide +kernel
theorem c_264_266 : pg_cd 264 266 = (45, 12, 40, 21, 0) := by decide +kernel
theorem c_264_269 : pg_cd 264 269 = (5, 1, 0, 0, 0) := by decide +kernel
theorem c_264_270 : pg_cd 264 270 = (43, 12, 287, 23, 0) := by decide +kernel
theorem c_264_273 : pg_cd 264 273 = (1, 1, 0, 0, 1) := by decide +kernel
theorem c_264_274 : pg_cd 264 274 = (11, 1, 0, 0, 0) := by decide +kernel
theorem c_264_275 : pg_cd 264 275 = (51, 1, 0, 0, 0) := by decide +kernel
theorem c_264_276 : pg_cd 264 276 = (36, 3, 0, 0, 19) := by decide +kernel
theorem c_264_279 : pg_cd 264 279 = (5, 1, 0, 0, 0) := by decide +kernel
theorem c_264_280 : pg_cd 264 280 = (45, 12, 40, 21, 0) := by decide +kernel
theorem c_264_283 : pg_cd 264 283 = (5, 1, 0, 0, 0) := by decide +kernel
theorem c_264_284 : pg_cd 264 284 = (43, 12, 287, 23, 0) := by decide +kernel
theorem c_264_287 : pg_cd 264 287 = (51, 1, 0, 0, 0) := by decide +kernel
theorem c_264_288 : pg_cd 264 288 = (36, 3, 0, 0, 7) := by decide +kernel
theorem c_264_291 : pg_cd 264 291 = (1, 1, 0, 0, 1) := by decide +kernel
theorem c_264_292 : pg_cd 264 292 = (38, 3, 0, 0, 38) := by decide +kernel
theorem c_264_295 : pg_cd 264 295 = (1, 1, 0, 0, 0) := by decide +kernel
theorem c_264_296 : pg_cd 264 296 = (38, 3, 0, 0, 34) := by decide +kernel
theorem c_264_299 : pg_cd 264 299 = (5, 1, 0, 0, 0) := by decide +kernel
theorem c_264_300 : pg_cd 264 300 = (45, 12, 40, 21, 0) := by decide +kernel
theorem c_264_303 : pg_cd 264 303 = (5, 1, 0, 0, 0) := by decide +kernel
theorem c_264_304 : pg_cd 264 304 = (43, 12, 287, 23, 0) := by decide +kernel
theorem c_264_307 : pg_cd 264 307 = (1, 1, 0, 0, 1) := by decide +kernel
theorem c_264_308 : pg_cd 264 308 = (11, 1, 0, 0, 0) := by decide +kernel
theorem c_264_309 : pg_cd 264 309 = (51, 1, 0, 0, 0) := by decide +kernel
theorem c_264_310 : pg_cd 264 310 = (36, 3, 0, 1, 15) := by decide +kernel
theorem c_264_313 : pg_cd 264 313 = (5, 1, 0, 0, 0) := by decide +kernel
theorem c_264_314 : pg_cd 264 314 = (45, 12, 40, 21, 0) := by decide +kernel
theorem c_264_317 : pg_cd 264 317 = (5, 1, 0, 0, 0) := by decide +kernel
theorem c_264_318 : pg_cd 264 318 = (43, 12, 287, 23, 0) := by decide +kernel
theorem c_264_321 : pg_cd 264 321 = (51, 1, 0, 0, 0) := by decide +kernel
theorem c_264_322 : pg_cd 264 322 = (36, 3, 0, 0, 7) := by decide +kernel
theorem c_264_325 : pg_cd 264 325 = (1, 1, 0, 0, 1) := by decide +kernel
theorem c_264_326 : pg_cd 264 326 = (38, 3, 0, 0, 4) := by decide +kernel
theorem c_264_329 : pg_cd 264 329 = (1, 1, 0, 0, 0) := by decide +kernel
theorem c_264_330 : pg_cd 264 330 = (55, 1, 0, 0, 0) := by decide +kernel
theorem c_264_331 : pg_cd 264 331 = (9, 3, 0, 5, 1) := by decide +kernel
theorem c_264_334 : pg_cd 264 334 = (38, 3, 0, 0, (-321)) := by decide +kernel
theorem c_264_337 : pg_cd 264 337 = (94, 0, 0, 0, 0) := by decide +kernel
theorem mx_264 : pg_mx 264 = 8 := by decide +kernel
theorem m_264 {d : Nat} {h : ab_H} {Q : Option Value → ab_H → Prop} {x0 : Nat} {x1 : Int32} {x2 : Int32} {x3 : Int32} {x4 : Int32} (t : wq d 264 0 [.ref x0, .int x1, .int x2, .int x3, .int x4, .retAddr 0, .retAddr 0, .retAddr 0] [] h Q) : wm d 264 [.ref x0, .int x1, .int x2, .int x3, .int x4] h Q := by
  unfold wm
  rw [mx_264]
  exact t
set_option maxRecDepth 20000 in
theorem t_264_0 {d : Nat} {h : ab_H} {Q : Option Value → ab_H → Prop} {x0 : Nat} {x1 : Int32} {x2 : Int32} {x3 : Int32} {x4 : Int32} (t : ab_ok h x0 112 = true ∧ ∀ h1 : ab_H, h1 = ab_pi h x0 22 0 → ab_ok h1 x0 112 = true ∧ ∀ h2 : ab_H, h2 = ab_pi h1 x0 23 0 → wq d 264 13 [.ref x0, .int x1, .int x2, .int x3, .int x4, .int x2, .retAddr 0, .retAddr 0] [] h2 Q) : wq d 264 0 [.ref x0, .int x1, .int x2, .int x3, .int x4, .retAddr 0, .retAddr 0, .retAddr 0] [] h Q := by
  refine g5 c_264_0 rfl ?_
  refine g1 c_264_1 k_0 ?_
  obtain ⟨ho, t⟩ := t
  refine g46 c_264_2 ho (fun h1 eh1 => ?_)
  have t := t h1 eh1
  refine g5 c_264_5 rfl ?_
  refine g1 c_264_6 k_0 ?_
  obtain ⟨ho, t⟩ := t
  refine g46 c_264_7 ho (fun h2 eh2 => ?_)
  have t := t h2 eh2
  refine g3 c_264_10 rfl ?_
  refine g6 (L' := [.ref x0, .int x1, .int x2, .int x3, .int x4, .int x2, .retAddr 0, .retAddr 0]) c_264_11 rfl ?_
  exact t
set_option maxRecDepth 20000 in
theorem t_264_13 {d : Nat} {h : ab_H} {Q : Option Value → ab_H → Prop} {x0 : Nat} {x1 : Int32} {x2 : Int32} {x3 : Int32} {x4 : Int32} {x5 : Int32} (t : if x3 ≤ x5 then (Q none h) else (ab_ok h x0 112 = true ∧ ∃ j1 : Nat, ab_r h x0 0 = some j1 ∧ ((j1 = 0 ∨ ab_ok h j1 0 = true) ∧ ab_in (((5500 + (840 * x1)) + 200) + (2 * x5)) (ab_s h j1).2 = true) ∧ ∀ y2 : Int32, y2 = (ab_i h j1 (Int32.toNatClampNeg (((5500 + (840 * x1)) + 200) + (2 * x5)))) → ab_ok h x0 112 = true ∧ ∃ j3 : Nat, ab_r h x0 0 = some j3 ∧ ((j3 = 0 ∨ ab_ok h j3 0 = true) ∧ ab_in ((((5500 + (840 * x1)) + 200) + (2 * x5)) + 1) (ab_s h j3).2 = true) ∧ ∀ y4 : Int32, y4 = (ab_i h j3 (Int32.toNatClampNeg ((((5500 + (840 * x1)) + 200) + (2 * x5)) + 1))) → if y2 = 0 then (wq (d + 1) 264 82 [.ref x0, .int x1, .int x2, .int x3, .int x4, .int x5, .int y2, .int y4] [] h Q) else (if y2 = 1 then (wq (d + 1) 264 82 [.ref x0, .int x1, .int x2, .int x3, .int x4, .int x5, .int y2, .int y4] [] h Q) else (if y2 = 2 then (ab_ok h x0 112 = true ∧ ∃ j5 : Nat, ab_r h x0 19 = some j5 ∧ ab_ok h x0 112 = true ∧ ab_ok h x0 112 = true ∧ ∃ j6 : Nat, ab_r h x0 19 = some j6 ∧ ab_ok h x0 112 = true ∧ (ab_ok h j6 1 = true ∧ ab_in ((ab_i h x0 22) - 1) (ab_s h j6).2 = true) ∧ (ab_ok h j5 1 = true ∧ ab_in ((ab_i h x0 22) - 1) (ab_s h j5).2 = true) ∧ ∀ h7 : ab_H, h7 = ab_pl h j5 (Int32.toNatClampNeg ((ab_i h x0 22) - 1)) (-(ab_l h j6 (Int32.toNatClampNeg ((ab_i h x0 22) - 1)))) → wq (d + 1) 264 331 [.ref x0, .int x1, .int x2, .int x3, .int x4, .int x5, .int y2, .int y4] [] h7 Q) else (if 10 ≤ y2 then (if 20 ≤ y2 then (if y2 = 20 then (ab_ok h x0 112 = true ∧ ∃ j8 : Nat, ab_r h x0 21 = some j8 ∧ ab_ok h x0 112 = true ∧ ab_ok h x0 112 = true ∧ ∃ j9 : Nat, ab_r h x0 21 = some j9 ∧ ab_ok h x0 112 = true ∧ (ab_ok h j9 2 = true ∧ ab_in ((ab_i h x0 23) - 1) (ab_s h j9).2 = true) ∧ if (ab_i h j9 (Int32.toNatClampNeg ((ab_i h x0 23) - 1))) = 0 then (wq (d + 1) 264 234 [.ref x0, .int x1, .int x2, .int x3, .int x4, .int x5, .int y2, .int y4] [.int 1, .int ((ab_i h x0 23) - 1), .ref j8] h Q) else (wq (d + 1) 264 234 [.ref x0, .int x1, .int x2, .int x3, .int x4, .int x5, .int y2, .int y4] [.int 0, .int ((ab_i h x0 23) - 1), .ref j8] h Q)) else (ab_ok h x0 112 = true ∧ ab_ok h x0 112 = true ∧ ∀ h10 : ab_H, h10 = ab_pi h x0 23 ((ab_i h x0 23) - 1) → ab_ok h10 x0 112 = true ∧ ∃ j11 : Nat, ab_r h10 x0 21 = some j11 ∧ ab_ok h10 x0 112 = true ∧ if y2 = 21 then (ab_ok h10 x0 112 = true ∧ ∃ j12 : Nat, ab_r h10 x0 21 = some j12 ∧ ab_ok h10 x0 112 = true ∧ (ab_ok h10 j12 2 = true ∧ ab_in ((ab_i h10 x0 23) - 1) (ab_s h10 j12).2 = true) ∧ if (ab_i h10 j12 (Int32.toNatClampNeg ((ab_i h10 x0 23) - 1))) = 0 then (wq (d + 1) 264 295 [.ref x0, .int x1, .int x2, .int x3, .int x4, .int x5, .int y2, .int y4] [.int ((ab_i h10 x0 23) - 1), .ref j11] h10 Q) else (ab_ok h10 x0 112 = true ∧ ∃ j13 : Nat, ab_r h10 x0 21 = some j13 ∧ ab_ok h10 x0 112 = true ∧ (ab_ok h10 j13 2 = true ∧ ab_in (ab_i h10 x0 23) (ab_s h10 j13).2 = true) ∧ if (ab_i h10 j13 (Int32.toNatClampNeg (ab_i h10 x0 23))) = 0 then (wq (d + 1) 264 295 [.ref x0, .int x1, .int x2, .int x3, .int x4, .int x5, .int y2, .int y4] [.int ((ab_i h10 x0 23) - 1), .ref j11] h10 Q) else (wq (d + 1) 264 330 [.ref x0, .int x1, .int x2, .int x3, .int x4, .int x5, .int y2, .int y4] [.int 1, .int ((ab_i h10 x0 23) - 1), .ref j11] h10 Q))) else (ab_ok h10 x0 112 = true ∧ ∃ j14 : Nat, ab_r h10 x0 21 = some j14 ∧ ab_ok h10 x0 112 = true ∧ (ab_ok h10 j14 2 = true ∧ ab_in ((ab_i h10 x0 23) - 1) (ab_s h10 j14).2 = true) ∧ if (ab_i h10 j14 (Int32.toNatClampNeg ((ab_i h10 x0 23) - 1))) = 0 then (ab_ok h10 x0 112 = true ∧ ∃ j15 : Nat, ab_r h10 x0 21 = some j15 ∧ ab_ok h10 x0 112 = true ∧ (ab_ok h10 j15 2 = true ∧ ab_in (ab_i h10 x0 23) (ab_s h10 j15).2 = true) ∧ if (ab_i h10 j15 (Int32.toNatClampNeg (ab_i h10 x0 23))) = 0 then (wq (d + 1) 264 330 [.ref x0, .int x1, .int x2, .int x3, .int x4, .int x5, .int y2, .int y4] [.int 0, .int ((ab_i h10 x0 23) - 1), .ref j11] h10 Q) else (wq (d + 1) 264 325 [.ref x0, .int x1, .int x2, .int x3, .int x4, .int x5, .int y2, .int y4] [.int ((ab_i h10 x0 23) - 1), .ref j11] h10 Q)) else (wq (d + 1) 264 325 [.ref x0, .int x1, .int x2, .int x3, .int x4, .int x5, .int y2, .int y4] [.int ((ab_i h10 x0 23) - 1), .ref j11] h10 Q)))) else (ab_ok h x0 112 = true ∧ wm d 263 [.ref x0, .int y2] h (fun r9 h9 => wq (d + 1) 264 195 [.ref x0, .int x1, .int x2, .int x3, .int x4, .int x5, .int y2, .int y4] (r9.toList ++ []) h9 Q))) else (ab_ok h x0 112 = true ∧ wm d 262 [.ref x0, .int y2] h (fun r9 h9 => wq (d + 1) 264 179 [.ref x0, .int x1, .int x2, .int x3, .int x4, .int x5, .int y2, .int y4] (r9.toList ++ []) h9 Q))))))) : wq (d + 1) 264 13 [.ref x0, .int x1, .int x2, .int x3, .int x4, .int x5, .retAddr 0, .retAddr 0] [] h Q := by
  refine g3 c_264_13 rfl ?_
  refine g3 c_264_15 rfl ?_
  refine gcm c_264_16 (gbr t rfl rfl (fun hc t => ?_) (fun hc t => ?_))
  · exact g94 c_264_337 t
  · refine g5 c_264_19 rfl ?_
    obtain ⟨ho, j1, hr, t⟩ := t
    refine g45 c_264_20 ho hr ?_
    refine g1 c_264_23 k_5500 ?_
    refine g1 c_264_26 k_840 ?_
    refine g3 c_264_29 rfl ?_
    refine g12 c_264_30 ?_
    refine g10 c_264_31 ?_
    refine g1 c_264_32 k_200 ?_
    refine g10 c_264_35 ?_
    refine g1 c_264_36 k_2 ?_
    refine g3 c_264_37 rfl ?_
    refine g12 c_264_39 ?_
    refine g10 c_264_40 ?_
    obtain ⟨ho, t⟩ := t
    refine g50 c_264_41 ho ?_
    refine g6y (Lf := fun y2 => [.ref x0, .int x1, .int x2, .int x3, .int x4, .int x5, .int y2, .retAddr 0]) c_264_42 (fun _ => rfl) (fun y2 ey2 => ?_)
    have t := t y2 ey2
    refine g5 c_264_44 rfl ?_
    obtain ⟨ho, j3, hr, t⟩ := t
    refine g45 c_264_45 ho hr ?_
    refine g1 c_264_48 k_5500 ?_
    refine g1 c_264_51 k_840 ?_
    refine g3 c_264_54 rfl ?_
    refine g12 c_264_55 ?_
    refine g10 c_264_56 ?_
    refine g1 c_264_57 k_200 ?_
    refine g10 c_264_60 ?_
    refine g1 c_264_61 k_2 ?_
    refine g3 c_264_62 rfl ?_
    refine g12 c_264_64 ?_
    refine g10 c_264_65 ?_
    refine g1 c_264_66 k_1 ?_
    refine g10 c_264_67 ?_
    obtain ⟨ho, t⟩ := t
    refine g50 c_264_68 ho ?_
    refine g6y (Lf := fun y4 => [.ref x0, .int x1, .int x2, .int x3, .int x4, .int x5, .int y2, .int y4]) c_264_69 (fun _ => rfl) (fun y4 ey4 => ?_)
    have t := t y4 ey4
    refine g3 c_264_71 rfl ?_
    refine gif c_264_73 (gbr t rfl rfl (fun hc t => ?_) (fun hc t => ?_))
    · exact t
    · refine g3 c_264_76 rfl ?_
      refine g1 c_264_78 k_1 ?_
      refine gcm c_264_79 (gbn t (ab_c1 _ _) rfl (fun hc t => ?_) (fun hc t => ?_))
      · exact t
      · refine g3 c_264_134 rfl ?_
        refine g1 c_264_136 k_2 ?_
        refine gcm c_264_137 (gbn t (ab_c1 _ _) rfl (fun hc t => ?_) (fun hc t => ?_))
        · refine g5 c_264_140 rfl ?_
          obtain ⟨ho, j5, hr, t⟩ := t
          refine g45 c_264_141 ho hr ?_
          refine g5 c_264_144 rfl ?_
          obtain ⟨ho, t⟩ := t
          refine g43 c_264_145 ho ?_
          refine g1 c_264_148 k_1 ?_
          refine g11 c_264_149 ?_
          refine g5 c_264_150 rfl ?_
          obtain ⟨ho, j6, hr, t⟩ := t
          refine g45 c_264_151 ho hr ?_
          refine g5 c_264_154 rfl ?_
          obtain ⟨ho, t⟩ := t
          refine g43 c_264_155 ho ?_
          refine g1 c_264_158 k_1 ?_
          refine g11 c_264_159 ?_
          obtain ⟨ho, t⟩ := t
          refine g52 c_264_160 ho ?_
          refine g29 c_264_161 ?_
          obtain ⟨ho, t⟩ := t
          refine g56 c_264_162 ho (fun h7 eh7 => ?_)
          have t := t h7 eh7
          refine g38 c_264_163 rfl ?_
          exact t
        · refine g3 c_264_166 rfl ?_
          refine g1 c_264_168 k_10 ?_
          refine gcm c_264_170 (gbr t rfl rfl (fun hc t => ?_) (fun hc t => ?_))
          · refine g3 c_264_182 rfl ?_
            refine g1 c_264_184 k_20 ?_
            refine gcm c_264_186 (gbr t rfl rfl (fun hc t => ?_) (fun hc t => ?_))
            · refine g3 c_264_198 rfl ?_
              refine g1 c_264_200 k_20 ?_
              refine gcm c_264_202 (gbn t (ab_c1 _ _) rfl (fun hc t => ?_) (fun hc t => ?_))
              · refine g5 c_264_205 rfl ?_
                obtain ⟨ho, j8, hr, t⟩ := t
                refine g45 c_264_206 ho hr ?_
                refine g5 c_264_209 rfl ?_
                obtain ⟨ho, t⟩ := t
                refine g43 c_264_210 ho ?_
                refine g1 c_264_213 k_1 ?_
                refine g11 c_264_214 ?_
                refine g5 c_264_215 rfl ?_
                obtain ⟨ho, j9, hr, t⟩ := t
                refine g45 c_264_216 ho hr ?_
                refine g5 c_264_219 rfl ?_
                obtain ⟨ho, t⟩ := t
                refine g43 c_264_220 ho ?_
                refine g1 c_264_223 k_1 ?_
                refine g11 c_264_224 ?_
                obtain ⟨ho, t⟩ := t
                refine g51 c_264_225 ho ?_
                refine gif c_264_226 (gbn t (ab_c1 _ _) rfl (fun hc t => ?_) (fun hc t => ?_))
                · refine g1 c_264_229 k_1 ?_
                  refine g38 c_264_230 rfl ?_
                  exact t
                · refine g1 c_264_233 k_0 ?_
                  exact t
              · refine g5 c_264_238 rfl ?_
                refine g33a c_264_239 ?_
                obtain ⟨ho, t⟩ := t
                refine g43 c_264_240 ho ?_
                refine g1 c_264_243 k_1 ?_
                refine g11 c_264_244 ?_
                obtain ⟨ho, t⟩ := t
                refine g46 c_264_245 ho (fun h10 eh10 => ?_)
                have t := t h10 eh10
                refine g5 c_264_248 rfl ?_
                obtain ⟨ho, j11, hr, t⟩ := t
                refine g45 c_264_249 ho hr ?_
                refine g5 c_264_252 rfl ?_
                obtain ⟨ho, t⟩ := t
                refine g43 c_264_253 ho ?_
                refine g1 c_264_256 k_1 ?_
                refine g11 c_264_257 ?_
                refine g3 c_264_258 rfl ?_
                refine g1 c_264_260 k_21 ?_
                refine gcm c_264_262 (gbn t (ab_c1 _ _) rfl (fun hc t => ?_) (fun hc t => ?_))
                · refine g5 c_264_265 rfl ?_
                  obtain ⟨ho, j12, hr, t⟩ := t
                  refine g45 c_264_266 ho hr ?_
                  refine g5 c_264_269 rfl ?_
                  obtain ⟨ho, t⟩ := t
                  refine g43 c_264_270 ho ?_
                  refine g1 c_264_273 k_1 ?_
                  refine g11 c_264_274 ?_
                  obtain ⟨ho, t⟩ := t
                  refine g51 c_264_275 ho ?_
                  refine gif c_264_276 (gbr t rfl rfl (fun hc t => ?_) (fun hc t => ?_))
                  · exact t
                  · refine g5 c_264_279 rfl ?_
                    obtain ⟨ho, j13, hr, t⟩ := t
                    refine g45 c_264_280 ho hr ?_
                    refine g5 c_264_283 rfl ?_
                    obtain ⟨ho, t⟩ := t
                    refine g43 c_264_284 ho ?_
                    obtain ⟨ho, t⟩ := t
                    refine g51 c_264_287 ho ?_
                    refine gif c_264_288 (gbr t rfl rfl (fun hc t => ?_) (fun hc t => ?_))
                    · exact t
                    · refine g1 c_264_291 k_1 ?_
                      refine g38 c_264_292 rfl ?_
                      exact t
                · refine g5 c_264_299 rfl ?_
                  obtain ⟨ho, j14, hr, t⟩ := t
                  refine g45 c_264_300 ho hr ?_
                  refine g5 c_264_303 rfl ?_
                  obtain ⟨ho, t⟩ := t
                  refine g43 c_264_304 ho ?_
                  refine g1 c_264_307 k_1 ?_
                  refine g11 c_264_308 ?_
                  obtain ⟨ho, t⟩ := t
                  refine g51 c_264_309 ho ?_
                  refine gif c_264_310 (gbn t (ab_c1 _ _) rfl (fun hc t => ?_) (fun hc t => ?_))
                  · refine g5 c_264_313 rfl ?_
                    obtain ⟨ho, j15, hr, t⟩ := t
                    refine g45 c_264_314 ho hr ?_
                    refine g5 c_264_317 rfl ?_
                    obtain ⟨ho, t⟩ := t
                    refine g43 c_264_318 ho ?_
                    obtain ⟨ho, t⟩ := t
                    refine g51 c_264_321 ho ?_
                    refine gif c_264_322 (gbr t rfl rfl (fun hc t => ?_) (fun hc t => ?_))
                    · refine g1 c_264_329 k_0 ?_
                      exact t
                    · exact t
                  · exact t
            · refine g5 c_264_189 rfl ?_
              refine g3 c_264_190 rfl ?_
              exact g80 (As := [.int y2]) (rest := []) c_264_192 rfl rfl (Nat.le_of_ble_eq_true rfl) (Nat.le_of_ble_eq_true rfl) t.1 t.2
          · refine g5 c_264_173 rfl ?_
            refine g3 c_264_174 rfl ?_
            exact g80 (As := [.int y2]) (rest := []) c_264_176 rfl rfl (Nat.le_of_ble_eq_true rfl) (Nat.le_of_ble_eq_true rfl) t.1 t.2
set_option maxRecDepth 20000 in
theorem t_264_82 {d : Nat} {h : ab_H} {Q : Option Value → ab_H → Prop} {x0 : Nat} {x1 : Int32} {x2 : Int32} {x3 : Int32} {x4 : Int32} {x5 : Int32} {x6 : Int32} {x7 : Int32} (t : ab_ok h x0 112 = true ∧ ∃ j1 : Nat, ab_r h x0 19 = some j1 ∧ ab_ok h x0 112 = true ∧ if x6 = 0 then (wq (d + 1) 264 110 [.ref x0, .int x1, .int x2, .int x3, .int x4, .int x5, .int x6, .int x7] [.long (Int32.toInt64 x7), .int (ab_i h x0 22), .ref j1] h Q) else (ab_ok h x0 112 = true ∧ wm d 197 [.ref x0, .int x4, .int x7] h (fun r9 h9 => wq (d + 1) 264 109 [.ref x0, .int x1, .int x2, .int x3, .int x4, .int x5, .int x6, .int x7] (r9.toList ++ [.int (ab_i h x0 22), .ref j1]) h9 Q))) : wq (d + 1) 264 82 [.ref x0, .int x1, .int x2, .int x3, .int x4, .int x5, .int x6, .int x7] [] h Q := by
  refine g5 c_264_82 rfl ?_
  obtain ⟨ho, j1, hr, t⟩ := t
  refine g45 c_264_83 ho hr ?_
  refine g5 c_264_86 rfl ?_
  obtain ⟨ho, t⟩ := t
  refine g43 c_264_87 ho ?_
  refine g3 c_264_90 rfl ?_
  refine gif c_264_92 (gbn t (ab_c1 _ _) rfl (fun hc t => ?_) (fun hc t => ?_))
  · refine g3 c_264_95 rfl ?_
    refine g31 c_264_97 ?_
    refine g38 c_264_98 rfl ?_
    exact t
  · refine g5 c_264_101 rfl ?_
    refine g3 c_264_102 rfl ?_
    refine g3 c_264_104 rfl ?_
    exact g80 (As := [.int x4, .int x7]) (rest := [.int (ab_i h x0 22), .ref j1]) c_264_106 rfl rfl (Nat.le_of_ble_eq_true rfl) (Nat.le_of_ble_eq_true rfl) t.1 t.2
set_option maxRecDepth 20000 in
theorem t_264_109 {d : Nat} {h : ab_H} {Q : Option Value → ab_H → Prop} {x0 : Nat} {x1 : Int32} {x2 : Int32} {x3 : Int32} {x4 : Int32} {x5 : Int32} {x6 : Int32} {x7 : Int32} {s0 : Nat} {s1 : Int32} {s2 : Int32} (t : wq d 264 110 [.ref x0, .int x1, .int x2, .int x3, .int x4, .int x5, .int x6, .int x7] [.long (Int32.toInt64 s2), .int s1, .ref s0] h Q) : wq d 264 109 [.ref x0, .int x1, .int x2, .int x3, .int x4, .int x5, .int x6, .int x7] [.int s2, .int s1, .ref s0] h Q := by
  refine g31 c_264_109 ?_
  exact t
set_option maxRecDepth 20000 in
theorem t_264_110 {d : Nat} {h : ab_H} {Q : Option Value → ab_H → Prop} {x0 : Nat} {x1 : Int32} {x2 : Int32} {x3 : Int32} {x4 : Int32} {x5 : Int32} {x6 : Int32} {x7 : Int32} {s0 : Nat} {s1 : Int32} {s2 : Int64} (t : (ab_ok h s0 1 = true ∧ ab_in s1 (ab_s h s0).2 = true) ∧ ∀ h1 : ab_H, h1 = ab_pl h s0 (Int32.toNatClampNeg s1) s2 → ab_ok h1 x0 112 = true ∧ ∃ j2 : Nat, ab_r h1 x0 20 = some j2 ∧ ab_ok h1 x0 112 = true ∧ (ab_ok h1 j2 1 = true ∧ ab_in (ab_i h1 x0 22) (ab_s h1 j2).2 = true) ∧ ∀ h3 : ab_H, h3 = ab_pl h1 j2 (Int32.toNatClampNeg (ab_i h1 x0 22)) 1 → ab_ok h3 x0 112 = true ∧ ab_ok h3 x0 112 = true ∧ ∀ h4 : ab_H, h4 = ab_pi h3 x0 22 ((ab_i h3 x0 22) + 1) → wq d 264 331 [.ref x0, .int x1, .int x2, .int x3, .int x4, .int x5, .int x6, .int x7] [] h4 Q) : wq d 264 110 [.ref x0, .int x1, .int x2, .int x3, .int x4, .int x5, .int x6, .int x7] [.long s2, .int s1, .ref s0] h Q := by
  obtain ⟨ho, t⟩ := t
  refine g56 c_264_110 ho (fun h1 eh1 => ?_)
  have t := t h1 eh1
  refine g5 c_264_111 rfl ?_
  obtain ⟨ho, j2, hr, t⟩ := t
  refine g45 c_264_112 ho hr ?_
  refine g5 c_264_115 rfl ?_
  obtain ⟨ho, t⟩ := t
  refine g43 c_264_116 ho ?_
  refine g2 c_264_119 kl_1 ?_
  obtain ⟨ho, t⟩ := t
  refine g56 c_264_120 ho (fun h3 eh3 => ?_)
  have t := t h3 eh3
  refine g5 c_264_121 rfl ?_
  refine g33a c_264_122 ?_
  obtain ⟨ho, t⟩ := t
  refine g43 c_264_123 ho ?_
  refine g1 c_264_126 k_1 ?_
  refine g10 c_264_127 ?_
  obtain ⟨ho, t⟩ := t
  refine g46 c_264_128 ho (fun h4 eh4 => ?_)
  have t := t h4 eh4
  refine g38 c_264_131 rfl ?_
  exact t
set_option maxRecDepth 20000 in
theorem t_264_179 {d : Nat} {h : ab_H} {Q : Option Value → ab_H → Prop} {x0 : Nat} {x1 : Int32} {x2 : Int32} {x3 : Int32} {x4 : Int32} {x5 : Int32} {x6 : Int32} {x7 : Int32} (t : wq d 264 331 [.ref x0, .int x1, .int x2, .int x3, .int x4, .int x5, .int x6, .int x7] [] h Q) : wq d 264 179 [.ref x0, .int x1, .int x2, .int x3, .int x4, .int x5, .int x6, .int x7] [] h Q := by
  refine g38 c_264_179 rfl ?_
  exact t
set_option maxRecDepth 20000 in
theorem t_264_195 {d : Nat} {h : ab_H} {Q : Option Value → ab_H → Prop} {x0 : Nat} {x1 : Int32} {x2 : Int32} {x3 : Int32} {x4 : Int32} {x5 : Int32} {x6 : Int32} {x7 : Int32} (t : wq d 264 331 [.ref x0, .int x1, .int x2, .int x3, .int x4, .int x5, .int x6, .int x7] [] h Q) : wq d 264 195 [.ref x0, .int x1, .int x2, .int x3, .int x4, .int x5, .int x6, .int x7] [] h Q := by
  refine g38 c_264_195 rfl ?_
  exact t
set_option maxRecDepth 20000 in
theorem t_264_234 {d : Nat} {h : ab_H} {Q : Option Value → ab_H → Prop} {x0 : Nat} {x1 : Int32} {x2 : Int32} {x3 : Int32} {x4 : Int32} {x5 : Int32} {x6 : Int32} {x7 : Int32} {s0 : Nat} {s1 : Int32} {s2 : Int32} (t : (ab_ok h s0 2 = true ∧ ab_in s1 (ab_s h s0).2 = true) ∧ ∀ h1 : ab_H, h1 = ab_pi h s0 (Int32.toNatClampNeg s1) (s2 &&& 1) → wq d 264 331 [.ref x0, .int x1, .int x2, .int x3, .int x4, .int x5, .int x6, .int x7] [] h1 Q) : wq d 264 234 [.ref x0, .int x1, .int x2, .int x3, .int x4, .int x5, .int x6, .int x7] [.int s2, .int s1, .ref s0] h Q := by
  obtain ⟨ho, t⟩ := t
  refine g55 c_264_234 ho (fun h1 eh1 => ?_)
  have t := t h1 eh1
  refine g38 c_264_235 rfl ?_
  exact t
set_option maxRecDepth 20000 in
theorem t_264_295 {d : Nat} {h : ab_H} {Q : Option Value → ab_H → Prop} {x0 : Nat} {x1 : Int32} {x2 : Int32} {x3 : Int32} {x4 : Int32} {x5 : Int32} {x6 : Int32} {x7 : Int32} {s0 : Nat} {s1 : Int32} (t : wq d 264 330 [.ref x0, .int x1, .int x2, .int x3, .int x4, .int x5, .int x6, .int x7] [.int 0, .int s1, .ref s0] h Q) : wq d 264 295 [.ref x0, .int x1, .int x2, .int x3, .int x4, .int x5, .int x6, .int x7] [.int s1, .ref s0] h Q := by
  refine g1 c_264_295 k_0 ?_
  refine g38 c_264_296 rfl ?_
  exact t
set_option maxRecDepth 20000 in
theorem t_264_325 {d : Nat} {h : ab_H} {Q : Option Value → ab_H → Prop} {x0 : Nat} {x1 : Int32} {x2 : Int32} {x3 : Int32} {x4 : Int32} {x5 : Int32} {x6 : Int32} {x7 : Int32} {s0 : Nat} {s1 : Int32} (t : wq d 264 330 [.ref x0, .int x1, .int x2, .int x3, .int x4, .int x5, .int x6, .int x7] [.int 1, .int s1, .ref s0] h Q) : wq d 264 325 [.ref x0, .int x1, .int x2, .int x3, .int x4, .int x5, .int x6, .int x7] [.int s1, .ref s0] h Q := by
  refine g1 c_264_325 k_1 ?_
  refine g38 c_264_326 rfl ?_
  exact t
set_option maxRecDepth 20000 in
theorem t_264_330 {d : Nat} {h : ab_H} {Q : Option Value → ab_H → Prop} {x0 : Nat} {x1 : Int32} {x2 : Int32} {x3 : Int32} {x4 : Int32} {x5 : Int32} {x6 : Int32} {x7 : Int32} {s0 : Nat} {s1 : Int32} {s2 : Int32} (t : (ab_ok h s0 2 = true ∧ ab_in s1 (ab_s h s0).2 = true) ∧ ∀ h1 : ab_H, h1 = ab_pi h s0 (Int32.toNatClampNeg s1) (s2 &&& 1) → wq d 264 331 [.ref x0, .int x1, .int x2, .int x3, .int x4, .int x5, .int x6, .int x7] [] h1 Q) : wq d 264 330 [.ref x0, .int x1, .int x2, .int x3, .int x4, .int x5, .int x6, .int x7] [.int s2, .int s1, .ref s0] h Q := by
  obtain ⟨ho, t⟩ := t
  refine g55 c_264_330 ho (fun h1 eh1 => ?_)
  have t := t h1 eh1
  exact t
set_option maxRecDepth 20000 in
theorem t_264_331 {d : Nat} {h : ab_H} {Q : Option Value → ab_H → Prop} {x0 : Nat} {x1 : Int32} {x2 : Int32} {x3 : Int32} {x4 : Int32} {x5 : Int32} {x6 : Int32} {x7 : Int32} (t : wq d 264 13 [.ref x0, .int x1, .int x2, .int x3, .int x4, .int (x5 + 1), .int x6, .int x7] [] h Q) : wq d 264 331 [.ref x0, .int x1, .int x2, .int x3, .int x4, .int x5, .int x6, .int x7] [] h Q := by
  refine g9 (L' := [.ref x0, .int x1, .int x2, .int x3, .int x4, .int (x5 + 1), .int x6, .int x7]) c_264_331 rfl k_1 rfl ?_
  refine g38 c_264_334 rfl ?_
  exact t
-- method 265: MillTownModel.clauseAt(II)I
theorem c_265_0 : pg_cd 265 0 = (1, 3, 0, 0, 5500) := by decide +kernel
theorem c_265_3 : pg_cd 265 3 = (1, 3, 0, 0, 840) := by decide +kernel
theorem c_265_6 : pg_cd 265 6 = (3, 1, 0, 1, 0) := by decide +kernel
theorem c_265_7 : pg_cd 265 7 = (12, 1, 0, 0, 0) := by decide +kernel
theorem c_265_8 : pg_cd 265 8 = (10, 1, 0, 0, 0) := by decide +kernel
theorem c_265_9 : pg_cd 265 9 = (1, 1, 0, 0, 1) := by decide +kernel
theorem c_265_10 : pg_cd 265 10 = (10, 1, 0, 0, 0) := by decide +kernel
theorem c_265_11 : pg_cd 265 11 = (1, 2, 0, 0, 8) := by decide +kernel
theorem c_265_13 : pg_cd 265 13 = (3, 1, 0, 2, 0) := by decide +kernel
theorem c_265_14 : pg_cd 265 14 = (12, 1, 0, 0, 0) := by decide +kernel
theorem c_265_15 : pg_cd 265 15 = (10, 1, 0, 0, 0) := by decide +kernel
theorem c_265_16 : pg_cd 265 16 = (90, 0, 0, 0, 0) := by decide +kernel
theorem mx_265 : pg_mx 265 = 3 := by decide +kernel
theorem m_265 {d : Nat} {h : ab_H} {Q : Option Value → ab_H → Prop} {x0 : Nat} {x1 : Int32} {x2 : Int32} (t : wq d 265 0 [.ref x0, .int x1, .int x2] [] h Q) : wm d 265 [.ref x0, .int x1, .int x2] h Q := by
  unfold wm
  rw [mx_265]
  exact t
set_option maxRecDepth 20000 in
theorem t_265_0 {d : Nat} {h : ab_H} {Q : Option Value → ab_H → Prop} {x0 : Nat} {x1 : Int32} {x2 : Int32} (t : Q (some (.int (((5500 + (840 * x1)) + 1) + (8 * x2)))) h) : wq d 265 0 [.ref x0, .int x1, .int x2] [] h Q := by
  refine g1 c_265_0 k_5500 ?_
  refine g1 c_265_3 k_840 ?_
  refine g3 c_265_6 rfl ?_
  refine g12 c_265_7 ?_
  refine g10 c_265_8 ?_
  refine g1 c_265_9 k_1 ?_
  refine g10 c_265_10 ?_
  refine g1 c_265_11 k_8 ?_
  refine g3 c_265_13 rfl ?_
  refine g12 c_265_14 ?_
  refine g10 c_265_15 ?_
  exact g90 c_265_16 t
-- method 266: MillTownModel.clausesOf(I)I
theorem c_266_0 : pg_cd 266 0 = (5, 1, 0, 0, 0) := by decide +kernel
theorem c_266_1 : pg_cd 266 1 = (45, 12, 8, 0, 0) := by decide +kernel
theorem c_266_4 : pg_cd 266 4 = (1, 3, 0, 0, 5500) := by decide +kernel
theorem c_266_7 : pg_cd 266 7 = (1, 3, 0, 0, 840) := by decide +kernel
theorem c_266_10 : pg_cd 266 10 = (3, 1, 0, 1, 0) := by decide +kernel
theorem c_266_11 : pg_cd 266 11 = (12, 1, 0, 0, 0) := by decide +kernel
theorem c_266_12 : pg_cd 266 12 = (10, 1, 0, 0, 0) := by decide +kernel
theorem c_266_13 : pg_cd 266 13 = (50, 1, 0, 0, 0) := by decide +kernel
theorem c_266_14 : pg_cd 266 14 = (90, 0, 0, 0, 0) := by decide +kernel
theorem mx_266 : pg_mx 266 = 2 := by decide +kernel
theorem m_266 {d : Nat} {h : ab_H} {Q : Option Value → ab_H → Prop} {x0 : Nat} {x1 : Int32} (t : wq d 266 0 [.ref x0, .int x1] [] h Q) : wm d 266 [.ref x0, .int x1] h Q := by
  unfold wm
  rw [mx_266]
  exact t
set_option maxRecDepth 20000 in
theorem t_266_0 {d : Nat} {h : ab_H} {Q : Option Value → ab_H → Prop} {x0 : Nat} {x1 : Int32} (t : ab_ok h x0 112 = true ∧ ∃ j1 : Nat, ab_r h x0 0 = some j1 ∧ ((j1 = 0 ∨ ab_ok h j1 0 = true) ∧ ab_in (5500 + (840 * x1)) (ab_s h j1).2 = true) ∧ Q (some (.int (ab_i h j1 (Int32.toNatClampNeg (5500 + (840 * x1)))))) h) : wq d 266 0 [.ref x0, .int x1] [] h Q := by
  refine g5 c_266_0 rfl ?_
  obtain ⟨ho, j1, hr, t⟩ := t
  refine g45 c_266_1 ho hr ?_
  refine g1 c_266_4 k_5500 ?_
  refine g1 c_266_7 k_840 ?_
  refine g3 c_266_10 rfl ?_
  refine g12 c_266_11 ?_
  refine g10 c_266_12 ?_
  obtain ⟨ho, t⟩ := t
  refine g50 c_266_13 ho ?_
  exact g90 c_266_14 t
-- method 267: MillTownModel.hasClause(II)Z
theorem c_267_0 : pg_cd 267 0 = (1, 1, 0, 0, 0) := by decide +kernel
theorem c_267_1 : pg_cd 267 1 = (6, 1, 0, 3, 0) := by decide +kernel
theorem c_267_2 : pg_cd 267 2 = (3, 1, 0, 3, 0) := by decide +kernel
theorem c_267_3 : pg_cd 267 3 = (5, 1, 0, 0, 0) := by decide +kernel
theorem c_267_4 : pg_cd 267 4 = (3, 1, 0, 1, 0) := by decide +kernel
theorem c_267_5 : pg_cd 267 5 = (80, 266, 296, 0, 0) := by decide +kernel
theorem c_267_8 : pg_cd 267 8 = (37, 3, 0, 3, 26) := by decide +kernel
theorem c_267_11 : pg_cd 267 11 = (5, 1, 0, 0, 0) := by decide +kernel
theorem c_267_12 : pg_cd 267 12 = (45, 12, 8, 0, 0) := by decide +kernel
theorem c_267_15 : pg_cd 267 15 = (5, 1, 0, 0, 0) := by decide +kernel
theorem c_267_16 : pg_cd 267 16 = (3, 1, 0, 1, 0) := by decide +kernel
theorem c_267_17 : pg_cd 267 17 = (3, 1, 0, 3, 0) := by decide +kernel
theorem c_267_18 : pg_cd 267 18 = (80, 265, 299, 0, 0) := by decide +kernel
theorem c_267_21 : pg_cd 267 21 = (50, 1, 0, 0, 0) := by decide +kernel
theorem c_267_22 : pg_cd 267 22 = (3, 1, 0, 2, 0) := by decide +kernel
theorem c_267_23 : pg_cd 267 23 = (37, 3, 0, 1, 5) := by decide +kernel
theorem c_267_26 : pg_cd 267 26 = (1, 1, 0, 0, 1) := by decide +kernel
theorem c_267_27 : pg_cd 267 27 = (91, 0, 0, 0, 0) := by decide +kernel
theorem c_267_28 : pg_cd 267 28 = (9, 3, 0, 3, 1) := by decide +kernel
theorem c_267_31 : pg_cd 267 31 = (38, 3, 0, 0, (-29)) := by decide +kernel
theorem c_267_34 : pg_cd 267 34 = (1, 1, 0, 0, 0) := by decide +kernel
theorem c_267_35 : pg_cd 267 35 = (91, 0, 0, 0, 0) := by decide +kernel
theorem mx_267 : pg_mx 267 = 4 := by decide +kernel
theorem m_267 {d : Nat} {h : ab_H} {Q : Option Value → ab_H → Prop} {x0 : Nat} {x1 : Int32} {x2 : Int32} (t : wq d 267 0 [.ref x0, .int x1, .int x2, .retAddr 0] [] h Q) : wm d 267 [.ref x0, .int x1, .int x2] h Q := by
  unfold wm
  rw [mx_267]
  exact t
set_option maxRecDepth 20000 in
theorem t_267_0 {d : Nat} {h : ab_H} {Q : Option Value → ab_H → Prop} {x0 : Nat} {x1 : Int32} {x2 : Int32} (t : wq d 267 2 [.ref x0, .int x1, .int x2, .int 0] [] h Q) : wq d 267 0 [.ref x0, .int x1, .int x2, .retAddr 0] [] h Q := by
  refine g1 c_267_0 k_0 ?_
  refine g6 (L' := [.ref x0, .int x1, .int x2, .int 0]) c_267_1 rfl ?_
  exact t
set_option maxRecDepth 20000 in
theorem t_267_2 {d : Nat} {h : ab_H} {Q : Option Value → ab_H → Prop} {x0 : Nat} {x1 : Int32} {x2 : Int32} {x3 : Int32} (t : ab_ok h x0 112 = true ∧ wm d 266 [.ref x0, .int x1] h (fun r9 h9 => wq (d + 1) 267 8 [.ref x0, .int x1, .int x2, .int x3] (r9.toList ++ [.int x3]) h9 Q)) : wq (d + 1) 267 2 [.ref x0, .int x1, .int x2, .int x3] [] h Q := by
  refine g3 c_267_2 rfl ?_
  refine g5 c_267_3 rfl ?_
  refine g3 c_267_4 rfl ?_
  exact g80 (As := [.int x1]) (rest := [.int x3]) c_267_5 rfl rfl (Nat.le_of_ble_eq_true rfl) (Nat.le_of_ble_eq_true rfl) t.1 t.2
set_option maxRecDepth 20000 in
theorem t_267_8 {d : Nat} {h : ab_H} {Q : Option Value → ab_H → Prop} {x0 : Nat} {x1 : Int32} {x2 : Int32} {x3 : Int32} {s0 : Int32} {s1 : Int32} (t : if s1 ≤ s0 then (Q (some (.int 0)) h) else (ab_ok h x0 112 = true ∧ ∃ j1 : Nat, ab_r h x0 0 = some j1 ∧ ab_ok h x0 112 = true ∧ wm d 265 [.ref x0, .int x1, .int x3] h (fun r9 h9 => wq (d + 1) 267 21 [.ref x0, .int x1, .int x2, .int x3] (r9.toList ++ [.ref j1]) h9 Q))) : wq (d + 1) 267 8 [.ref x0, .int x1, .int x2, .int x3] [.int s1, .int s0] h Q := by
  refine gcm c_267_8 (gbr t rfl rfl (fun hc t => ?_) (fun hc t => ?_))
  · refine g1 c_267_34 k_0 ?_
    exact g91 c_267_35 ⟨by decide, t⟩
  · refine g5 c_267_11 rfl ?_
    obtain ⟨ho, j1, hr, t⟩ := t
    refine g45 c_267_12 ho hr ?_
    refine g5 c_267_15 rfl ?_
    refine g3 c_267_16 rfl ?_
    refine g3 c_267_17 rfl ?_
    exact g80 (As := [.int x1, .int x3]) (rest := [.ref j1]) c_267_18 rfl rfl (Nat.le_of_ble_eq_true rfl) (Nat.le_of_ble_eq_true rfl) t.1 t.2
set_option maxRecDepth 20000 in
theorem t_267_21 {d : Nat} {h : ab_H} {Q : Option Value → ab_H → Prop} {x0 : Nat} {x1 : Int32} {x2 : Int32} {x3 : Int32} {s0 : Nat} {s1 : Int32} (t : ((s0 = 0 ∨ ab_ok h s0 0 = true) ∧ ab_in s1 (ab_s h s0).2 = true) ∧ if (ab_i h s0 (Int32.toNatClampNeg s1)) = x2 then (Q (some (.int 1)) h) else (wq d 267 2 [.ref x0, .int x1, .int x2, .int (x3 + 1)] [] h Q)) : wq d 267 21 [.ref x0, .int x1, .int x2, .int x3] [.int s1, .ref s0] h Q := by
  obtain ⟨ho, t⟩ := t
  refine g50 c_267_21 ho ?_
  refine g3 c_267_22 rfl ?_
  refine gcm c_267_23 (gbn t (ab_c1 _ _) rfl (fun hc t => ?_) (fun hc t => ?_))
  · refine g1 c_267_26 k_1 ?_
    exact g91 c_267_27 ⟨by decide, t⟩
  · refine g9 (L' := [.ref x0, .int x1, .int x2, .int (x3 + 1)]) c_267_28 rfl k_1 rfl ?_
    refine g38 c_267_31 rfl ?_
    exact t
-- method 268: MillTownModel.forceFor(IIII)I
theorem c_268_0 : pg_cd 268 0 = (5, 1, 0, 0, 0) := by decide +kernel
theorem c_268_1 : pg_cd 268 1 = (45, 12, 8, 0, 0) := by decide +kernel
theorem c_268_4 : pg_cd 268 4 = (1, 2, 0, 0, 6) := by decide +kernel
theorem c_268_6 : pg_cd 268 6 = (50, 1, 0, 0, 0) := by decide +kernel
theorem c_268_7 : pg_cd 268 7 = (1, 1, 0, 0, 1) := by decide +kernel
theorem c_268_8 : pg_cd 268 8 = (11, 1, 0, 0, 0) := by decide +kernel
theorem c_268_9 : pg_cd 268 9 = (6, 2, 0, 5, 0) := by decide +kernel
theorem c_268_11 : pg_cd 268 11 = (3, 2, 0, 5, 0) := by decide +kernel
theorem c_268_13 : pg_cd 268 13 = (36, 3, 0, 2, 103) := by decide +kernel
theorem c_268_16 : pg_cd 268 16 = (1, 3, 0, 0, 5012) := by decide +kernel
theorem c_268_19 : pg_cd 268 19 = (1, 2, 0, 0, 8) := by decide +kernel
theorem c_268_21 : pg_cd 268 21 = (3, 2, 0, 5, 0) := by decide +kernel
theorem c_268_23 : pg_cd 268 23 = (12, 1, 0, 0, 0) := by decide +kernel
theorem c_268_24 : pg_cd 268 24 = (10, 1, 0, 0, 0) := by decide +kernel
theorem c_268_25 : pg_cd 268 25 = (6, 2, 0, 6, 0) := by decide +kernel
theorem c_268_27 : pg_cd 268 27 = (5, 1, 0, 0, 0) := by decide +kernel
theorem c_268_28 : pg_cd 268 28 = (45, 12, 8, 0, 0) := by decide +kernel
theorem c_268_31 : pg_cd 268 31 = (3, 2, 0, 6, 0) := by decide +kernel
theorem c_268_33 : pg_cd 268 33 = (1, 1, 0, 0, 1) := by decide +kernel
theorem c_268_34 : pg_cd 268 34 = (10, 1, 0, 0, 0) := by decide +kernel
theorem c_268_35 : pg_cd 268 35 = (50, 1, 0, 0, 0) := by decide +kernel
theorem c_268_36 : pg_cd 268 36 = (1, 1, 0, 0, (-1)) := by decide +kernel
theorem c_268_37 : pg_cd 268 37 = (37, 3, 0, 0, 16) := by decide +kernel
theorem c_268_40 : pg_cd 268 40 = (5, 1, 0, 0, 0) := by decide +kernel
theorem c_268_41 : pg_cd 268 41 = (45, 12, 8, 0, 0) := by decide +kernel
theorem c_268_44 : pg_cd 268 44 = (3, 2, 0, 6, 0) := by decide +kernel
theorem c_268_46 : pg_cd 268 46 = (1, 1, 0, 0, 1) := by decide +kernel
theorem c_268_47 : pg_cd 268 47 = (10, 1, 0, 0, 0) := by decide +kernel
theorem c_268_48 : pg_cd 268 48 = (50, 1, 0, 0, 0) := by decide +kernel
theorem c_268_49 : pg_cd 268 49 = (3, 1, 0, 2, 0) := by decide +kernel
theorem c_268_50 : pg_cd 268 50 = (37, 3, 0, 1, 60) := by decide +kernel
theorem c_268_53 : pg_cd 268 53 = (3, 1, 0, 3, 0) := by decide +kernel
theorem c_268_54 : pg_cd 268 54 = (5, 1, 0, 0, 0) := by decide +kernel
theorem c_268_55 : pg_cd 268 55 = (45, 12, 8, 0, 0) := by decide +kernel
theorem c_268_58 : pg_cd 268 58 = (3, 2, 0, 6, 0) := by decide +kernel
theorem c_268_60 : pg_cd 268 60 = (1, 1, 0, 0, 2) := by decide +kernel
theorem c_268_61 : pg_cd 268 61 = (10, 1, 0, 0, 0) := by decide +kernel
theorem c_268_62 : pg_cd 268 62 = (50, 1, 0, 0, 0) := by decide +kernel
theorem c_268_63 : pg_cd 268 63 = (5, 1, 0, 0, 0) := by decide +kernel
theorem c_268_64 : pg_cd 268 64 = (45, 12, 8, 0, 0) := by decide +kernel
theorem c_268_67 : pg_cd 268 67 = (3, 2, 0, 6, 0) := by decide +kernel
theorem c_268_69 : pg_cd 268 69 = (1, 1, 0, 0, 3) := by decide +kernel
theorem c_268_70 : pg_cd 268 70 = (10, 1, 0, 0, 0) := by decide +kernel
theorem c_268_71 : pg_cd 268 71 = (50, 1, 0, 0, 0) := by decide +kernel
theorem c_268_72 : pg_cd 268 72 = (81, 196, 76, 0, 0) := by decide +kernel
theorem c_268_75 : pg_cd 268 75 = (36, 3, 0, 0, 35) := by decide +kernel
theorem c_268_78 : pg_cd 268 78 = (5, 1, 0, 0, 0) := by decide +kernel
theorem c_268_79 : pg_cd 268 79 = (45, 12, 8, 0, 0) := by decide +kernel
theorem c_268_82 : pg_cd 268 82 = (3, 2, 0, 6, 0) := by decide +kernel
theorem c_268_84 : pg_cd 268 84 = (1, 1, 0, 0, 4) := by decide +kernel
theorem c_268_85 : pg_cd 268 85 = (10, 1, 0, 0, 0) := by decide +kernel
theorem c_268_86 : pg_cd 268 86 = (50, 1, 0, 0, 0) := by decide +kernel
theorem c_268_87 : pg_cd 268 87 = (3, 2, 0, 4, 0) := by decide +kernel
theorem c_268_89 : pg_cd 268 89 = (37, 3, 0, 4, 21) := by decide +kernel
theorem c_268_92 : pg_cd 268 92 = (5, 1, 0, 0, 0) := by decide +kernel
theorem c_268_93 : pg_cd 268 93 = (5, 1, 0, 0, 0) := by decide +kernel
theorem c_268_94 : pg_cd 268 94 = (45, 12, 8, 0, 0) := by decide +kernel
theorem c_268_97 : pg_cd 268 97 = (3, 2, 0, 6, 0) := by decide +kernel
theorem c_268_99 : pg_cd 268 99 = (50, 1, 0, 0, 0) := by decide +kernel
theorem c_268_100 : pg_cd 268 100 = (3, 1, 0, 1, 0) := by decide +kernel
theorem c_268_101 : pg_cd 268 101 = (80, 267, 302, 0, 0) := by decide +kernel
theorem c_268_104 : pg_cd 268 104 = (36, 3, 0, 0, 6) := by decide +kernel
theorem c_268_107 : pg_cd 268 107 = (3, 2, 0, 5, 0) := by decide +kernel
theorem c_268_109 : pg_cd 268 109 = (90, 0, 0, 0, 0) := by decide +kernel
theorem c_268_110 : pg_cd 268 110 = (9, 3, 0, 5, (-1)) := by decide +kernel
theorem c_268_113 : pg_cd 268 113 = (38, 3, 0, 0, (-102)) := by decide +kernel
theorem c_268_116 : pg_cd 268 116 = (1, 1, 0, 0, (-1)) := by decide +kernel
theorem c_268_117 : pg_cd 268 117 = (90, 0, 0, 0, 0) := by decide +kernel
theorem mx_268 : pg_mx 268 = 7 := by decide +kernel
theorem m_268 {d : Nat} {h : ab_H} {Q : Option Value → ab_H → Prop} {x0 : Nat} {x1 : Int32} {x2 : Int32} {x3 : Int32} {x4 : Int32} (t : wq d 268 0 [.ref x0, .int x1, .int x2, .int x3, .int x4, .retAddr 0, .retAddr 0] [] h Q) : wm d 268 [.ref x0, .int x1, .int x2, .int x3, .int x4] h Q := by
  unfold wm
  rw [mx_268]
  exact t
set_option maxRecDepth 20000 in
theorem t_268_0 {d : Nat} {h : ab_H} {Q : Option Value → ab_H → Prop} {x0 : Nat} {x1 : Int32} {x2 : Int32} {x3 : Int32} {x4 : Int32} (t : ab_ok h x0 112 = true ∧ ∃ j1 : Nat, ab_r h x0 0 = some j1 ∧ ((j1 = 0 ∨ ab_ok h j1 0 = true) ∧ ab_in (6 : Int32) (ab_s h j1).2 = true) ∧ ∀ y2 : Int32, y2 = ((ab_i h j1 (Int32.toNatClampNeg (6 : Int32))) - 1) → wq d 268 11 [.ref x0, .int x1, .int x2, .int x3, .int x4, .int y2, .retAddr 0] [] h Q) : wq d 268 0 [.ref x0, .int x1, .int x2, .int x3, .int x4, .retAddr 0, .retAddr 0] [] h Q := by
  refine g5 c_268_0 rfl ?_
  obtain ⟨ho, j1, hr, t⟩ := t
  refine g45 c_268_1 ho hr ?_
  refine g1 c_268_4 k_6 ?_
  obtain ⟨ho, t⟩ := t
  refine g50 c_268_6 ho ?_
  refine g1 c_268_7 k_1 ?_
  refine g11 c_268_8 ?_
  refine g6y (Lf := fun y2 => [.ref x0, .int x1, .int x2, .int x3, .int x4, .int y2, .retAddr 0]) c_268_9 (fun _ => rfl) (fun y2 ey2 => ?_)
  have t := t y2 ey2
  exact t
set_option maxRecDepth 20000 in
theorem t_268_11 {d : Nat} {h : ab_H} {Q : Option Value → ab_H → Prop} {x0 : Nat} {x1 : Int32} {x2 : Int32} {x3 : Int32} {x4 : Int32} {x5 : Int32} (t : if x5 < 0 then (Q (some (.int (-1))) h) else (ab_ok h x0 112 = true ∧ ∃ j1 : Nat, ab_r h x0 0 = some j1 ∧ ((j1 = 0 ∨ ab_ok h j1 0 = true) ∧ ab_in ((5012 + (8 * x5)) + 1) (ab_s h j1).2 = true) ∧ if (ab_i h j1 (Int32.toNatClampNeg ((5012 + (8 * x5)) + 1))) = (-1) then (ab_ok h x0 112 = true ∧ ∃ j2 : Nat, ab_r h x0 0 = some j2 ∧ ((j2 = 0 ∨ ab_ok h j2 0 = true) ∧ ab_in ((5012 + (8 * x5)) + 2) (ab_s h j2).2 = true) ∧ ab_ok h x0 112 = true ∧ ∃ j3 : Nat, ab_r h x0 0 = some j3 ∧ ((j3 = 0 ∨ ab_ok h j3 0 = true) ∧ ab_in ((5012 + (8 * x5)) + 3) (ab_s h j3).2 = true) ∧ wm d 196 [.int x3, .int (ab_i h j2 (Int32.toNatClampNeg ((5012 + (8 * x5)) + 2))), .int (ab_i h j3 (Int32.toNatClampNeg ((5012 + (8 * x5)) + 3)))] h (fun r9 h9 => wq (d + 1) 268 75 [.ref x0, .int x1, .int x2, .int x3, .int x4, .int x5, .int (5012 + (8 * x5))] (r9.toList ++ []) h9 Q)) else (ab_ok h x0 112 = true ∧ ∃ j4 : Nat, ab_r h x0 0 = some j4 ∧ ((j4 = 0 ∨ ab_ok h j4 0 = true) ∧ ab_in ((5012 + (8 * x5)) + 1) (ab_s h j4).2 = true) ∧ if (ab_i h j4 (Int32.toNatClampNeg ((5012 + (8 * x5)) + 1))) = x2 then (ab_ok h x0 112 = true ∧ ∃ j5 : Nat, ab_r h x0 0 = some j5 ∧ ((j5 = 0 ∨ ab_ok h j5 0 = true) ∧ ab_in ((5012 + (8 * x5)) + 2) (ab_s h j5).2 = true) ∧ ab_ok h x0 112 = true ∧ ∃ j6 : Nat, ab_r h x0 0 = some j6 ∧ ((j6 = 0 ∨ ab_ok h j6 0 = true) ∧ ab_in ((5012 + (8 * x5)) + 3) (ab_s h j6).2 = true) ∧ wm d 196 [.int x3, .int (ab_i h j5 (Int32.toNatClampNeg ((5012 + (8 * x5)) + 2))), .int (ab_i h j6 (Int32.toNatClampNeg ((5012 + (8 * x5)) + 3)))] h (fun r9 h9 => wq (d + 1) 268 75 [.ref x0, .int x1, .int x2, .int x3, .int x4, .int x5, .int (5012 + (8 * x5))] (r9.toList ++ []) h9 Q)) else (wq (d + 1) 268 11 [.ref x0, .int x1, .int x2, .int x3, .int x4, .int (x5 + (-1)), .int (5012 + (8 * x5))] [] h Q)))) : wq (d + 1) 268 11 [.ref x0, .int x1, .int x2, .int x3, .int x4, .int x5, .retAddr 0] [] h Q := by
  refine g3 c_268_11 rfl ?_
  refine gif c_268_13 (gbr t rfl rfl (fun hc t => ?_) (fun hc t => ?_))
  · refine g1 c_268_116 k_m1 ?_
    exact g90 c_268_117 t
  · refine g1 c_268_16 k_5012 ?_
    refine g1 c_268_19 k_8 ?_
    refine g3 c_268_21 rfl ?_
    refine g12 c_268_23 ?_
    refine g10 c_268_24 ?_
    refine g6 (L' := [.ref x0, .int x1, .int x2, .int x3, .int x4, .int x5, .int (5012 + (8 * x5))]) c_268_25 rfl ?_
    refine g5 c_268_27 rfl ?_
    obtain ⟨ho, j1, hr, t⟩ := t
    refine g45 c_268_28 ho hr ?_
    refine g3 c_268_31 rfl ?_
    refine g1 c_268_33 k_1 ?_
    refine g10 c_268_34 ?_
    obtain ⟨ho, t⟩ := t
    refine g50 c_268_35 ho ?_
    refine g1 c_268_36 k_m1 ?_
    refine gcm c_268_37 (gbr t rfl rfl (fun hc t => ?_) (fun hc t => ?_))
    · refine g3 c_268_53 rfl ?_
      refine g5 c_268_54 rfl ?_
      obtain ⟨ho, j2, hr, t⟩ := t
      refine g45 c_268_55 ho hr ?_
      refine g3 c_268_58 rfl ?_
      refine g1 c_268_60 k_2 ?_
      refine g10 c_268_61 ?_
      obtain ⟨ho, t⟩ := t
      refine g50 c_268_62 ho ?_
      refine g5 c_268_63 rfl ?_
      obtain ⟨ho, j3, hr, t⟩ := t
      refine g45 c_268_64 ho hr ?_
      refine g3 c_268_67 rfl ?_
      refine g1 c_268_69 k_3 ?_
      refine g10 c_268_70 ?_
      obtain ⟨ho, t⟩ := t
      refine g50 c_268_71 ho ?_
      exact g81 (As := [.int x3, .int (ab_i h j2 (Int32.toNatClampNeg ((5012 + (8 * x5)) + 2))), .int (ab_i h j3 (Int32.toNatClampNeg ((5012 + (8 * x5)) + 3)))]) (rest := []) c_268_72 rfl rfl (Nat.le_of_ble_eq_true rfl) (Nat.le_of_ble_eq_true rfl) t
    · refine g5 c_268_40 rfl ?_
      obtain ⟨ho, j4, hr, t⟩ := t
      refine g45 c_268_41 ho hr ?_
      refine g3 c_268_44 rfl ?_
      refine g1 c_268_46 k_1 ?_
      refine g10 c_268_47 ?_
      obtain ⟨ho, t⟩ := t
      refine g50 c_268_48 ho ?_
      refine g3 c_268_49 rfl ?_
      refine gcm c_268_50 (gbn t (ab_c1 _ _) rfl (fun hc t => ?_) (fun hc t => ?_))
      · refine g3 c_268_53 rfl ?_
        refine g5 c_268_54 rfl ?_
        obtain ⟨ho, j5, hr, t⟩ := t
        refine g45 c_268_55 ho hr ?_
        refine g3 c_268_58 rfl ?_
        refine g1 c_268_60 k_2 ?_
        refine g10 c_268_61 ?_
        obtain ⟨ho, t⟩ := t
        refine g50 c_268_62 ho ?_
        refine g5 c_268_63 rfl ?_
        obtain ⟨ho, j6, hr, t⟩ := t
        refine g45 c_268_64 ho hr ?_
        refine g3 c_268_67 rfl ?_
        refine g1 c_268_69 k_3 ?_
        refine g10 c_268_70 ?_
        obtain ⟨ho, t⟩ := t
        refine g50 c_268_71 ho ?_
        exact g81 (As := [.int x3, .int (ab_i h j5 (Int32.toNatClampNeg ((5012 + (8 * x5)) + 2))), .int (ab_i h j6 (Int32.toNatClampNeg ((5012 + (8 * x5)) + 3)))]) (rest := []) c_268_72 rfl rfl (Nat.le_of_ble_eq_true rfl) (Nat.le_of_ble_eq_true rfl) t
      · refine g9 (L' := [.ref x0, .int x1, .int x2, .int x3, .int x4, .int (x5 + (-1)), .int (5012 + (8 * x5))]) c_268_110 rfl k_m1 rfl ?_
        refine g38 c_268_113 rfl ?_
        exact t
set_option maxRecDepth 20000 in
theorem t_268_75 {d : Nat} {h : ab_H} {Q : Option Value → ab_H → Prop} {x0 : Nat} {x1 : Int32} {x2 : Int32} {x3 : Int32} {x4 : Int32} {x5 : Int32} {x6 : Int32} {s0 : Int32} (t : if s0 = 0 then (wq (d + 1) 268 11 [.ref x0, .int x1, .int x2, .int x3, .int x4, .int (x5 + (-1)), .int x6] [] h Q) else (ab_ok h x0 112 = true ∧ ∃ j1 : Nat, ab_r h x0 0 = some j1 ∧ ((j1 = 0 ∨ ab_ok h j1 0 = true) ∧ ab_in (x6 + 4) (ab_s h j1).2 = true) ∧ if x4 < (ab_i h j1 (Int32.toNatClampNeg (x6 + 4))) then (wq (d + 1) 268 11 [.ref x0, .int x1, .int x2, .int x3, .int x4, .int (x5 + (-1)), .int x6] [] h Q) else (ab_ok h x0 112 = true ∧ ∃ j2 : Nat, ab_r h x0 0 = some j2 ∧ ((j2 = 0 ∨ ab_ok h j2 0 = true) ∧ ab_in x6 (ab_s h j2).2 = true) ∧ ab_ok h x0 112 = true ∧ wm d 267 [.ref x0, .int (ab_i h j2 (Int32.toNatClampNeg x6)), .int x1] h (fun r9 h9 => wq (d + 1) 268 104 [.ref x0, .int x1, .int x2, .int x3, .int x4, .int x5, .int x6] (r9.toList ++ []) h9 Q)))) : wq (d + 1) 268 75 [.ref x0, .int x1, .int x2, .int x3, .int x4, .int x5, .int x6] [.int s0] h Q := by
  refine gif c_268_75 (gbr t rfl rfl (fun hc t => ?_) (fun hc t => ?_))
  · refine g9 (L' := [.ref x0, .int x1, .int x2, .int x3, .int x4, .int (x5 + (-1)), .int x6]) c_268_110 rfl k_m1 rfl ?_
    refine g38 c_268_113 rfl ?_
    exact t
  · refine g5 c_268_78 rfl ?_
    obtain ⟨ho, j1, hr, t⟩ := t
    refine g45 c_268_79 ho hr ?_
    refine g3 c_268_82 rfl ?_
    refine g1 c_268_84 k_4 ?_
    refine g10 c_268_85 ?_
    obtain ⟨ho, t⟩ := t
    refine g50 c_268_86 ho ?_
    refine g3 c_268_87 rfl ?_
    refine gcm c_268_89 (gbr t rfl rfl (fun hc t => ?_) (fun hc t => ?_))
    · refine g9 (L' := [.ref x0, .int x1, .int x2, .int x3, .int x4, .int (x5 + (-1)), .int x6]) c_268_110 rfl k_m1 rfl ?_
      refine g38 c_268_113 rfl ?_
      exact t
    · refine g5 c_268_92 rfl ?_
      refine g5 c_268_93 rfl ?_
      obtain ⟨ho, j2, hr, t⟩ := t
      refine g45 c_268_94 ho hr ?_
      refine g3 c_268_97 rfl ?_
      obtain ⟨ho, t⟩ := t
      refine g50 c_268_99 ho ?_
      refine g3 c_268_100 rfl ?_
      exact g80 (As := [.int (ab_i h j2 (Int32.toNatClampNeg x6)), .int x1]) (rest := []) c_268_101 rfl rfl (Nat.le_of_ble_eq_true rfl) (Nat.le_of_ble_eq_true rfl) t.1 t.2
set_option maxRecDepth 20000 in
theorem t_268_104 {d : Nat} {h : ab_H} {Q : Option Value → ab_H → Prop} {x0 : Nat} {x1 : Int32} {x2 : Int32} {x3 : Int32} {x4 : Int32} {x5 : Int32} {x6 : Int32} {s0 : Int32} (t : if s0 = 0 then (wq d 268 11 [.ref x0, .int x1, .int x2, .int x3, .int x4, .int (x5 + (-1)), .int x6] [] h Q) else (Q (some (.int x5)) h)) : wq d 268 104 [.ref x0, .int x1, .int x2, .int x3, .int x4, .int x5, .int x6] [.int s0] h Q := by
  refine gif c_268_104 (gbr t rfl rfl (fun hc t => ?_) (fun hc t => ?_))
  · refine g9 (L' := [.ref x0, .int x1, .int x2, .int x3, .int x4, .int (x5 + (-1)), .int x6]) c_268_110 rfl k_m1 rfl ?_
    refine g38 c_268_113 rfl ?_
    exact t
  · refine g3 c_268_107 rfl ?_
    exact g90 c_268_109 t
-- method 269: MillTownModel.comes(IIZI)V
theorem c_269_0 : pg_cd 269 0 = (5, 1, 0, 0, 0) := by decide +kernel
theorem c_269_1 : pg_cd 269 1 = (3, 1, 0, 1, 0) := by decide +kernel
theorem c_269_2 : pg_cd 269 2 = (5, 1, 0, 0, 0) := by decide +kernel
theorem c_269_3 : pg_cd 269 3 = (45, 12, 8, 0, 0) := by decide +kernel
theorem c_269_6 : pg_cd 269 6 = (3, 1, 0, 2, 0) := by decide +kernel
theorem c_269_7 : pg_cd 269 7 = (1, 2, 0, 0, 6) := by decide +kernel
theorem c_269_9 : pg_cd 269 9 = (10, 1, 0, 0, 0) := by decide +kernel
theorem c_269_10 : pg_cd 269 10 = (50, 1, 0, 0, 0) := by decide +kernel
theorem c_269_11 : pg_cd 269 11 = (5, 1, 0, 0, 0) := by decide +kernel
theorem c_269_12 : pg_cd 269 12 = (45, 12, 8, 0, 0) := by decide +kernel
theorem c_269_15 : pg_cd 269 15 = (3, 1, 0, 2, 0) := by decide +kernel
theorem c_269_16 : pg_cd 269 16 = (1, 2, 0, 0, 7) := by decide +kernel
theorem c_269_18 : pg_cd 269 18 = (10, 1, 0, 0, 0) := by decide +kernel
theorem c_269_19 : pg_cd 269 19 = (50, 1, 0, 0, 0) := by decide +kernel
theorem c_269_20 : pg_cd 269 20 = (3, 2, 0, 4, 0) := by decide +kernel
theorem c_269_22 : pg_cd 269 22 = (80, 264, 306, 0, 0) := by decide +kernel
theorem c_269_25 : pg_cd 269 25 = (5, 1, 0, 0, 0) := by decide +kernel
theorem c_269_26 : pg_cd 269 26 = (45, 12, 33, 19, 0) := by decide +kernel
theorem c_269_29 : pg_cd 269 29 = (1, 1, 0, 0, 0) := by decide +kernel
theorem c_269_30 : pg_cd 269 30 = (52, 1, 0, 0, 0) := by decide +kernel
theorem c_269_31 : pg_cd 269 31 = (7, 2, 0, 5, 0) := by decide +kernel
theorem c_269_33 : pg_cd 269 33 = (5, 1, 0, 0, 0) := by decide +kernel
theorem c_269_34 : pg_cd 269 34 = (45, 12, 37, 20, 0) := by decide +kernel
theorem c_269_37 : pg_cd 269 37 = (1, 1, 0, 0, 0) := by decide +kernel
theorem c_269_38 : pg_cd 269 38 = (52, 1, 0, 0, 0) := by decide +kernel
theorem c_269_39 : pg_cd 269 39 = (7, 2, 0, 7, 0) := by decide +kernel
theorem c_269_41 : pg_cd 269 41 = (5, 1, 0, 0, 0) := by decide +kernel
theorem c_269_42 : pg_cd 269 42 = (45, 12, 33, 19, 0) := by decide +kernel
theorem c_269_45 : pg_cd 269 45 = (1, 1, 0, 0, 0) := by decide +kernel
theorem c_269_46 : pg_cd 269 46 = (5, 1, 0, 0, 0) := by decide +kernel
theorem c_269_47 : pg_cd 269 47 = (44, 12, 309, 27, 0) := by decide +kernel
theorem c_269_50 : pg_cd 269 50 = (56, 1, 0, 0, 0) := by decide +kernel
theorem c_269_51 : pg_cd 269 51 = (5, 1, 0, 0, 0) := by decide +kernel
theorem c_269_52 : pg_cd 269 52 = (45, 12, 37, 20, 0) := by decide +kernel
theorem c_269_55 : pg_cd 269 55 = (1, 1, 0, 0, 0) := by decide +kernel
theorem c_269_56 : pg_cd 269 56 = (5, 1, 0, 0, 0) := by decide +kernel
theorem c_269_57 : pg_cd 269 57 = (44, 12, 312, 28, 0) := by decide +kernel
theorem c_269_60 : pg_cd 269 60 = (56, 1, 0, 0, 0) := by decide +kernel
theorem c_269_61 : pg_cd 269 61 = (5, 1, 0, 0, 0) := by decide +kernel
theorem c_269_62 : pg_cd 269 62 = (45, 12, 33, 19, 0) := by decide +kernel
theorem c_269_65 : pg_cd 269 65 = (1, 1, 0, 0, 1) := by decide +kernel
theorem c_269_66 : pg_cd 269 66 = (4, 2, 0, 5, 0) := by decide +kernel
theorem c_269_68 : pg_cd 269 68 = (56, 1, 0, 0, 0) := by decide +kernel
theorem c_269_69 : pg_cd 269 69 = (5, 1, 0, 0, 0) := by decide +kernel
theorem c_269_70 : pg_cd 269 70 = (45, 12, 37, 20, 0) := by decide +kernel
theorem c_269_73 : pg_cd 269 73 = (1, 1, 0, 0, 1) := by decide +kernel
theorem c_269_74 : pg_cd 269 74 = (4, 2, 0, 7, 0) := by decide +kernel
theorem c_269_76 : pg_cd 269 76 = (56, 1, 0, 0, 0) := by decide +kernel
theorem c_269_77 : pg_cd 269 77 = (5, 1, 0, 0, 0) := by decide +kernel
theorem c_269_78 : pg_cd 269 78 = (1, 1, 0, 0, 2) := by decide +kernel
theorem c_269_79 : pg_cd 269 79 = (46, 12, 281, 22, 0) := by decide +kernel
theorem c_269_82 : pg_cd 269 82 = (5, 1, 0, 0, 0) := by decide +kernel
theorem c_269_83 : pg_cd 269 83 = (3, 1, 0, 3, 0) := by decide +kernel
theorem c_269_84 : pg_cd 269 84 = (36, 3, 0, 0, 7) := by decide +kernel
theorem c_269_87 : pg_cd 269 87 = (1, 1, 0, 0, 4) := by decide +kernel
theorem c_269_88 : pg_cd 269 88 = (38, 3, 0, 0, 4) := by decide +kernel
theorem c_269_91 : pg_cd 269 91 = (1, 1, 0, 0, 3) := by decide +kernel
theorem c_269_92 : pg_cd 269 92 = (80, 262, 290, 0, 0) := by decide +kernel
theorem c_269_95 : pg_cd 269 95 = (5, 1, 0, 0, 0) := by decide +kernel
theorem c_269_96 : pg_cd 269 96 = (5, 1, 0, 0, 0) := by decide +kernel
theorem c_269_97 : pg_cd 269 97 = (45, 12, 33, 19, 0) := by decide +kernel
theorem c_269_100 : pg_cd 269 100 = (1, 1, 0, 0, 0) := by decide +kernel
theorem c_269_101 : pg_cd 269 101 = (52, 1, 0, 0, 0) := by decide +kernel
theorem c_269_102 : pg_cd 269 102 = (48, 12, 309, 27, 0) := by decide +kernel
theorem c_269_105 : pg_cd 269 105 = (5, 1, 0, 0, 0) := by decide +kernel
theorem c_269_106 : pg_cd 269 106 = (5, 1, 0, 0, 0) := by decide +kernel
theorem c_269_107 : pg_cd 269 107 = (45, 12, 37, 20, 0) := by decide +kernel
theorem c_269_110 : pg_cd 269 110 = (1, 1, 0, 0, 0) := by decide +kernel
theorem c_269_111 : pg_cd 269 111 = (52, 1, 0, 0, 0) := by decide +kernel
theorem c_269_112 : pg_cd 269 112 = (48, 12, 312, 28, 0) := by decide +kernel
theorem c_269_115 : pg_cd 269 115 = (94, 0, 0, 0, 0) := by decide +kernel
theorem mx_269 : pg_mx 269 = 9 := by decide +kernel
theorem m_269 {d : Nat} {h : ab_H} {Q : Option Value → ab_H → Prop} {x0 : Nat} {x1 : Int32} {x2 : Int32} {x3 : Int32} {x4 : Int32} (t : wq d 269 0 [.ref x0, .int x1, .int x2, .int x3, .int x4, .retAddr 0, .retAddr 0, .retAddr 0, .retAddr 0] [] h Q) : wm d 269 [.ref x0, .int x1, .int x2, .int x3, .int x4] h Q := by
  unfold wm
  rw [mx_269]
  exact t
set_option maxRecDepth 20000 in
theorem t_269_0 {d : Nat} {h : ab_H} {Q : Option Value → ab_H → Prop} {x0 : Nat} {x1 : Int32} {x2 : Int32} {x3 : Int32} {x4 : Int32} (t : ab_ok h x0 112 = true ∧ ∃ j1 : Nat, ab_r h x0 0 = some j1 ∧ ((j1 = 0 ∨ ab_ok h j1 0 = true) ∧ ab_in (x2 + 6) (ab_s h j1).2 = true) ∧ ab_ok h x0 112 = true ∧ ∃ j2 : Nat, ab_r h x0 0 = some j2 ∧ ((j2 = 0 ∨ ab_ok h j2 0 = true) ∧ ab_in (x2 + 7) (ab_s h j2).2 = true) ∧ ab_ok h x0 112 = true ∧ wm d 264 [.ref x0, .int x1, .int (ab_i h j1 (Int32.toNatClampNeg (x2 + 6))), .int (ab_i h j2 (Int32.toNatClampNeg (x2 + 7))), .int x4] h (fun r9 h9 => wq (d + 1) 269 25 [.ref x0, .int x1, .int x2, .int x3, .int x4, .retAddr 0, .retAddr 0, .retAddr 0, .retAddr 0] (r9.toList ++ []) h9 Q)) : wq (d + 1) 269 0 [.ref x0, .int x1, .int x2, .int x3, .int x4, .retAddr 0, .retAddr 0, .retAddr 0, .retAddr 0] [] h Q := by
  refine g5 c_269_0 rfl ?_
  refine g3 c_269_1 rfl ?_
  refine g5 c_269_2 rfl ?_
  obtain ⟨ho, j1, hr, t⟩ := t
  refine g45 c_269_3 ho hr ?_
  refine g3 c_269_6 rfl ?_
  refine g1 c_269_7 k_6 ?_
  refine g10 c_269_9 ?_
  obtain ⟨ho, t⟩ := t
  refine g50 c_269_10 ho ?_
  refine g5 c_269_11 rfl ?_
  obtain ⟨ho, j2, hr, t⟩ := t
  refine g45 c_269_12 ho hr ?_
  refine g3 c_269_15 rfl ?_
  refine g1 c_269_16 k_7 ?_
  refine g10 c_269_18 ?_
  obtain ⟨ho, t⟩ := t
  refine g50 c_269_19 ho ?_
  refine g3 c_269_20 rfl ?_
  exact g80 (As := [.int x1, .int (ab_i h j1 (Int32.toNatClampNeg (x2 + 6))), .int (ab_i h j2 (Int32.toNatClampNeg (x2 + 7))), .int x4]) (rest := []) c_269_22 rfl rfl (Nat.le_of_ble_eq_true rfl) (Nat.le_of_ble_eq_true rfl) t.1 t.2
set_option maxRecDepth 20000 in
theorem t_269_25 {d : Nat} {h : ab_H} {Q : Option Value → ab_H → Prop} {x0 : Nat} {x1 : Int32} {x2 : Int32} {x3 : Int32} {x4 : Int32} (t : ab_ok h x0 112 = true ∧ ∃ j1 : Nat, ab_r h x0 19 = some j1 ∧ (ab_ok h j1 1 = true ∧ ab_in (0 : Int32) (ab_s h j1).2 = true) ∧ ∀ y2 : Int64, y2 = (ab_l h j1 (Int32.toNatClampNeg (0 : Int32))) → ab_ok h x0 112 = true ∧ ∃ j3 : Nat, ab_r h x0 20 = some j3 ∧ (ab_ok h j3 1 = true ∧ ab_in (0 : Int32) (ab_s h j3).2 = true) ∧ ∀ y4 : Int64, y4 = (ab_l h j3 (Int32.toNatClampNeg (0 : Int32))) → ab_ok h x0 112 = true ∧ ∃ j5 : Nat, ab_r h x0 19 = some j5 ∧ ab_ok h x0 112 = true ∧ (ab_ok h j5 1 = true ∧ ab_in (0 : Int32) (ab_s h j5).2 = true) ∧ ∀ h6 : ab_H, h6 = ab_pl h j5 (Int32.toNatClampNeg (0 : Int32)) (ab_l h x0 27) → ab_ok h6 x0 112 = true ∧ ∃ j7 : Nat, ab_r h6 x0 20 = some j7 ∧ ab_ok h6 x0 112 = true ∧ (ab_ok h6 j7 1 = true ∧ ab_in (0 : Int32) (ab_s h6 j7).2 = true) ∧ ∀ h8 : ab_H, h8 = ab_pl h6 j7 (Int32.toNatClampNeg (0 : Int32)) (ab_l h6 x0 28) → ab_ok h8 x0 112 = true ∧ ∃ j9 : Nat, ab_r h8 x0 19 = some j9 ∧ (ab_ok h8 j9 1 = true ∧ ab_in (1 : Int32) (ab_s h8 j9).2 = true) ∧ ∀ h10 : ab_H, h10 = ab_pl h8 j9 (Int32.toNatClampNeg (1 : Int32)) y2 → ab_ok h10 x0 112 = true ∧ ∃ j11 : Nat, ab_r h10 x0 20 = some j11 ∧ (ab_ok h10 j11 1 = true ∧ ab_in (1 : Int32) (ab_s h10 j11).2 = true) ∧ ∀ h12 : ab_H, h12 = ab_pl h10 j11 (Int32.toNatClampNeg (1 : Int32)) y4 → ab_ok h12 x0 112 = true ∧ ∀ h13 : ab_H, h13 = ab_pi h12 x0 22 2 → if x3 = 0 then (ab_ok h13 x0 112 = true ∧ wm d 262 [.ref x0, .int 3] h13 (fun r9 h9 => wq (d + 1) 269 95 [.ref x0, .int x1, .int x2, .int x3, .int x4, .long y2, .retAddr 0, .long y4, .retAddr 0] (r9.toList ++ []) h9 Q)) else (ab_ok h13 x0 112 = true ∧ wm d 262 [.ref x0, .int 4] h13 (fun r9 h9 => wq (d + 1) 269 95 [.ref x0, .int x1, .int x2, .int x3, .int x4, .long y2, .retAddr 0, .long y4, .retAddr 0] (r9.toList ++ []) h9 Q))) : wq (d + 1) 269 25 [.ref x0, .int x1, .int x2, .int x3, .int x4, .retAddr 0, .retAddr 0, .retAddr 0, .retAddr 0] [] h Q := by
  refine g5 c_269_25 rfl ?_
  obtain ⟨ho, j1, hr, t⟩ := t
  refine g45 c_269_26 ho hr ?_
  refine g1 c_269_29 k_0 ?_
  obtain ⟨ho, t⟩ := t
  refine g52 c_269_30 ho ?_
  refine g7y (Lf := fun y2 => [.ref x0, .int x1, .int x2, .int x3, .int x4, .long y2, .retAddr 0, .retAddr 0, .retAddr 0]) c_269_31 (fun _ => rfl) (fun y2 ey2 => ?_)
  have t := t y2 ey2
  refine g5 c_269_33 rfl ?_
  obtain ⟨ho, j3, hr, t⟩ := t
  refine g45 c_269_34 ho hr ?_
  refine g1 c_269_37 k_0 ?_
  obtain ⟨ho, t⟩ := t
  refine g52 c_269_38 ho ?_
  refine g7y (Lf := fun y4 => [.ref x0, .int x1, .int x2, .int x3, .int x4, .long y2, .retAddr 0, .long y4, .retAddr 0]) c_269_39 (fun _ => rfl) (fun y4 ey4 => ?_)
  have t := t y4 ey4
  refine g5 c_269_41 rfl ?_
  obtain ⟨ho, j5, hr, t⟩ := t
  refine g45 c_269_42 ho hr ?_
  refine g1 c_269_45 k_0 ?_
  refine g5 c_269_46 rfl ?_
  obtain ⟨ho, t⟩ := t
  refine g44 c_269_47 ho ?_
  obtain ⟨ho, t⟩ := t
  refine g56 c_269_50 ho (fun h6 eh6 => ?_)
  have t := t h6 eh6
  refine g5 c_269_51 rfl ?_
  obtain ⟨ho, j7, hr, t⟩ := t
  refine g45 c_269_52 ho hr ?_
  refine g1 c_269_55 k_0 ?_
  refine g5 c_269_56 rfl ?_
  obtain ⟨ho, t⟩ := t
  refine g44 c_269_57 ho ?_
  obtain ⟨ho, t⟩ := t
  refine g56 c_269_60 ho (fun h8 eh8 => ?_)
  have t := t h8 eh8
  refine g5 c_269_61 rfl ?_
  obtain ⟨ho, j9, hr, t⟩ := t
  refine g45 c_269_62 ho hr ?_
  refine g1 c_269_65 k_1 ?_
  refine g4 c_269_66 rfl ?_
  obtain ⟨ho, t⟩ := t
  refine g56 c_269_68 ho (fun h10 eh10 => ?_)
  have t := t h10 eh10
  refine g5 c_269_69 rfl ?_
  obtain ⟨ho, j11, hr, t⟩ := t
  refine g45 c_269_70 ho hr ?_
  refine g1 c_269_73 k_1 ?_
  refine g4 c_269_74 rfl ?_
  obtain ⟨ho, t⟩ := t
  refine g56 c_269_76 ho (fun h12 eh12 => ?_)
  have t := t h12 eh12
  refine g5 c_269_77 rfl ?_
  refine g1 c_269_78 k_2 ?_
  obtain ⟨ho, t⟩ := t
  refine g46 c_269_79 ho (fun h13 eh13 => ?_)
  have t := t h13 eh13
  refine g5 c_269_82 rfl ?_
  refine g3 c_269_83 rfl ?_
  refine gif c_269_84 (gbr t rfl rfl (fun hc t => ?_) (fun hc t => ?_))
  · refine g1 c_269_91 k_3 ?_
    exact g80 (As := [.int 3]) (rest := []) c_269_92 rfl rfl (Nat.le_of_ble_eq_true rfl) (Nat.le_of_ble_eq_true rfl) t.1 t.2
  · refine g1 c_269_87 k_4 ?_
    refine g38 c_269_88 rfl ?_
    exact g80 (As := [.int 4]) (rest := []) c_269_92 rfl rfl (Nat.le_of_ble_eq_true rfl) (Nat.le_of_ble_eq_true rfl) t.1 t.2
set_option maxRecDepth 20000 in
theorem t_269_95 {d : Nat} {h : ab_H} {Q : Option Value → ab_H → Prop} {x0 : Nat} {x1 : Int32} {x2 : Int32} {x3 : Int32} {x4 : Int32} {x5 : Int64} {x7 : Int64} (t : ab_ok h x0 112 = true ∧ ∃ j1 : Nat, ab_r h x0 19 = some j1 ∧ (ab_ok h j1 1 = true ∧ ab_in (0 : Int32) (ab_s h j1).2 = true) ∧ ab_ok h x0 112 = true ∧ ∀ h2 : ab_H, h2 = ab_pl h x0 27 (ab_l h j1 (Int32.toNatClampNeg (0 : Int32))) → ab_ok h2 x0 112 = true ∧ ∃ j3 : Nat, ab_r h2 x0 20 = some j3 ∧ (ab_ok h2 j3 1 = true ∧ ab_in (0 : Int32) (ab_s h2 j3).2 = true) ∧ ab_ok h2 x0 112 = true ∧ ∀ h4 : ab_H, h4 = ab_pl h2 x0 28 (ab_l h2 j3 (Int32.toNatClampNeg (0 : Int32))) → Q none h4) : wq d 269 95 [.ref x0, .int x1, .int x2, .int x3, .int x4, .long x5, .retAddr 0, .long x7, .retAddr 0] [] h Q := by
  refine g5 c_269_95 rfl ?_
  refine g5 c_269_96 rfl ?_
  obtain ⟨ho, j1, hr, t⟩ := t
  refine g45 c_269_97 ho hr ?_
  refine g1 c_269_100 k_0 ?_
  obtain ⟨ho, t⟩ := t
  refine g52 c_269_101 ho ?_
  obtain ⟨ho, t⟩ := t
  refine g48 c_269_102 ho (fun h2 eh2 => ?_)
  have t := t h2 eh2
  refine g5 c_269_105 rfl ?_
  refine g5 c_269_106 rfl ?_
  obtain ⟨ho, j3, hr, t⟩ := t
  refine g45 c_269_107 ho hr ?_
  refine g1 c_269_110 k_0 ?_
  obtain ⟨ho, t⟩ := t
  refine g52 c_269_111 ho ?_
  obtain ⟨ho, t⟩ := t
  refine g48 c_269_112 ho (fun h4 eh4 => ?_)
  have t := t h4 eh4
  exact g94 c_269_115 t
-- method 270: MillTownModel.counts(III)Z
theorem c_270_0 : pg_cd 270 0 = (5, 1, 0, 0, 0) := by decide +kernel
theorem c_270_1 : pg_cd 270 1 = (45, 12, 8, 0, 0) := by decide +kernel
theorem c_270_4 : pg_cd 270 4 = (3, 1, 0, 2, 0) := by decide +kernel
theorem c_270_5 : pg_cd 270 5 = (50, 1, 0, 0, 0) := by decide +kernel
theorem c_270_6 : pg_cd 270 6 = (6, 2, 0, 4, 0) := by decide +kernel
theorem c_270_8 : pg_cd 270 8 = (3, 2, 0, 4, 0) := by decide +kernel
theorem c_270_10 : pg_cd 270 10 = (1, 1, 0, 0, 2) := by decide +kernel
theorem c_270_11 : pg_cd 270 11 = (37, 3, 0, 0, 9) := by decide +kernel
theorem c_270_14 : pg_cd 270 14 = (3, 2, 0, 4, 0) := by decide +kernel
theorem c_270_16 : pg_cd 270 16 = (1, 1, 0, 0, 3) := by decide +kernel
theorem c_270_17 : pg_cd 270 17 = (37, 3, 0, 1, 30) := by decide +kernel
theorem c_270_20 : pg_cd 270 20 = (5, 1, 0, 0, 0) := by decide +kernel
theorem c_270_21 : pg_cd 270 21 = (3, 1, 0, 3, 0) := by decide +kernel
theorem c_270_22 : pg_cd 270 22 = (1, 1, 0, 0, 5) := by decide +kernel
theorem c_270_23 : pg_cd 270 23 = (80, 197, 85, 0, 0) := by decide +kernel
theorem c_270_26 : pg_cd 270 26 = (5, 1, 0, 0, 0) := by decide +kernel
theorem c_270_27 : pg_cd 270 27 = (45, 12, 8, 0, 0) := by decide +kernel
theorem c_270_30 : pg_cd 270 30 = (3, 1, 0, 2, 0) := by decide +kernel
theorem c_270_31 : pg_cd 270 31 = (1, 1, 0, 0, 1) := by decide +kernel
theorem c_270_32 : pg_cd 270 32 = (10, 1, 0, 0, 0) := by decide +kernel
theorem c_270_33 : pg_cd 270 33 = (50, 1, 0, 0, 0) := by decide +kernel
theorem c_270_34 : pg_cd 270 34 = (19, 1, 0, 0, 0) := by decide +kernel
theorem c_270_35 : pg_cd 270 35 = (1, 1, 0, 0, 1) := by decide +kernel
theorem c_270_36 : pg_cd 270 36 = (13, 1, 0, 0, 0) := by decide +kernel
theorem c_270_37 : pg_cd 270 37 = (1, 1, 0, 0, 1) := by decide +kernel
theorem c_270_38 : pg_cd 270 38 = (37, 3, 0, 1, 7) := by decide +kernel
theorem c_270_41 : pg_cd 270 41 = (1, 1, 0, 0, 1) := by decide +kernel
theorem c_270_42 : pg_cd 270 42 = (38, 3, 0, 0, 4) := by decide +kernel
theorem c_270_45 : pg_cd 270 45 = (1, 1, 0, 0, 0) := by decide +kernel
theorem c_270_46 : pg_cd 270 46 = (91, 0, 0, 0, 0) := by decide +kernel
theorem c_270_47 : pg_cd 270 47 = (3, 2, 0, 4, 0) := by decide +kernel
theorem c_270_49 : pg_cd 270 49 = (1, 1, 0, 0, 4) := by decide +kernel
theorem c_270_50 : pg_cd 270 50 = (37, 3, 0, 0, 11) := by decide +kernel
theorem c_270_53 : pg_cd 270 53 = (3, 2, 0, 4, 0) := by decide +kernel
theorem c_270_55 : pg_cd 270 55 = (1, 1, 0, 0, 5) := by decide +kernel
theorem c_270_56 : pg_cd 270 56 = (37, 3, 0, 0, 5) := by decide +kernel
theorem c_270_59 : pg_cd 270 59 = (1, 1, 0, 0, 0) := by decide +kernel
theorem c_270_60 : pg_cd 270 60 = (91, 0, 0, 0, 0) := by decide +kernel
theorem c_270_61 : pg_cd 270 61 = (5, 1, 0, 0, 0) := by decide +kernel
theorem c_270_62 : pg_cd 270 62 = (3, 1, 0, 1, 0) := by decide +kernel
theorem c_270_63 : pg_cd 270 63 = (5, 1, 0, 0, 0) := by decide +kernel
theorem c_270_64 : pg_cd 270 64 = (45, 12, 8, 0, 0) := by decide +kernel
theorem c_270_67 : pg_cd 270 67 = (3, 1, 0, 2, 0) := by decide +kernel
theorem c_270_68 : pg_cd 270 68 = (1, 1, 0, 0, 4) := by decide +kernel
theorem c_270_69 : pg_cd 270 69 = (10, 1, 0, 0, 0) := by decide +kernel
theorem c_270_70 : pg_cd 270 70 = (50, 1, 0, 0, 0) := by decide +kernel
theorem c_270_71 : pg_cd 270 71 = (5, 1, 0, 0, 0) := by decide +kernel
theorem c_270_72 : pg_cd 270 72 = (45, 12, 8, 0, 0) := by decide +kernel
theorem c_270_75 : pg_cd 270 75 = (3, 1, 0, 2, 0) := by decide +kernel
theorem c_270_76 : pg_cd 270 76 = (1, 1, 0, 0, 5) := by decide +kernel
theorem c_270_77 : pg_cd 270 77 = (10, 1, 0, 0, 0) := by decide +kernel
theorem c_270_78 : pg_cd 270 78 = (50, 1, 0, 0, 0) := by decide +kernel
theorem c_270_79 : pg_cd 270 79 = (3, 1, 0, 3, 0) := by decide +kernel
theorem c_270_80 : pg_cd 270 80 = (80, 264, 306, 0, 0) := by decide +kernel
theorem c_270_83 : pg_cd 270 83 = (5, 1, 0, 0, 0) := by decide +kernel
theorem c_270_84 : pg_cd 270 84 = (45, 12, 40, 21, 0) := by decide +kernel
theorem c_270_87 : pg_cd 270 87 = (1, 1, 0, 0, 0) := by decide +kernel
theorem c_270_88 : pg_cd 270 88 = (51, 1, 0, 0, 0) := by decide +kernel
theorem c_270_89 : pg_cd 270 89 = (91, 0, 0, 0, 0) := by decide +kernel
theorem mx_270 : pg_mx 270 = 5 := by decide +kernel
theorem m_270 {d : Nat} {h : ab_H} {Q : Option Value → ab_H → Prop} {x0 : Nat} {x1 : Int32} {x2 : Int32} {x3 : Int32} (t : wq d 270 0 [.ref x0, .int x1, .int x2, .int x3, .retAddr 0] [] h Q) : wm d 270 [.ref x0, .int x1, .int x2, .int x3] h Q := by
  unfold wm
  rw [mx_270]
  exact t
set_option maxRecDepth 20000 in
theorem t_270_0 {d : Nat} {h : ab_H} {Q : Option Value → ab_H → Prop} {x0 : Nat} {x1 : Int32} {x2 : Int32} {x3 : Int32} (t : ab_ok h x0 112 = true ∧ ∃ j1 : Nat, ab_r h x0 0 = some j1 ∧ ((j1 = 0 ∨ ab_ok h j1 0 = true) ∧ ab_in x2 (ab_s h j1).2 = true) ∧ if (ab_i h j1 (Int32.toNatClampNeg x2)) = 2 then (ab_ok h x0 112 = true ∧ wm d 197 [.ref x0, .int x3, .int 5] h (fun r9 h9 => wq (d + 1) 270 26 [.ref x0, .int x1, .int x2, .int x3, .int (ab_i h j1 (Int32.toNatClampNeg x2))] (r9.toList ++ []) h9 Q)) else (if (ab_i h j1 (Int32.toNatClampNeg x2)) = 3 then (ab_ok h x0 112 = true ∧ wm d 197 [.ref x0, .int x3, .int 5] h (fun r9 h9 => wq (d + 1) 270 26 [.ref x0, .int x1, .int x2, .int x3, .int (ab_i h j1 (Int32.toNatClampNeg x2))] (r9.toList ++ []) h9 Q)) else (if (ab_i h j1 (Int32.toNatClampNeg x2)) = 4 then (ab_ok h x0 112 = true ∧ ∃ j2 : Nat, ab_r h x0 0 = some j2 ∧ ((j2 = 0 ∨ ab_ok h j2 0 = true) ∧ ab_in (x2 + 4) (ab_s h j2).2 = true) ∧ ab_ok h x0 112 = true ∧ ∃ j3 : Nat, ab_r h x0 0 = some j3 ∧ ((j3 = 0 ∨ ab_ok h j3 0 = true) ∧ ab_in (x2 + 5) (ab_s h j3).2 = true) ∧ ab_ok h x0 112 = true ∧ wm d 264 [.ref x0, .int x1, .int (ab_i h j2 (Int32.toNatClampNeg (x2 + 4))), .int (ab_i h j3 (Int32.toNatClampNeg (x2 + 5))), .int x3] h (fun r9 h9 => wq (d + 1) 270 83 [.ref x0, .int x1, .int x2, .int x3, .int (ab_i h j1 (Int32.toNatClampNeg x2))] (r9.toList ++ []) h9 Q)) else (if (ab_i h j1 (Int32.toNatClampNeg x2)) = 5 then (ab_ok h x0 112 = true ∧ ∃ j4 : Nat, ab_r h x0 0 = some j4 ∧ ((j4 = 0 ∨ ab_ok h j4 0 = true) ∧ ab_in (x2 + 4) (ab_s h j4).2 = true) ∧ ab_ok h x0 112 = true ∧ ∃ j5 : Nat, ab_r h x0 0 = some j5 ∧ ((j5 = 0 ∨ ab_ok h j5 0 = true) ∧ ab_in (x2 + 5) (ab_s h j5).2 = true) ∧ ab_ok h x0 112 = true ∧ wm d 264 [.ref x0, .int x1, .int (ab_i h j4 (Int32.toNatClampNeg (x2 + 4))), .int (ab_i h j5 (Int32.toNatClampNeg (x2 + 5))), .int x3] h (fun r9 h9 => wq (d + 1) 270 83 [.ref x0, .int x1, .int x2, .int x3, .int (ab_i h j1 (Int32.toNatClampNeg x2))] (r9.toList ++ []) h9 Q)) else (Q (some (.int 0)) h))))) : wq (d + 1) 270 0 [.ref x0, .int x1, .int x2, .int x3, .retAddr 0] [] h Q := by
  refine g5 c_270_0 rfl ?_
  obtain ⟨ho, j1, hr, t⟩ := t
  refine g45 c_270_1 ho hr ?_
  refine g3 c_270_4 rfl ?_
  obtain ⟨ho, t⟩ := t
  refine g50 c_270_5 ho ?_
  refine g6 (L' := [.ref x0, .int x1, .int x2, .int x3, .int (ab_i h j1 (Int32.toNatClampNeg x2))]) c_270_6 rfl ?_
  refine g3 c_270_8 rfl ?_
  refine g1 c_270_10 k_2 ?_
  refine gcm c_270_11 (gbr t rfl rfl (fun hc t => ?_) (fun hc t => ?_))
  · refine g5 c_270_20 rfl ?_
    refine g3 c_270_21 rfl ?_
    refine g1 c_270_22 k_5 ?_
    exact g80 (As := [.int x3, .int 5]) (rest := []) c_270_23 rfl rfl (Nat.le_of_ble_eq_true rfl) (Nat.le_of_ble_eq_true rfl) t.1 t.2
  · refine g3 c_270_14 rfl ?_
    refine g1 c_270_16 k_3 ?_
    refine gcm c_270_17 (gbn t (ab_c1 _ _) rfl (fun hc t => ?_) (fun hc t => ?_))
    · refine g5 c_270_20 rfl ?_
      refine g3 c_270_21 rfl ?_
      refine g1 c_270_22 k_5 ?_
      exact g80 (As := [.int x3, .int 5]) (rest := []) c_270_23 rfl rfl (Nat.le_of_ble_eq_true rfl) (Nat.le_of_ble_eq_true rfl) t.1 t.2
    · refine g3 c_270_47 rfl ?_
      refine g1 c_270_49 k_4 ?_
      refine gcm c_270_50 (gbr t rfl rfl (fun hc t => ?_) (fun hc t => ?_))
      · refine g5 c_270_61 rfl ?_
        refine g3 c_270_62 rfl ?_
        refine g5 c_270_63 rfl ?_
        obtain ⟨ho, j2, hr, t⟩ := t
        refine g45 c_270_64 ho hr ?_
        refine g3 c_270_67 rfl ?_
        refine g1 c_270_68 k_4 ?_
        refine g10 c_270_69 ?_
        obtain ⟨ho, t⟩ := t
        refine g50 c_270_70 ho ?_
        refine g5 c_270_71 rfl ?_
        obtain ⟨ho, j3, hr, t⟩ := t
        refine g45 c_270_72 ho hr ?_
        refine g3 c_270_75 rfl ?_
        refine g1 c_270_76 k_5 ?_
        refine g10 c_270_77 ?_
        obtain ⟨ho, t⟩ := t
        refine g50 c_270_78 ho ?_
        refine g3 c_270_79 rfl ?_
        exact g80 (As := [.int x1, .int (ab_i h j2 (Int32.toNatClampNeg (x2 + 4))), .int (ab_i h j3 (Int32.toNatClampNeg (x2 + 5))), .int x3]) (rest := []) c_270_80 rfl rfl (Nat.le_of_ble_eq_true rfl) (Nat.le_of_ble_eq_true rfl) t.1 t.2
      · refine g3 c_270_53 rfl ?_
        refine g1 c_270_55 k_5 ?_
        refine gcm c_270_56 (gbr t rfl rfl (fun hc t => ?_) (fun hc t => ?_))
        · refine g5 c_270_61 rfl ?_
          refine g3 c_270_62 rfl ?_
          refine g5 c_270_63 rfl ?_
          obtain ⟨ho, j4, hr, t⟩ := t
          refine g45 c_270_64 ho hr ?_
          refine g3 c_270_67 rfl ?_
          refine g1 c_270_68 k_4 ?_
          refine g10 c_270_69 ?_
          obtain ⟨ho, t⟩ := t
          refine g50 c_270_70 ho ?_
          refine g5 c_270_71 rfl ?_
          obtain ⟨ho, j5, hr, t⟩ := t
          refine g45 c_270_72 ho hr ?_
          refine g3 c_270_75 rfl ?_
          refine g1 c_270_76 k_5 ?_
          refine g10 c_270_77 ?_
          obtain ⟨ho, t⟩ := t
          refine g50 c_270_78 ho ?_
          refine g3 c_270_79 rfl ?_
          exact g80 (As := [.int x1, .int (ab_i h j4 (Int32.toNatClampNeg (x2 + 4))), .int (ab_i h j5 (Int32.toNatClampNeg (x2 + 5))), .int x3]) (rest := []) c_270_80 rfl rfl (Nat.le_of_ble_eq_true rfl) (Nat.le_of_ble_eq_true rfl) t.1 t.2
        · refine g1 c_270_59 k_0 ?_
          exact g91 c_270_60 ⟨by decide, t⟩
set_option maxRecDepth 20000 in
theorem t_270_26 {d : Nat} {h : ab_H} {Q : Option Value → ab_H → Prop} {x0 : Nat} {x1 : Int32} {x2 : Int32} {x3 : Int32} {x4 : Int32} {s0 : Int32} (t : ab_ok h x0 112 = true ∧ ∃ j1 : Nat, ab_r h x0 0 = some j1 ∧ ((j1 = 0 ∨ ab_ok h j1 0 = true) ∧ ab_in (x2 + 1) (ab_s h j1).2 = true) ∧ if ((s0 >>> ((ab_i h j1 (Int32.toNatClampNeg (x2 + 1))) &&& 31)) &&& 1) = 1 then (Q (some (.int 1)) h) else (Q (some (.int 0)) h)) : wq d 270 26 [.ref x0, .int x1, .int x2, .int x3, .int x4] [.int s0] h Q := by
  refine g5 c_270_26 rfl ?_
  obtain ⟨ho, j1, hr, t⟩ := t
  refine g45 c_270_27 ho hr ?_
  refine g3 c_270_30 rfl ?_
  refine g1 c_270_31 k_1 ?_
  refine g10 c_270_32 ?_
  obtain ⟨ho, t⟩ := t
  refine g50 c_270_33 ho ?_
  refine g19 c_270_34 ?_
  refine g1 c_270_35 k_1 ?_
  refine g13 c_270_36 ?_
  refine g1 c_270_37 k_1 ?_
  refine gcm c_270_38 (gbn t (ab_c1 _ _) rfl (fun hc t => ?_) (fun hc t => ?_))
  · refine g1 c_270_41 k_1 ?_
    refine g38 c_270_42 rfl ?_
    exact g91 c_270_46 ⟨by decide, t⟩
  · refine g1 c_270_45 k_0 ?_
    exact g91 c_270_46 ⟨by decide, t⟩
set_option maxRecDepth 20000 in
theorem t_270_83 {d : Nat} {h : ab_H} {Q : Option Value → ab_H → Prop} {x0 : Nat} {x1 : Int32} {x2 : Int32} {x3 : Int32} {x4 : Int32} (t : ab_ok h x0 112 = true ∧ ∃ j1 : Nat, ab_r h x0 21 = some j1 ∧ (ab_ok h j1 2 = true ∧ ab_in (0 : Int32) (ab_s h j1).2 = true) ∧ ((ab_i h j1 (Int32.toNatClampNeg (0 : Int32))) = 0 ∨ (ab_i h j1 (Int32.toNatClampNeg (0 : Int32))) = 1) ∧ Q (some (.int (ab_i h j1 (Int32.toNatClampNeg (0 : Int32))))) h) : wq d 270 83 [.ref x0, .int x1, .int x2, .int x3, .int x4] [] h Q := by
  refine g5 c_270_83 rfl ?_
  obtain ⟨ho, j1, hr, t⟩ := t
  refine g45 c_270_84 ho hr ?_
  refine g1 c_270_87 k_0 ?_
  obtain ⟨ho, t⟩ := t
  refine g51 c_270_88 ho ?_
  exact g91 c_270_89 t
-- method 271: MillTownModel.payOf(IIII)I
theorem c_271_0 : pg_cd 271 0 = (5, 1, 0, 0, 0) := by decide +kernel
theorem c_271_1 : pg_cd 271 1 = (5, 1, 0, 0, 0) := by decide +kernel
theorem c_271_2 : pg_cd 271 2 = (1, 1, 0, 0, 1) := by decide +kernel
theorem c_271_3 : pg_cd 271 3 = (3, 1, 0, 2, 0) := by decide +kernel
theorem c_271_4 : pg_cd 271 4 = (3, 1, 0, 3, 0) := by decide +kernel
theorem c_271_5 : pg_cd 271 5 = (3, 2, 0, 4, 0) := by decide +kernel
theorem c_271_7 : pg_cd 271 7 = (80, 268, 315, 0, 0) := by decide +kernel
theorem c_271_10 : pg_cd 271 10 = (46, 12, 319, 24, 0) := by decide +kernel
theorem c_271_13 : pg_cd 271 13 = (5, 1, 0, 0, 0) := by decide +kernel
theorem c_271_14 : pg_cd 271 14 = (1, 1, 0, 0, 0) := by decide +kernel
theorem c_271_15 : pg_cd 271 15 = (46, 12, 322, 25, 0) := by decide +kernel
theorem c_271_18 : pg_cd 271 18 = (5, 1, 0, 0, 0) := by decide +kernel
theorem c_271_19 : pg_cd 271 19 = (43, 12, 319, 24, 0) := by decide +kernel
theorem c_271_22 : pg_cd 271 22 = (36, 3, 0, 3, 5) := by decide +kernel
theorem c_271_25 : pg_cd 271 25 = (1, 1, 0, 0, 0) := by decide +kernel
theorem c_271_26 : pg_cd 271 26 = (90, 0, 0, 0, 0) := by decide +kernel
theorem c_271_27 : pg_cd 271 27 = (5, 1, 0, 0, 0) := by decide +kernel
theorem c_271_28 : pg_cd 271 28 = (45, 12, 8, 0, 0) := by decide +kernel
theorem c_271_31 : pg_cd 271 31 = (1, 3, 0, 0, 5012) := by decide +kernel
theorem c_271_34 : pg_cd 271 34 = (1, 2, 0, 0, 8) := by decide +kernel
theorem c_271_36 : pg_cd 271 36 = (5, 1, 0, 0, 0) := by decide +kernel
theorem c_271_37 : pg_cd 271 37 = (43, 12, 319, 24, 0) := by decide +kernel
theorem c_271_40 : pg_cd 271 40 = (12, 1, 0, 0, 0) := by decide +kernel
theorem c_271_41 : pg_cd 271 41 = (10, 1, 0, 0, 0) := by decide +kernel
theorem c_271_42 : pg_cd 271 42 = (50, 1, 0, 0, 0) := by decide +kernel
theorem c_271_43 : pg_cd 271 43 = (6, 2, 0, 5, 0) := by decide +kernel
theorem c_271_45 : pg_cd 271 45 = (5, 1, 0, 0, 0) := by decide +kernel
theorem c_271_46 : pg_cd 271 46 = (2, 1, 0, 0, 0) := by decide +kernel
theorem c_271_47 : pg_cd 271 47 = (48, 12, 309, 27, 0) := by decide +kernel
theorem c_271_50 : pg_cd 271 50 = (5, 1, 0, 0, 0) := by decide +kernel
theorem c_271_51 : pg_cd 271 51 = (2, 1, 0, 0, 1) := by decide +kernel
theorem c_271_52 : pg_cd 271 52 = (48, 12, 312, 28, 0) := by decide +kernel
theorem c_271_55 : pg_cd 271 55 = (1, 1, 0, 0, 0) := by decide +kernel
theorem c_271_56 : pg_cd 271 56 = (6, 2, 0, 6, 0) := by decide +kernel
theorem c_271_58 : pg_cd 271 58 = (1, 1, 0, 0, 0) := by decide +kernel
theorem c_271_59 : pg_cd 271 59 = (6, 2, 0, 7, 0) := by decide +kernel
theorem c_271_61 : pg_cd 271 61 = (3, 2, 0, 7, 0) := by decide +kernel
theorem c_271_63 : pg_cd 271 63 = (5, 1, 0, 0, 0) := by decide +kernel
theorem c_271_64 : pg_cd 271 64 = (3, 2, 0, 5, 0) := by decide +kernel
theorem c_271_66 : pg_cd 271 66 = (80, 266, 296, 0, 0) := by decide +kernel
theorem c_271_69 : pg_cd 271 69 = (37, 3, 0, 3, 77) := by decide +kernel
theorem c_271_72 : pg_cd 271 72 = (5, 1, 0, 0, 0) := by decide +kernel
theorem c_271_73 : pg_cd 271 73 = (3, 2, 0, 5, 0) := by decide +kernel
theorem c_271_75 : pg_cd 271 75 = (3, 2, 0, 7, 0) := by decide +kernel
theorem c_271_77 : pg_cd 271 77 = (80, 265, 299, 0, 0) := by decide +kernel
theorem c_271_80 : pg_cd 271 80 = (6, 2, 0, 8, 0) := by decide +kernel
theorem c_271_82 : pg_cd 271 82 = (5, 1, 0, 0, 0) := by decide +kernel
theorem c_271_83 : pg_cd 271 83 = (45, 12, 8, 0, 0) := by decide +kernel
theorem c_271_86 : pg_cd 271 86 = (3, 2, 0, 8, 0) := by decide +kernel
theorem c_271_88 : pg_cd 271 88 = (50, 1, 0, 0, 0) := by decide +kernel
theorem c_271_89 : pg_cd 271 89 = (1, 1, 0, 0, 1) := by decide +kernel
theorem c_271_90 : pg_cd 271 90 = (37, 3, 0, 1, 13) := by decide +kernel
theorem c_271_93 : pg_cd 271 93 = (5, 1, 0, 0, 0) := by decide +kernel
theorem c_271_94 : pg_cd 271 94 = (3, 2, 0, 5, 0) := by decide +kernel
theorem c_271_96 : pg_cd 271 96 = (3, 2, 0, 8, 0) := by decide +kernel
theorem c_271_98 : pg_cd 271 98 = (1, 1, 0, 0, 0) := by decide +kernel
theorem c_271_99 : pg_cd 271 99 = (3, 1, 0, 1, 0) := by decide +kernel
theorem c_271_100 : pg_cd 271 100 = (80, 269, 325, 0, 0) := by decide +kernel
theorem c_271_103 : pg_cd 271 103 = (5, 1, 0, 0, 0) := by decide +kernel
theorem c_271_104 : pg_cd 271 104 = (45, 12, 8, 0, 0) := by decide +kernel
theorem c_271_107 : pg_cd 271 107 = (3, 2, 0, 8, 0) := by decide +kernel
theorem c_271_109 : pg_cd 271 109 = (50, 1, 0, 0, 0) := by decide +kernel
theorem c_271_110 : pg_cd 271 110 = (1, 2, 0, 0, 6) := by decide +kernel
theorem c_271_112 : pg_cd 271 112 = (37, 3, 0, 1, 28) := by decide +kernel
theorem c_271_115 : pg_cd 271 115 = (5, 1, 0, 0, 0) := by decide +kernel
theorem c_271_116 : pg_cd 271 116 = (45, 12, 8, 0, 0) := by decide +kernel
theorem c_271_119 : pg_cd 271 119 = (3, 2, 0, 8, 0) := by decide +kernel
theorem c_271_121 : pg_cd 271 121 = (1, 1, 0, 0, 1) := by decide +kernel
theorem c_271_122 : pg_cd 271 122 = (10, 1, 0, 0, 0) := by decide +kernel
theorem c_271_123 : pg_cd 271 123 = (50, 1, 0, 0, 0) := by decide +kernel
theorem c_271_124 : pg_cd 271 124 = (3, 2, 0, 6, 0) := by decide +kernel
theorem c_271_126 : pg_cd 271 126 = (37, 3, 0, 5, 14) := by decide +kernel
theorem c_271_129 : pg_cd 271 129 = (5, 1, 0, 0, 0) := by decide +kernel
theorem c_271_130 : pg_cd 271 130 = (45, 12, 8, 0, 0) := by decide +kernel
theorem c_271_133 : pg_cd 271 133 = (3, 2, 0, 8, 0) := by decide +kernel
theorem c_271_135 : pg_cd 271 135 = (1, 1, 0, 0, 1) := by decide +kernel
theorem c_271_136 : pg_cd 271 136 = (10, 1, 0, 0, 0) := by decide +kernel
theorem c_271_137 : pg_cd 271 137 = (50, 1, 0, 0, 0) := by decide +kernel
theorem c_271_138 : pg_cd 271 138 = (6, 2, 0, 6, 0) := by decide +kernel
theorem c_271_140 : pg_cd 271 140 = (9, 3, 0, 7, 1) := by decide +kernel
theorem c_271_143 : pg_cd 271 143 = (38, 3, 0, 0, (-82)) := by decide +kernel
theorem c_271_146 : pg_cd 271 146 = (1, 1, 0, 0, 0) := by decide +kernel
theorem c_271_147 : pg_cd 271 147 = (6, 2, 0, 7, 0) := by decide +kernel
theorem c_271_149 : pg_cd 271 149 = (3, 2, 0, 7, 0) := by decide +kernel
theorem c_271_151 : pg_cd 271 151 = (5, 1, 0, 0, 0) := by decide +kernel
theorem c_271_152 : pg_cd 271 152 = (3, 2, 0, 5, 0) := by decide +kernel
theorem c_271_154 : pg_cd 271 154 = (80, 266, 296, 0, 0) := by decide +kernel
theorem c_271_157 : pg_cd 271 157 = (37, 3, 0, 3, 130) := by decide +kernel
theorem c_271_160 : pg_cd 271 160 = (5, 1, 0, 0, 0) := by decide +kernel
theorem c_271_161 : pg_cd 271 161 = (3, 2, 0, 5, 0) := by decide +kernel
theorem c_271_163 : pg_cd 271 163 = (3, 2, 0, 7, 0) := by decide +kernel
theorem c_271_165 : pg_cd 271 165 = (80, 265, 299, 0, 0) := by decide +kernel
theorem c_271_168 : pg_cd 271 168 = (6, 2, 0, 8, 0) := by decide +kernel
theorem c_271_170 : pg_cd 271 170 = (5, 1, 0, 0, 0) := by decide +kernel
theorem c_271_171 : pg_cd 271 171 = (45, 12, 8, 0, 0) := by decide +kernel
theorem c_271_174 : pg_cd 271 174 = (3, 2, 0, 8, 0) := by decide +kernel
theorem c_271_176 : pg_cd 271 176 = (50, 1, 0, 0, 0) := by decide +kernel
theorem c_271_177 : pg_cd 271 177 = (1, 1, 0, 0, 1) := by decide +kernel
theorem c_271_178 : pg_cd 271 178 = (37, 3, 0, 0, 19) := by decide +kernel
theorem c_271_181 : pg_cd 271 181 = (5, 1, 0, 0, 0) := by decide +kernel
theorem c_271_182 : pg_cd 271 182 = (3, 2, 0, 5, 0) := by decide +kernel
theorem c_271_184 : pg_cd 271 184 = (3, 2, 0, 8, 0) := by decide +kernel
theorem c_271_186 : pg_cd 271 186 = (3, 1, 0, 1, 0) := by decide +kernel
theorem c_271_187 : pg_cd 271 187 = (80, 270, 329, 0, 0) := by decide +kernel
theorem c_271_190 : pg_cd 271 190 = (36, 3, 0, 0, 7) := by decide +kernel
theorem c_271_193 : pg_cd 271 193 = (1, 1, 0, 0, 1) := by decide +kernel
theorem c_271_194 : pg_cd 271 194 = (38, 3, 0, 0, 4) := by decide +kernel
theorem c_271_197 : pg_cd 271 197 = (1, 1, 0, 0, 0) := by decide +kernel
theorem c_271_198 : pg_cd 271 198 = (6, 2, 0, 9, 0) := by decide +kernel
theorem c_271_200 : pg_cd 271 200 = (3, 2, 0, 9, 0) := by decide +kernel
theorem c_271_202 : pg_cd 271 202 = (36, 3, 0, 0, 39) := by decide +kernel
theorem c_271_205 : pg_cd 271 205 = (5, 1, 0, 0, 0) := by decide +kernel
theorem c_271_206 : pg_cd 271 206 = (3, 2, 0, 5, 0) := by decide +kernel
theorem c_271_208 : pg_cd 271 208 = (3, 2, 0, 8, 0) := by decide +kernel
theorem c_271_210 : pg_cd 271 210 = (5, 1, 0, 0, 0) := by decide +kernel
theorem c_271_211 : pg_cd 271 211 = (45, 12, 8, 0, 0) := by decide +kernel
theorem c_271_214 : pg_cd 271 214 = (3, 2, 0, 8, 0) := by decide +kernel
theorem c_271_216 : pg_cd 271 216 = (50, 1, 0, 0, 0) := by decide +kernel
theorem c_271_217 : pg_cd 271 217 = (1, 1, 0, 0, 3) := by decide +kernel
theorem c_271_218 : pg_cd 271 218 = (37, 3, 0, 0, 14) := by decide +kernel
theorem c_271_221 : pg_cd 271 221 = (5, 1, 0, 0, 0) := by decide +kernel
theorem c_271_222 : pg_cd 271 222 = (45, 12, 8, 0, 0) := by decide +kernel
theorem c_271_225 : pg_cd 271 225 = (3, 2, 0, 8, 0) := by decide +kernel
theorem c_271_227 : pg_cd 271 227 = (50, 1, 0, 0, 0) := by decide +kernel
theorem c_271_228 : pg_cd 271 228 = (1, 1, 0, 0, 5) := by decide +kernel
theorem c_271_229 : pg_cd 271 229 = (37, 3, 0, 1, 7) := by decide +kernel
theorem c_271_232 : pg_cd 271 232 = (1, 1, 0, 0, 1) := by decide +kernel
theorem c_271_233 : pg_cd 271 233 = (38, 3, 0, 0, 4) := by decide +kernel
theorem c_271_236 : pg_cd 271 236 = (1, 1, 0, 0, 0) := by decide +kernel
theorem c_271_237 : pg_cd 271 237 = (3, 1, 0, 1, 0) := by decide +kernel
theorem c_271_238 : pg_cd 271 238 = (80, 269, 325, 0, 0) := by decide +kernel
theorem c_271_241 : pg_cd 271 241 = (3, 2, 0, 9, 0) := by decide +kernel
theorem c_271_243 : pg_cd 271 243 = (36, 3, 0, 1, 17) := by decide +kernel
theorem c_271_246 : pg_cd 271 246 = (5, 1, 0, 0, 0) := by decide +kernel
theorem c_271_247 : pg_cd 271 247 = (45, 12, 8, 0, 0) := by decide +kernel
theorem c_271_250 : pg_cd 271 250 = (3, 2, 0, 8, 0) := by decide +kernel
theorem c_271_252 : pg_cd 271 252 = (50, 1, 0, 0, 0) := by decide +kernel
theorem c_271_253 : pg_cd 271 253 = (1, 1, 0, 0, 1) := by decide +kernel
theorem c_271_254 : pg_cd 271 254 = (37, 3, 0, 0, 6) := by decide +kernel
theorem c_271_257 : pg_cd 271 257 = (38, 3, 0, 0, 24) := by decide +kernel
theorem c_271_260 : pg_cd 271 260 = (5, 1, 0, 0, 0) := by decide +kernel
theorem c_271_261 : pg_cd 271 261 = (45, 12, 44, 26, 0) := by decide +kernel
theorem c_271_264 : pg_cd 271 264 = (5, 1, 0, 0, 0) := by decide +kernel
theorem c_271_265 : pg_cd 271 265 = (43, 12, 322, 25, 0) := by decide +kernel
theorem c_271_268 : pg_cd 271 268 = (3, 2, 0, 7, 0) := by decide +kernel
theorem c_271_270 : pg_cd 271 270 = (54, 1, 0, 0, 0) := by decide +kernel
theorem c_271_271 : pg_cd 271 271 = (5, 1, 0, 0, 0) := by decide +kernel
theorem c_271_272 : pg_cd 271 272 = (33, 1, 0, 0, 0) := by decide +kernel
theorem c_271_273 : pg_cd 271 273 = (43, 12, 322, 25, 0) := by decide +kernel
theorem c_271_276 : pg_cd 271 276 = (1, 1, 0, 0, 1) := by decide +kernel
theorem c_271_277 : pg_cd 271 277 = (10, 1, 0, 0, 0) := by decide +kernel
theorem c_271_278 : pg_cd 271 278 = (46, 12, 322, 25, 0) := by decide +kernel
theorem c_271_281 : pg_cd 271 281 = (9, 3, 0, 7, 1) := by decide +kernel
theorem c_271_284 : pg_cd 271 284 = (38, 3, 0, 0, (-135)) := by decide +kernel
theorem c_271_287 : pg_cd 271 287 = (5, 1, 0, 0, 0) := by decide +kernel
theorem c_271_288 : pg_cd 271 288 = (44, 12, 312, 28, 0) := by decide +kernel
theorem c_271_291 : pg_cd 271 291 = (2, 1, 0, 0, 0) := by decide +kernel
theorem c_271_292 : pg_cd 271 292 = (28, 1, 0, 0, 0) := by decide +kernel
theorem c_271_293 : pg_cd 271 293 = (36, 3, 0, 1, 10) := by decide +kernel
theorem c_271_296 : pg_cd 271 296 = (5, 1, 0, 0, 0) := by decide +kernel
theorem c_271_297 : pg_cd 271 297 = (1, 1, 0, 0, 0) := by decide +kernel
theorem c_271_298 : pg_cd 271 298 = (46, 12, 322, 25, 0) := by decide +kernel
theorem c_271_301 : pg_cd 271 301 = (1, 1, 0, 0, 0) := by decide +kernel
theorem c_271_302 : pg_cd 271 302 = (90, 0, 0, 0, 0) := by decide +kernel
theorem c_271_303 : pg_cd 271 303 = (5, 1, 0, 0, 0) := by decide +kernel
theorem c_271_304 : pg_cd 271 304 = (44, 12, 309, 27, 0) := by decide +kernel
theorem c_271_307 : pg_cd 271 307 = (5, 1, 0, 0, 0) := by decide +kernel
theorem c_271_308 : pg_cd 271 308 = (44, 12, 312, 28, 0) := by decide +kernel
theorem c_271_311 : pg_cd 271 311 = (26, 1, 0, 0, 0) := by decide +kernel
theorem c_271_312 : pg_cd 271 312 = (7, 2, 0, 7, 0) := by decide +kernel
theorem c_271_314 : pg_cd 271 314 = (4, 2, 0, 7, 0) := by decide +kernel
theorem c_271_316 : pg_cd 271 316 = (3, 2, 0, 6, 0) := by decide +kernel
theorem c_271_318 : pg_cd 271 318 = (31, 1, 0, 0, 0) := by decide +kernel
theorem c_271_319 : pg_cd 271 319 = (28, 1, 0, 0, 0) := by decide +kernel
theorem c_271_320 : pg_cd 271 320 = (36, 3, 0, 3, 8) := by decide +kernel
theorem c_271_323 : pg_cd 271 323 = (3, 2, 0, 6, 0) := by decide +kernel
theorem c_271_325 : pg_cd 271 325 = (31, 1, 0, 0, 0) := by decide +kernel
theorem c_271_326 : pg_cd 271 326 = (7, 2, 0, 7, 0) := by decide +kernel
theorem c_271_328 : pg_cd 271 328 = (4, 2, 0, 7, 0) := by decide +kernel
theorem c_271_330 : pg_cd 271 330 = (2, 3, 332, 0, 100000) := by decide +kernel
theorem c_271_333 : pg_cd 271 333 = (28, 1, 0, 0, 0) := by decide +kernel
theorem c_271_334 : pg_cd 271 334 = (36, 3, 0, 5, 8) := by decide +kernel
theorem c_271_337 : pg_cd 271 337 = (1, 2, 71, 0, 100000) := by decide +kernel
theorem c_271_339 : pg_cd 271 339 = (38, 3, 0, 0, 6) := by decide +kernel
theorem c_271_342 : pg_cd 271 342 = (4, 2, 0, 7, 0) := by decide +kernel
theorem c_271_344 : pg_cd 271 344 = (30, 1, 0, 0, 0) := by decide +kernel
theorem c_271_345 : pg_cd 271 345 = (90, 0, 0, 0, 0) := by decide +kernel
theorem mx_271 : pg_mx 271 = 10 := by decide +kernel
theorem m_271 {d : Nat} {h : ab_H} {Q : Option Value → ab_H → Prop} {x0 : Nat} {x1 : Int32} {x2 : Int32} {x3 : Int32} {x4 : Int32} (t : wq d 271 0 [.ref x0, .int x1, .int x2, .int x3, .int x4, .retAddr 0, .retAddr 0, .retAddr 0, .retAddr 0, .retAddr 0] [] h Q) : wm d 271 [.ref x0, .int x1, .int x2, .int x3, .int x4] h Q := by
  unfold wm
  rw [mx_271]
  exact t
set_option maxRecDepth 20000 in
theorem t_271_0 {d : Nat} {h : ab_H} {Q : Option Value → ab_H → Prop} {x0 : Nat} {x1 : Int32} {x2 : Int32} {x3 : Int32} {x4 : Int32} (t : ab_ok h x0 112 = true ∧ wm d 268 [.ref x0, .int 1, .int x2, .int x3, .int x4] h (fun r9 h9 => wq (d + 1) 271 10 [.ref x0, .int x1, .int x2, .int x3, .int x4, .retAddr 0, .retAddr 0, .retAddr 0, .retAddr 0, .retAddr 0] (r9.toList ++ [.ref x0]) h9 Q)) : wq (d + 1) 271 0 [.ref x0, .int x1, .int x2, .int x3, .int x4, .retAddr 0, .retAddr 0, .retAddr 0, .retAddr 0, .retAddr 0] [] h Q := by
  refine g5 c_271_0 rfl ?_
  refine g5 c_271_1 rfl ?_
  refine g1 c_271_2 k_1 ?_
  refine g3 c_271_3 rfl ?_
  refine g3 c_271_4 rfl ?_
  refine g3 c_271_5 rfl ?_
  exact g80 (As := [.int 1, .int x2, .int x3, .int x4]) (rest := [.ref x0]) c_271_7 rfl rfl (Nat.le_of_ble_eq_true rfl) (Nat.le_of_ble_eq_true rfl) t.1 t.2
set_option maxRecDepth 20000 in
theorem t_271_10 {d : Nat} {h : ab_H} {Q : Option Value → ab_H → Prop} {x0 : Nat} {x1 : Int32} {x2 : Int32} {x3 : Int32} {x4 : Int32} {s0 : Nat} {s1 : Int32} (t : ab_ok h s0 112 = true ∧ ∀ h1 : ab_H, h1 = ab_pi h s0 24 s1 → ab_ok h1 x0 112 = true ∧ ∀ h2 : ab_H, h2 = ab_pi h1 x0 25 0 → ab_ok h2 x0 112 = true ∧ if 0 ≤ (ab_i h2 x0 24) then (ab_ok h2 x0 112 = true ∧ ∃ j3 : Nat, ab_r h2 x0 0 = some j3 ∧ ab_ok h2 x0 112 = true ∧ ((j3 = 0 ∨ ab_ok h2 j3 0 = true) ∧ ab_in (5012 + (8 * (ab_i h2 x0 24))) (ab_s h2 j3).2 = true) ∧ ∀ y4 : Int32, y4 = (ab_i h2 j3 (Int32.toNatClampNeg (5012 + (8 * (ab_i h2 x0 24))))) → ab_ok h2 x0 112 = true ∧ ∀ h5 : ab_H, h5 = ab_pl h2 x0 27 0 → ab_ok h5 x0 112 = true ∧ ∀ h6 : ab_H, h6 = ab_pl h5 x0 28 1 → wq d 271 61 [.ref x0, .int x1, .int x2, .int x3, .int x4, .int y4, .int 0, .int 0, .retAddr 0, .retAddr 0] [] h6 Q) else (Q (some (.int 0)) h2)) : wq d 271 10 [.ref x0, .int x1, .int x2, .int x3, .int x4, .retAddr 0, .retAddr 0, .retAddr 0, .retAddr 0, .retAddr 0] [.int s1, .ref s0] h Q := by
  obtain ⟨ho, t⟩ := t
  refine g46 c_271_10 ho (fun h1 eh1 => ?_)
  have t := t h1 eh1
  refine g5 c_271_13 rfl ?_
  refine g1 c_271_14 k_0 ?_
  obtain ⟨ho, t⟩ := t
  refine g46 c_271_15 ho (fun h2 eh2 => ?_)
  have t := t h2 eh2
  refine g5 c_271_18 rfl ?_
  obtain ⟨ho, t⟩ := t
  refine g43 c_271_19 ho ?_
  refine gif c_271_22 (gbr t rfl rfl (fun hc t => ?_) (fun hc t => ?_))
  · refine g5 c_271_27 rfl ?_
    obtain ⟨ho, j3, hr, t⟩ := t
    refine g45 c_271_28 ho hr ?_
    refine g1 c_271_31 k_5012 ?_
    refine g1 c_271_34 k_8 ?_
    refine g5 c_271_36 rfl ?_
    obtain ⟨ho, t⟩ := t
    refine g43 c_271_37 ho ?_
    refine g12 c_271_40 ?_
    refine g10 c_271_41 ?_
    obtain ⟨ho, t⟩ := t
    refine g50 c_271_42 ho ?_
    refine g6y (Lf := fun y4 => [.ref x0, .int x1, .int x2, .int x3, .int x4, .int y4, .retAddr 0, .retAddr 0, .retAddr 0, .retAddr 0]) c_271_43 (fun _ => rfl) (fun y4 ey4 => ?_)
    have t := t y4 ey4
    refine g5 c_271_45 rfl ?_
    refine g2 c_271_46 kl_0 ?_
    obtain ⟨ho, t⟩ := t
    refine g48 c_271_47 ho (fun h5 eh5 => ?_)
    have t := t h5 eh5
    refine g5 c_271_50 rfl ?_
    refine g2 c_271_51 kl_1 ?_
    obtain ⟨ho, t⟩ := t
    refine g48 c_271_52 ho (fun h6 eh6 => ?_)
    have t := t h6 eh6
    refine g1 c_271_55 k_0 ?_
    refine g6 (L' := [.ref x0, .int x1, .int x2, .int x3, .int x4, .int y4, .int 0, .retAddr 0, .retAddr 0, .retAddr 0]) c_271_56 rfl ?_
    refine g1 c_271_58 k_0 ?_
    refine g6 (L' := [.ref x0, .int x1, .int x2, .int x3, .int x4, .int y4, .int 0, .int 0, .retAddr 0, .retAddr 0]) c_271_59 rfl ?_
    exact t
  · refine g1 c_271_25 k_0 ?_
    exact g90 c_271_26 t
set_option maxRecDepth 20000 in
theorem t_271_61 {d : Nat} {h : ab_H} {Q : Option Value → ab_H → Prop} {x0 : Nat} {x1 : Int32} {x2 : Int32} {x3 : Int32} {x4 : Int32} {x5 : Int32} {x6 : Int32} {x7 : Int32} (t : ab_ok h x0 112 = true ∧ wm d 266 [.ref x0, .int x5] h (fun r9 h9 => wq (d + 1) 271 69 [.ref x0, .int x1, .int x2, .int x3, .int x4, .int x5, .int x6, .int x7, .retAddr 0, .retAddr 0] (r9.toList ++ [.int x7]) h9 Q)) : wq (d + 1) 271 61 [.ref x0, .int x1, .int x2, .int x3, .int x4, .int x5, .int x6, .int x7, .retAddr 0, .retAddr 0] [] h Q := by
  refine g3 c_271_61 rfl ?_
  refine g5 c_271_63 rfl ?_
  refine g3 c_271_64 rfl ?_
  exact g80 (As := [.int x5]) (rest := [.int x7]) c_271_66 rfl rfl (Nat.le_of_ble_eq_true rfl) (Nat.le_of_ble_eq_true rfl) t.1 t.2
set_option maxRecDepth 20000 in
theorem t_271_69 {d : Nat} {h : ab_H} {Q : Option Value → ab_H → Prop} {x0 : Nat} {x1 : Int32} {x2 : Int32} {x3 : Int32} {x4 : Int32} {x5 : Int32} {x6 : Int32} {x7 : Int32} {s0 : Int32} {s1 : Int32} (t : if s1 ≤ s0 then (wq (d + 1) 271 149 [.ref x0, .int x1, .int x2, .int x3, .int x4, .int x5, .int x6, .int 0, .retAddr 0, .retAddr 0] [] h Q) else (ab_ok h x0 112 = true ∧ wm d 265 [.ref x0, .int x5, .int x7] h (fun r9 h9 => wq (d + 1) 271 80 [.ref x0, .int x1, .int x2, .int x3, .int x4, .int x5, .int x6, .int x7, .retAddr 0, .retAddr 0] (r9.toList ++ []) h9 Q))) : wq (d + 1) 271 69 [.ref x0, .int x1, .int x2, .int x3, .int x4, .int x5, .int x6, .int x7, .retAddr 0, .retAddr 0] [.int s1, .int s0] h Q := by
  refine gcm c_271_69 (gbr t rfl rfl (fun hc t => ?_) (fun hc t => ?_))
  · refine g1 c_271_146 k_0 ?_
    refine g6 (L' := [.ref x0, .int x1, .int x2, .int x3, .int x4, .int x5, .int x6, .int 0, .retAddr 0, .retAddr 0]) c_271_147 rfl ?_
    exact t
  · refine g5 c_271_72 rfl ?_
    refine g3 c_271_73 rfl ?_
    refine g3 c_271_75 rfl ?_
    exact g80 (As := [.int x5, .int x7]) (rest := []) c_271_77 rfl rfl (Nat.le_of_ble_eq_true rfl) (Nat.le_of_ble_eq_true rfl) t.1 t.2
set_option maxRecDepth 20000 in
theorem t_271_80 {d : Nat} {h : ab_H} {Q : Option Value → ab_H → Prop} {x0 : Nat} {x1 : Int32} {x2 : Int32} {x3 : Int32} {x4 : Int32} {x5 : Int32} {x6 : Int32} {x7 : Int32} {s0 : Int32} (t : ab_ok h x0 112 = true ∧ ∃ j1 : Nat, ab_r h x0 0 = some j1 ∧ ((j1 = 0 ∨ ab_ok h j1 0 = true) ∧ ab_in s0 (ab_s h j1).2 = true) ∧ if (ab_i h j1 (Int32.toNatClampNeg s0)) = 1 then (ab_ok h x0 112 = true ∧ wm d 269 [.ref x0, .int x5, .int s0, .int 0, .int x1] h (fun r9 h9 => wq (d + 1) 271 103 [.ref x0, .int x1, .int x2, .int x3, .int x4, .int x5, .int x6, .int x7, .int s0, .retAddr 0] (r9.toList ++ []) h9 Q)) else (ab_ok h x0 112 = true ∧ ∃ j2 : Nat, ab_r h x0 0 = some j2 ∧ ((j2 = 0 ∨ ab_ok h j2 0 = true) ∧ ab_in s0 (ab_s h j2).2 = true) ∧ if (ab_i h j2 (Int32.toNatClampNeg s0)) = 6 then (ab_ok h x0 112 = true ∧ ∃ j3 : Nat, ab_r h x0 0 = some j3 ∧ ((j3 = 0 ∨ ab_ok h j3 0 = true) ∧ ab_in (s0 + 1) (ab_s h j3).2 = true) ∧ if (ab_i h j3 (Int32.toNatClampNeg (s0 + 1))) ≤ x6 then (wq (d + 1) 271 61 [.ref x0, .int x1, .int x2, .int x3, .int x4, .int x5, .int x6, .int (x7 + 1), .int s0, .retAddr 0] [] h Q) else (ab_ok h x0 112 = true ∧ ∃ j4 : Nat, ab_r h x0 0 = some j4 ∧ ((j4 = 0 ∨ ab_ok h j4 0 = true) ∧ ab_in (s0 + 1) (ab_s h j4).2 = true) ∧ wq (d + 1) 271 61 [.ref x0, .int x1, .int x2, .int x3, .int x4, .int x5, .int (ab_i h j4 (Int32.toNatClampNeg (s0 + 1))), .int (x7 + 1), .int s0, .retAddr 0] [] h Q)) else (wq (d + 1) 271 61 [.ref x0, .int x1, .int x2, .int x3, .int x4, .int x5, .int x6, .int (x7 + 1), .int s0, .retAddr 0] [] h Q))) : wq (d + 1) 271 80 [.ref x0, .int x1, .int x2, .int x3, .int x4, .int x5, .int x6, .int x7, .retAddr 0, .retAddr 0] [.int s0] h Q := by
  refine g6 (L' := [.ref x0, .int x1, .int x2, .int x3, .int x4, .int x5, .int x6, .int x7, .int s0, .retAddr 0]) c_271_80 rfl ?_
  refine g5 c_271_82 rfl ?_
  obtain ⟨ho, j1, hr, t⟩ := t
  refine g45 c_271_83 ho hr ?_
  refine g3 c_271_86 rfl ?_
  obtain ⟨ho, t⟩ := t
  refine g50 c_271_88 ho ?_
  refine g1 c_271_89 k_1 ?_
  refine gcm c_271_90 (gbn t (ab_c1 _ _) rfl (fun hc t => ?_) (fun hc t => ?_))
  · refine g5 c_271_93 rfl ?_
    refine g3 c_271_94 rfl ?_
    refine g3 c_271_96 rfl ?_
    refine g1 c_271_98 k_0 ?_
    refine g3 c_271_99 rfl ?_
    exact g80 (As := [.int x5, .int s0, .int 0, .int x1]) (rest := []) c_271_100 rfl rfl (Nat.le_of_ble_eq_true rfl) (Nat.le_of_ble_eq_true rfl) t.1 t.2
  · refine g5 c_271_103 rfl ?_
    obtain ⟨ho, j2, hr, t⟩ := t
    refine g45 c_271_104 ho hr ?_
    refine g3 c_271_107 rfl ?_
    obtain ⟨ho, t⟩ := t
    refine g50 c_271_109 ho ?_
    refine g1 c_271_110 k_6 ?_
    refine gcm c_271_112 (gbn t (ab_c1 _ _) rfl (fun hc t => ?_) (fun hc t => ?_))
    · refine g5 c_271_115 rfl ?_
      obtain ⟨ho, j3, hr, t⟩ := t
      refine g45 c_271_116 ho hr ?_
      refine g3 c_271_119 rfl ?_
      refine g1 c_271_121 k_1 ?_
      refine g10 c_271_122 ?_
      obtain ⟨ho, t⟩ := t
      refine g50 c_271_123 ho ?_
      refine g3 c_271_124 rfl ?_
      refine gcm c_271_126 (gbr t rfl rfl (fun hc t => ?_) (fun hc t => ?_))
      · refine g9 (L' := [.ref x0, .int x1, .int x2, .int x3, .int x4, .int x5, .int x6, .int (x7 + 1), .int s0, .retAddr 0]) c_271_140 rfl k_1 rfl ?_
        refine g38 c_271_143 rfl ?_
        exact t
      · refine g5 c_271_129 rfl ?_
        obtain ⟨ho, j4, hr, t⟩ := t
        refine g45 c_271_130 ho hr ?_
        refine g3 c_271_133 rfl ?_
        refine g1 c_271_135 k_1 ?_
        refine g10 c_271_136 ?_
        obtain ⟨ho, t⟩ := t
        refine g50 c_271_137 ho ?_
        refine g6 (L' := [.ref x0, .int x1, .int x2, .int x3, .int x4, .int x5, .int (ab_i h j4 (Int32.toNatClampNeg (s0 + 1))), .int x7, .int s0, .retAddr 0]) c_271_138 rfl ?_
        refine g9 (L' := [.ref x0, .int x1, .int x2, .int x3, .int x4, .int x5, .int (ab_i h j4 (Int32.toNatClampNeg (s0 + 1))), .int (x7 + 1), .int s0, .retAddr 0]) c_271_140 rfl k_1 rfl ?_
        refine g38 c_271_143 rfl ?_
        exact t
    · refine g9 (L' := [.ref x0, .int x1, .int x2, .int x3, .int x4, .int x5, .int x6, .int (x7 + 1), .int s0, .retAddr 0]) c_271_140 rfl k_1 rfl ?_
      refine g38 c_271_143 rfl ?_
      exact t
set_option maxRecDepth 20000 in
theorem t_271_103 {d : Nat} {h : ab_H} {Q : Option Value → ab_H → Prop} {x0 : Nat} {x1 : Int32} {x2 : Int32} {x3 : Int32} {x4 : Int32} {x5 : Int32} {x6 : Int32} {x7 : Int32} {x8 : Int32} (t : ab_ok h x0 112 = true ∧ ∃ j1 : Nat, ab_r h x0 0 = some j1 ∧ ((j1 = 0 ∨ ab_ok h j1 0 = true) ∧ ab_in x8 (ab_s h j1).2 = true) ∧ if (ab_i h j1 (Int32.toNatClampNeg x8)) = 6 then (ab_ok h x0 112 = true ∧ ∃ j2 : Nat, ab_r h x0 0 = some j2 ∧ ((j2 = 0 ∨ ab_ok h j2 0 = true) ∧ ab_in (x8 + 1) (ab_s h j2).2 = true) ∧ if (ab_i h j2 (Int32.toNatClampNeg (x8 + 1))) ≤ x6 then (wq d 271 61 [.ref x0, .int x1, .int x2, .int x3, .int x4, .int x5, .int x6, .int (x7 + 1), .int x8, .retAddr 0] [] h Q) else (ab_ok h x0 112 = true ∧ ∃ j3 : Nat, ab_r h x0 0 = some j3 ∧ ((j3 = 0 ∨ ab_ok h j3 0 = true) ∧ ab_in (x8 + 1) (ab_s h j3).2 = true) ∧ wq d 271 61 [.ref x0, .int x1, .int x2, .int x3, .int x4, .int x5, .int (ab_i h j3 (Int32.toNatClampNeg (x8 + 1))), .int (x7 + 1), .int x8, .retAddr 0] [] h Q)) else (wq d 271 61 [.ref x0, .int x1, .int x2, .int x3, .int x4, .int x5, .int x6, .int (x7 + 1), .int x8, .retAddr 0] [] h Q)) : wq d 271 103 [.ref x0, .int x1, .int x2, .int x3, .int x4, .int x5, .int x6, .int x7, .int x8, .retAddr 0] [] h Q := by
  refine g5 c_271_103 rfl ?_
  obtain ⟨ho, j1, hr, t⟩ := t
  refine g45 c_271_104 ho hr ?_
  refine g3 c_271_107 rfl ?_
  obtain ⟨ho, t⟩ := t
  refine g50 c_271_109 ho ?_
  refine g1 c_271_110 k_6 ?_
  refine gcm c_271_112 (gbn t (ab_c1 _ _) rfl (fun hc t => ?_) (fun hc t => ?_))
  · refine g5 c_271_115 rfl ?_
    obtain ⟨ho, j2, hr, t⟩ := t
    refine g45 c_271_116 ho hr ?_
    refine g3 c_271_119 rfl ?_
    refine g1 c_271_121 k_1 ?_
    refine g10 c_271_122 ?_
    obtain ⟨ho, t⟩ := t
    refine g50 c_271_123 ho ?_
    refine g3 c_271_124 rfl ?_
    refine gcm c_271_126 (gbr t rfl rfl (fun hc t => ?_) (fun hc t => ?_))
    · refine g9 (L' := [.ref x0, .int x1, .int x2, .int x3, .int x4, .int x5, .int x6, .int (x7 + 1), .int x8, .retAddr 0]) c_271_140 rfl k_1 rfl ?_
      refine g38 c_271_143 rfl ?_
      exact t
    · refine g5 c_271_129 rfl ?_
      obtain ⟨ho, j3, hr, t⟩ := t
      refine g45 c_271_130 ho hr ?_
      refine g3 c_271_133 rfl ?_
      refine g1 c_271_135 k_1 ?_
      refine g10 c_271_136 ?_
      obtain ⟨ho, t⟩ := t
      refine g50 c_271_137 ho ?_
      refine g6 (L' := [.ref x0, .int x1, .int x2, .int x3, .int x4, .int x5, .int (ab_i h j3 (Int32.toNatClampNeg (x8 + 1))), .int x7, .int x8, .retAddr 0]) c_271_138 rfl ?_
      refine g9 (L' := [.ref x0, .int x1, .int x2, .int x3, .int x4, .int x5, .int (ab_i h j3 (Int32.toNatClampNeg (x8 + 1))), .int (x7 + 1), .int x8, .retAddr 0]) c_271_140 rfl k_1 rfl ?_
      refine g38 c_271_143 rfl ?_
      exact t
  · refine g9 (L' := [.ref x0, .int x1, .int x2, .int x3, .int x4, .int x5, .int x6, .int (x7 + 1), .int x8, .retAddr 0]) c_271_140 rfl k_1 rfl ?_
    refine g38 c_271_143 rfl ?_
    exact t
set_option maxRecDepth 20000 in
theorem t_271_149 {d : Nat} {h : ab_H} {Q : Option Value → ab_H → Prop} {x0 : Nat} {x1 : Int32} {x2 : Int32} {x3 : Int32} {x4 : Int32} {x5 : Int32} {x6 : Int32} {x7 : Int32} (t : ab_ok h x0 112 = true ∧ wm d 266 [.ref x0, .int x5] h (fun r9 h9 => wq (d + 1) 271 157 [.ref x0, .int x1, .int x2, .int x3, .int x4, .int x5, .int x6, .int x7, .retAddr 0, .retAddr 0] (r9.toList ++ [.int x7]) h9 Q)) : wq (d + 1) 271 149 [.ref x0, .int x1, .int x2, .int x3, .int x4, .int x5, .int x6, .int x7, .retAddr 0, .retAddr 0] [] h Q := by
  refine g3 c_271_149 rfl ?_
  refine g5 c_271_151 rfl ?_
  refine g3 c_271_152 rfl ?_
  exact g80 (As := [.int x5]) (rest := [.int x7]) c_271_154 rfl rfl (Nat.le_of_ble_eq_true rfl) (Nat.le_of_ble_eq_true rfl) t.1 t.2
set_option maxRecDepth 20000 in
theorem t_271_157 {d : Nat} {h : ab_H} {Q : Option Value → ab_H → Prop} {x0 : Nat} {x1 : Int32} {x2 : Int32} {x3 : Int32} {x4 : Int32} {x5 : Int32} {x6 : Int32} {x7 : Int32} {s0 : Int32} {s1 : Int32} (t : if s1 ≤ s0 then (ab_ok h x0 112 = true ∧ if (lg_cmp (ab_l h x0 28) 0) = 0 then (ab_ok h x0 112 = true ∧ ∀ h1 : ab_H, h1 = ab_pi h x0 25 0 → Q (some (.int 0)) h1) else (ab_ok h x0 112 = true ∧ ab_ok h x0 112 = true ∧ ¬ (ab_l h x0 28 : Int64) = 0 ∧ if 0 ≤ (lg_cmp ((ab_l h x0 27) / (ab_l h x0 28)) (Int32.toInt64 x6)) then (if (lg_cmp ((ab_l h x0 27) / (ab_l h x0 28)) 100000) ≤ 0 then (Q (some (.int (Int64.toInt32 ((ab_l h x0 27) / (ab_l h x0 28))))) h) else (Q (some (.int 100000)) h)) else (if (lg_cmp (Int32.toInt64 x6) 100000) ≤ 0 then (Q (some (.int (Int64.toInt32 (Int32.toInt64 x6)))) h) else (Q (some (.int 100000)) h)))) else (ab_ok h x0 112 = true ∧ wm d 265 [.ref x0, .int x5, .int x7] h (fun r9 h9 => wq (d + 1) 271 168 [.ref x0, .int x1, .int x2, .int x3, .int x4, .int x5, .int x6, .int x7, .retAddr 0, .retAddr 0] (r9.toList ++ []) h9 Q))) : wq (d + 1) 271 157 [.ref x0, .int x1, .int x2, .int x3, .int x4, .int x5, .int x6, .int x7, .retAddr 0, .retAddr 0] [.int s1, .int s0] h Q := by
  refine gcm c_271_157 (gbr t rfl rfl (fun hc t => ?_) (fun hc t => ?_))
  · refine g5 c_271_287 rfl ?_
    obtain ⟨ho, t⟩ := t
    refine g44 c_271_288 ho ?_
    refine g2 c_271_291 kl_0 ?_
    refine g28 c_271_292 ?_
    refine gif c_271_293 (gbn t (ab_c1 _ _) rfl (fun hc t => ?_) (fun hc t => ?_))
    · refine g5 c_271_296 rfl ?_
      refine g1 c_271_297 k_0 ?_
      obtain ⟨ho, t⟩ := t
      refine g46 c_271_298 ho (fun h1 eh1 => ?_)
      have t := t h1 eh1
      refine g1 c_271_301 k_0 ?_
      exact g90 c_271_302 t
    · refine g5 c_271_303 rfl ?_
      obtain ⟨ho, t⟩ := t
      refine g44 c_271_304 ho ?_
      refine g5 c_271_307 rfl ?_
      obtain ⟨ho, t⟩ := t
      refine g44 c_271_308 ho ?_
      obtain ⟨hy, t⟩ := t
      refine g26 c_271_311 hy ?_
      refine g7 (L' := [.ref x0, .int x1, .int x2, .int x3, .int x4, .int x5, .int x6, .long ((ab_l h x0 27) / (ab_l h x0 28)), .retAddr 0, .retAddr 0]) c_271_312 rfl ?_
      refine g4 c_271_314 rfl ?_
      refine g3 c_271_316 rfl ?_
      refine g31 c_271_318 ?_
      refine g28 c_271_319 ?_
      refine gif c_271_320 (gbr t rfl rfl (fun hc t => ?_) (fun hc t => ?_))
      · refine g4 c_271_328 rfl ?_
        refine g2 c_271_330 kl_100000 ?_
        refine g28 c_271_333 ?_
        refine gif c_271_334 (gbr t rfl rfl (fun hc t => ?_) (fun hc t => ?_))
        · refine g4 c_271_342 rfl ?_
          refine g30 c_271_344 ?_
          exact g90 c_271_345 t
        · refine g1 c_271_337 k_100000 ?_
          refine g38 c_271_339 rfl ?_
          exact g90 c_271_345 t
      · refine g3 c_271_323 rfl ?_
        refine g31 c_271_325 ?_
        refine g7 (L' := [.ref x0, .int x1, .int x2, .int x3, .int x4, .int x5, .int x6, .long (Int32.toInt64 x6), .retAddr 0, .retAddr 0]) c_271_326 rfl ?_
        refine g4 c_271_328 rfl ?_
        refine g2 c_271_330 kl_100000 ?_
        refine g28 c_271_333 ?_
        refine gif c_271_334 (gbr t rfl rfl (fun hc t => ?_) (fun hc t => ?_))
        · refine g4 c_271_342 rfl ?_
          refine g30 c_271_344 ?_
          exact g90 c_271_345 t
        · refine g1 c_271_337 k_100000 ?_
          refine g38 c_271_339 rfl ?_
          exact g90 c_271_345 t
  · refine g5 c_271_160 rfl ?_
    refine g3 c_271_161 rfl ?_
    refine g3 c_271_163 rfl ?_
    exact g80 (As := [.int x5, .int x7]) (rest := []) c_271_165 rfl rfl (Nat.le_of_ble_eq_true rfl) (Nat.le_of_ble_eq_true rfl) t.1 t.2
set_option maxRecDepth 20000 in
theorem t_271_168 {d : Nat} {h : ab_H} {Q : Option Value → ab_H → Prop} {x0 : Nat} {x1 : Int32} {x2 : Int32} {x3 : Int32} {x4 : Int32} {x5 : Int32} {x6 : Int32} {x7 : Int32} {s0 : Int32} (t : ab_ok h x0 112 = true ∧ ∃ j1 : Nat, ab_r h x0 0 = some j1 ∧ ((j1 = 0 ∨ ab_ok h j1 0 = true) ∧ ab_in s0 (ab_s h j1).2 = true) ∧ if (ab_i h j1 (Int32.toNatClampNeg s0)) = 1 then (if (0 : Int32) = 0 then (if (0 : Int32) = 0 then (ab_ok h x0 112 = true ∧ ∃ j2 : Nat, ab_r h x0 0 = some j2 ∧ ((j2 = 0 ∨ ab_ok h j2 0 = true) ∧ ab_in s0 (ab_s h j2).2 = true) ∧ if (ab_i h j2 (Int32.toNatClampNeg s0)) = 1 then (ab_ok h x0 112 = true ∧ ∃ j3 : Nat, ab_r h x0 26 = some j3 ∧ ab_ok h x0 112 = true ∧ (ab_ok h j3 0 = true ∧ ab_in (ab_i h x0 25) (ab_s h j3).2 = true) ∧ ∀ h4 : ab_H, h4 = ab_pi h j3 (Int32.toNatClampNeg (ab_i h x0 25)) x7 → ab_ok h4 x0 112 = true ∧ ab_ok h4 x0 112 = true ∧ ∀ h5 : ab_H, h5 = ab_pi h4 x0 25 ((ab_i h4 x0 25) + 1) → wq (d + 1) 271 149 [.ref x0, .int x1, .int x2, .int x3, .int x4, .int x5, .int x6, .int (x7 + 1), .int s0, .int 0] [] h5 Q) else (wq (d + 1) 271 149 [.ref x0, .int x1, .int x2, .int x3, .int x4, .int x5, .int x6, .int (x7 + 1), .int s0, .int 0] [] h Q)) else (ab_ok h x0 112 = true ∧ ∃ j6 : Nat, ab_r h x0 26 = some j6 ∧ ab_ok h x0 112 = true ∧ (ab_ok h j6 0 = true ∧ ab_in (ab_i h x0 25) (ab_s h j6).2 = true) ∧ ∀ h7 : ab_H, h7 = ab_pi h j6 (Int32.toNatClampNeg (ab_i h x0 25)) x7 → ab_ok h7 x0 112 = true ∧ ab_ok h7 x0 112 = true ∧ ∀ h8 : ab_H, h8 = ab_pi h7 x0 25 ((ab_i h7 x0 25) + 1) → wq (d + 1) 271 149 [.ref x0, .int x1, .int x2, .int x3, .int x4, .int x5, .int x6, .int (x7 + 1), .int s0, .int 0] [] h8 Q)) else (ab_ok h x0 112 = true ∧ ∃ j9 : Nat, ab_r h x0 0 = some j9 ∧ ((j9 = 0 ∨ ab_ok h j9 0 = true) ∧ ab_in s0 (ab_s h j9).2 = true) ∧ if (ab_i h j9 (Int32.toNatClampNeg s0)) = 3 then (ab_ok h x0 112 = true ∧ wm d 269 [.ref x0, .int x5, .int s0, .int 1, .int x1] h (fun r9 h9 => wq (d + 1) 271 241 [.ref x0, .int x1, .int x2, .int x3, .int x4, .int x5, .int x6, .int x7, .int s0, .int 0] (r9.toList ++ []) h9 Q)) else (ab_ok h x0 112 = true ∧ ∃ j10 : Nat, ab_r h x0 0 = some j10 ∧ ((j10 = 0 ∨ ab_ok h j10 0 = true) ∧ ab_in s0 (ab_s h j10).2 = true) ∧ if (ab_i h j10 (Int32.toNatClampNeg s0)) = 5 then (ab_ok h x0 112 = true ∧ wm d 269 [.ref x0, .int x5, .int s0, .int 1, .int x1] h (fun r9 h9 => wq (d + 1) 271 241 [.ref x0, .int x1, .int x2, .int x3, .int x4, .int x5, .int x6, .int x7, .int s0, .int 0] (r9.toList ++ []) h9 Q)) else (ab_ok h x0 112 = true ∧ wm d 269 [.ref x0, .int x5, .int s0, .int 0, .int x1] h (fun r9 h9 => wq (d + 1) 271 241 [.ref x0, .int x1, .int x2, .int x3, .int x4, .int x5, .int x6, .int x7, .int s0, .int 0] (r9.toList ++ []) h9 Q))))) else (ab_ok h x0 112 = true ∧ wm d 270 [.ref x0, .int x5, .int s0, .int x1] h (fun r9 h9 => wq (d + 1) 271 190 [.ref x0, .int x1, .int x2, .int x3, .int x4, .int x5, .int x6, .int x7, .int s0, .retAddr 0] (r9.toList ++ []) h9 Q))) : wq (d + 1) 271 168 [.ref x0, .int x1, .int x2, .int x3, .int x4, .int x5, .int x6, .int x7, .retAddr 0, .retAddr 0] [.int s0] h Q := by
  refine g6 (L' := [.ref x0, .int x1, .int x2, .int x3, .int x4, .int x5, .int x6, .int x7, .int s0, .retAddr 0]) c_271_168 rfl ?_
  refine g5 c_271_170 rfl ?_
  obtain ⟨ho, j1, hr, t⟩ := t
  refine g45 c_271_171 ho hr ?_
  refine g3 c_271_174 rfl ?_
  obtain ⟨ho, t⟩ := t
  refine g50 c_271_176 ho ?_
  refine g1 c_271_177 k_1 ?_
  refine gcm c_271_178 (gbr t rfl rfl (fun hc t => ?_) (fun hc t => ?_))
  · refine g1 c_271_197 k_0 ?_
    refine g6 (L' := [.ref x0, .int x1, .int x2, .int x3, .int x4, .int x5, .int x6, .int x7, .int s0, .int 0]) c_271_198 rfl ?_
    refine g3 c_271_200 rfl ?_
    refine gif c_271_202 (gbr t rfl rfl (fun hc t => ?_) (fun hc t => ?_))
    · refine g3 c_271_241 rfl ?_
      refine gif c_271_243 (gbn t (ab_c1 _ _) rfl (fun hc t => ?_) (fun hc t => ?_))
      · refine g5 c_271_246 rfl ?_
        obtain ⟨ho, j2, hr, t⟩ := t
        refine g45 c_271_247 ho hr ?_
        refine g3 c_271_250 rfl ?_
        obtain ⟨ho, t⟩ := t
        refine g50 c_271_252 ho ?_
        refine g1 c_271_253 k_1 ?_
        refine gcm c_271_254 (gbr t rfl rfl (fun hc t => ?_) (fun hc t => ?_))
        · refine g5 c_271_260 rfl ?_
          obtain ⟨ho, j3, hr, t⟩ := t
          refine g45 c_271_261 ho hr ?_
          refine g5 c_271_264 rfl ?_
          obtain ⟨ho, t⟩ := t
          refine g43 c_271_265 ho ?_
          refine g3 c_271_268 rfl ?_
          obtain ⟨ho, t⟩ := t
          refine g54 c_271_270 ho (fun h4 eh4 => ?_)
          have t := t h4 eh4
          refine g5 c_271_271 rfl ?_
          refine g33a c_271_272 ?_
          obtain ⟨ho, t⟩ := t
          refine g43 c_271_273 ho ?_
          refine g1 c_271_276 k_1 ?_
          refine g10 c_271_277 ?_
          obtain ⟨ho, t⟩ := t
          refine g46 c_271_278 ho (fun h5 eh5 => ?_)
          have t := t h5 eh5
          refine g9 (L' := [.ref x0, .int x1, .int x2, .int x3, .int x4, .int x5, .int x6, .int (x7 + 1), .int s0, .int 0]) c_271_281 rfl k_1 rfl ?_
          refine g38 c_271_284 rfl ?_
          exact t
        · refine g38 c_271_257 rfl ?_
          refine g9 (L' := [.ref x0, .int x1, .int x2, .int x3, .int x4, .int x5, .int x6, .int (x7 + 1), .int s0, .int 0]) c_271_281 rfl k_1 rfl ?_
          refine g38 c_271_284 rfl ?_
          exact t
      · refine g5 c_271_260 rfl ?_
        obtain ⟨ho, j6, hr, t⟩ := t
        refine g45 c_271_261 ho hr ?_
        refine g5 c_271_264 rfl ?_
        obtain ⟨ho, t⟩ := t
        refine g43 c_271_265 ho ?_
        refine g3 c_271_268 rfl ?_
        obtain ⟨ho, t⟩ := t
        refine g54 c_271_270 ho (fun h7 eh7 => ?_)
        have t := t h7 eh7
        refine g5 c_271_271 rfl ?_
        refine g33a c_271_272 ?_
        obtain ⟨ho, t⟩ := t
        refine g43 c_271_273 ho ?_
        refine g1 c_271_276 k_1 ?_
        refine g10 c_271_277 ?_
        obtain ⟨ho, t⟩ := t
        refine g46 c_271_278 ho (fun h8 eh8 => ?_)
        have t := t h8 eh8
        refine g9 (L' := [.ref x0, .int x1, .int x2, .int x3, .int x4, .int x5, .int x6, .int (x7 + 1), .int s0, .int 0]) c_271_281 rfl k_1 rfl ?_
        refine g38 c_271_284 rfl ?_
        exact t
    · refine g5 c_271_205 rfl ?_
      refine g3 c_271_206 rfl ?_
      refine g3 c_271_208 rfl ?_
      refine g5 c_271_210 rfl ?_
      obtain ⟨ho, j9, hr, t⟩ := t
      refine g45 c_271_211 ho hr ?_
      refine g3 c_271_214 rfl ?_
      obtain ⟨ho, t⟩ := t
      refine g50 c_271_216 ho ?_
      refine g1 c_271_217 k_3 ?_
      refine gcm c_271_218 (gbr t rfl rfl (fun hc t => ?_) (fun hc t => ?_))
      · refine g1 c_271_232 k_1 ?_
        refine g38 c_271_233 rfl ?_
        refine g3 c_271_237 rfl ?_
        exact g80 (As := [.int x5, .int s0, .int 1, .int x1]) (rest := []) c_271_238 rfl rfl (Nat.le_of_ble_eq_true rfl) (Nat.le_of_ble_eq_true rfl) t.1 t.2
      · refine g5 c_271_221 rfl ?_
        obtain ⟨ho, j10, hr, t⟩ := t
        refine g45 c_271_222 ho hr ?_
        refine g3 c_271_225 rfl ?_
        obtain ⟨ho, t⟩ := t
        refine g50 c_271_227 ho ?_
        refine g1 c_271_228 k_5 ?_
        refine gcm c_271_229 (gbn t (ab_c1 _ _) rfl (fun hc t => ?_) (fun hc t => ?_))
        · refine g1 c_271_232 k_1 ?_
          refine g38 c_271_233 rfl ?_
          refine g3 c_271_237 rfl ?_
          exact g80 (As := [.int x5, .int s0, .int 1, .int x1]) (rest := []) c_271_238 rfl rfl (Nat.le_of_ble_eq_true rfl) (Nat.le_of_ble_eq_true rfl) t.1 t.2
        · refine g1 c_271_236 k_0 ?_
          refine g3 c_271_237 rfl ?_
          exact g80 (As := [.int x5, .int s0, .int 0, .int x1]) (rest := []) c_271_238 rfl rfl (Nat.le_of_ble_eq_true rfl) (Nat.le_of_ble_eq_true rfl) t.1 t.2
  · refine g5 c_271_181 rfl ?_
    refine g3 c_271_182 rfl ?_
    refine g3 c_271_184 rfl ?_
    refine g3 c_271_186 rfl ?_
    exact g80 (As := [.int x5, .int s0, .int x1]) (rest := []) c_271_187 rfl rfl (Nat.le_of_ble_eq_true rfl) (Nat.le_of_ble_eq_true rfl) t.1 t.2
set_option maxRecDepth 20000 in
theorem t_271_190 {d : Nat} {h : ab_H} {Q : Option Value → ab_H → Prop} {x0 : Nat} {x1 : Int32} {x2 : Int32} {x3 : Int32} {x4 : Int32} {x5 : Int32} {x6 : Int32} {x7 : Int32} {x8 : Int32} {s0 : Int32} (t : if s0 = 0 then (if (0 : Int32) = 0 then (if (0 : Int32) = 0 then (ab_ok h x0 112 = true ∧ ∃ j1 : Nat, ab_r h x0 0 = some j1 ∧ ((j1 = 0 ∨ ab_ok h j1 0 = true) ∧ ab_in x8 (ab_s h j1).2 = true) ∧ if (ab_i h j1 (Int32.toNatClampNeg x8)) = 1 then (ab_ok h x0 112 = true ∧ ∃ j2 : Nat, ab_r h x0 26 = some j2 ∧ ab_ok h x0 112 = true ∧ (ab_ok h j2 0 = true ∧ ab_in (ab_i h x0 25) (ab_s h j2).2 = true) ∧ ∀ h3 : ab_H, h3 = ab_pi h j2 (Int32.toNatClampNeg (ab_i h x0 25)) x7 → ab_ok h3 x0 112 = true ∧ ab_ok h3 x0 112 = true ∧ ∀ h4 : ab_H, h4 = ab_pi h3 x0 25 ((ab_i h3 x0 25) + 1) → wq (d + 1) 271 149 [.ref x0, .int x1, .int x2, .int x3, .int x4, .int x5, .int x6, .int (x7 + 1), .int x8, .int 0] [] h4 Q) else (wq (d + 1) 271 149 [.ref x0, .int x1, .int x2, .int x3, .int x4, .int x5, .int x6, .int (x7 + 1), .int x8, .int 0] [] h Q)) else (ab_ok h x0 112 = true ∧ ∃ j5 : Nat, ab_r h x0 26 = some j5 ∧ ab_ok h x0 112 = true ∧ (ab_ok h j5 0 = true ∧ ab_in (ab_i h x0 25) (ab_s h j5).2 = true) ∧ ∀ h6 : ab_H, h6 = ab_pi h j5 (Int32.toNatClampNeg (ab_i h x0 25)) x7 → ab_ok h6 x0 112 = true ∧ ab_ok h6 x0 112 = true ∧ ∀ h7 : ab_H, h7 = ab_pi h6 x0 25 ((ab_i h6 x0 25) + 1) → wq (d + 1) 271 149 [.ref x0, .int x1, .int x2, .int x3, .int x4, .int x5, .int x6, .int (x7 + 1), .int x8, .int 0] [] h7 Q)) else (ab_ok h x0 112 = true ∧ ∃ j8 : Nat, ab_r h x0 0 = some j8 ∧ ((j8 = 0 ∨ ab_ok h j8 0 = true) ∧ ab_in x8 (ab_s h j8).2 = true) ∧ if (ab_i h j8 (Int32.toNatClampNeg x8)) = 3 then (ab_ok h x0 112 = true ∧ wm d 269 [.ref x0, .int x5, .int x8, .int 1, .int x1] h (fun r9 h9 => wq (d + 1) 271 241 [.ref x0, .int x1, .int x2, .int x3, .int x4, .int x5, .int x6, .int x7, .int x8, .int 0] (r9.toList ++ []) h9 Q)) else (ab_ok h x0 112 = true ∧ ∃ j9 : Nat, ab_r h x0 0 = some j9 ∧ ((j9 = 0 ∨ ab_ok h j9 0 = true) ∧ ab_in x8 (ab_s h j9).2 = true) ∧ if (ab_i h j9 (Int32.toNatClampNeg x8)) = 5 then (ab_ok h x0 112 = true ∧ wm d 269 [.ref x0, .int x5, .int x8, .int 1, .int x1] h (fun r9 h9 => wq (d + 1) 271 241 [.ref x0, .int x1, .int x2, .int x3, .int x4, .int x5, .int x6, .int x7, .int x8, .int 0] (r9.toList ++ []) h9 Q)) else (ab_ok h x0 112 = true ∧ wm d 269 [.ref x0, .int x5, .int x8, .int 0, .int x1] h (fun r9 h9 => wq (d + 1) 271 241 [.ref x0, .int x1, .int x2, .int x3, .int x4, .int x5, .int x6, .int x7, .int x8, .int 0] (r9.toList ++ []) h9 Q))))) else (if (1 : Int32) = 0 then (if (1 : Int32) = 0 then (ab_ok h x0 112 = true ∧ ∃ j10 : Nat, ab_r h x0 0 = some j10 ∧ ((j10 = 0 ∨ ab_ok h j10 0 = true) ∧ ab_in x8 (ab_s h j10).2 = true) ∧ if (ab_i h j10 (Int32.toNatClampNeg x8)) = 1 then (ab_ok h x0 112 = true ∧ ∃ j11 : Nat, ab_r h x0 26 = some j11 ∧ ab_ok h x0 112 = true ∧ (ab_ok h j11 0 = true ∧ ab_in (ab_i h x0 25) (ab_s h j11).2 = true) ∧ ∀ h12 : ab_H, h12 = ab_pi h j11 (Int32.toNatClampNeg (ab_i h x0 25)) x7 → ab_ok h12 x0 112 = true ∧ ab_ok h12 x0 112 = true ∧ ∀ h13 : ab_H, h13 = ab_pi h12 x0 25 ((ab_i h12 x0 25) + 1) → wq (d + 1) 271 149 [.ref x0, .int x1, .int x2, .int x3, .int x4, .int x5, .int x6, .int (x7 + 1), .int x8, .int 1] [] h13 Q) else (wq (d + 1) 271 149 [.ref x0, .int x1, .int x2, .int x3, .int x4, .int x5, .int x6, .int (x7 + 1), .int x8, .int 1] [] h Q)) else (ab_ok h x0 112 = true ∧ ∃ j14 : Nat, ab_r h x0 26 = some j14 ∧ ab_ok h x0 112 = true ∧ (ab_ok h j14 0 = true ∧ ab_in (ab_i h x0 25) (ab_s h j14).2 = true) ∧ ∀ h15 : ab_H, h15 = ab_pi h j14 (Int32.toNatClampNeg (ab_i h x0 25)) x7 → ab_ok h15 x0 112 = true ∧ ab_ok h15 x0 112 = true ∧ ∀ h16 : ab_H, h16 = ab_pi h15 x0 25 ((ab_i h15 x0 25) + 1) → wq (d + 1) 271 149 [.ref x0, .int x1, .int x2, .int x3, .int x4, .int x5, .int x6, .int (x7 + 1), .int x8, .int 1] [] h16 Q)) else (ab_ok h x0 112 = true ∧ ∃ j17 : Nat, ab_r h x0 0 = some j17 ∧ ((j17 = 0 ∨ ab_ok h j17 0 = true) ∧ ab_in x8 (ab_s h j17).2 = true) ∧ if (ab_i h j17 (Int32.toNatClampNeg x8)) = 3 then (ab_ok h x0 112 = true ∧ wm d 269 [.ref x0, .int x5, .int x8, .int 1, .int x1] h (fun r9 h9 => wq (d + 1) 271 241 [.ref x0, .int x1, .int x2, .int x3, .int x4, .int x5, .int x6, .int x7, .int x8, .int 1] (r9.toList ++ []) h9 Q)) else (ab_ok h x0 112 = true ∧ ∃ j18 : Nat, ab_r h x0 0 = some j18 ∧ ((j18 = 0 ∨ ab_ok h j18 0 = true) ∧ ab_in x8 (ab_s h j18).2 = true) ∧ if (ab_i h j18 (Int32.toNatClampNeg x8)) = 5 then (ab_ok h x0 112 = true ∧ wm d 269 [.ref x0, .int x5, .int x8, .int 1, .int x1] h (fun r9 h9 => wq (d + 1) 271 241 [.ref x0, .int x1, .int x2, .int x3, .int x4, .int x5, .int x6, .int x7, .int x8, .int 1] (r9.toList ++ []) h9 Q)) else (ab_ok h x0 112 = true ∧ wm d 269 [.ref x0, .int x5, .int x8, .int 0, .int x1] h (fun r9 h9 => wq (d + 1) 271 241 [.ref x0, .int x1, .int x2, .int x3, .int x4, .int x5, .int x6, .int x7, .int x8, .int 1] (r9.toList ++ []) h9 Q)))))) : wq (d + 1) 271 190 [.ref x0, .int x1, .int x2, .int x3, .int x4, .int x5, .int x6, .int x7, .int x8, .retAddr 0] [.int s0] h Q := by
  refine gif c_271_190 (gbr t rfl rfl (fun hc t => ?_) (fun hc t => ?_))
  · refine g1 c_271_197 k_0 ?_
    refine g6 (L' := [.ref x0, .int x1, .int x2, .int x3, .int x4, .int x5, .int x6, .int x7, .int x8, .int 0]) c_271_198 rfl ?_
    refine g3 c_271_200 rfl ?_
    refine gif c_271_202 (gbr t rfl rfl (fun hc t => ?_) (fun hc t => ?_))
    · refine g3 c_271_241 rfl ?_
      refine gif c_271_243 (gbn t (ab_c1 _ _) rfl (fun hc t => ?_) (fun hc t => ?_))
      · refine g5 c_271_246 rfl ?_
        obtain ⟨ho, j1, hr, t⟩ := t
        refine g45 c_271_247 ho hr ?_
        refine g3 c_271_250 rfl ?_
        obtain ⟨ho, t⟩ := t
        refine g50 c_271_252 ho ?_
        refine g1 c_271_253 k_1 ?_
        refine gcm c_271_254 (gbr t rfl rfl (fun hc t => ?_) (fun hc t => ?_))
        · refine g5 c_271_260 rfl ?_
          obtain ⟨ho, j2, hr, t⟩ := t
          refine g45 c_271_261 ho hr ?_
          refine g5 c_271_264 rfl ?_
          obtain ⟨ho, t⟩ := t
          refine g43 c_271_265 ho ?_
          refine g3 c_271_268 rfl ?_
          obtain ⟨ho, t⟩ := t
          refine g54 c_271_270 ho (fun h3 eh3 => ?_)
          have t := t h3 eh3
          refine g5 c_271_271 rfl ?_
          refine g33a c_271_272 ?_
          obtain ⟨ho, t⟩ := t
          refine g43 c_271_273 ho ?_
          refine g1 c_271_276 k_1 ?_
          refine g10 c_271_277 ?_
          obtain ⟨ho, t⟩ := t
          refine g46 c_271_278 ho (fun h4 eh4 => ?_)
          have t := t h4 eh4
          refine g9 (L' := [.ref x0, .int x1, .int x2, .int x3, .int x4, .int x5, .int x6, .int (x7 + 1), .int x8, .int 0]) c_271_281 rfl k_1 rfl ?_
          refine g38 c_271_284 rfl ?_
          exact t
        · refine g38 c_271_257 rfl ?_
          refine g9 (L' := [.ref x0, .int x1, .int x2, .int x3, .int x4, .int x5, .int x6, .int (x7 + 1), .int x8, .int 0]) c_271_281 rfl k_1 rfl ?_
          refine g38 c_271_284 rfl ?_
          exact t
      · refine g5 c_271_260 rfl ?_
        obtain ⟨ho, j5, hr, t⟩ := t
        refine g45 c_271_261 ho hr ?_
        refine g5 c_271_264 rfl ?_
        obtain ⟨ho, t⟩ := t
        refine g43 c_271_265 ho ?_
        refine g3 c_271_268 rfl ?_
        obtain ⟨ho, t⟩ := t
        refine g54 c_271_270 ho (fun h6 eh6 => ?_)
        have t := t h6 eh6
        refine g5 c_271_271 rfl ?_
        refine g33a c_271_272 ?_
        obtain ⟨ho, t⟩ := t
        refine g43 c_271_273 ho ?_
        refine g1 c_271_276 k_1 ?_
        refine g10 c_271_277 ?_
        obtain ⟨ho, t⟩ := t
        refine g46 c_271_278 ho (fun h7 eh7 => ?_)
        have t := t h7 eh7
        refine g9 (L' := [.ref x0, .int x1, .int x2, .int x3, .int x4, .int x5, .int x6, .int (x7 + 1), .int x8, .int 0]) c_271_281 rfl k_1 rfl ?_
        refine g38 c_271_284 rfl ?_
        exact t
    · refine g5 c_271_205 rfl ?_
      refine g3 c_271_206 rfl ?_
      refine g3 c_271_208 rfl ?_
      refine g5 c_271_210 rfl ?_
      obtain ⟨ho, j8, hr, t⟩ := t
      refine g45 c_271_211 ho hr ?_
      refine g3 c_271_214 rfl ?_
      obtain ⟨ho, t⟩ := t
      refine g50 c_271_216 ho ?_
      refine g1 c_271_217 k_3 ?_
      refine gcm c_271_218 (gbr t rfl rfl (fun hc t => ?_) (fun hc t => ?_))
      · refine g1 c_271_232 k_1 ?_
        refine g38 c_271_233 rfl ?_
        refine g3 c_271_237 rfl ?_
        exact g80 (As := [.int x5, .int x8, .int 1, .int x1]) (rest := []) c_271_238 rfl rfl (Nat.le_of_ble_eq_true rfl) (Nat.le_of_ble_eq_true rfl) t.1 t.2
      · refine g5 c_271_221 rfl ?_
        obtain ⟨ho, j9, hr, t⟩ := t
        refine g45 c_271_222 ho hr ?_
        refine g3 c_271_225 rfl ?_
        obtain ⟨ho, t⟩ := t
        refine g50 c_271_227 ho ?_
        refine g1 c_271_228 k_5 ?_
        refine gcm c_271_229 (gbn t (ab_c1 _ _) rfl (fun hc t => ?_) (fun hc t => ?_))
        · refine g1 c_271_232 k_1 ?_
          refine g38 c_271_233 rfl ?_
          refine g3 c_271_237 rfl ?_
          exact g80 (As := [.int x5, .int x8, .int 1, .int x1]) (rest := []) c_271_238 rfl rfl (Nat.le_of_ble_eq_true rfl) (Nat.le_of_ble_eq_true rfl) t.1 t.2
        · refine g1 c_271_236 k_0 ?_
          refine g3 c_271_237 rfl ?_
          exact g80 (As := [.int x5, .int x8, .int 0, .int x1]) (rest := []) c_271_238 rfl rfl (Nat.le_of_ble_eq_true rfl) (Nat.le_of_ble_eq_true rfl) t.1 t.2
  · refine g1 c_271_193 k_1 ?_
    refine g38 c_271_194 rfl ?_
    refine g6 (L' := [.ref x0, .int x1, .int x2, .int x3, .int x4, .int x5, .int x6, .int x7, .int x8, .int 1]) c_271_198 rfl ?_
    refine g3 c_271_200 rfl ?_
    refine gif c_271_202 (gbr t rfl rfl (fun hc t => ?_) (fun hc t => ?_))
    · refine g3 c_271_241 rfl ?_
      refine gif c_271_243 (gbn t (ab_c1 _ _) rfl (fun hc t => ?_) (fun hc t => ?_))
      · refine g5 c_271_246 rfl ?_
        obtain ⟨ho, j10, hr, t⟩ := t
        refine g45 c_271_247 ho hr ?_
        refine g3 c_271_250 rfl ?_
        obtain ⟨ho, t⟩ := t
        refine g50 c_271_252 ho ?_
        refine g1 c_271_253 k_1 ?_
        refine gcm c_271_254 (gbr t rfl rfl (fun hc t => ?_) (fun hc t => ?_))
        · refine g5 c_271_260 rfl ?_
          obtain ⟨ho, j11, hr, t⟩ := t
          refine g45 c_271_261 ho hr ?_
          refine g5 c_271_264 rfl ?_
          obtain ⟨ho, t⟩ := t
          refine g43 c_271_265 ho ?_
          refine g3 c_271_268 rfl ?_
          obtain ⟨ho, t⟩ := t
          refine g54 c_271_270 ho (fun h12 eh12 => ?_)
          have t := t h12 eh12
          refine g5 c_271_271 rfl ?_
          refine g33a c_271_272 ?_
          obtain ⟨ho, t⟩ := t
          refine g43 c_271_273 ho ?_
          refine g1 c_271_276 k_1 ?_
          refine g10 c_271_277 ?_
          obtain ⟨ho, t⟩ := t
          refine g46 c_271_278 ho (fun h13 eh13 => ?_)
          have t := t h13 eh13
          refine g9 (L' := [.ref x0, .int x1, .int x2, .int x3, .int x4, .int x5, .int x6, .int (x7 + 1), .int x8, .int 1]) c_271_281 rfl k_1 rfl ?_
          refine g38 c_271_284 rfl ?_
          exact t
        · refine g38 c_271_257 rfl ?_
          refine g9 (L' := [.ref x0, .int x1, .int x2, .int x3, .int x4, .int x5, .int x6, .int (x7 + 1), .int x8, .int 1]) c_271_281 rfl k_1 rfl ?_
          refine g38 c_271_284 rfl ?_
          exact t
      · refine g5 c_271_260 rfl ?_
        obtain ⟨ho, j14, hr, t⟩ := t
        refine g45 c_271_261 ho hr ?_
        refine g5 c_271_264 rfl ?_
        obtain ⟨ho, t⟩ := t
        refine g43 c_271_265 ho ?_
        refine g3 c_271_268 rfl ?_
        obtain ⟨ho, t⟩ := t
        refine g54 c_271_270 ho (fun h15 eh15 => ?_)
        have t := t h15 eh15
        refine g5 c_271_271 rfl ?_
        refine g33a c_271_272 ?_
        obtain ⟨ho, t⟩ := t
        refine g43 c_271_273 ho ?_
        refine g1 c_271_276 k_1 ?_
        refine g10 c_271_277 ?_
        obtain ⟨ho, t⟩ := t
        refine g46 c_271_278 ho (fun h16 eh16 => ?_)
        have t := t h16 eh16
        refine g9 (L' := [.ref x0, .int x1, .int x2, .int x3, .int x4, .int x5, .int x6, .int (x7 + 1), .int x8, .int 1]) c_271_281 rfl k_1 rfl ?_
        refine g38 c_271_284 rfl ?_
        exact t
    · refine g5 c_271_205 rfl ?_
      refine g3 c_271_206 rfl ?_
      refine g3 c_271_208 rfl ?_
      refine g5 c_271_210 rfl ?_
      obtain ⟨ho, j17, hr, t⟩ := t
      refine g45 c_271_211 ho hr ?_
      refine g3 c_271_214 rfl ?_
      obtain ⟨ho, t⟩ := t
      refine g50 c_271_216 ho ?_
      refine g1 c_271_217 k_3 ?_
      refine gcm c_271_218 (gbr t rfl rfl (fun hc t => ?_) (fun hc t => ?_))
      · refine g1 c_271_232 k_1 ?_
        refine g38 c_271_233 rfl ?_
        refine g3 c_271_237 rfl ?_
        exact g80 (As := [.int x5, .int x8, .int 1, .int x1]) (rest := []) c_271_238 rfl rfl (Nat.le_of_ble_eq_true rfl) (Nat.le_of_ble_eq_true rfl) t.1 t.2
      · refine g5 c_271_221 rfl ?_
        obtain ⟨ho, j18, hr, t⟩ := t
        refine g45 c_271_222 ho hr ?_
        refine g3 c_271_225 rfl ?_
        obtain ⟨ho, t⟩ := t
        refine g50 c_271_227 ho ?_
        refine g1 c_271_228 k_5 ?_
        refine gcm c_271_229 (gbn t (ab_c1 _ _) rfl (fun hc t => ?_) (fun hc t => ?_))
        · refine g1 c_271_232 k_1 ?_
          refine g38 c_271_233 rfl ?_
          refine g3 c_271_237 rfl ?_
          exact g80 (As := [.int x5, .int x8, .int 1, .int x1]) (rest := []) c_271_238 rfl rfl (Nat.le_of_ble_eq_true rfl) (Nat.le_of_ble_eq_true rfl) t.1 t.2
        · refine g1 c_271_236 k_0 ?_
          refine g3 c_271_237 rfl ?_
          exact g80 (As := [.int x5, .int x8, .int 0, .int x1]) (rest := []) c_271_238 rfl rfl (Nat.le_of_ble_eq_true rfl) (Nat.le_of_ble_eq_true rfl) t.1 t.2
set_option maxRecDepth 20000 in
theorem t_271_241 {d : Nat} {h : ab_H} {Q : Option Value → ab_H → Prop} {x0 : Nat} {x1 : Int32} {x2 : Int32} {x3 : Int32} {x4 : Int32} {x5 : Int32} {x6 : Int32} {x7 : Int32} {x8 : Int32} {x9 : Int32} (t : if x9 = 0 then (ab_ok h x0 112 = true ∧ ∃ j1 : Nat, ab_r h x0 0 = some j1 ∧ ((j1 = 0 ∨ ab_ok h j1 0 = true) ∧ ab_in x8 (ab_s h j1).2 = true) ∧ if (ab_i h j1 (Int32.toNatClampNeg x8)) = 1 then (ab_ok h x0 112 = true ∧ ∃ j2 : Nat, ab_r h x0 26 = some j2 ∧ ab_ok h x0 112 = true ∧ (ab_ok h j2 0 = true ∧ ab_in (ab_i h x0 25) (ab_s h j2).2 = true) ∧ ∀ h3 : ab_H, h3 = ab_pi h j2 (Int32.toNatClampNeg (ab_i h x0 25)) x7 → ab_ok h3 x0 112 = true ∧ ab_ok h3 x0 112 = true ∧ ∀ h4 : ab_H, h4 = ab_pi h3 x0 25 ((ab_i h3 x0 25) + 1) → wq d 271 149 [.ref x0, .int x1, .int x2, .int x3, .int x4, .int x5, .int x6, .int (x7 + 1), .int x8, .int x9] [] h4 Q) else (wq d 271 149 [.ref x0, .int x1, .int x2, .int x3, .int x4, .int x5, .int x6, .int (x7 + 1), .int x8, .int x9] [] h Q)) else (ab_ok h x0 112 = true ∧ ∃ j5 : Nat, ab_r h x0 26 = some j5 ∧ ab_ok h x0 112 = true ∧ (ab_ok h j5 0 = true ∧ ab_in (ab_i h x0 25) (ab_s h j5).2 = true) ∧ ∀ h6 : ab_H, h6 = ab_pi h j5 (Int32.toNatClampNeg (ab_i h x0 25)) x7 → ab_ok h6 x0 112 = true ∧ ab_ok h6 x0 112 = true ∧ ∀ h7 : ab_H, h7 = ab_pi h6 x0 25 ((ab_i h6 x0 25) + 1) → wq d 271 149 [.ref x0, .int x1, .int x2, .int x3, .int x4, .int x5, .int x6, .int (x7 + 1), .int x8, .int x9] [] h7 Q)) : wq d 271 241 [.ref x0, .int x1, .int x2, .int x3, .int x4, .int x5, .int x6, .int x7, .int x8, .int x9] [] h Q := by
  refine g3 c_271_241 rfl ?_
  refine gif c_271_243 (gbn t (ab_c1 _ _) rfl (fun hc t => ?_) (fun hc t => ?_))
  · refine g5 c_271_246 rfl ?_
    obtain ⟨ho, j1, hr, t⟩ := t
    refine g45 c_271_247 ho hr ?_
    refine g3 c_271_250 rfl ?_
    obtain ⟨ho, t⟩ := t
    refine g50 c_271_252 ho ?_
    refine g1 c_271_253 k_1 ?_
    refine gcm c_271_254 (gbr t rfl rfl (fun hc t => ?_) (fun hc t => ?_))
    · refine g5 c_271_260 rfl ?_
      obtain ⟨ho, j2, hr, t⟩ := t
      refine g45 c_271_261 ho hr ?_
      refine g5 c_271_264 rfl ?_
      obtain ⟨ho, t⟩ := t
      refine g43 c_271_265 ho ?_
      refine g3 c_271_268 rfl ?_
      obtain ⟨ho, t⟩ := t
      refine g54 c_271_270 ho (fun h3 eh3 => ?_)
      have t := t h3 eh3
      refine g5 c_271_271 rfl ?_
      refine g33a c_271_272 ?_
      obtain ⟨ho, t⟩ := t
      refine g43 c_271_273 ho ?_
      refine g1 c_271_276 k_1 ?_
      refine g10 c_271_277 ?_
      obtain ⟨ho, t⟩ := t
      refine g46 c_271_278 ho (fun h4 eh4 => ?_)
      have t := t h4 eh4
      refine g9 (L' := [.ref x0, .int x1, .int x2, .int x3, .int x4, .int x5, .int x6, .int (x7 + 1), .int x8, .int x9]) c_271_281 rfl k_1 rfl ?_
      refine g38 c_271_284 rfl ?_
      exact t
    · refine g38 c_271_257 rfl ?_
      refine g9 (L' := [.ref x0, .int x1, .int x2, .int x3, .int x4, .int x5, .int x6, .int (x7 + 1), .int x8, .int x9]) c_271_281 rfl k_1 rfl ?_
      refine g38 c_271_284 rfl ?_
      exact t
  · refine g5 c_271_260 rfl ?_
    obtain ⟨ho, j5, hr, t⟩ := t
    refine g45 c_271_261 ho hr ?_
    refine g5 c_271_264 rfl ?_
    obtain ⟨ho, t⟩ := t
    refine g43 c_271_265 ho ?_
    refine g3 c_271_268 rfl ?_
    obtain ⟨ho, t⟩ := t
    refine g54 c_271_270 ho (fun h6 eh6 => ?_)
    have t := t h6 eh6
    refine g5 c_271_271 rfl ?_
    refine g33a c_271_272 ?_
    obtain ⟨ho, t⟩ := t
    refine g43 c_271_273 ho ?_
    refine g1 c_271_276 k_1 ?_
    refine g10 c_271_277 ?_
    obtain ⟨ho, t⟩ := t
    refine g46 c_271_278 ho (fun h7 eh7 => ?_)
    have t := t h7 eh7
    refine g9 (L' := [.ref x0, .int x1, .int x2, .int x3, .int x4, .int x5, .int x6, .int (x7 + 1), .int x8, .int x9]) c_271_281 rfl k_1 rfl ?_
    refine g38 c_271_284 rfl ?_
    exact t
-- method 272: MillTownModel.isAsked(II)Z
theorem c_272_0 : pg_cd 272 0 = (3, 1, 0, 0, 0) := by decide +kernel
theorem c_272_1 : pg_cd 272 1 = (81, 205, 89, 0, 0) := by decide +kernel
theorem c_272_4 : pg_cd 272 4 = (36, 3, 0, 0, 14) := by decide +kernel
theorem c_272_7 : pg_cd 272 7 = (3, 1, 0, 1, 0) := by decide +kernel
theorem c_272_8 : pg_cd 272 8 = (81, 205, 89, 0, 0) := by decide +kernel
theorem c_272_11 : pg_cd 272 11 = (36, 3, 0, 0, 7) := by decide +kernel
theorem c_272_14 : pg_cd 272 14 = (1, 1, 0, 0, 1) := by decide +kernel
theorem c_272_15 : pg_cd 272 15 = (38, 3, 0, 0, 4) := by decide +kernel
theorem c_272_18 : pg_cd 272 18 = (1, 1, 0, 0, 0) := by decide +kernel
theorem c_272_19 : pg_cd 272 19 = (91, 0, 0, 0, 0) := by decide +kernel
theorem mx_272 : pg_mx 272 = 2 := by decide +kernel
theorem m_272 {d : Nat} {h : ab_H} {Q : Option Value → ab_H → Prop} {x0 : Int32} {x1 : Int32} (t : wq d 272 0 [.int x0, .int x1] [] h Q) : wm d 272 [.int x0, .int x1] h Q := by
  unfold wm
  rw [mx_272]
  exact t
set_option maxRecDepth 20000 in
theorem t_272_0 {d : Nat} {h : ab_H} {Q : Option Value → ab_H → Prop} {x0 : Int32} {x1 : Int32} (t : wm d 205 [.int x0] h (fun r9 h9 => wq (d + 1) 272 4 [.int x0, .int x1] (r9.toList ++ []) h9 Q)) : wq (d + 1) 272 0 [.int x0, .int x1] [] h Q := by
  refine g3 c_272_0 rfl ?_
  exact g81 (As := [.int x0]) (rest := []) c_272_1 rfl rfl (Nat.le_of_ble_eq_true rfl) (Nat.le_of_ble_eq_true rfl) t
set_option maxRecDepth 20000 in
theorem t_272_4 {d : Nat} {h : ab_H} {Q : Option Value → ab_H → Prop} {x0 : Int32} {x1 : Int32} {s0 : Int32} (t : if s0 = 0 then (Q (some (.int 0)) h) else (wm d 205 [.int x1] h (fun r9 h9 => wq (d + 1) 272 11 [.int x0, .int x1] (r9.toList ++ []) h9 Q))) : wq (d + 1) 272 4 [.int x0, .int x1] [.int s0] h Q := by
  refine gif c_272_4 (gbr t rfl rfl (fun hc t => ?_) (fun hc t => ?_))
  · refine g1 c_272_18 k_0 ?_
    exact g91 c_272_19 ⟨by decide, t⟩
  · refine g3 c_272_7 rfl ?_
    exact g81 (As := [.int x1]) (rest := []) c_272_8 rfl rfl (Nat.le_of_ble_eq_true rfl) (Nat.le_of_ble_eq_true rfl) t
set_option maxRecDepth 20000 in
theorem t_272_11 {d : Nat} {h : ab_H} {Q : Option Value → ab_H → Prop} {x0 : Int32} {x1 : Int32} {s0 : Int32} (t : if s0 = 0 then (Q (some (.int 0)) h) else (Q (some (.int 1)) h)) : wq d 272 11 [.int x0, .int x1] [.int s0] h Q := by
  refine gif c_272_11 (gbr t rfl rfl (fun hc t => ?_) (fun hc t => ?_))
  · refine g1 c_272_18 k_0 ?_
    exact g91 c_272_19 ⟨by decide, t⟩
  · refine g1 c_272_14 k_1 ?_
    refine g38 c_272_15 rfl ?_
    exact g91 c_272_19 ⟨by decide, t⟩
-- method 273: MillTownModel.pay(IIII)I
theorem c_273_0 : pg_cd 273 0 = (3, 1, 0, 1, 0) := by decide +kernel
theorem c_273_1 : pg_cd 273 1 = (81, 204, 80, 0, 0) := by decide +kernel
theorem c_273_4 : pg_cd 273 4 = (36, 3, 0, 0, 32) := by decide +kernel
theorem c_273_7 : pg_cd 273 7 = (5, 1, 0, 0, 0) := by decide +kernel
theorem c_273_8 : pg_cd 273 8 = (3, 1, 0, 2, 0) := by decide +kernel
theorem c_273_9 : pg_cd 273 9 = (80, 201, 115, 0, 0) := by decide +kernel
theorem c_273_12 : pg_cd 273 12 = (36, 3, 0, 0, 24) := by decide +kernel
theorem c_273_15 : pg_cd 273 15 = (3, 1, 0, 3, 0) := by decide +kernel
theorem c_273_16 : pg_cd 273 16 = (3, 2, 0, 4, 0) := by decide +kernel
theorem c_273_18 : pg_cd 273 18 = (81, 272, 334, 0, 0) := by decide +kernel
theorem c_273_21 : pg_cd 273 21 = (36, 3, 0, 0, 15) := by decide +kernel
theorem c_273_24 : pg_cd 273 24 = (5, 1, 0, 0, 0) := by decide +kernel
theorem c_273_25 : pg_cd 273 25 = (3, 1, 0, 1, 0) := by decide +kernel
theorem c_273_26 : pg_cd 273 26 = (3, 1, 0, 2, 0) := by decide +kernel
theorem c_273_27 : pg_cd 273 27 = (3, 1, 0, 3, 0) := by decide +kernel
theorem c_273_28 : pg_cd 273 28 = (3, 2, 0, 4, 0) := by decide +kernel
theorem c_273_30 : pg_cd 273 30 = (80, 271, 337, 0, 0) := by decide +kernel
theorem c_273_33 : pg_cd 273 33 = (38, 3, 0, 0, 4) := by decide +kernel
theorem c_273_36 : pg_cd 273 36 = (1, 1, 0, 0, (-1)) := by decide +kernel
theorem c_273_37 : pg_cd 273 37 = (90, 0, 0, 0, 0) := by decide +kernel
theorem mx_273 : pg_mx 273 = 5 := by decide +kernel
theorem m_273 {d : Nat} {h : ab_H} {Q : Option Value → ab_H → Prop} {x0 : Nat} {x1 : Int32} {x2 : Int32} {x3 : Int32} {x4 : Int32} (t : wq d 273 0 [.ref x0, .int x1, .int x2, .int x3, .int x4] [] h Q) : wm d 273 [.ref x0, .int x1, .int x2, .int x3, .int x4] h Q := by
  unfold wm
  rw [mx_273]
  exact t
set_option maxRecDepth 20000 in
theorem t_273_0 {d : Nat} {h : ab_H} {Q : Option Value → ab_H → Prop} {x0 : Nat} {x1 : Int32} {x2 : Int32} {x3 : Int32} {x4 : Int32} (t : wm d 204 [.int x1] h (fun r9 h9 => wq (d + 1) 273 4 [.ref x0, .int x1, .int x2, .int x3, .int x4] (r9.toList ++ []) h9 Q)) : wq (d + 1) 273 0 [.ref x0, .int x1, .int x2, .int x3, .int x4] [] h Q := by
  refine g3 c_273_0 rfl ?_
  exact g81 (As := [.int x1]) (rest := []) c_273_1 rfl rfl (Nat.le_of_ble_eq_true rfl) (Nat.le_of_ble_eq_true rfl) t
set_option maxRecDepth 20000 in
theorem t_273_4 {d : Nat} {h : ab_H} {Q : Option Value → ab_H → Prop} {x0 : Nat} {x1 : Int32} {x2 : Int32} {x3 : Int32} {x4 : Int32} {s0 : Int32} (t : if s0 = 0 then (Q (some (.int (-1))) h) else (ab_ok h x0 112 = true ∧ wm d 201 [.ref x0, .int x2] h (fun r9 h9 => wq (d + 1) 273 12 [.ref x0, .int x1, .int x2, .int x3, .int x4] (r9.toList ++ []) h9 Q))) : wq (d + 1) 273 4 [.ref x0, .int x1, .int x2, .int x3, .int x4] [.int s0] h Q := by
  refine gif c_273_4 (gbr t rfl rfl (fun hc t => ?_) (fun hc t => ?_))
  · refine g1 c_273_36 k_m1 ?_
    exact g90 c_273_37 t
  · refine g5 c_273_7 rfl ?_
    refine g3 c_273_8 rfl ?_
    exact g80 (As := [.int x2]) (rest := []) c_273_9 rfl rfl (Nat.le_of_ble_eq_true rfl) (Nat.le_of_ble_eq_true rfl) t.1 t.2
set_option maxRecDepth 20000 in
theorem t_273_12 {d : Nat} {h : ab_H} {Q : Option Value → ab_H → Prop} {x0 : Nat} {x1 : Int32} {x2 : Int32} {x3 : Int32} {x4 : Int32} {s0 : Int32} (t : if s0 = 0 then (Q (some (.int (-1))) h) else (wm d 272 [.int x3, .int x4] h (fun r9 h9 => wq (d + 1) 273 21 [.ref x0, .int x1, .int x2, .int x3, .int x4] (r9.toList ++ []) h9 Q))) : wq (d + 1) 273 12 [.ref x0, .int x1, .int x2, .int x3, .int x4] [.int s0] h Q := by
  refine gif c_273_12 (gbr t rfl rfl (fun hc t => ?_) (fun hc t => ?_))
  · refine g1 c_273_36 k_m1 ?_
    exact g90 c_273_37 t
  · refine g3 c_273_15 rfl ?_
    refine g3 c_273_16 rfl ?_
    exact g81 (As := [.int x3, .int x4]) (rest := []) c_273_18 rfl rfl (Nat.le_of_ble_eq_true rfl) (Nat.le_of_ble_eq_true rfl) t
set_option maxRecDepth 20000 in
theorem t_273_21 {d : Nat} {h : ab_H} {Q : Option Value → ab_H → Prop} {x0 : Nat} {x1 : Int32} {x2 : Int32} {x3 : Int32} {x4 : Int32} {s0 : Int32} (t : if s0 = 0 then (Q (some (.int (-1))) h) else (ab_ok h x0 112 = true ∧ wm d 271 [.ref x0, .int x1, .int x2, .int x3, .int x4] h (fun r9 h9 => wq (d + 1) 273 33 [.ref x0, .int x1, .int x2, .int x3, .int x4] (r9.toList ++ []) h9 Q))) : wq (d + 1) 273 21 [.ref x0, .int x1, .int x2, .int x3, .int x4] [.int s0] h Q := by
  refine gif c_273_21 (gbr t rfl rfl (fun hc t => ?_) (fun hc t => ?_))
  · refine g1 c_273_36 k_m1 ?_
    exact g90 c_273_37 t
  · refine g5 c_273_24 rfl ?_
    refine g3 c_273_25 rfl ?_
    refine g3 c_273_26 rfl ?_
    refine g3 c_273_27 rfl ?_
    refine g3 c_273_28 rfl ?_
    exact g80 (As := [.int x1, .int x2, .int x3, .int x4]) (rest := []) c_273_30 rfl rfl (Nat.le_of_ble_eq_true rfl) (Nat.le_of_ble_eq_true rfl) t.1 t.2
set_option maxRecDepth 20000 in
theorem t_273_33 {d : Nat} {h : ab_H} {Q : Option Value → ab_H → Prop} {x0 : Nat} {x1 : Int32} {x2 : Int32} {x3 : Int32} {x4 : Int32} {s0 : Int32} (t : Q (some (.int s0)) h) : wq d 273 33 [.ref x0, .int x1, .int x2, .int x3, .int x4] [.int s0] h Q := by
  refine g38 c_273_33 rfl ?_
  exact g90 c_273_37 t
-- method 274: MillTownModel.why(IIIII)I
theorem c_274_0 : pg_cd 274 0 = (3, 1, 0, 1, 0) := by decide +kernel
theorem c_274_1 : pg_cd 274 1 = (81, 204, 80, 0, 0) := by decide +kernel
theorem c_274_4 : pg_cd 274 4 = (36, 3, 0, 0, 20) := by decide +kernel
theorem c_274_7 : pg_cd 274 7 = (5, 1, 0, 0, 0) := by decide +kernel
theorem c_274_8 : pg_cd 274 8 = (3, 1, 0, 2, 0) := by decide +kernel
theorem c_274_9 : pg_cd 274 9 = (80, 201, 115, 0, 0) := by decide +kernel
theorem c_274_12 : pg_cd 274 12 = (36, 3, 0, 0, 12) := by decide +kernel
theorem c_274_15 : pg_cd 274 15 = (3, 1, 0, 3, 0) := by decide +kernel
theorem c_274_16 : pg_cd 274 16 = (3, 2, 0, 4, 0) := by decide +kernel
theorem c_274_18 : pg_cd 274 18 = (81, 272, 334, 0, 0) := by decide +kernel
theorem c_274_21 : pg_cd 274 21 = (36, 3, 0, 1, 5) := by decide +kernel
theorem c_274_24 : pg_cd 274 24 = (1, 1, 0, 0, (-1)) := by decide +kernel
theorem c_274_25 : pg_cd 274 25 = (90, 0, 0, 0, 0) := by decide +kernel
theorem c_274_26 : pg_cd 274 26 = (5, 1, 0, 0, 0) := by decide +kernel
theorem c_274_27 : pg_cd 274 27 = (3, 1, 0, 1, 0) := by decide +kernel
theorem c_274_28 : pg_cd 274 28 = (3, 1, 0, 2, 0) := by decide +kernel
theorem c_274_29 : pg_cd 274 29 = (3, 1, 0, 3, 0) := by decide +kernel
theorem c_274_30 : pg_cd 274 30 = (3, 2, 0, 4, 0) := by decide +kernel
theorem c_274_32 : pg_cd 274 32 = (80, 271, 337, 0, 0) := by decide +kernel
theorem c_274_35 : pg_cd 274 35 = (35, 1, 0, 0, 0) := by decide +kernel
theorem c_274_36 : pg_cd 274 36 = (3, 2, 0, 5, 0) := by decide +kernel
theorem c_274_38 : pg_cd 274 38 = (1, 1, 0, 0, (-1)) := by decide +kernel
theorem c_274_39 : pg_cd 274 39 = (37, 3, 0, 1, 10) := by decide +kernel
theorem c_274_42 : pg_cd 274 42 = (5, 1, 0, 0, 0) := by decide +kernel
theorem c_274_43 : pg_cd 274 43 = (43, 12, 319, 24, 0) := by decide +kernel
theorem c_274_46 : pg_cd 274 46 = (38, 3, 0, 0, 29) := by decide +kernel
theorem c_274_49 : pg_cd 274 49 = (3, 2, 0, 5, 0) := by decide +kernel
theorem c_274_51 : pg_cd 274 51 = (1, 1, 0, 0, 0) := by decide +kernel
theorem c_274_52 : pg_cd 274 52 = (5, 1, 0, 0, 0) := by decide +kernel
theorem c_274_53 : pg_cd 274 53 = (43, 12, 322, 25, 0) := by decide +kernel
theorem c_274_56 : pg_cd 274 56 = (1, 1, 0, 0, 1) := by decide +kernel
theorem c_274_57 : pg_cd 274 57 = (11, 1, 0, 0, 0) := by decide +kernel
theorem c_274_58 : pg_cd 274 58 = (81, 196, 76, 0, 0) := by decide +kernel
theorem c_274_61 : pg_cd 274 61 = (36, 3, 0, 0, 13) := by decide +kernel
theorem c_274_64 : pg_cd 274 64 = (5, 1, 0, 0, 0) := by decide +kernel
theorem c_274_65 : pg_cd 274 65 = (45, 12, 44, 26, 0) := by decide +kernel
theorem c_274_68 : pg_cd 274 68 = (3, 2, 0, 5, 0) := by decide +kernel
theorem c_274_70 : pg_cd 274 70 = (50, 1, 0, 0, 0) := by decide +kernel
theorem c_274_71 : pg_cd 274 71 = (38, 3, 0, 0, 4) := by decide +kernel
theorem c_274_74 : pg_cd 274 74 = (1, 1, 0, 0, (-1)) := by decide +kernel
theorem c_274_75 : pg_cd 274 75 = (90, 0, 0, 0, 0) := by decide +kernel
theorem mx_274 : pg_mx 274 = 6 := by decide +kernel
theorem m_274 {d : Nat} {h : ab_H} {Q : Option Value → ab_H → Prop} {x0 : Nat} {x1 : Int32} {x2 : Int32} {x3 : Int32} {x4 : Int32} {x5 : Int32} (t : wq d 274 0 [.ref x0, .int x1, .int x2, .int x3, .int x4, .int x5] [] h Q) : wm d 274 [.ref x0, .int x1, .int x2, .int x3, .int x4, .int x5] h Q := by
  unfold wm
  rw [mx_274]
  exact t
set_option maxRecDepth 20000 in
theorem t_274_0 {d : Nat} {h : ab_H} {Q : Option Value → ab_H → Prop} {x0 : Nat} {x1 : Int32} {x2 : Int32} {x3 : Int32} {x4 : Int32} {x5 : Int32} (t : wm d 204 [.int x1] h (fun r9 h9 => wq (d + 1) 274 4 [.ref x0, .int x1, .int x2, .int x3, .int x4, .int x5] (r9.toList ++ []) h9 Q)) : wq (d + 1) 274 0 [.ref x0, .int x1, .int x2, .int x3, .int x4, .int x5] [] h Q := by
  refine g3 c_274_0 rfl ?_
  exact g81 (As := [.int x1]) (rest := []) c_274_1 rfl rfl (Nat.le_of_ble_eq_true rfl) (Nat.le_of_ble_eq_true rfl) t
set_option maxRecDepth 20000 in
theorem t_274_4 {d : Nat} {h : ab_H} {Q : Option Value → ab_H → Prop} {x0 : Nat} {x1 : Int32} {x2 : Int32} {x3 : Int32} {x4 : Int32} {x5 : Int32} {s0 : Int32} (t : if s0 = 0 then (Q (some (.int (-1))) h) else (ab_ok h x0 112 = true ∧ wm d 201 [.ref x0, .int x2] h (fun r9 h9 => wq (d + 1) 274 12 [.ref x0, .int x1, .int x2, .int x3, .int x4, .int x5] (r9.toList ++ []) h9 Q))) : wq (d + 1) 274 4 [.ref x0, .int x1, .int x2, .int x3, .int x4, .int x5] [.int s0] h Q := by
  refine gif c_274_4 (gbr t rfl rfl (fun hc t => ?_) (fun hc t => ?_))
  · refine g1 c_274_24 k_m1 ?_
    exact g90 c_274_25 t
  · refine g5 c_274_7 rfl ?_
    refine g3 c_274_8 rfl ?_
    exact g80 (As := [.int x2]) (rest := []) c_274_9 rfl rfl (Nat.le_of_ble_eq_true rfl) (Nat.le_of_ble_eq_true rfl) t.1 t.2
set_option maxRecDepth 20000 in
theorem t_274_12 {d : Nat} {h : ab_H} {Q : Option Value → ab_H → Prop} {x0 : Nat} {x1 : Int32} {x2 : Int32} {x3 : Int32} {x4 : Int32} {x5 : Int32} {s0 : Int32} (t : if s0 = 0 then (Q (some (.int (-1))) h) else (wm d 272 [.int x3, .int x4] h (fun r9 h9 => wq (d + 1) 274 21 [.ref x0, .int x1, .int x2, .int x3, .int x4, .int x5] (r9.toList ++ []) h9 Q))) : wq (d + 1) 274 12 [.ref x0, .int x1, .int x2, .int x3, .int x4, .int x5] [.int s0] h Q := by
  refine gif c_274_12 (gbr t rfl rfl (fun hc t => ?_) (fun hc t => ?_))
  · refine g1 c_274_24 k_m1 ?_
    exact g90 c_274_25 t
  · refine g3 c_274_15 rfl ?_
    refine g3 c_274_16 rfl ?_
    exact g81 (As := [.int x3, .int x4]) (rest := []) c_274_18 rfl rfl (Nat.le_of_ble_eq_true rfl) (Nat.le_of_ble_eq_true rfl) t
set_option maxRecDepth 20000 in
theorem t_274_21 {d : Nat} {h : ab_H} {Q : Option Value → ab_H → Prop} {x0 : Nat} {x1 : Int32} {x2 : Int32} {x3 : Int32} {x4 : Int32} {x5 : Int32} {s0 : Int32} (t : if s0 = 0 then (Q (some (.int (-1))) h) else (ab_ok h x0 112 = true ∧ wm d 271 [.ref x0, .int x1, .int x2, .int x3, .int x4] h (fun r9 h9 => wq (d + 1) 274 35 [.ref x0, .int x1, .int x2, .int x3, .int x4, .int x5] (r9.toList ++ []) h9 Q))) : wq (d + 1) 274 21 [.ref x0, .int x1, .int x2, .int x3, .int x4, .int x5] [.int s0] h Q := by
  refine gif c_274_21 (gbn t (ab_c1 _ _) rfl (fun hc t => ?_) (fun hc t => ?_))
  · refine g1 c_274_24 k_m1 ?_
    exact g90 c_274_25 t
  · refine g5 c_274_26 rfl ?_
    refine g3 c_274_27 rfl ?_
    refine g3 c_274_28 rfl ?_
    refine g3 c_274_29 rfl ?_
    refine g3 c_274_30 rfl ?_
    exact g80 (As := [.int x1, .int x2, .int x3, .int x4]) (rest := []) c_274_32 rfl rfl (Nat.le_of_ble_eq_true rfl) (Nat.le_of_ble_eq_true rfl) t.1 t.2
set_option maxRecDepth 20000 in
theorem t_274_35 {d : Nat} {h : ab_H} {Q : Option Value → ab_H → Prop} {x0 : Nat} {x1 : Int32} {x2 : Int32} {x3 : Int32} {x4 : Int32} {x5 : Int32} {s0 : Int32} (t : if x5 = (-1) then (ab_ok h x0 112 = true ∧ Q (some (.int (ab_i h x0 24))) h) else (ab_ok h x0 112 = true ∧ wm d 196 [.int x5, .int 0, .int ((ab_i h x0 25) - 1)] h (fun r9 h9 => wq (d + 1) 274 61 [.ref x0, .int x1, .int x2, .int x3, .int x4, .int x5] (r9.toList ++ []) h9 Q))) : wq (d + 1) 274 35 [.ref x0, .int x1, .int x2, .int x3, .int x4, .int x5] [.int s0] h Q := by
  refine g35i c_274_35 ?_
  refine g3 c_274_36 rfl ?_
  refine g1 c_274_38 k_m1 ?_
  refine gcm c_274_39 (gbn t (ab_c1 _ _) rfl (fun hc t => ?_) (fun hc t => ?_))
  · refine g5 c_274_42 rfl ?_
    obtain ⟨ho, t⟩ := t
    refine g43 c_274_43 ho ?_
    refine g38 c_274_46 rfl ?_
    exact g90 c_274_75 t
  · refine g3 c_274_49 rfl ?_
    refine g1 c_274_51 k_0 ?_
    refine g5 c_274_52 rfl ?_
    obtain ⟨ho, t⟩ := t
    refine g43 c_274_53 ho ?_
    refine g1 c_274_56 k_1 ?_
    refine g11 c_274_57 ?_
    exact g81 (As := [.int x5, .int 0, .int ((ab_i h x0 25) - 1)]) (rest := []) c_274_58 rfl rfl (Nat.le_of_ble_eq_true rfl) (Nat.le_of_ble_eq_true rfl) t
set_option maxRecDepth 20000 in
theorem t_274_61 {d : Nat} {h : ab_H} {Q : Option Value → ab_H → Prop} {x0 : Nat} {x1 : Int32} {x2 : Int32} {x3 : Int32} {x4 : Int32} {x5 : Int32} {s0 : Int32} (t : if s0 = 0 then (Q (some (.int (-1))) h) else (ab_ok h x0 112 = true ∧ ∃ j1 : Nat, ab_r h x0 26 = some j1 ∧ ((j1 = 0 ∨ ab_ok h j1 0 = true) ∧ ab_in x5 (ab_s h j1).2 = true) ∧ Q (some (.int (ab_i h j1 (Int32.toNatClampNeg x5)))) h)) : wq d 274 61 [.ref x0, .int x1, .int x2, .int x3, .int x4, .int x5] [.int s0] h Q := by
  refine gif c_274_61 (gbr t rfl rfl (fun hc t => ?_) (fun hc t => ?_))
  · refine g1 c_274_74 k_m1 ?_
    exact g90 c_274_75 t
  · refine g5 c_274_64 rfl ?_
    obtain ⟨ho, j1, hr, t⟩ := t
    refine g45 c_274_65 ho hr ?_
    refine g3 c_274_68 rfl ?_
    obtain ⟨ho, t⟩ := t
    refine g50 c_274_70 ho ?_
    refine g38 c_274_71 rfl ?_
    exact g90 c_274_75 t
-- method 275: MillTownModel.mostOf(IIII)I
theorem c_275_0 : pg_cd 275 0 = (5, 1, 0, 0, 0) := by decide +kernel
theorem c_275_1 : pg_cd 275 1 = (3, 1, 0, 1, 0) := by decide +kernel
theorem c_275_2 : pg_cd 275 2 = (3, 1, 0, 2, 0) := by decide +kernel
theorem c_275_3 : pg_cd 275 3 = (3, 1, 0, 3, 0) := by decide +kernel
theorem c_275_4 : pg_cd 275 4 = (3, 2, 0, 4, 0) := by decide +kernel
theorem c_275_6 : pg_cd 275 6 = (80, 268, 315, 0, 0) := by decide +kernel
theorem c_275_9 : pg_cd 275 9 = (6, 2, 0, 5, 0) := by decide +kernel
theorem c_275_11 : pg_cd 275 11 = (1, 1, 0, 0, 0) := by decide +kernel
theorem c_275_12 : pg_cd 275 12 = (6, 2, 0, 6, 0) := by decide +kernel
theorem c_275_14 : pg_cd 275 14 = (1, 1, 0, 0, 0) := by decide +kernel
theorem c_275_15 : pg_cd 275 15 = (6, 2, 0, 7, 0) := by decide +kernel
theorem c_275_17 : pg_cd 275 17 = (3, 2, 0, 5, 0) := by decide +kernel
theorem c_275_19 : pg_cd 275 19 = (36, 3, 0, 2, 90) := by decide +kernel
theorem c_275_22 : pg_cd 275 22 = (3, 2, 0, 7, 0) := by decide +kernel
theorem c_275_24 : pg_cd 275 24 = (5, 1, 0, 0, 0) := by decide +kernel
theorem c_275_25 : pg_cd 275 25 = (5, 1, 0, 0, 0) := by decide +kernel
theorem c_275_26 : pg_cd 275 26 = (45, 12, 8, 0, 0) := by decide +kernel
theorem c_275_29 : pg_cd 275 29 = (1, 3, 0, 0, 5012) := by decide +kernel
theorem c_275_32 : pg_cd 275 32 = (1, 2, 0, 0, 8) := by decide +kernel
theorem c_275_34 : pg_cd 275 34 = (3, 2, 0, 5, 0) := by decide +kernel
theorem c_275_36 : pg_cd 275 36 = (12, 1, 0, 0, 0) := by decide +kernel
theorem c_275_37 : pg_cd 275 37 = (10, 1, 0, 0, 0) := by decide +kernel
theorem c_275_38 : pg_cd 275 38 = (50, 1, 0, 0, 0) := by decide +kernel
theorem c_275_39 : pg_cd 275 39 = (80, 266, 296, 0, 0) := by decide +kernel
theorem c_275_42 : pg_cd 275 42 = (37, 3, 0, 3, 67) := by decide +kernel
theorem c_275_45 : pg_cd 275 45 = (5, 1, 0, 0, 0) := by decide +kernel
theorem c_275_46 : pg_cd 275 46 = (5, 1, 0, 0, 0) := by decide +kernel
theorem c_275_47 : pg_cd 275 47 = (45, 12, 8, 0, 0) := by decide +kernel
theorem c_275_50 : pg_cd 275 50 = (1, 3, 0, 0, 5012) := by decide +kernel
theorem c_275_53 : pg_cd 275 53 = (1, 2, 0, 0, 8) := by decide +kernel
theorem c_275_55 : pg_cd 275 55 = (3, 2, 0, 5, 0) := by decide +kernel
theorem c_275_57 : pg_cd 275 57 = (12, 1, 0, 0, 0) := by decide +kernel
theorem c_275_58 : pg_cd 275 58 = (10, 1, 0, 0, 0) := by decide +kernel
theorem c_275_59 : pg_cd 275 59 = (50, 1, 0, 0, 0) := by decide +kernel
theorem c_275_60 : pg_cd 275 60 = (3, 2, 0, 7, 0) := by decide +kernel
theorem c_275_62 : pg_cd 275 62 = (80, 265, 299, 0, 0) := by decide +kernel
theorem c_275_65 : pg_cd 275 65 = (6, 2, 0, 8, 0) := by decide +kernel
theorem c_275_67 : pg_cd 275 67 = (5, 1, 0, 0, 0) := by decide +kernel
theorem c_275_68 : pg_cd 275 68 = (45, 12, 8, 0, 0) := by decide +kernel
theorem c_275_71 : pg_cd 275 71 = (3, 2, 0, 8, 0) := by decide +kernel
theorem c_275_73 : pg_cd 275 73 = (50, 1, 0, 0, 0) := by decide +kernel
theorem c_275_74 : pg_cd 275 74 = (3, 1, 0, 1, 0) := by decide +kernel
theorem c_275_75 : pg_cd 275 75 = (37, 3, 0, 1, 28) := by decide +kernel
theorem c_275_78 : pg_cd 275 78 = (5, 1, 0, 0, 0) := by decide +kernel
theorem c_275_79 : pg_cd 275 79 = (45, 12, 8, 0, 0) := by decide +kernel
theorem c_275_82 : pg_cd 275 82 = (3, 2, 0, 8, 0) := by decide +kernel
theorem c_275_84 : pg_cd 275 84 = (1, 1, 0, 0, 1) := by decide +kernel
theorem c_275_85 : pg_cd 275 85 = (10, 1, 0, 0, 0) := by decide +kernel
theorem c_275_86 : pg_cd 275 86 = (50, 1, 0, 0, 0) := by decide +kernel
theorem c_275_87 : pg_cd 275 87 = (3, 2, 0, 6, 0) := by decide +kernel
theorem c_275_89 : pg_cd 275 89 = (37, 3, 0, 5, 14) := by decide +kernel
theorem c_275_92 : pg_cd 275 92 = (5, 1, 0, 0, 0) := by decide +kernel
theorem c_275_93 : pg_cd 275 93 = (45, 12, 8, 0, 0) := by decide +kernel
theorem c_275_96 : pg_cd 275 96 = (3, 2, 0, 8, 0) := by decide +kernel
theorem c_275_98 : pg_cd 275 98 = (1, 1, 0, 0, 1) := by decide +kernel
theorem c_275_99 : pg_cd 275 99 = (10, 1, 0, 0, 0) := by decide +kernel
theorem c_275_100 : pg_cd 275 100 = (50, 1, 0, 0, 0) := by decide +kernel
theorem c_275_101 : pg_cd 275 101 = (6, 2, 0, 6, 0) := by decide +kernel
theorem c_275_103 : pg_cd 275 103 = (9, 3, 0, 7, 1) := by decide +kernel
theorem c_275_106 : pg_cd 275 106 = (38, 3, 0, 0, (-89)) := by decide +kernel
theorem c_275_109 : pg_cd 275 109 = (3, 2, 0, 6, 0) := by decide +kernel
theorem c_275_111 : pg_cd 275 111 = (90, 0, 0, 0, 0) := by decide +kernel
theorem mx_275 : pg_mx 275 = 9 := by decide +kernel
theorem m_275 {d : Nat} {h : ab_H} {Q : Option Value → ab_H → Prop} {x0 : Nat} {x1 : Int32} {x2 : Int32} {x3 : Int32} {x4 : Int32} (t : wq d 275 0 [.ref x0, .int x1, .int x2, .int x3, .int x4, .retAddr 0, .retAddr 0, .retAddr 0, .retAddr 0] [] h Q) : wm d 275 [.ref x0, .int x1, .int x2, .int x3, .int x4] h Q := by
  unfold wm
  rw [mx_275]
  exact t
set_option maxRecDepth 20000 in
theorem t_275_0 {d : Nat} {h : ab_H} {Q : Option Value → ab_H → Prop} {x0 : Nat} {x1 : Int32} {x2 : Int32} {x3 : Int32} {x4 : Int32} (t : ab_ok h x0 112 = true ∧ wm d 268 [.ref x0, .int x1, .int x2, .int x3, .int x4] h (fun r9 h9 => wq (d + 1) 275 9 [.ref x0, .int x1, .int x2, .int x3, .int x4, .retAddr 0, .retAddr 0, .retAddr 0, .retAddr 0] (r9.toList ++ []) h9 Q)) : wq (d + 1) 275 0 [.ref x0, .int x1, .int x2, .int x3, .int x4, .retAddr 0, .retAddr 0, .retAddr 0, .retAddr 0] [] h Q := by
  refine g5 c_275_0 rfl ?_
  refine g3 c_275_1 rfl ?_
  refine g3 c_275_2 rfl ?_
  refine g3 c_275_3 rfl ?_
  refine g3 c_275_4 rfl ?_
  exact g80 (As := [.int x1, .int x2, .int x3, .int x4]) (rest := []) c_275_6 rfl rfl (Nat.le_of_ble_eq_true rfl) (Nat.le_of_ble_eq_true rfl) t.1 t.2
set_option maxRecDepth 20000 in
theorem t_275_9 {d : Nat} {h : ab_H} {Q : Option Value → ab_H → Prop} {x0 : Nat} {x1 : Int32} {x2 : Int32} {x3 : Int32} {x4 : Int32} {s0 : Int32} (t : wq d 275 17 [.ref x0, .int x1, .int x2, .int x3, .int x4, .int s0, .int 0, .int 0, .retAddr 0] [] h Q) : wq d 275 9 [.ref x0, .int x1, .int x2, .int x3, .int x4, .retAddr 0, .retAddr 0, .retAddr 0, .retAddr 0] [.int s0] h Q := by
  refine g6 (L' := [.ref x0, .int x1, .int x2, .int x3, .int x4, .int s0, .retAddr 0, .retAddr 0, .retAddr 0]) c_275_9 rfl ?_
  refine g1 c_275_11 k_0 ?_
  refine g6 (L' := [.ref x0, .int x1, .int x2, .int x3, .int x4, .int s0, .int 0, .retAddr 0, .retAddr 0]) c_275_12 rfl ?_
  refine g1 c_275_14 k_0 ?_
  refine g6 (L' := [.ref x0, .int x1, .int x2, .int x3, .int x4, .int s0, .int 0, .int 0, .retAddr 0]) c_275_15 rfl ?_
  exact t
set_option maxRecDepth 20000 in
theorem t_275_17 {d : Nat} {h : ab_H} {Q : Option Value → ab_H → Prop} {x0 : Nat} {x1 : Int32} {x2 : Int32} {x3 : Int32} {x4 : Int32} {x5 : Int32} {x6 : Int32} {x7 : Int32} (t : if x5 < 0 then (Q (some (.int x6)) h) else (ab_ok h x0 112 = true ∧ ∃ j1 : Nat, ab_r h x0 0 = some j1 ∧ ((j1 = 0 ∨ ab_ok h j1 0 = true) ∧ ab_in (5012 + (8 * x5)) (ab_s h j1).2 = true) ∧ ab_ok h x0 112 = true ∧ wm d 266 [.ref x0, .int (ab_i h j1 (Int32.toNatClampNeg (5012 + (8 * x5))))] h (fun r9 h9 => wq (d + 1) 275 42 [.ref x0, .int x1, .int x2, .int x3, .int x4, .int x5, .int x6, .int x7, .retAddr 0] (r9.toList ++ [.int x7]) h9 Q))) : wq (d + 1) 275 17 [.ref x0, .int x1, .int x2, .int x3, .int x4, .int x5, .int x6, .int x7, .retAddr 0] [] h Q := by
  refine g3 c_275_17 rfl ?_
  refine gif c_275_19 (gbr t rfl rfl (fun hc t => ?_) (fun hc t => ?_))
  · refine g3 c_275_109 rfl ?_
    exact g90 c_275_111 t
  · refine g3 c_275_22 rfl ?_
    refine g5 c_275_24 rfl ?_
    refine g5 c_275_25 rfl ?_
    obtain ⟨ho, j1, hr, t⟩ := t
    refine g45 c_275_26 ho hr ?_
    refine g1 c_275_29 k_5012 ?_
    refine g1 c_275_32 k_8 ?_
    refine g3 c_275_34 rfl ?_
    refine g12 c_275_36 ?_
    refine g10 c_275_37 ?_
    obtain ⟨ho, t⟩ := t
    refine g50 c_275_38 ho ?_
    exact g80 (As := [.int (ab_i h j1 (Int32.toNatClampNeg (5012 + (8 * x5))))]) (rest := [.int x7]) c_275_39 rfl rfl (Nat.le_of_ble_eq_true rfl) (Nat.le_of_ble_eq_true rfl) t.1 t.2
set_option maxRecDepth 20000 in
theorem t_275_42 {d : Nat} {h : ab_H} {Q : Option Value → ab_H → Prop} {x0 : Nat} {x1 : Int32} {x2 : Int32} {x3 : Int32} {x4 : Int32} {x5 : Int32} {x6 : Int32} {x7 : Int32} {s0 : Int32} {s1 : Int32} (t : if s1 ≤ s0 then (Q (some (.int x6)) h) else (ab_ok h x0 112 = true ∧ ∃ j1 : Nat, ab_r h x0 0 = some j1 ∧ ((j1 = 0 ∨ ab_ok h j1 0 = true) ∧ ab_in (5012 + (8 * x5)) (ab_s h j1).2 = true) ∧ ab_ok h x0 112 = true ∧ wm d 265 [.ref x0, .int (ab_i h j1 (Int32.toNatClampNeg (5012 + (8 * x5)))), .int x7] h (fun r9 h9 => wq (d + 1) 275 65 [.ref x0, .int x1, .int x2, .int x3, .int x4, .int x5, .int x6, .int x7, .retAddr 0] (r9.toList ++ []) h9 Q))) : wq (d + 1) 275 42 [.ref x0, .int x1, .int x2, .int x3, .int x4, .int x5, .int x6, .int x7, .retAddr 0] [.int s1, .int s0] h Q := by
  refine gcm c_275_42 (gbr t rfl rfl (fun hc t => ?_) (fun hc t => ?_))
  · refine g3 c_275_109 rfl ?_
    exact g90 c_275_111 t
  · refine g5 c_275_45 rfl ?_
    refine g5 c_275_46 rfl ?_
    obtain ⟨ho, j1, hr, t⟩ := t
    refine g45 c_275_47 ho hr ?_
    refine g1 c_275_50 k_5012 ?_
    refine g1 c_275_53 k_8 ?_
    refine g3 c_275_55 rfl ?_
    refine g12 c_275_57 ?_
    refine g10 c_275_58 ?_
    obtain ⟨ho, t⟩ := t
    refine g50 c_275_59 ho ?_
    refine g3 c_275_60 rfl ?_
    exact g80 (As := [.int (ab_i h j1 (Int32.toNatClampNeg (5012 + (8 * x5)))), .int x7]) (rest := []) c_275_62 rfl rfl (Nat.le_of_ble_eq_true rfl) (Nat.le_of_ble_eq_true rfl) t.1 t.2
set_option maxRecDepth 20000 in
theorem t_275_65 {d : Nat} {h : ab_H} {Q : Option Value → ab_H → Prop} {x0 : Nat} {x1 : Int32} {x2 : Int32} {x3 : Int32} {x4 : Int32} {x5 : Int32} {x6 : Int32} {x7 : Int32} {s0 : Int32} (t : ab_ok h x0 112 = true ∧ ∃ j1 : Nat, ab_r h x0 0 = some j1 ∧ ((j1 = 0 ∨ ab_ok h j1 0 = true) ∧ ab_in s0 (ab_s h j1).2 = true) ∧ if (ab_i h j1 (Int32.toNatClampNeg s0)) = x1 then (ab_ok h x0 112 = true ∧ ∃ j2 : Nat, ab_r h x0 0 = some j2 ∧ ((j2 = 0 ∨ ab_ok h j2 0 = true) ∧ ab_in (s0 + 1) (ab_s h j2).2 = true) ∧ if (ab_i h j2 (Int32.toNatClampNeg (s0 + 1))) ≤ x6 then (wq d 275 17 [.ref x0, .int x1, .int x2, .int x3, .int x4, .int x5, .int x6, .int (x7 + 1), .int s0] [] h Q) else (ab_ok h x0 112 = true ∧ ∃ j3 : Nat, ab_r h x0 0 = some j3 ∧ ((j3 = 0 ∨ ab_ok h j3 0 = true) ∧ ab_in (s0 + 1) (ab_s h j3).2 = true) ∧ wq d 275 17 [.ref x0, .int x1, .int x2, .int x3, .int x4, .int x5, .int (ab_i h j3 (Int32.toNatClampNeg (s0 + 1))), .int (x7 + 1), .int s0] [] h Q)) else (wq d 275 17 [.ref x0, .int x1, .int x2, .int x3, .int x4, .int x5, .int x6, .int (x7 + 1), .int s0] [] h Q)) : wq d 275 65 [.ref x0, .int x1, .int x2, .int x3, .int x4, .int x5, .int x6, .int x7, .retAddr 0] [.int s0] h Q := by
  refine g6 (L' := [.ref x0, .int x1, .int x2, .int x3, .int x4, .int x5, .int x6, .int x7, .int s0]) c_275_65 rfl ?_
  refine g5 c_275_67 rfl ?_
  obtain ⟨ho, j1, hr, t⟩ := t
  refine g45 c_275_68 ho hr ?_
  refine g3 c_275_71 rfl ?_
  obtain ⟨ho, t⟩ := t
  refine g50 c_275_73 ho ?_
  refine g3 c_275_74 rfl ?_
  refine gcm c_275_75 (gbn t (ab_c1 _ _) rfl (fun hc t => ?_) (fun hc t => ?_))
  · refine g5 c_275_78 rfl ?_
    obtain ⟨ho, j2, hr, t⟩ := t
    refine g45 c_275_79 ho hr ?_
    refine g3 c_275_82 rfl ?_
    refine g1 c_275_84 k_1 ?_
    refine g10 c_275_85 ?_
    obtain ⟨ho, t⟩ := t
    refine g50 c_275_86 ho ?_
    refine g3 c_275_87 rfl ?_
    refine gcm c_275_89 (gbr t rfl rfl (fun hc t => ?_) (fun hc t => ?_))
    · refine g9 (L' := [.ref x0, .int x1, .int x2, .int x3, .int x4, .int x5, .int x6, .int (x7 + 1), .int s0]) c_275_103 rfl k_1 rfl ?_
      refine g38 c_275_106 rfl ?_
      exact t
    · refine g5 c_275_92 rfl ?_
      obtain ⟨ho, j3, hr, t⟩ := t
      refine g45 c_275_93 ho hr ?_
      refine g3 c_275_96 rfl ?_
      refine g1 c_275_98 k_1 ?_
      refine g10 c_275_99 ?_
      obtain ⟨ho, t⟩ := t
      refine g50 c_275_100 ho ?_
      refine g6 (L' := [.ref x0, .int x1, .int x2, .int x3, .int x4, .int x5, .int (ab_i h j3 (Int32.toNatClampNeg (s0 + 1))), .int x7, .int s0]) c_275_101 rfl ?_
      refine g9 (L' := [.ref x0, .int x1, .int x2, .int x3, .int x4, .int x5, .int (ab_i h j3 (Int32.toNatClampNeg (s0 + 1))), .int (x7 + 1), .int s0]) c_275_103 rfl k_1 rfl ?_
      refine g38 c_275_106 rfl ?_
      exact t
  · refine g9 (L' := [.ref x0, .int x1, .int x2, .int x3, .int x4, .int x5, .int x6, .int (x7 + 1), .int s0]) c_275_103 rfl k_1 rfl ?_
    refine g38 c_275_106 rfl ?_
    exact t
-- method 276: MillTownModel.hoursOf(IIII)I
theorem c_276_0 : pg_cd 276 0 = (5, 1, 0, 0, 0) := by decide +kernel
theorem c_276_1 : pg_cd 276 1 = (1, 2, 0, 0, 7) := by decide +kernel
theorem c_276_3 : pg_cd 276 3 = (3, 1, 0, 2, 0) := by decide +kernel
theorem c_276_4 : pg_cd 276 4 = (3, 1, 0, 3, 0) := by decide +kernel
theorem c_276_5 : pg_cd 276 5 = (3, 2, 0, 4, 0) := by decide +kernel
theorem c_276_7 : pg_cd 276 7 = (80, 268, 315, 0, 0) := by decide +kernel
theorem c_276_10 : pg_cd 276 10 = (6, 2, 0, 5, 0) := by decide +kernel
theorem c_276_12 : pg_cd 276 12 = (3, 2, 0, 5, 0) := by decide +kernel
theorem c_276_14 : pg_cd 276 14 = (36, 3, 0, 3, 8) := by decide +kernel
theorem c_276_17 : pg_cd 276 17 = (1, 2, 0, 0, 60) := by decide +kernel
theorem c_276_19 : pg_cd 276 19 = (38, 3, 0, 0, 4) := by decide +kernel
theorem c_276_22 : pg_cd 276 22 = (1, 1, 0, 0, (-1)) := by decide +kernel
theorem c_276_23 : pg_cd 276 23 = (6, 2, 0, 6, 0) := by decide +kernel
theorem c_276_25 : pg_cd 276 25 = (1, 1, 0, 0, 0) := by decide +kernel
theorem c_276_26 : pg_cd 276 26 = (6, 2, 0, 7, 0) := by decide +kernel
theorem c_276_28 : pg_cd 276 28 = (3, 2, 0, 5, 0) := by decide +kernel
theorem c_276_30 : pg_cd 276 30 = (36, 3, 0, 2, 107) := by decide +kernel
theorem c_276_33 : pg_cd 276 33 = (3, 2, 0, 7, 0) := by decide +kernel
theorem c_276_35 : pg_cd 276 35 = (5, 1, 0, 0, 0) := by decide +kernel
theorem c_276_36 : pg_cd 276 36 = (5, 1, 0, 0, 0) := by decide +kernel
theorem c_276_37 : pg_cd 276 37 = (45, 12, 8, 0, 0) := by decide +kernel
theorem c_276_40 : pg_cd 276 40 = (1, 3, 0, 0, 5012) := by decide +kernel
theorem c_276_43 : pg_cd 276 43 = (1, 2, 0, 0, 8) := by decide +kernel
theorem c_276_45 : pg_cd 276 45 = (3, 2, 0, 5, 0) := by decide +kernel
theorem c_276_47 : pg_cd 276 47 = (12, 1, 0, 0, 0) := by decide +kernel
theorem c_276_48 : pg_cd 276 48 = (10, 1, 0, 0, 0) := by decide +kernel
theorem c_276_49 : pg_cd 276 49 = (50, 1, 0, 0, 0) := by decide +kernel
theorem c_276_50 : pg_cd 276 50 = (80, 266, 296, 0, 0) := by decide +kernel
theorem c_276_53 : pg_cd 276 53 = (37, 3, 0, 3, 84) := by decide +kernel
theorem c_276_56 : pg_cd 276 56 = (3, 2, 0, 6, 0) := by decide +kernel
theorem c_276_58 : pg_cd 276 58 = (36, 3, 0, 3, 79) := by decide +kernel
theorem c_276_61 : pg_cd 276 61 = (5, 1, 0, 0, 0) := by decide +kernel
theorem c_276_62 : pg_cd 276 62 = (5, 1, 0, 0, 0) := by decide +kernel
theorem c_276_63 : pg_cd 276 63 = (45, 12, 8, 0, 0) := by decide +kernel
theorem c_276_66 : pg_cd 276 66 = (1, 3, 0, 0, 5012) := by decide +kernel
theorem c_276_69 : pg_cd 276 69 = (1, 2, 0, 0, 8) := by decide +kernel
theorem c_276_71 : pg_cd 276 71 = (3, 2, 0, 5, 0) := by decide +kernel
theorem c_276_73 : pg_cd 276 73 = (12, 1, 0, 0, 0) := by decide +kernel
theorem c_276_74 : pg_cd 276 74 = (10, 1, 0, 0, 0) := by decide +kernel
theorem c_276_75 : pg_cd 276 75 = (50, 1, 0, 0, 0) := by decide +kernel
theorem c_276_76 : pg_cd 276 76 = (3, 2, 0, 7, 0) := by decide +kernel
theorem c_276_78 : pg_cd 276 78 = (80, 265, 299, 0, 0) := by decide +kernel
theorem c_276_81 : pg_cd 276 81 = (6, 2, 0, 8, 0) := by decide +kernel
theorem c_276_83 : pg_cd 276 83 = (5, 1, 0, 0, 0) := by decide +kernel
theorem c_276_84 : pg_cd 276 84 = (45, 12, 8, 0, 0) := by decide +kernel
theorem c_276_87 : pg_cd 276 87 = (3, 2, 0, 8, 0) := by decide +kernel
theorem c_276_89 : pg_cd 276 89 = (50, 1, 0, 0, 0) := by decide +kernel
theorem c_276_90 : pg_cd 276 90 = (1, 2, 0, 0, 7) := by decide +kernel
theorem c_276_92 : pg_cd 276 92 = (37, 3, 0, 1, 39) := by decide +kernel
theorem c_276_95 : pg_cd 276 95 = (3, 1, 0, 1, 0) := by decide +kernel
theorem c_276_96 : pg_cd 276 96 = (5, 1, 0, 0, 0) := by decide +kernel
theorem c_276_97 : pg_cd 276 97 = (45, 12, 8, 0, 0) := by decide +kernel
theorem c_276_100 : pg_cd 276 100 = (3, 2, 0, 8, 0) := by decide +kernel
theorem c_276_102 : pg_cd 276 102 = (1, 1, 0, 0, 1) := by decide +kernel
theorem c_276_103 : pg_cd 276 103 = (10, 1, 0, 0, 0) := by decide +kernel
theorem c_276_104 : pg_cd 276 104 = (50, 1, 0, 0, 0) := by decide +kernel
theorem c_276_105 : pg_cd 276 105 = (5, 1, 0, 0, 0) := by decide +kernel
theorem c_276_106 : pg_cd 276 106 = (45, 12, 8, 0, 0) := by decide +kernel
theorem c_276_109 : pg_cd 276 109 = (3, 2, 0, 8, 0) := by decide +kernel
theorem c_276_111 : pg_cd 276 111 = (1, 1, 0, 0, 2) := by decide +kernel
theorem c_276_112 : pg_cd 276 112 = (10, 1, 0, 0, 0) := by decide +kernel
theorem c_276_113 : pg_cd 276 113 = (50, 1, 0, 0, 0) := by decide +kernel
theorem c_276_114 : pg_cd 276 114 = (81, 196, 76, 0, 0) := by decide +kernel
theorem c_276_117 : pg_cd 276 117 = (36, 3, 0, 0, 14) := by decide +kernel
theorem c_276_120 : pg_cd 276 120 = (5, 1, 0, 0, 0) := by decide +kernel
theorem c_276_121 : pg_cd 276 121 = (45, 12, 8, 0, 0) := by decide +kernel
theorem c_276_124 : pg_cd 276 124 = (3, 2, 0, 8, 0) := by decide +kernel
theorem c_276_126 : pg_cd 276 126 = (1, 1, 0, 0, 3) := by decide +kernel
theorem c_276_127 : pg_cd 276 127 = (10, 1, 0, 0, 0) := by decide +kernel
theorem c_276_128 : pg_cd 276 128 = (50, 1, 0, 0, 0) := by decide +kernel
theorem c_276_129 : pg_cd 276 129 = (6, 2, 0, 6, 0) := by decide +kernel
theorem c_276_131 : pg_cd 276 131 = (9, 3, 0, 7, 1) := by decide +kernel
theorem c_276_134 : pg_cd 276 134 = (38, 3, 0, 0, (-106)) := by decide +kernel
theorem c_276_137 : pg_cd 276 137 = (3, 2, 0, 6, 0) := by decide +kernel
theorem c_276_139 : pg_cd 276 139 = (36, 3, 0, 3, 7) := by decide +kernel
theorem c_276_142 : pg_cd 276 142 = (1, 1, 0, 0, 0) := by decide +kernel
theorem c_276_143 : pg_cd 276 143 = (38, 3, 0, 0, 5) := by decide +kernel
theorem c_276_146 : pg_cd 276 146 = (3, 2, 0, 6, 0) := by decide +kernel
theorem c_276_148 : pg_cd 276 148 = (5, 1, 0, 0, 0) := by decide +kernel
theorem c_276_149 : pg_cd 276 149 = (1, 2, 0, 0, 8) := by decide +kernel
theorem c_276_151 : pg_cd 276 151 = (3, 1, 0, 2, 0) := by decide +kernel
theorem c_276_152 : pg_cd 276 152 = (3, 1, 0, 3, 0) := by decide +kernel
theorem c_276_153 : pg_cd 276 153 = (3, 2, 0, 4, 0) := by decide +kernel
theorem c_276_155 : pg_cd 276 155 = (80, 275, 340, 0, 0) := by decide +kernel
theorem c_276_158 : pg_cd 276 158 = (11, 1, 0, 0, 0) := by decide +kernel
theorem c_276_159 : pg_cd 276 159 = (5, 1, 0, 0, 0) := by decide +kernel
theorem c_276_160 : pg_cd 276 160 = (1, 2, 0, 0, 9) := by decide +kernel
theorem c_276_162 : pg_cd 276 162 = (3, 1, 0, 2, 0) := by decide +kernel
theorem c_276_163 : pg_cd 276 163 = (3, 1, 0, 3, 0) := by decide +kernel
theorem c_276_164 : pg_cd 276 164 = (3, 2, 0, 4, 0) := by decide +kernel
theorem c_276_166 : pg_cd 276 166 = (80, 275, 340, 0, 0) := by decide +kernel
theorem c_276_169 : pg_cd 276 169 = (11, 1, 0, 0, 0) := by decide +kernel
theorem c_276_170 : pg_cd 276 170 = (6, 2, 0, 6, 0) := by decide +kernel
theorem c_276_172 : pg_cd 276 172 = (3, 2, 0, 6, 0) := by decide +kernel
theorem c_276_174 : pg_cd 276 174 = (36, 3, 0, 3, 7) := by decide +kernel
theorem c_276_177 : pg_cd 276 177 = (1, 1, 0, 0, 0) := by decide +kernel
theorem c_276_178 : pg_cd 276 178 = (38, 3, 0, 0, 5) := by decide +kernel
theorem c_276_181 : pg_cd 276 181 = (3, 2, 0, 6, 0) := by decide +kernel
theorem c_276_183 : pg_cd 276 183 = (90, 0, 0, 0, 0) := by decide +kernel
theorem mx_276 : pg_mx 276 = 9 := by decide +kernel
theorem m_276 {d : Nat} {h : ab_H} {Q : Option Value → ab_H → Prop} {x0 : Nat} {x1 : Int32} {x2 : Int32} {x3 : Int32} {x4 : Int32} (t : wq d 276 0 [.ref x0, .int x1, .int x2, .int x3, .int x4, .retAddr 0, .retAddr 0, .retAddr 0, .retAddr 0] [] h Q) : wm d 276 [.ref x0, .int x1, .int x2, .int x3, .int x4] h Q := by
  unfold wm
  rw [mx_276]
  exact t
set_option maxRecDepth 20000 in
theorem t_276_0 {d : Nat} {h : ab_H} {Q : Option Value → ab_H → Prop} {x0 : Nat} {x1 : Int32} {x2 : Int32} {x3 : Int32} {x4 : Int32} (t : ab_ok h x0 112 = true ∧ wm d 268 [.ref x0, .int 7, .int x2, .int x3, .int x4] h (fun r9 h9 => wq (d + 1) 276 10 [.ref x0, .int x1, .int x2, .int x3, .int x4, .retAddr 0, .retAddr 0, .retAddr 0, .retAddr 0] (r9.toList ++ []) h9 Q)) : wq (d + 1) 276 0 [.ref x0, .int x1, .int x2, .int x3, .int x4, .retAddr 0, .retAddr 0, .retAddr 0, .retAddr 0] [] h Q := by
  refine g5 c_276_0 rfl ?_
  refine g1 c_276_1 k_7 ?_
  refine g3 c_276_3 rfl ?_
  refine g3 c_276_4 rfl ?_
  refine g3 c_276_5 rfl ?_
  exact g80 (As := [.int 7, .int x2, .int x3, .int x4]) (rest := []) c_276_7 rfl rfl (Nat.le_of_ble_eq_true rfl) (Nat.le_of_ble_eq_true rfl) t.1 t.2
set_option maxRecDepth 20000 in
theorem t_276_10 {d : Nat} {h : ab_H} {Q : Option Value → ab_H → Prop} {x0 : Nat} {x1 : Int32} {x2 : Int32} {x3 : Int32} {x4 : Int32} {s0 : Int32} (t : if 0 ≤ s0 then (wq d 276 28 [.ref x0, .int x1, .int x2, .int x3, .int x4, .int s0, .int (-1), .int 0, .retAddr 0] [] h Q) else (wq d 276 28 [.ref x0, .int x1, .int x2, .int x3, .int x4, .int s0, .int 60, .int 0, .retAddr 0] [] h Q)) : wq d 276 10 [.ref x0, .int x1, .int x2, .int x3, .int x4, .retAddr 0, .retAddr 0, .retAddr 0, .retAddr 0] [.int s0] h Q := by
  refine g6 (L' := [.ref x0, .int x1, .int x2, .int x3, .int x4, .int s0, .retAddr 0, .retAddr 0, .retAddr 0]) c_276_10 rfl ?_
  refine g3 c_276_12 rfl ?_
  refine gif c_276_14 (gbr t rfl rfl (fun hc t => ?_) (fun hc t => ?_))
  · refine g1 c_276_22 k_m1 ?_
    refine g6 (L' := [.ref x0, .int x1, .int x2, .int x3, .int x4, .int s0, .int (-1), .retAddr 0, .retAddr 0]) c_276_23 rfl ?_
    refine g1 c_276_25 k_0 ?_
    refine g6 (L' := [.ref x0, .int x1, .int x2, .int x3, .int x4, .int s0, .int (-1), .int 0, .retAddr 0]) c_276_26 rfl ?_
    exact t
  · refine g1 c_276_17 k_60 ?_
    refine g38 c_276_19 rfl ?_
    refine g6 (L' := [.ref x0, .int x1, .int x2, .int x3, .int x4, .int s0, .int 60, .retAddr 0, .retAddr 0]) c_276_23 rfl ?_
    refine g1 c_276_25 k_0 ?_
    refine g6 (L' := [.ref x0, .int x1, .int x2, .int x3, .int x4, .int s0, .int 60, .int 0, .retAddr 0]) c_276_26 rfl ?_
    exact t
set_option maxRecDepth 20000 in
theorem t_276_28 {d : Nat} {h : ab_H} {Q : Option Value → ab_H → Prop} {x0 : Nat} {x1 : Int32} {x2 : Int32} {x3 : Int32} {x4 : Int32} {x5 : Int32} {x6 : Int32} {x7 : Int32} (t : if x5 < 0 then (if 0 ≤ x6 then (ab_ok h x0 112 = true ∧ wm d 275 [.ref x0, .int 8, .int x2, .int x3, .int x4] h (fun r9 h9 => wq (d + 1) 276 158 [.ref x0, .int x1, .int x2, .int x3, .int x4, .int x5, .int x6, .int x7, .retAddr 0] (r9.toList ++ [.int x6]) h9 Q)) else (ab_ok h x0 112 = true ∧ wm d 275 [.ref x0, .int 8, .int x2, .int x3, .int x4] h (fun r9 h9 => wq (d + 1) 276 158 [.ref x0, .int x1, .int x2, .int x3, .int x4, .int x5, .int x6, .int x7, .retAddr 0] (r9.toList ++ [.int 0]) h9 Q))) else (ab_ok h x0 112 = true ∧ ∃ j1 : Nat, ab_r h x0 0 = some j1 ∧ ((j1 = 0 ∨ ab_ok h j1 0 = true) ∧ ab_in (5012 + (8 * x5)) (ab_s h j1).2 = true) ∧ ab_ok h x0 112 = true ∧ wm d 266 [.ref x0, .int (ab_i h j1 (Int32.toNatClampNeg (5012 + (8 * x5))))] h (fun r9 h9 => wq (d + 1) 276 53 [.ref x0, .int x1, .int x2, .int x3, .int x4, .int x5, .int x6, .int x7, .retAddr 0] (r9.toList ++ [.int x7]) h9 Q))) : wq (d + 1) 276 28 [.ref x0, .int x1, .int x2, .int x3, .int x4, .int x5, .int x6, .int x7, .retAddr 0] [] h Q := by
  refine g3 c_276_28 rfl ?_
  refine gif c_276_30 (gbr t rfl rfl (fun hc t => ?_) (fun hc t => ?_))
  · refine g3 c_276_137 rfl ?_
    refine gif c_276_139 (gbr t rfl rfl (fun hc t => ?_) (fun hc t => ?_))
    · refine g3 c_276_146 rfl ?_
      refine g5 c_276_148 rfl ?_
      refine g1 c_276_149 k_8 ?_
      refine g3 c_276_151 rfl ?_
      refine g3 c_276_152 rfl ?_
      refine g3 c_276_153 rfl ?_
      exact g80 (As := [.int 8, .int x2, .int x3, .int x4]) (rest := [.int x6]) c_276_155 rfl rfl (Nat.le_of_ble_eq_true rfl) (Nat.le_of_ble_eq_true rfl) t.1 t.2
    · refine g1 c_276_142 k_0 ?_
      refine g38 c_276_143 rfl ?_
      refine g5 c_276_148 rfl ?_
      refine g1 c_276_149 k_8 ?_
      refine g3 c_276_151 rfl ?_
      refine g3 c_276_152 rfl ?_
      refine g3 c_276_153 rfl ?_
      exact g80 (As := [.int 8, .int x2, .int x3, .int x4]) (rest := [.int 0]) c_276_155 rfl rfl (Nat.le_of_ble_eq_true rfl) (Nat.le_of_ble_eq_true rfl) t.1 t.2
  · refine g3 c_276_33 rfl ?_
    refine g5 c_276_35 rfl ?_
    refine g5 c_276_36 rfl ?_
    obtain ⟨ho, j1, hr, t⟩ := t
    refine g45 c_276_37 ho hr ?_
    refine g1 c_276_40 k_5012 ?_
    refine g1 c_276_43 k_8 ?_
    refine g3 c_276_45 rfl ?_
    refine g12 c_276_47 ?_
    refine g10 c_276_48 ?_
    obtain ⟨ho, t⟩ := t
    refine g50 c_276_49 ho ?_
    exact g80 (As := [.int (ab_i h j1 (Int32.toNatClampNeg (5012 + (8 * x5))))]) (rest := [.int x7]) c_276_50 rfl rfl (Nat.le_of_ble_eq_true rfl) (Nat.le_of_ble_eq_true rfl) t.1 t.2
set_option maxRecDepth 20000 in
theorem t_276_53 {d : Nat} {h : ab_H} {Q : Option Value → ab_H → Prop} {x0 : Nat} {x1 : Int32} {x2 : Int32} {x3 : Int32} {x4 : Int32} {x5 : Int32} {x6 : Int32} {x7 : Int32} {s0 : Int32} {s1 : Int32} (t : if s1 ≤ s0 then (if 0 ≤ x6 then (ab_ok h x0 112 = true ∧ wm d 275 [.ref x0, .int 8, .int x2, .int x3, .int x4] h (fun r9 h9 => wq (d + 1) 276 158 [.ref x0, .int x1, .int x2, .int x3, .int x4, .int x5, .int x6, .int x7, .retAddr 0] (r9.toList ++ [.int x6]) h9 Q)) else (ab_ok h x0 112 = true ∧ wm d 275 [.ref x0, .int 8, .int x2, .int x3, .int x4] h (fun r9 h9 => wq (d + 1) 276 158 [.ref x0, .int x1, .int x2, .int x3, .int x4, .int x5, .int x6, .int x7, .retAddr 0] (r9.toList ++ [.int 0]) h9 Q))) else (if 0 ≤ x6 then (if 0 ≤ x6 then (ab_ok h x0 112 = true ∧ wm d 275 [.ref x0, .int 8, .int x2, .int x3, .int x4] h (fun r9 h9 => wq (d + 1) 276 158 [.ref x0, .int x1, .int x2, .int x3, .int x4, .int x5, .int x6, .int x7, .retAddr 0] (r9.toList ++ [.int x6]) h9 Q)) else (ab_ok h x0 112 = true ∧ wm d 275 [.ref x0, .int 8, .int x2, .int x3, .int x4] h (fun r9 h9 => wq (d + 1) 276 158 [.ref x0, .int x1, .int x2, .int x3, .int x4, .int x5, .int x6, .int x7, .retAddr 0] (r9.toList ++ [.int 0]) h9 Q))) else (ab_ok h x0 112 = true ∧ ∃ j1 : Nat, ab_r h x0 0 = some j1 ∧ ((j1 = 0 ∨ ab_ok h j1 0 = true) ∧ ab_in (5012 + (8 * x5)) (ab_s h j1).2 = true) ∧ ab_ok h x0 112 = true ∧ wm d 265 [.ref x0, .int (ab_i h j1 (Int32.toNatClampNeg (5012 + (8 * x5)))), .int x7] h (fun r9 h9 => wq (d + 1) 276 81 [.ref x0, .int x1, .int x2, .int x3, .int x4, .int x5, .int x6, .int x7, .retAddr 0] (r9.toList ++ []) h9 Q)))) : wq (d + 1) 276 53 [.ref x0, .int x1, .int x2, .int x3, .int x4, .int x5, .int x6, .int x7, .retAddr 0] [.int s1, .int s0] h Q := by
  refine gcm c_276_53 (gbr t rfl rfl (fun hc t => ?_) (fun hc t => ?_))
  · refine g3 c_276_137 rfl ?_
    refine gif c_276_139 (gbr t rfl rfl (fun hc t => ?_) (fun hc t => ?_))
    · refine g3 c_276_146 rfl ?_
      refine g5 c_276_148 rfl ?_
      refine g1 c_276_149 k_8 ?_
      refine g3 c_276_151 rfl ?_
      refine g3 c_276_152 rfl ?_
      refine g3 c_276_153 rfl ?_
      exact g80 (As := [.int 8, .int x2, .int x3, .int x4]) (rest := [.int x6]) c_276_155 rfl rfl (Nat.le_of_ble_eq_true rfl) (Nat.le_of_ble_eq_true rfl) t.1 t.2
    · refine g1 c_276_142 k_0 ?_
      refine g38 c_276_143 rfl ?_
      refine g5 c_276_148 rfl ?_
      refine g1 c_276_149 k_8 ?_
      refine g3 c_276_151 rfl ?_
      refine g3 c_276_152 rfl ?_
      refine g3 c_276_153 rfl ?_
      exact g80 (As := [.int 8, .int x2, .int x3, .int x4]) (rest := [.int 0]) c_276_155 rfl rfl (Nat.le_of_ble_eq_true rfl) (Nat.le_of_ble_eq_true rfl) t.1 t.2
  · refine g3 c_276_56 rfl ?_
    refine gif c_276_58 (gbr t rfl rfl (fun hc t => ?_) (fun hc t => ?_))
    · refine g3 c_276_137 rfl ?_
      refine gif c_276_139 (gbr t rfl rfl (fun hc t => ?_) (fun hc t => ?_))
      · refine g3 c_276_146 rfl ?_
        refine g5 c_276_148 rfl ?_
        refine g1 c_276_149 k_8 ?_
        refine g3 c_276_151 rfl ?_
        refine g3 c_276_152 rfl ?_
        refine g3 c_276_153 rfl ?_
        exact g80 (As := [.int 8, .int x2, .int x3, .int x4]) (rest := [.int x6]) c_276_155 rfl rfl (Nat.le_of_ble_eq_true rfl) (Nat.le_of_ble_eq_true rfl) t.1 t.2
      · refine g1 c_276_142 k_0 ?_
        refine g38 c_276_143 rfl ?_
        refine g5 c_276_148 rfl ?_
        refine g1 c_276_149 k_8 ?_
        refine g3 c_276_151 rfl ?_
        refine g3 c_276_152 rfl ?_
        refine g3 c_276_153 rfl ?_
        exact g80 (As := [.int 8, .int x2, .int x3, .int x4]) (rest := [.int 0]) c_276_155 rfl rfl (Nat.le_of_ble_eq_true rfl) (Nat.le_of_ble_eq_true rfl) t.1 t.2
    · refine g5 c_276_61 rfl ?_
      refine g5 c_276_62 rfl ?_
      obtain ⟨ho, j1, hr, t⟩ := t
      refine g45 c_276_63 ho hr ?_
      refine g1 c_276_66 k_5012 ?_
      refine g1 c_276_69 k_8 ?_
      refine g3 c_276_71 rfl ?_
      refine g12 c_276_73 ?_
      refine g10 c_276_74 ?_
      obtain ⟨ho, t⟩ := t
      refine g50 c_276_75 ho ?_
      refine g3 c_276_76 rfl ?_
      exact g80 (As := [.int (ab_i h j1 (Int32.toNatClampNeg (5012 + (8 * x5)))), .int x7]) (rest := []) c_276_78 rfl rfl (Nat.le_of_ble_eq_true rfl) (Nat.le_of_ble_eq_true rfl) t.1 t.2
set_option maxRecDepth 20000 in
theorem t_276_81 {d : Nat} {h : ab_H} {Q : Option Value → ab_H → Prop} {x0 : Nat} {x1 : Int32} {x2 : Int32} {x3 : Int32} {x4 : Int32} {x5 : Int32} {x6 : Int32} {x7 : Int32} {s0 : Int32} (t : ab_ok h x0 112 = true ∧ ∃ j1 : Nat, ab_r h x0 0 = some j1 ∧ ((j1 = 0 ∨ ab_ok h j1 0 = true) ∧ ab_in s0 (ab_s h j1).2 = true) ∧ if (ab_i h j1 (Int32.toNatClampNeg s0)) = 7 then (ab_ok h x0 112 = true ∧ ∃ j2 : Nat, ab_r h x0 0 = some j2 ∧ ((j2 = 0 ∨ ab_ok h j2 0 = true) ∧ ab_in (s0 + 1) (ab_s h j2).2 = true) ∧ ab_ok h x0 112 = true ∧ ∃ j3 : Nat, ab_r h x0 0 = some j3 ∧ ((j3 = 0 ∨ ab_ok h j3 0 = true) ∧ ab_in (s0 + 2) (ab_s h j3).2 = true) ∧ wm d 196 [.int x1, .int (ab_i h j2 (Int32.toNatClampNeg (s0 + 1))), .int (ab_i h j3 (Int32.toNatClampNeg (s0 + 2)))] h (fun r9 h9 => wq (d + 1) 276 117 [.ref x0, .int x1, .int x2, .int x3, .int x4, .int x5, .int x6, .int x7, .int s0] (r9.toList ++ []) h9 Q)) else (wq (d + 1) 276 28 [.ref x0, .int x1, .int x2, .int x3, .int x4, .int x5, .int x6, .int (x7 + 1), .int s0] [] h Q)) : wq (d + 1) 276 81 [.ref x0, .int x1, .int x2, .int x3, .int x4, .int x5, .int x6, .int x7, .retAddr 0] [.int s0] h Q := by
  refine g6 (L' := [.ref x0, .int x1, .int x2, .int x3, .int x4, .int x5, .int x6, .int x7, .int s0]) c_276_81 rfl ?_
  refine g5 c_276_83 rfl ?_
  obtain ⟨ho, j1, hr, t⟩ := t
  refine g45 c_276_84 ho hr ?_
  refine g3 c_276_87 rfl ?_
  obtain ⟨ho, t⟩ := t
  refine g50 c_276_89 ho ?_
  refine g1 c_276_90 k_7 ?_
  refine gcm c_276_92 (gbn t (ab_c1 _ _) rfl (fun hc t => ?_) (fun hc t => ?_))
  · refine g3 c_276_95 rfl ?_
    refine g5 c_276_96 rfl ?_
    obtain ⟨ho, j2, hr, t⟩ := t
    refine g45 c_276_97 ho hr ?_
    refine g3 c_276_100 rfl ?_
    refine g1 c_276_102 k_1 ?_
    refine g10 c_276_103 ?_
    obtain ⟨ho, t⟩ := t
    refine g50 c_276_104 ho ?_
    refine g5 c_276_105 rfl ?_
    obtain ⟨ho, j3, hr, t⟩ := t
    refine g45 c_276_106 ho hr ?_
    refine g3 c_276_109 rfl ?_
    refine g1 c_276_111 k_2 ?_
    refine g10 c_276_112 ?_
    obtain ⟨ho, t⟩ := t
    refine g50 c_276_113 ho ?_
    exact g81 (As := [.int x1, .int (ab_i h j2 (Int32.toNatClampNeg (s0 + 1))), .int (ab_i h j3 (Int32.toNatClampNeg (s0 + 2)))]) (rest := []) c_276_114 rfl rfl (Nat.le_of_ble_eq_true rfl) (Nat.le_of_ble_eq_true rfl) t
  · refine g9 (L' := [.ref x0, .int x1, .int x2, .int x3, .int x4, .int x5, .int x6, .int (x7 + 1), .int s0]) c_276_131 rfl k_1 rfl ?_
    refine g38 c_276_134 rfl ?_
    exact t
set_option maxRecDepth 20000 in
theorem t_276_117 {d : Nat} {h : ab_H} {Q : Option Value → ab_H → Prop} {x0 : Nat} {x1 : Int32} {x2 : Int32} {x3 : Int32} {x4 : Int32} {x5 : Int32} {x6 : Int32} {x7 : Int32} {x8 : Int32} {s0 : Int32} (t : if s0 = 0 then (wq d 276 28 [.ref x0, .int x1, .int x2, .int x3, .int x4, .int x5, .int x6, .int (x7 + 1), .int x8] [] h Q) else (ab_ok h x0 112 = true ∧ ∃ j1 : Nat, ab_r h x0 0 = some j1 ∧ ((j1 = 0 ∨ ab_ok h j1 0 = true) ∧ ab_in (x8 + 3) (ab_s h j1).2 = true) ∧ wq d 276 28 [.ref x0, .int x1, .int x2, .int x3, .int x4, .int x5, .int (ab_i h j1 (Int32.toNatClampNeg (x8 + 3))), .int (x7 + 1), .int x8] [] h Q)) : wq d 276 117 [.ref x0, .int x1, .int x2, .int x3, .int x4, .int x5, .int x6, .int x7, .int x8] [.int s0] h Q := by
  refine gif c_276_117 (gbr t rfl rfl (fun hc t => ?_) (fun hc t => ?_))
  · refine g9 (L' := [.ref x0, .int x1, .int x2, .int x3, .int x4, .int x5, .int x6, .int (x7 + 1), .int x8]) c_276_131 rfl k_1 rfl ?_
    refine g38 c_276_134 rfl ?_
    exact t
  · refine g5 c_276_120 rfl ?_
    obtain ⟨ho, j1, hr, t⟩ := t
    refine g45 c_276_121 ho hr ?_
    refine g3 c_276_124 rfl ?_
    refine g1 c_276_126 k_3 ?_
    refine g10 c_276_127 ?_
    obtain ⟨ho, t⟩ := t
    refine g50 c_276_128 ho ?_
    refine g6 (L' := [.ref x0, .int x1, .int x2, .int x3, .int x4, .int x5, .int (ab_i h j1 (Int32.toNatClampNeg (x8 + 3))), .int x7, .int x8]) c_276_129 rfl ?_
    refine g9 (L' := [.ref x0, .int x1, .int x2, .int x3, .int x4, .int x5, .int (ab_i h j1 (Int32.toNatClampNeg (x8 + 3))), .int (x7 + 1), .int x8]) c_276_131 rfl k_1 rfl ?_
    refine g38 c_276_134 rfl ?_
    exact t
set_option maxRecDepth 20000 in
theorem t_276_158 {d : Nat} {h : ab_H} {Q : Option Value → ab_H → Prop} {x0 : Nat} {x1 : Int32} {x2 : Int32} {x3 : Int32} {x4 : Int32} {x5 : Int32} {x6 : Int32} {x7 : Int32} {s0 : Int32} {s1 : Int32} (t : ab_ok h x0 112 = true ∧ wm d 275 [.ref x0, .int 9, .int x2, .int x3, .int x4] h (fun r9 h9 => wq (d + 1) 276 169 [.ref x0, .int x1, .int x2, .int x3, .int x4, .int x5, .int x6, .int x7, .retAddr 0] (r9.toList ++ [.int (s0 - s1)]) h9 Q)) : wq (d + 1) 276 158 [.ref x0, .int x1, .int x2, .int x3, .int x4, .int x5, .int x6, .int x7, .retAddr 0] [.int s1, .int s0] h Q := by
  refine g11 c_276_158 ?_
  refine g5 c_276_159 rfl ?_
  refine g1 c_276_160 k_9 ?_
  refine g3 c_276_162 rfl ?_
  refine g3 c_276_163 rfl ?_
  refine g3 c_276_164 rfl ?_
  exact g80 (As := [.int 9, .int x2, .int x3, .int x4]) (rest := [.int (s0 - s1)]) c_276_166 rfl rfl (Nat.le_of_ble_eq_true rfl) (Nat.le_of_ble_eq_true rfl) t.1 t.2
set_option maxRecDepth 20000 in
theorem t_276_169 {d : Nat} {h : ab_H} {Q : Option Value → ab_H → Prop} {x0 : Nat} {x1 : Int32} {x2 : Int32} {x3 : Int32} {x4 : Int32} {x5 : Int32} {x6 : Int32} {x7 : Int32} {s0 : Int32} {s1 : Int32} (t : if 0 ≤ (s0 - s1) then (Q (some (.int (s0 - s1))) h) else (Q (some (.int 0)) h)) : wq d 276 169 [.ref x0, .int x1, .int x2, .int x3, .int x4, .int x5, .int x6, .int x7, .retAddr 0] [.int s1, .int s0] h Q := by
  refine g11 c_276_169 ?_
  refine g6 (L' := [.ref x0, .int x1, .int x2, .int x3, .int x4, .int x5, .int (s0 - s1), .int x7, .retAddr 0]) c_276_170 rfl ?_
  refine g3 c_276_172 rfl ?_
  refine gif c_276_174 (gbr t rfl rfl (fun hc t => ?_) (fun hc t => ?_))
  · refine g3 c_276_181 rfl ?_
    exact g90 c_276_183 t
  · refine g1 c_276_177 k_0 ?_
    refine g38 c_276_178 rfl ?_
    exact g90 c_276_183 t
-- method 277: MillTownModel.hours(IIII)I
theorem c_277_0 : pg_cd 277 0 = (3, 1, 0, 1, 0) := by decide +kernel
theorem c_277_1 : pg_cd 277 1 = (1, 1, 0, 0, 0) := by decide +kernel
theorem c_277_2 : pg_cd 277 2 = (1, 2, 0, 0, 99) := by decide +kernel
theorem c_277_4 : pg_cd 277 4 = (81, 196, 76, 0, 0) := by decide +kernel
theorem c_277_7 : pg_cd 277 7 = (36, 3, 0, 0, 32) := by decide +kernel
theorem c_277_10 : pg_cd 277 10 = (5, 1, 0, 0, 0) := by decide +kernel
theorem c_277_11 : pg_cd 277 11 = (3, 1, 0, 2, 0) := by decide +kernel
theorem c_277_12 : pg_cd 277 12 = (80, 201, 115, 0, 0) := by decide +kernel
theorem c_277_15 : pg_cd 277 15 = (36, 3, 0, 0, 24) := by decide +kernel
theorem c_277_18 : pg_cd 277 18 = (3, 1, 0, 3, 0) := by decide +kernel
theorem c_277_19 : pg_cd 277 19 = (3, 2, 0, 4, 0) := by decide +kernel
theorem c_277_21 : pg_cd 277 21 = (81, 272, 334, 0, 0) := by decide +kernel
theorem c_277_24 : pg_cd 277 24 = (36, 3, 0, 0, 15) := by decide +kernel
theorem c_277_27 : pg_cd 277 27 = (5, 1, 0, 0, 0) := by decide +kernel
theorem c_277_28 : pg_cd 277 28 = (3, 1, 0, 1, 0) := by decide +kernel
theorem c_277_29 : pg_cd 277 29 = (3, 1, 0, 2, 0) := by decide +kernel
theorem c_277_30 : pg_cd 277 30 = (3, 1, 0, 3, 0) := by decide +kernel
theorem c_277_31 : pg_cd 277 31 = (3, 2, 0, 4, 0) := by decide +kernel
theorem c_277_33 : pg_cd 277 33 = (80, 276, 343, 0, 0) := by decide +kernel
theorem c_277_36 : pg_cd 277 36 = (38, 3, 0, 0, 4) := by decide +kernel
theorem c_277_39 : pg_cd 277 39 = (1, 1, 0, 0, (-1)) := by decide +kernel
theorem c_277_40 : pg_cd 277 40 = (90, 0, 0, 0, 0) := by decide +kernel
theorem mx_277 : pg_mx 277 = 5 := by decide +kernel
theorem m_277 {d : Nat} {h : ab_H} {Q : Option Value → ab_H → Prop} {x0 : Nat} {x1 : Int32} {x2 : Int32} {x3 : Int32} {x4 : Int32} (t : wq d 277 0 [.ref x0, .int x1, .int x2, .int x3, .int x4] [] h Q) : wm d 277 [.ref x0, .int x1, .int x2, .int x3, .int x4] h Q := by
  unfold wm
  rw [mx_277]
  exact t
set_option maxRecDepth 20000 in
theorem t_277_0 {d : Nat} {h : ab_H} {Q : Option Value → ab_H → Prop} {x0 : Nat} {x1 : Int32} {x2 : Int32} {x3 : Int32} {x4 : Int32} (t : wm d 196 [.int x1, .int 0, .int 99] h (fun r9 h9 => wq (d + 1) 277 7 [.ref x0, .int x1, .int x2, .int x3, .int x4] (r9.toList ++ []) h9 Q)) : wq (d + 1) 277 0 [.ref x0, .int x1, .int x2, .int x3, .int x4] [] h Q := by
  refine g3 c_277_0 rfl ?_
  refine g1 c_277_1 k_0 ?_
  refine g1 c_277_2 k_99 ?_
  exact g81 (As := [.int x1, .int 0, .int 99]) (rest := []) c_277_4 rfl rfl (Nat.le_of_ble_eq_true rfl) (Nat.le_of_ble_eq_true rfl) t
set_option maxRecDepth 20000 in
theorem t_277_7 {d : Nat} {h : ab_H} {Q : Option Value → ab_H → Prop} {x0 : Nat} {x1 : Int32} {x2 : Int32} {x3 : Int32} {x4 : Int32} {s0 : Int32} (t : if s0 = 0 then (Q (some (.int (-1))) h) else (ab_ok h x0 112 = true ∧ wm d 201 [.ref x0, .int x2] h (fun r9 h9 => wq (d + 1) 277 15 [.ref x0, .int x1, .int x2, .int x3, .int x4] (r9.toList ++ []) h9 Q))) : wq (d + 1) 277 7 [.ref x0, .int x1, .int x2, .int x3, .int x4] [.int s0] h Q := by
  refine gif c_277_7 (gbr t rfl rfl (fun hc t => ?_) (fun hc t => ?_))
  · refine g1 c_277_39 k_m1 ?_
    exact g90 c_277_40 t
  · refine g5 c_277_10 rfl ?_
    refine g3 c_277_11 rfl ?_
    exact g80 (As := [.int x2]) (rest := []) c_277_12 rfl rfl (Nat.le_of_ble_eq_true rfl) (Nat.le_of_ble_eq_true rfl) t.1 t.2
set_option maxRecDepth 20000 in
theorem t_277_15 {d : Nat} {h : ab_H} {Q : Option Value → ab_H → Prop} {x0 : Nat} {x1 : Int32} {x2 : Int32} {x3 : Int32} {x4 : Int32} {s0 : Int32} (t : if s0 = 0 then (Q (some (.int (-1))) h) else (wm d 272 [.int x3, .int x4] h (fun r9 h9 => wq (d + 1) 277 24 [.ref x0, .int x1, .int x2, .int x3, .int x4] (r9.toList ++ []) h9 Q))) : wq (d + 1) 277 15 [.ref x0, .int x1, .int x2, .int x3, .int x4] [.int s0] h Q := by
  refine gif c_277_15 (gbr t rfl rfl (fun hc t => ?_) (fun hc t => ?_))
  · refine g1 c_277_39 k_m1 ?_
    exact g90 c_277_40 t
  · refine g3 c_277_18 rfl ?_
    refine g3 c_277_19 rfl ?_
    exact g81 (As := [.int x3, .int x4]) (rest := []) c_277_21 rfl rfl (Nat.le_of_ble_eq_true rfl) (Nat.le_of_ble_eq_true rfl) t
set_option maxRecDepth 20000 in
theorem t_277_24 {d : Nat} {h : ab_H} {Q : Option Value → ab_H → Prop} {x0 : Nat} {x1 : Int32} {x2 : Int32} {x3 : Int32} {x4 : Int32} {s0 : Int32} (t : if s0 = 0 then (Q (some (.int (-1))) h) else (ab_ok h x0 112 = true ∧ wm d 276 [.ref x0, .int x1, .int x2, .int x3, .int x4] h (fun r9 h9 => wq (d + 1) 277 36 [.ref x0, .int x1, .int x2, .int x3, .int x4] (r9.toList ++ []) h9 Q))) : wq (d + 1) 277 24 [.ref x0, .int x1, .int x2, .int x3, .int x4] [.int s0] h Q := by
  refine gif c_277_24 (gbr t rfl rfl (fun hc t => ?_) (fun hc t => ?_))
  · refine g1 c_277_39 k_m1 ?_
    exact g90 c_277_40 t
  · refine g5 c_277_27 rfl ?_
    refine g3 c_277_28 rfl ?_
    refine g3 c_277_29 rfl ?_
    refine g3 c_277_30 rfl ?_
    refine g3 c_277_31 rfl ?_
    exact g80 (As := [.int x1, .int x2, .int x3, .int x4]) (rest := []) c_277_33 rfl rfl (Nat.le_of_ble_eq_true rfl) (Nat.le_of_ble_eq_true rfl) t.1 t.2
set_option maxRecDepth 20000 in
theorem t_277_36 {d : Nat} {h : ab_H} {Q : Option Value → ab_H → Prop} {x0 : Nat} {x1 : Int32} {x2 : Int32} {x3 : Int32} {x4 : Int32} {s0 : Int32} (t : Q (some (.int s0)) h) : wq d 277 36 [.ref x0, .int x1, .int x2, .int x3, .int x4] [.int s0] h Q := by
  refine g38 c_277_36 rfl ?_
  exact g90 c_277_40 t
-- method 278: MillTownModel.costOf(I)I
theorem c_278_0 : pg_cd 278 0 = (5, 1, 0, 0, 0) := by decide +kernel
theorem c_278_1 : pg_cd 278 1 = (3, 1, 0, 1, 0) := by decide +kernel
theorem c_278_2 : pg_cd 278 2 = (1, 1, 0, 0, 1) := by decide +kernel
theorem c_278_3 : pg_cd 278 3 = (80, 197, 85, 0, 0) := by decide +kernel
theorem c_278_6 : pg_cd 278 6 = (5, 1, 0, 0, 0) := by decide +kernel
theorem c_278_7 : pg_cd 278 7 = (3, 1, 0, 1, 0) := by decide +kernel
theorem c_278_8 : pg_cd 278 8 = (1, 1, 0, 0, 2) := by decide +kernel
theorem c_278_9 : pg_cd 278 9 = (80, 197, 85, 0, 0) := by decide +kernel
theorem c_278_12 : pg_cd 278 12 = (12, 1, 0, 0, 0) := by decide +kernel
theorem c_278_13 : pg_cd 278 13 = (1, 2, 0, 0, 10) := by decide +kernel
theorem c_278_15 : pg_cd 278 15 = (5, 1, 0, 0, 0) := by decide +kernel
theorem c_278_16 : pg_cd 278 16 = (3, 1, 0, 1, 0) := by decide +kernel
theorem c_278_17 : pg_cd 278 17 = (1, 1, 0, 0, 4) := by decide +kernel
theorem c_278_18 : pg_cd 278 18 = (80, 197, 85, 0, 0) := by decide +kernel
theorem c_278_21 : pg_cd 278 21 = (10, 1, 0, 0, 0) := by decide +kernel
theorem c_278_22 : pg_cd 278 22 = (12, 1, 0, 0, 0) := by decide +kernel
theorem c_278_23 : pg_cd 278 23 = (90, 0, 0, 0, 0) := by decide +kernel
theorem mx_278 : pg_mx 278 = 2 := by decide +kernel
theorem m_278 {d : Nat} {h : ab_H} {Q : Option Value → ab_H → Prop} {x0 : Nat} {x1 : Int32} (t : wq d 278 0 [.ref x0, .int x1] [] h Q) : wm d 278 [.ref x0, .int x1] h Q := by
  unfold wm
  rw [mx_278]
  exact t
set_option maxRecDepth 20000 in
theorem t_278_0 {d : Nat} {h : ab_H} {Q : Option Value → ab_H → Prop} {x0 : Nat} {x1 : Int32} (t : ab_ok h x0 112 = true ∧ wm d 197 [.ref x0, .int x1, .int 1] h (fun r9 h9 => wq (d + 1) 278 6 [.ref x0, .int x1] (r9.toList ++ []) h9 Q)) : wq (d + 1) 278 0 [.ref x0, .int x1] [] h Q := by
  refine g5 c_278_0 rfl ?_
  refine g3 c_278_1 rfl ?_
  refine g1 c_278_2 k_1 ?_
  exact g80 (As := [.int x1, .int 1]) (rest := []) c_278_3 rfl rfl (Nat.le_of_ble_eq_true rfl) (Nat.le_of_ble_eq_true rfl) t.1 t.2
set_option maxRecDepth 20000 in
theorem t_278_6 {d : Nat} {h : ab_H} {Q : Option Value → ab_H → Prop} {x0 : Nat} {x1 : Int32} {s0 : Int32} (t : ab_ok h x0 112 = true ∧ wm d 197 [.ref x0, .int x1, .int 2] h (fun r9 h9 => wq (d + 1) 278 12 [.ref x0, .int x1] (r9.toList ++ [.int s0]) h9 Q)) : wq (d + 1) 278 6 [.ref x0, .int x1] [.int s0] h Q := by
  refine g5 c_278_6 rfl ?_
  refine g3 c_278_7 rfl ?_
  refine g1 c_278_8 k_2 ?_
  exact g80 (As := [.int x1, .int 2]) (rest := [.int s0]) c_278_9 rfl rfl (Nat.le_of_ble_eq_true rfl) (Nat.le_of_ble_eq_true rfl) t.1 t.2
set_option maxRecDepth 20000 in
theorem t_278_12 {d : Nat} {h : ab_H} {Q : Option Value → ab_H → Prop} {x0 : Nat} {x1 : Int32} {s0 : Int32} {s1 : Int32} (t : ab_ok h x0 112 = true ∧ wm d 197 [.ref x0, .int x1, .int 4] h (fun r9 h9 => wq (d + 1) 278 21 [.ref x0, .int x1] (r9.toList ++ [.int 10, .int (s0 * s1)]) h9 Q)) : wq (d + 1) 278 12 [.ref x0, .int x1] [.int s1, .int s0] h Q := by
  refine g12 c_278_12 ?_
  refine g1 c_278_13 k_10 ?_
  refine g5 c_278_15 rfl ?_
  refine g3 c_278_16 rfl ?_
  refine g1 c_278_17 k_4 ?_
  exact g80 (As := [.int x1, .int 4]) (rest := [.int 10, .int (s0 * s1)]) c_278_18 rfl rfl (Nat.le_of_ble_eq_true rfl) (Nat.le_of_ble_eq_true rfl) t.1 t.2
set_option maxRecDepth 20000 in
theorem t_278_21 {d : Nat} {h : ab_H} {Q : Option Value → ab_H → Prop} {x0 : Nat} {x1 : Int32} {s0 : Int32} {s1 : Int32} {s2 : Int32} (t : Q (some (.int (s0 * (s1 + s2)))) h) : wq d 278 21 [.ref x0, .int x1] [.int s2, .int s1, .int s0] h Q := by
  refine g10 c_278_21 ?_
  refine g12 c_278_22 ?_
  exact g90 c_278_23 t
-- method 279: MillTownModel.isWeaver(II)Z
theorem c_279_0 : pg_cd 279 0 = (5, 1, 0, 0, 0) := by decide +kernel
theorem c_279_1 : pg_cd 279 1 = (3, 1, 0, 1, 0) := by decide +kernel
theorem c_279_2 : pg_cd 279 2 = (1, 1, 0, 0, 4) := by decide +kernel
theorem c_279_3 : pg_cd 279 3 = (80, 199, 102, 0, 0) := by decide +kernel
theorem c_279_6 : pg_cd 279 6 = (3, 1, 0, 2, 0) := by decide +kernel
theorem c_279_7 : pg_cd 279 7 = (37, 3, 0, 1, 21) := by decide +kernel
theorem c_279_10 : pg_cd 279 10 = (5, 1, 0, 0, 0) := by decide +kernel
theorem c_279_11 : pg_cd 279 11 = (3, 1, 0, 1, 0) := by decide +kernel
theorem c_279_12 : pg_cd 279 12 = (1, 1, 0, 0, 3) := by decide +kernel
theorem c_279_13 : pg_cd 279 13 = (80, 199, 102, 0, 0) := by decide +kernel
theorem c_279_16 : pg_cd 279 16 = (1, 1, 0, 0, 1) := by decide +kernel
theorem c_279_17 : pg_cd 279 17 = (1, 1, 0, 0, 2) := by decide +kernel
theorem c_279_18 : pg_cd 279 18 = (81, 196, 76, 0, 0) := by decide +kernel
theorem c_279_21 : pg_cd 279 21 = (36, 3, 0, 0, 7) := by decide +kernel
theorem c_279_24 : pg_cd 279 24 = (1, 1, 0, 0, 1) := by decide +kernel
theorem c_279_25 : pg_cd 279 25 = (38, 3, 0, 0, 4) := by decide +kernel
theorem c_279_28 : pg_cd 279 28 = (1, 1, 0, 0, 0) := by decide +kernel
theorem c_279_29 : pg_cd 279 29 = (91, 0, 0, 0, 0) := by decide +kernel
theorem mx_279 : pg_mx 279 = 3 := by decide +kernel
theorem m_279 {d : Nat} {h : ab_H} {Q : Option Value → ab_H → Prop} {x0 : Nat} {x1 : Int32} {x2 : Int32} (t : wq d 279 0 [.ref x0, .int x1, .int x2] [] h Q) : wm d 279 [.ref x0, .int x1, .int x2] h Q := by
  unfold wm
  rw [mx_279]
  exact t
set_option maxRecDepth 20000 in
theorem t_279_0 {d : Nat} {h : ab_H} {Q : Option Value → ab_H → Prop} {x0 : Nat} {x1 : Int32} {x2 : Int32} (t : ab_ok h x0 112 = true ∧ wm d 199 [.ref x0, .int x1, .int 4] h (fun r9 h9 => wq (d + 1) 279 6 [.ref x0, .int x1, .int x2] (r9.toList ++ []) h9 Q)) : wq (d + 1) 279 0 [.ref x0, .int x1, .int x2] [] h Q := by
  refine g5 c_279_0 rfl ?_
  refine g3 c_279_1 rfl ?_
  refine g1 c_279_2 k_4 ?_
  exact g80 (As := [.int x1, .int 4]) (rest := []) c_279_3 rfl rfl (Nat.le_of_ble_eq_true rfl) (Nat.le_of_ble_eq_true rfl) t.1 t.2
set_option maxRecDepth 20000 in
theorem t_279_6 {d : Nat} {h : ab_H} {Q : Option Value → ab_H → Prop} {x0 : Nat} {x1 : Int32} {x2 : Int32} {s0 : Int32} (t : if s0 = x2 then (ab_ok h x0 112 = true ∧ wm d 199 [.ref x0, .int x1, .int 3] h (fun r9 h9 => wq (d + 1) 279 16 [.ref x0, .int x1, .int x2] (r9.toList ++ []) h9 Q)) else (Q (some (.int 0)) h)) : wq (d + 1) 279 6 [.ref x0, .int x1, .int x2] [.int s0] h Q := by
  refine g3 c_279_6 rfl ?_
  refine gcm c_279_7 (gbn t (ab_c1 _ _) rfl (fun hc t => ?_) (fun hc t => ?_))
  · refine g5 c_279_10 rfl ?_
    refine g3 c_279_11 rfl ?_
    refine g1 c_279_12 k_3 ?_
    exact g80 (As := [.int x1, .int 3]) (rest := []) c_279_13 rfl rfl (Nat.le_of_ble_eq_true rfl) (Nat.le_of_ble_eq_true rfl) t.1 t.2
  · refine g1 c_279_28 k_0 ?_
    exact g91 c_279_29 ⟨by decide, t⟩
set_option maxRecDepth 20000 in
theorem t_279_16 {d : Nat} {h : ab_H} {Q : Option Value → ab_H → Prop} {x0 : Nat} {x1 : Int32} {x2 : Int32} {s0 : Int32} (t : wm d 196 [.int s0, .int 1, .int 2] h (fun r9 h9 => wq (d + 1) 279 21 [.ref x0, .int x1, .int x2] (r9.toList ++ []) h9 Q)) : wq (d + 1) 279 16 [.ref x0, .int x1, .int x2] [.int s0] h Q := by
  refine g1 c_279_16 k_1 ?_
  refine g1 c_279_17 k_2 ?_
  exact g81 (As := [.int s0, .int 1, .int 2]) (rest := []) c_279_18 rfl rfl (Nat.le_of_ble_eq_true rfl) (Nat.le_of_ble_eq_true rfl) t
set_option maxRecDepth 20000 in
theorem t_279_21 {d : Nat} {h : ab_H} {Q : Option Value → ab_H → Prop} {x0 : Nat} {x1 : Int32} {x2 : Int32} {s0 : Int32} (t : if s0 = 0 then (Q (some (.int 0)) h) else (Q (some (.int 1)) h)) : wq d 279 21 [.ref x0, .int x1, .int x2] [.int s0] h Q := by
  refine gif c_279_21 (gbr t rfl rfl (fun hc t => ?_) (fun hc t => ?_))
  · refine g1 c_279_28 k_0 ?_
    exact g91 c_279_29 ⟨by decide, t⟩
  · refine g1 c_279_24 k_1 ?_
    refine g38 c_279_25 rfl ?_
    exact g91 c_279_29 ⟨by decide, t⟩
-- method 280: MillTownModel.pointsOf(II)I
theorem c_280_0 : pg_cd 280 0 = (5, 1, 0, 0, 0) := by decide +kernel
theorem c_280_1 : pg_cd 280 1 = (3, 1, 0, 1, 0) := by decide +kernel
theorem c_280_2 : pg_cd 280 2 = (1, 1, 0, 0, 5) := by decide +kernel
theorem c_280_3 : pg_cd 280 3 = (80, 199, 102, 0, 0) := by decide +kernel
theorem c_280_6 : pg_cd 280 6 = (3, 1, 0, 2, 0) := by decide +kernel
theorem c_280_7 : pg_cd 280 7 = (12, 1, 0, 0, 0) := by decide +kernel
theorem c_280_8 : pg_cd 280 8 = (5, 1, 0, 0, 0) := by decide +kernel
theorem c_280_9 : pg_cd 280 9 = (5, 1, 0, 0, 0) := by decide +kernel
theorem c_280_10 : pg_cd 280 10 = (3, 1, 0, 1, 0) := by decide +kernel
theorem c_280_11 : pg_cd 280 11 = (1, 1, 0, 0, 4) := by decide +kernel
theorem c_280_12 : pg_cd 280 12 = (80, 199, 102, 0, 0) := by decide +kernel
theorem c_280_15 : pg_cd 280 15 = (1, 1, 0, 0, 1) := by decide +kernel
theorem c_280_16 : pg_cd 280 16 = (80, 198, 118, 0, 0) := by decide +kernel
theorem c_280_19 : pg_cd 280 19 = (12, 1, 0, 0, 0) := by decide +kernel
theorem c_280_20 : pg_cd 280 20 = (5, 1, 0, 0, 0) := by decide +kernel
theorem c_280_21 : pg_cd 280 21 = (3, 1, 0, 1, 0) := by decide +kernel
theorem c_280_22 : pg_cd 280 22 = (1, 1, 0, 0, 2) := by decide +kernel
theorem c_280_23 : pg_cd 280 23 = (80, 199, 102, 0, 0) := by decide +kernel
theorem c_280_26 : pg_cd 280 26 = (12, 1, 0, 0, 0) := by decide +kernel
theorem c_280_27 : pg_cd 280 27 = (90, 0, 0, 0, 0) := by decide +kernel
theorem mx_280 : pg_mx 280 = 3 := by decide +kernel
theorem m_280 {d : Nat} {h : ab_H} {Q : Option Value → ab_H → Prop} {x0 : Nat} {x1 : Int32} {x2 : Int32} (t : wq d 280 0 [.ref x0, .int x1, .int x2] [] h Q) : wm d 280 [.ref x0, .int x1, .int x2] h Q := by
  unfold wm
  rw [mx_280]
  exact t
set_option maxRecDepth 20000 in
theorem t_280_0 {d : Nat} {h : ab_H} {Q : Option Value → ab_H → Prop} {x0 : Nat} {x1 : Int32} {x2 : Int32} (t : ab_ok h x0 112 = true ∧ wm d 199 [.ref x0, .int x1, .int 5] h (fun r9 h9 => wq (d + 1) 280 6 [.ref x0, .int x1, .int x2] (r9.toList ++ []) h9 Q)) : wq (d + 1) 280 0 [.ref x0, .int x1, .int x2] [] h Q := by
  refine g5 c_280_0 rfl ?_
  refine g3 c_280_1 rfl ?_
  refine g1 c_280_2 k_5 ?_
  exact g80 (As := [.int x1, .int 5]) (rest := []) c_280_3 rfl rfl (Nat.le_of_ble_eq_true rfl) (Nat.le_of_ble_eq_true rfl) t.1 t.2
set_option maxRecDepth 20000 in
theorem t_280_6 {d : Nat} {h : ab_H} {Q : Option Value → ab_H → Prop} {x0 : Nat} {x1 : Int32} {x2 : Int32} {s0 : Int32} (t : ab_ok h x0 112 = true ∧ wm d 199 [.ref x0, .int x1, .int 4] h (fun r9 h9 => wq (d + 1) 280 15 [.ref x0, .int x1, .int x2] (r9.toList ++ [.ref x0, .int (s0 * x2)]) h9 Q)) : wq (d + 1) 280 6 [.ref x0, .int x1, .int x2] [.int s0] h Q := by
  refine g3 c_280_6 rfl ?_
  refine g12 c_280_7 ?_
  refine g5 c_280_8 rfl ?_
  refine g5 c_280_9 rfl ?_
  refine g3 c_280_10 rfl ?_
  refine g1 c_280_11 k_4 ?_
  exact g80 (As := [.int x1, .int 4]) (rest := [.ref x0, .int (s0 * x2)]) c_280_12 rfl rfl (Nat.le_of_ble_eq_true rfl) (Nat.le_of_ble_eq_true rfl) t.1 t.2
set_option maxRecDepth 20000 in
theorem t_280_15 {d : Nat} {h : ab_H} {Q : Option Value → ab_H → Prop} {x0 : Nat} {x1 : Int32} {x2 : Int32} {s0 : Int32} {s1 : Nat} {s2 : Int32} (t : ab_ok h s1 112 = true ∧ wm d 198 [.ref s1, .int s2, .int 1] h (fun r9 h9 => wq (d + 1) 280 19 [.ref x0, .int x1, .int x2] (r9.toList ++ [.int s0]) h9 Q)) : wq (d + 1) 280 15 [.ref x0, .int x1, .int x2] [.int s2, .ref s1, .int s0] h Q := by
  refine g1 c_280_15 k_1 ?_
  exact g80 (As := [.int s2, .int 1]) (rest := [.int s0]) c_280_16 rfl rfl (Nat.le_of_ble_eq_true rfl) (Nat.le_of_ble_eq_true rfl) t.1 t.2
set_option maxRecDepth 20000 in
theorem t_280_19 {d : Nat} {h : ab_H} {Q : Option Value → ab_H → Prop} {x0 : Nat} {x1 : Int32} {x2 : Int32} {s0 : Int32} {s1 : Int32} (t : ab_ok h x0 112 = true ∧ wm d 199 [.ref x0, .int x1, .int 2] h (fun r9 h9 => wq (d + 1) 280 26 [.ref x0, .int x1, .int x2] (r9.toList ++ [.int (s0 * s1)]) h9 Q)) : wq (d + 1) 280 19 [.ref x0, .int x1, .int x2] [.int s1, .int s0] h Q := by
  refine g12 c_280_19 ?_
  refine g5 c_280_20 rfl ?_
  refine g3 c_280_21 rfl ?_
  refine g1 c_280_22 k_2 ?_
  exact g80 (As := [.int x1, .int 2]) (rest := [.int (s0 * s1)]) c_280_23 rfl rfl (Nat.le_of_ble_eq_true rfl) (Nat.le_of_ble_eq_true rfl) t.1 t.2
set_option maxRecDepth 20000 in
theorem t_280_26 {d : Nat} {h : ab_H} {Q : Option Value → ab_H → Prop} {x0 : Nat} {x1 : Int32} {x2 : Int32} {s0 : Int32} {s1 : Int32} (t : Q (some (.int (s0 * s1))) h) : wq d 280 26 [.ref x0, .int x1, .int x2] [.int s1, .int s0] h Q := by
  refine g12 c_280_26 ?_
  exact g90 c_280_27 t
-- method 281: MillTownModel.canOf(II)I
theorem c_281_0 : pg_cd 281 0 = (1, 1, 0, 0, 0) := by decide +kernel
theorem c_281_1 : pg_cd 281 1 = (6, 1, 0, 3, 0) := by decide +kernel
theorem c_281_2 : pg_cd 281 2 = (1, 1, 0, 0, 0) := by decide +kernel
theorem c_281_3 : pg_cd 281 3 = (6, 2, 0, 4, 0) := by decide +kernel
theorem c_281_5 : pg_cd 281 5 = (3, 2, 0, 4, 0) := by decide +kernel
theorem c_281_7 : pg_cd 281 7 = (5, 1, 0, 0, 0) := by decide +kernel
theorem c_281_8 : pg_cd 281 8 = (45, 12, 8, 0, 0) := by decide +kernel
theorem c_281_11 : pg_cd 281 11 = (1, 1, 0, 0, 4) := by decide +kernel
theorem c_281_12 : pg_cd 281 12 = (50, 1, 0, 0, 0) := by decide +kernel
theorem c_281_13 : pg_cd 281 13 = (37, 3, 0, 3, 50) := by decide +kernel
theorem c_281_16 : pg_cd 281 16 = (5, 1, 0, 0, 0) := by decide +kernel
theorem c_281_17 : pg_cd 281 17 = (3, 2, 0, 4, 0) := by decide +kernel
theorem c_281_19 : pg_cd 281 19 = (3, 1, 0, 1, 0) := by decide +kernel
theorem c_281_20 : pg_cd 281 20 = (80, 279, 346, 0, 0) := by decide +kernel
theorem c_281_23 : pg_cd 281 23 = (36, 3, 0, 0, 34) := by decide +kernel
theorem c_281_26 : pg_cd 281 26 = (3, 1, 0, 3, 0) := by decide +kernel
theorem c_281_27 : pg_cd 281 27 = (5, 1, 0, 0, 0) := by decide +kernel
theorem c_281_28 : pg_cd 281 28 = (3, 2, 0, 4, 0) := by decide +kernel
theorem c_281_30 : pg_cd 281 30 = (1, 2, 0, 0, 7) := by decide +kernel
theorem c_281_32 : pg_cd 281 32 = (80, 199, 102, 0, 0) := by decide +kernel
theorem c_281_35 : pg_cd 281 35 = (5, 1, 0, 0, 0) := by decide +kernel
theorem c_281_36 : pg_cd 281 36 = (3, 2, 0, 4, 0) := by decide +kernel
theorem c_281_38 : pg_cd 281 38 = (5, 1, 0, 0, 0) := by decide +kernel
theorem c_281_39 : pg_cd 281 39 = (45, 12, 47, 32, 0) := by decide +kernel
theorem c_281_42 : pg_cd 281 42 = (3, 2, 0, 4, 0) := by decide +kernel
theorem c_281_44 : pg_cd 281 44 = (50, 1, 0, 0, 0) := by decide +kernel
theorem c_281_45 : pg_cd 281 45 = (80, 280, 349, 0, 0) := by decide +kernel
theorem c_281_48 : pg_cd 281 48 = (10, 1, 0, 0, 0) := by decide +kernel
theorem c_281_49 : pg_cd 281 49 = (5, 1, 0, 0, 0) := by decide +kernel
theorem c_281_50 : pg_cd 281 50 = (3, 1, 0, 2, 0) := by decide +kernel
theorem c_281_51 : pg_cd 281 51 = (80, 278, 352, 0, 0) := by decide +kernel
theorem c_281_54 : pg_cd 281 54 = (16, 1, 0, 0, 0) := by decide +kernel
theorem c_281_55 : pg_cd 281 55 = (10, 1, 0, 0, 0) := by decide +kernel
theorem c_281_56 : pg_cd 281 56 = (6, 1, 0, 3, 0) := by decide +kernel
theorem c_281_57 : pg_cd 281 57 = (9, 3, 0, 4, 1) := by decide +kernel
theorem c_281_60 : pg_cd 281 60 = (38, 3, 0, 0, (-55)) := by decide +kernel
theorem c_281_63 : pg_cd 281 63 = (3, 1, 0, 3, 0) := by decide +kernel
theorem c_281_64 : pg_cd 281 64 = (90, 0, 0, 0, 0) := by decide +kernel
theorem mx_281 : pg_mx 281 = 5 := by decide +kernel
theorem m_281 {d : Nat} {h : ab_H} {Q : Option Value → ab_H → Prop} {x0 : Nat} {x1 : Int32} {x2 : Int32} (t : wq d 281 0 [.ref x0, .int x1, .int x2, .retAddr 0, .retAddr 0] [] h Q) : wm d 281 [.ref x0, .int x1, .int x2] h Q := by
  unfold wm
  rw [mx_281]
  exact t
set_option maxRecDepth 20000 in
theorem t_281_0 {d : Nat} {h : ab_H} {Q : Option Value → ab_H → Prop} {x0 : Nat} {x1 : Int32} {x2 : Int32} (t : wq d 281 5 [.ref x0, .int x1, .int x2, .int 0, .int 0] [] h Q) : wq d 281 0 [.ref x0, .int x1, .int x2, .retAddr 0, .retAddr 0] [] h Q := by
  refine g1 c_281_0 k_0 ?_
  refine g6 (L' := [.ref x0, .int x1, .int x2, .int 0, .retAddr 0]) c_281_1 rfl ?_
  refine g1 c_281_2 k_0 ?_
  refine g6 (L' := [.ref x0, .int x1, .int x2, .int 0, .int 0]) c_281_3 rfl ?_
  exact t
set_option maxRecDepth 20000 in
theorem t_281_5 {d : Nat} {h : ab_H} {Q : Option Value → ab_H → Prop} {x0 : Nat} {x1 : Int32} {x2 : Int32} {x3 : Int32} {x4 : Int32} (t : ab_ok h x0 112 = true ∧ ∃ j1 : Nat, ab_r h x0 0 = some j1 ∧ ((j1 = 0 ∨ ab_ok h j1 0 = true) ∧ ab_in (4 : Int32) (ab_s h j1).2 = true) ∧ if (ab_i h j1 (Int32.toNatClampNeg (4 : Int32))) ≤ x4 then (Q (some (.int x3)) h) else (ab_ok h x0 112 = true ∧ wm d 279 [.ref x0, .int x4, .int x1] h (fun r9 h9 => wq (d + 1) 281 23 [.ref x0, .int x1, .int x2, .int x3, .int x4] (r9.toList ++ []) h9 Q))) : wq (d + 1) 281 5 [.ref x0, .int x1, .int x2, .int x3, .int x4] [] h Q := by
  refine g3 c_281_5 rfl ?_
  refine g5 c_281_7 rfl ?_
  obtain ⟨ho, j1, hr, t⟩ := t
  refine g45 c_281_8 ho hr ?_
  refine g1 c_281_11 k_4 ?_
  obtain ⟨ho, t⟩ := t
  refine g50 c_281_12 ho ?_
  refine gcm c_281_13 (gbr t rfl rfl (fun hc t => ?_) (fun hc t => ?_))
  · refine g3 c_281_63 rfl ?_
    exact g90 c_281_64 t
  · refine g5 c_281_16 rfl ?_
    refine g3 c_281_17 rfl ?_
    refine g3 c_281_19 rfl ?_
    exact g80 (As := [.int x4, .int x1]) (rest := []) c_281_20 rfl rfl (Nat.le_of_ble_eq_true rfl) (Nat.le_of_ble_eq_true rfl) t.1 t.2
set_option maxRecDepth 20000 in
theorem t_281_23 {d : Nat} {h : ab_H} {Q : Option Value → ab_H → Prop} {x0 : Nat} {x1 : Int32} {x2 : Int32} {x3 : Int32} {x4 : Int32} {s0 : Int32} (t : if s0 = 0 then (wq (d + 1) 281 5 [.ref x0, .int x1, .int x2, .int x3, .int (x4 + 1)] [] h Q) else (ab_ok h x0 112 = true ∧ wm d 199 [.ref x0, .int x4, .int 7] h (fun r9 h9 => wq (d + 1) 281 35 [.ref x0, .int x1, .int x2, .int x3, .int x4] (r9.toList ++ [.int x3]) h9 Q))) : wq (d + 1) 281 23 [.ref x0, .int x1, .int x2, .int x3, .int x4] [.int s0] h Q := by
  refine gif c_281_23 (gbr t rfl rfl (fun hc t => ?_) (fun hc t => ?_))
  · refine g9 (L' := [.ref x0, .int x1, .int x2, .int x3, .int (x4 + 1)]) c_281_57 rfl k_1 rfl ?_
    refine g38 c_281_60 rfl ?_
    exact t
  · refine g3 c_281_26 rfl ?_
    refine g5 c_281_27 rfl ?_
    refine g3 c_281_28 rfl ?_
    refine g1 c_281_30 k_7 ?_
    exact g80 (As := [.int x4, .int 7]) (rest := [.int x3]) c_281_32 rfl rfl (Nat.le_of_ble_eq_true rfl) (Nat.le_of_ble_eq_true rfl) t.1 t.2
set_option maxRecDepth 20000 in
theorem t_281_35 {d : Nat} {h : ab_H} {Q : Option Value → ab_H → Prop} {x0 : Nat} {x1 : Int32} {x2 : Int32} {x3 : Int32} {x4 : Int32} {s0 : Int32} {s1 : Int32} (t : ab_ok h x0 112 = true ∧ ∃ j1 : Nat, ab_r h x0 32 = some j1 ∧ ((j1 = 0 ∨ ab_ok h j1 0 = true) ∧ ab_in x4 (ab_s h j1).2 = true) ∧ ab_ok h x0 112 = true ∧ wm d 280 [.ref x0, .int x4, .int (ab_i h j1 (Int32.toNatClampNeg x4))] h (fun r9 h9 => wq (d + 1) 281 48 [.ref x0, .int x1, .int x2, .int x3, .int x4] (r9.toList ++ [.int s1, .int s0]) h9 Q)) : wq (d + 1) 281 35 [.ref x0, .int x1, .int x2, .int x3, .int x4] [.int s1, .int s0] h Q := by
  refine g5 c_281_35 rfl ?_
  refine g3 c_281_36 rfl ?_
  refine g5 c_281_38 rfl ?_
  obtain ⟨ho, j1, hr, t⟩ := t
  refine g45 c_281_39 ho hr ?_
  refine g3 c_281_42 rfl ?_
  obtain ⟨ho, t⟩ := t
  refine g50 c_281_44 ho ?_
  exact g80 (As := [.int x4, .int (ab_i h j1 (Int32.toNatClampNeg x4))]) (rest := [.int s1, .int s0]) c_281_45 rfl rfl (Nat.le_of_ble_eq_true rfl) (Nat.le_of_ble_eq_true rfl) t.1 t.2
set_option maxRecDepth 20000 in
theorem t_281_48 {d : Nat} {h : ab_H} {Q : Option Value → ab_H → Prop} {x0 : Nat} {x1 : Int32} {x2 : Int32} {x3 : Int32} {x4 : Int32} {s0 : Int32} {s1 : Int32} {s2 : Int32} (t : ab_ok h x0 112 = true ∧ wm d 278 [.ref x0, .int x2] h (fun r9 h9 => wq (d + 1) 281 54 [.ref x0, .int x1, .int x2, .int x3, .int x4] (r9.toList ++ [.int (s1 + s2), .int s0]) h9 Q)) : wq (d + 1) 281 48 [.ref x0, .int x1, .int x2, .int x3, .int x4] [.int s2, .int s1, .int s0] h Q := by
  refine g10 c_281_48 ?_
  refine g5 c_281_49 rfl ?_
  refine g3 c_281_50 rfl ?_
  exact g80 (As := [.int x2]) (rest := [.int (s1 + s2), .int s0]) c_281_51 rfl rfl (Nat.le_of_ble_eq_true rfl) (Nat.le_of_ble_eq_true rfl) t.1 t.2
set_option maxRecDepth 20000 in
theorem t_281_54 {d : Nat} {h : ab_H} {Q : Option Value → ab_H → Prop} {x0 : Nat} {x1 : Int32} {x2 : Int32} {x3 : Int32} {x4 : Int32} {s0 : Int32} {s1 : Int32} {s2 : Int32} (t : ¬ (s2 : Int32) = 0 ∧ wq d 281 5 [.ref x0, .int x1, .int x2, .int (s0 + (s1 / s2)), .int (x4 + 1)] [] h Q) : wq d 281 54 [.ref x0, .int x1, .int x2, .int x3, .int x4] [.int s2, .int s1, .int s0] h Q := by
  obtain ⟨hy, t⟩ := t
  refine g16 c_281_54 hy ?_
  refine g10 c_281_55 ?_
  refine g6 (L' := [.ref x0, .int x1, .int x2, .int (s0 + (s1 / s2)), .int x4]) c_281_56 rfl ?_
  refine g9 (L' := [.ref x0, .int x1, .int x2, .int (s0 + (s1 / s2)), .int (x4 + 1)]) c_281_57 rfl k_1 rfl ?_
  refine g38 c_281_60 rfl ?_
  exact t
-- method 282: MillTownModel.choose(II)V
theorem c_282_0 : pg_cd 282 0 = (1, 1, 0, 0, (-1)) := by decide +kernel
theorem c_282_1 : pg_cd 282 1 = (6, 1, 0, 3, 0) := by decide +kernel
theorem c_282_2 : pg_cd 282 2 = (1, 1, 0, 0, 0) := by decide +kernel
theorem c_282_3 : pg_cd 282 3 = (6, 2, 0, 4, 0) := by decide +kernel
theorem c_282_5 : pg_cd 282 5 = (1, 1, 0, 0, 0) := by decide +kernel
theorem c_282_6 : pg_cd 282 6 = (6, 2, 0, 5, 0) := by decide +kernel
theorem c_282_8 : pg_cd 282 8 = (3, 2, 0, 5, 0) := by decide +kernel
theorem c_282_10 : pg_cd 282 10 = (5, 1, 0, 0, 0) := by decide +kernel
theorem c_282_11 : pg_cd 282 11 = (45, 12, 8, 0, 0) := by decide +kernel
theorem c_282_14 : pg_cd 282 14 = (1, 2, 0, 0, 7) := by decide +kernel
theorem c_282_16 : pg_cd 282 16 = (50, 1, 0, 0, 0) := by decide +kernel
theorem c_282_17 : pg_cd 282 17 = (37, 3, 0, 3, 181) := by decide +kernel
theorem c_282_20 : pg_cd 282 20 = (1, 3, 0, 0, 4372) := by decide +kernel
theorem c_282_23 : pg_cd 282 23 = (1, 2, 0, 0, 8) := by decide +kernel
theorem c_282_25 : pg_cd 282 25 = (3, 2, 0, 5, 0) := by decide +kernel
theorem c_282_27 : pg_cd 282 27 = (12, 1, 0, 0, 0) := by decide +kernel
theorem c_282_28 : pg_cd 282 28 = (10, 1, 0, 0, 0) := by decide +kernel
theorem c_282_29 : pg_cd 282 29 = (6, 2, 0, 6, 0) := by decide +kernel
theorem c_282_31 : pg_cd 282 31 = (3, 1, 0, 2, 0) := by decide +kernel
theorem c_282_32 : pg_cd 282 32 = (5, 1, 0, 0, 0) := by decide +kernel
theorem c_282_33 : pg_cd 282 33 = (45, 12, 8, 0, 0) := by decide +kernel
theorem c_282_36 : pg_cd 282 36 = (3, 2, 0, 6, 0) := by decide +kernel
theorem c_282_38 : pg_cd 282 38 = (1, 1, 0, 0, 3) := by decide +kernel
theorem c_282_39 : pg_cd 282 39 = (10, 1, 0, 0, 0) := by decide +kernel
theorem c_282_40 : pg_cd 282 40 = (50, 1, 0, 0, 0) := by decide +kernel
theorem c_282_41 : pg_cd 282 41 = (5, 1, 0, 0, 0) := by decide +kernel
theorem c_282_42 : pg_cd 282 42 = (45, 12, 8, 0, 0) := by decide +kernel
theorem c_282_45 : pg_cd 282 45 = (3, 2, 0, 6, 0) := by decide +kernel
theorem c_282_47 : pg_cd 282 47 = (1, 1, 0, 0, 4) := by decide +kernel
theorem c_282_48 : pg_cd 282 48 = (10, 1, 0, 0, 0) := by decide +kernel
theorem c_282_49 : pg_cd 282 49 = (50, 1, 0, 0, 0) := by decide +kernel
theorem c_282_50 : pg_cd 282 50 = (81, 196, 76, 0, 0) := by decide +kernel
theorem c_282_53 : pg_cd 282 53 = (36, 3, 0, 0, 139) := by decide +kernel
theorem c_282_56 : pg_cd 282 56 = (5, 1, 0, 0, 0) := by decide +kernel
theorem c_282_57 : pg_cd 282 57 = (45, 12, 8, 0, 0) := by decide +kernel
theorem c_282_60 : pg_cd 282 60 = (3, 2, 0, 6, 0) := by decide +kernel
theorem c_282_62 : pg_cd 282 62 = (1, 1, 0, 0, 1) := by decide +kernel
theorem c_282_63 : pg_cd 282 63 = (10, 1, 0, 0, 0) := by decide +kernel
theorem c_282_64 : pg_cd 282 64 = (50, 1, 0, 0, 0) := by decide +kernel
theorem c_282_65 : pg_cd 282 65 = (5, 1, 0, 0, 0) := by decide +kernel
theorem c_282_66 : pg_cd 282 66 = (45, 12, 8, 0, 0) := by decide +kernel
theorem c_282_69 : pg_cd 282 69 = (3, 2, 0, 6, 0) := by decide +kernel
theorem c_282_71 : pg_cd 282 71 = (1, 1, 0, 0, 5) := by decide +kernel
theorem c_282_72 : pg_cd 282 72 = (10, 1, 0, 0, 0) := by decide +kernel
theorem c_282_73 : pg_cd 282 73 = (50, 1, 0, 0, 0) := by decide +kernel
theorem c_282_74 : pg_cd 282 74 = (11, 1, 0, 0, 0) := by decide +kernel
theorem c_282_75 : pg_cd 282 75 = (36, 3, 0, 4, 6) := by decide +kernel
theorem c_282_78 : pg_cd 282 78 = (38, 3, 0, 0, 114) := by decide +kernel
theorem c_282_81 : pg_cd 282 81 = (5, 1, 0, 0, 0) := by decide +kernel
theorem c_282_82 : pg_cd 282 82 = (45, 12, 8, 0, 0) := by decide +kernel
theorem c_282_85 : pg_cd 282 85 = (3, 2, 0, 6, 0) := by decide +kernel
theorem c_282_87 : pg_cd 282 87 = (1, 1, 0, 0, 2) := by decide +kernel
theorem c_282_88 : pg_cd 282 88 = (10, 1, 0, 0, 0) := by decide +kernel
theorem c_282_89 : pg_cd 282 89 = (50, 1, 0, 0, 0) := by decide +kernel
theorem c_282_90 : pg_cd 282 90 = (5, 1, 0, 0, 0) := by decide +kernel
theorem c_282_91 : pg_cd 282 91 = (45, 12, 8, 0, 0) := by decide +kernel
theorem c_282_94 : pg_cd 282 94 = (1, 2, 0, 0, 11) := by decide +kernel
theorem c_282_96 : pg_cd 282 96 = (50, 1, 0, 0, 0) := by decide +kernel
theorem c_282_97 : pg_cd 282 97 = (11, 1, 0, 0, 0) := by decide +kernel
theorem c_282_98 : pg_cd 282 98 = (5, 1, 0, 0, 0) := by decide +kernel
theorem c_282_99 : pg_cd 282 99 = (5, 1, 0, 0, 0) := by decide +kernel
theorem c_282_100 : pg_cd 282 100 = (45, 12, 8, 0, 0) := by decide +kernel
theorem c_282_103 : pg_cd 282 103 = (3, 2, 0, 6, 0) := by decide +kernel
theorem c_282_105 : pg_cd 282 105 = (50, 1, 0, 0, 0) := by decide +kernel
theorem c_282_106 : pg_cd 282 106 = (3, 1, 0, 1, 0) := by decide +kernel
theorem c_282_107 : pg_cd 282 107 = (3, 1, 0, 2, 0) := by decide +kernel
theorem c_282_108 : pg_cd 282 108 = (3, 1, 0, 2, 0) := by decide +kernel
theorem c_282_109 : pg_cd 282 109 = (80, 271, 337, 0, 0) := by decide +kernel
theorem c_282_112 : pg_cd 282 112 = (11, 1, 0, 0, 0) := by decide +kernel
theorem c_282_113 : pg_cd 282 113 = (5, 1, 0, 0, 0) := by decide +kernel
theorem c_282_114 : pg_cd 282 114 = (5, 1, 0, 0, 0) := by decide +kernel
theorem c_282_115 : pg_cd 282 115 = (45, 12, 8, 0, 0) := by decide +kernel
theorem c_282_118 : pg_cd 282 118 = (3, 2, 0, 6, 0) := by decide +kernel
theorem c_282_120 : pg_cd 282 120 = (50, 1, 0, 0, 0) := by decide +kernel
theorem c_282_121 : pg_cd 282 121 = (1, 1, 0, 0, 3) := by decide +kernel
theorem c_282_122 : pg_cd 282 122 = (80, 197, 85, 0, 0) := by decide +kernel
theorem c_282_125 : pg_cd 282 125 = (5, 1, 0, 0, 0) := by decide +kernel
theorem c_282_126 : pg_cd 282 126 = (43, 12, 355, 29, 0) := by decide +kernel
theorem c_282_129 : pg_cd 282 129 = (12, 1, 0, 0, 0) := by decide +kernel
theorem c_282_130 : pg_cd 282 130 = (1, 3, 0, 0, 400) := by decide +kernel
theorem c_282_133 : pg_cd 282 133 = (16, 1, 0, 0, 0) := by decide +kernel
theorem c_282_134 : pg_cd 282 134 = (11, 1, 0, 0, 0) := by decide +kernel
theorem c_282_135 : pg_cd 282 135 = (6, 2, 0, 7, 0) := by decide +kernel
theorem c_282_137 : pg_cd 282 137 = (3, 1, 0, 3, 0) := by decide +kernel
theorem c_282_138 : pg_cd 282 138 = (36, 3, 0, 2, 47) := by decide +kernel
theorem c_282_141 : pg_cd 282 141 = (3, 2, 0, 7, 0) := by decide +kernel
theorem c_282_143 : pg_cd 282 143 = (3, 2, 0, 4, 0) := by decide +kernel
theorem c_282_145 : pg_cd 282 145 = (37, 3, 0, 2, 47) := by decide +kernel
theorem c_282_148 : pg_cd 282 148 = (3, 2, 0, 7, 0) := by decide +kernel
theorem c_282_150 : pg_cd 282 150 = (3, 2, 0, 4, 0) := by decide +kernel
theorem c_282_152 : pg_cd 282 152 = (37, 3, 0, 1, 33) := by decide +kernel
theorem c_282_155 : pg_cd 282 155 = (5, 1, 0, 0, 0) := by decide +kernel
theorem c_282_156 : pg_cd 282 156 = (45, 12, 8, 0, 0) := by decide +kernel
theorem c_282_159 : pg_cd 282 159 = (3, 2, 0, 6, 0) := by decide +kernel
theorem c_282_161 : pg_cd 282 161 = (1, 1, 0, 0, 4) := by decide +kernel
theorem c_282_162 : pg_cd 282 162 = (10, 1, 0, 0, 0) := by decide +kernel
theorem c_282_163 : pg_cd 282 163 = (50, 1, 0, 0, 0) := by decide +kernel
theorem c_282_164 : pg_cd 282 164 = (5, 1, 0, 0, 0) := by decide +kernel
theorem c_282_165 : pg_cd 282 165 = (45, 12, 8, 0, 0) := by decide +kernel
theorem c_282_168 : pg_cd 282 168 = (1, 3, 0, 0, 4372) := by decide +kernel
theorem c_282_171 : pg_cd 282 171 = (1, 2, 0, 0, 8) := by decide +kernel
theorem c_282_173 : pg_cd 282 173 = (3, 1, 0, 3, 0) := by decide +kernel
theorem c_282_174 : pg_cd 282 174 = (12, 1, 0, 0, 0) := by decide +kernel
theorem c_282_175 : pg_cd 282 175 = (10, 1, 0, 0, 0) := by decide +kernel
theorem c_282_176 : pg_cd 282 176 = (1, 1, 0, 0, 4) := by decide +kernel
theorem c_282_177 : pg_cd 282 177 = (10, 1, 0, 0, 0) := by decide +kernel
theorem c_282_178 : pg_cd 282 178 = (50, 1, 0, 0, 0) := by decide +kernel
theorem c_282_179 : pg_cd 282 179 = (37, 3, 0, 2, 6) := by decide +kernel
theorem c_282_182 : pg_cd 282 182 = (38, 3, 0, 0, 10) := by decide +kernel
theorem c_282_185 : pg_cd 282 185 = (3, 2, 0, 5, 0) := by decide +kernel
theorem c_282_187 : pg_cd 282 187 = (6, 1, 0, 3, 0) := by decide +kernel
theorem c_282_188 : pg_cd 282 188 = (3, 2, 0, 7, 0) := by decide +kernel
theorem c_282_190 : pg_cd 282 190 = (6, 2, 0, 4, 0) := by decide +kernel
theorem c_282_192 : pg_cd 282 192 = (9, 3, 0, 5, 1) := by decide +kernel
theorem c_282_195 : pg_cd 282 195 = (38, 3, 0, 0, (-187)) := by decide +kernel
theorem c_282_198 : pg_cd 282 198 = (3, 1, 0, 3, 0) := by decide +kernel
theorem c_282_199 : pg_cd 282 199 = (36, 3, 0, 2, 14) := by decide +kernel
theorem c_282_202 : pg_cd 282 202 = (3, 2, 0, 4, 0) := by decide +kernel
theorem c_282_204 : pg_cd 282 204 = (5, 1, 0, 0, 0) := by decide +kernel
theorem c_282_205 : pg_cd 282 205 = (3, 1, 0, 1, 0) := by decide +kernel
theorem c_282_206 : pg_cd 282 206 = (1, 1, 0, 0, 3) := by decide +kernel
theorem c_282_207 : pg_cd 282 207 = (80, 198, 118, 0, 0) := by decide +kernel
theorem c_282_210 : pg_cd 282 210 = (37, 3, 0, 3, 4) := by decide +kernel
theorem c_282_213 : pg_cd 282 213 = (94, 0, 0, 0, 0) := by decide +kernel
theorem c_282_214 : pg_cd 282 214 = (1, 3, 0, 0, 3300) := by decide +kernel
theorem c_282_217 : pg_cd 282 217 = (1, 2, 0, 0, 16) := by decide +kernel
theorem c_282_219 : pg_cd 282 219 = (3, 1, 0, 1, 0) := by decide +kernel
theorem c_282_220 : pg_cd 282 220 = (12, 1, 0, 0, 0) := by decide +kernel
theorem c_282_221 : pg_cd 282 221 = (10, 1, 0, 0, 0) := by decide +kernel
theorem c_282_222 : pg_cd 282 222 = (6, 2, 0, 5, 0) := by decide +kernel
theorem c_282_224 : pg_cd 282 224 = (1, 3, 0, 0, 4372) := by decide +kernel
theorem c_282_227 : pg_cd 282 227 = (1, 2, 0, 0, 8) := by decide +kernel
theorem c_282_229 : pg_cd 282 229 = (3, 1, 0, 3, 0) := by decide +kernel
theorem c_282_230 : pg_cd 282 230 = (12, 1, 0, 0, 0) := by decide +kernel
theorem c_282_231 : pg_cd 282 231 = (10, 1, 0, 0, 0) := by decide +kernel
theorem c_282_232 : pg_cd 282 232 = (6, 2, 0, 6, 0) := by decide +kernel
theorem c_282_234 : pg_cd 282 234 = (5, 1, 0, 0, 0) := by decide +kernel
theorem c_282_235 : pg_cd 282 235 = (45, 12, 8, 0, 0) := by decide +kernel
theorem c_282_238 : pg_cd 282 238 = (3, 2, 0, 6, 0) := by decide +kernel
theorem c_282_240 : pg_cd 282 240 = (50, 1, 0, 0, 0) := by decide +kernel
theorem c_282_241 : pg_cd 282 241 = (5, 1, 0, 0, 0) := by decide +kernel
theorem c_282_242 : pg_cd 282 242 = (45, 12, 8, 0, 0) := by decide +kernel
theorem c_282_245 : pg_cd 282 245 = (3, 2, 0, 5, 0) := by decide +kernel
theorem c_282_247 : pg_cd 282 247 = (1, 2, 0, 0, 7) := by decide +kernel
theorem c_282_249 : pg_cd 282 249 = (10, 1, 0, 0, 0) := by decide +kernel
theorem c_282_250 : pg_cd 282 250 = (50, 1, 0, 0, 0) := by decide +kernel
theorem c_282_251 : pg_cd 282 251 = (37, 3, 0, 0, 51) := by decide +kernel
theorem c_282_254 : pg_cd 282 254 = (1, 1, 0, 0, 0) := by decide +kernel
theorem c_282_255 : pg_cd 282 255 = (6, 2, 0, 7, 0) := by decide +kernel
theorem c_282_257 : pg_cd 282 257 = (3, 2, 0, 7, 0) := by decide +kernel
theorem c_282_259 : pg_cd 282 259 = (5, 1, 0, 0, 0) := by decide +kernel
theorem c_282_260 : pg_cd 282 260 = (45, 12, 8, 0, 0) := by decide +kernel
theorem c_282_263 : pg_cd 282 263 = (1, 1, 0, 0, 4) := by decide +kernel
theorem c_282_264 : pg_cd 282 264 = (50, 1, 0, 0, 0) := by decide +kernel
theorem c_282_265 : pg_cd 282 265 = (37, 3, 0, 3, 37) := by decide +kernel
theorem c_282_268 : pg_cd 282 268 = (5, 1, 0, 0, 0) := by decide +kernel
theorem c_282_269 : pg_cd 282 269 = (3, 2, 0, 7, 0) := by decide +kernel
theorem c_282_271 : pg_cd 282 271 = (3, 1, 0, 1, 0) := by decide +kernel
theorem c_282_272 : pg_cd 282 272 = (80, 279, 346, 0, 0) := by decide +kernel
theorem c_282_275 : pg_cd 282 275 = (36, 3, 0, 0, 21) := by decide +kernel
theorem c_282_278 : pg_cd 282 278 = (5, 1, 0, 0, 0) := by decide +kernel
theorem c_282_279 : pg_cd 282 279 = (45, 12, 8, 0, 0) := by decide +kernel
theorem c_282_282 : pg_cd 282 282 = (1, 3, 0, 0, 3652) := by decide +kernel
theorem c_282_285 : pg_cd 282 285 = (1, 2, 0, 0, 12) := by decide +kernel
theorem c_282_287 : pg_cd 282 287 = (3, 2, 0, 7, 0) := by decide +kernel
theorem c_282_289 : pg_cd 282 289 = (12, 1, 0, 0, 0) := by decide +kernel
theorem c_282_290 : pg_cd 282 290 = (10, 1, 0, 0, 0) := by decide +kernel
theorem c_282_291 : pg_cd 282 291 = (1, 2, 0, 0, 7) := by decide +kernel
theorem c_282_293 : pg_cd 282 293 = (10, 1, 0, 0, 0) := by decide +kernel
theorem c_282_294 : pg_cd 282 294 = (1, 1, 0, 0, 0) := by decide +kernel
theorem c_282_295 : pg_cd 282 295 = (54, 1, 0, 0, 0) := by decide +kernel
theorem c_282_296 : pg_cd 282 296 = (9, 3, 0, 7, 1) := by decide +kernel
theorem c_282_299 : pg_cd 282 299 = (38, 3, 0, 0, (-42)) := by decide +kernel
theorem c_282_302 : pg_cd 282 302 = (5, 1, 0, 0, 0) := by decide +kernel
theorem c_282_303 : pg_cd 282 303 = (45, 12, 8, 0, 0) := by decide +kernel
theorem c_282_306 : pg_cd 282 306 = (3, 2, 0, 5, 0) := by decide +kernel
theorem c_282_308 : pg_cd 282 308 = (1, 2, 0, 0, 7) := by decide +kernel
theorem c_282_310 : pg_cd 282 310 = (10, 1, 0, 0, 0) := by decide +kernel
theorem c_282_311 : pg_cd 282 311 = (5, 1, 0, 0, 0) := by decide +kernel
theorem c_282_312 : pg_cd 282 312 = (45, 12, 8, 0, 0) := by decide +kernel
theorem c_282_315 : pg_cd 282 315 = (3, 2, 0, 6, 0) := by decide +kernel
theorem c_282_317 : pg_cd 282 317 = (50, 1, 0, 0, 0) := by decide +kernel
theorem c_282_318 : pg_cd 282 318 = (54, 1, 0, 0, 0) := by decide +kernel
theorem c_282_319 : pg_cd 282 319 = (5, 1, 0, 0, 0) := by decide +kernel
theorem c_282_320 : pg_cd 282 320 = (3, 1, 0, 1, 0) := by decide +kernel
theorem c_282_321 : pg_cd 282 321 = (5, 1, 0, 0, 0) := by decide +kernel
theorem c_282_322 : pg_cd 282 322 = (45, 12, 8, 0, 0) := by decide +kernel
theorem c_282_325 : pg_cd 282 325 = (3, 2, 0, 6, 0) := by decide +kernel
theorem c_282_327 : pg_cd 282 327 = (50, 1, 0, 0, 0) := by decide +kernel
theorem c_282_328 : pg_cd 282 328 = (80, 281, 358, 0, 0) := by decide +kernel
theorem c_282_331 : pg_cd 282 331 = (6, 2, 0, 7, 0) := by decide +kernel
theorem c_282_333 : pg_cd 282 333 = (3, 2, 0, 7, 0) := by decide +kernel
theorem c_282_335 : pg_cd 282 335 = (36, 3, 0, 1, 4) := by decide +kernel
theorem c_282_338 : pg_cd 282 338 = (94, 0, 0, 0, 0) := by decide +kernel
theorem c_282_339 : pg_cd 282 339 = (5, 1, 0, 0, 0) := by decide +kernel
theorem c_282_340 : pg_cd 282 340 = (45, 12, 8, 0, 0) := by decide +kernel
theorem c_282_343 : pg_cd 282 343 = (3, 2, 0, 6, 0) := by decide +kernel
theorem c_282_345 : pg_cd 282 345 = (1, 1, 0, 0, 1) := by decide +kernel
theorem c_282_346 : pg_cd 282 346 = (10, 1, 0, 0, 0) := by decide +kernel
theorem c_282_347 : pg_cd 282 347 = (50, 1, 0, 0, 0) := by decide +kernel
theorem c_282_348 : pg_cd 282 348 = (5, 1, 0, 0, 0) := by decide +kernel
theorem c_282_349 : pg_cd 282 349 = (45, 12, 8, 0, 0) := by decide +kernel
theorem c_282_352 : pg_cd 282 352 = (3, 2, 0, 6, 0) := by decide +kernel
theorem c_282_354 : pg_cd 282 354 = (1, 1, 0, 0, 5) := by decide +kernel
theorem c_282_355 : pg_cd 282 355 = (10, 1, 0, 0, 0) := by decide +kernel
theorem c_282_356 : pg_cd 282 356 = (50, 1, 0, 0, 0) := by decide +kernel
theorem c_282_357 : pg_cd 282 357 = (11, 1, 0, 0, 0) := by decide +kernel
theorem c_282_358 : pg_cd 282 358 = (6, 2, 0, 8, 0) := by decide +kernel
theorem c_282_360 : pg_cd 282 360 = (5, 1, 0, 0, 0) := by decide +kernel
theorem c_282_361 : pg_cd 282 361 = (45, 12, 8, 0, 0) := by decide +kernel
theorem c_282_364 : pg_cd 282 364 = (3, 2, 0, 5, 0) := by decide +kernel
theorem c_282_366 : pg_cd 282 366 = (1, 2, 0, 0, 11) := by decide +kernel
theorem c_282_368 : pg_cd 282 368 = (10, 1, 0, 0, 0) := by decide +kernel
theorem c_282_369 : pg_cd 282 369 = (3, 2, 0, 7, 0) := by decide +kernel
theorem c_282_371 : pg_cd 282 371 = (3, 2, 0, 8, 0) := by decide +kernel
theorem c_282_373 : pg_cd 282 373 = (37, 3, 0, 3, 8) := by decide +kernel
theorem c_282_376 : pg_cd 282 376 = (3, 2, 0, 7, 0) := by decide +kernel
theorem c_282_378 : pg_cd 282 378 = (38, 3, 0, 0, 5) := by decide +kernel
theorem c_282_381 : pg_cd 282 381 = (3, 2, 0, 8, 0) := by decide +kernel
theorem c_282_383 : pg_cd 282 383 = (54, 1, 0, 0, 0) := by decide +kernel
theorem c_282_384 : pg_cd 282 384 = (5, 1, 0, 0, 0) := by decide +kernel
theorem c_282_385 : pg_cd 282 385 = (45, 12, 8, 0, 0) := by decide +kernel
theorem c_282_388 : pg_cd 282 388 = (3, 2, 0, 6, 0) := by decide +kernel
theorem c_282_390 : pg_cd 282 390 = (1, 1, 0, 0, 5) := by decide +kernel
theorem c_282_391 : pg_cd 282 391 = (10, 1, 0, 0, 0) := by decide +kernel
theorem c_282_392 : pg_cd 282 392 = (34, 1, 0, 0, 0) := by decide +kernel
theorem c_282_393 : pg_cd 282 393 = (50, 1, 0, 0, 0) := by decide +kernel
theorem c_282_394 : pg_cd 282 394 = (5, 1, 0, 0, 0) := by decide +kernel
theorem c_282_395 : pg_cd 282 395 = (45, 12, 8, 0, 0) := by decide +kernel
theorem c_282_398 : pg_cd 282 398 = (3, 2, 0, 5, 0) := by decide +kernel
theorem c_282_400 : pg_cd 282 400 = (1, 2, 0, 0, 11) := by decide +kernel
theorem c_282_402 : pg_cd 282 402 = (10, 1, 0, 0, 0) := by decide +kernel
theorem c_282_403 : pg_cd 282 403 = (50, 1, 0, 0, 0) := by decide +kernel
theorem c_282_404 : pg_cd 282 404 = (10, 1, 0, 0, 0) := by decide +kernel
theorem c_282_405 : pg_cd 282 405 = (54, 1, 0, 0, 0) := by decide +kernel
theorem c_282_406 : pg_cd 282 406 = (5, 1, 0, 0, 0) := by decide +kernel
theorem c_282_407 : pg_cd 282 407 = (45, 12, 8, 0, 0) := by decide +kernel
theorem c_282_410 : pg_cd 282 410 = (3, 2, 0, 5, 0) := by decide +kernel
theorem c_282_412 : pg_cd 282 412 = (1, 2, 0, 0, 9) := by decide +kernel
theorem c_282_414 : pg_cd 282 414 = (10, 1, 0, 0, 0) := by decide +kernel
theorem c_282_415 : pg_cd 282 415 = (3, 1, 0, 3, 0) := by decide +kernel
theorem c_282_416 : pg_cd 282 416 = (54, 1, 0, 0, 0) := by decide +kernel
theorem c_282_417 : pg_cd 282 417 = (5, 1, 0, 0, 0) := by decide +kernel
theorem c_282_418 : pg_cd 282 418 = (45, 12, 8, 0, 0) := by decide +kernel
theorem c_282_421 : pg_cd 282 421 = (3, 2, 0, 5, 0) := by decide +kernel
theorem c_282_423 : pg_cd 282 423 = (1, 2, 0, 0, 8) := by decide +kernel
theorem c_282_425 : pg_cd 282 425 = (10, 1, 0, 0, 0) := by decide +kernel
theorem c_282_426 : pg_cd 282 426 = (1, 1, 0, 0, 2) := by decide +kernel
theorem c_282_427 : pg_cd 282 427 = (5, 1, 0, 0, 0) := by decide +kernel
theorem c_282_428 : pg_cd 282 428 = (45, 12, 8, 0, 0) := by decide +kernel
theorem c_282_431 : pg_cd 282 431 = (3, 2, 0, 5, 0) := by decide +kernel
theorem c_282_433 : pg_cd 282 433 = (1, 2, 0, 0, 11) := by decide +kernel
theorem c_282_435 : pg_cd 282 435 = (10, 1, 0, 0, 0) := by decide +kernel
theorem c_282_436 : pg_cd 282 436 = (50, 1, 0, 0, 0) := by decide +kernel
theorem c_282_437 : pg_cd 282 437 = (12, 1, 0, 0, 0) := by decide +kernel
theorem c_282_438 : pg_cd 282 438 = (3, 2, 0, 7, 0) := by decide +kernel
theorem c_282_440 : pg_cd 282 440 = (37, 3, 0, 2, 21) := by decide +kernel
theorem c_282_443 : pg_cd 282 443 = (5, 1, 0, 0, 0) := by decide +kernel
theorem c_282_444 : pg_cd 282 444 = (43, 12, 355, 29, 0) := by decide +kernel
theorem c_282_447 : pg_cd 282 447 = (5, 1, 0, 0, 0) := by decide +kernel
theorem c_282_448 : pg_cd 282 448 = (45, 12, 8, 0, 0) := by decide +kernel
theorem c_282_451 : pg_cd 282 451 = (1, 2, 0, 0, 12) := by decide +kernel
theorem c_282_453 : pg_cd 282 453 = (50, 1, 0, 0, 0) := by decide +kernel
theorem c_282_454 : pg_cd 282 454 = (37, 3, 0, 4, 7) := by decide +kernel
theorem c_282_457 : pg_cd 282 457 = (1, 1, 0, 0, 2) := by decide +kernel
theorem c_282_458 : pg_cd 282 458 = (38, 3, 0, 0, 4) := by decide +kernel
theorem c_282_461 : pg_cd 282 461 = (1, 1, 0, 0, 1) := by decide +kernel
theorem c_282_462 : pg_cd 282 462 = (54, 1, 0, 0, 0) := by decide +kernel
theorem c_282_463 : pg_cd 282 463 = (94, 0, 0, 0, 0) := by decide +kernel
theorem mx_282 : pg_mx 282 = 9 := by decide +kernel
theorem m_282 {d : Nat} {h : ab_H} {Q : Option Value → ab_H → Prop} {x0 : Nat} {x1 : Int32} {x2 : Int32} (t : wq d 282 0 [.ref x0, .int x1, .int x2, .retAddr 0, .retAddr 0, .retAddr 0, .retAddr 0, .retAddr 0, .retAddr 0] [] h Q) : wm d 282 [.ref x0, .int x1, .int x2] h Q := by
  unfold wm
  rw [mx_282]
  exact t
set_option maxRecDepth 20000 in
theorem t_282_0 {d : Nat} {h : ab_H} {Q : Option Value → ab_H → Prop} {x0 : Nat} {x1 : Int32} {x2 : Int32} (t : wq d 282 8 [.ref x0, .int x1, .int x2, .int (-1), .int 0, .int 0, .retAddr 0, .retAddr 0, .retAddr 0] [] h Q) : wq d 282 0 [.ref x0, .int x1, .int x2, .retAddr 0, .retAddr 0, .retAddr 0, .retAddr 0, .retAddr 0, .retAddr 0] [] h Q := by
  refine g1 c_282_0 k_m1 ?_
  refine g6 (L' := [.ref x0, .int x1, .int x2, .int (-1), .retAddr 0, .retAddr 0, .retAddr 0, .retAddr 0, .retAddr 0]) c_282_1 rfl ?_
  refine g1 c_282_2 k_0 ?_
  refine g6 (L' := [.ref x0, .int x1, .int x2, .int (-1), .int 0, .retAddr 0, .retAddr 0, .retAddr 0, .retAddr 0]) c_282_3 rfl ?_
  refine g1 c_282_5 k_0 ?_
  refine g6 (L' := [.ref x0, .int x1, .int x2, .int (-1), .int 0, .int 0, .retAddr 0, .retAddr 0, .retAddr 0]) c_282_6 rfl ?_
  exact t
set_option maxRecDepth 20000 in
theorem t_282_8 {d : Nat} {h : ab_H} {Q : Option Value → ab_H → Prop} {x0 : Nat} {x1 : Int32} {x2 : Int32} {x3 : Int32} {x4 : Int32} {x5 : Int32} (t : ab_ok h x0 112 = true ∧ ∃ j1 : Nat, ab_r h x0 0 = some j1 ∧ ((j1 = 0 ∨ ab_ok h j1 0 = true) ∧ ab_in (7 : Int32) (ab_s h j1).2 = true) ∧ if (ab_i h j1 (Int32.toNatClampNeg (7 : Int32))) ≤ x5 then (if x3 < 0 then (Q none h) else (ab_ok h x0 112 = true ∧ wm d 198 [.ref x0, .int x1, .int 3] h (fun r9 h9 => wq (d + 1) 282 210 [.ref x0, .int x1, .int x2, .int x3, .int x4, .int x5, .retAddr 0, .retAddr 0, .retAddr 0] (r9.toList ++ [.int x4]) h9 Q))) else (ab_ok h x0 112 = true ∧ ∃ j2 : Nat, ab_r h x0 0 = some j2 ∧ ((j2 = 0 ∨ ab_ok h j2 0 = true) ∧ ab_in ((4372 + (8 * x5)) + 3) (ab_s h j2).2 = true) ∧ ab_ok h x0 112 = true ∧ ∃ j3 : Nat, ab_r h x0 0 = some j3 ∧ ((j3 = 0 ∨ ab_ok h j3 0 = true) ∧ ab_in ((4372 + (8 * x5)) + 4) (ab_s h j3).2 = true) ∧ wm d 196 [.int x2, .int (ab_i h j2 (Int32.toNatClampNeg ((4372 + (8 * x5)) + 3))), .int (ab_i h j3 (Int32.toNatClampNeg ((4372 + (8 * x5)) + 4)))] h (fun r9 h9 => wq (d + 1) 282 53 [.ref x0, .int x1, .int x2, .int x3, .int x4, .int x5, .int (4372 + (8 * x5)), .retAddr 0, .retAddr 0] (r9.toList ++ []) h9 Q))) : wq (d + 1) 282 8 [.ref x0, .int x1, .int x2, .int x3, .int x4, .int x5, .retAddr 0, .retAddr 0, .retAddr 0] [] h Q := by
  refine g3 c_282_8 rfl ?_
  refine g5 c_282_10 rfl ?_
  obtain ⟨ho, j1, hr, t⟩ := t
  refine g45 c_282_11 ho hr ?_
  refine g1 c_282_14 k_7 ?_
  obtain ⟨ho, t⟩ := t
  refine g50 c_282_16 ho ?_
  refine gcm c_282_17 (gbr t rfl rfl (fun hc t => ?_) (fun hc t => ?_))
  · refine g3 c_282_198 rfl ?_
    refine gif c_282_199 (gbr t rfl rfl (fun hc t => ?_) (fun hc t => ?_))
    · exact g94 c_282_213 t
    · refine g3 c_282_202 rfl ?_
      refine g5 c_282_204 rfl ?_
      refine g3 c_282_205 rfl ?_
      refine g1 c_282_206 k_3 ?_
      exact g80 (As := [.int x1, .int 3]) (rest := [.int x4]) c_282_207 rfl rfl (Nat.le_of_ble_eq_true rfl) (Nat.le_of_ble_eq_true rfl) t.1 t.2
  · refine g1 c_282_20 k_4372 ?_
    refine g1 c_282_23 k_8 ?_
    refine g3 c_282_25 rfl ?_
    refine g12 c_282_27 ?_
    refine g10 c_282_28 ?_
    refine g6 (L' := [.ref x0, .int x1, .int x2, .int x3, .int x4, .int x5, .int (4372 + (8 * x5)), .retAddr 0, .retAddr 0]) c_282_29 rfl ?_
    refine g3 c_282_31 rfl ?_
    refine g5 c_282_32 rfl ?_
    obtain ⟨ho, j2, hr, t⟩ := t
    refine g45 c_282_33 ho hr ?_
    refine g3 c_282_36 rfl ?_
    refine g1 c_282_38 k_3 ?_
    refine g10 c_282_39 ?_
    obtain ⟨ho, t⟩ := t
    refine g50 c_282_40 ho ?_
    refine g5 c_282_41 rfl ?_
    obtain ⟨ho, j3, hr, t⟩ := t
    refine g45 c_282_42 ho hr ?_
    refine g3 c_282_45 rfl ?_
    refine g1 c_282_47 k_4 ?_
    refine g10 c_282_48 ?_
    obtain ⟨ho, t⟩ := t
    refine g50 c_282_49 ho ?_
    exact g81 (As := [.int x2, .int (ab_i h j2 (Int32.toNatClampNeg ((4372 + (8 * x5)) + 3))), .int (ab_i h j3 (Int32.toNatClampNeg ((4372 + (8 * x5)) + 4)))]) (rest := []) c_282_50 rfl rfl (Nat.le_of_ble_eq_true rfl) (Nat.le_of_ble_eq_true rfl) t
set_option maxRecDepth 20000 in
theorem t_282_53 {d : Nat} {h : ab_H} {Q : Option Value → ab_H → Prop} {x0 : Nat} {x1 : Int32} {x2 : Int32} {x3 : Int32} {x4 : Int32} {x5 : Int32} {x6 : Int32} {s0 : Int32} (t : if s0 = 0 then (wq (d + 1) 282 8 [.ref x0, .int x1, .int x2, .int x3, .int x4, .int (x5 + 1), .int x6, .retAddr 0, .retAddr 0] [] h Q) else (ab_ok h x0 112 = true ∧ ∃ j1 : Nat, ab_r h x0 0 = some j1 ∧ ((j1 = 0 ∨ ab_ok h j1 0 = true) ∧ ab_in (x6 + 1) (ab_s h j1).2 = true) ∧ ab_ok h x0 112 = true ∧ ∃ j2 : Nat, ab_r h x0 0 = some j2 ∧ ((j2 = 0 ∨ ab_ok h j2 0 = true) ∧ ab_in (x6 + 5) (ab_s h j2).2 = true) ∧ if 0 < ((ab_i h j1 (Int32.toNatClampNeg (x6 + 1))) - (ab_i h j2 (Int32.toNatClampNeg (x6 + 5)))) then (ab_ok h x0 112 = true ∧ ∃ j3 : Nat, ab_r h x0 0 = some j3 ∧ ((j3 = 0 ∨ ab_ok h j3 0 = true) ∧ ab_in (x6 + 2) (ab_s h j3).2 = true) ∧ ab_ok h x0 112 = true ∧ ∃ j4 : Nat, ab_r h x0 0 = some j4 ∧ ((j4 = 0 ∨ ab_ok h j4 0 = true) ∧ ab_in (11 : Int32) (ab_s h j4).2 = true) ∧ ab_ok h x0 112 = true ∧ ∃ j5 : Nat, ab_r h x0 0 = some j5 ∧ ((j5 = 0 ∨ ab_ok h j5 0 = true) ∧ ab_in x6 (ab_s h j5).2 = true) ∧ ab_ok h x0 112 = true ∧ wm d 271 [.ref x0, .int (ab_i h j5 (Int32.toNatClampNeg x6)), .int x1, .int x2, .int x2] h (fun r9 h9 => wq (d + 1) 282 112 [.ref x0, .int x1, .int x2, .int x3, .int x4, .int x5, .int x6, .retAddr 0, .retAddr 0] (r9.toList ++ [.int ((ab_i h j3 (Int32.toNatClampNeg (x6 + 2))) - (ab_i h j4 (Int32.toNatClampNeg (11 : Int32))))]) h9 Q)) else (wq (d + 1) 282 8 [.ref x0, .int x1, .int x2, .int x3, .int x4, .int (x5 + 1), .int x6, .retAddr 0, .retAddr 0] [] h Q))) : wq (d + 1) 282 53 [.ref x0, .int x1, .int x2, .int x3, .int x4, .int x5, .int x6, .retAddr 0, .retAddr 0] [.int s0] h Q := by
  refine gif c_282_53 (gbr t rfl rfl (fun hc t => ?_) (fun hc t => ?_))
  · refine g9 (L' := [.ref x0, .int x1, .int x2, .int x3, .int x4, .int (x5 + 1), .int x6, .retAddr 0, .retAddr 0]) c_282_192 rfl k_1 rfl ?_
    refine g38 c_282_195 rfl ?_
    exact t
  · refine g5 c_282_56 rfl ?_
    obtain ⟨ho, j1, hr, t⟩ := t
    refine g45 c_282_57 ho hr ?_
    refine g3 c_282_60 rfl ?_
    refine g1 c_282_62 k_1 ?_
    refine g10 c_282_63 ?_
    obtain ⟨ho, t⟩ := t
    refine g50 c_282_64 ho ?_
    refine g5 c_282_65 rfl ?_
    obtain ⟨ho, j2, hr, t⟩ := t
    refine g45 c_282_66 ho hr ?_
    refine g3 c_282_69 rfl ?_
    refine g1 c_282_71 k_5 ?_
    refine g10 c_282_72 ?_
    obtain ⟨ho, t⟩ := t
    refine g50 c_282_73 ho ?_
    refine g11 c_282_74 ?_
    refine gif c_282_75 (gbr t rfl rfl (fun hc t => ?_) (fun hc t => ?_))
    · refine g5 c_282_81 rfl ?_
      obtain ⟨ho, j3, hr, t⟩ := t
      refine g45 c_282_82 ho hr ?_
      refine g3 c_282_85 rfl ?_
      refine g1 c_282_87 k_2 ?_
      refine g10 c_282_88 ?_
      obtain ⟨ho, t⟩ := t
      refine g50 c_282_89 ho ?_
      refine g5 c_282_90 rfl ?_
      obtain ⟨ho, j4, hr, t⟩ := t
      refine g45 c_282_91 ho hr ?_
      refine g1 c_282_94 k_11 ?_
      obtain ⟨ho, t⟩ := t
      refine g50 c_282_96 ho ?_
      refine g11 c_282_97 ?_
      refine g5 c_282_98 rfl ?_
      refine g5 c_282_99 rfl ?_
      obtain ⟨ho, j5, hr, t⟩ := t
      refine g45 c_282_100 ho hr ?_
      refine g3 c_282_103 rfl ?_
      obtain ⟨ho, t⟩ := t
      refine g50 c_282_105 ho ?_
      refine g3 c_282_106 rfl ?_
      refine g3 c_282_107 rfl ?_
      refine g3 c_282_108 rfl ?_
      exact g80 (As := [.int (ab_i h j5 (Int32.toNatClampNeg x6)), .int x1, .int x2, .int x2]) (rest := [.int ((ab_i h j3 (Int32.toNatClampNeg (x6 + 2))) - (ab_i h j4 (Int32.toNatClampNeg (11 : Int32))))]) c_282_109 rfl rfl (Nat.le_of_ble_eq_true rfl) (Nat.le_of_ble_eq_true rfl) t.1 t.2
    · refine g38 c_282_78 rfl ?_
      refine g9 (L' := [.ref x0, .int x1, .int x2, .int x3, .int x4, .int (x5 + 1), .int x6, .retAddr 0, .retAddr 0]) c_282_192 rfl k_1 rfl ?_
      refine g38 c_282_195 rfl ?_
      exact t
set_option maxRecDepth 20000 in
theorem t_282_112 {d : Nat} {h : ab_H} {Q : Option Value → ab_H → Prop} {x0 : Nat} {x1 : Int32} {x2 : Int32} {x3 : Int32} {x4 : Int32} {x5 : Int32} {x6 : Int32} {s0 : Int32} {s1 : Int32} (t : ab_ok h x0 112 = true ∧ ∃ j1 : Nat, ab_r h x0 0 = some j1 ∧ ((j1 = 0 ∨ ab_ok h j1 0 = true) ∧ ab_in x6 (ab_s h j1).2 = true) ∧ ab_ok h x0 112 = true ∧ wm d 197 [.ref x0, .int (ab_i h j1 (Int32.toNatClampNeg x6)), .int 3] h (fun r9 h9 => wq (d + 1) 282 125 [.ref x0, .int x1, .int x2, .int x3, .int x4, .int x5, .int x6, .retAddr 0, .retAddr 0] (r9.toList ++ [.int (s0 - s1)]) h9 Q)) : wq (d + 1) 282 112 [.ref x0, .int x1, .int x2, .int x3, .int x4, .int x5, .int x6, .retAddr 0, .retAddr 0] [.int s1, .int s0] h Q := by
  refine g11 c_282_112 ?_
  refine g5 c_282_113 rfl ?_
  refine g5 c_282_114 rfl ?_
  obtain ⟨ho, j1, hr, t⟩ := t
  refine g45 c_282_115 ho hr ?_
  refine g3 c_282_118 rfl ?_
  obtain ⟨ho, t⟩ := t
  refine g50 c_282_120 ho ?_
  refine g1 c_282_121 k_3 ?_
  exact g80 (As := [.int (ab_i h j1 (Int32.toNatClampNeg x6)), .int 3]) (rest := [.int (s0 - s1)]) c_282_122 rfl rfl (Nat.le_of_ble_eq_true rfl) (Nat.le_of_ble_eq_true rfl) t.1 t.2
set_option maxRecDepth 20000 in
theorem t_282_125 {d : Nat} {h : ab_H} {Q : Option Value → ab_H → Prop} {x0 : Nat} {x1 : Int32} {x2 : Int32} {x3 : Int32} {x4 : Int32} {x5 : Int32} {x6 : Int32} {s0 : Int32} {s1 : Int32} (t : ab_ok h x0 112 = true ∧ ¬ (400 : Int32) = 0 ∧ if x3 < 0 then (wq d 282 8 [.ref x0, .int x1, .int x2, .int x5, .int (s0 - ((s1 * (ab_i h x0 29)) / 400)), .int (x5 + 1), .int x6, .int (s0 - ((s1 * (ab_i h x0 29)) / 400)), .retAddr 0] [] h Q) else (if (s0 - ((s1 * (ab_i h x0 29)) / 400)) < x4 then (wq d 282 8 [.ref x0, .int x1, .int x2, .int x3, .int x4, .int (x5 + 1), .int x6, .int (s0 - ((s1 * (ab_i h x0 29)) / 400)), .retAddr 0] [] h Q) else (if (s0 - ((s1 * (ab_i h x0 29)) / 400)) = x4 then (ab_ok h x0 112 = true ∧ ∃ j1 : Nat, ab_r h x0 0 = some j1 ∧ ((j1 = 0 ∨ ab_ok h j1 0 = true) ∧ ab_in (x6 + 4) (ab_s h j1).2 = true) ∧ ab_ok h x0 112 = true ∧ ∃ j2 : Nat, ab_r h x0 0 = some j2 ∧ ((j2 = 0 ∨ ab_ok h j2 0 = true) ∧ ab_in ((4372 + (8 * x3)) + 4) (ab_s h j2).2 = true) ∧ if (ab_i h j1 (Int32.toNatClampNeg (x6 + 4))) < (ab_i h j2 (Int32.toNatClampNeg ((4372 + (8 * x3)) + 4))) then (wq d 282 8 [.ref x0, .int x1, .int x2, .int x5, .int (s0 - ((s1 * (ab_i h x0 29)) / 400)), .int (x5 + 1), .int x6, .int (s0 - ((s1 * (ab_i h x0 29)) / 400)), .retAddr 0] [] h Q) else (wq d 282 8 [.ref x0, .int x1, .int x2, .int x3, .int x4, .int (x5 + 1), .int x6, .int (s0 - ((s1 * (ab_i h x0 29)) / 400)), .retAddr 0] [] h Q)) else (wq d 282 8 [.ref x0, .int x1, .int x2, .int x5, .int (s0 - ((s1 * (ab_i h x0 29)) / 400)), .int (x5 + 1), .int x6, .int (s0 - ((s1 * (ab_i h x0 29)) / 400)), .retAddr 0] [] h Q)))) : wq d 282 125 [.ref x0, .int x1, .int x2, .int x3, .int x4, .int x5, .int x6, .retAddr 0, .retAddr 0] [.int s1, .int s0] h Q := by
  refine g5 c_282_125 rfl ?_
  obtain ⟨ho, t⟩ := t
  refine g43 c_282_126 ho ?_
  refine g12 c_282_129 ?_
  refine g1 c_282_130 k_400 ?_
  obtain ⟨hy, t⟩ := t
  refine g16 c_282_133 hy ?_
  refine g11 c_282_134 ?_
  refine g6 (L' := [.ref x0, .int x1, .int x2, .int x3, .int x4, .int x5, .int x6, .int (s0 - ((s1 * (ab_i h x0 29)) / 400)), .retAddr 0]) c_282_135 rfl ?_
  refine g3 c_282_137 rfl ?_
  refine gif c_282_138 (gbr t rfl rfl (fun hc t => ?_) (fun hc t => ?_))
  · refine g3 c_282_185 rfl ?_
    refine g6 (L' := [.ref x0, .int x1, .int x2, .int x5, .int x4, .int x5, .int x6, .int (s0 - ((s1 * (ab_i h x0 29)) / 400)), .retAddr 0]) c_282_187 rfl ?_
    refine g3 c_282_188 rfl ?_
    refine g6 (L' := [.ref x0, .int x1, .int x2, .int x5, .int (s0 - ((s1 * (ab_i h x0 29)) / 400)), .int x5, .int x6, .int (s0 - ((s1 * (ab_i h x0 29)) / 400)), .retAddr 0]) c_282_190 rfl ?_
    refine g9 (L' := [.ref x0, .int x1, .int x2, .int x5, .int (s0 - ((s1 * (ab_i h x0 29)) / 400)), .int (x5 + 1), .int x6, .int (s0 - ((s1 * (ab_i h x0 29)) / 400)), .retAddr 0]) c_282_192 rfl k_1 rfl ?_
    refine g38 c_282_195 rfl ?_
    exact t
  · refine g3 c_282_141 rfl ?_
    refine g3 c_282_143 rfl ?_
    refine gcm c_282_145 (gbr t rfl rfl (fun hc t => ?_) (fun hc t => ?_))
    · refine g9 (L' := [.ref x0, .int x1, .int x2, .int x3, .int x4, .int (x5 + 1), .int x6, .int (s0 - ((s1 * (ab_i h x0 29)) / 400)), .retAddr 0]) c_282_192 rfl k_1 rfl ?_
      refine g38 c_282_195 rfl ?_
      exact t
    · refine g3 c_282_148 rfl ?_
      refine g3 c_282_150 rfl ?_
      refine gcm c_282_152 (gbn t (ab_c1 _ _) rfl (fun hc t => ?_) (fun hc t => ?_))
      · refine g5 c_282_155 rfl ?_
        obtain ⟨ho, j1, hr, t⟩ := t
        refine g45 c_282_156 ho hr ?_
        refine g3 c_282_159 rfl ?_
        refine g1 c_282_161 k_4 ?_
        refine g10 c_282_162 ?_
        obtain ⟨ho, t⟩ := t
        refine g50 c_282_163 ho ?_
        refine g5 c_282_164 rfl ?_
        obtain ⟨ho, j2, hr, t⟩ := t
        refine g45 c_282_165 ho hr ?_
        refine g1 c_282_168 k_4372 ?_
        refine g1 c_282_171 k_8 ?_
        refine g3 c_282_173 rfl ?_
        refine g12 c_282_174 ?_
        refine g10 c_282_175 ?_
        refine g1 c_282_176 k_4 ?_
        refine g10 c_282_177 ?_
        obtain ⟨ho, t⟩ := t
        refine g50 c_282_178 ho ?_
        refine gcm c_282_179 (gbr t rfl rfl (fun hc t => ?_) (fun hc t => ?_))
        · refine g3 c_282_185 rfl ?_
          refine g6 (L' := [.ref x0, .int x1, .int x2, .int x5, .int x4, .int x5, .int x6, .int (s0 - ((s1 * (ab_i h x0 29)) / 400)), .retAddr 0]) c_282_187 rfl ?_
          refine g3 c_282_188 rfl ?_
          refine g6 (L' := [.ref x0, .int x1, .int x2, .int x5, .int (s0 - ((s1 * (ab_i h x0 29)) / 400)), .int x5, .int x6, .int (s0 - ((s1 * (ab_i h x0 29)) / 400)), .retAddr 0]) c_282_190 rfl ?_
          refine g9 (L' := [.ref x0, .int x1, .int x2, .int x5, .int (s0 - ((s1 * (ab_i h x0 29)) / 400)), .int (x5 + 1), .int x6, .int (s0 - ((s1 * (ab_i h x0 29)) / 400)), .retAddr 0]) c_282_192 rfl k_1 rfl ?_
          refine g38 c_282_195 rfl ?_
          exact t
        · refine g38 c_282_182 rfl ?_
          refine g9 (L' := [.ref x0, .int x1, .int x2, .int x3, .int x4, .int (x5 + 1), .int x6, .int (s0 - ((s1 * (ab_i h x0 29)) / 400)), .retAddr 0]) c_282_192 rfl k_1 rfl ?_
          refine g38 c_282_195 rfl ?_
          exact t
      · refine g3 c_282_185 rfl ?_
        refine g6 (L' := [.ref x0, .int x1, .int x2, .int x5, .int x4, .int x5, .int x6, .int (s0 - ((s1 * (ab_i h x0 29)) / 400)), .retAddr 0]) c_282_187 rfl ?_
        refine g3 c_282_188 rfl ?_
        refine g6 (L' := [.ref x0, .int x1, .int x2, .int x5, .int (s0 - ((s1 * (ab_i h x0 29)) / 400)), .int x5, .int x6, .int (s0 - ((s1 * (ab_i h x0 29)) / 400)), .retAddr 0]) c_282_190 rfl ?_
        refine g9 (L' := [.ref x0, .int x1, .int x2, .int x5, .int (s0 - ((s1 * (ab_i h x0 29)) / 400)), .int (x5 + 1), .int x6, .int (s0 - ((s1 * (ab_i h x0 29)) / 400)), .retAddr 0]) c_282_192 rfl k_1 rfl ?_
        refine g38 c_282_195 rfl ?_
        exact t
set_option maxRecDepth 20000 in
theorem t_282_210 {d : Nat} {h : ab_H} {Q : Option Value → ab_H → Prop} {x0 : Nat} {x1 : Int32} {x2 : Int32} {x3 : Int32} {x4 : Int32} {x5 : Int32} {s0 : Int32} {s1 : Int32} (t : if s1 ≤ s0 then (ab_ok h x0 112 = true ∧ ∃ j1 : Nat, ab_r h x0 0 = some j1 ∧ ((j1 = 0 ∨ ab_ok h j1 0 = true) ∧ ab_in (4372 + (8 * x3)) (ab_s h j1).2 = true) ∧ ab_ok h x0 112 = true ∧ ∃ j2 : Nat, ab_r h x0 0 = some j2 ∧ ((j2 = 0 ∨ ab_ok h j2 0 = true) ∧ ab_in ((3300 + (16 * x1)) + 7) (ab_s h j2).2 = true) ∧ if (ab_i h j1 (Int32.toNatClampNeg (4372 + (8 * x3)))) = (ab_i h j2 (Int32.toNatClampNeg ((3300 + (16 * x1)) + 7))) then (ab_ok h x0 112 = true ∧ ∃ j3 : Nat, ab_r h x0 0 = some j3 ∧ ab_ok h x0 112 = true ∧ ∃ j4 : Nat, ab_r h x0 0 = some j4 ∧ ((j4 = 0 ∨ ab_ok h j4 0 = true) ∧ ab_in (4372 + (8 * x3)) (ab_s h j4).2 = true) ∧ (ab_ok h j3 0 = true ∧ ab_in ((3300 + (16 * x1)) + 7) (ab_s h j3).2 = true) ∧ ∀ h5 : ab_H, h5 = ab_pi h j3 (Int32.toNatClampNeg ((3300 + (16 * x1)) + 7)) (ab_i h j4 (Int32.toNatClampNeg (4372 + (8 * x3)))) → ab_ok h5 x0 112 = true ∧ ∃ j6 : Nat, ab_r h5 x0 0 = some j6 ∧ ((j6 = 0 ∨ ab_ok h5 j6 0 = true) ∧ ab_in (4372 + (8 * x3)) (ab_s h5 j6).2 = true) ∧ ab_ok h5 x0 112 = true ∧ wm d 281 [.ref x0, .int x1, .int (ab_i h5 j6 (Int32.toNatClampNeg (4372 + (8 * x3))))] h5 (fun r9 h9 => wq (d + 1) 282 331 [.ref x0, .int x1, .int x2, .int x3, .int x4, .int (3300 + (16 * x1)), .int (4372 + (8 * x3)), .retAddr 0, .retAddr 0] (r9.toList ++ []) h9 Q)) else (wq (d + 1) 282 257 [.ref x0, .int x1, .int x2, .int x3, .int x4, .int (3300 + (16 * x1)), .int (4372 + (8 * x3)), .int 0, .retAddr 0] [] h Q)) else (Q none h)) : wq (d + 1) 282 210 [.ref x0, .int x1, .int x2, .int x3, .int x4, .int x5, .retAddr 0, .retAddr 0, .retAddr 0] [.int s1, .int s0] h Q := by
  refine gcm c_282_210 (gbr t rfl rfl (fun hc t => ?_) (fun hc t => ?_))
  · refine g1 c_282_214 k_3300 ?_
    refine g1 c_282_217 k_16 ?_
    refine g3 c_282_219 rfl ?_
    refine g12 c_282_220 ?_
    refine g10 c_282_221 ?_
    refine g6 (L' := [.ref x0, .int x1, .int x2, .int x3, .int x4, .int (3300 + (16 * x1)), .retAddr 0, .retAddr 0, .retAddr 0]) c_282_222 rfl ?_
    refine g1 c_282_224 k_4372 ?_
    refine g1 c_282_227 k_8 ?_
    refine g3 c_282_229 rfl ?_
    refine g12 c_282_230 ?_
    refine g10 c_282_231 ?_
    refine g6 (L' := [.ref x0, .int x1, .int x2, .int x3, .int x4, .int (3300 + (16 * x1)), .int (4372 + (8 * x3)), .retAddr 0, .retAddr 0]) c_282_232 rfl ?_
    refine g5 c_282_234 rfl ?_
    obtain ⟨ho, j1, hr, t⟩ := t
    refine g45 c_282_235 ho hr ?_
    refine g3 c_282_238 rfl ?_
    obtain ⟨ho, t⟩ := t
    refine g50 c_282_240 ho ?_
    refine g5 c_282_241 rfl ?_
    obtain ⟨ho, j2, hr, t⟩ := t
    refine g45 c_282_242 ho hr ?_
    refine g3 c_282_245 rfl ?_
    refine g1 c_282_247 k_7 ?_
    refine g10 c_282_249 ?_
    obtain ⟨ho, t⟩ := t
    refine g50 c_282_250 ho ?_
    refine gcm c_282_251 (gbr t rfl rfl (fun hc t => ?_) (fun hc t => ?_))
    · refine g5 c_282_302 rfl ?_
      obtain ⟨ho, j3, hr, t⟩ := t
      refine g45 c_282_303 ho hr ?_
      refine g3 c_282_306 rfl ?_
      refine g1 c_282_308 k_7 ?_
      refine g10 c_282_310 ?_
      refine g5 c_282_311 rfl ?_
      obtain ⟨ho, j4, hr, t⟩ := t
      refine g45 c_282_312 ho hr ?_
      refine g3 c_282_315 rfl ?_
      obtain ⟨ho, t⟩ := t
      refine g50 c_282_317 ho ?_
      obtain ⟨ho, t⟩ := t
      refine g54 c_282_318 ho (fun h5 eh5 => ?_)
      have t := t h5 eh5
      refine g5 c_282_319 rfl ?_
      refine g3 c_282_320 rfl ?_
      refine g5 c_282_321 rfl ?_
      obtain ⟨ho, j6, hr, t⟩ := t
      refine g45 c_282_322 ho hr ?_
      refine g3 c_282_325 rfl ?_
      obtain ⟨ho, t⟩ := t
      refine g50 c_282_327 ho ?_
      exact g80 (As := [.int x1, .int (ab_i h5 j6 (Int32.toNatClampNeg (4372 + (8 * x3))))]) (rest := []) c_282_328 rfl rfl (Nat.le_of_ble_eq_true rfl) (Nat.le_of_ble_eq_true rfl) t.1 t.2
    · refine g1 c_282_254 k_0 ?_
      refine g6 (L' := [.ref x0, .int x1, .int x2, .int x3, .int x4, .int (3300 + (16 * x1)), .int (4372 + (8 * x3)), .int 0, .retAddr 0]) c_282_255 rfl ?_
      exact t
  · exact g94 c_282_213 t
set_option maxRecDepth 20000 in
theorem t_282_257 {d : Nat} {h : ab_H} {Q : Option Value → ab_H → Prop} {x0 : Nat} {x1 : Int32} {x2 : Int32} {x3 : Int32} {x4 : Int32} {x5 : Int32} {x6 : Int32} {x7 : Int32} (t : ab_ok h x0 112 = true ∧ ∃ j1 : Nat, ab_r h x0 0 = some j1 ∧ ((j1 = 0 ∨ ab_ok h j1 0 = true) ∧ ab_in (4 : Int32) (ab_s h j1).2 = true) ∧ if (ab_i h j1 (Int32.toNatClampNeg (4 : Int32))) ≤ x7 then (ab_ok h x0 112 = true ∧ ∃ j2 : Nat, ab_r h x0 0 = some j2 ∧ ab_ok h x0 112 = true ∧ ∃ j3 : Nat, ab_r h x0 0 = some j3 ∧ ((j3 = 0 ∨ ab_ok h j3 0 = true) ∧ ab_in x6 (ab_s h j3).2 = true) ∧ (ab_ok h j2 0 = true ∧ ab_in (x5 + 7) (ab_s h j2).2 = true) ∧ ∀ h4 : ab_H, h4 = ab_pi h j2 (Int32.toNatClampNeg (x5 + 7)) (ab_i h j3 (Int32.toNatClampNeg x6)) → ab_ok h4 x0 112 = true ∧ ∃ j5 : Nat, ab_r h4 x0 0 = some j5 ∧ ((j5 = 0 ∨ ab_ok h4 j5 0 = true) ∧ ab_in x6 (ab_s h4 j5).2 = true) ∧ ab_ok h4 x0 112 = true ∧ wm d 281 [.ref x0, .int x1, .int (ab_i h4 j5 (Int32.toNatClampNeg x6))] h4 (fun r9 h9 => wq (d + 1) 282 331 [.ref x0, .int x1, .int x2, .int x3, .int x4, .int x5, .int x6, .int x7, .retAddr 0] (r9.toList ++ []) h9 Q)) else (ab_ok h x0 112 = true ∧ wm d 279 [.ref x0, .int x7, .int x1] h (fun r9 h9 => wq (d + 1) 282 275 [.ref x0, .int x1, .int x2, .int x3, .int x4, .int x5, .int x6, .int x7, .retAddr 0] (r9.toList ++ []) h9 Q))) : wq (d + 1) 282 257 [.ref x0, .int x1, .int x2, .int x3, .int x4, .int x5, .int x6, .int x7, .retAddr 0] [] h Q := by
  refine g3 c_282_257 rfl ?_
  refine g5 c_282_259 rfl ?_
  obtain ⟨ho, j1, hr, t⟩ := t
  refine g45 c_282_260 ho hr ?_
  refine g1 c_282_263 k_4 ?_
  obtain ⟨ho, t⟩ := t
  refine g50 c_282_264 ho ?_
  refine gcm c_282_265 (gbr t rfl rfl (fun hc t => ?_) (fun hc t => ?_))
  · refine g5 c_282_302 rfl ?_
    obtain ⟨ho, j2, hr, t⟩ := t
    refine g45 c_282_303 ho hr ?_
    refine g3 c_282_306 rfl ?_
    refine g1 c_282_308 k_7 ?_
    refine g10 c_282_310 ?_
    refine g5 c_282_311 rfl ?_
    obtain ⟨ho, j3, hr, t⟩ := t
    refine g45 c_282_312 ho hr ?_
    refine g3 c_282_315 rfl ?_
    obtain ⟨ho, t⟩ := t
    refine g50 c_282_317 ho ?_
    obtain ⟨ho, t⟩ := t
    refine g54 c_282_318 ho (fun h4 eh4 => ?_)
    have t := t h4 eh4
    refine g5 c_282_319 rfl ?_
    refine g3 c_282_320 rfl ?_
    refine g5 c_282_321 rfl ?_
    obtain ⟨ho, j5, hr, t⟩ := t
    refine g45 c_282_322 ho hr ?_
    refine g3 c_282_325 rfl ?_
    obtain ⟨ho, t⟩ := t
    refine g50 c_282_327 ho ?_
    exact g80 (As := [.int x1, .int (ab_i h4 j5 (Int32.toNatClampNeg x6))]) (rest := []) c_282_328 rfl rfl (Nat.le_of_ble_eq_true rfl) (Nat.le_of_ble_eq_true rfl) t.1 t.2
  · refine g5 c_282_268 rfl ?_
    refine g3 c_282_269 rfl ?_
    refine g3 c_282_271 rfl ?_
    exact g80 (As := [.int x7, .int x1]) (rest := []) c_282_272 rfl rfl (Nat.le_of_ble_eq_true rfl) (Nat.le_of_ble_eq_true rfl) t.1 t.2
set_option maxRecDepth 20000 in
theorem t_282_275 {d : Nat} {h : ab_H} {Q : Option Value → ab_H → Prop} {x0 : Nat} {x1 : Int32} {x2 : Int32} {x3 : Int32} {x4 : Int32} {x5 : Int32} {x6 : Int32} {x7 : Int32} {s0 : Int32} (t : if s0 = 0 then (wq d 282 257 [.ref x0, .int x1, .int x2, .int x3, .int x4, .int x5, .int x6, .int (x7 + 1), .retAddr 0] [] h Q) else (ab_ok h x0 112 = true ∧ ∃ j1 : Nat, ab_r h x0 0 = some j1 ∧ (ab_ok h j1 0 = true ∧ ab_in ((3652 + (12 * x7)) + 7) (ab_s h j1).2 = true) ∧ ∀ h2 : ab_H, h2 = ab_pi h j1 (Int32.toNatClampNeg ((3652 + (12 * x7)) + 7)) 0 → wq d 282 257 [.ref x0, .int x1, .int x2, .int x3, .int x4, .int x5, .int x6, .int (x7 + 1), .retAddr 0] [] h2 Q)) : wq d 282 275 [.ref x0, .int x1, .int x2, .int x3, .int x4, .int x5, .int x6, .int x7, .retAddr 0] [.int s0] h Q := by
  refine gif c_282_275 (gbr t rfl rfl (fun hc t => ?_) (fun hc t => ?_))
  · refine g9 (L' := [.ref x0, .int x1, .int x2, .int x3, .int x4, .int x5, .int x6, .int (x7 + 1), .retAddr 0]) c_282_296 rfl k_1 rfl ?_
    refine g38 c_282_299 rfl ?_
    exact t
  · refine g5 c_282_278 rfl ?_
    obtain ⟨ho, j1, hr, t⟩ := t
    refine g45 c_282_279 ho hr ?_
    refine g1 c_282_282 k_3652 ?_
    refine g1 c_282_285 k_12 ?_
    refine g3 c_282_287 rfl ?_
    refine g12 c_282_289 ?_
    refine g10 c_282_290 ?_
    refine g1 c_282_291 k_7 ?_
    refine g10 c_282_293 ?_
    refine g1 c_282_294 k_0 ?_
    obtain ⟨ho, t⟩ := t
    refine g54 c_282_295 ho (fun h2 eh2 => ?_)
    have t := t h2 eh2
    refine g9 (L' := [.ref x0, .int x1, .int x2, .int x3, .int x4, .int x5, .int x6, .int (x7 + 1), .retAddr 0]) c_282_296 rfl k_1 rfl ?_
    refine g38 c_282_299 rfl ?_
    exact t
set_option maxRecDepth 20000 in
theorem t_282_331 {d : Nat} {h : ab_H} {Q : Option Value → ab_H → Prop} {x0 : Nat} {x1 : Int32} {x2 : Int32} {x3 : Int32} {x4 : Int32} {x5 : Int32} {x6 : Int32} {s0 : Int32} (t : if s0 = 0 then (Q none h) else (ab_ok h x0 112 = true ∧ ∃ j1 : Nat, ab_r h x0 0 = some j1 ∧ ((j1 = 0 ∨ ab_ok h j1 0 = true) ∧ ab_in (x6 + 1) (ab_s h j1).2 = true) ∧ ab_ok h x0 112 = true ∧ ∃ j2 : Nat, ab_r h x0 0 = some j2 ∧ ((j2 = 0 ∨ ab_ok h j2 0 = true) ∧ ab_in (x6 + 5) (ab_s h j2).2 = true) ∧ ∀ y3 : Int32, y3 = ((ab_i h j1 (Int32.toNatClampNeg (x6 + 1))) - (ab_i h j2 (Int32.toNatClampNeg (x6 + 5)))) → ab_ok h x0 112 = true ∧ ∃ j4 : Nat, ab_r h x0 0 = some j4 ∧ if y3 ≤ s0 then ((ab_ok h j4 0 = true ∧ ab_in (x5 + 11) (ab_s h j4).2 = true) ∧ ∀ h5 : ab_H, h5 = ab_pi h j4 (Int32.toNatClampNeg (x5 + 11)) y3 → ab_ok h5 x0 112 = true ∧ ∃ j6 : Nat, ab_r h5 x0 0 = some j6 ∧ ((j6 = 0 ∨ ab_ok h5 j6 0 = true) ∧ ab_in (x6 + 5) (ab_s h5 j6).2 = true) ∧ ab_ok h5 x0 112 = true ∧ ∃ j7 : Nat, ab_r h5 x0 0 = some j7 ∧ ((j7 = 0 ∨ ab_ok h5 j7 0 = true) ∧ ab_in (x5 + 11) (ab_s h5 j7).2 = true) ∧ (ab_ok h5 j6 0 = true ∧ ab_in (x6 + 5) (ab_s h5 j6).2 = true) ∧ ∀ h8 : ab_H, h8 = ab_pi h5 j6 (Int32.toNatClampNeg (x6 + 5)) ((ab_i h5 j6 (Int32.toNatClampNeg (x6 + 5))) + (ab_i h5 j7 (Int32.toNatClampNeg (x5 + 11)))) → ab_ok h8 x0 112 = true ∧ ∃ j9 : Nat, ab_r h8 x0 0 = some j9 ∧ (ab_ok h8 j9 0 = true ∧ ab_in (x5 + 9) (ab_s h8 j9).2 = true) ∧ ∀ h10 : ab_H, h10 = ab_pi h8 j9 (Int32.toNatClampNeg (x5 + 9)) x3 → ab_ok h10 x0 112 = true ∧ ∃ j11 : Nat, ab_r h10 x0 0 = some j11 ∧ ab_ok h10 x0 112 = true ∧ ∃ j12 : Nat, ab_r h10 x0 0 = some j12 ∧ ((j12 = 0 ∨ ab_ok h10 j12 0 = true) ∧ ab_in (x5 + 11) (ab_s h10 j12).2 = true) ∧ if (2 * (ab_i h10 j12 (Int32.toNatClampNeg (x5 + 11)))) < s0 then ((ab_ok h10 j11 0 = true ∧ ab_in (x5 + 8) (ab_s h10 j11).2 = true) ∧ ∀ h13 : ab_H, h13 = ab_pi h10 j11 (Int32.toNatClampNeg (x5 + 8)) 1 → Q none h13) else (ab_ok h10 x0 112 = true ∧ ab_ok h10 x0 112 = true ∧ ∃ j14 : Nat, ab_r h10 x0 0 = some j14 ∧ ((j14 = 0 ∨ ab_ok h10 j14 0 = true) ∧ ab_in (12 : Int32) (ab_s h10 j14).2 = true) ∧ if (ab_i h10 j14 (Int32.toNatClampNeg (12 : Int32))) < (ab_i h10 x0 29) then ((ab_ok h10 j11 0 = true ∧ ab_in (x5 + 8) (ab_s h10 j11).2 = true) ∧ ∀ h15 : ab_H, h15 = ab_pi h10 j11 (Int32.toNatClampNeg (x5 + 8)) 1 → Q none h15) else ((ab_ok h10 j11 0 = true ∧ ab_in (x5 + 8) (ab_s h10 j11).2 = true) ∧ ∀ h16 : ab_H, h16 = ab_pi h10 j11 (Int32.toNatClampNeg (x5 + 8)) 2 → Q none h16))) else ((ab_ok h j4 0 = true ∧ ab_in (x5 + 11) (ab_s h j4).2 = true) ∧ ∀ h17 : ab_H, h17 = ab_pi h j4 (Int32.toNatClampNeg (x5 + 11)) s0 → ab_ok h17 x0 112 = true ∧ ∃ j18 : Nat, ab_r h17 x0 0 = some j18 ∧ ((j18 = 0 ∨ ab_ok h17 j18 0 = true) ∧ ab_in (x6 + 5) (ab_s h17 j18).2 = true) ∧ ab_ok h17 x0 112 = true ∧ ∃ j19 : Nat, ab_r h17 x0 0 = some j19 ∧ ((j19 = 0 ∨ ab_ok h17 j19 0 = true) ∧ ab_in (x5 + 11) (ab_s h17 j19).2 = true) ∧ (ab_ok h17 j18 0 = true ∧ ab_in (x6 + 5) (ab_s h17 j18).2 = true) ∧ ∀ h20 : ab_H, h20 = ab_pi h17 j18 (Int32.toNatClampNeg (x6 + 5)) ((ab_i h17 j18 (Int32.toNatClampNeg (x6 + 5))) + (ab_i h17 j19 (Int32.toNatClampNeg (x5 + 11)))) → ab_ok h20 x0 112 = true ∧ ∃ j21 : Nat, ab_r h20 x0 0 = some j21 ∧ (ab_ok h20 j21 0 = true ∧ ab_in (x5 + 9) (ab_s h20 j21).2 = true) ∧ ∀ h22 : ab_H, h22 = ab_pi h20 j21 (Int32.toNatClampNeg (x5 + 9)) x3 → ab_ok h22 x0 112 = true ∧ ∃ j23 : Nat, ab_r h22 x0 0 = some j23 ∧ ab_ok h22 x0 112 = true ∧ ∃ j24 : Nat, ab_r h22 x0 0 = some j24 ∧ ((j24 = 0 ∨ ab_ok h22 j24 0 = true) ∧ ab_in (x5 + 11) (ab_s h22 j24).2 = true) ∧ if (2 * (ab_i h22 j24 (Int32.toNatClampNeg (x5 + 11)))) < s0 then ((ab_ok h22 j23 0 = true ∧ ab_in (x5 + 8) (ab_s h22 j23).2 = true) ∧ ∀ h25 : ab_H, h25 = ab_pi h22 j23 (Int32.toNatClampNeg (x5 + 8)) 1 → Q none h25) else (ab_ok h22 x0 112 = true ∧ ab_ok h22 x0 112 = true ∧ ∃ j26 : Nat, ab_r h22 x0 0 = some j26 ∧ ((j26 = 0 ∨ ab_ok h22 j26 0 = true) ∧ ab_in (12 : Int32) (ab_s h22 j26).2 = true) ∧ if (ab_i h22 j26 (Int32.toNatClampNeg (12 : Int32))) < (ab_i h22 x0 29) then ((ab_ok h22 j23 0 = true ∧ ab_in (x5 + 8) (ab_s h22 j23).2 = true) ∧ ∀ h27 : ab_H, h27 = ab_pi h22 j23 (Int32.toNatClampNeg (x5 + 8)) 1 → Q none h27) else ((ab_ok h22 j23 0 = true ∧ ab_in (x5 + 8) (ab_s h22 j23).2 = true) ∧ ∀ h28 : ab_H, h28 = ab_pi h22 j23 (Int32.toNatClampNeg (x5 + 8)) 2 → Q none h28))))) : wq d 282 331 [.ref x0, .int x1, .int x2, .int x3, .int x4, .int x5, .int x6, .retAddr 0, .retAddr 0] [.int s0] h Q := by
  refine g6 (L' := [.ref x0, .int x1, .int x2, .int x3, .int x4, .int x5, .int x6, .int s0, .retAddr 0]) c_282_331 rfl ?_
  refine g3 c_282_333 rfl ?_
  refine gif c_282_335 (gbn t (ab_c1 _ _) rfl (fun hc t => ?_) (fun hc t => ?_))
  · exact g94 c_282_338 t
  · refine g5 c_282_339 rfl ?_
    obtain ⟨ho, j1, hr, t⟩ := t
    refine g45 c_282_340 ho hr ?_
    refine g3 c_282_343 rfl ?_
    refine g1 c_282_345 k_1 ?_
    refine g10 c_282_346 ?_
    obtain ⟨ho, t⟩ := t
    refine g50 c_282_347 ho ?_
    refine g5 c_282_348 rfl ?_
    obtain ⟨ho, j2, hr, t⟩ := t
    refine g45 c_282_349 ho hr ?_
    refine g3 c_282_352 rfl ?_
    refine g1 c_282_354 k_5 ?_
    refine g10 c_282_355 ?_
    obtain ⟨ho, t⟩ := t
    refine g50 c_282_356 ho ?_
    refine g11 c_282_357 ?_
    refine g6y (Lf := fun y3 => [.ref x0, .int x1, .int x2, .int x3, .int x4, .int x5, .int x6, .int s0, .int y3]) c_282_358 (fun _ => rfl) (fun y3 ey3 => ?_)
    have t := t y3 ey3
    refine g5 c_282_360 rfl ?_
    obtain ⟨ho, j4, hr, t⟩ := t
    refine g45 c_282_361 ho hr ?_
    refine g3 c_282_364 rfl ?_
    refine g1 c_282_366 k_11 ?_
    refine g10 c_282_368 ?_
    refine g3 c_282_369 rfl ?_
    refine g3 c_282_371 rfl ?_
    refine gcm c_282_373 (gbr t rfl rfl (fun hc t => ?_) (fun hc t => ?_))
    · refine g3 c_282_381 rfl ?_
      obtain ⟨ho, t⟩ := t
      refine g54 c_282_383 ho (fun h5 eh5 => ?_)
      have t := t h5 eh5
      refine g5 c_282_384 rfl ?_
      obtain ⟨ho, j6, hr, t⟩ := t
      refine g45 c_282_385 ho hr ?_
      refine g3 c_282_388 rfl ?_
      refine g1 c_282_390 k_5 ?_
      refine g10 c_282_391 ?_
      refine g34a c_282_392 ?_
      obtain ⟨ho, t⟩ := t
      refine g50 c_282_393 ho ?_
      refine g5 c_282_394 rfl ?_
      obtain ⟨ho, j7, hr, t⟩ := t
      refine g45 c_282_395 ho hr ?_
      refine g3 c_282_398 rfl ?_
      refine g1 c_282_400 k_11 ?_
      refine g10 c_282_402 ?_
      obtain ⟨ho, t⟩ := t
      refine g50 c_282_403 ho ?_
      refine g10 c_282_404 ?_
      obtain ⟨ho, t⟩ := t
      refine g54 c_282_405 ho (fun h8 eh8 => ?_)
      have t := t h8 eh8
      refine g5 c_282_406 rfl ?_
      obtain ⟨ho, j9, hr, t⟩ := t
      refine g45 c_282_407 ho hr ?_
      refine g3 c_282_410 rfl ?_
      refine g1 c_282_412 k_9 ?_
      refine g10 c_282_414 ?_
      refine g3 c_282_415 rfl ?_
      obtain ⟨ho, t⟩ := t
      refine g54 c_282_416 ho (fun h10 eh10 => ?_)
      have t := t h10 eh10
      refine g5 c_282_417 rfl ?_
      obtain ⟨ho, j11, hr, t⟩ := t
      refine g45 c_282_418 ho hr ?_
      refine g3 c_282_421 rfl ?_
      refine g1 c_282_423 k_8 ?_
      refine g10 c_282_425 ?_
      refine g1 c_282_426 k_2 ?_
      refine g5 c_282_427 rfl ?_
      obtain ⟨ho, j12, hr, t⟩ := t
      refine g45 c_282_428 ho hr ?_
      refine g3 c_282_431 rfl ?_
      refine g1 c_282_433 k_11 ?_
      refine g10 c_282_435 ?_
      obtain ⟨ho, t⟩ := t
      refine g50 c_282_436 ho ?_
      refine g12 c_282_437 ?_
      refine g3 c_282_438 rfl ?_
      refine gcm c_282_440 (gbr t rfl rfl (fun hc t => ?_) (fun hc t => ?_))
      · refine g1 c_282_461 k_1 ?_
        obtain ⟨ho, t⟩ := t
        refine g54 c_282_462 ho (fun h13 eh13 => ?_)
        have t := t h13 eh13
        exact g94 c_282_463 t
      · refine g5 c_282_443 rfl ?_
        obtain ⟨ho, t⟩ := t
        refine g43 c_282_444 ho ?_
        refine g5 c_282_447 rfl ?_
        obtain ⟨ho, j14, hr, t⟩ := t
        refine g45 c_282_448 ho hr ?_
        refine g1 c_282_451 k_12 ?_
        obtain ⟨ho, t⟩ := t
        refine g50 c_282_453 ho ?_
        refine gcm c_282_454 (gbr t rfl rfl (fun hc t => ?_) (fun hc t => ?_))
        · refine g1 c_282_461 k_1 ?_
          obtain ⟨ho, t⟩ := t
          refine g54 c_282_462 ho (fun h15 eh15 => ?_)
          have t := t h15 eh15
          exact g94 c_282_463 t
        · refine g1 c_282_457 k_2 ?_
          refine g38 c_282_458 rfl ?_
          obtain ⟨ho, t⟩ := t
          refine g54 c_282_462 ho (fun h16 eh16 => ?_)
          have t := t h16 eh16
          exact g94 c_282_463 t
    · refine g3 c_282_376 rfl ?_
      refine g38 c_282_378 rfl ?_
      obtain ⟨ho, t⟩ := t
      refine g54 c_282_383 ho (fun h17 eh17 => ?_)
      have t := t h17 eh17
      refine g5 c_282_384 rfl ?_
      obtain ⟨ho, j18, hr, t⟩ := t
      refine g45 c_282_385 ho hr ?_
      refine g3 c_282_388 rfl ?_
      refine g1 c_282_390 k_5 ?_
      refine g10 c_282_391 ?_
      refine g34a c_282_392 ?_
      obtain ⟨ho, t⟩ := t
      refine g50 c_282_393 ho ?_
      refine g5 c_282_394 rfl ?_
      obtain ⟨ho, j19, hr, t⟩ := t
      refine g45 c_282_395 ho hr ?_
      refine g3 c_282_398 rfl ?_
      refine g1 c_282_400 k_11 ?_
      refine g10 c_282_402 ?_
      obtain ⟨ho, t⟩ := t
      refine g50 c_282_403 ho ?_
      refine g10 c_282_404 ?_
      obtain ⟨ho, t⟩ := t
      refine g54 c_282_405 ho (fun h20 eh20 => ?_)
      have t := t h20 eh20
      refine g5 c_282_406 rfl ?_
      obtain ⟨ho, j21, hr, t⟩ := t
      refine g45 c_282_407 ho hr ?_
      refine g3 c_282_410 rfl ?_
      refine g1 c_282_412 k_9 ?_
      refine g10 c_282_414 ?_
      refine g3 c_282_415 rfl ?_
      obtain ⟨ho, t⟩ := t
      refine g54 c_282_416 ho (fun h22 eh22 => ?_)
      have t := t h22 eh22
      refine g5 c_282_417 rfl ?_
      obtain ⟨ho, j23, hr, t⟩ := t
      refine g45 c_282_418 ho hr ?_
      refine g3 c_282_421 rfl ?_
      refine g1 c_282_423 k_8 ?_
      refine g10 c_282_425 ?_
      refine g1 c_282_426 k_2 ?_
      refine g5 c_282_427 rfl ?_
      obtain ⟨ho, j24, hr, t⟩ := t
      refine g45 c_282_428 ho hr ?_
      refine g3 c_282_431 rfl ?_
      refine g1 c_282_433 k_11 ?_
      refine g10 c_282_435 ?_
      obtain ⟨ho, t⟩ := t
      refine g50 c_282_436 ho ?_
      refine g12 c_282_437 ?_
      refine g3 c_282_438 rfl ?_
      refine gcm c_282_440 (gbr t rfl rfl (fun hc t => ?_) (fun hc t => ?_))
      · refine g1 c_282_461 k_1 ?_
        obtain ⟨ho, t⟩ := t
        refine g54 c_282_462 ho (fun h25 eh25 => ?_)
        have t := t h25 eh25
        exact g94 c_282_463 t
      · refine g5 c_282_443 rfl ?_
        obtain ⟨ho, t⟩ := t
        refine g43 c_282_444 ho ?_
        refine g5 c_282_447 rfl ?_
        obtain ⟨ho, j26, hr, t⟩ := t
        refine g45 c_282_448 ho hr ?_
        refine g1 c_282_451 k_12 ?_
        obtain ⟨ho, t⟩ := t
        refine g50 c_282_453 ho ?_
        refine gcm c_282_454 (gbr t rfl rfl (fun hc t => ?_) (fun hc t => ?_))
        · refine g1 c_282_461 k_1 ?_
          obtain ⟨ho, t⟩ := t
          refine g54 c_282_462 ho (fun h27 eh27 => ?_)
          have t := t h27 eh27
          exact g94 c_282_463 t
        · refine g1 c_282_457 k_2 ?_
          refine g38 c_282_458 rfl ?_
          obtain ⟨ho, t⟩ := t
          refine g54 c_282_462 ho (fun h28 eh28 => ?_)
          have t := t h28 eh28
          exact g94 c_282_463 t
-- method 283: MillTownModel.hoursNow(I)I
theorem c_283_0 : pg_cd 283 0 = (5, 1, 0, 0, 0) := by decide +kernel
theorem c_283_1 : pg_cd 283 1 = (3, 1, 0, 1, 0) := by decide +kernel
theorem c_283_2 : pg_cd 283 2 = (1, 1, 0, 0, 4) := by decide +kernel
theorem c_283_3 : pg_cd 283 3 = (80, 199, 102, 0, 0) := by decide +kernel
theorem c_283_6 : pg_cd 283 6 = (6, 1, 0, 2, 0) := by decide +kernel
theorem c_283_7 : pg_cd 283 7 = (3, 1, 0, 2, 0) := by decide +kernel
theorem c_283_8 : pg_cd 283 8 = (36, 3, 0, 2, 13) := by decide +kernel
theorem c_283_11 : pg_cd 283 11 = (5, 1, 0, 0, 0) := by decide +kernel
theorem c_283_12 : pg_cd 283 12 = (3, 1, 0, 2, 0) := by decide +kernel
theorem c_283_13 : pg_cd 283 13 = (1, 2, 0, 0, 8) := by decide +kernel
theorem c_283_15 : pg_cd 283 15 = (80, 198, 118, 0, 0) := by decide +kernel
theorem c_283_18 : pg_cd 283 18 = (36, 3, 0, 1, 7) := by decide +kernel
theorem c_283_21 : pg_cd 283 21 = (1, 1, 0, 0, 0) := by decide +kernel
theorem c_283_22 : pg_cd 283 22 = (38, 3, 0, 0, 31) := by decide +kernel
theorem c_283_25 : pg_cd 283 25 = (5, 1, 0, 0, 0) := by decide +kernel
theorem c_283_26 : pg_cd 283 26 = (3, 1, 0, 2, 0) := by decide +kernel
theorem c_283_27 : pg_cd 283 27 = (1, 2, 0, 0, 8) := by decide +kernel
theorem c_283_29 : pg_cd 283 29 = (80, 198, 118, 0, 0) := by decide +kernel
theorem c_283_32 : pg_cd 283 32 = (1, 1, 0, 0, 2) := by decide +kernel
theorem c_283_33 : pg_cd 283 33 = (37, 3, 0, 1, 12) := by decide +kernel
theorem c_283_36 : pg_cd 283 36 = (5, 1, 0, 0, 0) := by decide +kernel
theorem c_283_37 : pg_cd 283 37 = (45, 12, 47, 32, 0) := by decide +kernel
theorem c_283_40 : pg_cd 283 40 = (3, 1, 0, 1, 0) := by decide +kernel
theorem c_283_41 : pg_cd 283 41 = (50, 1, 0, 0, 0) := by decide +kernel
theorem c_283_42 : pg_cd 283 42 = (38, 3, 0, 0, 11) := by decide +kernel
theorem c_283_45 : pg_cd 283 45 = (5, 1, 0, 0, 0) := by decide +kernel
theorem c_283_46 : pg_cd 283 46 = (45, 12, 47, 32, 0) := by decide +kernel
theorem c_283_49 : pg_cd 283 49 = (3, 1, 0, 1, 0) := by decide +kernel
theorem c_283_50 : pg_cd 283 50 = (50, 1, 0, 0, 0) := by decide +kernel
theorem c_283_51 : pg_cd 283 51 = (1, 1, 0, 0, 2) := by decide +kernel
theorem c_283_52 : pg_cd 283 52 = (16, 1, 0, 0, 0) := by decide +kernel
theorem c_283_53 : pg_cd 283 53 = (90, 0, 0, 0, 0) := by decide +kernel
theorem mx_283 : pg_mx 283 = 3 := by decide +kernel
theorem m_283 {d : Nat} {h : ab_H} {Q : Option Value → ab_H → Prop} {x0 : Nat} {x1 : Int32} (t : wq d 283 0 [.ref x0, .int x1, .retAddr 0] [] h Q) : wm d 283 [.ref x0, .int x1] h Q := by
  unfold wm
  rw [mx_283]
  exact t
set_option maxRecDepth 20000 in
theorem t_283_0 {d : Nat} {h : ab_H} {Q : Option Value → ab_H → Prop} {x0 : Nat} {x1 : Int32} (t : ab_ok h x0 112 = true ∧ wm d 199 [.ref x0, .int x1, .int 4] h (fun r9 h9 => wq (d + 1) 283 6 [.ref x0, .int x1, .retAddr 0] (r9.toList ++ []) h9 Q)) : wq (d + 1) 283 0 [.ref x0, .int x1, .retAddr 0] [] h Q := by
  refine g5 c_283_0 rfl ?_
  refine g3 c_283_1 rfl ?_
  refine g1 c_283_2 k_4 ?_
  exact g80 (As := [.int x1, .int 4]) (rest := []) c_283_3 rfl rfl (Nat.le_of_ble_eq_true rfl) (Nat.le_of_ble_eq_true rfl) t.1 t.2
set_option maxRecDepth 20000 in
theorem t_283_6 {d : Nat} {h : ab_H} {Q : Option Value → ab_H → Prop} {x0 : Nat} {x1 : Int32} {s0 : Int32} (t : if s0 < 0 then (Q (some (.int 0)) h) else (ab_ok h x0 112 = true ∧ wm d 198 [.ref x0, .int s0, .int 8] h (fun r9 h9 => wq (d + 1) 283 18 [.ref x0, .int x1, .int s0] (r9.toList ++ []) h9 Q))) : wq (d + 1) 283 6 [.ref x0, .int x1, .retAddr 0] [.int s0] h Q := by
  refine g6 (L' := [.ref x0, .int x1, .int s0]) c_283_6 rfl ?_
  refine g3 c_283_7 rfl ?_
  refine gif c_283_8 (gbr t rfl rfl (fun hc t => ?_) (fun hc t => ?_))
  · refine g1 c_283_21 k_0 ?_
    refine g38 c_283_22 rfl ?_
    exact g90 c_283_53 t
  · refine g5 c_283_11 rfl ?_
    refine g3 c_283_12 rfl ?_
    refine g1 c_283_13 k_8 ?_
    exact g80 (As := [.int s0, .int 8]) (rest := []) c_283_15 rfl rfl (Nat.le_of_ble_eq_true rfl) (Nat.le_of_ble_eq_true rfl) t.1 t.2
set_option maxRecDepth 20000 in
theorem t_283_18 {d : Nat} {h : ab_H} {Q : Option Value → ab_H → Prop} {x0 : Nat} {x1 : Int32} {x2 : Int32} {s0 : Int32} (t : if s0 = 0 then (Q (some (.int 0)) h) else (ab_ok h x0 112 = true ∧ wm d 198 [.ref x0, .int x2, .int 8] h (fun r9 h9 => wq (d + 1) 283 32 [.ref x0, .int x1, .int x2] (r9.toList ++ []) h9 Q))) : wq (d + 1) 283 18 [.ref x0, .int x1, .int x2] [.int s0] h Q := by
  refine gif c_283_18 (gbn t (ab_c1 _ _) rfl (fun hc t => ?_) (fun hc t => ?_))
  · refine g1 c_283_21 k_0 ?_
    refine g38 c_283_22 rfl ?_
    exact g90 c_283_53 t
  · refine g5 c_283_25 rfl ?_
    refine g3 c_283_26 rfl ?_
    refine g1 c_283_27 k_8 ?_
    exact g80 (As := [.int x2, .int 8]) (rest := []) c_283_29 rfl rfl (Nat.le_of_ble_eq_true rfl) (Nat.le_of_ble_eq_true rfl) t.1 t.2
set_option maxRecDepth 20000 in
theorem t_283_32 {d : Nat} {h : ab_H} {Q : Option Value → ab_H → Prop} {x0 : Nat} {x1 : Int32} {x2 : Int32} {s0 : Int32} (t : if s0 = 2 then (ab_ok h x0 112 = true ∧ ∃ j1 : Nat, ab_r h x0 32 = some j1 ∧ ((j1 = 0 ∨ ab_ok h j1 0 = true) ∧ ab_in x1 (ab_s h j1).2 = true) ∧ Q (some (.int (ab_i h j1 (Int32.toNatClampNeg x1)))) h) else (ab_ok h x0 112 = true ∧ ∃ j2 : Nat, ab_r h x0 32 = some j2 ∧ ((j2 = 0 ∨ ab_ok h j2 0 = true) ∧ ab_in x1 (ab_s h j2).2 = true) ∧ ¬ (2 : Int32) = 0 ∧ Q (some (.int ((ab_i h j2 (Int32.toNatClampNeg x1)) / 2))) h)) : wq d 283 32 [.ref x0, .int x1, .int x2] [.int s0] h Q := by
  refine g1 c_283_32 k_2 ?_
  refine gcm c_283_33 (gbn t (ab_c1 _ _) rfl (fun hc t => ?_) (fun hc t => ?_))
  · refine g5 c_283_36 rfl ?_
    obtain ⟨ho, j1, hr, t⟩ := t
    refine g45 c_283_37 ho hr ?_
    refine g3 c_283_40 rfl ?_
    obtain ⟨ho, t⟩ := t
    refine g50 c_283_41 ho ?_
    refine g38 c_283_42 rfl ?_
    exact g90 c_283_53 t
  · refine g5 c_283_45 rfl ?_
    obtain ⟨ho, j2, hr, t⟩ := t
    refine g45 c_283_46 ho hr ?_
    refine g3 c_283_49 rfl ?_
    obtain ⟨ho, t⟩ := t
    refine g50 c_283_50 ho ?_
    refine g1 c_283_51 k_2 ?_
    obtain ⟨hy, t⟩ := t
    refine g16 c_283_52 hy ?_
    exact g90 c_283_53 t
-- method 284: MillTownModel.weave(I)V
theorem c_284_0 : pg_cd 284 0 = (1, 3, 0, 0, 3300) := by decide +kernel
theorem c_284_3 : pg_cd 284 3 = (1, 2, 0, 0, 16) := by decide +kernel
theorem c_284_5 : pg_cd 284 5 = (3, 1, 0, 1, 0) := by decide +kernel
theorem c_284_6 : pg_cd 284 6 = (12, 1, 0, 0, 0) := by decide +kernel
theorem c_284_7 : pg_cd 284 7 = (10, 1, 0, 0, 0) := by decide +kernel
theorem c_284_8 : pg_cd 284 8 = (6, 1, 0, 2, 0) := by decide +kernel
theorem c_284_9 : pg_cd 284 9 = (5, 1, 0, 0, 0) := by decide +kernel
theorem c_284_10 : pg_cd 284 10 = (45, 12, 8, 0, 0) := by decide +kernel
theorem c_284_13 : pg_cd 284 13 = (1, 3, 0, 0, 4372) := by decide +kernel
theorem c_284_16 : pg_cd 284 16 = (1, 2, 0, 0, 8) := by decide +kernel
theorem c_284_18 : pg_cd 284 18 = (5, 1, 0, 0, 0) := by decide +kernel
theorem c_284_19 : pg_cd 284 19 = (45, 12, 8, 0, 0) := by decide +kernel
theorem c_284_22 : pg_cd 284 22 = (3, 1, 0, 2, 0) := by decide +kernel
theorem c_284_23 : pg_cd 284 23 = (1, 2, 0, 0, 9) := by decide +kernel
theorem c_284_25 : pg_cd 284 25 = (10, 1, 0, 0, 0) := by decide +kernel
theorem c_284_26 : pg_cd 284 26 = (50, 1, 0, 0, 0) := by decide +kernel
theorem c_284_27 : pg_cd 284 27 = (12, 1, 0, 0, 0) := by decide +kernel
theorem c_284_28 : pg_cd 284 28 = (10, 1, 0, 0, 0) := by decide +kernel
theorem c_284_29 : pg_cd 284 29 = (50, 1, 0, 0, 0) := by decide +kernel
theorem c_284_30 : pg_cd 284 30 = (6, 1, 0, 3, 0) := by decide +kernel
theorem c_284_31 : pg_cd 284 31 = (5, 1, 0, 0, 0) := by decide +kernel
theorem c_284_32 : pg_cd 284 32 = (3, 1, 0, 3, 0) := by decide +kernel
theorem c_284_33 : pg_cd 284 33 = (80, 278, 352, 0, 0) := by decide +kernel
theorem c_284_36 : pg_cd 284 36 = (6, 2, 0, 4, 0) := by decide +kernel
theorem c_284_38 : pg_cd 284 38 = (5, 1, 0, 0, 0) := by decide +kernel
theorem c_284_39 : pg_cd 284 39 = (3, 1, 0, 3, 0) := by decide +kernel
theorem c_284_40 : pg_cd 284 40 = (1, 1, 0, 0, 3) := by decide +kernel
theorem c_284_41 : pg_cd 284 41 = (80, 197, 85, 0, 0) := by decide +kernel
theorem c_284_44 : pg_cd 284 44 = (6, 2, 0, 5, 0) := by decide +kernel
theorem c_284_46 : pg_cd 284 46 = (5, 1, 0, 0, 0) := by decide +kernel
theorem c_284_47 : pg_cd 284 47 = (45, 12, 8, 0, 0) := by decide +kernel
theorem c_284_50 : pg_cd 284 50 = (3, 1, 0, 2, 0) := by decide +kernel
theorem c_284_51 : pg_cd 284 51 = (1, 2, 0, 0, 11) := by decide +kernel
theorem c_284_53 : pg_cd 284 53 = (10, 1, 0, 0, 0) := by decide +kernel
theorem c_284_54 : pg_cd 284 54 = (50, 1, 0, 0, 0) := by decide +kernel
theorem c_284_55 : pg_cd 284 55 = (6, 2, 0, 6, 0) := by decide +kernel
theorem c_284_57 : pg_cd 284 57 = (1, 1, 0, 0, 0) := by decide +kernel
theorem c_284_58 : pg_cd 284 58 = (6, 2, 0, 7, 0) := by decide +kernel
theorem c_284_60 : pg_cd 284 60 = (3, 2, 0, 7, 0) := by decide +kernel
theorem c_284_62 : pg_cd 284 62 = (5, 1, 0, 0, 0) := by decide +kernel
theorem c_284_63 : pg_cd 284 63 = (45, 12, 8, 0, 0) := by decide +kernel
theorem c_284_66 : pg_cd 284 66 = (1, 1, 0, 0, 4) := by decide +kernel
theorem c_284_67 : pg_cd 284 67 = (50, 1, 0, 0, 0) := by decide +kernel
theorem c_284_68 : pg_cd 284 68 = (37, 3, 0, 3, 248) := by decide +kernel
theorem c_284_71 : pg_cd 284 71 = (5, 1, 0, 0, 0) := by decide +kernel
theorem c_284_72 : pg_cd 284 72 = (3, 2, 0, 7, 0) := by decide +kernel
theorem c_284_74 : pg_cd 284 74 = (3, 1, 0, 1, 0) := by decide +kernel
theorem c_284_75 : pg_cd 284 75 = (80, 279, 346, 0, 0) := by decide +kernel
theorem c_284_78 : pg_cd 284 78 = (36, 3, 0, 1, 6) := by decide +kernel
theorem c_284_81 : pg_cd 284 81 = (38, 3, 0, 0, 229) := by decide +kernel
theorem c_284_84 : pg_cd 284 84 = (5, 1, 0, 0, 0) := by decide +kernel
theorem c_284_85 : pg_cd 284 85 = (3, 2, 0, 7, 0) := by decide +kernel
theorem c_284_87 : pg_cd 284 87 = (1, 2, 0, 0, 7) := by decide +kernel
theorem c_284_89 : pg_cd 284 89 = (80, 199, 102, 0, 0) := by decide +kernel
theorem c_284_92 : pg_cd 284 92 = (5, 1, 0, 0, 0) := by decide +kernel
theorem c_284_93 : pg_cd 284 93 = (3, 2, 0, 7, 0) := by decide +kernel
theorem c_284_95 : pg_cd 284 95 = (5, 1, 0, 0, 0) := by decide +kernel
theorem c_284_96 : pg_cd 284 96 = (3, 2, 0, 7, 0) := by decide +kernel
theorem c_284_98 : pg_cd 284 98 = (80, 283, 361, 0, 0) := by decide +kernel
theorem c_284_101 : pg_cd 284 101 = (80, 280, 349, 0, 0) := by decide +kernel
theorem c_284_104 : pg_cd 284 104 = (10, 1, 0, 0, 0) := by decide +kernel
theorem c_284_105 : pg_cd 284 105 = (6, 2, 0, 8, 0) := by decide +kernel
theorem c_284_107 : pg_cd 284 107 = (3, 2, 0, 8, 0) := by decide +kernel
theorem c_284_109 : pg_cd 284 109 = (3, 2, 0, 4, 0) := by decide +kernel
theorem c_284_111 : pg_cd 284 111 = (16, 1, 0, 0, 0) := by decide +kernel
theorem c_284_112 : pg_cd 284 112 = (3, 2, 0, 6, 0) := by decide +kernel
theorem c_284_114 : pg_cd 284 114 = (37, 3, 0, 3, 11) := by decide +kernel
theorem c_284_117 : pg_cd 284 117 = (3, 2, 0, 8, 0) := by decide +kernel
theorem c_284_119 : pg_cd 284 119 = (3, 2, 0, 4, 0) := by decide +kernel
theorem c_284_121 : pg_cd 284 121 = (16, 1, 0, 0, 0) := by decide +kernel
theorem c_284_122 : pg_cd 284 122 = (38, 3, 0, 0, 5) := by decide +kernel
theorem c_284_125 : pg_cd 284 125 = (3, 2, 0, 6, 0) := by decide +kernel
theorem c_284_127 : pg_cd 284 127 = (6, 2, 0, 9, 0) := by decide +kernel
theorem c_284_129 : pg_cd 284 129 = (5, 1, 0, 0, 0) := by decide +kernel
theorem c_284_130 : pg_cd 284 130 = (45, 12, 8, 0, 0) := by decide +kernel
theorem c_284_133 : pg_cd 284 133 = (3, 1, 0, 2, 0) := by decide +kernel
theorem c_284_134 : pg_cd 284 134 = (1, 1, 0, 0, 4) := by decide +kernel
theorem c_284_135 : pg_cd 284 135 = (10, 1, 0, 0, 0) := by decide +kernel
theorem c_284_136 : pg_cd 284 136 = (50, 1, 0, 0, 0) := by decide +kernel
theorem c_284_137 : pg_cd 284 137 = (3, 2, 0, 9, 0) := by decide +kernel
theorem c_284_139 : pg_cd 284 139 = (3, 2, 0, 5, 0) := by decide +kernel
theorem c_284_141 : pg_cd 284 141 = (12, 1, 0, 0, 0) := by decide +kernel
theorem c_284_142 : pg_cd 284 142 = (37, 3, 0, 3, 50) := by decide +kernel
theorem c_284_145 : pg_cd 284 145 = (5, 1, 0, 0, 0) := by decide +kernel
theorem c_284_146 : pg_cd 284 146 = (45, 12, 8, 0, 0) := by decide +kernel
theorem c_284_149 : pg_cd 284 149 = (3, 1, 0, 2, 0) := by decide +kernel
theorem c_284_150 : pg_cd 284 150 = (1, 1, 0, 0, 2) := by decide +kernel
theorem c_284_151 : pg_cd 284 151 = (10, 1, 0, 0, 0) := by decide +kernel
theorem c_284_152 : pg_cd 284 152 = (50, 1, 0, 0, 0) := by decide +kernel
theorem c_284_153 : pg_cd 284 153 = (5, 1, 0, 0, 0) := by decide +kernel
theorem c_284_154 : pg_cd 284 154 = (43, 12, 355, 29, 0) := by decide +kernel
theorem c_284_157 : pg_cd 284 157 = (37, 3, 0, 2, 35) := by decide +kernel
theorem c_284_160 : pg_cd 284 160 = (5, 1, 0, 0, 0) := by decide +kernel
theorem c_284_161 : pg_cd 284 161 = (45, 12, 8, 0, 0) := by decide +kernel
theorem c_284_164 : pg_cd 284 164 = (3, 1, 0, 2, 0) := by decide +kernel
theorem c_284_165 : pg_cd 284 165 = (1, 1, 0, 0, 2) := by decide +kernel
theorem c_284_166 : pg_cd 284 166 = (10, 1, 0, 0, 0) := by decide +kernel
theorem c_284_167 : pg_cd 284 167 = (34, 1, 0, 0, 0) := by decide +kernel
theorem c_284_168 : pg_cd 284 168 = (50, 1, 0, 0, 0) := by decide +kernel
theorem c_284_169 : pg_cd 284 169 = (5, 1, 0, 0, 0) := by decide +kernel
theorem c_284_170 : pg_cd 284 170 = (43, 12, 355, 29, 0) := by decide +kernel
theorem c_284_173 : pg_cd 284 173 = (11, 1, 0, 0, 0) := by decide +kernel
theorem c_284_174 : pg_cd 284 174 = (54, 1, 0, 0, 0) := by decide +kernel
theorem c_284_175 : pg_cd 284 175 = (5, 1, 0, 0, 0) := by decide +kernel
theorem c_284_176 : pg_cd 284 176 = (45, 12, 8, 0, 0) := by decide +kernel
theorem c_284_179 : pg_cd 284 179 = (3, 1, 0, 2, 0) := by decide +kernel
theorem c_284_180 : pg_cd 284 180 = (1, 1, 0, 0, 4) := by decide +kernel
theorem c_284_181 : pg_cd 284 181 = (10, 1, 0, 0, 0) := by decide +kernel
theorem c_284_182 : pg_cd 284 182 = (34, 1, 0, 0, 0) := by decide +kernel
theorem c_284_183 : pg_cd 284 183 = (50, 1, 0, 0, 0) := by decide +kernel
theorem c_284_184 : pg_cd 284 184 = (1, 3, 0, 0, 360) := by decide +kernel
theorem c_284_187 : pg_cd 284 187 = (10, 1, 0, 0, 0) := by decide +kernel
theorem c_284_188 : pg_cd 284 188 = (54, 1, 0, 0, 0) := by decide +kernel
theorem c_284_189 : pg_cd 284 189 = (38, 3, 0, 0, (-60)) := by decide +kernel
theorem c_284_192 : pg_cd 284 192 = (5, 1, 0, 0, 0) := by decide +kernel
theorem c_284_193 : pg_cd 284 193 = (45, 12, 8, 0, 0) := by decide +kernel
theorem c_284_196 : pg_cd 284 196 = (3, 1, 0, 2, 0) := by decide +kernel
theorem c_284_197 : pg_cd 284 197 = (1, 1, 0, 0, 4) := by decide +kernel
theorem c_284_198 : pg_cd 284 198 = (10, 1, 0, 0, 0) := by decide +kernel
theorem c_284_199 : pg_cd 284 199 = (50, 1, 0, 0, 0) := by decide +kernel
theorem c_284_200 : pg_cd 284 200 = (3, 2, 0, 5, 0) := by decide +kernel
theorem c_284_202 : pg_cd 284 202 = (16, 1, 0, 0, 0) := by decide +kernel
theorem c_284_203 : pg_cd 284 203 = (3, 2, 0, 9, 0) := by decide +kernel
theorem c_284_205 : pg_cd 284 205 = (37, 3, 0, 3, 16) := by decide +kernel
theorem c_284_208 : pg_cd 284 208 = (5, 1, 0, 0, 0) := by decide +kernel
theorem c_284_209 : pg_cd 284 209 = (45, 12, 8, 0, 0) := by decide +kernel
theorem c_284_212 : pg_cd 284 212 = (3, 1, 0, 2, 0) := by decide +kernel
theorem c_284_213 : pg_cd 284 213 = (1, 1, 0, 0, 4) := by decide +kernel
theorem c_284_214 : pg_cd 284 214 = (10, 1, 0, 0, 0) := by decide +kernel
theorem c_284_215 : pg_cd 284 215 = (50, 1, 0, 0, 0) := by decide +kernel
theorem c_284_216 : pg_cd 284 216 = (3, 2, 0, 5, 0) := by decide +kernel
theorem c_284_218 : pg_cd 284 218 = (16, 1, 0, 0, 0) := by decide +kernel
theorem c_284_219 : pg_cd 284 219 = (6, 2, 0, 9, 0) := by decide +kernel
theorem c_284_221 : pg_cd 284 221 = (5, 1, 0, 0, 0) := by decide +kernel
theorem c_284_222 : pg_cd 284 222 = (45, 12, 8, 0, 0) := by decide +kernel
theorem c_284_225 : pg_cd 284 225 = (3, 1, 0, 2, 0) := by decide +kernel
theorem c_284_226 : pg_cd 284 226 = (1, 1, 0, 0, 4) := by decide +kernel
theorem c_284_227 : pg_cd 284 227 = (10, 1, 0, 0, 0) := by decide +kernel
theorem c_284_228 : pg_cd 284 228 = (34, 1, 0, 0, 0) := by decide +kernel
theorem c_284_229 : pg_cd 284 229 = (50, 1, 0, 0, 0) := by decide +kernel
theorem c_284_230 : pg_cd 284 230 = (3, 2, 0, 9, 0) := by decide +kernel
theorem c_284_232 : pg_cd 284 232 = (3, 2, 0, 5, 0) := by decide +kernel
theorem c_284_234 : pg_cd 284 234 = (12, 1, 0, 0, 0) := by decide +kernel
theorem c_284_235 : pg_cd 284 235 = (11, 1, 0, 0, 0) := by decide +kernel
theorem c_284_236 : pg_cd 284 236 = (54, 1, 0, 0, 0) := by decide +kernel
theorem c_284_237 : pg_cd 284 237 = (3, 2, 0, 6, 0) := by decide +kernel
theorem c_284_239 : pg_cd 284 239 = (3, 2, 0, 9, 0) := by decide +kernel
theorem c_284_241 : pg_cd 284 241 = (11, 1, 0, 0, 0) := by decide +kernel
theorem c_284_242 : pg_cd 284 242 = (6, 2, 0, 6, 0) := by decide +kernel
theorem c_284_244 : pg_cd 284 244 = (5, 1, 0, 0, 0) := by decide +kernel
theorem c_284_245 : pg_cd 284 245 = (45, 12, 50, 33, 0) := by decide +kernel
theorem c_284_248 : pg_cd 284 248 = (3, 2, 0, 7, 0) := by decide +kernel
theorem c_284_250 : pg_cd 284 250 = (3, 2, 0, 9, 0) := by decide +kernel
theorem c_284_252 : pg_cd 284 252 = (54, 1, 0, 0, 0) := by decide +kernel
theorem c_284_253 : pg_cd 284 253 = (5, 1, 0, 0, 0) := by decide +kernel
theorem c_284_254 : pg_cd 284 254 = (45, 12, 8, 0, 0) := by decide +kernel
theorem c_284_257 : pg_cd 284 257 = (3, 1, 0, 2, 0) := by decide +kernel
theorem c_284_258 : pg_cd 284 258 = (1, 2, 0, 0, 10) := by decide +kernel
theorem c_284_260 : pg_cd 284 260 = (10, 1, 0, 0, 0) := by decide +kernel
theorem c_284_261 : pg_cd 284 261 = (34, 1, 0, 0, 0) := by decide +kernel
theorem c_284_262 : pg_cd 284 262 = (50, 1, 0, 0, 0) := by decide +kernel
theorem c_284_263 : pg_cd 284 263 = (3, 2, 0, 9, 0) := by decide +kernel
theorem c_284_265 : pg_cd 284 265 = (10, 1, 0, 0, 0) := by decide +kernel
theorem c_284_266 : pg_cd 284 266 = (54, 1, 0, 0, 0) := by decide +kernel
theorem c_284_267 : pg_cd 284 267 = (3, 2, 0, 8, 0) := by decide +kernel
theorem c_284_269 : pg_cd 284 269 = (3, 2, 0, 9, 0) := by decide +kernel
theorem c_284_271 : pg_cd 284 271 = (3, 2, 0, 4, 0) := by decide +kernel
theorem c_284_273 : pg_cd 284 273 = (12, 1, 0, 0, 0) := by decide +kernel
theorem c_284_274 : pg_cd 284 274 = (11, 1, 0, 0, 0) := by decide +kernel
theorem c_284_275 : pg_cd 284 275 = (6, 2, 0, 10, 0) := by decide +kernel
theorem c_284_277 : pg_cd 284 277 = (5, 1, 0, 0, 0) := by decide +kernel
theorem c_284_278 : pg_cd 284 278 = (45, 12, 8, 0, 0) := by decide +kernel
theorem c_284_281 : pg_cd 284 281 = (1, 3, 0, 0, 3652) := by decide +kernel
theorem c_284_284 : pg_cd 284 284 = (1, 2, 0, 0, 12) := by decide +kernel
theorem c_284_286 : pg_cd 284 286 = (3, 2, 0, 7, 0) := by decide +kernel
theorem c_284_288 : pg_cd 284 288 = (12, 1, 0, 0, 0) := by decide +kernel
theorem c_284_289 : pg_cd 284 289 = (10, 1, 0, 0, 0) := by decide +kernel
theorem c_284_290 : pg_cd 284 290 = (1, 2, 0, 0, 7) := by decide +kernel
theorem c_284_292 : pg_cd 284 292 = (10, 1, 0, 0, 0) := by decide +kernel
theorem c_284_293 : pg_cd 284 293 = (3, 2, 0, 10, 0) := by decide +kernel
theorem c_284_295 : pg_cd 284 295 = (3, 2, 0, 4, 0) := by decide +kernel
theorem c_284_297 : pg_cd 284 297 = (37, 3, 0, 3, 8) := by decide +kernel
theorem c_284_300 : pg_cd 284 300 = (3, 2, 0, 10, 0) := by decide +kernel
theorem c_284_302 : pg_cd 284 302 = (38, 3, 0, 0, 7) := by decide +kernel
theorem c_284_305 : pg_cd 284 305 = (3, 2, 0, 4, 0) := by decide +kernel
theorem c_284_307 : pg_cd 284 307 = (1, 1, 0, 0, 1) := by decide +kernel
theorem c_284_308 : pg_cd 284 308 = (11, 1, 0, 0, 0) := by decide +kernel
theorem c_284_309 : pg_cd 284 309 = (54, 1, 0, 0, 0) := by decide +kernel
theorem c_284_310 : pg_cd 284 310 = (9, 3, 0, 7, 1) := by decide +kernel
theorem c_284_313 : pg_cd 284 313 = (38, 3, 0, 0, (-253)) := by decide +kernel
theorem c_284_316 : pg_cd 284 316 = (94, 0, 0, 0, 0) := by decide +kernel
theorem mx_284 : pg_mx 284 = 11 := by decide +kernel
theorem m_284 {d : Nat} {h : ab_H} {Q : Option Value → ab_H → Prop} {x0 : Nat} {x1 : Int32} (t : wq d 284 0 [.ref x0, .int x1, .retAddr 0, .retAddr 0, .retAddr 0, .retAddr 0, .retAddr 0, .retAddr 0, .retAddr 0, .retAddr 0, .retAddr 0] [] h Q) : wm d 284 [.ref x0, .int x1] h Q := by
  unfold wm
  rw [mx_284]
  exact t
set_option maxRecDepth 20000 in
theorem t_284_0 {d : Nat} {h : ab_H} {Q : Option Value → ab_H → Prop} {x0 : Nat} {x1 : Int32} (t : ab_ok h x0 112 = true ∧ ∃ j1 : Nat, ab_r h x0 0 = some j1 ∧ ab_ok h x0 112 = true ∧ ∃ j2 : Nat, ab_r h x0 0 = some j2 ∧ ((j2 = 0 ∨ ab_ok h j2 0 = true) ∧ ab_in ((3300 + (16 * x1)) + 9) (ab_s h j2).2 = true) ∧ ((j1 = 0 ∨ ab_ok h j1 0 = true) ∧ ab_in (4372 + (8 * (ab_i h j2 (Int32.toNatClampNeg ((3300 + (16 * x1)) + 9))))) (ab_s h j1).2 = true) ∧ ∀ y3 : Int32, y3 = (ab_i h j1 (Int32.toNatClampNeg (4372 + (8 * (ab_i h j2 (Int32.toNatClampNeg ((3300 + (16 * x1)) + 9))))))) → ab_ok h x0 112 = true ∧ wm d 278 [.ref x0, .int y3] h (fun r9 h9 => wq (d + 1) 284 36 [.ref x0, .int x1, .int (3300 + (16 * x1)), .int y3, .retAddr 0, .retAddr 0, .retAddr 0, .retAddr 0, .retAddr 0, .retAddr 0, .retAddr 0] (r9.toList ++ []) h9 Q)) : wq (d + 1) 284 0 [.ref x0, .int x1, .retAddr 0, .retAddr 0, .retAddr 0, .retAddr 0, .retAddr 0, .retAddr 0, .retAddr 0, .retAddr 0, .retAddr 0] [] h Q := by
  refine g1 c_284_0 k_3300 ?_
  refine g1 c_284_3 k_16 ?_
  refine g3 c_284_5 rfl ?_
  refine g12 c_284_6 ?_
  refine g10 c_284_7 ?_
  refine g6 (L' := [.ref x0, .int x1, .int (3300 + (16 * x1)), .retAddr 0, .retAddr 0, .retAddr 0, .retAddr 0, .retAddr 0, .retAddr 0, .retAddr 0, .retAddr 0]) c_284_8 rfl ?_
  refine g5 c_284_9 rfl ?_
  obtain ⟨ho, j1, hr, t⟩ := t
  refine g45 c_284_10 ho hr ?_
  refine g1 c_284_13 k_4372 ?_
  refine g1 c_284_16 k_8 ?_
  refine g5 c_284_18 rfl ?_
  obtain ⟨ho, j2, hr, t⟩ := t
  refine g45 c_284_19 ho hr ?_
  refine g3 c_284_22 rfl ?_
  refine g1 c_284_23 k_9 ?_
  refine g10 c_284_25 ?_
  obtain ⟨ho, t⟩ := t
  refine g50 c_284_26 ho ?_
  refine g12 c_284_27 ?_
  refine g10 c_284_28 ?_
  obtain ⟨ho, t⟩ := t
  refine g50 c_284_29 ho ?_
  refine g6y (Lf := fun y3 => [.ref x0, .int x1, .int (3300 + (16 * x1)), .int y3, .retAddr 0, .retAddr 0, .retAddr 0, .retAddr 0, .retAddr 0, .retAddr 0, .retAddr 0]) c_284_30 (fun _ => rfl) (fun y3 ey3 => ?_)
  have t := t y3 ey3
  refine g5 c_284_31 rfl ?_
  refine g3 c_284_32 rfl ?_
  exact g80 (As := [.int y3]) (rest := []) c_284_33 rfl rfl (Nat.le_of_ble_eq_true rfl) (Nat.le_of_ble_eq_true rfl) t.1 t.2
set_option maxRecDepth 20000 in
theorem t_284_36 {d : Nat} {h : ab_H} {Q : Option Value → ab_H → Prop} {x0 : Nat} {x1 : Int32} {x2 : Int32} {x3 : Int32} {s0 : Int32} (t : ab_ok h x0 112 = true ∧ wm d 197 [.ref x0, .int x3, .int 3] h (fun r9 h9 => wq (d + 1) 284 44 [.ref x0, .int x1, .int x2, .int x3, .int s0, .retAddr 0, .retAddr 0, .retAddr 0, .retAddr 0, .retAddr 0, .retAddr 0] (r9.toList ++ []) h9 Q)) : wq (d + 1) 284 36 [.ref x0, .int x1, .int x2, .int x3, .retAddr 0, .retAddr 0, .retAddr 0, .retAddr 0, .retAddr 0, .retAddr 0, .retAddr 0] [.int s0] h Q := by
  refine g6 (L' := [.ref x0, .int x1, .int x2, .int x3, .int s0, .retAddr 0, .retAddr 0, .retAddr 0, .retAddr 0, .retAddr 0, .retAddr 0]) c_284_36 rfl ?_
  refine g5 c_284_38 rfl ?_
  refine g3 c_284_39 rfl ?_
  refine g1 c_284_40 k_3 ?_
  exact g80 (As := [.int x3, .int 3]) (rest := []) c_284_41 rfl rfl (Nat.le_of_ble_eq_true rfl) (Nat.le_of_ble_eq_true rfl) t.1 t.2
set_option maxRecDepth 20000 in
theorem t_284_44 {d : Nat} {h : ab_H} {Q : Option Value → ab_H → Prop} {x0 : Nat} {x1 : Int32} {x2 : Int32} {x3 : Int32} {x4 : Int32} {s0 : Int32} (t : ab_ok h x0 112 = true ∧ ∃ j1 : Nat, ab_r h x0 0 = some j1 ∧ ((j1 = 0 ∨ ab_ok h j1 0 = true) ∧ ab_in (x2 + 11) (ab_s h j1).2 = true) ∧ ∀ y2 : Int32, y2 = (ab_i h j1 (Int32.toNatClampNeg (x2 + 11))) → wq d 284 60 [.ref x0, .int x1, .int x2, .int x3, .int x4, .int s0, .int y2, .int 0, .retAddr 0, .retAddr 0, .retAddr 0] [] h Q) : wq d 284 44 [.ref x0, .int x1, .int x2, .int x3, .int x4, .retAddr 0, .retAddr 0, .retAddr 0, .retAddr 0, .retAddr 0, .retAddr 0] [.int s0] h Q := by
  refine g6 (L' := [.ref x0, .int x1, .int x2, .int x3, .int x4, .int s0, .retAddr 0, .retAddr 0, .retAddr 0, .retAddr 0, .retAddr 0]) c_284_44 rfl ?_
  refine g5 c_284_46 rfl ?_
  obtain ⟨ho, j1, hr, t⟩ := t
  refine g45 c_284_47 ho hr ?_
  refine g3 c_284_50 rfl ?_
  refine g1 c_284_51 k_11 ?_
  refine g10 c_284_53 ?_
  obtain ⟨ho, t⟩ := t
  refine g50 c_284_54 ho ?_
  refine g6y (Lf := fun y2 => [.ref x0, .int x1, .int x2, .int x3, .int x4, .int s0, .int y2, .retAddr 0, .retAddr 0, .retAddr 0, .retAddr 0]) c_284_55 (fun _ => rfl) (fun y2 ey2 => ?_)
  have t := t y2 ey2
  refine g1 c_284_57 k_0 ?_
  refine g6 (L' := [.ref x0, .int x1, .int x2, .int x3, .int x4, .int s0, .int y2, .int 0, .retAddr 0, .retAddr 0, .retAddr 0]) c_284_58 rfl ?_
  exact t
set_option maxRecDepth 20000 in
theorem t_284_60 {d : Nat} {h : ab_H} {Q : Option Value → ab_H → Prop} {x0 : Nat} {x1 : Int32} {x2 : Int32} {x3 : Int32} {x4 : Int32} {x5 : Int32} {x6 : Int32} {x7 : Int32} (t : ab_ok h x0 112 = true ∧ ∃ j1 : Nat, ab_r h x0 0 = some j1 ∧ ((j1 = 0 ∨ ab_ok h j1 0 = true) ∧ ab_in (4 : Int32) (ab_s h j1).2 = true) ∧ if (ab_i h j1 (Int32.toNatClampNeg (4 : Int32))) ≤ x7 then (Q none h) else (ab_ok h x0 112 = true ∧ wm d 279 [.ref x0, .int x7, .int x1] h (fun r9 h9 => wq (d + 1) 284 78 [.ref x0, .int x1, .int x2, .int x3, .int x4, .int x5, .int x6, .int x7, .retAddr 0, .retAddr 0, .retAddr 0] (r9.toList ++ []) h9 Q))) : wq (d + 1) 284 60 [.ref x0, .int x1, .int x2, .int x3, .int x4, .int x5, .int x6, .int x7, .retAddr 0, .retAddr 0, .retAddr 0] [] h Q := by
  refine g3 c_284_60 rfl ?_
  refine g5 c_284_62 rfl ?_
  obtain ⟨ho, j1, hr, t⟩ := t
  refine g45 c_284_63 ho hr ?_
  refine g1 c_284_66 k_4 ?_
  obtain ⟨ho, t⟩ := t
  refine g50 c_284_67 ho ?_
  refine gcm c_284_68 (gbr t rfl rfl (fun hc t => ?_) (fun hc t => ?_))
  · exact g94 c_284_316 t
  · refine g5 c_284_71 rfl ?_
    refine g3 c_284_72 rfl ?_
    refine g3 c_284_74 rfl ?_
    exact g80 (As := [.int x7, .int x1]) (rest := []) c_284_75 rfl rfl (Nat.le_of_ble_eq_true rfl) (Nat.le_of_ble_eq_true rfl) t.1 t.2
set_option maxRecDepth 20000 in
theorem t_284_78 {d : Nat} {h : ab_H} {Q : Option Value → ab_H → Prop} {x0 : Nat} {x1 : Int32} {x2 : Int32} {x3 : Int32} {x4 : Int32} {x5 : Int32} {x6 : Int32} {x7 : Int32} {s0 : Int32} (t : if s0 = 0 then (wq (d + 1) 284 310 [.ref x0, .int x1, .int x2, .int x3, .int x4, .int x5, .int x6, .int x7, .retAddr 0, .retAddr 0, .retAddr 0] [] h Q) else (ab_ok h x0 112 = true ∧ wm d 199 [.ref x0, .int x7, .int 7] h (fun r9 h9 => wq (d + 1) 284 92 [.ref x0, .int x1, .int x2, .int x3, .int x4, .int x5, .int x6, .int x7, .retAddr 0, .retAddr 0, .retAddr 0] (r9.toList ++ []) h9 Q))) : wq (d + 1) 284 78 [.ref x0, .int x1, .int x2, .int x3, .int x4, .int x5, .int x6, .int x7, .retAddr 0, .retAddr 0, .retAddr 0] [.int s0] h Q := by
  refine gif c_284_78 (gbn t (ab_c1 _ _) rfl (fun hc t => ?_) (fun hc t => ?_))
  · refine g38 c_284_81 rfl ?_
    exact t
  · refine g5 c_284_84 rfl ?_
    refine g3 c_284_85 rfl ?_
    refine g1 c_284_87 k_7 ?_
    exact g80 (As := [.int x7, .int 7]) (rest := []) c_284_89 rfl rfl (Nat.le_of_ble_eq_true rfl) (Nat.le_of_ble_eq_true rfl) t.1 t.2
set_option maxRecDepth 20000 in
theorem t_284_92 {d : Nat} {h : ab_H} {Q : Option Value → ab_H → Prop} {x0 : Nat} {x1 : Int32} {x2 : Int32} {x3 : Int32} {x4 : Int32} {x5 : Int32} {x6 : Int32} {x7 : Int32} {s0 : Int32} (t : ab_ok h x0 112 = true ∧ wm d 283 [.ref x0, .int x7] h (fun r9 h9 => wq (d + 1) 284 101 [.ref x0, .int x1, .int x2, .int x3, .int x4, .int x5, .int x6, .int x7, .retAddr 0, .retAddr 0, .retAddr 0] (r9.toList ++ [.int x7, .ref x0, .int s0]) h9 Q)) : wq (d + 1) 284 92 [.ref x0, .int x1, .int x2, .int x3, .int x4, .int x5, .int x6, .int x7, .retAddr 0, .retAddr 0, .retAddr 0] [.int s0] h Q := by
  refine g5 c_284_92 rfl ?_
  refine g3 c_284_93 rfl ?_
  refine g5 c_284_95 rfl ?_
  refine g3 c_284_96 rfl ?_
  exact g80 (As := [.int x7]) (rest := [.int x7, .ref x0, .int s0]) c_284_98 rfl rfl (Nat.le_of_ble_eq_true rfl) (Nat.le_of_ble_eq_true rfl) t.1 t.2
set_option maxRecDepth 20000 in
theorem t_284_101 {d : Nat} {h : ab_H} {Q : Option Value → ab_H → Prop} {x0 : Nat} {x1 : Int32} {x2 : Int32} {x3 : Int32} {x4 : Int32} {x5 : Int32} {x6 : Int32} {x7 : Int32} {s0 : Int32} {s1 : Nat} {s2 : Int32} {s3 : Int32} (t : ab_ok h s1 112 = true ∧ wm d 280 [.ref s1, .int s2, .int s3] h (fun r9 h9 => wq (d + 1) 284 104 [.ref x0, .int x1, .int x2, .int x3, .int x4, .int x5, .int x6, .int x7, .retAddr 0, .retAddr 0, .retAddr 0] (r9.toList ++ [.int s0]) h9 Q)) : wq (d + 1) 284 101 [.ref x0, .int x1, .int x2, .int x3, .int x4, .int x5, .int x6, .int x7, .retAddr 0, .retAddr 0, .retAddr 0] [.int s3, .int s2, .ref s1, .int s0] h Q := by
  exact g80 (As := [.int s2, .int s3]) (rest := [.int s0]) c_284_101 rfl rfl (Nat.le_of_ble_eq_true rfl) (Nat.le_of_ble_eq_true rfl) t.1 t.2
set_option maxRecDepth 20000 in
theorem t_284_104 {d : Nat} {h : ab_H} {Q : Option Value → ab_H → Prop} {x0 : Nat} {x1 : Int32} {x2 : Int32} {x3 : Int32} {x4 : Int32} {x5 : Int32} {x6 : Int32} {x7 : Int32} {s0 : Int32} {s1 : Int32} (t : ¬ (x4 : Int32) = 0 ∧ if x6 ≤ ((s0 + s1) / x4) then (wq d 284 127 [.ref x0, .int x1, .int x2, .int x3, .int x4, .int x5, .int x6, .int x7, .int (s0 + s1), .retAddr 0, .retAddr 0] [.int x6] h Q) else (¬ (x4 : Int32) = 0 ∧ wq d 284 127 [.ref x0, .int x1, .int x2, .int x3, .int x4, .int x5, .int x6, .int x7, .int (s0 + s1), .retAddr 0, .retAddr 0] [.int ((s0 + s1) / x4)] h Q)) : wq d 284 104 [.ref x0, .int x1, .int x2, .int x3, .int x4, .int x5, .int x6, .int x7, .retAddr 0, .retAddr 0, .retAddr 0] [.int s1, .int s0] h Q := by
  refine g10 c_284_104 ?_
  refine g6 (L' := [.ref x0, .int x1, .int x2, .int x3, .int x4, .int x5, .int x6, .int x7, .int (s0 + s1), .retAddr 0, .retAddr 0]) c_284_105 rfl ?_
  refine g3 c_284_107 rfl ?_
  refine g3 c_284_109 rfl ?_
  obtain ⟨hy, t⟩ := t
  refine g16 c_284_111 hy ?_
  refine g3 c_284_112 rfl ?_
  refine gcm c_284_114 (gbr t rfl rfl (fun hc t => ?_) (fun hc t => ?_))
  · refine g3 c_284_125 rfl ?_
    exact t
  · refine g3 c_284_117 rfl ?_
    refine g3 c_284_119 rfl ?_
    obtain ⟨hy, t⟩ := t
    refine g16 c_284_121 hy ?_
    refine g38 c_284_122 rfl ?_
    exact t
set_option maxRecDepth 20000 in
theorem t_284_127 {d : Nat} {h : ab_H} {Q : Option Value → ab_H → Prop} {x0 : Nat} {x1 : Int32} {x2 : Int32} {x3 : Int32} {x4 : Int32} {x5 : Int32} {x6 : Int32} {x7 : Int32} {x8 : Int32} {s0 : Int32} (t : wq d 284 129 [.ref x0, .int x1, .int x2, .int x3, .int x4, .int x5, .int x6, .int x7, .int x8, .int s0, .retAddr 0] [] h Q) : wq d 284 127 [.ref x0, .int x1, .int x2, .int x3, .int x4, .int x5, .int x6, .int x7, .int x8, .retAddr 0, .retAddr 0] [.int s0] h Q := by
  refine g6 (L' := [.ref x0, .int x1, .int x2, .int x3, .int x4, .int x5, .int x6, .int x7, .int x8, .int s0, .retAddr 0]) c_284_127 rfl ?_
  exact t
set_option maxRecDepth 20000 in
theorem t_284_129 {d : Nat} {h : ab_H} {Q : Option Value → ab_H → Prop} {x0 : Nat} {x1 : Int32} {x2 : Int32} {x3 : Int32} {x4 : Int32} {x5 : Int32} {x6 : Int32} {x7 : Int32} {x8 : Int32} {x9 : Int32} (t : ab_ok h x0 112 = true ∧ ∃ j1 : Nat, ab_r h x0 0 = some j1 ∧ ((j1 = 0 ∨ ab_ok h j1 0 = true) ∧ ab_in (x2 + 4) (ab_s h j1).2 = true) ∧ if (x9 * x5) ≤ (ab_i h j1 (Int32.toNatClampNeg (x2 + 4))) then (wq d 284 192 [.ref x0, .int x1, .int x2, .int x3, .int x4, .int x5, .int x6, .int x7, .int x8, .int x9, .retAddr 0] [] h Q) else (ab_ok h x0 112 = true ∧ ∃ j2 : Nat, ab_r h x0 0 = some j2 ∧ ((j2 = 0 ∨ ab_ok h j2 0 = true) ∧ ab_in (x2 + 2) (ab_s h j2).2 = true) ∧ ab_ok h x0 112 = true ∧ if (ab_i h j2 (Int32.toNatClampNeg (x2 + 2))) < (ab_i h x0 29) then (wq d 284 192 [.ref x0, .int x1, .int x2, .int x3, .int x4, .int x5, .int x6, .int x7, .int x8, .int x9, .retAddr 0] [] h Q) else (ab_ok h x0 112 = true ∧ ∃ j3 : Nat, ab_r h x0 0 = some j3 ∧ ((j3 = 0 ∨ ab_ok h j3 0 = true) ∧ ab_in (x2 + 2) (ab_s h j3).2 = true) ∧ ab_ok h x0 112 = true ∧ (ab_ok h j3 0 = true ∧ ab_in (x2 + 2) (ab_s h j3).2 = true) ∧ ∀ h4 : ab_H, h4 = ab_pi h j3 (Int32.toNatClampNeg (x2 + 2)) ((ab_i h j3 (Int32.toNatClampNeg (x2 + 2))) - (ab_i h x0 29)) → ab_ok h4 x0 112 = true ∧ ∃ j5 : Nat, ab_r h4 x0 0 = some j5 ∧ ((j5 = 0 ∨ ab_ok h4 j5 0 = true) ∧ ab_in (x2 + 4) (ab_s h4 j5).2 = true) ∧ (ab_ok h4 j5 0 = true ∧ ab_in (x2 + 4) (ab_s h4 j5).2 = true) ∧ ∀ h6 : ab_H, h6 = ab_pi h4 j5 (Int32.toNatClampNeg (x2 + 4)) ((ab_i h4 j5 (Int32.toNatClampNeg (x2 + 4))) + 360) → wq d 284 129 [.ref x0, .int x1, .int x2, .int x3, .int x4, .int x5, .int x6, .int x7, .int x8, .int x9, .retAddr 0] [] h6 Q))) : wq d 284 129 [.ref x0, .int x1, .int x2, .int x3, .int x4, .int x5, .int x6, .int x7, .int x8, .int x9, .retAddr 0] [] h Q := by
  refine g5 c_284_129 rfl ?_
  obtain ⟨ho, j1, hr, t⟩ := t
  refine g45 c_284_130 ho hr ?_
  refine g3 c_284_133 rfl ?_
  refine g1 c_284_134 k_4 ?_
  refine g10 c_284_135 ?_
  obtain ⟨ho, t⟩ := t
  refine g50 c_284_136 ho ?_
  refine g3 c_284_137 rfl ?_
  refine g3 c_284_139 rfl ?_
  refine g12 c_284_141 ?_
  refine gcm c_284_142 (gbr t rfl rfl (fun hc t => ?_) (fun hc t => ?_))
  · exact t
  · refine g5 c_284_145 rfl ?_
    obtain ⟨ho, j2, hr, t⟩ := t
    refine g45 c_284_146 ho hr ?_
    refine g3 c_284_149 rfl ?_
    refine g1 c_284_150 k_2 ?_
    refine g10 c_284_151 ?_
    obtain ⟨ho, t⟩ := t
    refine g50 c_284_152 ho ?_
    refine g5 c_284_153 rfl ?_
    obtain ⟨ho, t⟩ := t
    refine g43 c_284_154 ho ?_
    refine gcm c_284_157 (gbr t rfl rfl (fun hc t => ?_) (fun hc t => ?_))
    · exact t
    · refine g5 c_284_160 rfl ?_
      obtain ⟨ho, j3, hr, t⟩ := t
      refine g45 c_284_161 ho hr ?_
      refine g3 c_284_164 rfl ?_
      refine g1 c_284_165 k_2 ?_
      refine g10 c_284_166 ?_
      refine g34a c_284_167 ?_
      obtain ⟨ho, t⟩ := t
      refine g50 c_284_168 ho ?_
      refine g5 c_284_169 rfl ?_
      obtain ⟨ho, t⟩ := t
      refine g43 c_284_170 ho ?_
      refine g11 c_284_173 ?_
      obtain ⟨ho, t⟩ := t
      refine g54 c_284_174 ho (fun h4 eh4 => ?_)
      have t := t h4 eh4
      refine g5 c_284_175 rfl ?_
      obtain ⟨ho, j5, hr, t⟩ := t
      refine g45 c_284_176 ho hr ?_
      refine g3 c_284_179 rfl ?_
      refine g1 c_284_180 k_4 ?_
      refine g10 c_284_181 ?_
      refine g34a c_284_182 ?_
      obtain ⟨ho, t⟩ := t
      refine g50 c_284_183 ho ?_
      refine g1 c_284_184 k_360 ?_
      refine g10 c_284_187 ?_
      obtain ⟨ho, t⟩ := t
      refine g54 c_284_188 ho (fun h6 eh6 => ?_)
      have t := t h6 eh6
      refine g38 c_284_189 rfl ?_
      exact t
set_option maxRecDepth 20000 in
theorem t_284_192 {d : Nat} {h : ab_H} {Q : Option Value → ab_H → Prop} {x0 : Nat} {x1 : Int32} {x2 : Int32} {x3 : Int32} {x4 : Int32} {x5 : Int32} {x6 : Int32} {x7 : Int32} {x8 : Int32} {x9 : Int32} (t : ab_ok h x0 112 = true ∧ ∃ j1 : Nat, ab_r h x0 0 = some j1 ∧ ((j1 = 0 ∨ ab_ok h j1 0 = true) ∧ ab_in (x2 + 4) (ab_s h j1).2 = true) ∧ ¬ (x5 : Int32) = 0 ∧ if x9 ≤ ((ab_i h j1 (Int32.toNatClampNeg (x2 + 4))) / x5) then (wq d 284 221 [.ref x0, .int x1, .int x2, .int x3, .int x4, .int x5, .int x6, .int x7, .int x8, .int x9, .retAddr 0] [] h Q) else (ab_ok h x0 112 = true ∧ ∃ j2 : Nat, ab_r h x0 0 = some j2 ∧ ((j2 = 0 ∨ ab_ok h j2 0 = true) ∧ ab_in (x2 + 4) (ab_s h j2).2 = true) ∧ ¬ (x5 : Int32) = 0 ∧ ∀ y3 : Int32, y3 = ((ab_i h j2 (Int32.toNatClampNeg (x2 + 4))) / x5) → wq d 284 221 [.ref x0, .int x1, .int x2, .int x3, .int x4, .int x5, .int x6, .int x7, .int x8, .int y3, .retAddr 0] [] h Q)) : wq d 284 192 [.ref x0, .int x1, .int x2, .int x3, .int x4, .int x5, .int x6, .int x7, .int x8, .int x9, .retAddr 0] [] h Q := by
  refine g5 c_284_192 rfl ?_
  obtain ⟨ho, j1, hr, t⟩ := t
  refine g45 c_284_193 ho hr ?_
  refine g3 c_284_196 rfl ?_
  refine g1 c_284_197 k_4 ?_
  refine g10 c_284_198 ?_
  obtain ⟨ho, t⟩ := t
  refine g50 c_284_199 ho ?_
  refine g3 c_284_200 rfl ?_
  obtain ⟨hy, t⟩ := t
  refine g16 c_284_202 hy ?_
  refine g3 c_284_203 rfl ?_
  refine gcm c_284_205 (gbr t rfl rfl (fun hc t => ?_) (fun hc t => ?_))
  · exact t
  · refine g5 c_284_208 rfl ?_
    obtain ⟨ho, j2, hr, t⟩ := t
    refine g45 c_284_209 ho hr ?_
    refine g3 c_284_212 rfl ?_
    refine g1 c_284_213 k_4 ?_
    refine g10 c_284_214 ?_
    obtain ⟨ho, t⟩ := t
    refine g50 c_284_215 ho ?_
    refine g3 c_284_216 rfl ?_
    obtain ⟨hy, t⟩ := t
    refine g16 c_284_218 hy ?_
    refine g6y (Lf := fun y3 => [.ref x0, .int x1, .int x2, .int x3, .int x4, .int x5, .int x6, .int x7, .int x8, .int y3, .retAddr 0]) c_284_219 (fun _ => rfl) (fun y3 ey3 => ?_)
    have t := t y3 ey3
    exact t
set_option maxRecDepth 20000 in
theorem t_284_221 {d : Nat} {h : ab_H} {Q : Option Value → ab_H → Prop} {x0 : Nat} {x1 : Int32} {x2 : Int32} {x3 : Int32} {x4 : Int32} {x5 : Int32} {x6 : Int32} {x7 : Int32} {x8 : Int32} {x9 : Int32} (t : ab_ok h x0 112 = true ∧ ∃ j1 : Nat, ab_r h x0 0 = some j1 ∧ ((j1 = 0 ∨ ab_ok h j1 0 = true) ∧ ab_in (x2 + 4) (ab_s h j1).2 = true) ∧ (ab_ok h j1 0 = true ∧ ab_in (x2 + 4) (ab_s h j1).2 = true) ∧ ∀ h2 : ab_H, h2 = ab_pi h j1 (Int32.toNatClampNeg (x2 + 4)) ((ab_i h j1 (Int32.toNatClampNeg (x2 + 4))) - (x9 * x5)) → ab_ok h2 x0 112 = true ∧ ∃ j3 : Nat, ab_r h2 x0 33 = some j3 ∧ (ab_ok h2 j3 0 = true ∧ ab_in x7 (ab_s h2 j3).2 = true) ∧ ∀ h4 : ab_H, h4 = ab_pi h2 j3 (Int32.toNatClampNeg x7) x9 → ab_ok h4 x0 112 = true ∧ ∃ j5 : Nat, ab_r h4 x0 0 = some j5 ∧ ((j5 = 0 ∨ ab_ok h4 j5 0 = true) ∧ ab_in (x2 + 10) (ab_s h4 j5).2 = true) ∧ (ab_ok h4 j5 0 = true ∧ ab_in (x2 + 10) (ab_s h4 j5).2 = true) ∧ ∀ h6 : ab_H, h6 = ab_pi h4 j5 (Int32.toNatClampNeg (x2 + 10)) ((ab_i h4 j5 (Int32.toNatClampNeg (x2 + 10))) + x9) → ab_ok h6 x0 112 = true ∧ ∃ j7 : Nat, ab_r h6 x0 0 = some j7 ∧ if x4 ≤ (x8 - (x9 * x4)) then (wq d 284 309 [.ref x0, .int x1, .int x2, .int x3, .int x4, .int x5, .int (x6 - x9), .int x7, .int x8, .int x9, .int (x8 - (x9 * x4))] [.int (x4 - 1), .int ((3652 + (12 * x7)) + 7), .ref j7] h6 Q) else (wq d 284 309 [.ref x0, .int x1, .int x2, .int x3, .int x4, .int x5, .int (x6 - x9), .int x7, .int x8, .int x9, .int (x8 - (x9 * x4))] [.int (x8 - (x9 * x4)), .int ((3652 + (12 * x7)) + 7), .ref j7] h6 Q)) : wq d 284 221 [.ref x0, .int x1, .int x2, .int x3, .int x4, .int x5, .int x6, .int x7, .int x8, .int x9, .retAddr 0] [] h Q := by
  refine g5 c_284_221 rfl ?_
  obtain ⟨ho, j1, hr, t⟩ := t
  refine g45 c_284_222 ho hr ?_
  refine g3 c_284_225 rfl ?_
  refine g1 c_284_226 k_4 ?_
  refine g10 c_284_227 ?_
  refine g34a c_284_228 ?_
  obtain ⟨ho, t⟩ := t
  refine g50 c_284_229 ho ?_
  refine g3 c_284_230 rfl ?_
  refine g3 c_284_232 rfl ?_
  refine g12 c_284_234 ?_
  refine g11 c_284_235 ?_
  obtain ⟨ho, t⟩ := t
  refine g54 c_284_236 ho (fun h2 eh2 => ?_)
  have t := t h2 eh2
  refine g3 c_284_237 rfl ?_
  refine g3 c_284_239 rfl ?_
  refine g11 c_284_241 ?_
  refine g6 (L' := [.ref x0, .int x1, .int x2, .int x3, .int x4, .int x5, .int (x6 - x9), .int x7, .int x8, .int x9, .retAddr 0]) c_284_242 rfl ?_
  refine g5 c_284_244 rfl ?_
  obtain ⟨ho, j3, hr, t⟩ := t
  refine g45 c_284_245 ho hr ?_
  refine g3 c_284_248 rfl ?_
  refine g3 c_284_250 rfl ?_
  obtain ⟨ho, t⟩ := t
  refine g54 c_284_252 ho (fun h4 eh4 => ?_)
  have t := t h4 eh4
  refine g5 c_284_253 rfl ?_
  obtain ⟨ho, j5, hr, t⟩ := t
  refine g45 c_284_254 ho hr ?_
  refine g3 c_284_257 rfl ?_
  refine g1 c_284_258 k_10 ?_
  refine g10 c_284_260 ?_
  refine g34a c_284_261 ?_
  obtain ⟨ho, t⟩ := t
  refine g50 c_284_262 ho ?_
  refine g3 c_284_263 rfl ?_
  refine g10 c_284_265 ?_
  obtain ⟨ho, t⟩ := t
  refine g54 c_284_266 ho (fun h6 eh6 => ?_)
  have t := t h6 eh6
  refine g3 c_284_267 rfl ?_
  refine g3 c_284_269 rfl ?_
  refine g3 c_284_271 rfl ?_
  refine g12 c_284_273 ?_
  refine g11 c_284_274 ?_
  refine g6 (L' := [.ref x0, .int x1, .int x2, .int x3, .int x4, .int x5, .int (x6 - x9), .int x7, .int x8, .int x9, .int (x8 - (x9 * x4))]) c_284_275 rfl ?_
  refine g5 c_284_277 rfl ?_
  obtain ⟨ho, j7, hr, t⟩ := t
  refine g45 c_284_278 ho hr ?_
  refine g1 c_284_281 k_3652 ?_
  refine g1 c_284_284 k_12 ?_
  refine g3 c_284_286 rfl ?_
  refine g12 c_284_288 ?_
  refine g10 c_284_289 ?_
  refine g1 c_284_290 k_7 ?_
  refine g10 c_284_292 ?_
  refine g3 c_284_293 rfl ?_
  refine g3 c_284_295 rfl ?_
  refine gcm c_284_297 (gbr t rfl rfl (fun hc t => ?_) (fun hc t => ?_))
  · refine g3 c_284_305 rfl ?_
    refine g1 c_284_307 k_1 ?_
    refine g11 c_284_308 ?_
    exact t
  · refine g3 c_284_300 rfl ?_
    refine g38 c_284_302 rfl ?_
    exact t
set_option maxRecDepth 20000 in
theorem t_284_309 {d : Nat} {h : ab_H} {Q : Option Value → ab_H → Prop} {x0 : Nat} {x1 : Int32} {x2 : Int32} {x3 : Int32} {x4 : Int32} {x5 : Int32} {x6 : Int32} {x7 : Int32} {x8 : Int32} {x9 : Int32} {x10 : Int32} {s0 : Nat} {s1 : Int32} {s2 : Int32} (t : (ab_ok h s0 0 = true ∧ ab_in s1 (ab_s h s0).2 = true) ∧ ∀ h1 : ab_H, h1 = ab_pi h s0 (Int32.toNatClampNeg s1) s2 → wq d 284 310 [.ref x0, .int x1, .int x2, .int x3, .int x4, .int x5, .int x6, .int x7, .int x8, .int x9, .int x10] [] h1 Q) : wq d 284 309 [.ref x0, .int x1, .int x2, .int x3, .int x4, .int x5, .int x6, .int x7, .int x8, .int x9, .int x10] [.int s2, .int s1, .ref s0] h Q := by
  obtain ⟨ho, t⟩ := t
  refine g54 c_284_309 ho (fun h1 eh1 => ?_)
  have t := t h1 eh1
  exact t
set_option maxRecDepth 20000 in
theorem t_284_310 {d : Nat} {h : ab_H} {Q : Option Value → ab_H → Prop} {x0 : Nat} {x1 : Int32} {x2 : Int32} {x3 : Int32} {x4 : Int32} {x5 : Int32} {x6 : Int32} {x7 : Int32} (t : wq d 284 60 [.ref x0, .int x1, .int x2, .int x3, .int x4, .int x5, .int x6, .int (x7 + 1), .retAddr 0, .retAddr 0, .retAddr 0] [] h Q) : wq d 284 310 [.ref x0, .int x1, .int x2, .int x3, .int x4, .int x5, .int x6, .int x7, .retAddr 0, .retAddr 0, .retAddr 0] [] h Q := by
  refine g9 (L' := [.ref x0, .int x1, .int x2, .int x3, .int x4, .int x5, .int x6, .int (x7 + 1), .retAddr 0, .retAddr 0, .retAddr 0]) c_284_310 rfl k_1 rfl ?_
  refine g38 c_284_313 rfl ?_
  exact t
-- method 285: MillTownModel.gets(II)V
theorem c_285_0 : pg_cd 285 0 = (5, 1, 0, 0, 0) := by decide +kernel
theorem c_285_1 : pg_cd 285 1 = (45, 12, 8, 0, 0) := by decide +kernel
theorem c_285_4 : pg_cd 285 4 = (1, 3, 0, 0, 3652) := by decide +kernel
theorem c_285_7 : pg_cd 285 7 = (1, 2, 0, 0, 12) := by decide +kernel
theorem c_285_9 : pg_cd 285 9 = (3, 1, 0, 1, 0) := by decide +kernel
theorem c_285_10 : pg_cd 285 10 = (12, 1, 0, 0, 0) := by decide +kernel
theorem c_285_11 : pg_cd 285 11 = (10, 1, 0, 0, 0) := by decide +kernel
theorem c_285_12 : pg_cd 285 12 = (1, 2, 0, 0, 8) := by decide +kernel
theorem c_285_14 : pg_cd 285 14 = (10, 1, 0, 0, 0) := by decide +kernel
theorem c_285_15 : pg_cd 285 15 = (34, 1, 0, 0, 0) := by decide +kernel
theorem c_285_16 : pg_cd 285 16 = (50, 1, 0, 0, 0) := by decide +kernel
theorem c_285_17 : pg_cd 285 17 = (3, 1, 0, 2, 0) := by decide +kernel
theorem c_285_18 : pg_cd 285 18 = (10, 1, 0, 0, 0) := by decide +kernel
theorem c_285_19 : pg_cd 285 19 = (54, 1, 0, 0, 0) := by decide +kernel
theorem c_285_20 : pg_cd 285 20 = (94, 0, 0, 0, 0) := by decide +kernel
theorem mx_285 : pg_mx 285 = 3 := by decide +kernel
theorem m_285 {d : Nat} {h : ab_H} {Q : Option Value → ab_H → Prop} {x0 : Nat} {x1 : Int32} {x2 : Int32} (t : wq d 285 0 [.ref x0, .int x1, .int x2] [] h Q) : wm d 285 [.ref x0, .int x1, .int x2] h Q := by
  unfold wm
  rw [mx_285]
  exact t
set_option maxRecDepth 20000 in
theorem t_285_0 {d : Nat} {h : ab_H} {Q : Option Value → ab_H → Prop} {x0 : Nat} {x1 : Int32} {x2 : Int32} (t : ab_ok h x0 112 = true ∧ ∃ j1 : Nat, ab_r h x0 0 = some j1 ∧ ((j1 = 0 ∨ ab_ok h j1 0 = true) ∧ ab_in ((3652 + (12 * x1)) + 8) (ab_s h j1).2 = true) ∧ (ab_ok h j1 0 = true ∧ ab_in ((3652 + (12 * x1)) + 8) (ab_s h j1).2 = true) ∧ ∀ h2 : ab_H, h2 = ab_pi h j1 (Int32.toNatClampNeg ((3652 + (12 * x1)) + 8)) ((ab_i h j1 (Int32.toNatClampNeg ((3652 + (12 * x1)) + 8))) + x2) → Q none h2) : wq d 285 0 [.ref x0, .int x1, .int x2] [] h Q := by
  refine g5 c_285_0 rfl ?_
  obtain ⟨ho, j1, hr, t⟩ := t
  refine g45 c_285_1 ho hr ?_
  refine g1 c_285_4 k_3652 ?_
  refine g1 c_285_7 k_12 ?_
  refine g3 c_285_9 rfl ?_
  refine g12 c_285_10 ?_
  refine g10 c_285_11 ?_
  refine g1 c_285_12 k_8 ?_
  refine g10 c_285_14 ?_
  refine g34a c_285_15 ?_
  obtain ⟨ho, t⟩ := t
  refine g50 c_285_16 ho ?_
  refine g3 c_285_17 rfl ?_
  refine g10 c_285_18 ?_
  obtain ⟨ho, t⟩ := t
  refine g54 c_285_19 ho (fun h2 eh2 => ?_)
  have t := t h2 eh2
  exact g94 c_285_20 t
-- method 286: MillTownModel.payAll(I)V
theorem c_286_0 : pg_cd 286 0 = (1, 1, 0, 0, 0) := by decide +kernel
theorem c_286_1 : pg_cd 286 1 = (6, 1, 0, 2, 0) := by decide +kernel
theorem c_286_2 : pg_cd 286 2 = (3, 1, 0, 2, 0) := by decide +kernel
theorem c_286_3 : pg_cd 286 3 = (5, 1, 0, 0, 0) := by decide +kernel
theorem c_286_4 : pg_cd 286 4 = (45, 12, 8, 0, 0) := by decide +kernel
theorem c_286_7 : pg_cd 286 7 = (1, 1, 0, 0, 1) := by decide +kernel
theorem c_286_8 : pg_cd 286 8 = (50, 1, 0, 0, 0) := by decide +kernel
theorem c_286_9 : pg_cd 286 9 = (37, 3, 0, 3, 300) := by decide +kernel
theorem c_286_12 : pg_cd 286 12 = (1, 3, 0, 0, 3300) := by decide +kernel
theorem c_286_15 : pg_cd 286 15 = (1, 2, 0, 0, 16) := by decide +kernel
theorem c_286_17 : pg_cd 286 17 = (3, 1, 0, 2, 0) := by decide +kernel
theorem c_286_18 : pg_cd 286 18 = (12, 1, 0, 0, 0) := by decide +kernel
theorem c_286_19 : pg_cd 286 19 = (10, 1, 0, 0, 0) := by decide +kernel
theorem c_286_20 : pg_cd 286 20 = (6, 1, 0, 3, 0) := by decide +kernel
theorem c_286_21 : pg_cd 286 21 = (5, 1, 0, 0, 0) := by decide +kernel
theorem c_286_22 : pg_cd 286 22 = (45, 12, 8, 0, 0) := by decide +kernel
theorem c_286_25 : pg_cd 286 25 = (3, 1, 0, 3, 0) := by decide +kernel
theorem c_286_26 : pg_cd 286 26 = (1, 2, 0, 0, 8) := by decide +kernel
theorem c_286_28 : pg_cd 286 28 = (10, 1, 0, 0, 0) := by decide +kernel
theorem c_286_29 : pg_cd 286 29 = (50, 1, 0, 0, 0) := by decide +kernel
theorem c_286_30 : pg_cd 286 30 = (36, 3, 0, 1, 6) := by decide +kernel
theorem c_286_33 : pg_cd 286 33 = (38, 3, 0, 0, 270) := by decide +kernel
theorem c_286_36 : pg_cd 286 36 = (1, 3, 0, 0, 4372) := by decide +kernel
theorem c_286_39 : pg_cd 286 39 = (1, 2, 0, 0, 8) := by decide +kernel
theorem c_286_41 : pg_cd 286 41 = (5, 1, 0, 0, 0) := by decide +kernel
theorem c_286_42 : pg_cd 286 42 = (45, 12, 8, 0, 0) := by decide +kernel
theorem c_286_45 : pg_cd 286 45 = (3, 1, 0, 3, 0) := by decide +kernel
theorem c_286_46 : pg_cd 286 46 = (1, 2, 0, 0, 9) := by decide +kernel
theorem c_286_48 : pg_cd 286 48 = (10, 1, 0, 0, 0) := by decide +kernel
theorem c_286_49 : pg_cd 286 49 = (50, 1, 0, 0, 0) := by decide +kernel
theorem c_286_50 : pg_cd 286 50 = (12, 1, 0, 0, 0) := by decide +kernel
theorem c_286_51 : pg_cd 286 51 = (10, 1, 0, 0, 0) := by decide +kernel
theorem c_286_52 : pg_cd 286 52 = (6, 2, 0, 4, 0) := by decide +kernel
theorem c_286_54 : pg_cd 286 54 = (5, 1, 0, 0, 0) := by decide +kernel
theorem c_286_55 : pg_cd 286 55 = (5, 1, 0, 0, 0) := by decide +kernel
theorem c_286_56 : pg_cd 286 56 = (45, 12, 8, 0, 0) := by decide +kernel
theorem c_286_59 : pg_cd 286 59 = (3, 2, 0, 4, 0) := by decide +kernel
theorem c_286_61 : pg_cd 286 61 = (50, 1, 0, 0, 0) := by decide +kernel
theorem c_286_62 : pg_cd 286 62 = (3, 1, 0, 2, 0) := by decide +kernel
theorem c_286_63 : pg_cd 286 63 = (3, 1, 0, 1, 0) := by decide +kernel
theorem c_286_64 : pg_cd 286 64 = (3, 1, 0, 1, 0) := by decide +kernel
theorem c_286_65 : pg_cd 286 65 = (80, 271, 337, 0, 0) := by decide +kernel
theorem c_286_68 : pg_cd 286 68 = (6, 2, 0, 5, 0) := by decide +kernel
theorem c_286_70 : pg_cd 286 70 = (1, 1, 0, 0, 0) := by decide +kernel
theorem c_286_71 : pg_cd 286 71 = (6, 2, 0, 6, 0) := by decide +kernel
theorem c_286_73 : pg_cd 286 73 = (1, 1, 0, 0, 0) := by decide +kernel
theorem c_286_74 : pg_cd 286 74 = (6, 2, 0, 7, 0) := by decide +kernel
theorem c_286_76 : pg_cd 286 76 = (3, 2, 0, 7, 0) := by decide +kernel
theorem c_286_78 : pg_cd 286 78 = (5, 1, 0, 0, 0) := by decide +kernel
theorem c_286_79 : pg_cd 286 79 = (45, 12, 8, 0, 0) := by decide +kernel
theorem c_286_82 : pg_cd 286 82 = (1, 1, 0, 0, 4) := by decide +kernel
theorem c_286_83 : pg_cd 286 83 = (50, 1, 0, 0, 0) := by decide +kernel
theorem c_286_84 : pg_cd 286 84 = (37, 3, 0, 3, 126) := by decide +kernel
theorem c_286_87 : pg_cd 286 87 = (5, 1, 0, 0, 0) := by decide +kernel
theorem c_286_88 : pg_cd 286 88 = (3, 2, 0, 7, 0) := by decide +kernel
theorem c_286_90 : pg_cd 286 90 = (1, 1, 0, 0, 4) := by decide +kernel
theorem c_286_91 : pg_cd 286 91 = (80, 199, 102, 0, 0) := by decide +kernel
theorem c_286_94 : pg_cd 286 94 = (3, 1, 0, 2, 0) := by decide +kernel
theorem c_286_95 : pg_cd 286 95 = (37, 3, 0, 0, 6) := by decide +kernel
theorem c_286_98 : pg_cd 286 98 = (38, 3, 0, 0, 106) := by decide +kernel
theorem c_286_101 : pg_cd 286 101 = (5, 1, 0, 0, 0) := by decide +kernel
theorem c_286_102 : pg_cd 286 102 = (3, 2, 0, 7, 0) := by decide +kernel
theorem c_286_104 : pg_cd 286 104 = (1, 1, 0, 0, 3) := by decide +kernel
theorem c_286_105 : pg_cd 286 105 = (80, 199, 102, 0, 0) := by decide +kernel
theorem c_286_108 : pg_cd 286 108 = (1, 1, 0, 0, 3) := by decide +kernel
theorem c_286_109 : pg_cd 286 109 = (37, 3, 0, 2, 20) := by decide +kernel
theorem c_286_112 : pg_cd 286 112 = (5, 1, 0, 0, 0) := by decide +kernel
theorem c_286_113 : pg_cd 286 113 = (3, 2, 0, 7, 0) := by decide +kernel
theorem c_286_115 : pg_cd 286 115 = (80, 283, 361, 0, 0) := by decide +kernel
theorem c_286_118 : pg_cd 286 118 = (5, 1, 0, 0, 0) := by decide +kernel
theorem c_286_119 : pg_cd 286 119 = (3, 2, 0, 7, 0) := by decide +kernel
theorem c_286_121 : pg_cd 286 121 = (1, 1, 0, 0, 5) := by decide +kernel
theorem c_286_122 : pg_cd 286 122 = (80, 199, 102, 0, 0) := by decide +kernel
theorem c_286_125 : pg_cd 286 125 = (12, 1, 0, 0, 0) := by decide +kernel
theorem c_286_126 : pg_cd 286 126 = (38, 3, 0, 0, 13) := by decide +kernel
theorem c_286_129 : pg_cd 286 129 = (5, 1, 0, 0, 0) := by decide +kernel
theorem c_286_130 : pg_cd 286 130 = (45, 12, 50, 33, 0) := by decide +kernel
theorem c_286_133 : pg_cd 286 133 = (3, 2, 0, 7, 0) := by decide +kernel
theorem c_286_135 : pg_cd 286 135 = (50, 1, 0, 0, 0) := by decide +kernel
theorem c_286_136 : pg_cd 286 136 = (3, 2, 0, 5, 0) := by decide +kernel
theorem c_286_138 : pg_cd 286 138 = (12, 1, 0, 0, 0) := by decide +kernel
theorem c_286_139 : pg_cd 286 139 = (6, 2, 0, 8, 0) := by decide +kernel
theorem c_286_141 : pg_cd 286 141 = (3, 2, 0, 6, 0) := by decide +kernel
theorem c_286_143 : pg_cd 286 143 = (3, 2, 0, 8, 0) := by decide +kernel
theorem c_286_145 : pg_cd 286 145 = (10, 1, 0, 0, 0) := by decide +kernel
theorem c_286_146 : pg_cd 286 146 = (6, 2, 0, 6, 0) := by decide +kernel
theorem c_286_148 : pg_cd 286 148 = (5, 1, 0, 0, 0) := by decide +kernel
theorem c_286_149 : pg_cd 286 149 = (3, 2, 0, 7, 0) := by decide +kernel
theorem c_286_151 : pg_cd 286 151 = (5, 1, 0, 0, 0) := by decide +kernel
theorem c_286_152 : pg_cd 286 152 = (3, 2, 0, 7, 0) := by decide +kernel
theorem c_286_154 : pg_cd 286 154 = (1, 1, 0, 0, 3) := by decide +kernel
theorem c_286_155 : pg_cd 286 155 = (80, 199, 102, 0, 0) := by decide +kernel
theorem c_286_158 : pg_cd 286 158 = (1, 1, 0, 0, 2) := by decide +kernel
theorem c_286_159 : pg_cd 286 159 = (37, 3, 0, 1, 10) := by decide +kernel
theorem c_286_162 : pg_cd 286 162 = (3, 2, 0, 8, 0) := by decide +kernel
theorem c_286_164 : pg_cd 286 164 = (1, 1, 0, 0, 3) := by decide +kernel
theorem c_286_165 : pg_cd 286 165 = (16, 1, 0, 0, 0) := by decide +kernel
theorem c_286_166 : pg_cd 286 166 = (38, 3, 0, 0, 5) := by decide +kernel
theorem c_286_169 : pg_cd 286 169 = (3, 2, 0, 8, 0) := by decide +kernel
theorem c_286_171 : pg_cd 286 171 = (80, 285, 364, 0, 0) := by decide +kernel
theorem c_286_174 : pg_cd 286 174 = (5, 1, 0, 0, 0) := by decide +kernel
theorem c_286_175 : pg_cd 286 175 = (3, 2, 0, 7, 0) := by decide +kernel
theorem c_286_177 : pg_cd 286 177 = (1, 1, 0, 0, 3) := by decide +kernel
theorem c_286_178 : pg_cd 286 178 = (80, 199, 102, 0, 0) := by decide +kernel
theorem c_286_181 : pg_cd 286 181 = (1, 1, 0, 0, 2) := by decide +kernel
theorem c_286_182 : pg_cd 286 182 = (37, 3, 0, 1, 22) := by decide +kernel
theorem c_286_185 : pg_cd 286 185 = (5, 1, 0, 0, 0) := by decide +kernel
theorem c_286_186 : pg_cd 286 186 = (5, 1, 0, 0, 0) := by decide +kernel
theorem c_286_187 : pg_cd 286 187 = (3, 2, 0, 7, 0) := by decide +kernel
theorem c_286_189 : pg_cd 286 189 = (1, 2, 0, 0, 6) := by decide +kernel
theorem c_286_191 : pg_cd 286 191 = (80, 199, 102, 0, 0) := by decide +kernel
theorem c_286_194 : pg_cd 286 194 = (3, 2, 0, 8, 0) := by decide +kernel
theorem c_286_196 : pg_cd 286 196 = (3, 2, 0, 8, 0) := by decide +kernel
theorem c_286_198 : pg_cd 286 198 = (1, 1, 0, 0, 3) := by decide +kernel
theorem c_286_199 : pg_cd 286 199 = (16, 1, 0, 0, 0) := by decide +kernel
theorem c_286_200 : pg_cd 286 200 = (11, 1, 0, 0, 0) := by decide +kernel
theorem c_286_201 : pg_cd 286 201 = (80, 285, 364, 0, 0) := by decide +kernel
theorem c_286_204 : pg_cd 286 204 = (9, 3, 0, 7, 1) := by decide +kernel
theorem c_286_207 : pg_cd 286 207 = (38, 3, 0, 0, (-131)) := by decide +kernel
theorem c_286_210 : pg_cd 286 210 = (5, 1, 0, 0, 0) := by decide +kernel
theorem c_286_211 : pg_cd 286 211 = (33, 1, 0, 0, 0) := by decide +kernel
theorem c_286_212 : pg_cd 286 212 = (43, 12, 367, 31, 0) := by decide +kernel
theorem c_286_215 : pg_cd 286 215 = (3, 2, 0, 6, 0) := by decide +kernel
theorem c_286_217 : pg_cd 286 217 = (10, 1, 0, 0, 0) := by decide +kernel
theorem c_286_218 : pg_cd 286 218 = (46, 12, 367, 31, 0) := by decide +kernel
theorem c_286_221 : pg_cd 286 221 = (5, 1, 0, 0, 0) := by decide +kernel
theorem c_286_222 : pg_cd 286 222 = (45, 12, 8, 0, 0) := by decide +kernel
theorem c_286_225 : pg_cd 286 225 = (3, 1, 0, 3, 0) := by decide +kernel
theorem c_286_226 : pg_cd 286 226 = (1, 1, 0, 0, 2) := by decide +kernel
theorem c_286_227 : pg_cd 286 227 = (10, 1, 0, 0, 0) := by decide +kernel
theorem c_286_228 : pg_cd 286 228 = (34, 1, 0, 0, 0) := by decide +kernel
theorem c_286_229 : pg_cd 286 229 = (50, 1, 0, 0, 0) := by decide +kernel
theorem c_286_230 : pg_cd 286 230 = (5, 1, 0, 0, 0) := by decide +kernel
theorem c_286_231 : pg_cd 286 231 = (45, 12, 8, 0, 0) := by decide +kernel
theorem c_286_234 : pg_cd 286 234 = (3, 1, 0, 3, 0) := by decide +kernel
theorem c_286_235 : pg_cd 286 235 = (1, 2, 0, 0, 10) := by decide +kernel
theorem c_286_237 : pg_cd 286 237 = (10, 1, 0, 0, 0) := by decide +kernel
theorem c_286_238 : pg_cd 286 238 = (50, 1, 0, 0, 0) := by decide +kernel
theorem c_286_239 : pg_cd 286 239 = (5, 1, 0, 0, 0) := by decide +kernel
theorem c_286_240 : pg_cd 286 240 = (45, 12, 8, 0, 0) := by decide +kernel
theorem c_286_243 : pg_cd 286 243 = (3, 2, 0, 4, 0) := by decide +kernel
theorem c_286_245 : pg_cd 286 245 = (1, 1, 0, 0, 2) := by decide +kernel
theorem c_286_246 : pg_cd 286 246 = (10, 1, 0, 0, 0) := by decide +kernel
theorem c_286_247 : pg_cd 286 247 = (50, 1, 0, 0, 0) := by decide +kernel
theorem c_286_248 : pg_cd 286 248 = (5, 1, 0, 0, 0) := by decide +kernel
theorem c_286_249 : pg_cd 286 249 = (45, 12, 8, 0, 0) := by decide +kernel
theorem c_286_252 : pg_cd 286 252 = (1, 2, 0, 0, 11) := by decide +kernel
theorem c_286_254 : pg_cd 286 254 = (50, 1, 0, 0, 0) := by decide +kernel
theorem c_286_255 : pg_cd 286 255 = (11, 1, 0, 0, 0) := by decide +kernel
theorem c_286_256 : pg_cd 286 256 = (12, 1, 0, 0, 0) := by decide +kernel
theorem c_286_257 : pg_cd 286 257 = (3, 2, 0, 6, 0) := by decide +kernel
theorem c_286_259 : pg_cd 286 259 = (11, 1, 0, 0, 0) := by decide +kernel
theorem c_286_260 : pg_cd 286 260 = (10, 1, 0, 0, 0) := by decide +kernel
theorem c_286_261 : pg_cd 286 261 = (54, 1, 0, 0, 0) := by decide +kernel
theorem c_286_262 : pg_cd 286 262 = (5, 1, 0, 0, 0) := by decide +kernel
theorem c_286_263 : pg_cd 286 263 = (45, 12, 8, 0, 0) := by decide +kernel
theorem c_286_266 : pg_cd 286 266 = (3, 2, 0, 4, 0) := by decide +kernel
theorem c_286_268 : pg_cd 286 268 = (1, 1, 0, 0, 1) := by decide +kernel
theorem c_286_269 : pg_cd 286 269 = (10, 1, 0, 0, 0) := by decide +kernel
theorem c_286_270 : pg_cd 286 270 = (34, 1, 0, 0, 0) := by decide +kernel
theorem c_286_271 : pg_cd 286 271 = (50, 1, 0, 0, 0) := by decide +kernel
theorem c_286_272 : pg_cd 286 272 = (5, 1, 0, 0, 0) := by decide +kernel
theorem c_286_273 : pg_cd 286 273 = (45, 12, 8, 0, 0) := by decide +kernel
theorem c_286_276 : pg_cd 286 276 = (3, 1, 0, 3, 0) := by decide +kernel
theorem c_286_277 : pg_cd 286 277 = (1, 2, 0, 0, 10) := by decide +kernel
theorem c_286_279 : pg_cd 286 279 = (10, 1, 0, 0, 0) := by decide +kernel
theorem c_286_280 : pg_cd 286 280 = (50, 1, 0, 0, 0) := by decide +kernel
theorem c_286_281 : pg_cd 286 281 = (11, 1, 0, 0, 0) := by decide +kernel
theorem c_286_282 : pg_cd 286 282 = (54, 1, 0, 0, 0) := by decide +kernel
theorem c_286_283 : pg_cd 286 283 = (5, 1, 0, 0, 0) := by decide +kernel
theorem c_286_284 : pg_cd 286 284 = (45, 12, 8, 0, 0) := by decide +kernel
theorem c_286_287 : pg_cd 286 287 = (3, 1, 0, 3, 0) := by decide +kernel
theorem c_286_288 : pg_cd 286 288 = (1, 1, 0, 0, 2) := by decide +kernel
theorem c_286_289 : pg_cd 286 289 = (10, 1, 0, 0, 0) := by decide +kernel
theorem c_286_290 : pg_cd 286 290 = (50, 1, 0, 0, 0) := by decide +kernel
theorem c_286_291 : pg_cd 286 291 = (36, 3, 0, 3, 12) := by decide +kernel
theorem c_286_294 : pg_cd 286 294 = (5, 1, 0, 0, 0) := by decide +kernel
theorem c_286_295 : pg_cd 286 295 = (45, 12, 8, 0, 0) := by decide +kernel
theorem c_286_298 : pg_cd 286 298 = (3, 1, 0, 3, 0) := by decide +kernel
theorem c_286_299 : pg_cd 286 299 = (1, 1, 0, 0, 5) := by decide +kernel
theorem c_286_300 : pg_cd 286 300 = (10, 1, 0, 0, 0) := by decide +kernel
theorem c_286_301 : pg_cd 286 301 = (1, 1, 0, 0, 1) := by decide +kernel
theorem c_286_302 : pg_cd 286 302 = (54, 1, 0, 0, 0) := by decide +kernel
theorem c_286_303 : pg_cd 286 303 = (9, 3, 0, 2, 1) := by decide +kernel
theorem c_286_306 : pg_cd 286 306 = (38, 3, 0, 0, (-304)) := by decide +kernel
theorem c_286_309 : pg_cd 286 309 = (94, 0, 0, 0, 0) := by decide +kernel
theorem mx_286 : pg_mx 286 = 9 := by decide +kernel
theorem m_286 {d : Nat} {h : ab_H} {Q : Option Value → ab_H → Prop} {x0 : Nat} {x1 : Int32} (t : wq d 286 0 [.ref x0, .int x1, .retAddr 0, .retAddr 0, .retAddr 0, .retAddr 0, .retAddr 0, .retAddr 0, .retAddr 0] [] h Q) : wm d 286 [.ref x0, .int x1] h Q := by
  unfold wm
  rw [mx_286]
  exact t
set_option maxRecDepth 20000 in
theorem t_286_0 {d : Nat} {h : ab_H} {Q : Option Value → ab_H → Prop} {x0 : Nat} {x1 : Int32} (t : wq d 286 2 [.ref x0, .int x1, .int 0, .retAddr 0, .retAddr 0, .retAddr 0, .retAddr 0, .retAddr 0, .retAddr 0] [] h Q) : wq d 286 0 [.ref x0, .int x1, .retAddr 0, .retAddr 0, .retAddr 0, .retAddr 0, .retAddr 0, .retAddr 0, .retAddr 0] [] h Q := by
  refine g1 c_286_0 k_0 ?_
  refine g6 (L' := [.ref x0, .int x1, .int 0, .retAddr 0, .retAddr 0, .retAddr 0, .retAddr 0, .retAddr 0, .retAddr 0]) c_286_1 rfl ?_
  exact t
set_option maxRecDepth 20000 in
theorem t_286_2 {d : Nat} {h : ab_H} {Q : Option Value → ab_H → Prop} {x0 : Nat} {x1 : Int32} {x2 : Int32} (t : ab_ok h x0 112 = true ∧ ∃ j1 : Nat, ab_r h x0 0 = some j1 ∧ ((j1 = 0 ∨ ab_ok h j1 0 = true) ∧ ab_in (1 : Int32) (ab_s h j1).2 = true) ∧ if (ab_i h j1 (Int32.toNatClampNeg (1 : Int32))) ≤ x2 then (Q none h) else (ab_ok h x0 112 = true ∧ ∃ j2 : Nat, ab_r h x0 0 = some j2 ∧ ((j2 = 0 ∨ ab_ok h j2 0 = true) ∧ ab_in ((3300 + (16 * x2)) + 8) (ab_s h j2).2 = true) ∧ if (ab_i h j2 (Int32.toNatClampNeg ((3300 + (16 * x2)) + 8))) = 0 then (wq (d + 1) 286 2 [.ref x0, .int x1, .int (x2 + 1), .int (3300 + (16 * x2)), .retAddr 0, .retAddr 0, .retAddr 0, .retAddr 0, .retAddr 0] [] h Q) else (ab_ok h x0 112 = true ∧ ∃ j3 : Nat, ab_r h x0 0 = some j3 ∧ ((j3 = 0 ∨ ab_ok h j3 0 = true) ∧ ab_in ((3300 + (16 * x2)) + 9) (ab_s h j3).2 = true) ∧ ∀ y4 : Int32, y4 = (4372 + (8 * (ab_i h j3 (Int32.toNatClampNeg ((3300 + (16 * x2)) + 9))))) → ab_ok h x0 112 = true ∧ ∃ j5 : Nat, ab_r h x0 0 = some j5 ∧ ((j5 = 0 ∨ ab_ok h j5 0 = true) ∧ ab_in y4 (ab_s h j5).2 = true) ∧ ab_ok h x0 112 = true ∧ wm d 271 [.ref x0, .int (ab_i h j5 (Int32.toNatClampNeg y4)), .int x2, .int x1, .int x1] h (fun r9 h9 => wq (d + 1) 286 68 [.ref x0, .int x1, .int x2, .int (3300 + (16 * x2)), .int y4, .retAddr 0, .retAddr 0, .retAddr 0, .retAddr 0] (r9.toList ++ []) h9 Q)))) : wq (d + 1) 286 2 [.ref x0, .int x1, .int x2, .retAddr 0, .retAddr 0, .retAddr 0, .retAddr 0, .retAddr 0, .retAddr 0] [] h Q := by
  refine g3 c_286_2 rfl ?_
  refine g5 c_286_3 rfl ?_
  obtain ⟨ho, j1, hr, t⟩ := t
  refine g45 c_286_4 ho hr ?_
  refine g1 c_286_7 k_1 ?_
  obtain ⟨ho, t⟩ := t
  refine g50 c_286_8 ho ?_
  refine gcm c_286_9 (gbr t rfl rfl (fun hc t => ?_) (fun hc t => ?_))
  · exact g94 c_286_309 t
  · refine g1 c_286_12 k_3300 ?_
    refine g1 c_286_15 k_16 ?_
    refine g3 c_286_17 rfl ?_
    refine g12 c_286_18 ?_
    refine g10 c_286_19 ?_
    refine g6 (L' := [.ref x0, .int x1, .int x2, .int (3300 + (16 * x2)), .retAddr 0, .retAddr 0, .retAddr 0, .retAddr 0, .retAddr 0]) c_286_20 rfl ?_
    refine g5 c_286_21 rfl ?_
    obtain ⟨ho, j2, hr, t⟩ := t
    refine g45 c_286_22 ho hr ?_
    refine g3 c_286_25 rfl ?_
    refine g1 c_286_26 k_8 ?_
    refine g10 c_286_28 ?_
    obtain ⟨ho, t⟩ := t
    refine g50 c_286_29 ho ?_
    refine gif c_286_30 (gbn t (ab_c1 _ _) rfl (fun hc t => ?_) (fun hc t => ?_))
    · refine g38 c_286_33 rfl ?_
      refine g9 (L' := [.ref x0, .int x1, .int (x2 + 1), .int (3300 + (16 * x2)), .retAddr 0, .retAddr 0, .retAddr 0, .retAddr 0, .retAddr 0]) c_286_303 rfl k_1 rfl ?_
      refine g38 c_286_306 rfl ?_
      exact t
    · refine g1 c_286_36 k_4372 ?_
      refine g1 c_286_39 k_8 ?_
      refine g5 c_286_41 rfl ?_
      obtain ⟨ho, j3, hr, t⟩ := t
      refine g45 c_286_42 ho hr ?_
      refine g3 c_286_45 rfl ?_
      refine g1 c_286_46 k_9 ?_
      refine g10 c_286_48 ?_
      obtain ⟨ho, t⟩ := t
      refine g50 c_286_49 ho ?_
      refine g12 c_286_50 ?_
      refine g10 c_286_51 ?_
      refine g6y (Lf := fun y4 => [.ref x0, .int x1, .int x2, .int (3300 + (16 * x2)), .int y4, .retAddr 0, .retAddr 0, .retAddr 0, .retAddr 0]) c_286_52 (fun _ => rfl) (fun y4 ey4 => ?_)
      have t := t y4 ey4
      refine g5 c_286_54 rfl ?_
      refine g5 c_286_55 rfl ?_
      obtain ⟨ho, j5, hr, t⟩ := t
      refine g45 c_286_56 ho hr ?_
      refine g3 c_286_59 rfl ?_
      obtain ⟨ho, t⟩ := t
      refine g50 c_286_61 ho ?_
      refine g3 c_286_62 rfl ?_
      refine g3 c_286_63 rfl ?_
      refine g3 c_286_64 rfl ?_
      exact g80 (As := [.int (ab_i h j5 (Int32.toNatClampNeg y4)), .int x2, .int x1, .int x1]) (rest := []) c_286_65 rfl rfl (Nat.le_of_ble_eq_true rfl) (Nat.le_of_ble_eq_true rfl) t.1 t.2
set_option maxRecDepth 20000 in
theorem t_286_68 {d : Nat} {h : ab_H} {Q : Option Value → ab_H → Prop} {x0 : Nat} {x1 : Int32} {x2 : Int32} {x3 : Int32} {x4 : Int32} {s0 : Int32} (t : wq d 286 76 [.ref x0, .int x1, .int x2, .int x3, .int x4, .int s0, .int 0, .int 0, .retAddr 0] [] h Q) : wq d 286 68 [.ref x0, .int x1, .int x2, .int x3, .int x4, .retAddr 0, .retAddr 0, .retAddr 0, .retAddr 0] [.int s0] h Q := by
  refine g6 (L' := [.ref x0, .int x1, .int x2, .int x3, .int x4, .int s0, .retAddr 0, .retAddr 0, .retAddr 0]) c_286_68 rfl ?_
  refine g1 c_286_70 k_0 ?_
  refine g6 (L' := [.ref x0, .int x1, .int x2, .int x3, .int x4, .int s0, .int 0, .retAddr 0, .retAddr 0]) c_286_71 rfl ?_
  refine g1 c_286_73 k_0 ?_
  refine g6 (L' := [.ref x0, .int x1, .int x2, .int x3, .int x4, .int s0, .int 0, .int 0, .retAddr 0]) c_286_74 rfl ?_
  exact t
set_option maxRecDepth 20000 in
theorem t_286_76 {d : Nat} {h : ab_H} {Q : Option Value → ab_H → Prop} {x0 : Nat} {x1 : Int32} {x2 : Int32} {x3 : Int32} {x4 : Int32} {x5 : Int32} {x6 : Int32} {x7 : Int32} (t : ab_ok h x0 112 = true ∧ ∃ j1 : Nat, ab_r h x0 0 = some j1 ∧ ((j1 = 0 ∨ ab_ok h j1 0 = true) ∧ ab_in (4 : Int32) (ab_s h j1).2 = true) ∧ if (ab_i h j1 (Int32.toNatClampNeg (4 : Int32))) ≤ x7 then (ab_ok h x0 112 = true ∧ ab_ok h x0 112 = true ∧ ∀ h2 : ab_H, h2 = ab_pi h x0 31 ((ab_i h x0 31) + x6) → ab_ok h2 x0 112 = true ∧ ∃ j3 : Nat, ab_r h2 x0 0 = some j3 ∧ ((j3 = 0 ∨ ab_ok h2 j3 0 = true) ∧ ab_in (x3 + 2) (ab_s h2 j3).2 = true) ∧ ab_ok h2 x0 112 = true ∧ ∃ j4 : Nat, ab_r h2 x0 0 = some j4 ∧ ((j4 = 0 ∨ ab_ok h2 j4 0 = true) ∧ ab_in (x3 + 10) (ab_s h2 j4).2 = true) ∧ ab_ok h2 x0 112 = true ∧ ∃ j5 : Nat, ab_r h2 x0 0 = some j5 ∧ ((j5 = 0 ∨ ab_ok h2 j5 0 = true) ∧ ab_in (x4 + 2) (ab_s h2 j5).2 = true) ∧ ab_ok h2 x0 112 = true ∧ ∃ j6 : Nat, ab_r h2 x0 0 = some j6 ∧ ((j6 = 0 ∨ ab_ok h2 j6 0 = true) ∧ ab_in (11 : Int32) (ab_s h2 j6).2 = true) ∧ (ab_ok h2 j3 0 = true ∧ ab_in (x3 + 2) (ab_s h2 j3).2 = true) ∧ ∀ h7 : ab_H, h7 = ab_pi h2 j3 (Int32.toNatClampNeg (x3 + 2)) ((ab_i h2 j3 (Int32.toNatClampNeg (x3 + 2))) + (((ab_i h2 j4 (Int32.toNatClampNeg (x3 + 10))) * ((ab_i h2 j5 (Int32.toNatClampNeg (x4 + 2))) - (ab_i h2 j6 (Int32.toNatClampNeg (11 : Int32))))) - x6)) → ab_ok h7 x0 112 = true ∧ ∃ j8 : Nat, ab_r h7 x0 0 = some j8 ∧ ((j8 = 0 ∨ ab_ok h7 j8 0 = true) ∧ ab_in (x4 + 1) (ab_s h7 j8).2 = true) ∧ ab_ok h7 x0 112 = true ∧ ∃ j9 : Nat, ab_r h7 x0 0 = some j9 ∧ ((j9 = 0 ∨ ab_ok h7 j9 0 = true) ∧ ab_in (x3 + 10) (ab_s h7 j9).2 = true) ∧ (ab_ok h7 j8 0 = true ∧ ab_in (x4 + 1) (ab_s h7 j8).2 = true) ∧ ∀ h10 : ab_H, h10 = ab_pi h7 j8 (Int32.toNatClampNeg (x4 + 1)) ((ab_i h7 j8 (Int32.toNatClampNeg (x4 + 1))) - (ab_i h7 j9 (Int32.toNatClampNeg (x3 + 10)))) → ab_ok h10 x0 112 = true ∧ ∃ j11 : Nat, ab_r h10 x0 0 = some j11 ∧ ((j11 = 0 ∨ ab_ok h10 j11 0 = true) ∧ ab_in (x3 + 2) (ab_s h10 j11).2 = true) ∧ if 0 ≤ (ab_i h10 j11 (Int32.toNatClampNeg (x3 + 2))) then (wq (d + 1) 286 2 [.ref x0, .int x1, .int (x2 + 1), .int x3, .int x4, .int x5, .int x6, .int x7, .retAddr 0] [] h10 Q) else (ab_ok h10 x0 112 = true ∧ ∃ j12 : Nat, ab_r h10 x0 0 = some j12 ∧ (ab_ok h10 j12 0 = true ∧ ab_in (x3 + 5) (ab_s h10 j12).2 = true) ∧ ∀ h13 : ab_H, h13 = ab_pi h10 j12 (Int32.toNatClampNeg (x3 + 5)) 1 → wq (d + 1) 286 2 [.ref x0, .int x1, .int (x2 + 1), .int x3, .int x4, .int x5, .int x6, .int x7, .retAddr 0] [] h13 Q)) else (ab_ok h x0 112 = true ∧ wm d 199 [.ref x0, .int x7, .int 4] h (fun r9 h9 => wq (d + 1) 286 94 [.ref x0, .int x1, .int x2, .int x3, .int x4, .int x5, .int x6, .int x7, .retAddr 0] (r9.toList ++ []) h9 Q))) : wq (d + 1) 286 76 [.ref x0, .int x1, .int x2, .int x3, .int x4, .int x5, .int x6, .int x7, .retAddr 0] [] h Q := by
  refine g3 c_286_76 rfl ?_
  refine g5 c_286_78 rfl ?_
  obtain ⟨ho, j1, hr, t⟩ := t
  refine g45 c_286_79 ho hr ?_
  refine g1 c_286_82 k_4 ?_
  obtain ⟨ho, t⟩ := t
  refine g50 c_286_83 ho ?_
  refine gcm c_286_84 (gbr t rfl rfl (fun hc t => ?_) (fun hc t => ?_))
  · refine g5 c_286_210 rfl ?_
    refine g33a c_286_211 ?_
    obtain ⟨ho, t⟩ := t
    refine g43 c_286_212 ho ?_
    refine g3 c_286_215 rfl ?_
    refine g10 c_286_217 ?_
    obtain ⟨ho, t⟩ := t
    refine g46 c_286_218 ho (fun h2 eh2 => ?_)
    have t := t h2 eh2
    refine g5 c_286_221 rfl ?_
    obtain ⟨ho, j3, hr, t⟩ := t
    refine g45 c_286_222 ho hr ?_
    refine g3 c_286_225 rfl ?_
    refine g1 c_286_226 k_2 ?_
    refine g10 c_286_227 ?_
    refine g34a c_286_228 ?_
    obtain ⟨ho, t⟩ := t
    refine g50 c_286_229 ho ?_
    refine g5 c_286_230 rfl ?_
    obtain ⟨ho, j4, hr, t⟩ := t
    refine g45 c_286_231 ho hr ?_
    refine g3 c_286_234 rfl ?_
    refine g1 c_286_235 k_10 ?_
    refine g10 c_286_237 ?_
    obtain ⟨ho, t⟩ := t
    refine g50 c_286_238 ho ?_
    refine g5 c_286_239 rfl ?_
    obtain ⟨ho, j5, hr, t⟩ := t
    refine g45 c_286_240 ho hr ?_
    refine g3 c_286_243 rfl ?_
    refine g1 c_286_245 k_2 ?_
    refine g10 c_286_246 ?_
    obtain ⟨ho, t⟩ := t
    refine g50 c_286_247 ho ?_
    refine g5 c_286_248 rfl ?_
    obtain ⟨ho, j6, hr, t⟩ := t
    refine g45 c_286_249 ho hr ?_
    refine g1 c_286_252 k_11 ?_
    obtain ⟨ho, t⟩ := t
    refine g50 c_286_254 ho ?_
    refine g11 c_286_255 ?_
    refine g12 c_286_256 ?_
    refine g3 c_286_257 rfl ?_
    refine g11 c_286_259 ?_
    refine g10 c_286_260 ?_
    obtain ⟨ho, t⟩ := t
    refine g54 c_286_261 ho (fun h7 eh7 => ?_)
    have t := t h7 eh7
    refine g5 c_286_262 rfl ?_
    obtain ⟨ho, j8, hr, t⟩ := t
    refine g45 c_286_263 ho hr ?_
    refine g3 c_286_266 rfl ?_
    refine g1 c_286_268 k_1 ?_
    refine g10 c_286_269 ?_
    refine g34a c_286_270 ?_
    obtain ⟨ho, t⟩ := t
    refine g50 c_286_271 ho ?_
    refine g5 c_286_272 rfl ?_
    obtain ⟨ho, j9, hr, t⟩ := t
    refine g45 c_286_273 ho hr ?_
    refine g3 c_286_276 rfl ?_
    refine g1 c_286_277 k_10 ?_
    refine g10 c_286_279 ?_
    obtain ⟨ho, t⟩ := t
    refine g50 c_286_280 ho ?_
    refine g11 c_286_281 ?_
    obtain ⟨ho, t⟩ := t
    refine g54 c_286_282 ho (fun h10 eh10 => ?_)
    have t := t h10 eh10
    refine g5 c_286_283 rfl ?_
    obtain ⟨ho, j11, hr, t⟩ := t
    refine g45 c_286_284 ho hr ?_
    refine g3 c_286_287 rfl ?_
    refine g1 c_286_288 k_2 ?_
    refine g10 c_286_289 ?_
    obtain ⟨ho, t⟩ := t
    refine g50 c_286_290 ho ?_
    refine gif c_286_291 (gbr t rfl rfl (fun hc t => ?_) (fun hc t => ?_))
    · refine g9 (L' := [.ref x0, .int x1, .int (x2 + 1), .int x3, .int x4, .int x5, .int x6, .int x7, .retAddr 0]) c_286_303 rfl k_1 rfl ?_
      refine g38 c_286_306 rfl ?_
      exact t
    · refine g5 c_286_294 rfl ?_
      obtain ⟨ho, j12, hr, t⟩ := t
      refine g45 c_286_295 ho hr ?_
      refine g3 c_286_298 rfl ?_
      refine g1 c_286_299 k_5 ?_
      refine g10 c_286_300 ?_
      refine g1 c_286_301 k_1 ?_
      obtain ⟨ho, t⟩ := t
      refine g54 c_286_302 ho (fun h13 eh13 => ?_)
      have t := t h13 eh13
      refine g9 (L' := [.ref x0, .int x1, .int (x2 + 1), .int x3, .int x4, .int x5, .int x6, .int x7, .retAddr 0]) c_286_303 rfl k_1 rfl ?_
      refine g38 c_286_306 rfl ?_
      exact t
  · refine g5 c_286_87 rfl ?_
    refine g3 c_286_88 rfl ?_
    refine g1 c_286_90 k_4 ?_
    exact g80 (As := [.int x7, .int 4]) (rest := []) c_286_91 rfl rfl (Nat.le_of_ble_eq_true rfl) (Nat.le_of_ble_eq_true rfl) t.1 t.2
set_option maxRecDepth 20000 in
theorem t_286_94 {d : Nat} {h : ab_H} {Q : Option Value → ab_H → Prop} {x0 : Nat} {x1 : Int32} {x2 : Int32} {x3 : Int32} {x4 : Int32} {x5 : Int32} {x6 : Int32} {x7 : Int32} {s0 : Int32} (t : if s0 = x2 then (ab_ok h x0 112 = true ∧ wm d 199 [.ref x0, .int x7, .int 3] h (fun r9 h9 => wq (d + 1) 286 108 [.ref x0, .int x1, .int x2, .int x3, .int x4, .int x5, .int x6, .int x7, .retAddr 0] (r9.toList ++ []) h9 Q)) else (wq (d + 1) 286 76 [.ref x0, .int x1, .int x2, .int x3, .int x4, .int x5, .int x6, .int (x7 + 1), .retAddr 0] [] h Q)) : wq (d + 1) 286 94 [.ref x0, .int x1, .int x2, .int x3, .int x4, .int x5, .int x6, .int x7, .retAddr 0] [.int s0] h Q := by
  refine g3 c_286_94 rfl ?_
  refine gcm c_286_95 (gbr t rfl rfl (fun hc t => ?_) (fun hc t => ?_))
  · refine g5 c_286_101 rfl ?_
    refine g3 c_286_102 rfl ?_
    refine g1 c_286_104 k_3 ?_
    exact g80 (As := [.int x7, .int 3]) (rest := []) c_286_105 rfl rfl (Nat.le_of_ble_eq_true rfl) (Nat.le_of_ble_eq_true rfl) t.1 t.2
  · refine g38 c_286_98 rfl ?_
    refine g9 (L' := [.ref x0, .int x1, .int x2, .int x3, .int x4, .int x5, .int x6, .int (x7 + 1), .retAddr 0]) c_286_204 rfl k_1 rfl ?_
    refine g38 c_286_207 rfl ?_
    exact t
set_option maxRecDepth 20000 in
theorem t_286_108 {d : Nat} {h : ab_H} {Q : Option Value → ab_H → Prop} {x0 : Nat} {x1 : Int32} {x2 : Int32} {x3 : Int32} {x4 : Int32} {x5 : Int32} {x6 : Int32} {x7 : Int32} {s0 : Int32} (t : if s0 < 3 then (ab_ok h x0 112 = true ∧ ∃ j1 : Nat, ab_r h x0 33 = some j1 ∧ ((j1 = 0 ∨ ab_ok h j1 0 = true) ∧ ab_in x7 (ab_s h j1).2 = true) ∧ ∀ y2 : Int32, y2 = ((ab_i h j1 (Int32.toNatClampNeg x7)) * x5) → ab_ok h x0 112 = true ∧ wm d 199 [.ref x0, .int x7, .int 3] h (fun r9 h9 => wq (d + 1) 286 158 [.ref x0, .int x1, .int x2, .int x3, .int x4, .int x5, .int (x6 + y2), .int x7, .int y2] (r9.toList ++ [.int x7, .ref x0]) h9 Q)) else (ab_ok h x0 112 = true ∧ wm d 283 [.ref x0, .int x7] h (fun r9 h9 => wq (d + 1) 286 118 [.ref x0, .int x1, .int x2, .int x3, .int x4, .int x5, .int x6, .int x7, .retAddr 0] (r9.toList ++ []) h9 Q))) : wq (d + 1) 286 108 [.ref x0, .int x1, .int x2, .int x3, .int x4, .int x5, .int x6, .int x7, .retAddr 0] [.int s0] h Q := by
  refine g1 c_286_108 k_3 ?_
  refine gcm c_286_109 (gbr t rfl rfl (fun hc t => ?_) (fun hc t => ?_))
  · refine g5 c_286_129 rfl ?_
    obtain ⟨ho, j1, hr, t⟩ := t
    refine g45 c_286_130 ho hr ?_
    refine g3 c_286_133 rfl ?_
    obtain ⟨ho, t⟩ := t
    refine g50 c_286_135 ho ?_
    refine g3 c_286_136 rfl ?_
    refine g12 c_286_138 ?_
    refine g6y (Lf := fun y2 => [.ref x0, .int x1, .int x2, .int x3, .int x4, .int x5, .int x6, .int x7, .int y2]) c_286_139 (fun _ => rfl) (fun y2 ey2 => ?_)
    have t := t y2 ey2
    refine g3 c_286_141 rfl ?_
    refine g3 c_286_143 rfl ?_
    refine g10 c_286_145 ?_
    refine g6 (L' := [.ref x0, .int x1, .int x2, .int x3, .int x4, .int x5, .int (x6 + y2), .int x7, .int y2]) c_286_146 rfl ?_
    refine g5 c_286_148 rfl ?_
    refine g3 c_286_149 rfl ?_
    refine g5 c_286_151 rfl ?_
    refine g3 c_286_152 rfl ?_
    refine g1 c_286_154 k_3 ?_
    exact g80 (As := [.int x7, .int 3]) (rest := [.int x7, .ref x0]) c_286_155 rfl rfl (Nat.le_of_ble_eq_true rfl) (Nat.le_of_ble_eq_true rfl) t.1 t.2
  · refine g5 c_286_112 rfl ?_
    refine g3 c_286_113 rfl ?_
    exact g80 (As := [.int x7]) (rest := []) c_286_115 rfl rfl (Nat.le_of_ble_eq_true rfl) (Nat.le_of_ble_eq_true rfl) t.1 t.2
set_option maxRecDepth 20000 in
theorem t_286_118 {d : Nat} {h : ab_H} {Q : Option Value → ab_H → Prop} {x0 : Nat} {x1 : Int32} {x2 : Int32} {x3 : Int32} {x4 : Int32} {x5 : Int32} {x6 : Int32} {x7 : Int32} {s0 : Int32} (t : ab_ok h x0 112 = true ∧ wm d 199 [.ref x0, .int x7, .int 5] h (fun r9 h9 => wq (d + 1) 286 125 [.ref x0, .int x1, .int x2, .int x3, .int x4, .int x5, .int x6, .int x7, .retAddr 0] (r9.toList ++ [.int s0]) h9 Q)) : wq (d + 1) 286 118 [.ref x0, .int x1, .int x2, .int x3, .int x4, .int x5, .int x6, .int x7, .retAddr 0] [.int s0] h Q := by
  refine g5 c_286_118 rfl ?_
  refine g3 c_286_119 rfl ?_
  refine g1 c_286_121 k_5 ?_
  exact g80 (As := [.int x7, .int 5]) (rest := [.int s0]) c_286_122 rfl rfl (Nat.le_of_ble_eq_true rfl) (Nat.le_of_ble_eq_true rfl) t.1 t.2
set_option maxRecDepth 20000 in
theorem t_286_125 {d : Nat} {h : ab_H} {Q : Option Value → ab_H → Prop} {x0 : Nat} {x1 : Int32} {x2 : Int32} {x3 : Int32} {x4 : Int32} {x5 : Int32} {x6 : Int32} {x7 : Int32} {s0 : Int32} {s1 : Int32} (t : ab_ok h x0 112 = true ∧ wm d 199 [.ref x0, .int x7, .int 3] h (fun r9 h9 => wq (d + 1) 286 158 [.ref x0, .int x1, .int x2, .int x3, .int x4, .int x5, .int (x6 + (s0 * s1)), .int x7, .int (s0 * s1)] (r9.toList ++ [.int x7, .ref x0]) h9 Q)) : wq (d + 1) 286 125 [.ref x0, .int x1, .int x2, .int x3, .int x4, .int x5, .int x6, .int x7, .retAddr 0] [.int s1, .int s0] h Q := by
  refine g12 c_286_125 ?_
  refine g38 c_286_126 rfl ?_
  refine g6 (L' := [.ref x0, .int x1, .int x2, .int x3, .int x4, .int x5, .int x6, .int x7, .int (s0 * s1)]) c_286_139 rfl ?_
  refine g3 c_286_141 rfl ?_
  refine g3 c_286_143 rfl ?_
  refine g10 c_286_145 ?_
  refine g6 (L' := [.ref x0, .int x1, .int x2, .int x3, .int x4, .int x5, .int (x6 + (s0 * s1)), .int x7, .int (s0 * s1)]) c_286_146 rfl ?_
  refine g5 c_286_148 rfl ?_
  refine g3 c_286_149 rfl ?_
  refine g5 c_286_151 rfl ?_
  refine g3 c_286_152 rfl ?_
  refine g1 c_286_154 k_3 ?_
  exact g80 (As := [.int x7, .int 3]) (rest := [.int x7, .ref x0]) c_286_155 rfl rfl (Nat.le_of_ble_eq_true rfl) (Nat.le_of_ble_eq_true rfl) t.1 t.2
set_option maxRecDepth 20000 in
theorem t_286_158 {d : Nat} {h : ab_H} {Q : Option Value → ab_H → Prop} {x0 : Nat} {x1 : Int32} {x2 : Int32} {x3 : Int32} {x4 : Int32} {x5 : Int32} {x6 : Int32} {x7 : Int32} {x8 : Int32} {s0 : Nat} {s1 : Int32} {s2 : Int32} (t : if s2 = 2 then (¬ (3 : Int32) = 0 ∧ ab_ok h s0 112 = true ∧ wm d 285 [.ref s0, .int s1, .int (x8 / 3)] h (fun r9 h9 => wq (d + 1) 286 174 [.ref x0, .int x1, .int x2, .int x3, .int x4, .int x5, .int x6, .int x7, .int x8] (r9.toList ++ []) h9 Q)) else (ab_ok h s0 112 = true ∧ wm d 285 [.ref s0, .int s1, .int x8] h (fun r9 h9 => wq (d + 1) 286 174 [.ref x0, .int x1, .int x2, .int x3, .int x4, .int x5, .int x6, .int x7, .int x8] (r9.toList ++ []) h9 Q))) : wq (d + 1) 286 158 [.ref x0, .int x1, .int x2, .int x3, .int x4, .int x5, .int x6, .int x7, .int x8] [.int s2, .int s1, .ref s0] h Q := by
  refine g1 c_286_158 k_2 ?_
  refine gcm c_286_159 (gbn t (ab_c1 _ _) rfl (fun hc t => ?_) (fun hc t => ?_))
  · refine g3 c_286_162 rfl ?_
    refine g1 c_286_164 k_3 ?_
    obtain ⟨hy, t⟩ := t
    refine g16 c_286_165 hy ?_
    refine g38 c_286_166 rfl ?_
    exact g80 (As := [.int s1, .int (x8 / 3)]) (rest := []) c_286_171 rfl rfl (Nat.le_of_ble_eq_true rfl) (Nat.le_of_ble_eq_true rfl) t.1 t.2
  · refine g3 c_286_169 rfl ?_
    exact g80 (As := [.int s1, .int x8]) (rest := []) c_286_171 rfl rfl (Nat.le_of_ble_eq_true rfl) (Nat.le_of_ble_eq_true rfl) t.1 t.2
set_option maxRecDepth 20000 in
theorem t_286_174 {d : Nat} {h : ab_H} {Q : Option Value → ab_H → Prop} {x0 : Nat} {x1 : Int32} {x2 : Int32} {x3 : Int32} {x4 : Int32} {x5 : Int32} {x6 : Int32} {x7 : Int32} {x8 : Int32} (t : ab_ok h x0 112 = true ∧ wm d 199 [.ref x0, .int x7, .int 3] h (fun r9 h9 => wq (d + 1) 286 181 [.ref x0, .int x1, .int x2, .int x3, .int x4, .int x5, .int x6, .int x7, .int x8] (r9.toList ++ []) h9 Q)) : wq (d + 1) 286 174 [.ref x0, .int x1, .int x2, .int x3, .int x4, .int x5, .int x6, .int x7, .int x8] [] h Q := by
  refine g5 c_286_174 rfl ?_
  refine g3 c_286_175 rfl ?_
  refine g1 c_286_177 k_3 ?_
  exact g80 (As := [.int x7, .int 3]) (rest := []) c_286_178 rfl rfl (Nat.le_of_ble_eq_true rfl) (Nat.le_of_ble_eq_true rfl) t.1 t.2
set_option maxRecDepth 20000 in
theorem t_286_181 {d : Nat} {h : ab_H} {Q : Option Value → ab_H → Prop} {x0 : Nat} {x1 : Int32} {x2 : Int32} {x3 : Int32} {x4 : Int32} {x5 : Int32} {x6 : Int32} {x7 : Int32} {x8 : Int32} {s0 : Int32} (t : if s0 = 2 then (ab_ok h x0 112 = true ∧ wm d 199 [.ref x0, .int x7, .int 6] h (fun r9 h9 => wq (d + 1) 286 194 [.ref x0, .int x1, .int x2, .int x3, .int x4, .int x5, .int x6, .int x7, .int x8] (r9.toList ++ [.ref x0]) h9 Q)) else (wq (d + 1) 286 76 [.ref x0, .int x1, .int x2, .int x3, .int x4, .int x5, .int x6, .int (x7 + 1), .int x8] [] h Q)) : wq (d + 1) 286 181 [.ref x0, .int x1, .int x2, .int x3, .int x4, .int x5, .int x6, .int x7, .int x8] [.int s0] h Q := by
  refine g1 c_286_181 k_2 ?_
  refine gcm c_286_182 (gbn t (ab_c1 _ _) rfl (fun hc t => ?_) (fun hc t => ?_))
  · refine g5 c_286_185 rfl ?_
    refine g5 c_286_186 rfl ?_
    refine g3 c_286_187 rfl ?_
    refine g1 c_286_189 k_6 ?_
    exact g80 (As := [.int x7, .int 6]) (rest := [.ref x0]) c_286_191 rfl rfl (Nat.le_of_ble_eq_true rfl) (Nat.le_of_ble_eq_true rfl) t.1 t.2
  · refine g9 (L' := [.ref x0, .int x1, .int x2, .int x3, .int x4, .int x5, .int x6, .int (x7 + 1), .int x8]) c_286_204 rfl k_1 rfl ?_
    refine g38 c_286_207 rfl ?_
    exact t
set_option maxRecDepth 20000 in
theorem t_286_194 {d : Nat} {h : ab_H} {Q : Option Value → ab_H → Prop} {x0 : Nat} {x1 : Int32} {x2 : Int32} {x3 : Int32} {x4 : Int32} {x5 : Int32} {x6 : Int32} {x7 : Int32} {x8 : Int32} {s0 : Nat} {s1 : Int32} (t : ¬ (3 : Int32) = 0 ∧ ab_ok h s0 112 = true ∧ wm d 285 [.ref s0, .int s1, .int (x8 - (x8 / 3))] h (fun r9 h9 => wq (d + 1) 286 204 [.ref x0, .int x1, .int x2, .int x3, .int x4, .int x5, .int x6, .int x7, .int x8] (r9.toList ++ []) h9 Q)) : wq (d + 1) 286 194 [.ref x0, .int x1, .int x2, .int x3, .int x4, .int x5, .int x6, .int x7, .int x8] [.int s1, .ref s0] h Q := by
  refine g3 c_286_194 rfl ?_
  refine g3 c_286_196 rfl ?_
  refine g1 c_286_198 k_3 ?_
  obtain ⟨hy, t⟩ := t
  refine g16 c_286_199 hy ?_
  refine g11 c_286_200 ?_
  exact g80 (As := [.int s1, .int (x8 - (x8 / 3))]) (rest := []) c_286_201 rfl rfl (Nat.le_of_ble_eq_true rfl) (Nat.le_of_ble_eq_true rfl) t.1 t.2
set_option maxRecDepth 20000 in
theorem t_286_204 {d : Nat} {h : ab_H} {Q : Option Value → ab_H → Prop} {x0 : Nat} {x1 : Int32} {x2 : Int32} {x3 : Int32} {x4 : Int32} {x5 : Int32} {x6 : Int32} {x7 : Int32} (t : wq d 286 76 [.ref x0, .int x1, .int x2, .int x3, .int x4, .int x5, .int x6, .int (x7 + 1), .retAddr 0] [] h Q) : wq d 286 204 [.ref x0, .int x1, .int x2, .int x3, .int x4, .int x5, .int x6, .int x7, .retAddr 0] [] h Q := by
  refine g9 (L' := [.ref x0, .int x1, .int x2, .int x3, .int x4, .int x5, .int x6, .int (x7 + 1), .retAddr 0]) c_286_204 rfl k_1 rfl ?_
  refine g38 c_286_207 rfl ?_
  exact t
-- method 287: MillTownModel.fundGoes()V
theorem c_287_0 : pg_cd 287 0 = (1, 1, 0, 0, 0) := by decide +kernel
theorem c_287_1 : pg_cd 287 1 = (6, 1, 0, 1, 0) := by decide +kernel
theorem c_287_2 : pg_cd 287 2 = (3, 1, 0, 1, 0) := by decide +kernel
theorem c_287_3 : pg_cd 287 3 = (5, 1, 0, 0, 0) := by decide +kernel
theorem c_287_4 : pg_cd 287 4 = (45, 12, 8, 0, 0) := by decide +kernel
theorem c_287_7 : pg_cd 287 7 = (1, 1, 0, 0, 4) := by decide +kernel
theorem c_287_8 : pg_cd 287 8 = (50, 1, 0, 0, 0) := by decide +kernel
theorem c_287_9 : pg_cd 287 9 = (37, 3, 0, 3, 59) := by decide +kernel
theorem c_287_12 : pg_cd 287 12 = (5, 1, 0, 0, 0) := by decide +kernel
theorem c_287_13 : pg_cd 287 13 = (3, 1, 0, 1, 0) := by decide +kernel
theorem c_287_14 : pg_cd 287 14 = (1, 2, 0, 0, 8) := by decide +kernel
theorem c_287_16 : pg_cd 287 16 = (80, 199, 102, 0, 0) := by decide +kernel
theorem c_287_19 : pg_cd 287 19 = (5, 1, 0, 0, 0) := by decide +kernel
theorem c_287_20 : pg_cd 287 20 = (45, 12, 8, 0, 0) := by decide +kernel
theorem c_287_23 : pg_cd 287 23 = (1, 2, 0, 0, 9) := by decide +kernel
theorem c_287_25 : pg_cd 287 25 = (50, 1, 0, 0, 0) := by decide +kernel
theorem c_287_26 : pg_cd 287 26 = (37, 3, 0, 3, 6) := by decide +kernel
theorem c_287_29 : pg_cd 287 29 = (38, 3, 0, 0, 33) := by decide +kernel
theorem c_287_32 : pg_cd 287 32 = (5, 1, 0, 0, 0) := by decide +kernel
theorem c_287_33 : pg_cd 287 33 = (3, 1, 0, 1, 0) := by decide +kernel
theorem c_287_34 : pg_cd 287 34 = (5, 1, 0, 0, 0) := by decide +kernel
theorem c_287_35 : pg_cd 287 35 = (45, 12, 8, 0, 0) := by decide +kernel
theorem c_287_38 : pg_cd 287 38 = (1, 2, 0, 0, 9) := by decide +kernel
theorem c_287_40 : pg_cd 287 40 = (50, 1, 0, 0, 0) := by decide +kernel
theorem c_287_41 : pg_cd 287 41 = (21, 1, 0, 0, 0) := by decide +kernel
theorem c_287_42 : pg_cd 287 42 = (80, 285, 364, 0, 0) := by decide +kernel
theorem c_287_45 : pg_cd 287 45 = (5, 1, 0, 0, 0) := by decide +kernel
theorem c_287_46 : pg_cd 287 46 = (45, 12, 8, 0, 0) := by decide +kernel
theorem c_287_49 : pg_cd 287 49 = (1, 2, 0, 0, 8) := by decide +kernel
theorem c_287_51 : pg_cd 287 51 = (34, 1, 0, 0, 0) := by decide +kernel
theorem c_287_52 : pg_cd 287 52 = (50, 1, 0, 0, 0) := by decide +kernel
theorem c_287_53 : pg_cd 287 53 = (5, 1, 0, 0, 0) := by decide +kernel
theorem c_287_54 : pg_cd 287 54 = (45, 12, 8, 0, 0) := by decide +kernel
theorem c_287_57 : pg_cd 287 57 = (1, 2, 0, 0, 9) := by decide +kernel
theorem c_287_59 : pg_cd 287 59 = (50, 1, 0, 0, 0) := by decide +kernel
theorem c_287_60 : pg_cd 287 60 = (10, 1, 0, 0, 0) := by decide +kernel
theorem c_287_61 : pg_cd 287 61 = (54, 1, 0, 0, 0) := by decide +kernel
theorem c_287_62 : pg_cd 287 62 = (9, 3, 0, 1, 1) := by decide +kernel
theorem c_287_65 : pg_cd 287 65 = (38, 3, 0, 0, (-63)) := by decide +kernel
theorem c_287_68 : pg_cd 287 68 = (1, 1, 0, 0, 0) := by decide +kernel
theorem c_287_69 : pg_cd 287 69 = (6, 1, 0, 1, 0) := by decide +kernel
theorem c_287_70 : pg_cd 287 70 = (3, 1, 0, 1, 0) := by decide +kernel
theorem c_287_71 : pg_cd 287 71 = (5, 1, 0, 0, 0) := by decide +kernel
theorem c_287_72 : pg_cd 287 72 = (45, 12, 8, 0, 0) := by decide +kernel
theorem c_287_75 : pg_cd 287 75 = (1, 1, 0, 0, 4) := by decide +kernel
theorem c_287_76 : pg_cd 287 76 = (50, 1, 0, 0, 0) := by decide +kernel
theorem c_287_77 : pg_cd 287 77 = (37, 3, 0, 3, 79) := by decide +kernel
theorem c_287_80 : pg_cd 287 80 = (5, 1, 0, 0, 0) := by decide +kernel
theorem c_287_81 : pg_cd 287 81 = (3, 1, 0, 1, 0) := by decide +kernel
theorem c_287_82 : pg_cd 287 82 = (1, 1, 0, 0, 4) := by decide +kernel
theorem c_287_83 : pg_cd 287 83 = (80, 199, 102, 0, 0) := by decide +kernel
theorem c_287_86 : pg_cd 287 86 = (6, 1, 0, 2, 0) := by decide +kernel
theorem c_287_87 : pg_cd 287 87 = (3, 1, 0, 2, 0) := by decide +kernel
theorem c_287_88 : pg_cd 287 88 = (36, 3, 0, 2, 62) := by decide +kernel
theorem c_287_91 : pg_cd 287 91 = (5, 1, 0, 0, 0) := by decide +kernel
theorem c_287_92 : pg_cd 287 92 = (3, 1, 0, 2, 0) := by decide +kernel
theorem c_287_93 : pg_cd 287 93 = (1, 2, 0, 0, 6) := by decide +kernel
theorem c_287_95 : pg_cd 287 95 = (80, 198, 118, 0, 0) := by decide +kernel
theorem c_287_98 : pg_cd 287 98 = (36, 3, 0, 0, 52) := by decide +kernel
theorem c_287_101 : pg_cd 287 101 = (5, 1, 0, 0, 0) := by decide +kernel
theorem c_287_102 : pg_cd 287 102 = (45, 12, 8, 0, 0) := by decide +kernel
theorem c_287_105 : pg_cd 287 105 = (1, 2, 0, 0, 8) := by decide +kernel
theorem c_287_107 : pg_cd 287 107 = (50, 1, 0, 0, 0) := by decide +kernel
theorem c_287_108 : pg_cd 287 108 = (5, 1, 0, 0, 0) := by decide +kernel
theorem c_287_109 : pg_cd 287 109 = (45, 12, 8, 0, 0) := by decide +kernel
theorem c_287_112 : pg_cd 287 112 = (1, 2, 0, 0, 10) := by decide +kernel
theorem c_287_114 : pg_cd 287 114 = (50, 1, 0, 0, 0) := by decide +kernel
theorem c_287_115 : pg_cd 287 115 = (37, 3, 0, 3, 6) := by decide +kernel
theorem c_287_118 : pg_cd 287 118 = (38, 3, 0, 0, 32) := by decide +kernel
theorem c_287_121 : pg_cd 287 121 = (5, 1, 0, 0, 0) := by decide +kernel
theorem c_287_122 : pg_cd 287 122 = (45, 12, 8, 0, 0) := by decide +kernel
theorem c_287_125 : pg_cd 287 125 = (1, 2, 0, 0, 8) := by decide +kernel
theorem c_287_127 : pg_cd 287 127 = (34, 1, 0, 0, 0) := by decide +kernel
theorem c_287_128 : pg_cd 287 128 = (50, 1, 0, 0, 0) := by decide +kernel
theorem c_287_129 : pg_cd 287 129 = (5, 1, 0, 0, 0) := by decide +kernel
theorem c_287_130 : pg_cd 287 130 = (45, 12, 8, 0, 0) := by decide +kernel
theorem c_287_133 : pg_cd 287 133 = (1, 2, 0, 0, 10) := by decide +kernel
theorem c_287_135 : pg_cd 287 135 = (50, 1, 0, 0, 0) := by decide +kernel
theorem c_287_136 : pg_cd 287 136 = (11, 1, 0, 0, 0) := by decide +kernel
theorem c_287_137 : pg_cd 287 137 = (54, 1, 0, 0, 0) := by decide +kernel
theorem c_287_138 : pg_cd 287 138 = (5, 1, 0, 0, 0) := by decide +kernel
theorem c_287_139 : pg_cd 287 139 = (3, 1, 0, 1, 0) := by decide +kernel
theorem c_287_140 : pg_cd 287 140 = (5, 1, 0, 0, 0) := by decide +kernel
theorem c_287_141 : pg_cd 287 141 = (45, 12, 8, 0, 0) := by decide +kernel
theorem c_287_144 : pg_cd 287 144 = (1, 2, 0, 0, 10) := by decide +kernel
theorem c_287_146 : pg_cd 287 146 = (50, 1, 0, 0, 0) := by decide +kernel
theorem c_287_147 : pg_cd 287 147 = (80, 285, 364, 0, 0) := by decide +kernel
theorem c_287_150 : pg_cd 287 150 = (9, 3, 0, 1, 1) := by decide +kernel
theorem c_287_153 : pg_cd 287 153 = (38, 3, 0, 0, (-83)) := by decide +kernel
theorem c_287_156 : pg_cd 287 156 = (94, 0, 0, 0, 0) := by decide +kernel
theorem mx_287 : pg_mx 287 = 3 := by decide +kernel
theorem m_287 {d : Nat} {h : ab_H} {Q : Option Value → ab_H → Prop} {x0 : Nat} (t : wq d 287 0 [.ref x0, .retAddr 0, .retAddr 0] [] h Q) : wm d 287 [.ref x0] h Q := by
  unfold wm
  rw [mx_287]
  exact t
set_option maxRecDepth 20000 in
theorem t_287_0 {d : Nat} {h : ab_H} {Q : Option Value → ab_H → Prop} {x0 : Nat} (t : wq d 287 2 [.ref x0, .int 0, .retAddr 0] [] h Q) : wq d 287 0 [.ref x0, .retAddr 0, .retAddr 0] [] h Q := by
  refine g1 c_287_0 k_0 ?_
  refine g6 (L' := [.ref x0, .int 0, .retAddr 0]) c_287_1 rfl ?_
  exact t
set_option maxRecDepth 20000 in
theorem t_287_2 {d : Nat} {h : ab_H} {Q : Option Value → ab_H → Prop} {x0 : Nat} {x1 : Int32} (t : ab_ok h x0 112 = true ∧ ∃ j1 : Nat, ab_r h x0 0 = some j1 ∧ ((j1 = 0 ∨ ab_ok h j1 0 = true) ∧ ab_in (4 : Int32) (ab_s h j1).2 = true) ∧ if (ab_i h j1 (Int32.toNatClampNeg (4 : Int32))) ≤ x1 then (wq (d + 1) 287 70 [.ref x0, .int 0, .retAddr 0] [] h Q) else (ab_ok h x0 112 = true ∧ wm d 199 [.ref x0, .int x1, .int 8] h (fun r9 h9 => wq (d + 1) 287 19 [.ref x0, .int x1, .retAddr 0] (r9.toList ++ []) h9 Q))) : wq (d + 1) 287 2 [.ref x0, .int x1, .retAddr 0] [] h Q := by
  refine g3 c_287_2 rfl ?_
  refine g5 c_287_3 rfl ?_
  obtain ⟨ho, j1, hr, t⟩ := t
  refine g45 c_287_4 ho hr ?_
  refine g1 c_287_7 k_4 ?_
  obtain ⟨ho, t⟩ := t
  refine g50 c_287_8 ho ?_
  refine gcm c_287_9 (gbr t rfl rfl (fun hc t => ?_) (fun hc t => ?_))
  · refine g1 c_287_68 k_0 ?_
    refine g6 (L' := [.ref x0, .int 0, .retAddr 0]) c_287_69 rfl ?_
    exact t
  · refine g5 c_287_12 rfl ?_
    refine g3 c_287_13 rfl ?_
    refine g1 c_287_14 k_8 ?_
    exact g80 (As := [.int x1, .int 8]) (rest := []) c_287_16 rfl rfl (Nat.le_of_ble_eq_true rfl) (Nat.le_of_ble_eq_true rfl) t.1 t.2
set_option maxRecDepth 20000 in
theorem t_287_19 {d : Nat} {h : ab_H} {Q : Option Value → ab_H → Prop} {x0 : Nat} {x1 : Int32} {s0 : Int32} (t : ab_ok h x0 112 = true ∧ ∃ j1 : Nat, ab_r h x0 0 = some j1 ∧ ((j1 = 0 ∨ ab_ok h j1 0 = true) ∧ ab_in (9 : Int32) (ab_s h j1).2 = true) ∧ if (ab_i h j1 (Int32.toNatClampNeg (9 : Int32))) ≤ s0 then (ab_ok h x0 112 = true ∧ ∃ j2 : Nat, ab_r h x0 0 = some j2 ∧ ((j2 = 0 ∨ ab_ok h j2 0 = true) ∧ ab_in (9 : Int32) (ab_s h j2).2 = true) ∧ ab_ok h x0 112 = true ∧ wm d 285 [.ref x0, .int x1, .int (-(ab_i h j2 (Int32.toNatClampNeg (9 : Int32))))] h (fun r9 h9 => wq (d + 1) 287 45 [.ref x0, .int x1, .retAddr 0] (r9.toList ++ []) h9 Q)) else (wq (d + 1) 287 2 [.ref x0, .int (x1 + 1), .retAddr 0] [] h Q)) : wq (d + 1) 287 19 [.ref x0, .int x1, .retAddr 0] [.int s0] h Q := by
  refine g5 c_287_19 rfl ?_
  obtain ⟨ho, j1, hr, t⟩ := t
  refine g45 c_287_20 ho hr ?_
  refine g1 c_287_23 k_9 ?_
  obtain ⟨ho, t⟩ := t
  refine g50 c_287_25 ho ?_
  refine gcm c_287_26 (gbr t rfl rfl (fun hc t => ?_) (fun hc t => ?_))
  · refine g5 c_287_32 rfl ?_
    refine g3 c_287_33 rfl ?_
    refine g5 c_287_34 rfl ?_
    obtain ⟨ho, j2, hr, t⟩ := t
    refine g45 c_287_35 ho hr ?_
    refine g1 c_287_38 k_9 ?_
    obtain ⟨ho, t⟩ := t
    refine g50 c_287_40 ho ?_
    refine g21 c_287_41 ?_
    exact g80 (As := [.int x1, .int (-(ab_i h j2 (Int32.toNatClampNeg (9 : Int32))))]) (rest := []) c_287_42 rfl rfl (Nat.le_of_ble_eq_true rfl) (Nat.le_of_ble_eq_true rfl) t.1 t.2
  · refine g38 c_287_29 rfl ?_
    refine g9 (L' := [.ref x0, .int (x1 + 1), .retAddr 0]) c_287_62 rfl k_1 rfl ?_
    refine g38 c_287_65 rfl ?_
    exact t
set_option maxRecDepth 20000 in
theorem t_287_45 {d : Nat} {h : ab_H} {Q : Option Value → ab_H → Prop} {x0 : Nat} {x1 : Int32} (t : ab_ok h x0 112 = true ∧ ∃ j1 : Nat, ab_r h x0 0 = some j1 ∧ ((j1 = 0 ∨ ab_ok h j1 0 = true) ∧ ab_in (8 : Int32) (ab_s h j1).2 = true) ∧ ab_ok h x0 112 = true ∧ ∃ j2 : Nat, ab_r h x0 0 = some j2 ∧ ((j2 = 0 ∨ ab_ok h j2 0 = true) ∧ ab_in (9 : Int32) (ab_s h j2).2 = true) ∧ (ab_ok h j1 0 = true ∧ ab_in (8 : Int32) (ab_s h j1).2 = true) ∧ ∀ h3 : ab_H, h3 = ab_pi h j1 (Int32.toNatClampNeg (8 : Int32)) ((ab_i h j1 (Int32.toNatClampNeg (8 : Int32))) + (ab_i h j2 (Int32.toNatClampNeg (9 : Int32)))) → wq d 287 2 [.ref x0, .int (x1 + 1), .retAddr 0] [] h3 Q) : wq d 287 45 [.ref x0, .int x1, .retAddr 0] [] h Q := by
  refine g5 c_287_45 rfl ?_
  obtain ⟨ho, j1, hr, t⟩ := t
  refine g45 c_287_46 ho hr ?_
  refine g1 c_287_49 k_8 ?_
  refine g34a c_287_51 ?_
  obtain ⟨ho, t⟩ := t
  refine g50 c_287_52 ho ?_
  refine g5 c_287_53 rfl ?_
  obtain ⟨ho, j2, hr, t⟩ := t
  refine g45 c_287_54 ho hr ?_
  refine g1 c_287_57 k_9 ?_
  obtain ⟨ho, t⟩ := t
  refine g50 c_287_59 ho ?_
  refine g10 c_287_60 ?_
  obtain ⟨ho, t⟩ := t
  refine g54 c_287_61 ho (fun h3 eh3 => ?_)
  have t := t h3 eh3
  refine g9 (L' := [.ref x0, .int (x1 + 1), .retAddr 0]) c_287_62 rfl k_1 rfl ?_
  refine g38 c_287_65 rfl ?_
  exact t
set_option maxRecDepth 20000 in
theorem t_287_70 {d : Nat} {h : ab_H} {Q : Option Value → ab_H → Prop} {x0 : Nat} {x1 : Int32} (t : ab_ok h x0 112 = true ∧ ∃ j1 : Nat, ab_r h x0 0 = some j1 ∧ ((j1 = 0 ∨ ab_ok h j1 0 = true) ∧ ab_in (4 : Int32) (ab_s h j1).2 = true) ∧ if (ab_i h j1 (Int32.toNatClampNeg (4 : Int32))) ≤ x1 then (Q none h) else (ab_ok h x0 112 = true ∧ wm d 199 [.ref x0, .int x1, .int 4] h (fun r9 h9 => wq (d + 1) 287 86 [.ref x0, .int x1, .retAddr 0] (r9.toList ++ []) h9 Q))) : wq (d + 1) 287 70 [.ref x0, .int x1, .retAddr 0] [] h Q := by
  refine g3 c_287_70 rfl ?_
  refine g5 c_287_71 rfl ?_
  obtain ⟨ho, j1, hr, t⟩ := t
  refine g45 c_287_72 ho hr ?_
  refine g1 c_287_75 k_4 ?_
  obtain ⟨ho, t⟩ := t
  refine g50 c_287_76 ho ?_
  refine gcm c_287_77 (gbr t rfl rfl (fun hc t => ?_) (fun hc t => ?_))
  · exact g94 c_287_156 t
  · refine g5 c_287_80 rfl ?_
    refine g3 c_287_81 rfl ?_
    refine g1 c_287_82 k_4 ?_
    exact g80 (As := [.int x1, .int 4]) (rest := []) c_287_83 rfl rfl (Nat.le_of_ble_eq_true rfl) (Nat.le_of_ble_eq_true rfl) t.1 t.2
set_option maxRecDepth 20000 in
theorem t_287_86 {d : Nat} {h : ab_H} {Q : Option Value → ab_H → Prop} {x0 : Nat} {x1 : Int32} {s0 : Int32} (t : if s0 < 0 then (wq (d + 1) 287 70 [.ref x0, .int (x1 + 1), .int s0] [] h Q) else (ab_ok h x0 112 = true ∧ wm d 198 [.ref x0, .int s0, .int 6] h (fun r9 h9 => wq (d + 1) 287 98 [.ref x0, .int x1, .int s0] (r9.toList ++ []) h9 Q))) : wq (d + 1) 287 86 [.ref x0, .int x1, .retAddr 0] [.int s0] h Q := by
  refine g6 (L' := [.ref x0, .int x1, .int s0]) c_287_86 rfl ?_
  refine g3 c_287_87 rfl ?_
  refine gif c_287_88 (gbr t rfl rfl (fun hc t => ?_) (fun hc t => ?_))
  · refine g9 (L' := [.ref x0, .int (x1 + 1), .int s0]) c_287_150 rfl k_1 rfl ?_
    refine g38 c_287_153 rfl ?_
    exact t
  · refine g5 c_287_91 rfl ?_
    refine g3 c_287_92 rfl ?_
    refine g1 c_287_93 k_6 ?_
    exact g80 (As := [.int s0, .int 6]) (rest := []) c_287_95 rfl rfl (Nat.le_of_ble_eq_true rfl) (Nat.le_of_ble_eq_true rfl) t.1 t.2
set_option maxRecDepth 20000 in
theorem t_287_98 {d : Nat} {h : ab_H} {Q : Option Value → ab_H → Prop} {x0 : Nat} {x1 : Int32} {x2 : Int32} {s0 : Int32} (t : if s0 = 0 then (wq (d + 1) 287 70 [.ref x0, .int (x1 + 1), .int x2] [] h Q) else (ab_ok h x0 112 = true ∧ ∃ j1 : Nat, ab_r h x0 0 = some j1 ∧ ((j1 = 0 ∨ ab_ok h j1 0 = true) ∧ ab_in (8 : Int32) (ab_s h j1).2 = true) ∧ ab_ok h x0 112 = true ∧ ∃ j2 : Nat, ab_r h x0 0 = some j2 ∧ ((j2 = 0 ∨ ab_ok h j2 0 = true) ∧ ab_in (10 : Int32) (ab_s h j2).2 = true) ∧ if (ab_i h j2 (Int32.toNatClampNeg (10 : Int32))) ≤ (ab_i h j1 (Int32.toNatClampNeg (8 : Int32))) then (ab_ok h x0 112 = true ∧ ∃ j3 : Nat, ab_r h x0 0 = some j3 ∧ ((j3 = 0 ∨ ab_ok h j3 0 = true) ∧ ab_in (8 : Int32) (ab_s h j3).2 = true) ∧ ab_ok h x0 112 = true ∧ ∃ j4 : Nat, ab_r h x0 0 = some j4 ∧ ((j4 = 0 ∨ ab_ok h j4 0 = true) ∧ ab_in (10 : Int32) (ab_s h j4).2 = true) ∧ (ab_ok h j3 0 = true ∧ ab_in (8 : Int32) (ab_s h j3).2 = true) ∧ ∀ h5 : ab_H, h5 = ab_pi h j3 (Int32.toNatClampNeg (8 : Int32)) ((ab_i h j3 (Int32.toNatClampNeg (8 : Int32))) - (ab_i h j4 (Int32.toNatClampNeg (10 : Int32)))) → ab_ok h5 x0 112 = true ∧ ∃ j6 : Nat, ab_r h5 x0 0 = some j6 ∧ ((j6 = 0 ∨ ab_ok h5 j6 0 = true) ∧ ab_in (10 : Int32) (ab_s h5 j6).2 = true) ∧ ab_ok h5 x0 112 = true ∧ wm d 285 [.ref x0, .int x1, .int (ab_i h5 j6 (Int32.toNatClampNeg (10 : Int32)))] h5 (fun r9 h9 => wq (d + 1) 287 150 [.ref x0, .int x1, .int x2] (r9.toList ++ []) h9 Q)) else (wq (d + 1) 287 70 [.ref x0, .int (x1 + 1), .int x2] [] h Q))) : wq (d + 1) 287 98 [.ref x0, .int x1, .int x2] [.int s0] h Q := by
  refine gif c_287_98 (gbr t rfl rfl (fun hc t => ?_) (fun hc t => ?_))
  · refine g9 (L' := [.ref x0, .int (x1 + 1), .int x2]) c_287_150 rfl k_1 rfl ?_
    refine g38 c_287_153 rfl ?_
    exact t
  · refine g5 c_287_101 rfl ?_
    obtain ⟨ho, j1, hr, t⟩ := t
    refine g45 c_287_102 ho hr ?_
    refine g1 c_287_105 k_8 ?_
    obtain ⟨ho, t⟩ := t
    refine g50 c_287_107 ho ?_
    refine g5 c_287_108 rfl ?_
    obtain ⟨ho, j2, hr, t⟩ := t
    refine g45 c_287_109 ho hr ?_
    refine g1 c_287_112 k_10 ?_
    obtain ⟨ho, t⟩ := t
    refine g50 c_287_114 ho ?_
    refine gcm c_287_115 (gbr t rfl rfl (fun hc t => ?_) (fun hc t => ?_))
    · refine g5 c_287_121 rfl ?_
      obtain ⟨ho, j3, hr, t⟩ := t
      refine g45 c_287_122 ho hr ?_
      refine g1 c_287_125 k_8 ?_
      refine g34a c_287_127 ?_
      obtain ⟨ho, t⟩ := t
      refine g50 c_287_128 ho ?_
      refine g5 c_287_129 rfl ?_
      obtain ⟨ho, j4, hr, t⟩ := t
      refine g45 c_287_130 ho hr ?_
      refine g1 c_287_133 k_10 ?_
      obtain ⟨ho, t⟩ := t
      refine g50 c_287_135 ho ?_
      refine g11 c_287_136 ?_
      obtain ⟨ho, t⟩ := t
      refine g54 c_287_137 ho (fun h5 eh5 => ?_)
      have t := t h5 eh5
      refine g5 c_287_138 rfl ?_
      refine g3 c_287_139 rfl ?_
      refine g5 c_287_140 rfl ?_
      obtain ⟨ho, j6, hr, t⟩ := t
      refine g45 c_287_141 ho hr ?_
      refine g1 c_287_144 k_10 ?_
      obtain ⟨ho, t⟩ := t
      refine g50 c_287_146 ho ?_
      exact g80 (As := [.int x1, .int (ab_i h5 j6 (Int32.toNatClampNeg (10 : Int32)))]) (rest := []) c_287_147 rfl rfl (Nat.le_of_ble_eq_true rfl) (Nat.le_of_ble_eq_true rfl) t.1 t.2
    · refine g38 c_287_118 rfl ?_
      refine g9 (L' := [.ref x0, .int (x1 + 1), .int x2]) c_287_150 rfl k_1 rfl ?_
      refine g38 c_287_153 rfl ?_
      exact t
set_option maxRecDepth 20000 in
theorem t_287_150 {d : Nat} {h : ab_H} {Q : Option Value → ab_H → Prop} {x0 : Nat} {x1 : Int32} {x2 : Int32} (t : wq d 287 70 [.ref x0, .int (x1 + 1), .int x2] [] h Q) : wq d 287 150 [.ref x0, .int x1, .int x2] [] h Q := by
  refine g9 (L' := [.ref x0, .int (x1 + 1), .int x2]) c_287_150 rfl k_1 rfl ?_
  refine g38 c_287_153 rfl ?_
  exact t
-- method 288: MillTownModel.needOf(I)I
theorem c_288_0 : pg_cd 288 0 = (1, 1, 0, 0, 0) := by decide +kernel
theorem c_288_1 : pg_cd 288 1 = (6, 1, 0, 2, 0) := by decide +kernel
theorem c_288_2 : pg_cd 288 2 = (1, 1, 0, 0, 0) := by decide +kernel
theorem c_288_3 : pg_cd 288 3 = (6, 1, 0, 3, 0) := by decide +kernel
theorem c_288_4 : pg_cd 288 4 = (3, 1, 0, 3, 0) := by decide +kernel
theorem c_288_5 : pg_cd 288 5 = (5, 1, 0, 0, 0) := by decide +kernel
theorem c_288_6 : pg_cd 288 6 = (45, 12, 8, 0, 0) := by decide +kernel
theorem c_288_9 : pg_cd 288 9 = (1, 1, 0, 0, 4) := by decide +kernel
theorem c_288_10 : pg_cd 288 10 = (50, 1, 0, 0, 0) := by decide +kernel
theorem c_288_11 : pg_cd 288 11 = (37, 3, 0, 3, 38) := by decide +kernel
theorem c_288_14 : pg_cd 288 14 = (5, 1, 0, 0, 0) := by decide +kernel
theorem c_288_15 : pg_cd 288 15 = (3, 1, 0, 3, 0) := by decide +kernel
theorem c_288_16 : pg_cd 288 16 = (1, 1, 0, 0, 0) := by decide +kernel
theorem c_288_17 : pg_cd 288 17 = (80, 199, 102, 0, 0) := by decide +kernel
theorem c_288_20 : pg_cd 288 20 = (3, 1, 0, 1, 0) := by decide +kernel
theorem c_288_21 : pg_cd 288 21 = (37, 3, 0, 1, 22) := by decide +kernel
theorem c_288_24 : pg_cd 288 24 = (3, 1, 0, 2, 0) := by decide +kernel
theorem c_288_25 : pg_cd 288 25 = (5, 1, 0, 0, 0) := by decide +kernel
theorem c_288_26 : pg_cd 288 26 = (3, 1, 0, 3, 0) := by decide +kernel
theorem c_288_27 : pg_cd 288 27 = (1, 1, 0, 0, 1) := by decide +kernel
theorem c_288_28 : pg_cd 288 28 = (80, 199, 102, 0, 0) := by decide +kernel
theorem c_288_31 : pg_cd 288 31 = (1, 2, 0, 0, 13) := by decide +kernel
theorem c_288_33 : pg_cd 288 33 = (37, 3, 0, 2, 7) := by decide +kernel
theorem c_288_36 : pg_cd 288 36 = (1, 1, 0, 0, 4) := by decide +kernel
theorem c_288_37 : pg_cd 288 37 = (38, 3, 0, 0, 4) := by decide +kernel
theorem c_288_40 : pg_cd 288 40 = (1, 1, 0, 0, 2) := by decide +kernel
theorem c_288_41 : pg_cd 288 41 = (10, 1, 0, 0, 0) := by decide +kernel
theorem c_288_42 : pg_cd 288 42 = (6, 1, 0, 2, 0) := by decide +kernel
theorem c_288_43 : pg_cd 288 43 = (9, 3, 0, 3, 1) := by decide +kernel
theorem c_288_46 : pg_cd 288 46 = (38, 3, 0, 0, (-42)) := by decide +kernel
theorem c_288_49 : pg_cd 288 49 = (3, 1, 0, 2, 0) := by decide +kernel
theorem c_288_50 : pg_cd 288 50 = (90, 0, 0, 0, 0) := by decide +kernel
theorem mx_288 : pg_mx 288 = 4 := by decide +kernel
theorem m_288 {d : Nat} {h : ab_H} {Q : Option Value → ab_H → Prop} {x0 : Nat} {x1 : Int32} (t : wq d 288 0 [.ref x0, .int x1, .retAddr 0, .retAddr 0] [] h Q) : wm d 288 [.ref x0, .int x1] h Q := by
  unfold wm
  rw [mx_288]
  exact t
set_option maxRecDepth 20000 in
theorem t_288_0 {d : Nat} {h : ab_H} {Q : Option Value → ab_H → Prop} {x0 : Nat} {x1 : Int32} (t : wq d 288 4 [.ref x0, .int x1, .int 0, .int 0] [] h Q) : wq d 288 0 [.ref x0, .int x1, .retAddr 0, .retAddr 0] [] h Q := by
  refine g1 c_288_0 k_0 ?_
  refine g6 (L' := [.ref x0, .int x1, .int 0, .retAddr 0]) c_288_1 rfl ?_
  refine g1 c_288_2 k_0 ?_
  refine g6 (L' := [.ref x0, .int x1, .int 0, .int 0]) c_288_3 rfl ?_
  exact t
set_option maxRecDepth 20000 in
theorem t_288_4 {d : Nat} {h : ab_H} {Q : Option Value → ab_H → Prop} {x0 : Nat} {x1 : Int32} {x2 : Int32} {x3 : Int32} (t : ab_ok h x0 112 = true ∧ ∃ j1 : Nat, ab_r h x0 0 = some j1 ∧ ((j1 = 0 ∨ ab_ok h j1 0 = true) ∧ ab_in (4 : Int32) (ab_s h j1).2 = true) ∧ if (ab_i h j1 (Int32.toNatClampNeg (4 : Int32))) ≤ x3 then (Q (some (.int x2)) h) else (ab_ok h x0 112 = true ∧ wm d 199 [.ref x0, .int x3, .int 0] h (fun r9 h9 => wq (d + 1) 288 20 [.ref x0, .int x1, .int x2, .int x3] (r9.toList ++ []) h9 Q))) : wq (d + 1) 288 4 [.ref x0, .int x1, .int x2, .int x3] [] h Q := by
  refine g3 c_288_4 rfl ?_
  refine g5 c_288_5 rfl ?_
  obtain ⟨ho, j1, hr, t⟩ := t
  refine g45 c_288_6 ho hr ?_
  refine g1 c_288_9 k_4 ?_
  obtain ⟨ho, t⟩ := t
  refine g50 c_288_10 ho ?_
  refine gcm c_288_11 (gbr t rfl rfl (fun hc t => ?_) (fun hc t => ?_))
  · refine g3 c_288_49 rfl ?_
    exact g90 c_288_50 t
  · refine g5 c_288_14 rfl ?_
    refine g3 c_288_15 rfl ?_
    refine g1 c_288_16 k_0 ?_
    exact g80 (As := [.int x3, .int 0]) (rest := []) c_288_17 rfl rfl (Nat.le_of_ble_eq_true rfl) (Nat.le_of_ble_eq_true rfl) t.1 t.2
set_option maxRecDepth 20000 in
theorem t_288_20 {d : Nat} {h : ab_H} {Q : Option Value → ab_H → Prop} {x0 : Nat} {x1 : Int32} {x2 : Int32} {x3 : Int32} {s0 : Int32} (t : if s0 = x1 then (ab_ok h x0 112 = true ∧ wm d 199 [.ref x0, .int x3, .int 1] h (fun r9 h9 => wq (d + 1) 288 31 [.ref x0, .int x1, .int x2, .int x3] (r9.toList ++ [.int x2]) h9 Q)) else (wq (d + 1) 288 4 [.ref x0, .int x1, .int x2, .int (x3 + 1)] [] h Q)) : wq (d + 1) 288 20 [.ref x0, .int x1, .int x2, .int x3] [.int s0] h Q := by
  refine g3 c_288_20 rfl ?_
  refine gcm c_288_21 (gbn t (ab_c1 _ _) rfl (fun hc t => ?_) (fun hc t => ?_))
  · refine g3 c_288_24 rfl ?_
    refine g5 c_288_25 rfl ?_
    refine g3 c_288_26 rfl ?_
    refine g1 c_288_27 k_1 ?_
    exact g80 (As := [.int x3, .int 1]) (rest := [.int x2]) c_288_28 rfl rfl (Nat.le_of_ble_eq_true rfl) (Nat.le_of_ble_eq_true rfl) t.1 t.2
  · refine g9 (L' := [.ref x0, .int x1, .int x2, .int (x3 + 1)]) c_288_43 rfl k_1 rfl ?_
    refine g38 c_288_46 rfl ?_
    exact t
set_option maxRecDepth 20000 in
theorem t_288_31 {d : Nat} {h : ab_H} {Q : Option Value → ab_H → Prop} {x0 : Nat} {x1 : Int32} {x2 : Int32} {x3 : Int32} {s0 : Int32} {s1 : Int32} (t : if s1 < 13 then (wq d 288 4 [.ref x0, .int x1, .int (s0 + 2), .int (x3 + 1)] [] h Q) else (wq d 288 4 [.ref x0, .int x1, .int (s0 + 4), .int (x3 + 1)] [] h Q)) : wq d 288 31 [.ref x0, .int x1, .int x2, .int x3] [.int s1, .int s0] h Q := by
  refine g1 c_288_31 k_13 ?_
  refine gcm c_288_33 (gbr t rfl rfl (fun hc t => ?_) (fun hc t => ?_))
  · refine g1 c_288_40 k_2 ?_
    refine g10 c_288_41 ?_
    refine g6 (L' := [.ref x0, .int x1, .int (s0 + 2), .int x3]) c_288_42 rfl ?_
    refine g9 (L' := [.ref x0, .int x1, .int (s0 + 2), .int (x3 + 1)]) c_288_43 rfl k_1 rfl ?_
    refine g38 c_288_46 rfl ?_
    exact t
  · refine g1 c_288_36 k_4 ?_
    refine g38 c_288_37 rfl ?_
    refine g10 c_288_41 ?_
    refine g6 (L' := [.ref x0, .int x1, .int (s0 + 4), .int x3]) c_288_42 rfl ?_
    refine g9 (L' := [.ref x0, .int x1, .int (s0 + 4), .int (x3 + 1)]) c_288_43 rfl k_1 rfl ?_
    refine g38 c_288_46 rfl ?_
    exact t
-- method 289: MillTownModel.earnedLately(II)I
theorem c_289_0 : pg_cd 289 0 = (1, 1, 0, 0, 0) := by decide +kernel
theorem c_289_1 : pg_cd 289 1 = (6, 1, 0, 3, 0) := by decide +kernel
theorem c_289_2 : pg_cd 289 2 = (3, 1, 0, 2, 0) := by decide +kernel
theorem c_289_3 : pg_cd 289 3 = (1, 1, 0, 0, 3) := by decide +kernel
theorem c_289_4 : pg_cd 289 4 = (37, 3, 0, 5, 9) := by decide +kernel
theorem c_289_7 : pg_cd 289 7 = (3, 1, 0, 2, 0) := by decide +kernel
theorem c_289_8 : pg_cd 289 8 = (1, 1, 0, 0, 3) := by decide +kernel
theorem c_289_9 : pg_cd 289 9 = (11, 1, 0, 0, 0) := by decide +kernel
theorem c_289_10 : pg_cd 289 10 = (38, 3, 0, 0, 4) := by decide +kernel
theorem c_289_13 : pg_cd 289 13 = (1, 1, 0, 0, 0) := by decide +kernel
theorem c_289_14 : pg_cd 289 14 = (6, 2, 0, 4, 0) := by decide +kernel
theorem c_289_16 : pg_cd 289 16 = (3, 2, 0, 4, 0) := by decide +kernel
theorem c_289_18 : pg_cd 289 18 = (3, 1, 0, 2, 0) := by decide +kernel
theorem c_289_19 : pg_cd 289 19 = (37, 3, 0, 4, 28) := by decide +kernel
theorem c_289_22 : pg_cd 289 22 = (3, 1, 0, 3, 0) := by decide +kernel
theorem c_289_23 : pg_cd 289 23 = (5, 1, 0, 0, 0) := by decide +kernel
theorem c_289_24 : pg_cd 289 24 = (45, 12, 8, 0, 0) := by decide +kernel
theorem c_289_27 : pg_cd 289 27 = (1, 3, 0, 0, 22300) := by decide +kernel
theorem c_289_30 : pg_cd 289 30 = (1, 2, 0, 0, 24) := by decide +kernel
theorem c_289_32 : pg_cd 289 32 = (3, 2, 0, 4, 0) := by decide +kernel
theorem c_289_34 : pg_cd 289 34 = (12, 1, 0, 0, 0) := by decide +kernel
theorem c_289_35 : pg_cd 289 35 = (10, 1, 0, 0, 0) := by decide +kernel
theorem c_289_36 : pg_cd 289 36 = (3, 1, 0, 1, 0) := by decide +kernel
theorem c_289_37 : pg_cd 289 37 = (10, 1, 0, 0, 0) := by decide +kernel
theorem c_289_38 : pg_cd 289 38 = (50, 1, 0, 0, 0) := by decide +kernel
theorem c_289_39 : pg_cd 289 39 = (10, 1, 0, 0, 0) := by decide +kernel
theorem c_289_40 : pg_cd 289 40 = (6, 1, 0, 3, 0) := by decide +kernel
theorem c_289_41 : pg_cd 289 41 = (9, 3, 0, 4, 1) := by decide +kernel
theorem c_289_44 : pg_cd 289 44 = (38, 3, 0, 0, (-28)) := by decide +kernel
theorem c_289_47 : pg_cd 289 47 = (3, 1, 0, 3, 0) := by decide +kernel
theorem c_289_48 : pg_cd 289 48 = (90, 0, 0, 0, 0) := by decide +kernel
theorem mx_289 : pg_mx 289 = 5 := by decide +kernel
theorem m_289 {d : Nat} {h : ab_H} {Q : Option Value → ab_H → Prop} {x0 : Nat} {x1 : Int32} {x2 : Int32} (t : wq d 289 0 [.ref x0, .int x1, .int x2, .retAddr 0, .retAddr 0] [] h Q) : wm d 289 [.ref x0, .int x1, .int x2] h Q := by
  unfold wm
  rw [mx_289]
  exact t
set_option maxRecDepth 20000 in
theorem t_289_0 {d : Nat} {h : ab_H} {Q : Option Value → ab_H → Prop} {x0 : Nat} {x1 : Int32} {x2 : Int32} (t : if x2 ≤ 3 then (wq d 289 16 [.ref x0, .int x1, .int x2, .int 0, .int 0] [] h Q) else (wq d 289 16 [.ref x0, .int x1, .int x2, .int 0, .int (x2 - 3)] [] h Q)) : wq d 289 0 [.ref x0, .int x1, .int x2, .retAddr 0, .retAddr 0] [] h Q := by
  refine g1 c_289_0 k_0 ?_
  refine g6 (L' := [.ref x0, .int x1, .int x2, .int 0, .retAddr 0]) c_289_1 rfl ?_
  refine g3 c_289_2 rfl ?_
  refine g1 c_289_3 k_3 ?_
  refine gcm c_289_4 (gbr t rfl rfl (fun hc t => ?_) (fun hc t => ?_))
  · refine g1 c_289_13 k_0 ?_
    refine g6 (L' := [.ref x0, .int x1, .int x2, .int 0, .int 0]) c_289_14 rfl ?_
    exact t
  · refine g3 c_289_7 rfl ?_
    refine g1 c_289_8 k_3 ?_
    refine g11 c_289_9 ?_
    refine g38 c_289_10 rfl ?_
    refine g6 (L' := [.ref x0, .int x1, .int x2, .int 0, .int (x2 - 3)]) c_289_14 rfl ?_
    exact t
set_option maxRecDepth 20000 in
theorem t_289_16 {d : Nat} {h : ab_H} {Q : Option Value → ab_H → Prop} {x0 : Nat} {x1 : Int32} {x2 : Int32} {x3 : Int32} {x4 : Int32} (t : if x2 < x4 then (Q (some (.int x3)) h) else (ab_ok h x0 112 = true ∧ ∃ j1 : Nat, ab_r h x0 0 = some j1 ∧ ((j1 = 0 ∨ ab_ok h j1 0 = true) ∧ ab_in ((22300 + (24 * x4)) + x1) (ab_s h j1).2 = true) ∧ ∀ y2 : Int32, y2 = (x3 + (ab_i h j1 (Int32.toNatClampNeg ((22300 + (24 * x4)) + x1)))) → wq d 289 16 [.ref x0, .int x1, .int x2, .int y2, .int (x4 + 1)] [] h Q)) : wq d 289 16 [.ref x0, .int x1, .int x2, .int x3, .int x4] [] h Q := by
  refine g3 c_289_16 rfl ?_
  refine g3 c_289_18 rfl ?_
  refine gcm c_289_19 (gbr t rfl rfl (fun hc t => ?_) (fun hc t => ?_))
  · refine g3 c_289_47 rfl ?_
    exact g90 c_289_48 t
  · refine g3 c_289_22 rfl ?_
    refine g5 c_289_23 rfl ?_
    obtain ⟨ho, j1, hr, t⟩ := t
    refine g45 c_289_24 ho hr ?_
    refine g1 c_289_27 k_22300 ?_
    refine g1 c_289_30 k_24 ?_
    refine g3 c_289_32 rfl ?_
    refine g12 c_289_34 ?_
    refine g10 c_289_35 ?_
    refine g3 c_289_36 rfl ?_
    refine g10 c_289_37 ?_
    obtain ⟨ho, t⟩ := t
    refine g50 c_289_38 ho ?_
    refine g10 c_289_39 ?_
    refine g6y (Lf := fun y2 => [.ref x0, .int x1, .int x2, .int y2, .int x4]) c_289_40 (fun _ => rfl) (fun y2 ey2 => ?_)
    have t := t y2 ey2
    refine g9 (L' := [.ref x0, .int x1, .int x2, .int y2, .int (x4 + 1)]) c_289_41 rfl k_1 rfl ?_
    refine g38 c_289_44 rfl ?_
    exact t
-- method 290: MillTownModel.homeGoes(II)V
theorem c_290_0 : pg_cd 290 0 = (1, 3, 0, 0, 3460) := by decide +kernel
theorem c_290_3 : pg_cd 290 3 = (1, 2, 0, 0, 8) := by decide +kernel
theorem c_290_5 : pg_cd 290 5 = (3, 1, 0, 1, 0) := by decide +kernel
theorem c_290_6 : pg_cd 290 6 = (12, 1, 0, 0, 0) := by decide +kernel
theorem c_290_7 : pg_cd 290 7 = (10, 1, 0, 0, 0) := by decide +kernel
theorem c_290_8 : pg_cd 290 8 = (6, 1, 0, 3, 0) := by decide +kernel
theorem c_290_9 : pg_cd 290 9 = (1, 3, 0, 0, 3428) := by decide +kernel
theorem c_290_12 : pg_cd 290 12 = (1, 2, 0, 0, 8) := by decide +kernel
theorem c_290_14 : pg_cd 290 14 = (5, 1, 0, 0, 0) := by decide +kernel
theorem c_290_15 : pg_cd 290 15 = (45, 12, 8, 0, 0) := by decide +kernel
theorem c_290_18 : pg_cd 290 18 = (3, 1, 0, 3, 0) := by decide +kernel
theorem c_290_19 : pg_cd 290 19 = (1, 1, 0, 0, 0) := by decide +kernel
theorem c_290_20 : pg_cd 290 20 = (10, 1, 0, 0, 0) := by decide +kernel
theorem c_290_21 : pg_cd 290 21 = (50, 1, 0, 0, 0) := by decide +kernel
theorem c_290_22 : pg_cd 290 22 = (12, 1, 0, 0, 0) := by decide +kernel
theorem c_290_23 : pg_cd 290 23 = (10, 1, 0, 0, 0) := by decide +kernel
theorem c_290_24 : pg_cd 290 24 = (6, 2, 0, 4, 0) := by decide +kernel
theorem c_290_26 : pg_cd 290 26 = (1, 2, 0, 0, 24) := by decide +kernel
theorem c_290_28 : pg_cd 290 28 = (3, 1, 0, 2, 0) := by decide +kernel
theorem c_290_29 : pg_cd 290 29 = (12, 1, 0, 0, 0) := by decide +kernel
theorem c_290_30 : pg_cd 290 30 = (3, 1, 0, 1, 0) := by decide +kernel
theorem c_290_31 : pg_cd 290 31 = (10, 1, 0, 0, 0) := by decide +kernel
theorem c_290_32 : pg_cd 290 32 = (6, 2, 0, 5, 0) := by decide +kernel
theorem c_290_34 : pg_cd 290 34 = (1, 1, 0, 0, 0) := by decide +kernel
theorem c_290_35 : pg_cd 290 35 = (6, 2, 0, 6, 0) := by decide +kernel
theorem c_290_37 : pg_cd 290 37 = (1, 1, 0, 0, 0) := by decide +kernel
theorem c_290_38 : pg_cd 290 38 = (6, 2, 0, 7, 0) := by decide +kernel
theorem c_290_40 : pg_cd 290 40 = (3, 2, 0, 7, 0) := by decide +kernel
theorem c_290_42 : pg_cd 290 42 = (5, 1, 0, 0, 0) := by decide +kernel
theorem c_290_43 : pg_cd 290 43 = (45, 12, 8, 0, 0) := by decide +kernel
theorem c_290_46 : pg_cd 290 46 = (1, 1, 0, 0, 4) := by decide +kernel
theorem c_290_47 : pg_cd 290 47 = (50, 1, 0, 0, 0) := by decide +kernel
theorem c_290_48 : pg_cd 290 48 = (37, 3, 0, 3, 33) := by decide +kernel
theorem c_290_51 : pg_cd 290 51 = (5, 1, 0, 0, 0) := by decide +kernel
theorem c_290_52 : pg_cd 290 52 = (3, 2, 0, 7, 0) := by decide +kernel
theorem c_290_54 : pg_cd 290 54 = (1, 1, 0, 0, 0) := by decide +kernel
theorem c_290_55 : pg_cd 290 55 = (80, 199, 102, 0, 0) := by decide +kernel
theorem c_290_58 : pg_cd 290 58 = (3, 1, 0, 1, 0) := by decide +kernel
theorem c_290_59 : pg_cd 290 59 = (37, 3, 0, 1, 16) := by decide +kernel
theorem c_290_62 : pg_cd 290 62 = (3, 2, 0, 6, 0) := by decide +kernel
theorem c_290_64 : pg_cd 290 64 = (5, 1, 0, 0, 0) := by decide +kernel
theorem c_290_65 : pg_cd 290 65 = (3, 2, 0, 7, 0) := by decide +kernel
theorem c_290_67 : pg_cd 290 67 = (1, 2, 0, 0, 8) := by decide +kernel
theorem c_290_69 : pg_cd 290 69 = (80, 199, 102, 0, 0) := by decide +kernel
theorem c_290_72 : pg_cd 290 72 = (10, 1, 0, 0, 0) := by decide +kernel
theorem c_290_73 : pg_cd 290 73 = (6, 2, 0, 6, 0) := by decide +kernel
theorem c_290_75 : pg_cd 290 75 = (9, 3, 0, 7, 1) := by decide +kernel
theorem c_290_78 : pg_cd 290 78 = (38, 3, 0, 0, (-38)) := by decide +kernel
theorem c_290_81 : pg_cd 290 81 = (5, 1, 0, 0, 0) := by decide +kernel
theorem c_290_82 : pg_cd 290 82 = (45, 12, 8, 0, 0) := by decide +kernel
theorem c_290_85 : pg_cd 290 85 = (1, 3, 0, 0, 22300) := by decide +kernel
theorem c_290_88 : pg_cd 290 88 = (3, 2, 0, 5, 0) := by decide +kernel
theorem c_290_90 : pg_cd 290 90 = (10, 1, 0, 0, 0) := by decide +kernel
theorem c_290_91 : pg_cd 290 91 = (3, 2, 0, 6, 0) := by decide +kernel
theorem c_290_93 : pg_cd 290 93 = (54, 1, 0, 0, 0) := by decide +kernel
theorem c_290_94 : pg_cd 290 94 = (5, 1, 0, 0, 0) := by decide +kernel
theorem c_290_95 : pg_cd 290 95 = (45, 12, 8, 0, 0) := by decide +kernel
theorem c_290_98 : pg_cd 290 98 = (3, 1, 0, 3, 0) := by decide +kernel
theorem c_290_99 : pg_cd 290 99 = (1, 1, 0, 0, 1) := by decide +kernel
theorem c_290_100 : pg_cd 290 100 = (10, 1, 0, 0, 0) := by decide +kernel
theorem c_290_101 : pg_cd 290 101 = (34, 1, 0, 0, 0) := by decide +kernel
theorem c_290_102 : pg_cd 290 102 = (50, 1, 0, 0, 0) := by decide +kernel
theorem c_290_103 : pg_cd 290 103 = (3, 2, 0, 6, 0) := by decide +kernel
theorem c_290_105 : pg_cd 290 105 = (10, 1, 0, 0, 0) := by decide +kernel
theorem c_290_106 : pg_cd 290 106 = (54, 1, 0, 0, 0) := by decide +kernel
theorem c_290_107 : pg_cd 290 107 = (5, 1, 0, 0, 0) := by decide +kernel
theorem c_290_108 : pg_cd 290 108 = (3, 1, 0, 1, 0) := by decide +kernel
theorem c_290_109 : pg_cd 290 109 = (80, 288, 370, 0, 0) := by decide +kernel
theorem c_290_112 : pg_cd 290 112 = (6, 2, 0, 7, 0) := by decide +kernel
theorem c_290_114 : pg_cd 290 114 = (5, 1, 0, 0, 0) := by decide +kernel
theorem c_290_115 : pg_cd 290 115 = (45, 12, 8, 0, 0) := by decide +kernel
theorem c_290_118 : pg_cd 290 118 = (3, 1, 0, 3, 0) := by decide +kernel
theorem c_290_119 : pg_cd 290 119 = (1, 1, 0, 0, 1) := by decide +kernel
theorem c_290_120 : pg_cd 290 120 = (10, 1, 0, 0, 0) := by decide +kernel
theorem c_290_121 : pg_cd 290 121 = (50, 1, 0, 0, 0) := by decide +kernel
theorem c_290_122 : pg_cd 290 122 = (5, 1, 0, 0, 0) := by decide +kernel
theorem c_290_123 : pg_cd 290 123 = (43, 12, 373, 30, 0) := by decide +kernel
theorem c_290_126 : pg_cd 290 126 = (16, 1, 0, 0, 0) := by decide +kernel
theorem c_290_127 : pg_cd 290 127 = (3, 2, 0, 7, 0) := by decide +kernel
theorem c_290_129 : pg_cd 290 129 = (37, 3, 0, 3, 19) := by decide +kernel
theorem c_290_132 : pg_cd 290 132 = (5, 1, 0, 0, 0) := by decide +kernel
theorem c_290_133 : pg_cd 290 133 = (45, 12, 8, 0, 0) := by decide +kernel
theorem c_290_136 : pg_cd 290 136 = (3, 1, 0, 3, 0) := by decide +kernel
theorem c_290_137 : pg_cd 290 137 = (1, 1, 0, 0, 1) := by decide +kernel
theorem c_290_138 : pg_cd 290 138 = (10, 1, 0, 0, 0) := by decide +kernel
theorem c_290_139 : pg_cd 290 139 = (50, 1, 0, 0, 0) := by decide +kernel
theorem c_290_140 : pg_cd 290 140 = (5, 1, 0, 0, 0) := by decide +kernel
theorem c_290_141 : pg_cd 290 141 = (43, 12, 373, 30, 0) := by decide +kernel
theorem c_290_144 : pg_cd 290 144 = (16, 1, 0, 0, 0) := by decide +kernel
theorem c_290_145 : pg_cd 290 145 = (38, 3, 0, 0, 5) := by decide +kernel
theorem c_290_148 : pg_cd 290 148 = (3, 2, 0, 7, 0) := by decide +kernel
theorem c_290_150 : pg_cd 290 150 = (6, 2, 0, 8, 0) := by decide +kernel
theorem c_290_152 : pg_cd 290 152 = (5, 1, 0, 0, 0) := by decide +kernel
theorem c_290_153 : pg_cd 290 153 = (45, 12, 8, 0, 0) := by decide +kernel
theorem c_290_156 : pg_cd 290 156 = (3, 1, 0, 3, 0) := by decide +kernel
theorem c_290_157 : pg_cd 290 157 = (1, 1, 0, 0, 1) := by decide +kernel
theorem c_290_158 : pg_cd 290 158 = (10, 1, 0, 0, 0) := by decide +kernel
theorem c_290_159 : pg_cd 290 159 = (34, 1, 0, 0, 0) := by decide +kernel
theorem c_290_160 : pg_cd 290 160 = (50, 1, 0, 0, 0) := by decide +kernel
theorem c_290_161 : pg_cd 290 161 = (3, 2, 0, 8, 0) := by decide +kernel
theorem c_290_163 : pg_cd 290 163 = (5, 1, 0, 0, 0) := by decide +kernel
theorem c_290_164 : pg_cd 290 164 = (43, 12, 373, 30, 0) := by decide +kernel
theorem c_290_167 : pg_cd 290 167 = (12, 1, 0, 0, 0) := by decide +kernel
theorem c_290_168 : pg_cd 290 168 = (11, 1, 0, 0, 0) := by decide +kernel
theorem c_290_169 : pg_cd 290 169 = (54, 1, 0, 0, 0) := by decide +kernel
theorem c_290_170 : pg_cd 290 170 = (5, 1, 0, 0, 0) := by decide +kernel
theorem c_290_171 : pg_cd 290 171 = (45, 12, 8, 0, 0) := by decide +kernel
theorem c_290_174 : pg_cd 290 174 = (1, 3, 376, 0, 51100) := by decide +kernel
theorem c_290_177 : pg_cd 290 177 = (3, 2, 0, 5, 0) := by decide +kernel
theorem c_290_179 : pg_cd 290 179 = (10, 1, 0, 0, 0) := by decide +kernel
theorem c_290_180 : pg_cd 290 180 = (3, 2, 0, 8, 0) := by decide +kernel
theorem c_290_182 : pg_cd 290 182 = (54, 1, 0, 0, 0) := by decide +kernel
theorem c_290_183 : pg_cd 290 183 = (5, 1, 0, 0, 0) := by decide +kernel
theorem c_290_184 : pg_cd 290 184 = (45, 12, 8, 0, 0) := by decide +kernel
theorem c_290_187 : pg_cd 290 187 = (3, 2, 0, 4, 0) := by decide +kernel
theorem c_290_189 : pg_cd 290 189 = (1, 1, 0, 0, 1) := by decide +kernel
theorem c_290_190 : pg_cd 290 190 = (10, 1, 0, 0, 0) := by decide +kernel
theorem c_290_191 : pg_cd 290 191 = (50, 1, 0, 0, 0) := by decide +kernel
theorem c_290_192 : pg_cd 290 192 = (31, 1, 0, 0, 0) := by decide +kernel
theorem c_290_193 : pg_cd 290 193 = (5, 1, 0, 0, 0) := by decide +kernel
theorem c_290_194 : pg_cd 290 194 = (3, 1, 0, 1, 0) := by decide +kernel
theorem c_290_195 : pg_cd 290 195 = (3, 1, 0, 2, 0) := by decide +kernel
theorem c_290_196 : pg_cd 290 196 = (80, 289, 377, 0, 0) := by decide +kernel
theorem c_290_199 : pg_cd 290 199 = (31, 1, 0, 0, 0) := by decide +kernel
theorem c_290_200 : pg_cd 290 200 = (24, 1, 0, 0, 0) := by decide +kernel
theorem c_290_201 : pg_cd 290 201 = (2, 3, 380, 0, 400) := by decide +kernel
theorem c_290_204 : pg_cd 290 204 = (26, 1, 0, 0, 0) := by decide +kernel
theorem c_290_205 : pg_cd 290 205 = (30, 1, 0, 0, 0) := by decide +kernel
theorem c_290_206 : pg_cd 290 206 = (6, 2, 0, 9, 0) := by decide +kernel
theorem c_290_208 : pg_cd 290 208 = (3, 2, 0, 8, 0) := by decide +kernel
theorem c_290_210 : pg_cd 290 210 = (3, 2, 0, 7, 0) := by decide +kernel
theorem c_290_212 : pg_cd 290 212 = (37, 3, 0, 3, 82) := by decide +kernel
theorem c_290_215 : pg_cd 290 215 = (5, 1, 0, 0, 0) := by decide +kernel
theorem c_290_216 : pg_cd 290 216 = (45, 12, 8, 0, 0) := by decide +kernel
theorem c_290_219 : pg_cd 290 219 = (3, 2, 0, 4, 0) := by decide +kernel
theorem c_290_221 : pg_cd 290 221 = (1, 1, 0, 0, 3) := by decide +kernel
theorem c_290_222 : pg_cd 290 222 = (10, 1, 0, 0, 0) := by decide +kernel
theorem c_290_223 : pg_cd 290 223 = (50, 1, 0, 0, 0) := by decide +kernel
theorem c_290_224 : pg_cd 290 224 = (36, 3, 0, 1, 70) := by decide +kernel
theorem c_290_227 : pg_cd 290 227 = (5, 1, 0, 0, 0) := by decide +kernel
theorem c_290_228 : pg_cd 290 228 = (45, 12, 8, 0, 0) := by decide +kernel
theorem c_290_231 : pg_cd 290 231 = (3, 2, 0, 4, 0) := by decide +kernel
theorem c_290_233 : pg_cd 290 233 = (50, 1, 0, 0, 0) := by decide +kernel
theorem c_290_234 : pg_cd 290 234 = (5, 1, 0, 0, 0) := by decide +kernel
theorem c_290_235 : pg_cd 290 235 = (43, 12, 373, 30, 0) := by decide +kernel
theorem c_290_238 : pg_cd 290 238 = (37, 3, 0, 2, 56) := by decide +kernel
theorem c_290_241 : pg_cd 290 241 = (5, 1, 0, 0, 0) := by decide +kernel
theorem c_290_242 : pg_cd 290 242 = (45, 12, 8, 0, 0) := by decide +kernel
theorem c_290_245 : pg_cd 290 245 = (3, 1, 0, 3, 0) := by decide +kernel
theorem c_290_246 : pg_cd 290 246 = (1, 1, 0, 0, 2) := by decide +kernel
theorem c_290_247 : pg_cd 290 247 = (10, 1, 0, 0, 0) := by decide +kernel
theorem c_290_248 : pg_cd 290 248 = (50, 1, 0, 0, 0) := by decide +kernel
theorem c_290_249 : pg_cd 290 249 = (5, 1, 0, 0, 0) := by decide +kernel
theorem c_290_250 : pg_cd 290 250 = (43, 12, 373, 30, 0) := by decide +kernel
theorem c_290_253 : pg_cd 290 253 = (10, 1, 0, 0, 0) := by decide +kernel
theorem c_290_254 : pg_cd 290 254 = (3, 2, 0, 9, 0) := by decide +kernel
theorem c_290_256 : pg_cd 290 256 = (37, 3, 0, 4, 38) := by decide +kernel
theorem c_290_259 : pg_cd 290 259 = (5, 1, 0, 0, 0) := by decide +kernel
theorem c_290_260 : pg_cd 290 260 = (45, 12, 8, 0, 0) := by decide +kernel
theorem c_290_263 : pg_cd 290 263 = (3, 2, 0, 4, 0) := by decide +kernel
theorem c_290_265 : pg_cd 290 265 = (34, 1, 0, 0, 0) := by decide +kernel
theorem c_290_266 : pg_cd 290 266 = (50, 1, 0, 0, 0) := by decide +kernel
theorem c_290_267 : pg_cd 290 267 = (5, 1, 0, 0, 0) := by decide +kernel
theorem c_290_268 : pg_cd 290 268 = (43, 12, 373, 30, 0) := by decide +kernel
theorem c_290_271 : pg_cd 290 271 = (11, 1, 0, 0, 0) := by decide +kernel
theorem c_290_272 : pg_cd 290 272 = (54, 1, 0, 0, 0) := by decide +kernel
theorem c_290_273 : pg_cd 290 273 = (5, 1, 0, 0, 0) := by decide +kernel
theorem c_290_274 : pg_cd 290 274 = (45, 12, 8, 0, 0) := by decide +kernel
theorem c_290_277 : pg_cd 290 277 = (3, 1, 0, 3, 0) := by decide +kernel
theorem c_290_278 : pg_cd 290 278 = (1, 1, 0, 0, 2) := by decide +kernel
theorem c_290_279 : pg_cd 290 279 = (10, 1, 0, 0, 0) := by decide +kernel
theorem c_290_280 : pg_cd 290 280 = (34, 1, 0, 0, 0) := by decide +kernel
theorem c_290_281 : pg_cd 290 281 = (50, 1, 0, 0, 0) := by decide +kernel
theorem c_290_282 : pg_cd 290 282 = (5, 1, 0, 0, 0) := by decide +kernel
theorem c_290_283 : pg_cd 290 283 = (43, 12, 373, 30, 0) := by decide +kernel
theorem c_290_286 : pg_cd 290 286 = (10, 1, 0, 0, 0) := by decide +kernel
theorem c_290_287 : pg_cd 290 287 = (54, 1, 0, 0, 0) := by decide +kernel
theorem c_290_288 : pg_cd 290 288 = (9, 3, 0, 8, 1) := by decide +kernel
theorem c_290_291 : pg_cd 290 291 = (38, 3, 0, 0, (-83)) := by decide +kernel
theorem c_290_294 : pg_cd 290 294 = (5, 1, 0, 0, 0) := by decide +kernel
theorem c_290_295 : pg_cd 290 295 = (45, 12, 8, 0, 0) := by decide +kernel
theorem c_290_298 : pg_cd 290 298 = (1, 3, 382, 0, 41500) := by decide +kernel
theorem c_290_301 : pg_cd 290 301 = (3, 2, 0, 5, 0) := by decide +kernel
theorem c_290_303 : pg_cd 290 303 = (10, 1, 0, 0, 0) := by decide +kernel
theorem c_290_304 : pg_cd 290 304 = (3, 2, 0, 8, 0) := by decide +kernel
theorem c_290_306 : pg_cd 290 306 = (54, 1, 0, 0, 0) := by decide +kernel
theorem c_290_307 : pg_cd 290 307 = (5, 1, 0, 0, 0) := by decide +kernel
theorem c_290_308 : pg_cd 290 308 = (45, 12, 8, 0, 0) := by decide +kernel
theorem c_290_311 : pg_cd 290 311 = (1, 2, 0, 0, 15) := by decide +kernel
theorem c_290_313 : pg_cd 290 313 = (34, 1, 0, 0, 0) := by decide +kernel
theorem c_290_314 : pg_cd 290 314 = (50, 1, 0, 0, 0) := by decide +kernel
theorem c_290_315 : pg_cd 290 315 = (3, 2, 0, 8, 0) := by decide +kernel
theorem c_290_317 : pg_cd 290 317 = (10, 1, 0, 0, 0) := by decide +kernel
theorem c_290_318 : pg_cd 290 318 = (54, 1, 0, 0, 0) := by decide +kernel
theorem c_290_319 : pg_cd 290 319 = (5, 1, 0, 0, 0) := by decide +kernel
theorem c_290_320 : pg_cd 290 320 = (45, 12, 8, 0, 0) := by decide +kernel
theorem c_290_323 : pg_cd 290 323 = (1, 3, 0, 0, 31900) := by decide +kernel
theorem c_290_326 : pg_cd 290 326 = (3, 2, 0, 5, 0) := by decide +kernel
theorem c_290_328 : pg_cd 290 328 = (10, 1, 0, 0, 0) := by decide +kernel
theorem c_290_329 : pg_cd 290 329 = (3, 2, 0, 7, 0) := by decide +kernel
theorem c_290_331 : pg_cd 290 331 = (3, 2, 0, 8, 0) := by decide +kernel
theorem c_290_333 : pg_cd 290 333 = (11, 1, 0, 0, 0) := by decide +kernel
theorem c_290_334 : pg_cd 290 334 = (54, 1, 0, 0, 0) := by decide +kernel
theorem c_290_335 : pg_cd 290 335 = (3, 2, 0, 8, 0) := by decide +kernel
theorem c_290_337 : pg_cd 290 337 = (3, 2, 0, 7, 0) := by decide +kernel
theorem c_290_339 : pg_cd 290 339 = (37, 3, 0, 3, 4) := by decide +kernel
theorem c_290_342 : pg_cd 290 342 = (94, 0, 0, 0, 0) := by decide +kernel
theorem c_290_343 : pg_cd 290 343 = (5, 1, 0, 0, 0) := by decide +kernel
theorem c_290_344 : pg_cd 290 344 = (45, 12, 8, 0, 0) := by decide +kernel
theorem c_290_347 : pg_cd 290 347 = (3, 1, 0, 3, 0) := by decide +kernel
theorem c_290_348 : pg_cd 290 348 = (1, 1, 0, 0, 1) := by decide +kernel
theorem c_290_349 : pg_cd 290 349 = (10, 1, 0, 0, 0) := by decide +kernel
theorem c_290_350 : pg_cd 290 350 = (50, 1, 0, 0, 0) := by decide +kernel
theorem c_290_351 : pg_cd 290 351 = (5, 1, 0, 0, 0) := by decide +kernel
theorem c_290_352 : pg_cd 290 352 = (45, 12, 8, 0, 0) := by decide +kernel
theorem c_290_355 : pg_cd 290 355 = (3, 1, 0, 3, 0) := by decide +kernel
theorem c_290_356 : pg_cd 290 356 = (1, 1, 0, 0, 2) := by decide +kernel
theorem c_290_357 : pg_cd 290 357 = (10, 1, 0, 0, 0) := by decide +kernel
theorem c_290_358 : pg_cd 290 358 = (50, 1, 0, 0, 0) := by decide +kernel
theorem c_290_359 : pg_cd 290 359 = (37, 3, 0, 3, 14) := by decide +kernel
theorem c_290_362 : pg_cd 290 362 = (5, 1, 0, 0, 0) := by decide +kernel
theorem c_290_363 : pg_cd 290 363 = (45, 12, 8, 0, 0) := by decide +kernel
theorem c_290_366 : pg_cd 290 366 = (3, 1, 0, 3, 0) := by decide +kernel
theorem c_290_367 : pg_cd 290 367 = (1, 1, 0, 0, 1) := by decide +kernel
theorem c_290_368 : pg_cd 290 368 = (10, 1, 0, 0, 0) := by decide +kernel
theorem c_290_369 : pg_cd 290 369 = (50, 1, 0, 0, 0) := by decide +kernel
theorem c_290_370 : pg_cd 290 370 = (38, 3, 0, 0, 11) := by decide +kernel
theorem c_290_373 : pg_cd 290 373 = (5, 1, 0, 0, 0) := by decide +kernel
theorem c_290_374 : pg_cd 290 374 = (45, 12, 8, 0, 0) := by decide +kernel
theorem c_290_377 : pg_cd 290 377 = (3, 1, 0, 3, 0) := by decide +kernel
theorem c_290_378 : pg_cd 290 378 = (1, 1, 0, 0, 2) := by decide +kernel
theorem c_290_379 : pg_cd 290 379 = (10, 1, 0, 0, 0) := by decide +kernel
theorem c_290_380 : pg_cd 290 380 = (50, 1, 0, 0, 0) := by decide +kernel
theorem c_290_381 : pg_cd 290 381 = (6, 2, 0, 10, 0) := by decide +kernel
theorem c_290_383 : pg_cd 290 383 = (5, 1, 0, 0, 0) := by decide +kernel
theorem c_290_384 : pg_cd 290 384 = (45, 12, 8, 0, 0) := by decide +kernel
theorem c_290_387 : pg_cd 290 387 = (3, 1, 0, 3, 0) := by decide +kernel
theorem c_290_388 : pg_cd 290 388 = (1, 1, 0, 0, 1) := by decide +kernel
theorem c_290_389 : pg_cd 290 389 = (10, 1, 0, 0, 0) := by decide +kernel
theorem c_290_390 : pg_cd 290 390 = (34, 1, 0, 0, 0) := by decide +kernel
theorem c_290_391 : pg_cd 290 391 = (50, 1, 0, 0, 0) := by decide +kernel
theorem c_290_392 : pg_cd 290 392 = (3, 2, 0, 10, 0) := by decide +kernel
theorem c_290_394 : pg_cd 290 394 = (11, 1, 0, 0, 0) := by decide +kernel
theorem c_290_395 : pg_cd 290 395 = (54, 1, 0, 0, 0) := by decide +kernel
theorem c_290_396 : pg_cd 290 396 = (5, 1, 0, 0, 0) := by decide +kernel
theorem c_290_397 : pg_cd 290 397 = (45, 12, 8, 0, 0) := by decide +kernel
theorem c_290_400 : pg_cd 290 400 = (3, 1, 0, 3, 0) := by decide +kernel
theorem c_290_401 : pg_cd 290 401 = (1, 1, 0, 0, 2) := by decide +kernel
theorem c_290_402 : pg_cd 290 402 = (10, 1, 0, 0, 0) := by decide +kernel
theorem c_290_403 : pg_cd 290 403 = (34, 1, 0, 0, 0) := by decide +kernel
theorem c_290_404 : pg_cd 290 404 = (50, 1, 0, 0, 0) := by decide +kernel
theorem c_290_405 : pg_cd 290 405 = (3, 2, 0, 10, 0) := by decide +kernel
theorem c_290_407 : pg_cd 290 407 = (11, 1, 0, 0, 0) := by decide +kernel
theorem c_290_408 : pg_cd 290 408 = (54, 1, 0, 0, 0) := by decide +kernel
theorem c_290_409 : pg_cd 290 409 = (5, 1, 0, 0, 0) := by decide +kernel
theorem c_290_410 : pg_cd 290 410 = (45, 12, 8, 0, 0) := by decide +kernel
theorem c_290_413 : pg_cd 290 413 = (3, 2, 0, 4, 0) := by decide +kernel
theorem c_290_415 : pg_cd 290 415 = (34, 1, 0, 0, 0) := by decide +kernel
theorem c_290_416 : pg_cd 290 416 = (50, 1, 0, 0, 0) := by decide +kernel
theorem c_290_417 : pg_cd 290 417 = (3, 2, 0, 10, 0) := by decide +kernel
theorem c_290_419 : pg_cd 290 419 = (10, 1, 0, 0, 0) := by decide +kernel
theorem c_290_420 : pg_cd 290 420 = (54, 1, 0, 0, 0) := by decide +kernel
theorem c_290_421 : pg_cd 290 421 = (94, 0, 0, 0, 0) := by decide +kernel
theorem mx_290 : pg_mx 290 = 11 := by decide +kernel
theorem m_290 {d : Nat} {h : ab_H} {Q : Option Value → ab_H → Prop} {x0 : Nat} {x1 : Int32} {x2 : Int32} (t : wq d 290 0 [.ref x0, .int x1, .int x2, .retAddr 0, .retAddr 0, .retAddr 0, .retAddr 0, .retAddr 0, .retAddr 0, .retAddr 0, .retAddr 0] [] h Q) : wm d 290 [.ref x0, .int x1, .int x2] h Q := by
  unfold wm
  rw [mx_290]
  exact t
set_option maxRecDepth 20000 in
theorem t_290_0 {d : Nat} {h : ab_H} {Q : Option Value → ab_H → Prop} {x0 : Nat} {x1 : Int32} {x2 : Int32} (t : ab_ok h x0 112 = true ∧ ∃ j1 : Nat, ab_r h x0 0 = some j1 ∧ ((j1 = 0 ∨ ab_ok h j1 0 = true) ∧ ab_in ((3460 + (8 * x1)) + 0) (ab_s h j1).2 = true) ∧ ∀ y2 : Int32, y2 = (3428 + (8 * (ab_i h j1 (Int32.toNatClampNeg ((3460 + (8 * x1)) + 0))))) → wq d 290 40 [.ref x0, .int x1, .int x2, .int (3460 + (8 * x1)), .int y2, .int ((24 * x2) + x1), .int 0, .int 0, .retAddr 0, .retAddr 0, .retAddr 0] [] h Q) : wq d 290 0 [.ref x0, .int x1, .int x2, .retAddr 0, .retAddr 0, .retAddr 0, .retAddr 0, .retAddr 0, .retAddr 0, .retAddr 0, .retAddr 0] [] h Q := by
  refine g1 c_290_0 k_3460 ?_
  refine g1 c_290_3 k_8 ?_
  refine g3 c_290_5 rfl ?_
  refine g12 c_290_6 ?_
  refine g10 c_290_7 ?_
  refine g6 (L' := [.ref x0, .int x1, .int x2, .int (3460 + (8 * x1)), .retAddr 0, .retAddr 0, .retAddr 0, .retAddr 0, .retAddr 0, .retAddr 0, .retAddr 0]) c_290_8 rfl ?_
  refine g1 c_290_9 k_3428 ?_
  refine g1 c_290_12 k_8 ?_
  refine g5 c_290_14 rfl ?_
  obtain ⟨ho, j1, hr, t⟩ := t
  refine g45 c_290_15 ho hr ?_
  refine g3 c_290_18 rfl ?_
  refine g1 c_290_19 k_0 ?_
  refine g10 c_290_20 ?_
  obtain ⟨ho, t⟩ := t
  refine g50 c_290_21 ho ?_
  refine g12 c_290_22 ?_
  refine g10 c_290_23 ?_
  refine g6y (Lf := fun y2 => [.ref x0, .int x1, .int x2, .int (3460 + (8 * x1)), .int y2, .retAddr 0, .retAddr 0, .retAddr 0, .retAddr 0, .retAddr 0, .retAddr 0]) c_290_24 (fun _ => rfl) (fun y2 ey2 => ?_)
  have t := t y2 ey2
  refine g1 c_290_26 k_24 ?_
  refine g3 c_290_28 rfl ?_
  refine g12 c_290_29 ?_
  refine g3 c_290_30 rfl ?_
  refine g10 c_290_31 ?_
  refine g6 (L' := [.ref x0, .int x1, .int x2, .int (3460 + (8 * x1)), .int y2, .int ((24 * x2) + x1), .retAddr 0, .retAddr 0, .retAddr 0, .retAddr 0, .retAddr 0]) c_290_32 rfl ?_
  refine g1 c_290_34 k_0 ?_
  refine g6 (L' := [.ref x0, .int x1, .int x2, .int (3460 + (8 * x1)), .int y2, .int ((24 * x2) + x1), .int 0, .retAddr 0, .retAddr 0, .retAddr 0, .retAddr 0]) c_290_35 rfl ?_
  refine g1 c_290_37 k_0 ?_
  refine g6 (L' := [.ref x0, .int x1, .int x2, .int (3460 + (8 * x1)), .int y2, .int ((24 * x2) + x1), .int 0, .int 0, .retAddr 0, .retAddr 0, .retAddr 0]) c_290_38 rfl ?_
  exact t
set_option maxRecDepth 20000 in
theorem t_290_40 {d : Nat} {h : ab_H} {Q : Option Value → ab_H → Prop} {x0 : Nat} {x1 : Int32} {x2 : Int32} {x3 : Int32} {x4 : Int32} {x5 : Int32} {x6 : Int32} {x7 : Int32} (t : ab_ok h x0 112 = true ∧ ∃ j1 : Nat, ab_r h x0 0 = some j1 ∧ ((j1 = 0 ∨ ab_ok h j1 0 = true) ∧ ab_in (4 : Int32) (ab_s h j1).2 = true) ∧ if (ab_i h j1 (Int32.toNatClampNeg (4 : Int32))) ≤ x7 then (ab_ok h x0 112 = true ∧ ∃ j2 : Nat, ab_r h x0 0 = some j2 ∧ (ab_ok h j2 0 = true ∧ ab_in (22300 + x5) (ab_s h j2).2 = true) ∧ ∀ h3 : ab_H, h3 = ab_pi h j2 (Int32.toNatClampNeg (22300 + x5)) x6 → ab_ok h3 x0 112 = true ∧ ∃ j4 : Nat, ab_r h3 x0 0 = some j4 ∧ ((j4 = 0 ∨ ab_ok h3 j4 0 = true) ∧ ab_in (x3 + 1) (ab_s h3 j4).2 = true) ∧ (ab_ok h3 j4 0 = true ∧ ab_in (x3 + 1) (ab_s h3 j4).2 = true) ∧ ∀ h5 : ab_H, h5 = ab_pi h3 j4 (Int32.toNatClampNeg (x3 + 1)) ((ab_i h3 j4 (Int32.toNatClampNeg (x3 + 1))) + x6) → ab_ok h5 x0 112 = true ∧ wm d 288 [.ref x0, .int x1] h5 (fun r9 h9 => wq (d + 1) 290 112 [.ref x0, .int x1, .int x2, .int x3, .int x4, .int x5, .int x6, .int x7, .retAddr 0, .retAddr 0, .retAddr 0] (r9.toList ++ []) h9 Q)) else (ab_ok h x0 112 = true ∧ wm d 199 [.ref x0, .int x7, .int 0] h (fun r9 h9 => wq (d + 1) 290 58 [.ref x0, .int x1, .int x2, .int x3, .int x4, .int x5, .int x6, .int x7, .retAddr 0, .retAddr 0, .retAddr 0] (r9.toList ++ []) h9 Q))) : wq (d + 1) 290 40 [.ref x0, .int x1, .int x2, .int x3, .int x4, .int x5, .int x6, .int x7, .retAddr 0, .retAddr 0, .retAddr 0] [] h Q := by
  refine g3 c_290_40 rfl ?_
  refine g5 c_290_42 rfl ?_
  obtain ⟨ho, j1, hr, t⟩ := t
  refine g45 c_290_43 ho hr ?_
  refine g1 c_290_46 k_4 ?_
  obtain ⟨ho, t⟩ := t
  refine g50 c_290_47 ho ?_
  refine gcm c_290_48 (gbr t rfl rfl (fun hc t => ?_) (fun hc t => ?_))
  · refine g5 c_290_81 rfl ?_
    obtain ⟨ho, j2, hr, t⟩ := t
    refine g45 c_290_82 ho hr ?_
    refine g1 c_290_85 k_22300 ?_
    refine g3 c_290_88 rfl ?_
    refine g10 c_290_90 ?_
    refine g3 c_290_91 rfl ?_
    obtain ⟨ho, t⟩ := t
    refine g54 c_290_93 ho (fun h3 eh3 => ?_)
    have t := t h3 eh3
    refine g5 c_290_94 rfl ?_
    obtain ⟨ho, j4, hr, t⟩ := t
    refine g45 c_290_95 ho hr ?_
    refine g3 c_290_98 rfl ?_
    refine g1 c_290_99 k_1 ?_
    refine g10 c_290_100 ?_
    refine g34a c_290_101 ?_
    obtain ⟨ho, t⟩ := t
    refine g50 c_290_102 ho ?_
    refine g3 c_290_103 rfl ?_
    refine g10 c_290_105 ?_
    obtain ⟨ho, t⟩ := t
    refine g54 c_290_106 ho (fun h5 eh5 => ?_)
    have t := t h5 eh5
    refine g5 c_290_107 rfl ?_
    refine g3 c_290_108 rfl ?_
    exact g80 (As := [.int x1]) (rest := []) c_290_109 rfl rfl (Nat.le_of_ble_eq_true rfl) (Nat.le_of_ble_eq_true rfl) t.1 t.2
  · refine g5 c_290_51 rfl ?_
    refine g3 c_290_52 rfl ?_
    refine g1 c_290_54 k_0 ?_
    exact g80 (As := [.int x7, .int 0]) (rest := []) c_290_55 rfl rfl (Nat.le_of_ble_eq_true rfl) (Nat.le_of_ble_eq_true rfl) t.1 t.2
set_option maxRecDepth 20000 in
theorem t_290_58 {d : Nat} {h : ab_H} {Q : Option Value → ab_H → Prop} {x0 : Nat} {x1 : Int32} {x2 : Int32} {x3 : Int32} {x4 : Int32} {x5 : Int32} {x6 : Int32} {x7 : Int32} {s0 : Int32} (t : if s0 = x1 then (ab_ok h x0 112 = true ∧ wm d 199 [.ref x0, .int x7, .int 8] h (fun r9 h9 => wq (d + 1) 290 72 [.ref x0, .int x1, .int x2, .int x3, .int x4, .int x5, .int x6, .int x7, .retAddr 0, .retAddr 0, .retAddr 0] (r9.toList ++ [.int x6]) h9 Q)) else (wq (d + 1) 290 75 [.ref x0, .int x1, .int x2, .int x3, .int x4, .int x5, .int x6, .int x7, .retAddr 0, .retAddr 0, .retAddr 0] [] h Q)) : wq (d + 1) 290 58 [.ref x0, .int x1, .int x2, .int x3, .int x4, .int x5, .int x6, .int x7, .retAddr 0, .retAddr 0, .retAddr 0] [.int s0] h Q := by
  refine g3 c_290_58 rfl ?_
  refine gcm c_290_59 (gbn t (ab_c1 _ _) rfl (fun hc t => ?_) (fun hc t => ?_))
  · refine g3 c_290_62 rfl ?_
    refine g5 c_290_64 rfl ?_
    refine g3 c_290_65 rfl ?_
    refine g1 c_290_67 k_8 ?_
    exact g80 (As := [.int x7, .int 8]) (rest := [.int x6]) c_290_69 rfl rfl (Nat.le_of_ble_eq_true rfl) (Nat.le_of_ble_eq_true rfl) t.1 t.2
  · exact t
set_option maxRecDepth 20000 in
theorem t_290_72 {d : Nat} {h : ab_H} {Q : Option Value → ab_H → Prop} {x0 : Nat} {x1 : Int32} {x2 : Int32} {x3 : Int32} {x4 : Int32} {x5 : Int32} {x6 : Int32} {x7 : Int32} {s0 : Int32} {s1 : Int32} (t : wq d 290 75 [.ref x0, .int x1, .int x2, .int x3, .int x4, .int x5, .int (s0 + s1), .int x7, .retAddr 0, .retAddr 0, .retAddr 0] [] h Q) : wq d 290 72 [.ref x0, .int x1, .int x2, .int x3, .int x4, .int x5, .int x6, .int x7, .retAddr 0, .retAddr 0, .retAddr 0] [.int s1, .int s0] h Q := by
  refine g10 c_290_72 ?_
  refine g6 (L' := [.ref x0, .int x1, .int x2, .int x3, .int x4, .int x5, .int (s0 + s1), .int x7, .retAddr 0, .retAddr 0, .retAddr 0]) c_290_73 rfl ?_
  exact t
set_option maxRecDepth 20000 in
theorem t_290_75 {d : Nat} {h : ab_H} {Q : Option Value → ab_H → Prop} {x0 : Nat} {x1 : Int32} {x2 : Int32} {x3 : Int32} {x4 : Int32} {x5 : Int32} {x6 : Int32} {x7 : Int32} (t : wq d 290 40 [.ref x0, .int x1, .int x2, .int x3, .int x4, .int x5, .int x6, .int (x7 + 1), .retAddr 0, .retAddr 0, .retAddr 0] [] h Q) : wq d 290 75 [.ref x0, .int x1, .int x2, .int x3, .int x4, .int x5, .int x6, .int x7, .retAddr 0, .retAddr 0, .retAddr 0] [] h Q := by
  refine g9 (L' := [.ref x0, .int x1, .int x2, .int x3, .int x4, .int x5, .int x6, .int (x7 + 1), .retAddr 0, .retAddr 0, .retAddr 0]) c_290_75 rfl k_1 rfl ?_
  refine g38 c_290_78 rfl ?_
  exact t
set_option maxRecDepth 20000 in
theorem t_290_112 {d : Nat} {h : ab_H} {Q : Option Value → ab_H → Prop} {x0 : Nat} {x1 : Int32} {x2 : Int32} {x3 : Int32} {x4 : Int32} {x5 : Int32} {x6 : Int32} {x7 : Int32} {s0 : Int32} (t : ab_ok h x0 112 = true ∧ ∃ j1 : Nat, ab_r h x0 0 = some j1 ∧ ((j1 = 0 ∨ ab_ok h j1 0 = true) ∧ ab_in (x3 + 1) (ab_s h j1).2 = true) ∧ ab_ok h x0 112 = true ∧ ¬ (ab_i h x0 30 : Int32) = 0 ∧ if s0 ≤ ((ab_i h j1 (Int32.toNatClampNeg (x3 + 1))) / (ab_i h x0 30)) then (wq d 290 150 [.ref x0, .int x1, .int x2, .int x3, .int x4, .int x5, .int x6, .int s0, .retAddr 0, .retAddr 0, .retAddr 0] [.int s0] h Q) else (ab_ok h x0 112 = true ∧ ∃ j2 : Nat, ab_r h x0 0 = some j2 ∧ ((j2 = 0 ∨ ab_ok h j2 0 = true) ∧ ab_in (x3 + 1) (ab_s h j2).2 = true) ∧ ab_ok h x0 112 = true ∧ ¬ (ab_i h x0 30 : Int32) = 0 ∧ wq d 290 150 [.ref x0, .int x1, .int x2, .int x3, .int x4, .int x5, .int x6, .int s0, .retAddr 0, .retAddr 0, .retAddr 0] [.int ((ab_i h j2 (Int32.toNatClampNeg (x3 + 1))) / (ab_i h x0 30))] h Q)) : wq d 290 112 [.ref x0, .int x1, .int x2, .int x3, .int x4, .int x5, .int x6, .int x7, .retAddr 0, .retAddr 0, .retAddr 0] [.int s0] h Q := by
  refine g6 (L' := [.ref x0, .int x1, .int x2, .int x3, .int x4, .int x5, .int x6, .int s0, .retAddr 0, .retAddr 0, .retAddr 0]) c_290_112 rfl ?_
  refine g5 c_290_114 rfl ?_
  obtain ⟨ho, j1, hr, t⟩ := t
  refine g45 c_290_115 ho hr ?_
  refine g3 c_290_118 rfl ?_
  refine g1 c_290_119 k_1 ?_
  refine g10 c_290_120 ?_
  obtain ⟨ho, t⟩ := t
  refine g50 c_290_121 ho ?_
  refine g5 c_290_122 rfl ?_
  obtain ⟨ho, t⟩ := t
  refine g43 c_290_123 ho ?_
  obtain ⟨hy, t⟩ := t
  refine g16 c_290_126 hy ?_
  refine g3 c_290_127 rfl ?_
  refine gcm c_290_129 (gbr t rfl rfl (fun hc t => ?_) (fun hc t => ?_))
  · refine g3 c_290_148 rfl ?_
    exact t
  · refine g5 c_290_132 rfl ?_
    obtain ⟨ho, j2, hr, t⟩ := t
    refine g45 c_290_133 ho hr ?_
    refine g3 c_290_136 rfl ?_
    refine g1 c_290_137 k_1 ?_
    refine g10 c_290_138 ?_
    obtain ⟨ho, t⟩ := t
    refine g50 c_290_139 ho ?_
    refine g5 c_290_140 rfl ?_
    obtain ⟨ho, t⟩ := t
    refine g43 c_290_141 ho ?_
    obtain ⟨hy, t⟩ := t
    refine g16 c_290_144 hy ?_
    refine g38 c_290_145 rfl ?_
    exact t
set_option maxRecDepth 20000 in
theorem t_290_150 {d : Nat} {h : ab_H} {Q : Option Value → ab_H → Prop} {x0 : Nat} {x1 : Int32} {x2 : Int32} {x3 : Int32} {x4 : Int32} {x5 : Int32} {x6 : Int32} {x7 : Int32} {s0 : Int32} (t : ab_ok h x0 112 = true ∧ ∃ j1 : Nat, ab_r h x0 0 = some j1 ∧ ((j1 = 0 ∨ ab_ok h j1 0 = true) ∧ ab_in (x3 + 1) (ab_s h j1).2 = true) ∧ ab_ok h x0 112 = true ∧ (ab_ok h j1 0 = true ∧ ab_in (x3 + 1) (ab_s h j1).2 = true) ∧ ∀ h2 : ab_H, h2 = ab_pi h j1 (Int32.toNatClampNeg (x3 + 1)) ((ab_i h j1 (Int32.toNatClampNeg (x3 + 1))) - (s0 * (ab_i h x0 30))) → ab_ok h2 x0 112 = true ∧ ∃ j3 : Nat, ab_r h2 x0 0 = some j3 ∧ (ab_ok h2 j3 0 = true ∧ ab_in (51100 + x5) (ab_s h2 j3).2 = true) ∧ ∀ h4 : ab_H, h4 = ab_pi h2 j3 (Int32.toNatClampNeg (51100 + x5)) s0 → ab_ok h4 x0 112 = true ∧ ∃ j5 : Nat, ab_r h4 x0 0 = some j5 ∧ ((j5 = 0 ∨ ab_ok h4 j5 0 = true) ∧ ab_in (x4 + 1) (ab_s h4 j5).2 = true) ∧ ab_ok h4 x0 112 = true ∧ wm d 289 [.ref x0, .int x1, .int x2] h4 (fun r9 h9 => wq (d + 1) 290 199 [.ref x0, .int x1, .int x2, .int x3, .int x4, .int x5, .int x6, .int x7, .int s0, .retAddr 0, .retAddr 0] (r9.toList ++ [.long (Int32.toInt64 (ab_i h4 j5 (Int32.toNatClampNeg (x4 + 1))))]) h9 Q)) : wq (d + 1) 290 150 [.ref x0, .int x1, .int x2, .int x3, .int x4, .int x5, .int x6, .int x7, .retAddr 0, .retAddr 0, .retAddr 0] [.int s0] h Q := by
  refine g6 (L' := [.ref x0, .int x1, .int x2, .int x3, .int x4, .int x5, .int x6, .int x7, .int s0, .retAddr 0, .retAddr 0]) c_290_150 rfl ?_
  refine g5 c_290_152 rfl ?_
  obtain ⟨ho, j1, hr, t⟩ := t
  refine g45 c_290_153 ho hr ?_
  refine g3 c_290_156 rfl ?_
  refine g1 c_290_157 k_1 ?_
  refine g10 c_290_158 ?_
  refine g34a c_290_159 ?_
  obtain ⟨ho, t⟩ := t
  refine g50 c_290_160 ho ?_
  refine g3 c_290_161 rfl ?_
  refine g5 c_290_163 rfl ?_
  obtain ⟨ho, t⟩ := t
  refine g43 c_290_164 ho ?_
  refine g12 c_290_167 ?_
  refine g11 c_290_168 ?_
  obtain ⟨ho, t⟩ := t
  refine g54 c_290_169 ho (fun h2 eh2 => ?_)
  have t := t h2 eh2
  refine g5 c_290_170 rfl ?_
  obtain ⟨ho, j3, hr, t⟩ := t
  refine g45 c_290_171 ho hr ?_
  refine g1 c_290_174 k_51100 ?_
  refine g3 c_290_177 rfl ?_
  refine g10 c_290_179 ?_
  refine g3 c_290_180 rfl ?_
  obtain ⟨ho, t⟩ := t
  refine g54 c_290_182 ho (fun h4 eh4 => ?_)
  have t := t h4 eh4
  refine g5 c_290_183 rfl ?_
  obtain ⟨ho, j5, hr, t⟩ := t
  refine g45 c_290_184 ho hr ?_
  refine g3 c_290_187 rfl ?_
  refine g1 c_290_189 k_1 ?_
  refine g10 c_290_190 ?_
  obtain ⟨ho, t⟩ := t
  refine g50 c_290_191 ho ?_
  refine g31 c_290_192 ?_
  refine g5 c_290_193 rfl ?_
  refine g3 c_290_194 rfl ?_
  refine g3 c_290_195 rfl ?_
  exact g80 (As := [.int x1, .int x2]) (rest := [.long (Int32.toInt64 (ab_i h4 j5 (Int32.toNatClampNeg (x4 + 1))))]) c_290_196 rfl rfl (Nat.le_of_ble_eq_true rfl) (Nat.le_of_ble_eq_true rfl) t.1 t.2
set_option maxRecDepth 20000 in
theorem t_290_199 {d : Nat} {h : ab_H} {Q : Option Value → ab_H → Prop} {x0 : Nat} {x1 : Int32} {x2 : Int32} {x3 : Int32} {x4 : Int32} {x5 : Int32} {x6 : Int32} {x7 : Int32} {x8 : Int32} {s0 : Int64} {s1 : Int32} (t : ¬ (400 : Int64) = 0 ∧ ∀ y1 : Int32, y1 = (Int64.toInt32 ((s0 * (Int32.toInt64 s1)) / 400)) → wq d 290 208 [.ref x0, .int x1, .int x2, .int x3, .int x4, .int x5, .int x6, .int x7, .int x8, .int y1, .retAddr 0] [] h Q) : wq d 290 199 [.ref x0, .int x1, .int x2, .int x3, .int x4, .int x5, .int x6, .int x7, .int x8, .retAddr 0, .retAddr 0] [.int s1, .long s0] h Q := by
  refine g31 c_290_199 ?_
  refine g24 c_290_200 ?_
  refine g2 c_290_201 kl_400 ?_
  obtain ⟨hy, t⟩ := t
  refine g26 c_290_204 hy ?_
  refine g30 c_290_205 ?_
  refine g6y (Lf := fun y1 => [.ref x0, .int x1, .int x2, .int x3, .int x4, .int x5, .int x6, .int x7, .int x8, .int y1, .retAddr 0]) c_290_206 (fun _ => rfl) (fun y1 ey1 => ?_)
  have t := t y1 ey1
  exact t
set_option maxRecDepth 20000 in
theorem t_290_208 {d : Nat} {h : ab_H} {Q : Option Value → ab_H → Prop} {x0 : Nat} {x1 : Int32} {x2 : Int32} {x3 : Int32} {x4 : Int32} {x5 : Int32} {x6 : Int32} {x7 : Int32} {x8 : Int32} {x9 : Int32} (t : if x7 ≤ x8 then (wq d 290 294 [.ref x0, .int x1, .int x2, .int x3, .int x4, .int x5, .int x6, .int x7, .int x8, .int x9, .retAddr 0] [] h Q) else (ab_ok h x0 112 = true ∧ ∃ j1 : Nat, ab_r h x0 0 = some j1 ∧ ((j1 = 0 ∨ ab_ok h j1 0 = true) ∧ ab_in (x4 + 3) (ab_s h j1).2 = true) ∧ if (ab_i h j1 (Int32.toNatClampNeg (x4 + 3))) = 0 then (ab_ok h x0 112 = true ∧ ∃ j2 : Nat, ab_r h x0 0 = some j2 ∧ ((j2 = 0 ∨ ab_ok h j2 0 = true) ∧ ab_in x4 (ab_s h j2).2 = true) ∧ ab_ok h x0 112 = true ∧ if (ab_i h j2 (Int32.toNatClampNeg x4)) < (ab_i h x0 30) then (wq d 290 294 [.ref x0, .int x1, .int x2, .int x3, .int x4, .int x5, .int x6, .int x7, .int x8, .int x9, .retAddr 0] [] h Q) else (ab_ok h x0 112 = true ∧ ∃ j3 : Nat, ab_r h x0 0 = some j3 ∧ ((j3 = 0 ∨ ab_ok h j3 0 = true) ∧ ab_in (x3 + 2) (ab_s h j3).2 = true) ∧ ab_ok h x0 112 = true ∧ if x9 < ((ab_i h j3 (Int32.toNatClampNeg (x3 + 2))) + (ab_i h x0 30)) then (wq d 290 294 [.ref x0, .int x1, .int x2, .int x3, .int x4, .int x5, .int x6, .int x7, .int x8, .int x9, .retAddr 0] [] h Q) else (ab_ok h x0 112 = true ∧ ∃ j4 : Nat, ab_r h x0 0 = some j4 ∧ ((j4 = 0 ∨ ab_ok h j4 0 = true) ∧ ab_in x4 (ab_s h j4).2 = true) ∧ ab_ok h x0 112 = true ∧ (ab_ok h j4 0 = true ∧ ab_in x4 (ab_s h j4).2 = true) ∧ ∀ h5 : ab_H, h5 = ab_pi h j4 (Int32.toNatClampNeg x4) ((ab_i h j4 (Int32.toNatClampNeg x4)) - (ab_i h x0 30)) → ab_ok h5 x0 112 = true ∧ ∃ j6 : Nat, ab_r h5 x0 0 = some j6 ∧ ((j6 = 0 ∨ ab_ok h5 j6 0 = true) ∧ ab_in (x3 + 2) (ab_s h5 j6).2 = true) ∧ ab_ok h5 x0 112 = true ∧ (ab_ok h5 j6 0 = true ∧ ab_in (x3 + 2) (ab_s h5 j6).2 = true) ∧ ∀ h7 : ab_H, h7 = ab_pi h5 j6 (Int32.toNatClampNeg (x3 + 2)) ((ab_i h5 j6 (Int32.toNatClampNeg (x3 + 2))) + (ab_i h5 x0 30)) → wq d 290 208 [.ref x0, .int x1, .int x2, .int x3, .int x4, .int x5, .int x6, .int x7, .int (x8 + 1), .int x9, .retAddr 0] [] h7 Q))) else (wq d 290 294 [.ref x0, .int x1, .int x2, .int x3, .int x4, .int x5, .int x6, .int x7, .int x8, .int x9, .retAddr 0] [] h Q))) : wq d 290 208 [.ref x0, .int x1, .int x2, .int x3, .int x4, .int x5, .int x6, .int x7, .int x8, .int x9, .retAddr 0] [] h Q := by
  refine g3 c_290_208 rfl ?_
  refine g3 c_290_210 rfl ?_
  refine gcm c_290_212 (gbr t rfl rfl (fun hc t => ?_) (fun hc t => ?_))
  · exact t
  · refine g5 c_290_215 rfl ?_
    obtain ⟨ho, j1, hr, t⟩ := t
    refine g45 c_290_216 ho hr ?_
    refine g3 c_290_219 rfl ?_
    refine g1 c_290_221 k_3 ?_
    refine g10 c_290_222 ?_
    obtain ⟨ho, t⟩ := t
    refine g50 c_290_223 ho ?_
    refine gif c_290_224 (gbn t (ab_c1 _ _) rfl (fun hc t => ?_) (fun hc t => ?_))
    · refine g5 c_290_227 rfl ?_
      obtain ⟨ho, j2, hr, t⟩ := t
      refine g45 c_290_228 ho hr ?_
      refine g3 c_290_231 rfl ?_
      obtain ⟨ho, t⟩ := t
      refine g50 c_290_233 ho ?_
      refine g5 c_290_234 rfl ?_
      obtain ⟨ho, t⟩ := t
      refine g43 c_290_235 ho ?_
      refine gcm c_290_238 (gbr t rfl rfl (fun hc t => ?_) (fun hc t => ?_))
      · exact t
      · refine g5 c_290_241 rfl ?_
        obtain ⟨ho, j3, hr, t⟩ := t
        refine g45 c_290_242 ho hr ?_
        refine g3 c_290_245 rfl ?_
        refine g1 c_290_246 k_2 ?_
        refine g10 c_290_247 ?_
        obtain ⟨ho, t⟩ := t
        refine g50 c_290_248 ho ?_
        refine g5 c_290_249 rfl ?_
        obtain ⟨ho, t⟩ := t
        refine g43 c_290_250 ho ?_
        refine g10 c_290_253 ?_
        refine g3 c_290_254 rfl ?_
        refine gcm c_290_256 (gbr t rfl rfl (fun hc t => ?_) (fun hc t => ?_))
        · exact t
        · refine g5 c_290_259 rfl ?_
          obtain ⟨ho, j4, hr, t⟩ := t
          refine g45 c_290_260 ho hr ?_
          refine g3 c_290_263 rfl ?_
          refine g34a c_290_265 ?_
          obtain ⟨ho, t⟩ := t
          refine g50 c_290_266 ho ?_
          refine g5 c_290_267 rfl ?_
          obtain ⟨ho, t⟩ := t
          refine g43 c_290_268 ho ?_
          refine g11 c_290_271 ?_
          obtain ⟨ho, t⟩ := t
          refine g54 c_290_272 ho (fun h5 eh5 => ?_)
          have t := t h5 eh5
          refine g5 c_290_273 rfl ?_
          obtain ⟨ho, j6, hr, t⟩ := t
          refine g45 c_290_274 ho hr ?_
          refine g3 c_290_277 rfl ?_
          refine g1 c_290_278 k_2 ?_
          refine g10 c_290_279 ?_
          refine g34a c_290_280 ?_
          obtain ⟨ho, t⟩ := t
          refine g50 c_290_281 ho ?_
          refine g5 c_290_282 rfl ?_
          obtain ⟨ho, t⟩ := t
          refine g43 c_290_283 ho ?_
          refine g10 c_290_286 ?_
          obtain ⟨ho, t⟩ := t
          refine g54 c_290_287 ho (fun h7 eh7 => ?_)
          have t := t h7 eh7
          refine g9 (L' := [.ref x0, .int x1, .int x2, .int x3, .int x4, .int x5, .int x6, .int x7, .int (x8 + 1), .int x9, .retAddr 0]) c_290_288 rfl k_1 rfl ?_
          refine g38 c_290_291 rfl ?_
          exact t
    · exact t
set_option maxRecDepth 20000 in
theorem t_290_294 {d : Nat} {h : ab_H} {Q : Option Value → ab_H → Prop} {x0 : Nat} {x1 : Int32} {x2 : Int32} {x3 : Int32} {x4 : Int32} {x5 : Int32} {x6 : Int32} {x7 : Int32} {x8 : Int32} {x9 : Int32} (t : ab_ok h x0 112 = true ∧ ∃ j1 : Nat, ab_r h x0 0 = some j1 ∧ (ab_ok h j1 0 = true ∧ ab_in (41500 + x5) (ab_s h j1).2 = true) ∧ ∀ h2 : ab_H, h2 = ab_pi h j1 (Int32.toNatClampNeg (41500 + x5)) x8 → ab_ok h2 x0 112 = true ∧ ∃ j3 : Nat, ab_r h2 x0 0 = some j3 ∧ ((j3 = 0 ∨ ab_ok h2 j3 0 = true) ∧ ab_in (15 : Int32) (ab_s h2 j3).2 = true) ∧ (ab_ok h2 j3 0 = true ∧ ab_in (15 : Int32) (ab_s h2 j3).2 = true) ∧ ∀ h4 : ab_H, h4 = ab_pi h2 j3 (Int32.toNatClampNeg (15 : Int32)) ((ab_i h2 j3 (Int32.toNatClampNeg (15 : Int32))) + x8) → ab_ok h4 x0 112 = true ∧ ∃ j5 : Nat, ab_r h4 x0 0 = some j5 ∧ (ab_ok h4 j5 0 = true ∧ ab_in (31900 + x5) (ab_s h4 j5).2 = true) ∧ ∀ h6 : ab_H, h6 = ab_pi h4 j5 (Int32.toNatClampNeg (31900 + x5)) (x7 - x8) → if x7 ≤ x8 then (ab_ok h6 x0 112 = true ∧ ∃ j7 : Nat, ab_r h6 x0 0 = some j7 ∧ ((j7 = 0 ∨ ab_ok h6 j7 0 = true) ∧ ab_in (x3 + 1) (ab_s h6 j7).2 = true) ∧ ab_ok h6 x0 112 = true ∧ ∃ j8 : Nat, ab_r h6 x0 0 = some j8 ∧ ((j8 = 0 ∨ ab_ok h6 j8 0 = true) ∧ ab_in (x3 + 2) (ab_s h6 j8).2 = true) ∧ if (ab_i h6 j8 (Int32.toNatClampNeg (x3 + 2))) ≤ (ab_i h6 j7 (Int32.toNatClampNeg (x3 + 1))) then (ab_ok h6 x0 112 = true ∧ ∃ j9 : Nat, ab_r h6 x0 0 = some j9 ∧ ((j9 = 0 ∨ ab_ok h6 j9 0 = true) ∧ ab_in (x3 + 2) (ab_s h6 j9).2 = true) ∧ wq d 290 381 [.ref x0, .int x1, .int x2, .int x3, .int x4, .int x5, .int x6, .int x7, .int x8, .int x9, .retAddr 0] [.int (ab_i h6 j9 (Int32.toNatClampNeg (x3 + 2)))] h6 Q) else (ab_ok h6 x0 112 = true ∧ ∃ j10 : Nat, ab_r h6 x0 0 = some j10 ∧ ((j10 = 0 ∨ ab_ok h6 j10 0 = true) ∧ ab_in (x3 + 1) (ab_s h6 j10).2 = true) ∧ wq d 290 381 [.ref x0, .int x1, .int x2, .int x3, .int x4, .int x5, .int x6, .int x7, .int x8, .int x9, .retAddr 0] [.int (ab_i h6 j10 (Int32.toNatClampNeg (x3 + 1)))] h6 Q)) else (Q none h6)) : wq d 290 294 [.ref x0, .int x1, .int x2, .int x3, .int x4, .int x5, .int x6, .int x7, .int x8, .int x9, .retAddr 0] [] h Q := by
  refine g5 c_290_294 rfl ?_
  obtain ⟨ho, j1, hr, t⟩ := t
  refine g45 c_290_295 ho hr ?_
  refine g1 c_290_298 k_41500 ?_
  refine g3 c_290_301 rfl ?_
  refine g10 c_290_303 ?_
  refine g3 c_290_304 rfl ?_
  obtain ⟨ho, t⟩ := t
  refine g54 c_290_306 ho (fun h2 eh2 => ?_)
  have t := t h2 eh2
  refine g5 c_290_307 rfl ?_
  obtain ⟨ho, j3, hr, t⟩ := t
  refine g45 c_290_308 ho hr ?_
  refine g1 c_290_311 k_15 ?_
  refine g34a c_290_313 ?_
  obtain ⟨ho, t⟩ := t
  refine g50 c_290_314 ho ?_
  refine g3 c_290_315 rfl ?_
  refine g10 c_290_317 ?_
  obtain ⟨ho, t⟩ := t
  refine g54 c_290_318 ho (fun h4 eh4 => ?_)
  have t := t h4 eh4
  refine g5 c_290_319 rfl ?_
  obtain ⟨ho, j5, hr, t⟩ := t
  refine g45 c_290_320 ho hr ?_
  refine g1 c_290_323 k_31900 ?_
  refine g3 c_290_326 rfl ?_
  refine g10 c_290_328 ?_
  refine g3 c_290_329 rfl ?_
  refine g3 c_290_331 rfl ?_
  refine g11 c_290_333 ?_
  obtain ⟨ho, t⟩ := t
  refine g54 c_290_334 ho (fun h6 eh6 => ?_)
  have t := t h6 eh6
  refine g3 c_290_335 rfl ?_
  refine g3 c_290_337 rfl ?_
  refine gcm c_290_339 (gbr t rfl rfl (fun hc t => ?_) (fun hc t => ?_))
  · refine g5 c_290_343 rfl ?_
    obtain ⟨ho, j7, hr, t⟩ := t
    refine g45 c_290_344 ho hr ?_
    refine g3 c_290_347 rfl ?_
    refine g1 c_290_348 k_1 ?_
    refine g10 c_290_349 ?_
    obtain ⟨ho, t⟩ := t
    refine g50 c_290_350 ho ?_
    refine g5 c_290_351 rfl ?_
    obtain ⟨ho, j8, hr, t⟩ := t
    refine g45 c_290_352 ho hr ?_
    refine g3 c_290_355 rfl ?_
    refine g1 c_290_356 k_2 ?_
    refine g10 c_290_357 ?_
    obtain ⟨ho, t⟩ := t
    refine g50 c_290_358 ho ?_
    refine gcm c_290_359 (gbr t rfl rfl (fun hc t => ?_) (fun hc t => ?_))
    · refine g5 c_290_373 rfl ?_
      obtain ⟨ho, j9, hr, t⟩ := t
      refine g45 c_290_374 ho hr ?_
      refine g3 c_290_377 rfl ?_
      refine g1 c_290_378 k_2 ?_
      refine g10 c_290_379 ?_
      obtain ⟨ho, t⟩ := t
      refine g50 c_290_380 ho ?_
      exact t
    · refine g5 c_290_362 rfl ?_
      obtain ⟨ho, j10, hr, t⟩ := t
      refine g45 c_290_363 ho hr ?_
      refine g3 c_290_366 rfl ?_
      refine g1 c_290_367 k_1 ?_
      refine g10 c_290_368 ?_
      obtain ⟨ho, t⟩ := t
      refine g50 c_290_369 ho ?_
      refine g38 c_290_370 rfl ?_
      exact t
  · exact g94 c_290_342 t
set_option maxRecDepth 20000 in
theorem t_290_381 {d : Nat} {h : ab_H} {Q : Option Value → ab_H → Prop} {x0 : Nat} {x1 : Int32} {x2 : Int32} {x3 : Int32} {x4 : Int32} {x5 : Int32} {x6 : Int32} {x7 : Int32} {x8 : Int32} {x9 : Int32} {s0 : Int32} (t : ab_ok h x0 112 = true ∧ ∃ j1 : Nat, ab_r h x0 0 = some j1 ∧ ((j1 = 0 ∨ ab_ok h j1 0 = true) ∧ ab_in (x3 + 1) (ab_s h j1).2 = true) ∧ (ab_ok h j1 0 = true ∧ ab_in (x3 + 1) (ab_s h j1).2 = true) ∧ ∀ h2 : ab_H, h2 = ab_pi h j1 (Int32.toNatClampNeg (x3 + 1)) ((ab_i h j1 (Int32.toNatClampNeg (x3 + 1))) - s0) → ab_ok h2 x0 112 = true ∧ ∃ j3 : Nat, ab_r h2 x0 0 = some j3 ∧ ((j3 = 0 ∨ ab_ok h2 j3 0 = true) ∧ ab_in (x3 + 2) (ab_s h2 j3).2 = true) ∧ (ab_ok h2 j3 0 = true ∧ ab_in (x3 + 2) (ab_s h2 j3).2 = true) ∧ ∀ h4 : ab_H, h4 = ab_pi h2 j3 (Int32.toNatClampNeg (x3 + 2)) ((ab_i h2 j3 (Int32.toNatClampNeg (x3 + 2))) - s0) → ab_ok h4 x0 112 = true ∧ ∃ j5 : Nat, ab_r h4 x0 0 = some j5 ∧ ((j5 = 0 ∨ ab_ok h4 j5 0 = true) ∧ ab_in x4 (ab_s h4 j5).2 = true) ∧ (ab_ok h4 j5 0 = true ∧ ab_in x4 (ab_s h4 j5).2 = true) ∧ ∀ h6 : ab_H, h6 = ab_pi h4 j5 (Int32.toNatClampNeg x4) ((ab_i h4 j5 (Int32.toNatClampNeg x4)) + s0) → Q none h6) : wq d 290 381 [.ref x0, .int x1, .int x2, .int x3, .int x4, .int x5, .int x6, .int x7, .int x8, .int x9, .retAddr 0] [.int s0] h Q := by
  refine g6 (L' := [.ref x0, .int x1, .int x2, .int x3, .int x4, .int x5, .int x6, .int x7, .int x8, .int x9, .int s0]) c_290_381 rfl ?_
  refine g5 c_290_383 rfl ?_
  obtain ⟨ho, j1, hr, t⟩ := t
  refine g45 c_290_384 ho hr ?_
  refine g3 c_290_387 rfl ?_
  refine g1 c_290_388 k_1 ?_
  refine g10 c_290_389 ?_
  refine g34a c_290_390 ?_
  obtain ⟨ho, t⟩ := t
  refine g50 c_290_391 ho ?_
  refine g3 c_290_392 rfl ?_
  refine g11 c_290_394 ?_
  obtain ⟨ho, t⟩ := t
  refine g54 c_290_395 ho (fun h2 eh2 => ?_)
  have t := t h2 eh2
  refine g5 c_290_396 rfl ?_
  obtain ⟨ho, j3, hr, t⟩ := t
  refine g45 c_290_397 ho hr ?_
  refine g3 c_290_400 rfl ?_
  refine g1 c_290_401 k_2 ?_
  refine g10 c_290_402 ?_
  refine g34a c_290_403 ?_
  obtain ⟨ho, t⟩ := t
  refine g50 c_290_404 ho ?_
  refine g3 c_290_405 rfl ?_
  refine g11 c_290_407 ?_
  obtain ⟨ho, t⟩ := t
  refine g54 c_290_408 ho (fun h4 eh4 => ?_)
  have t := t h4 eh4
  refine g5 c_290_409 rfl ?_
  obtain ⟨ho, j5, hr, t⟩ := t
  refine g45 c_290_410 ho hr ?_
  refine g3 c_290_413 rfl ?_
  refine g34a c_290_415 ?_
  obtain ⟨ho, t⟩ := t
  refine g50 c_290_416 ho ?_
  refine g3 c_290_417 rfl ?_
  refine g10 c_290_419 ?_
  obtain ⟨ho, t⟩ := t
  refine g54 c_290_420 ho (fun h6 eh6 => ?_)
  have t := t h6 eh6
  exact g94 c_290_421 t
-- method 291: MillTownModel.begin(I)V
theorem c_291_0 : pg_cd 291 0 = (5, 1, 0, 0, 0) := by decide +kernel
theorem c_291_1 : pg_cd 291 1 = (5, 1, 0, 0, 0) := by decide +kernel
theorem c_291_2 : pg_cd 291 2 = (1, 1, 0, 0, 0) := by decide +kernel
theorem c_291_3 : pg_cd 291 3 = (3, 1, 0, 1, 0) := by decide +kernel
theorem c_291_4 : pg_cd 291 4 = (80, 209, 92, 0, 0) := by decide +kernel
theorem c_291_7 : pg_cd 291 7 = (46, 12, 355, 29, 0) := by decide +kernel
theorem c_291_10 : pg_cd 291 10 = (5, 1, 0, 0, 0) := by decide +kernel
theorem c_291_11 : pg_cd 291 11 = (5, 1, 0, 0, 0) := by decide +kernel
theorem c_291_12 : pg_cd 291 12 = (1, 1, 0, 0, 1) := by decide +kernel
theorem c_291_13 : pg_cd 291 13 = (3, 1, 0, 1, 0) := by decide +kernel
theorem c_291_14 : pg_cd 291 14 = (80, 209, 92, 0, 0) := by decide +kernel
theorem c_291_17 : pg_cd 291 17 = (46, 12, 373, 30, 0) := by decide +kernel
theorem c_291_20 : pg_cd 291 20 = (5, 1, 0, 0, 0) := by decide +kernel
theorem c_291_21 : pg_cd 291 21 = (45, 12, 8, 0, 0) := by decide +kernel
theorem c_291_24 : pg_cd 291 24 = (1, 3, 383, 0, 111900) := by decide +kernel
theorem c_291_27 : pg_cd 291 27 = (3, 1, 0, 1, 0) := by decide +kernel
theorem c_291_28 : pg_cd 291 28 = (10, 1, 0, 0, 0) := by decide +kernel
theorem c_291_29 : pg_cd 291 29 = (5, 1, 0, 0, 0) := by decide +kernel
theorem c_291_30 : pg_cd 291 30 = (43, 12, 373, 30, 0) := by decide +kernel
theorem c_291_33 : pg_cd 291 33 = (54, 1, 0, 0, 0) := by decide +kernel
theorem c_291_34 : pg_cd 291 34 = (1, 1, 0, 0, 0) := by decide +kernel
theorem c_291_35 : pg_cd 291 35 = (6, 1, 0, 2, 0) := by decide +kernel
theorem c_291_36 : pg_cd 291 36 = (3, 1, 0, 2, 0) := by decide +kernel
theorem c_291_37 : pg_cd 291 37 = (5, 1, 0, 0, 0) := by decide +kernel
theorem c_291_38 : pg_cd 291 38 = (45, 12, 8, 0, 0) := by decide +kernel
theorem c_291_41 : pg_cd 291 41 = (1, 1, 0, 0, 4) := by decide +kernel
theorem c_291_42 : pg_cd 291 42 = (50, 1, 0, 0, 0) := by decide +kernel
theorem c_291_43 : pg_cd 291 43 = (37, 3, 0, 3, 70) := by decide +kernel
theorem c_291_46 : pg_cd 291 46 = (5, 1, 0, 0, 0) := by decide +kernel
theorem c_291_47 : pg_cd 291 47 = (45, 12, 8, 0, 0) := by decide +kernel
theorem c_291_50 : pg_cd 291 50 = (1, 3, 0, 0, 3652) := by decide +kernel
theorem c_291_53 : pg_cd 291 53 = (1, 2, 0, 0, 12) := by decide +kernel
theorem c_291_55 : pg_cd 291 55 = (3, 1, 0, 2, 0) := by decide +kernel
theorem c_291_56 : pg_cd 291 56 = (12, 1, 0, 0, 0) := by decide +kernel
theorem c_291_57 : pg_cd 291 57 = (10, 1, 0, 0, 0) := by decide +kernel
theorem c_291_58 : pg_cd 291 58 = (1, 2, 0, 0, 8) := by decide +kernel
theorem c_291_60 : pg_cd 291 60 = (10, 1, 0, 0, 0) := by decide +kernel
theorem c_291_61 : pg_cd 291 61 = (1, 1, 0, 0, 0) := by decide +kernel
theorem c_291_62 : pg_cd 291 62 = (54, 1, 0, 0, 0) := by decide +kernel
theorem c_291_63 : pg_cd 291 63 = (5, 1, 0, 0, 0) := by decide +kernel
theorem c_291_64 : pg_cd 291 64 = (45, 12, 50, 33, 0) := by decide +kernel
theorem c_291_67 : pg_cd 291 67 = (3, 1, 0, 2, 0) := by decide +kernel
theorem c_291_68 : pg_cd 291 68 = (1, 1, 0, 0, 0) := by decide +kernel
theorem c_291_69 : pg_cd 291 69 = (54, 1, 0, 0, 0) := by decide +kernel
theorem c_291_70 : pg_cd 291 70 = (5, 1, 0, 0, 0) := by decide +kernel
theorem c_291_71 : pg_cd 291 71 = (45, 12, 47, 32, 0) := by decide +kernel
theorem c_291_74 : pg_cd 291 74 = (3, 1, 0, 2, 0) := by decide +kernel
theorem c_291_75 : pg_cd 291 75 = (5, 1, 0, 0, 0) := by decide +kernel
theorem c_291_76 : pg_cd 291 76 = (3, 1, 0, 2, 0) := by decide +kernel
theorem c_291_77 : pg_cd 291 77 = (1, 1, 0, 0, 4) := by decide +kernel
theorem c_291_78 : pg_cd 291 78 = (80, 199, 102, 0, 0) := by decide +kernel
theorem c_291_81 : pg_cd 291 81 = (36, 3, 0, 3, 7) := by decide +kernel
theorem c_291_84 : pg_cd 291 84 = (1, 1, 0, 0, 0) := by decide +kernel
theorem c_291_85 : pg_cd 291 85 = (38, 3, 0, 0, 21) := by decide +kernel
theorem c_291_88 : pg_cd 291 88 = (5, 1, 0, 0, 0) := by decide +kernel
theorem c_291_89 : pg_cd 291 89 = (5, 1, 0, 0, 0) := by decide +kernel
theorem c_291_90 : pg_cd 291 90 = (3, 1, 0, 2, 0) := by decide +kernel
theorem c_291_91 : pg_cd 291 91 = (1, 1, 0, 0, 1) := by decide +kernel
theorem c_291_92 : pg_cd 291 92 = (80, 199, 102, 0, 0) := by decide +kernel
theorem c_291_95 : pg_cd 291 95 = (5, 1, 0, 0, 0) := by decide +kernel
theorem c_291_96 : pg_cd 291 96 = (3, 1, 0, 2, 0) := by decide +kernel
theorem c_291_97 : pg_cd 291 97 = (1, 1, 0, 0, 4) := by decide +kernel
theorem c_291_98 : pg_cd 291 98 = (80, 199, 102, 0, 0) := by decide +kernel
theorem c_291_101 : pg_cd 291 101 = (3, 1, 0, 1, 0) := by decide +kernel
theorem c_291_102 : pg_cd 291 102 = (3, 1, 0, 1, 0) := by decide +kernel
theorem c_291_103 : pg_cd 291 103 = (80, 276, 343, 0, 0) := by decide +kernel
theorem c_291_106 : pg_cd 291 106 = (54, 1, 0, 0, 0) := by decide +kernel
theorem c_291_107 : pg_cd 291 107 = (9, 3, 0, 2, 1) := by decide +kernel
theorem c_291_110 : pg_cd 291 110 = (38, 3, 0, 0, (-74)) := by decide +kernel
theorem c_291_113 : pg_cd 291 113 = (1, 1, 0, 0, 0) := by decide +kernel
theorem c_291_114 : pg_cd 291 114 = (6, 1, 0, 2, 0) := by decide +kernel
theorem c_291_115 : pg_cd 291 115 = (3, 1, 0, 2, 0) := by decide +kernel
theorem c_291_116 : pg_cd 291 116 = (5, 1, 0, 0, 0) := by decide +kernel
theorem c_291_117 : pg_cd 291 117 = (45, 12, 8, 0, 0) := by decide +kernel
theorem c_291_120 : pg_cd 291 120 = (1, 2, 0, 0, 7) := by decide +kernel
theorem c_291_122 : pg_cd 291 122 = (50, 1, 0, 0, 0) := by decide +kernel
theorem c_291_123 : pg_cd 291 123 = (37, 3, 0, 3, 25) := by decide +kernel
theorem c_291_126 : pg_cd 291 126 = (5, 1, 0, 0, 0) := by decide +kernel
theorem c_291_127 : pg_cd 291 127 = (45, 12, 8, 0, 0) := by decide +kernel
theorem c_291_130 : pg_cd 291 130 = (1, 3, 0, 0, 4372) := by decide +kernel
theorem c_291_133 : pg_cd 291 133 = (1, 2, 0, 0, 8) := by decide +kernel
theorem c_291_135 : pg_cd 291 135 = (3, 1, 0, 2, 0) := by decide +kernel
theorem c_291_136 : pg_cd 291 136 = (12, 1, 0, 0, 0) := by decide +kernel
theorem c_291_137 : pg_cd 291 137 = (10, 1, 0, 0, 0) := by decide +kernel
theorem c_291_138 : pg_cd 291 138 = (1, 1, 0, 0, 5) := by decide +kernel
theorem c_291_139 : pg_cd 291 139 = (10, 1, 0, 0, 0) := by decide +kernel
theorem c_291_140 : pg_cd 291 140 = (1, 1, 0, 0, 0) := by decide +kernel
theorem c_291_141 : pg_cd 291 141 = (54, 1, 0, 0, 0) := by decide +kernel
theorem c_291_142 : pg_cd 291 142 = (9, 3, 0, 2, 1) := by decide +kernel
theorem c_291_145 : pg_cd 291 145 = (38, 3, 0, 0, (-30)) := by decide +kernel
theorem c_291_148 : pg_cd 291 148 = (1, 1, 0, 0, 0) := by decide +kernel
theorem c_291_149 : pg_cd 291 149 = (6, 1, 0, 2, 0) := by decide +kernel
theorem c_291_150 : pg_cd 291 150 = (3, 1, 0, 2, 0) := by decide +kernel
theorem c_291_151 : pg_cd 291 151 = (5, 1, 0, 0, 0) := by decide +kernel
theorem c_291_152 : pg_cd 291 152 = (45, 12, 8, 0, 0) := by decide +kernel
theorem c_291_155 : pg_cd 291 155 = (1, 1, 0, 0, 1) := by decide +kernel
theorem c_291_156 : pg_cd 291 156 = (50, 1, 0, 0, 0) := by decide +kernel
theorem c_291_157 : pg_cd 291 157 = (37, 3, 0, 3, 60) := by decide +kernel
theorem c_291_160 : pg_cd 291 160 = (5, 1, 0, 0, 0) := by decide +kernel
theorem c_291_161 : pg_cd 291 161 = (45, 12, 8, 0, 0) := by decide +kernel
theorem c_291_164 : pg_cd 291 164 = (1, 3, 0, 0, 3300) := by decide +kernel
theorem c_291_167 : pg_cd 291 167 = (1, 2, 0, 0, 16) := by decide +kernel
theorem c_291_169 : pg_cd 291 169 = (3, 1, 0, 2, 0) := by decide +kernel
theorem c_291_170 : pg_cd 291 170 = (12, 1, 0, 0, 0) := by decide +kernel
theorem c_291_171 : pg_cd 291 171 = (10, 1, 0, 0, 0) := by decide +kernel
theorem c_291_172 : pg_cd 291 172 = (1, 2, 0, 0, 8) := by decide +kernel
theorem c_291_174 : pg_cd 291 174 = (10, 1, 0, 0, 0) := by decide +kernel
theorem c_291_175 : pg_cd 291 175 = (1, 1, 0, 0, 0) := by decide +kernel
theorem c_291_176 : pg_cd 291 176 = (54, 1, 0, 0, 0) := by decide +kernel
theorem c_291_177 : pg_cd 291 177 = (5, 1, 0, 0, 0) := by decide +kernel
theorem c_291_178 : pg_cd 291 178 = (45, 12, 8, 0, 0) := by decide +kernel
theorem c_291_181 : pg_cd 291 181 = (1, 3, 0, 0, 3300) := by decide +kernel
theorem c_291_184 : pg_cd 291 184 = (1, 2, 0, 0, 16) := by decide +kernel
theorem c_291_186 : pg_cd 291 186 = (3, 1, 0, 2, 0) := by decide +kernel
theorem c_291_187 : pg_cd 291 187 = (12, 1, 0, 0, 0) := by decide +kernel
theorem c_291_188 : pg_cd 291 188 = (10, 1, 0, 0, 0) := by decide +kernel
theorem c_291_189 : pg_cd 291 189 = (1, 2, 0, 0, 9) := by decide +kernel
theorem c_291_191 : pg_cd 291 191 = (10, 1, 0, 0, 0) := by decide +kernel
theorem c_291_192 : pg_cd 291 192 = (1, 1, 0, 0, (-1)) := by decide +kernel
theorem c_291_193 : pg_cd 291 193 = (54, 1, 0, 0, 0) := by decide +kernel
theorem c_291_194 : pg_cd 291 194 = (5, 1, 0, 0, 0) := by decide +kernel
theorem c_291_195 : pg_cd 291 195 = (45, 12, 8, 0, 0) := by decide +kernel
theorem c_291_198 : pg_cd 291 198 = (1, 3, 0, 0, 3300) := by decide +kernel
theorem c_291_201 : pg_cd 291 201 = (1, 2, 0, 0, 16) := by decide +kernel
theorem c_291_203 : pg_cd 291 203 = (3, 1, 0, 2, 0) := by decide +kernel
theorem c_291_204 : pg_cd 291 204 = (12, 1, 0, 0, 0) := by decide +kernel
theorem c_291_205 : pg_cd 291 205 = (10, 1, 0, 0, 0) := by decide +kernel
theorem c_291_206 : pg_cd 291 206 = (1, 2, 0, 0, 10) := by decide +kernel
theorem c_291_208 : pg_cd 291 208 = (10, 1, 0, 0, 0) := by decide +kernel
theorem c_291_209 : pg_cd 291 209 = (1, 1, 0, 0, 0) := by decide +kernel
theorem c_291_210 : pg_cd 291 210 = (54, 1, 0, 0, 0) := by decide +kernel
theorem c_291_211 : pg_cd 291 211 = (9, 3, 0, 2, 1) := by decide +kernel
theorem c_291_214 : pg_cd 291 214 = (38, 3, 0, 0, (-64)) := by decide +kernel
theorem c_291_217 : pg_cd 291 217 = (94, 0, 0, 0, 0) := by decide +kernel
theorem mx_291 : pg_mx 291 = 3 := by decide +kernel
theorem m_291 {d : Nat} {h : ab_H} {Q : Option Value → ab_H → Prop} {x0 : Nat} {x1 : Int32} (t : wq d 291 0 [.ref x0, .int x1, .retAddr 0] [] h Q) : wm d 291 [.ref x0, .int x1] h Q := by
  unfold wm
  rw [mx_291]
  exact t
set_option maxRecDepth 20000 in
theorem t_291_0 {d : Nat} {h : ab_H} {Q : Option Value → ab_H → Prop} {x0 : Nat} {x1 : Int32} (t : ab_ok h x0 112 = true ∧ wm d 209 [.ref x0, .int 0, .int x1] h (fun r9 h9 => wq (d + 1) 291 7 [.ref x0, .int x1, .retAddr 0] (r9.toList ++ [.ref x0]) h9 Q)) : wq (d + 1) 291 0 [.ref x0, .int x1, .retAddr 0] [] h Q := by
  refine g5 c_291_0 rfl ?_
  refine g5 c_291_1 rfl ?_
  refine g1 c_291_2 k_0 ?_
  refine g3 c_291_3 rfl ?_
  exact g80 (As := [.int 0, .int x1]) (rest := [.ref x0]) c_291_4 rfl rfl (Nat.le_of_ble_eq_true rfl) (Nat.le_of_ble_eq_true rfl) t.1 t.2
set_option maxRecDepth 20000 in
theorem t_291_7 {d : Nat} {h : ab_H} {Q : Option Value → ab_H → Prop} {x0 : Nat} {x1 : Int32} {s0 : Nat} {s1 : Int32} (t : ab_ok h s0 112 = true ∧ ∀ h1 : ab_H, h1 = ab_pi h s0 29 s1 → ab_ok h1 x0 112 = true ∧ wm d 209 [.ref x0, .int 1, .int x1] h1 (fun r9 h9 => wq (d + 1) 291 17 [.ref x0, .int x1, .retAddr 0] (r9.toList ++ [.ref x0]) h9 Q)) : wq (d + 1) 291 7 [.ref x0, .int x1, .retAddr 0] [.int s1, .ref s0] h Q := by
  obtain ⟨ho, t⟩ := t
  refine g46 c_291_7 ho (fun h1 eh1 => ?_)
  have t := t h1 eh1
  refine g5 c_291_10 rfl ?_
  refine g5 c_291_11 rfl ?_
  refine g1 c_291_12 k_1 ?_
  refine g3 c_291_13 rfl ?_
  exact g80 (As := [.int 1, .int x1]) (rest := [.ref x0]) c_291_14 rfl rfl (Nat.le_of_ble_eq_true rfl) (Nat.le_of_ble_eq_true rfl) t.1 t.2
set_option maxRecDepth 20000 in
theorem t_291_17 {d : Nat} {h : ab_H} {Q : Option Value → ab_H → Prop} {x0 : Nat} {x1 : Int32} {s0 : Nat} {s1 : Int32} (t : ab_ok h s0 112 = true ∧ ∀ h1 : ab_H, h1 = ab_pi h s0 30 s1 → ab_ok h1 x0 112 = true ∧ ∃ j2 : Nat, ab_r h1 x0 0 = some j2 ∧ ab_ok h1 x0 112 = true ∧ (ab_ok h1 j2 0 = true ∧ ab_in (111900 + x1) (ab_s h1 j2).2 = true) ∧ ∀ h3 : ab_H, h3 = ab_pi h1 j2 (Int32.toNatClampNeg (111900 + x1)) (ab_i h1 x0 30) → wq d 291 36 [.ref x0, .int x1, .int 0] [] h3 Q) : wq d 291 17 [.ref x0, .int x1, .retAddr 0] [.int s1, .ref s0] h Q := by
  obtain ⟨ho, t⟩ := t
  refine g46 c_291_17 ho (fun h1 eh1 => ?_)
  have t := t h1 eh1
  refine g5 c_291_20 rfl ?_
  obtain ⟨ho, j2, hr, t⟩ := t
  refine g45 c_291_21 ho hr ?_
  refine g1 c_291_24 k_111900 ?_
  refine g3 c_291_27 rfl ?_
  refine g10 c_291_28 ?_
  refine g5 c_291_29 rfl ?_
  obtain ⟨ho, t⟩ := t
  refine g43 c_291_30 ho ?_
  obtain ⟨ho, t⟩ := t
  refine g54 c_291_33 ho (fun h3 eh3 => ?_)
  have t := t h3 eh3
  refine g1 c_291_34 k_0 ?_
  refine g6 (L' := [.ref x0, .int x1, .int 0]) c_291_35 rfl ?_
  exact t
set_option maxRecDepth 20000 in
theorem t_291_36 {d : Nat} {h : ab_H} {Q : Option Value → ab_H → Prop} {x0 : Nat} {x1 : Int32} {x2 : Int32} (t : ab_ok h x0 112 = true ∧ ∃ j1 : Nat, ab_r h x0 0 = some j1 ∧ ((j1 = 0 ∨ ab_ok h j1 0 = true) ∧ ab_in (4 : Int32) (ab_s h j1).2 = true) ∧ if (ab_i h j1 (Int32.toNatClampNeg (4 : Int32))) ≤ x2 then (wq (d + 1) 291 115 [.ref x0, .int x1, .int 0] [] h Q) else (ab_ok h x0 112 = true ∧ ∃ j2 : Nat, ab_r h x0 0 = some j2 ∧ (ab_ok h j2 0 = true ∧ ab_in ((3652 + (12 * x2)) + 8) (ab_s h j2).2 = true) ∧ ∀ h3 : ab_H, h3 = ab_pi h j2 (Int32.toNatClampNeg ((3652 + (12 * x2)) + 8)) 0 → ab_ok h3 x0 112 = true ∧ ∃ j4 : Nat, ab_r h3 x0 33 = some j4 ∧ (ab_ok h3 j4 0 = true ∧ ab_in x2 (ab_s h3 j4).2 = true) ∧ ∀ h5 : ab_H, h5 = ab_pi h3 j4 (Int32.toNatClampNeg x2) 0 → ab_ok h5 x0 112 = true ∧ ∃ j6 : Nat, ab_r h5 x0 32 = some j6 ∧ ab_ok h5 x0 112 = true ∧ wm d 199 [.ref x0, .int x2, .int 4] h5 (fun r9 h9 => wq (d + 1) 291 81 [.ref x0, .int x1, .int x2] (r9.toList ++ [.int x2, .ref j6]) h9 Q))) : wq (d + 1) 291 36 [.ref x0, .int x1, .int x2] [] h Q := by
  refine g3 c_291_36 rfl ?_
  refine g5 c_291_37 rfl ?_
  obtain ⟨ho, j1, hr, t⟩ := t
  refine g45 c_291_38 ho hr ?_
  refine g1 c_291_41 k_4 ?_
  obtain ⟨ho, t⟩ := t
  refine g50 c_291_42 ho ?_
  refine gcm c_291_43 (gbr t rfl rfl (fun hc t => ?_) (fun hc t => ?_))
  · refine g1 c_291_113 k_0 ?_
    refine g6 (L' := [.ref x0, .int x1, .int 0]) c_291_114 rfl ?_
    exact t
  · refine g5 c_291_46 rfl ?_
    obtain ⟨ho, j2, hr, t⟩ := t
    refine g45 c_291_47 ho hr ?_
    refine g1 c_291_50 k_3652 ?_
    refine g1 c_291_53 k_12 ?_
    refine g3 c_291_55 rfl ?_
    refine g12 c_291_56 ?_
    refine g10 c_291_57 ?_
    refine g1 c_291_58 k_8 ?_
    refine g10 c_291_60 ?_
    refine g1 c_291_61 k_0 ?_
    obtain ⟨ho, t⟩ := t
    refine g54 c_291_62 ho (fun h3 eh3 => ?_)
    have t := t h3 eh3
    refine g5 c_291_63 rfl ?_
    obtain ⟨ho, j4, hr, t⟩ := t
    refine g45 c_291_64 ho hr ?_
    refine g3 c_291_67 rfl ?_
    refine g1 c_291_68 k_0 ?_
    obtain ⟨ho, t⟩ := t
    refine g54 c_291_69 ho (fun h5 eh5 => ?_)
    have t := t h5 eh5
    refine g5 c_291_70 rfl ?_
    obtain ⟨ho, j6, hr, t⟩ := t
    refine g45 c_291_71 ho hr ?_
    refine g3 c_291_74 rfl ?_
    refine g5 c_291_75 rfl ?_
    refine g3 c_291_76 rfl ?_
    refine g1 c_291_77 k_4 ?_
    exact g80 (As := [.int x2, .int 4]) (rest := [.int x2, .ref j6]) c_291_78 rfl rfl (Nat.le_of_ble_eq_true rfl) (Nat.le_of_ble_eq_true rfl) t.1 t.2
set_option maxRecDepth 20000 in
theorem t_291_81 {d : Nat} {h : ab_H} {Q : Option Value → ab_H → Prop} {x0 : Nat} {x1 : Int32} {x2 : Int32} {s0 : Nat} {s1 : Int32} {s2 : Int32} (t : if 0 ≤ s2 then (ab_ok h x0 112 = true ∧ wm d 199 [.ref x0, .int x2, .int 1] h (fun r9 h9 => wq (d + 1) 291 95 [.ref x0, .int x1, .int x2] (r9.toList ++ [.ref x0, .int s1, .ref s0]) h9 Q)) else ((ab_ok h s0 0 = true ∧ ab_in s1 (ab_s h s0).2 = true) ∧ ∀ h1 : ab_H, h1 = ab_pi h s0 (Int32.toNatClampNeg s1) 0 → wq (d + 1) 291 36 [.ref x0, .int x1, .int (x2 + 1)] [] h1 Q)) : wq (d + 1) 291 81 [.ref x0, .int x1, .int x2] [.int s2, .int s1, .ref s0] h Q := by
  refine gif c_291_81 (gbr t rfl rfl (fun hc t => ?_) (fun hc t => ?_))
  · refine g5 c_291_88 rfl ?_
    refine g5 c_291_89 rfl ?_
    refine g3 c_291_90 rfl ?_
    refine g1 c_291_91 k_1 ?_
    exact g80 (As := [.int x2, .int 1]) (rest := [.ref x0, .int s1, .ref s0]) c_291_92 rfl rfl (Nat.le_of_ble_eq_true rfl) (Nat.le_of_ble_eq_true rfl) t.1 t.2
  · refine g1 c_291_84 k_0 ?_
    refine g38 c_291_85 rfl ?_
    obtain ⟨ho, t⟩ := t
    refine g54 c_291_106 ho (fun h1 eh1 => ?_)
    have t := t h1 eh1
    refine g9 (L' := [.ref x0, .int x1, .int (x2 + 1)]) c_291_107 rfl k_1 rfl ?_
    refine g38 c_291_110 rfl ?_
    exact t
set_option maxRecDepth 20000 in
theorem t_291_95 {d : Nat} {h : ab_H} {Q : Option Value → ab_H → Prop} {x0 : Nat} {x1 : Int32} {x2 : Int32} {s0 : Nat} {s1 : Int32} {s2 : Nat} {s3 : Int32} (t : ab_ok h x0 112 = true ∧ wm d 199 [.ref x0, .int x2, .int 4] h (fun r9 h9 => wq (d + 1) 291 101 [.ref x0, .int x1, .int x2] (r9.toList ++ [.int s3, .ref s2, .int s1, .ref s0]) h9 Q)) : wq (d + 1) 291 95 [.ref x0, .int x1, .int x2] [.int s3, .ref s2, .int s1, .ref s0] h Q := by
  refine g5 c_291_95 rfl ?_
  refine g3 c_291_96 rfl ?_
  refine g1 c_291_97 k_4 ?_
  exact g80 (As := [.int x2, .int 4]) (rest := [.int s3, .ref s2, .int s1, .ref s0]) c_291_98 rfl rfl (Nat.le_of_ble_eq_true rfl) (Nat.le_of_ble_eq_true rfl) t.1 t.2
set_option maxRecDepth 20000 in
theorem t_291_101 {d : Nat} {h : ab_H} {Q : Option Value → ab_H → Prop} {x0 : Nat} {x1 : Int32} {x2 : Int32} {s0 : Nat} {s1 : Int32} {s2 : Nat} {s3 : Int32} {s4 : Int32} (t : ab_ok h s2 112 = true ∧ wm d 276 [.ref s2, .int s3, .int s4, .int x1, .int x1] h (fun r9 h9 => wq (d + 1) 291 106 [.ref x0, .int x1, .int x2] (r9.toList ++ [.int s1, .ref s0]) h9 Q)) : wq (d + 1) 291 101 [.ref x0, .int x1, .int x2] [.int s4, .int s3, .ref s2, .int s1, .ref s0] h Q := by
  refine g3 c_291_101 rfl ?_
  refine g3 c_291_102 rfl ?_
  exact g80 (As := [.int s3, .int s4, .int x1, .int x1]) (rest := [.int s1, .ref s0]) c_291_103 rfl rfl (Nat.le_of_ble_eq_true rfl) (Nat.le_of_ble_eq_true rfl) t.1 t.2
set_option maxRecDepth 20000 in
theorem t_291_106 {d : Nat} {h : ab_H} {Q : Option Value → ab_H → Prop} {x0 : Nat} {x1 : Int32} {x2 : Int32} {s0 : Nat} {s1 : Int32} {s2 : Int32} (t : (ab_ok h s0 0 = true ∧ ab_in s1 (ab_s h s0).2 = true) ∧ ∀ h1 : ab_H, h1 = ab_pi h s0 (Int32.toNatClampNeg s1) s2 → wq d 291 36 [.ref x0, .int x1, .int (x2 + 1)] [] h1 Q) : wq d 291 106 [.ref x0, .int x1, .int x2] [.int s2, .int s1, .ref s0] h Q := by
  obtain ⟨ho, t⟩ := t
  refine g54 c_291_106 ho (fun h1 eh1 => ?_)
  have t := t h1 eh1
  refine g9 (L' := [.ref x0, .int x1, .int (x2 + 1)]) c_291_107 rfl k_1 rfl ?_
  refine g38 c_291_110 rfl ?_
  exact t
set_option maxRecDepth 20000 in
theorem t_291_115 {d : Nat} {h : ab_H} {Q : Option Value → ab_H → Prop} {x0 : Nat} {x1 : Int32} {x2 : Int32} (t : ab_ok h x0 112 = true ∧ ∃ j1 : Nat, ab_r h x0 0 = some j1 ∧ ((j1 = 0 ∨ ab_ok h j1 0 = true) ∧ ab_in (7 : Int32) (ab_s h j1).2 = true) ∧ if (ab_i h j1 (Int32.toNatClampNeg (7 : Int32))) ≤ x2 then (wq d 291 150 [.ref x0, .int x1, .int 0] [] h Q) else (ab_ok h x0 112 = true ∧ ∃ j2 : Nat, ab_r h x0 0 = some j2 ∧ (ab_ok h j2 0 = true ∧ ab_in ((4372 + (8 * x2)) + 5) (ab_s h j2).2 = true) ∧ ∀ h3 : ab_H, h3 = ab_pi h j2 (Int32.toNatClampNeg ((4372 + (8 * x2)) + 5)) 0 → wq d 291 115 [.ref x0, .int x1, .int (x2 + 1)] [] h3 Q)) : wq d 291 115 [.ref x0, .int x1, .int x2] [] h Q := by
  refine g3 c_291_115 rfl ?_
  refine g5 c_291_116 rfl ?_
  obtain ⟨ho, j1, hr, t⟩ := t
  refine g45 c_291_117 ho hr ?_
  refine g1 c_291_120 k_7 ?_
  obtain ⟨ho, t⟩ := t
  refine g50 c_291_122 ho ?_
  refine gcm c_291_123 (gbr t rfl rfl (fun hc t => ?_) (fun hc t => ?_))
  · refine g1 c_291_148 k_0 ?_
    refine g6 (L' := [.ref x0, .int x1, .int 0]) c_291_149 rfl ?_
    exact t
  · refine g5 c_291_126 rfl ?_
    obtain ⟨ho, j2, hr, t⟩ := t
    refine g45 c_291_127 ho hr ?_
    refine g1 c_291_130 k_4372 ?_
    refine g1 c_291_133 k_8 ?_
    refine g3 c_291_135 rfl ?_
    refine g12 c_291_136 ?_
    refine g10 c_291_137 ?_
    refine g1 c_291_138 k_5 ?_
    refine g10 c_291_139 ?_
    refine g1 c_291_140 k_0 ?_
    obtain ⟨ho, t⟩ := t
    refine g54 c_291_141 ho (fun h3 eh3 => ?_)
    have t := t h3 eh3
    refine g9 (L' := [.ref x0, .int x1, .int (x2 + 1)]) c_291_142 rfl k_1 rfl ?_
    refine g38 c_291_145 rfl ?_
    exact t
set_option maxRecDepth 20000 in
theorem t_291_150 {d : Nat} {h : ab_H} {Q : Option Value → ab_H → Prop} {x0 : Nat} {x1 : Int32} {x2 : Int32} (t : ab_ok h x0 112 = true ∧ ∃ j1 : Nat, ab_r h x0 0 = some j1 ∧ ((j1 = 0 ∨ ab_ok h j1 0 = true) ∧ ab_in (1 : Int32) (ab_s h j1).2 = true) ∧ if (ab_i h j1 (Int32.toNatClampNeg (1 : Int32))) ≤ x2 then (Q none h) else (ab_ok h x0 112 = true ∧ ∃ j2 : Nat, ab_r h x0 0 = some j2 ∧ (ab_ok h j2 0 = true ∧ ab_in ((3300 + (16 * x2)) + 8) (ab_s h j2).2 = true) ∧ ∀ h3 : ab_H, h3 = ab_pi h j2 (Int32.toNatClampNeg ((3300 + (16 * x2)) + 8)) 0 → ab_ok h3 x0 112 = true ∧ ∃ j4 : Nat, ab_r h3 x0 0 = some j4 ∧ (ab_ok h3 j4 0 = true ∧ ab_in ((3300 + (16 * x2)) + 9) (ab_s h3 j4).2 = true) ∧ ∀ h5 : ab_H, h5 = ab_pi h3 j4 (Int32.toNatClampNeg ((3300 + (16 * x2)) + 9)) (-1) → ab_ok h5 x0 112 = true ∧ ∃ j6 : Nat, ab_r h5 x0 0 = some j6 ∧ (ab_ok h5 j6 0 = true ∧ ab_in ((3300 + (16 * x2)) + 10) (ab_s h5 j6).2 = true) ∧ ∀ h7 : ab_H, h7 = ab_pi h5 j6 (Int32.toNatClampNeg ((3300 + (16 * x2)) + 10)) 0 → wq d 291 150 [.ref x0, .int x1, .int (x2 + 1)] [] h7 Q)) : wq d 291 150 [.ref x0, .int x1, .int x2] [] h Q := by
  refine g3 c_291_150 rfl ?_
  refine g5 c_291_151 rfl ?_
  obtain ⟨ho, j1, hr, t⟩ := t
  refine g45 c_291_152 ho hr ?_
  refine g1 c_291_155 k_1 ?_
  obtain ⟨ho, t⟩ := t
  refine g50 c_291_156 ho ?_
  refine gcm c_291_157 (gbr t rfl rfl (fun hc t => ?_) (fun hc t => ?_))
  · exact g94 c_291_217 t
  · refine g5 c_291_160 rfl ?_
    obtain ⟨ho, j2, hr, t⟩ := t
    refine g45 c_291_161 ho hr ?_
    refine g1 c_291_164 k_3300 ?_
    refine g1 c_291_167 k_16 ?_
    refine g3 c_291_169 rfl ?_
    refine g12 c_291_170 ?_
    refine g10 c_291_171 ?_
    refine g1 c_291_172 k_8 ?_
    refine g10 c_291_174 ?_
    refine g1 c_291_175 k_0 ?_
    obtain ⟨ho, t⟩ := t
    refine g54 c_291_176 ho (fun h3 eh3 => ?_)
    have t := t h3 eh3
    refine g5 c_291_177 rfl ?_
    obtain ⟨ho, j4, hr, t⟩ := t
    refine g45 c_291_178 ho hr ?_
    refine g1 c_291_181 k_3300 ?_
    refine g1 c_291_184 k_16 ?_
    refine g3 c_291_186 rfl ?_
    refine g12 c_291_187 ?_
    refine g10 c_291_188 ?_
    refine g1 c_291_189 k_9 ?_
    refine g10 c_291_191 ?_
    refine g1 c_291_192 k_m1 ?_
    obtain ⟨ho, t⟩ := t
    refine g54 c_291_193 ho (fun h5 eh5 => ?_)
    have t := t h5 eh5
    refine g5 c_291_194 rfl ?_
    obtain ⟨ho, j6, hr, t⟩ := t
    refine g45 c_291_195 ho hr ?_
    refine g1 c_291_198 k_3300 ?_
    refine g1 c_291_201 k_16 ?_
    refine g3 c_291_203 rfl ?_
    refine g12 c_291_204 ?_
    refine g10 c_291_205 ?_
    refine g1 c_291_206 k_10 ?_
    refine g10 c_291_208 ?_
    refine g1 c_291_209 k_0 ?_
    obtain ⟨ho, t⟩ := t
    refine g54 c_291_210 ho (fun h7 eh7 => ?_)
    have t := t h7 eh7
    refine g9 (L' := [.ref x0, .int x1, .int (x2 + 1)]) c_291_211 rfl k_1 rfl ?_
    refine g38 c_291_214 rfl ?_
    exact t
-- method 292: MillTownModel.isStarved(II)Z
theorem c_292_0 : pg_cd 292 0 = (3, 1, 0, 2, 0) := by decide +kernel
theorem c_292_1 : pg_cd 292 1 = (1, 1, 0, 0, 3) := by decide +kernel
theorem c_292_2 : pg_cd 292 2 = (11, 1, 0, 0, 0) := by decide +kernel
theorem c_292_3 : pg_cd 292 3 = (6, 1, 0, 3, 0) := by decide +kernel
theorem c_292_4 : pg_cd 292 4 = (3, 1, 0, 3, 0) := by decide +kernel
theorem c_292_5 : pg_cd 292 5 = (3, 1, 0, 2, 0) := by decide +kernel
theorem c_292_6 : pg_cd 292 6 = (37, 3, 0, 4, 33) := by decide +kernel
theorem c_292_9 : pg_cd 292 9 = (3, 1, 0, 3, 0) := by decide +kernel
theorem c_292_10 : pg_cd 292 10 = (36, 3, 0, 2, 21) := by decide +kernel
theorem c_292_13 : pg_cd 292 13 = (5, 1, 0, 0, 0) := by decide +kernel
theorem c_292_14 : pg_cd 292 14 = (45, 12, 8, 0, 0) := by decide +kernel
theorem c_292_17 : pg_cd 292 17 = (1, 3, 0, 0, 31900) := by decide +kernel
theorem c_292_20 : pg_cd 292 20 = (1, 2, 0, 0, 24) := by decide +kernel
theorem c_292_22 : pg_cd 292 22 = (3, 1, 0, 3, 0) := by decide +kernel
theorem c_292_23 : pg_cd 292 23 = (12, 1, 0, 0, 0) := by decide +kernel
theorem c_292_24 : pg_cd 292 24 = (10, 1, 0, 0, 0) := by decide +kernel
theorem c_292_25 : pg_cd 292 25 = (3, 1, 0, 1, 0) := by decide +kernel
theorem c_292_26 : pg_cd 292 26 = (10, 1, 0, 0, 0) := by decide +kernel
theorem c_292_27 : pg_cd 292 27 = (50, 1, 0, 0, 0) := by decide +kernel
theorem c_292_28 : pg_cd 292 28 = (36, 3, 0, 1, 5) := by decide +kernel
theorem c_292_31 : pg_cd 292 31 = (1, 1, 0, 0, 0) := by decide +kernel
theorem c_292_32 : pg_cd 292 32 = (91, 0, 0, 0, 0) := by decide +kernel
theorem c_292_33 : pg_cd 292 33 = (9, 3, 0, 3, 1) := by decide +kernel
theorem c_292_36 : pg_cd 292 36 = (38, 3, 0, 0, (-32)) := by decide +kernel
theorem c_292_39 : pg_cd 292 39 = (1, 1, 0, 0, 1) := by decide +kernel
theorem c_292_40 : pg_cd 292 40 = (91, 0, 0, 0, 0) := by decide +kernel
theorem mx_292 : pg_mx 292 = 4 := by decide +kernel
theorem m_292 {d : Nat} {h : ab_H} {Q : Option Value → ab_H → Prop} {x0 : Nat} {x1 : Int32} {x2 : Int32} (t : wq d 292 0 [.ref x0, .int x1, .int x2, .retAddr 0] [] h Q) : wm d 292 [.ref x0, .int x1, .int x2] h Q := by
  unfold wm
  rw [mx_292]
  exact t
set_option maxRecDepth 20000 in
theorem t_292_0 {d : Nat} {h : ab_H} {Q : Option Value → ab_H → Prop} {x0 : Nat} {x1 : Int32} {x2 : Int32} (t : wq d 292 4 [.ref x0, .int x1, .int x2, .int (x2 - 3)] [] h Q) : wq d 292 0 [.ref x0, .int x1, .int x2, .retAddr 0] [] h Q := by
  refine g3 c_292_0 rfl ?_
  refine g1 c_292_1 k_3 ?_
  refine g11 c_292_2 ?_
  refine g6 (L' := [.ref x0, .int x1, .int x2, .int (x2 - 3)]) c_292_3 rfl ?_
  exact t
set_option maxRecDepth 20000 in
theorem t_292_4 {d : Nat} {h : ab_H} {Q : Option Value → ab_H → Prop} {x0 : Nat} {x1 : Int32} {x2 : Int32} {x3 : Int32} (t : if x2 < x3 then (Q (some (.int 1)) h) else (if x3 < 0 then (Q (some (.int 0)) h) else (ab_ok h x0 112 = true ∧ ∃ j1 : Nat, ab_r h x0 0 = some j1 ∧ ((j1 = 0 ∨ ab_ok h j1 0 = true) ∧ ab_in ((31900 + (24 * x3)) + x1) (ab_s h j1).2 = true) ∧ if (ab_i h j1 (Int32.toNatClampNeg ((31900 + (24 * x3)) + x1))) = 0 then (Q (some (.int 0)) h) else (wq d 292 4 [.ref x0, .int x1, .int x2, .int (x3 + 1)] [] h Q)))) : wq d 292 4 [.ref x0, .int x1, .int x2, .int x3] [] h Q := by
  refine g3 c_292_4 rfl ?_
  refine g3 c_292_5 rfl ?_
  refine gcm c_292_6 (gbr t rfl rfl (fun hc t => ?_) (fun hc t => ?_))
  · refine g1 c_292_39 k_1 ?_
    exact g91 c_292_40 ⟨by decide, t⟩
  · refine g3 c_292_9 rfl ?_
    refine gif c_292_10 (gbr t rfl rfl (fun hc t => ?_) (fun hc t => ?_))
    · refine g1 c_292_31 k_0 ?_
      exact g91 c_292_32 ⟨by decide, t⟩
    · refine g5 c_292_13 rfl ?_
      obtain ⟨ho, j1, hr, t⟩ := t
      refine g45 c_292_14 ho hr ?_
      refine g1 c_292_17 k_31900 ?_
      refine g1 c_292_20 k_24 ?_
      refine g3 c_292_22 rfl ?_
      refine g12 c_292_23 ?_
      refine g10 c_292_24 ?_
      refine g3 c_292_25 rfl ?_
      refine g10 c_292_26 ?_
      obtain ⟨ho, t⟩ := t
      refine g50 c_292_27 ho ?_
      refine gif c_292_28 (gbn t (ab_c1 _ _) rfl (fun hc t => ?_) (fun hc t => ?_))
      · refine g1 c_292_31 k_0 ?_
        exact g91 c_292_32 ⟨by decide, t⟩
      · refine g9 (L' := [.ref x0, .int x1, .int x2, .int (x3 + 1)]) c_292_33 rfl k_1 rfl ?_
        refine g38 c_292_36 rfl ?_
        exact t
-- method 293: MillTownModel.week()V
theorem c_293_0 : pg_cd 293 0 = (5, 1, 0, 0, 0) := by decide +kernel
theorem c_293_1 : pg_cd 293 1 = (45, 12, 8, 0, 0) := by decide +kernel
theorem c_293_4 : pg_cd 293 4 = (1, 1, 0, 0, 0) := by decide +kernel
theorem c_293_5 : pg_cd 293 5 = (50, 1, 0, 0, 0) := by decide +kernel
theorem c_293_6 : pg_cd 293 6 = (6, 1, 0, 1, 0) := by decide +kernel
theorem c_293_7 : pg_cd 293 7 = (5, 1, 0, 0, 0) := by decide +kernel
theorem c_293_8 : pg_cd 293 8 = (3, 1, 0, 1, 0) := by decide +kernel
theorem c_293_9 : pg_cd 293 9 = (80, 291, 384, 0, 0) := by decide +kernel
theorem c_293_12 : pg_cd 293 12 = (1, 1, 0, 0, 0) := by decide +kernel
theorem c_293_13 : pg_cd 293 13 = (6, 1, 0, 2, 0) := by decide +kernel
theorem c_293_14 : pg_cd 293 14 = (3, 1, 0, 2, 0) := by decide +kernel
theorem c_293_15 : pg_cd 293 15 = (5, 1, 0, 0, 0) := by decide +kernel
theorem c_293_16 : pg_cd 293 16 = (45, 12, 8, 0, 0) := by decide +kernel
theorem c_293_19 : pg_cd 293 19 = (1, 1, 0, 0, 1) := by decide +kernel
theorem c_293_20 : pg_cd 293 20 = (50, 1, 0, 0, 0) := by decide +kernel
theorem c_293_21 : pg_cd 293 21 = (37, 3, 0, 3, 34) := by decide +kernel
theorem c_293_24 : pg_cd 293 24 = (5, 1, 0, 0, 0) := by decide +kernel
theorem c_293_25 : pg_cd 293 25 = (3, 1, 0, 2, 0) := by decide +kernel
theorem c_293_26 : pg_cd 293 26 = (1, 1, 0, 0, 5) := by decide +kernel
theorem c_293_27 : pg_cd 293 27 = (80, 198, 118, 0, 0) := by decide +kernel
theorem c_293_30 : pg_cd 293 30 = (36, 3, 0, 1, 19) := by decide +kernel
theorem c_293_33 : pg_cd 293 33 = (5, 1, 0, 0, 0) := by decide +kernel
theorem c_293_34 : pg_cd 293 34 = (3, 1, 0, 2, 0) := by decide +kernel
theorem c_293_35 : pg_cd 293 35 = (1, 2, 0, 0, 6) := by decide +kernel
theorem c_293_37 : pg_cd 293 37 = (80, 198, 118, 0, 0) := by decide +kernel
theorem c_293_40 : pg_cd 293 40 = (36, 3, 0, 1, 9) := by decide +kernel
theorem c_293_43 : pg_cd 293 43 = (5, 1, 0, 0, 0) := by decide +kernel
theorem c_293_44 : pg_cd 293 44 = (3, 1, 0, 2, 0) := by decide +kernel
theorem c_293_45 : pg_cd 293 45 = (3, 1, 0, 1, 0) := by decide +kernel
theorem c_293_46 : pg_cd 293 46 = (80, 282, 387, 0, 0) := by decide +kernel
theorem c_293_49 : pg_cd 293 49 = (9, 3, 0, 2, 1) := by decide +kernel
theorem c_293_52 : pg_cd 293 52 = (38, 3, 0, 0, (-38)) := by decide +kernel
theorem c_293_55 : pg_cd 293 55 = (1, 1, 0, 0, 0) := by decide +kernel
theorem c_293_56 : pg_cd 293 56 = (6, 1, 0, 2, 0) := by decide +kernel
theorem c_293_57 : pg_cd 293 57 = (3, 1, 0, 2, 0) := by decide +kernel
theorem c_293_58 : pg_cd 293 58 = (5, 1, 0, 0, 0) := by decide +kernel
theorem c_293_59 : pg_cd 293 59 = (45, 12, 8, 0, 0) := by decide +kernel
theorem c_293_62 : pg_cd 293 62 = (1, 1, 0, 0, 1) := by decide +kernel
theorem c_293_63 : pg_cd 293 63 = (50, 1, 0, 0, 0) := by decide +kernel
theorem c_293_64 : pg_cd 293 64 = (37, 3, 0, 3, 24) := by decide +kernel
theorem c_293_67 : pg_cd 293 67 = (5, 1, 0, 0, 0) := by decide +kernel
theorem c_293_68 : pg_cd 293 68 = (3, 1, 0, 2, 0) := by decide +kernel
theorem c_293_69 : pg_cd 293 69 = (1, 2, 0, 0, 8) := by decide +kernel
theorem c_293_71 : pg_cd 293 71 = (80, 198, 118, 0, 0) := by decide +kernel
theorem c_293_74 : pg_cd 293 74 = (36, 3, 0, 5, 8) := by decide +kernel
theorem c_293_77 : pg_cd 293 77 = (5, 1, 0, 0, 0) := by decide +kernel
theorem c_293_78 : pg_cd 293 78 = (3, 1, 0, 2, 0) := by decide +kernel
theorem c_293_79 : pg_cd 293 79 = (80, 284, 390, 0, 0) := by decide +kernel
theorem c_293_82 : pg_cd 293 82 = (9, 3, 0, 2, 1) := by decide +kernel
theorem c_293_85 : pg_cd 293 85 = (38, 3, 0, 0, (-28)) := by decide +kernel
theorem c_293_88 : pg_cd 293 88 = (5, 1, 0, 0, 0) := by decide +kernel
theorem c_293_89 : pg_cd 293 89 = (3, 1, 0, 1, 0) := by decide +kernel
theorem c_293_90 : pg_cd 293 90 = (80, 286, 393, 0, 0) := by decide +kernel
theorem c_293_93 : pg_cd 293 93 = (5, 1, 0, 0, 0) := by decide +kernel
theorem c_293_94 : pg_cd 293 94 = (80, 287, 396, 0, 0) := by decide +kernel
theorem c_293_97 : pg_cd 293 97 = (1, 1, 0, 0, 0) := by decide +kernel
theorem c_293_98 : pg_cd 293 98 = (6, 1, 0, 2, 0) := by decide +kernel
theorem c_293_99 : pg_cd 293 99 = (3, 1, 0, 2, 0) := by decide +kernel
theorem c_293_100 : pg_cd 293 100 = (5, 1, 0, 0, 0) := by decide +kernel
theorem c_293_101 : pg_cd 293 101 = (45, 12, 8, 0, 0) := by decide +kernel
theorem c_293_104 : pg_cd 293 104 = (1, 1, 0, 0, 4) := by decide +kernel
theorem c_293_105 : pg_cd 293 105 = (50, 1, 0, 0, 0) := by decide +kernel
theorem c_293_106 : pg_cd 293 106 = (37, 3, 0, 3, 54) := by decide +kernel
theorem c_293_109 : pg_cd 293 109 = (5, 1, 0, 0, 0) := by decide +kernel
theorem c_293_110 : pg_cd 293 110 = (45, 12, 8, 0, 0) := by decide +kernel
theorem c_293_113 : pg_cd 293 113 = (1, 3, 399, 0, 60700) := by decide +kernel
theorem c_293_116 : pg_cd 293 116 = (1, 2, 0, 0, 60) := by decide +kernel
theorem c_293_118 : pg_cd 293 118 = (3, 1, 0, 1, 0) := by decide +kernel
theorem c_293_119 : pg_cd 293 119 = (12, 1, 0, 0, 0) := by decide +kernel
theorem c_293_120 : pg_cd 293 120 = (10, 1, 0, 0, 0) := by decide +kernel
theorem c_293_121 : pg_cd 293 121 = (3, 1, 0, 2, 0) := by decide +kernel
theorem c_293_122 : pg_cd 293 122 = (10, 1, 0, 0, 0) := by decide +kernel
theorem c_293_123 : pg_cd 293 123 = (5, 1, 0, 0, 0) := by decide +kernel
theorem c_293_124 : pg_cd 293 124 = (3, 1, 0, 2, 0) := by decide +kernel
theorem c_293_125 : pg_cd 293 125 = (1, 2, 0, 0, 8) := by decide +kernel
theorem c_293_127 : pg_cd 293 127 = (80, 199, 102, 0, 0) := by decide +kernel
theorem c_293_130 : pg_cd 293 130 = (54, 1, 0, 0, 0) := by decide +kernel
theorem c_293_131 : pg_cd 293 131 = (5, 1, 0, 0, 0) := by decide +kernel
theorem c_293_132 : pg_cd 293 132 = (45, 12, 8, 0, 0) := by decide +kernel
theorem c_293_135 : pg_cd 293 135 = (1, 3, 400, 0, 84700) := by decide +kernel
theorem c_293_138 : pg_cd 293 138 = (1, 2, 0, 0, 60) := by decide +kernel
theorem c_293_140 : pg_cd 293 140 = (3, 1, 0, 1, 0) := by decide +kernel
theorem c_293_141 : pg_cd 293 141 = (12, 1, 0, 0, 0) := by decide +kernel
theorem c_293_142 : pg_cd 293 142 = (10, 1, 0, 0, 0) := by decide +kernel
theorem c_293_143 : pg_cd 293 143 = (3, 1, 0, 2, 0) := by decide +kernel
theorem c_293_144 : pg_cd 293 144 = (10, 1, 0, 0, 0) := by decide +kernel
theorem c_293_145 : pg_cd 293 145 = (5, 1, 0, 0, 0) := by decide +kernel
theorem c_293_146 : pg_cd 293 146 = (3, 1, 0, 2, 0) := by decide +kernel
theorem c_293_147 : pg_cd 293 147 = (1, 1, 0, 0, 4) := by decide +kernel
theorem c_293_148 : pg_cd 293 148 = (80, 199, 102, 0, 0) := by decide +kernel
theorem c_293_151 : pg_cd 293 151 = (1, 1, 0, 0, 1) := by decide +kernel
theorem c_293_152 : pg_cd 293 152 = (10, 1, 0, 0, 0) := by decide +kernel
theorem c_293_153 : pg_cd 293 153 = (54, 1, 0, 0, 0) := by decide +kernel
theorem c_293_154 : pg_cd 293 154 = (9, 3, 0, 2, 1) := by decide +kernel
theorem c_293_157 : pg_cd 293 157 = (38, 3, 0, 0, (-58)) := by decide +kernel
theorem c_293_160 : pg_cd 293 160 = (1, 1, 0, 0, 0) := by decide +kernel
theorem c_293_161 : pg_cd 293 161 = (6, 1, 0, 2, 0) := by decide +kernel
theorem c_293_162 : pg_cd 293 162 = (3, 1, 0, 2, 0) := by decide +kernel
theorem c_293_163 : pg_cd 293 163 = (5, 1, 0, 0, 0) := by decide +kernel
theorem c_293_164 : pg_cd 293 164 = (45, 12, 8, 0, 0) := by decide +kernel
theorem c_293_167 : pg_cd 293 167 = (1, 1, 0, 0, 1) := by decide +kernel
theorem c_293_168 : pg_cd 293 168 = (50, 1, 0, 0, 0) := by decide +kernel
theorem c_293_169 : pg_cd 293 169 = (37, 3, 0, 3, 33) := by decide +kernel
theorem c_293_172 : pg_cd 293 172 = (5, 1, 0, 0, 0) := by decide +kernel
theorem c_293_173 : pg_cd 293 173 = (45, 12, 8, 0, 0) := by decide +kernel
theorem c_293_176 : pg_cd 293 176 = (1, 3, 401, 0, 108700) := by decide +kernel
theorem c_293_179 : pg_cd 293 179 = (1, 2, 0, 0, 8) := by decide +kernel
theorem c_293_181 : pg_cd 293 181 = (3, 1, 0, 1, 0) := by decide +kernel
theorem c_293_182 : pg_cd 293 182 = (12, 1, 0, 0, 0) := by decide +kernel
theorem c_293_183 : pg_cd 293 183 = (10, 1, 0, 0, 0) := by decide +kernel
theorem c_293_184 : pg_cd 293 184 = (3, 1, 0, 2, 0) := by decide +kernel
theorem c_293_185 : pg_cd 293 185 = (10, 1, 0, 0, 0) := by decide +kernel
theorem c_293_186 : pg_cd 293 186 = (5, 1, 0, 0, 0) := by decide +kernel
theorem c_293_187 : pg_cd 293 187 = (3, 1, 0, 2, 0) := by decide +kernel
theorem c_293_188 : pg_cd 293 188 = (1, 2, 0, 0, 9) := by decide +kernel
theorem c_293_190 : pg_cd 293 190 = (80, 198, 118, 0, 0) := by decide +kernel
theorem c_293_193 : pg_cd 293 193 = (1, 1, 0, 0, 1) := by decide +kernel
theorem c_293_194 : pg_cd 293 194 = (10, 1, 0, 0, 0) := by decide +kernel
theorem c_293_195 : pg_cd 293 195 = (54, 1, 0, 0, 0) := by decide +kernel
theorem c_293_196 : pg_cd 293 196 = (9, 3, 0, 2, 1) := by decide +kernel
theorem c_293_199 : pg_cd 293 199 = (38, 3, 0, 0, (-37)) := by decide +kernel
theorem c_293_202 : pg_cd 293 202 = (1, 1, 0, 0, 0) := by decide +kernel
theorem c_293_203 : pg_cd 293 203 = (6, 1, 0, 2, 0) := by decide +kernel
theorem c_293_204 : pg_cd 293 204 = (3, 1, 0, 2, 0) := by decide +kernel
theorem c_293_205 : pg_cd 293 205 = (5, 1, 0, 0, 0) := by decide +kernel
theorem c_293_206 : pg_cd 293 206 = (45, 12, 8, 0, 0) := by decide +kernel
theorem c_293_209 : pg_cd 293 209 = (1, 1, 0, 0, 3) := by decide +kernel
theorem c_293_210 : pg_cd 293 210 = (50, 1, 0, 0, 0) := by decide +kernel
theorem c_293_211 : pg_cd 293 211 = (37, 3, 0, 3, 24) := by decide +kernel
theorem c_293_214 : pg_cd 293 214 = (5, 1, 0, 0, 0) := by decide +kernel
theorem c_293_215 : pg_cd 293 215 = (3, 1, 0, 2, 0) := by decide +kernel
theorem c_293_216 : pg_cd 293 216 = (1, 1, 0, 0, 3) := by decide +kernel
theorem c_293_217 : pg_cd 293 217 = (80, 200, 99, 0, 0) := by decide +kernel
theorem c_293_220 : pg_cd 293 220 = (36, 3, 0, 1, 9) := by decide +kernel
theorem c_293_223 : pg_cd 293 223 = (5, 1, 0, 0, 0) := by decide +kernel
theorem c_293_224 : pg_cd 293 224 = (3, 1, 0, 2, 0) := by decide +kernel
theorem c_293_225 : pg_cd 293 225 = (3, 1, 0, 1, 0) := by decide +kernel
theorem c_293_226 : pg_cd 293 226 = (80, 290, 402, 0, 0) := by decide +kernel
theorem c_293_229 : pg_cd 293 229 = (9, 3, 0, 2, 1) := by decide +kernel
theorem c_293_232 : pg_cd 293 232 = (38, 3, 0, 0, (-28)) := by decide +kernel
theorem c_293_235 : pg_cd 293 235 = (1, 1, 0, 0, 0) := by decide +kernel
theorem c_293_236 : pg_cd 293 236 = (6, 1, 0, 2, 0) := by decide +kernel
theorem c_293_237 : pg_cd 293 237 = (3, 1, 0, 2, 0) := by decide +kernel
theorem c_293_238 : pg_cd 293 238 = (5, 1, 0, 0, 0) := by decide +kernel
theorem c_293_239 : pg_cd 293 239 = (45, 12, 8, 0, 0) := by decide +kernel
theorem c_293_242 : pg_cd 293 242 = (1, 1, 0, 0, 2) := by decide +kernel
theorem c_293_243 : pg_cd 293 243 = (50, 1, 0, 0, 0) := by decide +kernel
theorem c_293_244 : pg_cd 293 244 = (37, 3, 0, 3, 68) := by decide +kernel
theorem c_293_247 : pg_cd 293 247 = (1, 3, 0, 0, 3428) := by decide +kernel
theorem c_293_250 : pg_cd 293 250 = (1, 2, 0, 0, 8) := by decide +kernel
theorem c_293_252 : pg_cd 293 252 = (3, 1, 0, 2, 0) := by decide +kernel
theorem c_293_253 : pg_cd 293 253 = (12, 1, 0, 0, 0) := by decide +kernel
theorem c_293_254 : pg_cd 293 254 = (10, 1, 0, 0, 0) := by decide +kernel
theorem c_293_255 : pg_cd 293 255 = (6, 1, 0, 3, 0) := by decide +kernel
theorem c_293_256 : pg_cd 293 256 = (5, 1, 0, 0, 0) := by decide +kernel
theorem c_293_257 : pg_cd 293 257 = (45, 12, 8, 0, 0) := by decide +kernel
theorem c_293_260 : pg_cd 293 260 = (3, 1, 0, 3, 0) := by decide +kernel
theorem c_293_261 : pg_cd 293 261 = (1, 1, 0, 0, 3) := by decide +kernel
theorem c_293_262 : pg_cd 293 262 = (10, 1, 0, 0, 0) := by decide +kernel
theorem c_293_263 : pg_cd 293 263 = (50, 1, 0, 0, 0) := by decide +kernel
theorem c_293_264 : pg_cd 293 264 = (1, 1, 0, 0, 1) := by decide +kernel
theorem c_293_265 : pg_cd 293 265 = (37, 3, 0, 1, 6) := by decide +kernel
theorem c_293_268 : pg_cd 293 268 = (38, 3, 0, 0, 38) := by decide +kernel
theorem c_293_271 : pg_cd 293 271 = (5, 1, 0, 0, 0) := by decide +kernel
theorem c_293_272 : pg_cd 293 272 = (45, 12, 8, 0, 0) := by decide +kernel
theorem c_293_275 : pg_cd 293 275 = (3, 1, 0, 3, 0) := by decide +kernel
theorem c_293_276 : pg_cd 293 276 = (34, 1, 0, 0, 0) := by decide +kernel
theorem c_293_277 : pg_cd 293 277 = (50, 1, 0, 0, 0) := by decide +kernel
theorem c_293_278 : pg_cd 293 278 = (5, 1, 0, 0, 0) := by decide +kernel
theorem c_293_279 : pg_cd 293 279 = (45, 12, 8, 0, 0) := by decide +kernel
theorem c_293_282 : pg_cd 293 282 = (3, 1, 0, 3, 0) := by decide +kernel
theorem c_293_283 : pg_cd 293 283 = (1, 1, 0, 0, 2) := by decide +kernel
theorem c_293_284 : pg_cd 293 284 = (10, 1, 0, 0, 0) := by decide +kernel
theorem c_293_285 : pg_cd 293 285 = (50, 1, 0, 0, 0) := by decide +kernel
theorem c_293_286 : pg_cd 293 286 = (11, 1, 0, 0, 0) := by decide +kernel
theorem c_293_287 : pg_cd 293 287 = (54, 1, 0, 0, 0) := by decide +kernel
theorem c_293_288 : pg_cd 293 288 = (5, 1, 0, 0, 0) := by decide +kernel
theorem c_293_289 : pg_cd 293 289 = (45, 12, 8, 0, 0) := by decide +kernel
theorem c_293_292 : pg_cd 293 292 = (3, 1, 0, 3, 0) := by decide +kernel
theorem c_293_293 : pg_cd 293 293 = (50, 1, 0, 0, 0) := by decide +kernel
theorem c_293_294 : pg_cd 293 294 = (36, 3, 0, 3, 12) := by decide +kernel
theorem c_293_297 : pg_cd 293 297 = (5, 1, 0, 0, 0) := by decide +kernel
theorem c_293_298 : pg_cd 293 298 = (45, 12, 8, 0, 0) := by decide +kernel
theorem c_293_301 : pg_cd 293 301 = (3, 1, 0, 3, 0) := by decide +kernel
theorem c_293_302 : pg_cd 293 302 = (1, 1, 0, 0, 3) := by decide +kernel
theorem c_293_303 : pg_cd 293 303 = (10, 1, 0, 0, 0) := by decide +kernel
theorem c_293_304 : pg_cd 293 304 = (1, 1, 0, 0, 1) := by decide +kernel
theorem c_293_305 : pg_cd 293 305 = (54, 1, 0, 0, 0) := by decide +kernel
theorem c_293_306 : pg_cd 293 306 = (9, 3, 0, 2, 1) := by decide +kernel
theorem c_293_309 : pg_cd 293 309 = (38, 3, 0, 0, (-72)) := by decide +kernel
theorem c_293_312 : pg_cd 293 312 = (1, 1, 0, 0, 0) := by decide +kernel
theorem c_293_313 : pg_cd 293 313 = (6, 1, 0, 2, 0) := by decide +kernel
theorem c_293_314 : pg_cd 293 314 = (3, 1, 0, 2, 0) := by decide +kernel
theorem c_293_315 : pg_cd 293 315 = (5, 1, 0, 0, 0) := by decide +kernel
theorem c_293_316 : pg_cd 293 316 = (45, 12, 8, 0, 0) := by decide +kernel
theorem c_293_319 : pg_cd 293 319 = (1, 1, 0, 0, 3) := by decide +kernel
theorem c_293_320 : pg_cd 293 320 = (50, 1, 0, 0, 0) := by decide +kernel
theorem c_293_321 : pg_cd 293 321 = (37, 3, 0, 3, 80) := by decide +kernel
theorem c_293_324 : pg_cd 293 324 = (5, 1, 0, 0, 0) := by decide +kernel
theorem c_293_325 : pg_cd 293 325 = (3, 1, 0, 2, 0) := by decide +kernel
theorem c_293_326 : pg_cd 293 326 = (1, 1, 0, 0, 3) := by decide +kernel
theorem c_293_327 : pg_cd 293 327 = (80, 200, 99, 0, 0) := by decide +kernel
theorem c_293_330 : pg_cd 293 330 = (1, 1, 0, 0, 1) := by decide +kernel
theorem c_293_331 : pg_cd 293 331 = (37, 3, 0, 0, 64) := by decide +kernel
theorem c_293_334 : pg_cd 293 334 = (5, 1, 0, 0, 0) := by decide +kernel
theorem c_293_335 : pg_cd 293 335 = (3, 1, 0, 2, 0) := by decide +kernel
theorem c_293_336 : pg_cd 293 336 = (3, 1, 0, 1, 0) := by decide +kernel
theorem c_293_337 : pg_cd 293 337 = (80, 292, 405, 0, 0) := by decide +kernel
theorem c_293_340 : pg_cd 293 340 = (36, 3, 0, 1, 6) := by decide +kernel
theorem c_293_343 : pg_cd 293 343 = (38, 3, 0, 0, 52) := by decide +kernel
theorem c_293_346 : pg_cd 293 346 = (5, 1, 0, 0, 0) := by decide +kernel
theorem c_293_347 : pg_cd 293 347 = (45, 12, 8, 0, 0) := by decide +kernel
theorem c_293_350 : pg_cd 293 350 = (1, 3, 0, 0, 3460) := by decide +kernel
theorem c_293_353 : pg_cd 293 353 = (1, 2, 0, 0, 8) := by decide +kernel
theorem c_293_355 : pg_cd 293 355 = (3, 1, 0, 2, 0) := by decide +kernel
theorem c_293_356 : pg_cd 293 356 = (12, 1, 0, 0, 0) := by decide +kernel
theorem c_293_357 : pg_cd 293 357 = (10, 1, 0, 0, 0) := by decide +kernel
theorem c_293_358 : pg_cd 293 358 = (1, 1, 0, 0, 3) := by decide +kernel
theorem c_293_359 : pg_cd 293 359 = (10, 1, 0, 0, 0) := by decide +kernel
theorem c_293_360 : pg_cd 293 360 = (1, 1, 0, 0, 1) := by decide +kernel
theorem c_293_361 : pg_cd 293 361 = (54, 1, 0, 0, 0) := by decide +kernel
theorem c_293_362 : pg_cd 293 362 = (1, 1, 0, 0, 0) := by decide +kernel
theorem c_293_363 : pg_cd 293 363 = (6, 1, 0, 3, 0) := by decide +kernel
theorem c_293_364 : pg_cd 293 364 = (3, 1, 0, 3, 0) := by decide +kernel
theorem c_293_365 : pg_cd 293 365 = (5, 1, 0, 0, 0) := by decide +kernel
theorem c_293_366 : pg_cd 293 366 = (45, 12, 8, 0, 0) := by decide +kernel
theorem c_293_369 : pg_cd 293 369 = (1, 1, 0, 0, 4) := by decide +kernel
theorem c_293_370 : pg_cd 293 370 = (50, 1, 0, 0, 0) := by decide +kernel
theorem c_293_371 : pg_cd 293 371 = (37, 3, 0, 3, 24) := by decide +kernel
theorem c_293_374 : pg_cd 293 374 = (5, 1, 0, 0, 0) := by decide +kernel
theorem c_293_375 : pg_cd 293 375 = (3, 1, 0, 3, 0) := by decide +kernel
theorem c_293_376 : pg_cd 293 376 = (1, 1, 0, 0, 0) := by decide +kernel
theorem c_293_377 : pg_cd 293 377 = (80, 199, 102, 0, 0) := by decide +kernel
theorem c_293_380 : pg_cd 293 380 = (3, 1, 0, 2, 0) := by decide +kernel
theorem c_293_381 : pg_cd 293 381 = (37, 3, 0, 1, 8) := by decide +kernel
theorem c_293_384 : pg_cd 293 384 = (5, 1, 0, 0, 0) := by decide +kernel
theorem c_293_385 : pg_cd 293 385 = (3, 1, 0, 3, 0) := by decide +kernel
theorem c_293_386 : pg_cd 293 386 = (80, 217, 112, 0, 0) := by decide +kernel
theorem c_293_389 : pg_cd 293 389 = (9, 3, 0, 3, 1) := by decide +kernel
theorem c_293_392 : pg_cd 293 392 = (38, 3, 0, 0, (-28)) := by decide +kernel
theorem c_293_395 : pg_cd 293 395 = (9, 3, 0, 2, 1) := by decide +kernel
theorem c_293_398 : pg_cd 293 398 = (38, 3, 0, 0, (-84)) := by decide +kernel
theorem c_293_401 : pg_cd 293 401 = (5, 1, 0, 0, 0) := by decide +kernel
theorem c_293_402 : pg_cd 293 402 = (45, 12, 8, 0, 0) := by decide +kernel
theorem c_293_405 : pg_cd 293 405 = (1, 1, 0, 0, 0) := by decide +kernel
theorem c_293_406 : pg_cd 293 406 = (34, 1, 0, 0, 0) := by decide +kernel
theorem c_293_407 : pg_cd 293 407 = (50, 1, 0, 0, 0) := by decide +kernel
theorem c_293_408 : pg_cd 293 408 = (1, 1, 0, 0, 1) := by decide +kernel
theorem c_293_409 : pg_cd 293 409 = (10, 1, 0, 0, 0) := by decide +kernel
theorem c_293_410 : pg_cd 293 410 = (54, 1, 0, 0, 0) := by decide +kernel
theorem c_293_411 : pg_cd 293 411 = (94, 0, 0, 0, 0) := by decide +kernel
theorem mx_293 : pg_mx 293 = 4 := by decide +kernel
theorem m_293 {d : Nat} {h : ab_H} {Q : Option Value → ab_H → Prop} {x0 : Nat} (t : wq d 293 0 [.ref x0, .retAddr 0, .retAddr 0, .retAddr 0] [] h Q) : wm d 293 [.ref x0] h Q := by
  unfold wm
  rw [mx_293]
  exact t
set_option maxRecDepth 20000 in
theorem t_293_0 {d : Nat} {h : ab_H} {Q : Option Value → ab_H → Prop} {x0 : Nat} (t : ab_ok h x0 112 = true ∧ ∃ j1 : Nat, ab_r h x0 0 = some j1 ∧ ((j1 = 0 ∨ ab_ok h j1 0 = true) ∧ ab_in (0 : Int32) (ab_s h j1).2 = true) ∧ ∀ y2 : Int32, y2 = (ab_i h j1 (Int32.toNatClampNeg (0 : Int32))) → ab_ok h x0 112 = true ∧ wm d 291 [.ref x0, .int y2] h (fun r9 h9 => wq (d + 1) 293 12 [.ref x0, .int y2, .retAddr 0, .retAddr 0] (r9.toList ++ []) h9 Q)) : wq (d + 1) 293 0 [.ref x0, .retAddr 0, .retAddr 0, .retAddr 0] [] h Q := by
  refine g5 c_293_0 rfl ?_
  obtain ⟨ho, j1, hr, t⟩ := t
  refine g45 c_293_1 ho hr ?_
  refine g1 c_293_4 k_0 ?_
  obtain ⟨ho, t⟩ := t
  refine g50 c_293_5 ho ?_
  refine g6y (Lf := fun y2 => [.ref x0, .int y2, .retAddr 0, .retAddr 0]) c_293_6 (fun _ => rfl) (fun y2 ey2 => ?_)
  have t := t y2 ey2
  refine g5 c_293_7 rfl ?_
  refine g3 c_293_8 rfl ?_
  exact g80 (As := [.int y2]) (rest := []) c_293_9 rfl rfl (Nat.le_of_ble_eq_true rfl) (Nat.le_of_ble_eq_true rfl) t.1 t.2
set_option maxRecDepth 20000 in
theorem t_293_12 {d : Nat} {h : ab_H} {Q : Option Value → ab_H → Prop} {x0 : Nat} {x1 : Int32} (t : wq d 293 14 [.ref x0, .int x1, .int 0, .retAddr 0] [] h Q) : wq d 293 12 [.ref x0, .int x1, .retAddr 0, .retAddr 0] [] h Q := by
  refine g1 c_293_12 k_0 ?_
  refine g6 (L' := [.ref x0, .int x1, .int 0, .retAddr 0]) c_293_13 rfl ?_
  exact t
set_option maxRecDepth 20000 in
theorem t_293_14 {d : Nat} {h : ab_H} {Q : Option Value → ab_H → Prop} {x0 : Nat} {x1 : Int32} {x2 : Int32} (t : ab_ok h x0 112 = true ∧ ∃ j1 : Nat, ab_r h x0 0 = some j1 ∧ ((j1 = 0 ∨ ab_ok h j1 0 = true) ∧ ab_in (1 : Int32) (ab_s h j1).2 = true) ∧ if (ab_i h j1 (Int32.toNatClampNeg (1 : Int32))) ≤ x2 then (wq (d + 1) 293 57 [.ref x0, .int x1, .int 0, .retAddr 0] [] h Q) else (ab_ok h x0 112 = true ∧ wm d 198 [.ref x0, .int x2, .int 5] h (fun r9 h9 => wq (d + 1) 293 30 [.ref x0, .int x1, .int x2, .retAddr 0] (r9.toList ++ []) h9 Q))) : wq (d + 1) 293 14 [.ref x0, .int x1, .int x2, .retAddr 0] [] h Q := by
  refine g3 c_293_14 rfl ?_
  refine g5 c_293_15 rfl ?_
  obtain ⟨ho, j1, hr, t⟩ := t
  refine g45 c_293_16 ho hr ?_
  refine g1 c_293_19 k_1 ?_
  obtain ⟨ho, t⟩ := t
  refine g50 c_293_20 ho ?_
  refine gcm c_293_21 (gbr t rfl rfl (fun hc t => ?_) (fun hc t => ?_))
  · refine g1 c_293_55 k_0 ?_
    refine g6 (L' := [.ref x0, .int x1, .int 0, .retAddr 0]) c_293_56 rfl ?_
    exact t
  · refine g5 c_293_24 rfl ?_
    refine g3 c_293_25 rfl ?_
    refine g1 c_293_26 k_5 ?_
    exact g80 (As := [.int x2, .int 5]) (rest := []) c_293_27 rfl rfl (Nat.le_of_ble_eq_true rfl) (Nat.le_of_ble_eq_true rfl) t.1 t.2
set_option maxRecDepth 20000 in
theorem t_293_30 {d : Nat} {h : ab_H} {Q : Option Value → ab_H → Prop} {x0 : Nat} {x1 : Int32} {x2 : Int32} {s0 : Int32} (t : if s0 = 0 then (ab_ok h x0 112 = true ∧ wm d 198 [.ref x0, .int x2, .int 6] h (fun r9 h9 => wq (d + 1) 293 40 [.ref x0, .int x1, .int x2, .retAddr 0] (r9.toList ++ []) h9 Q)) else (wq (d + 1) 293 14 [.ref x0, .int x1, .int (x2 + 1), .retAddr 0] [] h Q)) : wq (d + 1) 293 30 [.ref x0, .int x1, .int x2, .retAddr 0] [.int s0] h Q := by
  refine gif c_293_30 (gbn t (ab_c1 _ _) rfl (fun hc t => ?_) (fun hc t => ?_))
  · refine g5 c_293_33 rfl ?_
    refine g3 c_293_34 rfl ?_
    refine g1 c_293_35 k_6 ?_
    exact g80 (As := [.int x2, .int 6]) (rest := []) c_293_37 rfl rfl (Nat.le_of_ble_eq_true rfl) (Nat.le_of_ble_eq_true rfl) t.1 t.2
  · refine g9 (L' := [.ref x0, .int x1, .int (x2 + 1), .retAddr 0]) c_293_49 rfl k_1 rfl ?_
    refine g38 c_293_52 rfl ?_
    exact t
set_option maxRecDepth 20000 in
theorem t_293_40 {d : Nat} {h : ab_H} {Q : Option Value → ab_H → Prop} {x0 : Nat} {x1 : Int32} {x2 : Int32} {s0 : Int32} (t : if s0 = 0 then (ab_ok h x0 112 = true ∧ wm d 282 [.ref x0, .int x2, .int x1] h (fun r9 h9 => wq (d + 1) 293 49 [.ref x0, .int x1, .int x2, .retAddr 0] (r9.toList ++ []) h9 Q)) else (wq (d + 1) 293 14 [.ref x0, .int x1, .int (x2 + 1), .retAddr 0] [] h Q)) : wq (d + 1) 293 40 [.ref x0, .int x1, .int x2, .retAddr 0] [.int s0] h Q := by
  refine gif c_293_40 (gbn t (ab_c1 _ _) rfl (fun hc t => ?_) (fun hc t => ?_))
  · refine g5 c_293_43 rfl ?_
    refine g3 c_293_44 rfl ?_
    refine g3 c_293_45 rfl ?_
    exact g80 (As := [.int x2, .int x1]) (rest := []) c_293_46 rfl rfl (Nat.le_of_ble_eq_true rfl) (Nat.le_of_ble_eq_true rfl) t.1 t.2
  · refine g9 (L' := [.ref x0, .int x1, .int (x2 + 1), .retAddr 0]) c_293_49 rfl k_1 rfl ?_
    refine g38 c_293_52 rfl ?_
    exact t
set_option maxRecDepth 20000 in
theorem t_293_49 {d : Nat} {h : ab_H} {Q : Option Value → ab_H → Prop} {x0 : Nat} {x1 : Int32} {x2 : Int32} (t : wq d 293 14 [.ref x0, .int x1, .int (x2 + 1), .retAddr 0] [] h Q) : wq d 293 49 [.ref x0, .int x1, .int x2, .retAddr 0] [] h Q := by
  refine g9 (L' := [.ref x0, .int x1, .int (x2 + 1), .retAddr 0]) c_293_49 rfl k_1 rfl ?_
  refine g38 c_293_52 rfl ?_
  exact t
set_option maxRecDepth 20000 in
theorem t_293_57 {d : Nat} {h : ab_H} {Q : Option Value → ab_H → Prop} {x0 : Nat} {x1 : Int32} {x2 : Int32} (t : ab_ok h x0 112 = true ∧ ∃ j1 : Nat, ab_r h x0 0 = some j1 ∧ ((j1 = 0 ∨ ab_ok h j1 0 = true) ∧ ab_in (1 : Int32) (ab_s h j1).2 = true) ∧ if (ab_i h j1 (Int32.toNatClampNeg (1 : Int32))) ≤ x2 then (ab_ok h x0 112 = true ∧ wm d 286 [.ref x0, .int x1] h (fun r9 h9 => wq (d + 1) 293 93 [.ref x0, .int x1, .int x2, .retAddr 0] (r9.toList ++ []) h9 Q)) else (ab_ok h x0 112 = true ∧ wm d 198 [.ref x0, .int x2, .int 8] h (fun r9 h9 => wq (d + 1) 293 74 [.ref x0, .int x1, .int x2, .retAddr 0] (r9.toList ++ []) h9 Q))) : wq (d + 1) 293 57 [.ref x0, .int x1, .int x2, .retAddr 0] [] h Q := by
  refine g3 c_293_57 rfl ?_
  refine g5 c_293_58 rfl ?_
  obtain ⟨ho, j1, hr, t⟩ := t
  refine g45 c_293_59 ho hr ?_
  refine g1 c_293_62 k_1 ?_
  obtain ⟨ho, t⟩ := t
  refine g50 c_293_63 ho ?_
  refine gcm c_293_64 (gbr t rfl rfl (fun hc t => ?_) (fun hc t => ?_))
  · refine g5 c_293_88 rfl ?_
    refine g3 c_293_89 rfl ?_
    exact g80 (As := [.int x1]) (rest := []) c_293_90 rfl rfl (Nat.le_of_ble_eq_true rfl) (Nat.le_of_ble_eq_true rfl) t.1 t.2
  · refine g5 c_293_67 rfl ?_
    refine g3 c_293_68 rfl ?_
    refine g1 c_293_69 k_8 ?_
    exact g80 (As := [.int x2, .int 8]) (rest := []) c_293_71 rfl rfl (Nat.le_of_ble_eq_true rfl) (Nat.le_of_ble_eq_true rfl) t.1 t.2
set_option maxRecDepth 20000 in
theorem t_293_74 {d : Nat} {h : ab_H} {Q : Option Value → ab_H → Prop} {x0 : Nat} {x1 : Int32} {x2 : Int32} {s0 : Int32} (t : if s0 ≤ 0 then (wq (d + 1) 293 57 [.ref x0, .int x1, .int (x2 + 1), .retAddr 0] [] h Q) else (ab_ok h x0 112 = true ∧ wm d 284 [.ref x0, .int x2] h (fun r9 h9 => wq (d + 1) 293 82 [.ref x0, .int x1, .int x2, .retAddr 0] (r9.toList ++ []) h9 Q))) : wq (d + 1) 293 74 [.ref x0, .int x1, .int x2, .retAddr 0] [.int s0] h Q := by
  refine gif c_293_74 (gbr t rfl rfl (fun hc t => ?_) (fun hc t => ?_))
  · refine g9 (L' := [.ref x0, .int x1, .int (x2 + 1), .retAddr 0]) c_293_82 rfl k_1 rfl ?_
    refine g38 c_293_85 rfl ?_
    exact t
  · refine g5 c_293_77 rfl ?_
    refine g3 c_293_78 rfl ?_
    exact g80 (As := [.int x2]) (rest := []) c_293_79 rfl rfl (Nat.le_of_ble_eq_true rfl) (Nat.le_of_ble_eq_true rfl) t.1 t.2
set_option maxRecDepth 20000 in
theorem t_293_82 {d : Nat} {h : ab_H} {Q : Option Value → ab_H → Prop} {x0 : Nat} {x1 : Int32} {x2 : Int32} (t : wq d 293 57 [.ref x0, .int x1, .int (x2 + 1), .retAddr 0] [] h Q) : wq d 293 82 [.ref x0, .int x1, .int x2, .retAddr 0] [] h Q := by
  refine g9 (L' := [.ref x0, .int x1, .int (x2 + 1), .retAddr 0]) c_293_82 rfl k_1 rfl ?_
  refine g38 c_293_85 rfl ?_
  exact t
set_option maxRecDepth 20000 in
theorem t_293_93 {d : Nat} {h : ab_H} {Q : Option Value → ab_H → Prop} {x0 : Nat} {x1 : Int32} {x2 : Int32} (t : ab_ok h x0 112 = true ∧ wm d 287 [.ref x0] h (fun r9 h9 => wq (d + 1) 293 97 [.ref x0, .int x1, .int x2, .retAddr 0] (r9.toList ++ []) h9 Q)) : wq (d + 1) 293 93 [.ref x0, .int x1, .int x2, .retAddr 0] [] h Q := by
  refine g5 c_293_93 rfl ?_
  exact g80 (As := []) (rest := []) c_293_94 rfl rfl (Nat.le_of_ble_eq_true rfl) (Nat.le_of_ble_eq_true rfl) t.1 t.2
set_option maxRecDepth 20000 in
theorem t_293_97 {d : Nat} {h : ab_H} {Q : Option Value → ab_H → Prop} {x0 : Nat} {x1 : Int32} {x2 : Int32} (t : wq d 293 99 [.ref x0, .int x1, .int 0, .retAddr 0] [] h Q) : wq d 293 97 [.ref x0, .int x1, .int x2, .retAddr 0] [] h Q := by
  refine g1 c_293_97 k_0 ?_
  refine g6 (L' := [.ref x0, .int x1, .int 0, .retAddr 0]) c_293_98 rfl ?_
  exact t
set_option maxRecDepth 20000 in
theorem t_293_99 {d : Nat} {h : ab_H} {Q : Option Value → ab_H → Prop} {x0 : Nat} {x1 : Int32} {x2 : Int32} (t : ab_ok h x0 112 = true ∧ ∃ j1 : Nat, ab_r h x0 0 = some j1 ∧ ((j1 = 0 ∨ ab_ok h j1 0 = true) ∧ ab_in (4 : Int32) (ab_s h j1).2 = true) ∧ if (ab_i h j1 (Int32.toNatClampNeg (4 : Int32))) ≤ x2 then (wq (d + 1) 293 162 [.ref x0, .int x1, .int 0, .retAddr 0] [] h Q) else (ab_ok h x0 112 = true ∧ ∃ j2 : Nat, ab_r h x0 0 = some j2 ∧ ab_ok h x0 112 = true ∧ wm d 199 [.ref x0, .int x2, .int 8] h (fun r9 h9 => wq (d + 1) 293 130 [.ref x0, .int x1, .int x2, .retAddr 0] (r9.toList ++ [.int ((60700 + (60 * x1)) + x2), .ref j2]) h9 Q))) : wq (d + 1) 293 99 [.ref x0, .int x1, .int x2, .retAddr 0] [] h Q := by
  refine g3 c_293_99 rfl ?_
  refine g5 c_293_100 rfl ?_
  obtain ⟨ho, j1, hr, t⟩ := t
  refine g45 c_293_101 ho hr ?_
  refine g1 c_293_104 k_4 ?_
  obtain ⟨ho, t⟩ := t
  refine g50 c_293_105 ho ?_
  refine gcm c_293_106 (gbr t rfl rfl (fun hc t => ?_) (fun hc t => ?_))
  · refine g1 c_293_160 k_0 ?_
    refine g6 (L' := [.ref x0, .int x1, .int 0, .retAddr 0]) c_293_161 rfl ?_
    exact t
  · refine g5 c_293_109 rfl ?_
    obtain ⟨ho, j2, hr, t⟩ := t
    refine g45 c_293_110 ho hr ?_
    refine g1 c_293_113 k_60700 ?_
    refine g1 c_293_116 k_60 ?_
    refine g3 c_293_118 rfl ?_
    refine g12 c_293_119 ?_
    refine g10 c_293_120 ?_
    refine g3 c_293_121 rfl ?_
    refine g10 c_293_122 ?_
    refine g5 c_293_123 rfl ?_
    refine g3 c_293_124 rfl ?_
    refine g1 c_293_125 k_8 ?_
    exact g80 (As := [.int x2, .int 8]) (rest := [.int ((60700 + (60 * x1)) + x2), .ref j2]) c_293_127 rfl rfl (Nat.le_of_ble_eq_true rfl) (Nat.le_of_ble_eq_true rfl) t.1 t.2
set_option maxRecDepth 20000 in
theorem t_293_130 {d : Nat} {h : ab_H} {Q : Option Value → ab_H → Prop} {x0 : Nat} {x1 : Int32} {x2 : Int32} {s0 : Nat} {s1 : Int32} {s2 : Int32} (t : (ab_ok h s0 0 = true ∧ ab_in s1 (ab_s h s0).2 = true) ∧ ∀ h1 : ab_H, h1 = ab_pi h s0 (Int32.toNatClampNeg s1) s2 → ab_ok h1 x0 112 = true ∧ ∃ j2 : Nat, ab_r h1 x0 0 = some j2 ∧ ab_ok h1 x0 112 = true ∧ wm d 199 [.ref x0, .int x2, .int 4] h1 (fun r9 h9 => wq (d + 1) 293 151 [.ref x0, .int x1, .int x2, .retAddr 0] (r9.toList ++ [.int ((84700 + (60 * x1)) + x2), .ref j2]) h9 Q)) : wq (d + 1) 293 130 [.ref x0, .int x1, .int x2, .retAddr 0] [.int s2, .int s1, .ref s0] h Q := by
  obtain ⟨ho, t⟩ := t
  refine g54 c_293_130 ho (fun h1 eh1 => ?_)
  have t := t h1 eh1
  refine g5 c_293_131 rfl ?_
  obtain ⟨ho, j2, hr, t⟩ := t
  refine g45 c_293_132 ho hr ?_
  refine g1 c_293_135 k_84700 ?_
  refine g1 c_293_138 k_60 ?_
  refine g3 c_293_140 rfl ?_
  refine g12 c_293_141 ?_
  refine g10 c_293_142 ?_
  refine g3 c_293_143 rfl ?_
  refine g10 c_293_144 ?_
  refine g5 c_293_145 rfl ?_
  refine g3 c_293_146 rfl ?_
  refine g1 c_293_147 k_4 ?_
  exact g80 (As := [.int x2, .int 4]) (rest := [.int ((84700 + (60 * x1)) + x2), .ref j2]) c_293_148 rfl rfl (Nat.le_of_ble_eq_true rfl) (Nat.le_of_ble_eq_true rfl) t.1 t.2
set_option maxRecDepth 20000 in
theorem t_293_151 {d : Nat} {h : ab_H} {Q : Option Value → ab_H → Prop} {x0 : Nat} {x1 : Int32} {x2 : Int32} {s0 : Nat} {s1 : Int32} {s2 : Int32} (t : (ab_ok h s0 0 = true ∧ ab_in s1 (ab_s h s0).2 = true) ∧ ∀ h1 : ab_H, h1 = ab_pi h s0 (Int32.toNatClampNeg s1) (s2 + 1) → wq d 293 99 [.ref x0, .int x1, .int (x2 + 1), .retAddr 0] [] h1 Q) : wq d 293 151 [.ref x0, .int x1, .int x2, .retAddr 0] [.int s2, .int s1, .ref s0] h Q := by
  refine g1 c_293_151 k_1 ?_
  refine g10 c_293_152 ?_
  obtain ⟨ho, t⟩ := t
  refine g54 c_293_153 ho (fun h1 eh1 => ?_)
  have t := t h1 eh1
  refine g9 (L' := [.ref x0, .int x1, .int (x2 + 1), .retAddr 0]) c_293_154 rfl k_1 rfl ?_
  refine g38 c_293_157 rfl ?_
  exact t
set_option maxRecDepth 20000 in
theorem t_293_162 {d : Nat} {h : ab_H} {Q : Option Value → ab_H → Prop} {x0 : Nat} {x1 : Int32} {x2 : Int32} (t : ab_ok h x0 112 = true ∧ ∃ j1 : Nat, ab_r h x0 0 = some j1 ∧ ((j1 = 0 ∨ ab_ok h j1 0 = true) ∧ ab_in (1 : Int32) (ab_s h j1).2 = true) ∧ if (ab_i h j1 (Int32.toNatClampNeg (1 : Int32))) ≤ x2 then (wq (d + 1) 293 204 [.ref x0, .int x1, .int 0, .retAddr 0] [] h Q) else (ab_ok h x0 112 = true ∧ ∃ j2 : Nat, ab_r h x0 0 = some j2 ∧ ab_ok h x0 112 = true ∧ wm d 198 [.ref x0, .int x2, .int 9] h (fun r9 h9 => wq (d + 1) 293 193 [.ref x0, .int x1, .int x2, .retAddr 0] (r9.toList ++ [.int ((108700 + (8 * x1)) + x2), .ref j2]) h9 Q))) : wq (d + 1) 293 162 [.ref x0, .int x1, .int x2, .retAddr 0] [] h Q := by
  refine g3 c_293_162 rfl ?_
  refine g5 c_293_163 rfl ?_
  obtain ⟨ho, j1, hr, t⟩ := t
  refine g45 c_293_164 ho hr ?_
  refine g1 c_293_167 k_1 ?_
  obtain ⟨ho, t⟩ := t
  refine g50 c_293_168 ho ?_
  refine gcm c_293_169 (gbr t rfl rfl (fun hc t => ?_) (fun hc t => ?_))
  · refine g1 c_293_202 k_0 ?_
    refine g6 (L' := [.ref x0, .int x1, .int 0, .retAddr 0]) c_293_203 rfl ?_
    exact t
  · refine g5 c_293_172 rfl ?_
    obtain ⟨ho, j2, hr, t⟩ := t
    refine g45 c_293_173 ho hr ?_
    refine g1 c_293_176 k_108700 ?_
    refine g1 c_293_179 k_8 ?_
    refine g3 c_293_181 rfl ?_
    refine g12 c_293_182 ?_
    refine g10 c_293_183 ?_
    refine g3 c_293_184 rfl ?_
    refine g10 c_293_185 ?_
    refine g5 c_293_186 rfl ?_
    refine g3 c_293_187 rfl ?_
    refine g1 c_293_188 k_9 ?_
    exact g80 (As := [.int x2, .int 9]) (rest := [.int ((108700 + (8 * x1)) + x2), .ref j2]) c_293_190 rfl rfl (Nat.le_of_ble_eq_true rfl) (Nat.le_of_ble_eq_true rfl) t.1 t.2
set_option maxRecDepth 20000 in
theorem t_293_193 {d : Nat} {h : ab_H} {Q : Option Value → ab_H → Prop} {x0 : Nat} {x1 : Int32} {x2 : Int32} {s0 : Nat} {s1 : Int32} {s2 : Int32} (t : (ab_ok h s0 0 = true ∧ ab_in s1 (ab_s h s0).2 = true) ∧ ∀ h1 : ab_H, h1 = ab_pi h s0 (Int32.toNatClampNeg s1) (s2 + 1) → wq d 293 162 [.ref x0, .int x1, .int (x2 + 1), .retAddr 0] [] h1 Q) : wq d 293 193 [.ref x0, .int x1, .int x2, .retAddr 0] [.int s2, .int s1, .ref s0] h Q := by
  refine g1 c_293_193 k_1 ?_
  refine g10 c_293_194 ?_
  obtain ⟨ho, t⟩ := t
  refine g54 c_293_195 ho (fun h1 eh1 => ?_)
  have t := t h1 eh1
  refine g9 (L' := [.ref x0, .int x1, .int (x2 + 1), .retAddr 0]) c_293_196 rfl k_1 rfl ?_
  refine g38 c_293_199 rfl ?_
  exact t
set_option maxRecDepth 20000 in
theorem t_293_204 {d : Nat} {h : ab_H} {Q : Option Value → ab_H → Prop} {x0 : Nat} {x1 : Int32} {x2 : Int32} (t : ab_ok h x0 112 = true ∧ ∃ j1 : Nat, ab_r h x0 0 = some j1 ∧ ((j1 = 0 ∨ ab_ok h j1 0 = true) ∧ ab_in (3 : Int32) (ab_s h j1).2 = true) ∧ if (ab_i h j1 (Int32.toNatClampNeg (3 : Int32))) ≤ x2 then (wq (d + 1) 293 237 [.ref x0, .int x1, .int 0, .retAddr 0] [] h Q) else (ab_ok h x0 112 = true ∧ wm d 200 [.ref x0, .int x2, .int 3] h (fun r9 h9 => wq (d + 1) 293 220 [.ref x0, .int x1, .int x2, .retAddr 0] (r9.toList ++ []) h9 Q))) : wq (d + 1) 293 204 [.ref x0, .int x1, .int x2, .retAddr 0] [] h Q := by
  refine g3 c_293_204 rfl ?_
  refine g5 c_293_205 rfl ?_
  obtain ⟨ho, j1, hr, t⟩ := t
  refine g45 c_293_206 ho hr ?_
  refine g1 c_293_209 k_3 ?_
  obtain ⟨ho, t⟩ := t
  refine g50 c_293_210 ho ?_
  refine gcm c_293_211 (gbr t rfl rfl (fun hc t => ?_) (fun hc t => ?_))
  · refine g1 c_293_235 k_0 ?_
    refine g6 (L' := [.ref x0, .int x1, .int 0, .retAddr 0]) c_293_236 rfl ?_
    exact t
  · refine g5 c_293_214 rfl ?_
    refine g3 c_293_215 rfl ?_
    refine g1 c_293_216 k_3 ?_
    exact g80 (As := [.int x2, .int 3]) (rest := []) c_293_217 rfl rfl (Nat.le_of_ble_eq_true rfl) (Nat.le_of_ble_eq_true rfl) t.1 t.2
set_option maxRecDepth 20000 in
theorem t_293_220 {d : Nat} {h : ab_H} {Q : Option Value → ab_H → Prop} {x0 : Nat} {x1 : Int32} {x2 : Int32} {s0 : Int32} (t : if s0 = 0 then (ab_ok h x0 112 = true ∧ wm d 290 [.ref x0, .int x2, .int x1] h (fun r9 h9 => wq (d + 1) 293 229 [.ref x0, .int x1, .int x2, .retAddr 0] (r9.toList ++ []) h9 Q)) else (wq (d + 1) 293 204 [.ref x0, .int x1, .int (x2 + 1), .retAddr 0] [] h Q)) : wq (d + 1) 293 220 [.ref x0, .int x1, .int x2, .retAddr 0] [.int s0] h Q := by
  refine gif c_293_220 (gbn t (ab_c1 _ _) rfl (fun hc t => ?_) (fun hc t => ?_))
  · refine g5 c_293_223 rfl ?_
    refine g3 c_293_224 rfl ?_
    refine g3 c_293_225 rfl ?_
    exact g80 (As := [.int x2, .int x1]) (rest := []) c_293_226 rfl rfl (Nat.le_of_ble_eq_true rfl) (Nat.le_of_ble_eq_true rfl) t.1 t.2
  · refine g9 (L' := [.ref x0, .int x1, .int (x2 + 1), .retAddr 0]) c_293_229 rfl k_1 rfl ?_
    refine g38 c_293_232 rfl ?_
    exact t
set_option maxRecDepth 20000 in
theorem t_293_229 {d : Nat} {h : ab_H} {Q : Option Value → ab_H → Prop} {x0 : Nat} {x1 : Int32} {x2 : Int32} (t : wq d 293 204 [.ref x0, .int x1, .int (x2 + 1), .retAddr 0] [] h Q) : wq d 293 229 [.ref x0, .int x1, .int x2, .retAddr 0] [] h Q := by
  refine g9 (L' := [.ref x0, .int x1, .int (x2 + 1), .retAddr 0]) c_293_229 rfl k_1 rfl ?_
  refine g38 c_293_232 rfl ?_
  exact t
set_option maxRecDepth 20000 in
theorem t_293_237 {d : Nat} {h : ab_H} {Q : Option Value → ab_H → Prop} {x0 : Nat} {x1 : Int32} {x2 : Int32} (t : ab_ok h x0 112 = true ∧ ∃ j1 : Nat, ab_r h x0 0 = some j1 ∧ ((j1 = 0 ∨ ab_ok h j1 0 = true) ∧ ab_in (2 : Int32) (ab_s h j1).2 = true) ∧ if (ab_i h j1 (Int32.toNatClampNeg (2 : Int32))) ≤ x2 then (wq d 293 314 [.ref x0, .int x1, .int 0, .retAddr 0] [] h Q) else (ab_ok h x0 112 = true ∧ ∃ j2 : Nat, ab_r h x0 0 = some j2 ∧ ((j2 = 0 ∨ ab_ok h j2 0 = true) ∧ ab_in ((3428 + (8 * x2)) + 3) (ab_s h j2).2 = true) ∧ if (ab_i h j2 (Int32.toNatClampNeg ((3428 + (8 * x2)) + 3))) = 1 then (wq d 293 237 [.ref x0, .int x1, .int (x2 + 1), .int (3428 + (8 * x2))] [] h Q) else (ab_ok h x0 112 = true ∧ ∃ j3 : Nat, ab_r h x0 0 = some j3 ∧ ((j3 = 0 ∨ ab_ok h j3 0 = true) ∧ ab_in (3428 + (8 * x2)) (ab_s h j3).2 = true) ∧ ab_ok h x0 112 = true ∧ ∃ j4 : Nat, ab_r h x0 0 = some j4 ∧ ((j4 = 0 ∨ ab_ok h j4 0 = true) ∧ ab_in ((3428 + (8 * x2)) + 2) (ab_s h j4).2 = true) ∧ (ab_ok h j3 0 = true ∧ ab_in (3428 + (8 * x2)) (ab_s h j3).2 = true) ∧ ∀ h5 : ab_H, h5 = ab_pi h j3 (Int32.toNatClampNeg (3428 + (8 * x2))) ((ab_i h j3 (Int32.toNatClampNeg (3428 + (8 * x2)))) - (ab_i h j4 (Int32.toNatClampNeg ((3428 + (8 * x2)) + 2)))) → ab_ok h5 x0 112 = true ∧ ∃ j6 : Nat, ab_r h5 x0 0 = some j6 ∧ ((j6 = 0 ∨ ab_ok h5 j6 0 = true) ∧ ab_in (3428 + (8 * x2)) (ab_s h5 j6).2 = true) ∧ if 0 ≤ (ab_i h5 j6 (Int32.toNatClampNeg (3428 + (8 * x2)))) then (wq d 293 237 [.ref x0, .int x1, .int (x2 + 1), .int (3428 + (8 * x2))] [] h5 Q) else (ab_ok h5 x0 112 = true ∧ ∃ j7 : Nat, ab_r h5 x0 0 = some j7 ∧ (ab_ok h5 j7 0 = true ∧ ab_in ((3428 + (8 * x2)) + 3) (ab_s h5 j7).2 = true) ∧ ∀ h8 : ab_H, h8 = ab_pi h5 j7 (Int32.toNatClampNeg ((3428 + (8 * x2)) + 3)) 1 → wq d 293 237 [.ref x0, .int x1, .int (x2 + 1), .int (3428 + (8 * x2))] [] h8 Q)))) : wq d 293 237 [.ref x0, .int x1, .int x2, .retAddr 0] [] h Q := by
  refine g3 c_293_237 rfl ?_
  refine g5 c_293_238 rfl ?_
  obtain ⟨ho, j1, hr, t⟩ := t
  refine g45 c_293_239 ho hr ?_
  refine g1 c_293_242 k_2 ?_
  obtain ⟨ho, t⟩ := t
  refine g50 c_293_243 ho ?_
  refine gcm c_293_244 (gbr t rfl rfl (fun hc t => ?_) (fun hc t => ?_))
  · refine g1 c_293_312 k_0 ?_
    refine g6 (L' := [.ref x0, .int x1, .int 0, .retAddr 0]) c_293_313 rfl ?_
    exact t
  · refine g1 c_293_247 k_3428 ?_
    refine g1 c_293_250 k_8 ?_
    refine g3 c_293_252 rfl ?_
    refine g12 c_293_253 ?_
    refine g10 c_293_254 ?_
    refine g6 (L' := [.ref x0, .int x1, .int x2, .int (3428 + (8 * x2))]) c_293_255 rfl ?_
    refine g5 c_293_256 rfl ?_
    obtain ⟨ho, j2, hr, t⟩ := t
    refine g45 c_293_257 ho hr ?_
    refine g3 c_293_260 rfl ?_
    refine g1 c_293_261 k_3 ?_
    refine g10 c_293_262 ?_
    obtain ⟨ho, t⟩ := t
    refine g50 c_293_263 ho ?_
    refine g1 c_293_264 k_1 ?_
    refine gcm c_293_265 (gbn t (ab_c1 _ _) rfl (fun hc t => ?_) (fun hc t => ?_))
    · refine g38 c_293_268 rfl ?_
      refine g9 (L' := [.ref x0, .int x1, .int (x2 + 1), .int (3428 + (8 * x2))]) c_293_306 rfl k_1 rfl ?_
      refine g38 c_293_309 rfl ?_
      exact t
    · refine g5 c_293_271 rfl ?_
      obtain ⟨ho, j3, hr, t⟩ := t
      refine g45 c_293_272 ho hr ?_
      refine g3 c_293_275 rfl ?_
      refine g34a c_293_276 ?_
      obtain ⟨ho, t⟩ := t
      refine g50 c_293_277 ho ?_
      refine g5 c_293_278 rfl ?_
      obtain ⟨ho, j4, hr, t⟩ := t
      refine g45 c_293_279 ho hr ?_
      refine g3 c_293_282 rfl ?_
      refine g1 c_293_283 k_2 ?_
      refine g10 c_293_284 ?_
      obtain ⟨ho, t⟩ := t
      refine g50 c_293_285 ho ?_
      refine g11 c_293_286 ?_
      obtain ⟨ho, t⟩ := t
      refine g54 c_293_287 ho (fun h5 eh5 => ?_)
      have t := t h5 eh5
      refine g5 c_293_288 rfl ?_
      obtain ⟨ho, j6, hr, t⟩ := t
      refine g45 c_293_289 ho hr ?_
      refine g3 c_293_292 rfl ?_
      obtain ⟨ho, t⟩ := t
      refine g50 c_293_293 ho ?_
      refine gif c_293_294 (gbr t rfl rfl (fun hc t => ?_) (fun hc t => ?_))
      · refine g9 (L' := [.ref x0, .int x1, .int (x2 + 1), .int (3428 + (8 * x2))]) c_293_306 rfl k_1 rfl ?_
        refine g38 c_293_309 rfl ?_
        exact t
      · refine g5 c_293_297 rfl ?_
        obtain ⟨ho, j7, hr, t⟩ := t
        refine g45 c_293_298 ho hr ?_
        refine g3 c_293_301 rfl ?_
        refine g1 c_293_302 k_3 ?_
        refine g10 c_293_303 ?_
        refine g1 c_293_304 k_1 ?_
        obtain ⟨ho, t⟩ := t
        refine g54 c_293_305 ho (fun h8 eh8 => ?_)
        have t := t h8 eh8
        refine g9 (L' := [.ref x0, .int x1, .int (x2 + 1), .int (3428 + (8 * x2))]) c_293_306 rfl k_1 rfl ?_
        refine g38 c_293_309 rfl ?_
        exact t
set_option maxRecDepth 20000 in
theorem t_293_314 {d : Nat} {h : ab_H} {Q : Option Value → ab_H → Prop} {x0 : Nat} {x1 : Int32} {x2 : Int32} (t : ab_ok h x0 112 = true ∧ ∃ j1 : Nat, ab_r h x0 0 = some j1 ∧ ((j1 = 0 ∨ ab_ok h j1 0 = true) ∧ ab_in (3 : Int32) (ab_s h j1).2 = true) ∧ if (ab_i h j1 (Int32.toNatClampNeg (3 : Int32))) ≤ x2 then (ab_ok h x0 112 = true ∧ ∃ j2 : Nat, ab_r h x0 0 = some j2 ∧ ((j2 = 0 ∨ ab_ok h j2 0 = true) ∧ ab_in (0 : Int32) (ab_s h j2).2 = true) ∧ (ab_ok h j2 0 = true ∧ ab_in (0 : Int32) (ab_s h j2).2 = true) ∧ ∀ h3 : ab_H, h3 = ab_pi h j2 (Int32.toNatClampNeg (0 : Int32)) ((ab_i h j2 (Int32.toNatClampNeg (0 : Int32))) + 1) → Q none h3) else (ab_ok h x0 112 = true ∧ wm d 200 [.ref x0, .int x2, .int 3] h (fun r9 h9 => wq (d + 1) 293 330 [.ref x0, .int x1, .int x2, .retAddr 0] (r9.toList ++ []) h9 Q))) : wq (d + 1) 293 314 [.ref x0, .int x1, .int x2, .retAddr 0] [] h Q := by
  refine g3 c_293_314 rfl ?_
  refine g5 c_293_315 rfl ?_
  obtain ⟨ho, j1, hr, t⟩ := t
  refine g45 c_293_316 ho hr ?_
  refine g1 c_293_319 k_3 ?_
  obtain ⟨ho, t⟩ := t
  refine g50 c_293_320 ho ?_
  refine gcm c_293_321 (gbr t rfl rfl (fun hc t => ?_) (fun hc t => ?_))
  · refine g5 c_293_401 rfl ?_
    obtain ⟨ho, j2, hr, t⟩ := t
    refine g45 c_293_402 ho hr ?_
    refine g1 c_293_405 k_0 ?_
    refine g34a c_293_406 ?_
    obtain ⟨ho, t⟩ := t
    refine g50 c_293_407 ho ?_
    refine g1 c_293_408 k_1 ?_
    refine g10 c_293_409 ?_
    obtain ⟨ho, t⟩ := t
    refine g54 c_293_410 ho (fun h3 eh3 => ?_)
    have t := t h3 eh3
    exact g94 c_293_411 t
  · refine g5 c_293_324 rfl ?_
    refine g3 c_293_325 rfl ?_
    refine g1 c_293_326 k_3 ?_
    exact g80 (As := [.int x2, .int 3]) (rest := []) c_293_327 rfl rfl (Nat.le_of_ble_eq_true rfl) (Nat.le_of_ble_eq_true rfl) t.1 t.2
set_option maxRecDepth 20000 in
theorem t_293_330 {d : Nat} {h : ab_H} {Q : Option Value → ab_H → Prop} {x0 : Nat} {x1 : Int32} {x2 : Int32} {s0 : Int32} (t : if s0 = 1 then (wq (d + 1) 293 314 [.ref x0, .int x1, .int (x2 + 1), .retAddr 0] [] h Q) else (ab_ok h x0 112 = true ∧ wm d 292 [.ref x0, .int x2, .int x1] h (fun r9 h9 => wq (d + 1) 293 340 [.ref x0, .int x1, .int x2, .retAddr 0] (r9.toList ++ []) h9 Q))) : wq (d + 1) 293 330 [.ref x0, .int x1, .int x2, .retAddr 0] [.int s0] h Q := by
  refine g1 c_293_330 k_1 ?_
  refine gcm c_293_331 (gbr t rfl rfl (fun hc t => ?_) (fun hc t => ?_))
  · refine g9 (L' := [.ref x0, .int x1, .int (x2 + 1), .retAddr 0]) c_293_395 rfl k_1 rfl ?_
    refine g38 c_293_398 rfl ?_
    exact t
  · refine g5 c_293_334 rfl ?_
    refine g3 c_293_335 rfl ?_
    refine g3 c_293_336 rfl ?_
    exact g80 (As := [.int x2, .int x1]) (rest := []) c_293_337 rfl rfl (Nat.le_of_ble_eq_true rfl) (Nat.le_of_ble_eq_true rfl) t.1 t.2
set_option maxRecDepth 20000 in
theorem t_293_340 {d : Nat} {h : ab_H} {Q : Option Value → ab_H → Prop} {x0 : Nat} {x1 : Int32} {x2 : Int32} {s0 : Int32} (t : if s0 = 0 then (wq d 293 314 [.ref x0, .int x1, .int (x2 + 1), .retAddr 0] [] h Q) else (ab_ok h x0 112 = true ∧ ∃ j1 : Nat, ab_r h x0 0 = some j1 ∧ (ab_ok h j1 0 = true ∧ ab_in ((3460 + (8 * x2)) + 3) (ab_s h j1).2 = true) ∧ ∀ h2 : ab_H, h2 = ab_pi h j1 (Int32.toNatClampNeg ((3460 + (8 * x2)) + 3)) 1 → wq d 293 364 [.ref x0, .int x1, .int x2, .int 0] [] h2 Q)) : wq d 293 340 [.ref x0, .int x1, .int x2, .retAddr 0] [.int s0] h Q := by
  refine gif c_293_340 (gbn t (ab_c1 _ _) rfl (fun hc t => ?_) (fun hc t => ?_))
  · refine g38 c_293_343 rfl ?_
    refine g9 (L' := [.ref x0, .int x1, .int (x2 + 1), .retAddr 0]) c_293_395 rfl k_1 rfl ?_
    refine g38 c_293_398 rfl ?_
    exact t
  · refine g5 c_293_346 rfl ?_
    obtain ⟨ho, j1, hr, t⟩ := t
    refine g45 c_293_347 ho hr ?_
    refine g1 c_293_350 k_3460 ?_
    refine g1 c_293_353 k_8 ?_
    refine g3 c_293_355 rfl ?_
    refine g12 c_293_356 ?_
    refine g10 c_293_357 ?_
    refine g1 c_293_358 k_3 ?_
    refine g10 c_293_359 ?_
    refine g1 c_293_360 k_1 ?_
    obtain ⟨ho, t⟩ := t
    refine g54 c_293_361 ho (fun h2 eh2 => ?_)
    have t := t h2 eh2
    refine g1 c_293_362 k_0 ?_
    refine g6 (L' := [.ref x0, .int x1, .int x2, .int 0]) c_293_363 rfl ?_
    exact t
set_option maxRecDepth 20000 in
theorem t_293_364 {d : Nat} {h : ab_H} {Q : Option Value → ab_H → Prop} {x0 : Nat} {x1 : Int32} {x2 : Int32} {x3 : Int32} (t : ab_ok h x0 112 = true ∧ ∃ j1 : Nat, ab_r h x0 0 = some j1 ∧ ((j1 = 0 ∨ ab_ok h j1 0 = true) ∧ ab_in (4 : Int32) (ab_s h j1).2 = true) ∧ if (ab_i h j1 (Int32.toNatClampNeg (4 : Int32))) ≤ x3 then (wq (d + 1) 293 314 [.ref x0, .int x1, .int (x2 + 1), .int x3] [] h Q) else (ab_ok h x0 112 = true ∧ wm d 199 [.ref x0, .int x3, .int 0] h (fun r9 h9 => wq (d + 1) 293 380 [.ref x0, .int x1, .int x2, .int x3] (r9.toList ++ []) h9 Q))) : wq (d + 1) 293 364 [.ref x0, .int x1, .int x2, .int x3] [] h Q := by
  refine g3 c_293_364 rfl ?_
  refine g5 c_293_365 rfl ?_
  obtain ⟨ho, j1, hr, t⟩ := t
  refine g45 c_293_366 ho hr ?_
  refine g1 c_293_369 k_4 ?_
  obtain ⟨ho, t⟩ := t
  refine g50 c_293_370 ho ?_
  refine gcm c_293_371 (gbr t rfl rfl (fun hc t => ?_) (fun hc t => ?_))
  · refine g9 (L' := [.ref x0, .int x1, .int (x2 + 1), .int x3]) c_293_395 rfl k_1 rfl ?_
    refine g38 c_293_398 rfl ?_
    exact t
  · refine g5 c_293_374 rfl ?_
    refine g3 c_293_375 rfl ?_
    refine g1 c_293_376 k_0 ?_
    exact g80 (As := [.int x3, .int 0]) (rest := []) c_293_377 rfl rfl (Nat.le_of_ble_eq_true rfl) (Nat.le_of_ble_eq_true rfl) t.1 t.2
set_option maxRecDepth 20000 in
theorem t_293_380 {d : Nat} {h : ab_H} {Q : Option Value → ab_H → Prop} {x0 : Nat} {x1 : Int32} {x2 : Int32} {x3 : Int32} {s0 : Int32} (t : if s0 = x2 then (ab_ok h x0 112 = true ∧ wm d 217 [.ref x0, .int x3] h (fun r9 h9 => wq (d + 1) 293 389 [.ref x0, .int x1, .int x2, .int x3] (r9.toList ++ []) h9 Q)) else (wq (d + 1) 293 364 [.ref x0, .int x1, .int x2, .int (x3 + 1)] [] h Q)) : wq (d + 1) 293 380 [.ref x0, .int x1, .int x2, .int x3] [.int s0] h Q := by
  refine g3 c_293_380 rfl ?_
  refine gcm c_293_381 (gbn t (ab_c1 _ _) rfl (fun hc t => ?_) (fun hc t => ?_))
  · refine g5 c_293_384 rfl ?_
    refine g3 c_293_385 rfl ?_
    exact g80 (As := [.int x3]) (rest := []) c_293_386 rfl rfl (Nat.le_of_ble_eq_true rfl) (Nat.le_of_ble_eq_true rfl) t.1 t.2
  · refine g9 (L' := [.ref x0, .int x1, .int x2, .int (x3 + 1)]) c_293_389 rfl k_1 rfl ?_
    refine g38 c_293_392 rfl ?_
    exact t
set_option maxRecDepth 20000 in
theorem t_293_389 {d : Nat} {h : ab_H} {Q : Option Value → ab_H → Prop} {x0 : Nat} {x1 : Int32} {x2 : Int32} {x3 : Int32} (t : wq d 293 364 [.ref x0, .int x1, .int x2, .int (x3 + 1)] [] h Q) : wq d 293 389 [.ref x0, .int x1, .int x2, .int x3] [] h Q := by
  refine g9 (L' := [.ref x0, .int x1, .int x2, .int (x3 + 1)]) c_293_389 rfl k_1 rfl ?_
  refine g38 c_293_392 rfl ?_
  exact t
-- method 294: MillTownModel.weeks(I)I
theorem c_294_0 : pg_cd 294 0 = (3, 1, 0, 1, 0) := by decide +kernel
theorem c_294_1 : pg_cd 294 1 = (1, 1, 0, 0, 1) := by decide +kernel
theorem c_294_2 : pg_cd 294 2 = (1, 2, 0, 0, 52) := by decide +kernel
theorem c_294_4 : pg_cd 294 4 = (81, 196, 76, 0, 0) := by decide +kernel
theorem c_294_7 : pg_cd 294 7 = (36, 3, 0, 0, 17) := by decide +kernel
theorem c_294_10 : pg_cd 294 10 = (5, 1, 0, 0, 0) := by decide +kernel
theorem c_294_11 : pg_cd 294 11 = (45, 12, 8, 0, 0) := by decide +kernel
theorem c_294_14 : pg_cd 294 14 = (1, 1, 0, 0, 0) := by decide +kernel
theorem c_294_15 : pg_cd 294 15 = (50, 1, 0, 0, 0) := by decide +kernel
theorem c_294_16 : pg_cd 294 16 = (3, 1, 0, 1, 0) := by decide +kernel
theorem c_294_17 : pg_cd 294 17 = (10, 1, 0, 0, 0) := by decide +kernel
theorem c_294_18 : pg_cd 294 18 = (1, 3, 0, 0, 400) := by decide +kernel
theorem c_294_21 : pg_cd 294 21 = (37, 3, 0, 5, 5) := by decide +kernel
theorem c_294_24 : pg_cd 294 24 = (1, 1, 0, 0, (-1)) := by decide +kernel
theorem c_294_25 : pg_cd 294 25 = (90, 0, 0, 0, 0) := by decide +kernel
theorem c_294_26 : pg_cd 294 26 = (1, 1, 0, 0, 0) := by decide +kernel
theorem c_294_27 : pg_cd 294 27 = (6, 1, 0, 2, 0) := by decide +kernel
theorem c_294_28 : pg_cd 294 28 = (3, 1, 0, 2, 0) := by decide +kernel
theorem c_294_29 : pg_cd 294 29 = (3, 1, 0, 1, 0) := by decide +kernel
theorem c_294_30 : pg_cd 294 30 = (37, 3, 0, 3, 13) := by decide +kernel
theorem c_294_33 : pg_cd 294 33 = (5, 1, 0, 0, 0) := by decide +kernel
theorem c_294_34 : pg_cd 294 34 = (80, 293, 408, 0, 0) := by decide +kernel
theorem c_294_37 : pg_cd 294 37 = (9, 3, 0, 2, 1) := by decide +kernel
theorem c_294_40 : pg_cd 294 40 = (38, 3, 0, 0, (-12)) := by decide +kernel
theorem c_294_43 : pg_cd 294 43 = (5, 1, 0, 0, 0) := by decide +kernel
theorem c_294_44 : pg_cd 294 44 = (45, 12, 8, 0, 0) := by decide +kernel
theorem c_294_47 : pg_cd 294 47 = (1, 1, 0, 0, 0) := by decide +kernel
theorem c_294_48 : pg_cd 294 48 = (50, 1, 0, 0, 0) := by decide +kernel
theorem c_294_49 : pg_cd 294 49 = (90, 0, 0, 0, 0) := by decide +kernel
theorem mx_294 : pg_mx 294 = 3 := by decide +kernel
theorem m_294 {d : Nat} {h : ab_H} {Q : Option Value → ab_H → Prop} {x0 : Nat} {x1 : Int32} (t : wq d 294 0 [.ref x0, .int x1, .retAddr 0] [] h Q) : wm d 294 [.ref x0, .int x1] h Q := by
  unfold wm
  rw [mx_294]
  exact t
set_option maxRecDepth 20000 in
theorem t_294_0 {d : Nat} {h : ab_H} {Q : Option Value → ab_H → Prop} {x0 : Nat} {x1 : Int32} (t : wm d 196 [.int x1, .int 1, .int 52] h (fun r9 h9 => wq (d + 1) 294 7 [.ref x0, .int x1, .retAddr 0] (r9.toList ++ []) h9 Q)) : wq (d + 1) 294 0 [.ref x0, .int x1, .retAddr 0] [] h Q := by
  refine g3 c_294_0 rfl ?_
  refine g1 c_294_1 k_1 ?_
  refine g1 c_294_2 k_52 ?_
  exact g81 (As := [.int x1, .int 1, .int 52]) (rest := []) c_294_4 rfl rfl (Nat.le_of_ble_eq_true rfl) (Nat.le_of_ble_eq_true rfl) t
set_option maxRecDepth 20000 in
theorem t_294_7 {d : Nat} {h : ab_H} {Q : Option Value → ab_H → Prop} {x0 : Nat} {x1 : Int32} {s0 : Int32} (t : if s0 = 0 then (Q (some (.int (-1))) h) else (ab_ok h x0 112 = true ∧ ∃ j1 : Nat, ab_r h x0 0 = some j1 ∧ ((j1 = 0 ∨ ab_ok h j1 0 = true) ∧ ab_in (0 : Int32) (ab_s h j1).2 = true) ∧ if ((ab_i h j1 (Int32.toNatClampNeg (0 : Int32))) + x1) ≤ 400 then (wq d 294 28 [.ref x0, .int x1, .int 0] [] h Q) else (Q (some (.int (-1))) h))) : wq d 294 7 [.ref x0, .int x1, .retAddr 0] [.int s0] h Q := by
  refine gif c_294_7 (gbr t rfl rfl (fun hc t => ?_) (fun hc t => ?_))
  · refine g1 c_294_24 k_m1 ?_
    exact g90 c_294_25 t
  · refine g5 c_294_10 rfl ?_
    obtain ⟨ho, j1, hr, t⟩ := t
    refine g45 c_294_11 ho hr ?_
    refine g1 c_294_14 k_0 ?_
    obtain ⟨ho, t⟩ := t
    refine g50 c_294_15 ho ?_
    refine g3 c_294_16 rfl ?_
    refine g10 c_294_17 ?_
    refine g1 c_294_18 k_400 ?_
    refine gcm c_294_21 (gbr t rfl rfl (fun hc t => ?_) (fun hc t => ?_))
    · refine g1 c_294_26 k_0 ?_
      refine g6 (L' := [.ref x0, .int x1, .int 0]) c_294_27 rfl ?_
      exact t
    · refine g1 c_294_24 k_m1 ?_
      exact g90 c_294_25 t
set_option maxRecDepth 20000 in
theorem t_294_28 {d : Nat} {h : ab_H} {Q : Option Value → ab_H → Prop} {x0 : Nat} {x1 : Int32} {x2 : Int32} (t : if x1 ≤ x2 then (ab_ok h x0 112 = true ∧ ∃ j1 : Nat, ab_r h x0 0 = some j1 ∧ ((j1 = 0 ∨ ab_ok h j1 0 = true) ∧ ab_in (0 : Int32) (ab_s h j1).2 = true) ∧ Q (some (.int (ab_i h j1 (Int32.toNatClampNeg (0 : Int32))))) h) else (ab_ok h x0 112 = true ∧ wm d 293 [.ref x0] h (fun r9 h9 => wq (d + 1) 294 37 [.ref x0, .int x1, .int x2] (r9.toList ++ []) h9 Q))) : wq (d + 1) 294 28 [.ref x0, .int x1, .int x2] [] h Q := by
  refine g3 c_294_28 rfl ?_
  refine g3 c_294_29 rfl ?_
  refine gcm c_294_30 (gbr t rfl rfl (fun hc t => ?_) (fun hc t => ?_))
  · refine g5 c_294_43 rfl ?_
    obtain ⟨ho, j1, hr, t⟩ := t
    refine g45 c_294_44 ho hr ?_
    refine g1 c_294_47 k_0 ?_
    obtain ⟨ho, t⟩ := t
    refine g50 c_294_48 ho ?_
    exact g90 c_294_49 t
  · refine g5 c_294_33 rfl ?_
    exact g80 (As := []) (rest := []) c_294_34 rfl rfl (Nat.le_of_ble_eq_true rfl) (Nat.le_of_ble_eq_true rfl) t.1 t.2
set_option maxRecDepth 20000 in
theorem t_294_37 {d : Nat} {h : ab_H} {Q : Option Value → ab_H → Prop} {x0 : Nat} {x1 : Int32} {x2 : Int32} (t : wq d 294 28 [.ref x0, .int x1, .int (x2 + 1)] [] h Q) : wq d 294 37 [.ref x0, .int x1, .int x2] [] h Q := by
  refine g9 (L' := [.ref x0, .int x1, .int (x2 + 1)]) c_294_37 rfl k_1 rfl ?_
  refine g38 c_294_40 rfl ?_
  exact t
-- method 295: MillTownModel.millOf(II)I
theorem c_295_0 : pg_cd 295 0 = (5, 1, 0, 0, 0) := by decide +kernel
theorem c_295_1 : pg_cd 295 1 = (3, 1, 0, 1, 0) := by decide +kernel
theorem c_295_2 : pg_cd 295 2 = (80, 201, 115, 0, 0) := by decide +kernel
theorem c_295_5 : pg_cd 295 5 = (36, 3, 0, 1, 5) := by decide +kernel
theorem c_295_8 : pg_cd 295 8 = (1, 1, 0, 0, (-1)) := by decide +kernel
theorem c_295_9 : pg_cd 295 9 = (90, 0, 0, 0, 0) := by decide +kernel
theorem c_295_10 : pg_cd 295 10 = (3, 1, 0, 2, 0) := by decide +kernel
theorem c_295_11 : pg_cd 295 11 = (42, 6, 53, 0, 0) := by decide +kernel
theorem c_295_64 : pg_cd 295 64 = (5, 1, 0, 0, 0) := by decide +kernel
theorem c_295_65 : pg_cd 295 65 = (3, 1, 0, 1, 0) := by decide +kernel
theorem c_295_66 : pg_cd 295 66 = (1, 1, 0, 0, 0) := by decide +kernel
theorem c_295_67 : pg_cd 295 67 = (80, 198, 118, 0, 0) := by decide +kernel
theorem c_295_70 : pg_cd 295 70 = (90, 0, 0, 0, 0) := by decide +kernel
theorem c_295_71 : pg_cd 295 71 = (5, 1, 0, 0, 0) := by decide +kernel
theorem c_295_72 : pg_cd 295 72 = (3, 1, 0, 1, 0) := by decide +kernel
theorem c_295_73 : pg_cd 295 73 = (1, 1, 0, 0, (-1)) := by decide +kernel
theorem c_295_74 : pg_cd 295 74 = (80, 215, 121, 0, 0) := by decide +kernel
theorem c_295_77 : pg_cd 295 77 = (90, 0, 0, 0, 0) := by decide +kernel
theorem c_295_78 : pg_cd 295 78 = (5, 1, 0, 0, 0) := by decide +kernel
theorem c_295_79 : pg_cd 295 79 = (3, 1, 0, 1, 0) := by decide +kernel
theorem c_295_80 : pg_cd 295 80 = (1, 1, 0, 0, 2) := by decide +kernel
theorem c_295_81 : pg_cd 295 81 = (80, 198, 118, 0, 0) := by decide +kernel
theorem c_295_84 : pg_cd 295 84 = (90, 0, 0, 0, 0) := by decide +kernel
theorem c_295_85 : pg_cd 295 85 = (5, 1, 0, 0, 0) := by decide +kernel
theorem c_295_86 : pg_cd 295 86 = (3, 1, 0, 1, 0) := by decide +kernel
theorem c_295_87 : pg_cd 295 87 = (1, 1, 0, 0, 4) := by decide +kernel
theorem c_295_88 : pg_cd 295 88 = (80, 198, 118, 0, 0) := by decide +kernel
theorem c_295_91 : pg_cd 295 91 = (90, 0, 0, 0, 0) := by decide +kernel
theorem c_295_92 : pg_cd 295 92 = (5, 1, 0, 0, 0) := by decide +kernel
theorem c_295_93 : pg_cd 295 93 = (3, 1, 0, 1, 0) := by decide +kernel
theorem c_295_94 : pg_cd 295 94 = (1, 1, 0, 0, 5) := by decide +kernel
theorem c_295_95 : pg_cd 295 95 = (80, 198, 118, 0, 0) := by decide +kernel
theorem c_295_98 : pg_cd 295 98 = (90, 0, 0, 0, 0) := by decide +kernel
theorem c_295_99 : pg_cd 295 99 = (5, 1, 0, 0, 0) := by decide +kernel
theorem c_295_100 : pg_cd 295 100 = (3, 1, 0, 1, 0) := by decide +kernel
theorem c_295_101 : pg_cd 295 101 = (1, 2, 0, 0, 6) := by decide +kernel
theorem c_295_103 : pg_cd 295 103 = (80, 198, 118, 0, 0) := by decide +kernel
theorem c_295_106 : pg_cd 295 106 = (90, 0, 0, 0, 0) := by decide +kernel
theorem c_295_107 : pg_cd 295 107 = (5, 1, 0, 0, 0) := by decide +kernel
theorem c_295_108 : pg_cd 295 108 = (3, 1, 0, 1, 0) := by decide +kernel
theorem c_295_109 : pg_cd 295 109 = (1, 2, 0, 0, 7) := by decide +kernel
theorem c_295_111 : pg_cd 295 111 = (80, 198, 118, 0, 0) := by decide +kernel
theorem c_295_114 : pg_cd 295 114 = (90, 0, 0, 0, 0) := by decide +kernel
theorem c_295_115 : pg_cd 295 115 = (5, 1, 0, 0, 0) := by decide +kernel
theorem c_295_116 : pg_cd 295 116 = (3, 1, 0, 1, 0) := by decide +kernel
theorem c_295_117 : pg_cd 295 117 = (1, 2, 0, 0, 8) := by decide +kernel
theorem c_295_119 : pg_cd 295 119 = (80, 198, 118, 0, 0) := by decide +kernel
theorem c_295_122 : pg_cd 295 122 = (90, 0, 0, 0, 0) := by decide +kernel
theorem c_295_123 : pg_cd 295 123 = (5, 1, 0, 0, 0) := by decide +kernel
theorem c_295_124 : pg_cd 295 124 = (3, 1, 0, 1, 0) := by decide +kernel
theorem c_295_125 : pg_cd 295 125 = (1, 2, 0, 0, 9) := by decide +kernel
theorem c_295_127 : pg_cd 295 127 = (80, 198, 118, 0, 0) := by decide +kernel
theorem c_295_130 : pg_cd 295 130 = (90, 0, 0, 0, 0) := by decide +kernel
theorem c_295_131 : pg_cd 295 131 = (5, 1, 0, 0, 0) := by decide +kernel
theorem c_295_132 : pg_cd 295 132 = (3, 1, 0, 1, 0) := by decide +kernel
theorem c_295_133 : pg_cd 295 133 = (1, 2, 0, 0, 10) := by decide +kernel
theorem c_295_135 : pg_cd 295 135 = (80, 198, 118, 0, 0) := by decide +kernel
theorem c_295_138 : pg_cd 295 138 = (90, 0, 0, 0, 0) := by decide +kernel
theorem c_295_139 : pg_cd 295 139 = (1, 1, 0, 0, (-1)) := by decide +kernel
theorem c_295_140 : pg_cd 295 140 = (90, 0, 0, 0, 0) := by decide +kernel
theorem mx_295 : pg_mx 295 = 3 := by decide +kernel
theorem m_295 {d : Nat} {h : ab_H} {Q : Option Value → ab_H → Prop} {x0 : Nat} {x1 : Int32} {x2 : Int32} (t : wq d 295 0 [.ref x0, .int x1, .int x2] [] h Q) : wm d 295 [.ref x0, .int x1, .int x2] h Q := by
  unfold wm
  rw [mx_295]
  exact t
set_option maxRecDepth 20000 in
theorem t_295_0 {d : Nat} {h : ab_H} {Q : Option Value → ab_H → Prop} {x0 : Nat} {x1 : Int32} {x2 : Int32} (t : ab_ok h x0 112 = true ∧ wm d 201 [.ref x0, .int x1] h (fun r9 h9 => wq (d + 1) 295 5 [.ref x0, .int x1, .int x2] (r9.toList ++ []) h9 Q)) : wq (d + 1) 295 0 [.ref x0, .int x1, .int x2] [] h Q := by
  refine g5 c_295_0 rfl ?_
  refine g3 c_295_1 rfl ?_
  exact g80 (As := [.int x1]) (rest := []) c_295_2 rfl rfl (Nat.le_of_ble_eq_true rfl) (Nat.le_of_ble_eq_true rfl) t.1 t.2
set_option maxRecDepth 20000 in
theorem t_295_5 {d : Nat} {h : ab_H} {Q : Option Value → ab_H → Prop} {x0 : Nat} {x1 : Int32} {x2 : Int32} {s0 : Int32} (t : if s0 = 0 then (Q (some (.int (-1))) h) else (if x2 = 0 then (ab_ok h x0 112 = true ∧ wm d 198 [.ref x0, .int x1, .int 0] h (fun r9 h9 => wq (d + 1) 295 70 [.ref x0, .int x1, .int x2] (r9.toList ++ []) h9 Q)) else (if x2 = 1 then (ab_ok h x0 112 = true ∧ wm d 215 [.ref x0, .int x1, .int (-1)] h (fun r9 h9 => wq (d + 1) 295 77 [.ref x0, .int x1, .int x2] (r9.toList ++ []) h9 Q)) else (if x2 = 2 then (ab_ok h x0 112 = true ∧ wm d 198 [.ref x0, .int x1, .int 2] h (fun r9 h9 => wq (d + 1) 295 84 [.ref x0, .int x1, .int x2] (r9.toList ++ []) h9 Q)) else (if x2 = 3 then (ab_ok h x0 112 = true ∧ wm d 198 [.ref x0, .int x1, .int 4] h (fun r9 h9 => wq (d + 1) 295 91 [.ref x0, .int x1, .int x2] (r9.toList ++ []) h9 Q)) else (if x2 = 4 then (ab_ok h x0 112 = true ∧ wm d 198 [.ref x0, .int x1, .int 5] h (fun r9 h9 => wq (d + 1) 295 98 [.ref x0, .int x1, .int x2] (r9.toList ++ []) h9 Q)) else (if x2 = 5 then (ab_ok h x0 112 = true ∧ wm d 198 [.ref x0, .int x1, .int 6] h (fun r9 h9 => wq (d + 1) 295 106 [.ref x0, .int x1, .int x2] (r9.toList ++ []) h9 Q)) else (if x2 = 6 then (ab_ok h x0 112 = true ∧ wm d 198 [.ref x0, .int x1, .int 7] h (fun r9 h9 => wq (d + 1) 295 114 [.ref x0, .int x1, .int x2] (r9.toList ++ []) h9 Q)) else (if x2 = 7 then (ab_ok h x0 112 = true ∧ wm d 198 [.ref x0, .int x1, .int 8] h (fun r9 h9 => wq (d + 1) 295 122 [.ref x0, .int x1, .int x2] (r9.toList ++ []) h9 Q)) else (if x2 = 8 then (ab_ok h x0 112 = true ∧ wm d 198 [.ref x0, .int x1, .int 9] h (fun r9 h9 => wq (d + 1) 295 130 [.ref x0, .int x1, .int x2] (r9.toList ++ []) h9 Q)) else (if x2 = 9 then (ab_ok h x0 112 = true ∧ wm d 198 [.ref x0, .int x1, .int 10] h (fun r9 h9 => wq (d + 1) 295 138 [.ref x0, .int x1, .int x2] (r9.toList ++ []) h9 Q)) else (Q (some (.int (-1))) h)))))))))))) : wq (d + 1) 295 5 [.ref x0, .int x1, .int x2] [.int s0] h Q := by
  refine gif c_295_5 (gbn t (ab_c1 _ _) rfl (fun hc t => ?_) (fun hc t => ?_))
  · refine g1 c_295_8 k_m1 ?_
    exact g90 c_295_9 t
  · refine g3 c_295_10 rfl ?_
    by_cases e0 : x2 = 0
    · rw [if_pos e0] at t
      refine g42 (o := 53) c_295_11 sw_6 (by rw [e0]; decide) (by rw [e0]; decide) rfl ?_
      refine g5 c_295_64 rfl ?_
      refine g3 c_295_65 rfl ?_
      refine g1 c_295_66 k_0 ?_
      exact g80 (As := [.int x1, .int 0]) (rest := []) c_295_67 rfl rfl (Nat.le_of_ble_eq_true rfl) (Nat.le_of_ble_eq_true rfl) t.1 t.2
    rw [if_neg e0] at t
    by_cases e1 : x2 = 1
    · rw [if_pos e1] at t
      refine g42 (o := 60) c_295_11 sw_6 (by rw [e1]; decide) (by rw [e1]; decide) rfl ?_
      refine g5 c_295_71 rfl ?_
      refine g3 c_295_72 rfl ?_
      refine g1 c_295_73 k_m1 ?_
      exact g80 (As := [.int x1, .int (-1)]) (rest := []) c_295_74 rfl rfl (Nat.le_of_ble_eq_true rfl) (Nat.le_of_ble_eq_true rfl) t.1 t.2
    rw [if_neg e1] at t
    by_cases e2 : x2 = 2
    · rw [if_pos e2] at t
      refine g42 (o := 67) c_295_11 sw_6 (by rw [e2]; decide) (by rw [e2]; decide) rfl ?_
      refine g5 c_295_78 rfl ?_
      refine g3 c_295_79 rfl ?_
      refine g1 c_295_80 k_2 ?_
      exact g80 (As := [.int x1, .int 2]) (rest := []) c_295_81 rfl rfl (Nat.le_of_ble_eq_true rfl) (Nat.le_of_ble_eq_true rfl) t.1 t.2
    rw [if_neg e2] at t
    by_cases e3 : x2 = 3
    · rw [if_pos e3] at t
      refine g42 (o := 74) c_295_11 sw_6 (by rw [e3]; decide) (by rw [e3]; decide) rfl ?_
      refine g5 c_295_85 rfl ?_
      refine g3 c_295_86 rfl ?_
      refine g1 c_295_87 k_4 ?_
      exact g80 (As := [.int x1, .int 4]) (rest := []) c_295_88 rfl rfl (Nat.le_of_ble_eq_true rfl) (Nat.le_of_ble_eq_true rfl) t.1 t.2
    rw [if_neg e3] at t
    by_cases e4 : x2 = 4
    · rw [if_pos e4] at t
      refine g42 (o := 81) c_295_11 sw_6 (by rw [e4]; decide) (by rw [e4]; decide) rfl ?_
      refine g5 c_295_92 rfl ?_
      refine g3 c_295_93 rfl ?_
      refine g1 c_295_94 k_5 ?_
      exact g80 (As := [.int x1, .int 5]) (rest := []) c_295_95 rfl rfl (Nat.le_of_ble_eq_true rfl) (Nat.le_of_ble_eq_true rfl) t.1 t.2
    rw [if_neg e4] at t
    by_cases e5 : x2 = 5
    · rw [if_pos e5] at t
      refine g42 (o := 88) c_295_11 sw_6 (by rw [e5]; decide) (by rw [e5]; decide) rfl ?_
      refine g5 c_295_99 rfl ?_
      refine g3 c_295_100 rfl ?_
      refine g1 c_295_101 k_6 ?_
      exact g80 (As := [.int x1, .int 6]) (rest := []) c_295_103 rfl rfl (Nat.le_of_ble_eq_true rfl) (Nat.le_of_ble_eq_true rfl) t.1 t.2
    rw [if_neg e5] at t
    by_cases e6 : x2 = 6
    · rw [if_pos e6] at t
      refine g42 (o := 96) c_295_11 sw_6 (by rw [e6]; decide) (by rw [e6]; decide) rfl ?_
      refine g5 c_295_107 rfl ?_
      refine g3 c_295_108 rfl ?_
      refine g1 c_295_109 k_7 ?_
      exact g80 (As := [.int x1, .int 7]) (rest := []) c_295_111 rfl rfl (Nat.le_of_ble_eq_true rfl) (Nat.le_of_ble_eq_true rfl) t.1 t.2
    rw [if_neg e6] at t
    by_cases e7 : x2 = 7
    · rw [if_pos e7] at t
      refine g42 (o := 104) c_295_11 sw_6 (by rw [e7]; decide) (by rw [e7]; decide) rfl ?_
      refine g5 c_295_115 rfl ?_
      refine g3 c_295_116 rfl ?_
      refine g1 c_295_117 k_8 ?_
      exact g80 (As := [.int x1, .int 8]) (rest := []) c_295_119 rfl rfl (Nat.le_of_ble_eq_true rfl) (Nat.le_of_ble_eq_true rfl) t.1 t.2
    rw [if_neg e7] at t
    by_cases e8 : x2 = 8
    · rw [if_pos e8] at t
      refine g42 (o := 112) c_295_11 sw_6 (by rw [e8]; decide) (by rw [e8]; decide) rfl ?_
      refine g5 c_295_123 rfl ?_
      refine g3 c_295_124 rfl ?_
      refine g1 c_295_125 k_9 ?_
      exact g80 (As := [.int x1, .int 9]) (rest := []) c_295_127 rfl rfl (Nat.le_of_ble_eq_true rfl) (Nat.le_of_ble_eq_true rfl) t.1 t.2
    rw [if_neg e8] at t
    by_cases e9 : x2 = 9
    · rw [if_pos e9] at t
      refine g42 (o := 120) c_295_11 sw_6 (by rw [e9]; decide) (by rw [e9]; decide) rfl ?_
      refine g5 c_295_131 rfl ?_
      refine g3 c_295_132 rfl ?_
      refine g1 c_295_133 k_10 ?_
      exact g80 (As := [.int x1, .int 10]) (rest := []) c_295_135 rfl rfl (Nat.le_of_ble_eq_true rfl) (Nat.le_of_ble_eq_true rfl) t.1 t.2
    rw [if_neg e9] at t
    refine g42d c_295_11 sw_6 (gsw_out (n := 10) (by decide) (by decide) (fun i hi => ?_)) rfl ?_
    · rcases (show i = 0 ∨ i = 1 ∨ i = 2 ∨ i = 3 ∨ i = 4 ∨ i = 5 ∨ i = 6 ∨ i = 7 ∨ i = 8 ∨ i = 9 by omega) with rfl | rfl | rfl | rfl | rfl | rfl | rfl | rfl | rfl | rfl
      · exact fun q => e0 (q.trans k_0)
      · exact fun q => e1 (q.trans k_1)
      · exact fun q => e2 (q.trans k_2)
      · exact fun q => e3 (q.trans k_3)
      · exact fun q => e4 (q.trans k_4)
      · exact fun q => e5 (q.trans k_5)
      · exact fun q => e6 (q.trans k_6)
      · exact fun q => e7 (q.trans k_7)
      · exact fun q => e8 (q.trans k_8)
      · exact fun q => e9 (q.trans k_9)
    refine g1 c_295_139 k_m1 ?_
    exact g90 c_295_140 t
set_option maxRecDepth 20000 in
theorem t_295_70 {d : Nat} {h : ab_H} {Q : Option Value → ab_H → Prop} {x0 : Nat} {x1 : Int32} {x2 : Int32} {s0 : Int32} (t : Q (some (.int s0)) h) : wq d 295 70 [.ref x0, .int x1, .int x2] [.int s0] h Q := by
  exact g90 c_295_70 t
set_option maxRecDepth 20000 in
theorem t_295_77 {d : Nat} {h : ab_H} {Q : Option Value → ab_H → Prop} {x0 : Nat} {x1 : Int32} {x2 : Int32} {s0 : Int32} (t : Q (some (.int s0)) h) : wq d 295 77 [.ref x0, .int x1, .int x2] [.int s0] h Q := by
  exact g90 c_295_77 t
set_option maxRecDepth 20000 in
theorem t_295_84 {d : Nat} {h : ab_H} {Q : Option Value → ab_H → Prop} {x0 : Nat} {x1 : Int32} {x2 : Int32} {s0 : Int32} (t : Q (some (.int s0)) h) : wq d 295 84 [.ref x0, .int x1, .int x2] [.int s0] h Q := by
  exact g90 c_295_84 t
set_option maxRecDepth 20000 in
theorem t_295_91 {d : Nat} {h : ab_H} {Q : Option Value → ab_H → Prop} {x0 : Nat} {x1 : Int32} {x2 : Int32} {s0 : Int32} (t : Q (some (.int s0)) h) : wq d 295 91 [.ref x0, .int x1, .int x2] [.int s0] h Q := by
  exact g90 c_295_91 t
set_option maxRecDepth 20000 in
theorem t_295_98 {d : Nat} {h : ab_H} {Q : Option Value → ab_H → Prop} {x0 : Nat} {x1 : Int32} {x2 : Int32} {s0 : Int32} (t : Q (some (.int s0)) h) : wq d 295 98 [.ref x0, .int x1, .int x2] [.int s0] h Q := by
  exact g90 c_295_98 t
set_option maxRecDepth 20000 in
theorem t_295_106 {d : Nat} {h : ab_H} {Q : Option Value → ab_H → Prop} {x0 : Nat} {x1 : Int32} {x2 : Int32} {s0 : Int32} (t : Q (some (.int s0)) h) : wq d 295 106 [.ref x0, .int x1, .int x2] [.int s0] h Q := by
  exact g90 c_295_106 t
set_option maxRecDepth 20000 in
theorem t_295_114 {d : Nat} {h : ab_H} {Q : Option Value → ab_H → Prop} {x0 : Nat} {x1 : Int32} {x2 : Int32} {s0 : Int32} (t : Q (some (.int s0)) h) : wq d 295 114 [.ref x0, .int x1, .int x2] [.int s0] h Q := by
  exact g90 c_295_114 t
set_option maxRecDepth 20000 in
theorem t_295_122 {d : Nat} {h : ab_H} {Q : Option Value → ab_H → Prop} {x0 : Nat} {x1 : Int32} {x2 : Int32} {s0 : Int32} (t : Q (some (.int s0)) h) : wq d 295 122 [.ref x0, .int x1, .int x2] [.int s0] h Q := by
  exact g90 c_295_122 t
set_option maxRecDepth 20000 in
theorem t_295_130 {d : Nat} {h : ab_H} {Q : Option Value → ab_H → Prop} {x0 : Nat} {x1 : Int32} {x2 : Int32} {s0 : Int32} (t : Q (some (.int s0)) h) : wq d 295 130 [.ref x0, .int x1, .int x2] [.int s0] h Q := by
  exact g90 c_295_130 t
set_option maxRecDepth 20000 in
theorem t_295_138 {d : Nat} {h : ab_H} {Q : Option Value → ab_H → Prop} {x0 : Nat} {x1 : Int32} {x2 : Int32} {s0 : Int32} (t : Q (some (.int s0)) h) : wq d 295 138 [.ref x0, .int x1, .int x2] [.int s0] h Q := by
  exact g90 c_295_138 t
-- method 296: MillTownModel.lately(II)I
theorem c_296_0 : pg_cd 296 0 = (5, 1, 0, 0, 0) := by decide +kernel
theorem c_296_1 : pg_cd 296 1 = (45, 12, 8, 0, 0) := by decide +kernel
theorem c_296_4 : pg_cd 296 4 = (1, 1, 0, 0, 0) := by decide +kernel
theorem c_296_5 : pg_cd 296 5 = (50, 1, 0, 0, 0) := by decide +kernel
theorem c_296_6 : pg_cd 296 6 = (36, 3, 0, 1, 7) := by decide +kernel
theorem c_296_9 : pg_cd 296 9 = (1, 1, 0, 0, 0) := by decide +kernel
theorem c_296_10 : pg_cd 296 10 = (38, 3, 0, 0, 23) := by decide +kernel
theorem c_296_13 : pg_cd 296 13 = (5, 1, 0, 0, 0) := by decide +kernel
theorem c_296_14 : pg_cd 296 14 = (45, 12, 8, 0, 0) := by decide +kernel
theorem c_296_17 : pg_cd 296 17 = (3, 1, 0, 1, 0) := by decide +kernel
theorem c_296_18 : pg_cd 296 18 = (1, 2, 0, 0, 24) := by decide +kernel
theorem c_296_20 : pg_cd 296 20 = (5, 1, 0, 0, 0) := by decide +kernel
theorem c_296_21 : pg_cd 296 21 = (45, 12, 8, 0, 0) := by decide +kernel
theorem c_296_24 : pg_cd 296 24 = (1, 1, 0, 0, 0) := by decide +kernel
theorem c_296_25 : pg_cd 296 25 = (50, 1, 0, 0, 0) := by decide +kernel
theorem c_296_26 : pg_cd 296 26 = (1, 1, 0, 0, 1) := by decide +kernel
theorem c_296_27 : pg_cd 296 27 = (11, 1, 0, 0, 0) := by decide +kernel
theorem c_296_28 : pg_cd 296 28 = (12, 1, 0, 0, 0) := by decide +kernel
theorem c_296_29 : pg_cd 296 29 = (10, 1, 0, 0, 0) := by decide +kernel
theorem c_296_30 : pg_cd 296 30 = (3, 1, 0, 2, 0) := by decide +kernel
theorem c_296_31 : pg_cd 296 31 = (10, 1, 0, 0, 0) := by decide +kernel
theorem c_296_32 : pg_cd 296 32 = (50, 1, 0, 0, 0) := by decide +kernel
theorem c_296_33 : pg_cd 296 33 = (90, 0, 0, 0, 0) := by decide +kernel
theorem mx_296 : pg_mx 296 = 3 := by decide +kernel
theorem m_296 {d : Nat} {h : ab_H} {Q : Option Value → ab_H → Prop} {x0 : Nat} {x1 : Int32} {x2 : Int32} (t : wq d 296 0 [.ref x0, .int x1, .int x2] [] h Q) : wm d 296 [.ref x0, .int x1, .int x2] h Q := by
  unfold wm
  rw [mx_296]
  exact t
set_option maxRecDepth 20000 in
theorem t_296_0 {d : Nat} {h : ab_H} {Q : Option Value → ab_H → Prop} {x0 : Nat} {x1 : Int32} {x2 : Int32} (t : ab_ok h x0 112 = true ∧ ∃ j1 : Nat, ab_r h x0 0 = some j1 ∧ ((j1 = 0 ∨ ab_ok h j1 0 = true) ∧ ab_in (0 : Int32) (ab_s h j1).2 = true) ∧ if (ab_i h j1 (Int32.toNatClampNeg (0 : Int32))) = 0 then (Q (some (.int 0)) h) else (ab_ok h x0 112 = true ∧ ∃ j2 : Nat, ab_r h x0 0 = some j2 ∧ ab_ok h x0 112 = true ∧ ∃ j3 : Nat, ab_r h x0 0 = some j3 ∧ ((j3 = 0 ∨ ab_ok h j3 0 = true) ∧ ab_in (0 : Int32) (ab_s h j3).2 = true) ∧ ((j2 = 0 ∨ ab_ok h j2 0 = true) ∧ ab_in ((x1 + (24 * ((ab_i h j3 (Int32.toNatClampNeg (0 : Int32))) - 1))) + x2) (ab_s h j2).2 = true) ∧ Q (some (.int (ab_i h j2 (Int32.toNatClampNeg ((x1 + (24 * ((ab_i h j3 (Int32.toNatClampNeg (0 : Int32))) - 1))) + x2))))) h)) : wq d 296 0 [.ref x0, .int x1, .int x2] [] h Q := by
  refine g5 c_296_0 rfl ?_
  obtain ⟨ho, j1, hr, t⟩ := t
  refine g45 c_296_1 ho hr ?_
  refine g1 c_296_4 k_0 ?_
  obtain ⟨ho, t⟩ := t
  refine g50 c_296_5 ho ?_
  refine gif c_296_6 (gbn t (ab_c1 _ _) rfl (fun hc t => ?_) (fun hc t => ?_))
  · refine g1 c_296_9 k_0 ?_
    refine g38 c_296_10 rfl ?_
    exact g90 c_296_33 t
  · refine g5 c_296_13 rfl ?_
    obtain ⟨ho, j2, hr, t⟩ := t
    refine g45 c_296_14 ho hr ?_
    refine g3 c_296_17 rfl ?_
    refine g1 c_296_18 k_24 ?_
    refine g5 c_296_20 rfl ?_
    obtain ⟨ho, j3, hr, t⟩ := t
    refine g45 c_296_21 ho hr ?_
    refine g1 c_296_24 k_0 ?_
    obtain ⟨ho, t⟩ := t
    refine g50 c_296_25 ho ?_
    refine g1 c_296_26 k_1 ?_
    refine g11 c_296_27 ?_
    refine g12 c_296_28 ?_
    refine g10 c_296_29 ?_
    refine g3 c_296_30 rfl ?_
    refine g10 c_296_31 ?_
    obtain ⟨ho, t⟩ := t
    refine g50 c_296_32 ho ?_
    exact g90 c_296_33 t
-- method 297: MillTownModel.homeOf(II)I
theorem c_297_0 : pg_cd 297 0 = (5, 1, 0, 0, 0) := by decide +kernel
theorem c_297_1 : pg_cd 297 1 = (3, 1, 0, 1, 0) := by decide +kernel
theorem c_297_2 : pg_cd 297 2 = (80, 202, 96, 0, 0) := by decide +kernel
theorem c_297_5 : pg_cd 297 5 = (36, 3, 0, 1, 5) := by decide +kernel
theorem c_297_8 : pg_cd 297 8 = (1, 1, 0, 0, (-1)) := by decide +kernel
theorem c_297_9 : pg_cd 297 9 = (90, 0, 0, 0, 0) := by decide +kernel
theorem c_297_10 : pg_cd 297 10 = (1, 1, 0, 0, 0) := by decide +kernel
theorem c_297_11 : pg_cd 297 11 = (6, 1, 0, 3, 0) := by decide +kernel
theorem c_297_12 : pg_cd 297 12 = (3, 1, 0, 2, 0) := by decide +kernel
theorem c_297_13 : pg_cd 297 13 = (42, 7, 43, 0, 0) := by decide +kernel
theorem c_297_56 : pg_cd 297 56 = (5, 1, 0, 0, 0) := by decide +kernel
theorem c_297_57 : pg_cd 297 57 = (3, 1, 0, 1, 0) := by decide +kernel
theorem c_297_58 : pg_cd 297 58 = (1, 1, 0, 0, 1) := by decide +kernel
theorem c_297_59 : pg_cd 297 59 = (80, 200, 99, 0, 0) := by decide +kernel
theorem c_297_62 : pg_cd 297 62 = (90, 0, 0, 0, 0) := by decide +kernel
theorem c_297_63 : pg_cd 297 63 = (5, 1, 0, 0, 0) := by decide +kernel
theorem c_297_64 : pg_cd 297 64 = (3, 1, 0, 1, 0) := by decide +kernel
theorem c_297_65 : pg_cd 297 65 = (1, 1, 0, 0, 2) := by decide +kernel
theorem c_297_66 : pg_cd 297 66 = (80, 200, 99, 0, 0) := by decide +kernel
theorem c_297_69 : pg_cd 297 69 = (90, 0, 0, 0, 0) := by decide +kernel
theorem c_297_70 : pg_cd 297 70 = (5, 1, 0, 0, 0) := by decide +kernel
theorem c_297_71 : pg_cd 297 71 = (3, 1, 0, 1, 0) := by decide +kernel
theorem c_297_72 : pg_cd 297 72 = (1, 1, 0, 0, 3) := by decide +kernel
theorem c_297_73 : pg_cd 297 73 = (80, 200, 99, 0, 0) := by decide +kernel
theorem c_297_76 : pg_cd 297 76 = (90, 0, 0, 0, 0) := by decide +kernel
theorem c_297_77 : pg_cd 297 77 = (5, 1, 0, 0, 0) := by decide +kernel
theorem c_297_78 : pg_cd 297 78 = (3, 1, 0, 1, 0) := by decide +kernel
theorem c_297_79 : pg_cd 297 79 = (80, 288, 370, 0, 0) := by decide +kernel
theorem c_297_82 : pg_cd 297 82 = (90, 0, 0, 0, 0) := by decide +kernel
theorem c_297_83 : pg_cd 297 83 = (1, 1, 0, 0, 0) := by decide +kernel
theorem c_297_84 : pg_cd 297 84 = (6, 2, 0, 4, 0) := by decide +kernel
theorem c_297_86 : pg_cd 297 86 = (3, 2, 0, 4, 0) := by decide +kernel
theorem c_297_88 : pg_cd 297 88 = (5, 1, 0, 0, 0) := by decide +kernel
theorem c_297_89 : pg_cd 297 89 = (45, 12, 8, 0, 0) := by decide +kernel
theorem c_297_92 : pg_cd 297 92 = (1, 1, 0, 0, 4) := by decide +kernel
theorem c_297_93 : pg_cd 297 93 = (50, 1, 0, 0, 0) := by decide +kernel
theorem c_297_94 : pg_cd 297 94 = (37, 3, 0, 3, 28) := by decide +kernel
theorem c_297_97 : pg_cd 297 97 = (3, 1, 0, 3, 0) := by decide +kernel
theorem c_297_98 : pg_cd 297 98 = (5, 1, 0, 0, 0) := by decide +kernel
theorem c_297_99 : pg_cd 297 99 = (3, 2, 0, 4, 0) := by decide +kernel
theorem c_297_101 : pg_cd 297 101 = (1, 1, 0, 0, 0) := by decide +kernel
theorem c_297_102 : pg_cd 297 102 = (80, 199, 102, 0, 0) := by decide +kernel
theorem c_297_105 : pg_cd 297 105 = (3, 1, 0, 1, 0) := by decide +kernel
theorem c_297_106 : pg_cd 297 106 = (37, 3, 0, 1, 7) := by decide +kernel
theorem c_297_109 : pg_cd 297 109 = (1, 1, 0, 0, 1) := by decide +kernel
theorem c_297_110 : pg_cd 297 110 = (38, 3, 0, 0, 4) := by decide +kernel
theorem c_297_113 : pg_cd 297 113 = (1, 1, 0, 0, 0) := by decide +kernel
theorem c_297_114 : pg_cd 297 114 = (10, 1, 0, 0, 0) := by decide +kernel
theorem c_297_115 : pg_cd 297 115 = (6, 1, 0, 3, 0) := by decide +kernel
theorem c_297_116 : pg_cd 297 116 = (9, 3, 0, 4, 1) := by decide +kernel
theorem c_297_119 : pg_cd 297 119 = (38, 3, 0, 0, (-33)) := by decide +kernel
theorem c_297_122 : pg_cd 297 122 = (3, 1, 0, 3, 0) := by decide +kernel
theorem c_297_123 : pg_cd 297 123 = (90, 0, 0, 0, 0) := by decide +kernel
theorem c_297_124 : pg_cd 297 124 = (5, 1, 0, 0, 0) := by decide +kernel
theorem c_297_125 : pg_cd 297 125 = (1, 3, 0, 0, 22300) := by decide +kernel
theorem c_297_128 : pg_cd 297 128 = (3, 1, 0, 1, 0) := by decide +kernel
theorem c_297_129 : pg_cd 297 129 = (80, 296, 411, 0, 0) := by decide +kernel
theorem c_297_132 : pg_cd 297 132 = (90, 0, 0, 0, 0) := by decide +kernel
theorem c_297_133 : pg_cd 297 133 = (5, 1, 0, 0, 0) := by decide +kernel
theorem c_297_134 : pg_cd 297 134 = (1, 3, 0, 0, 31900) := by decide +kernel
theorem c_297_137 : pg_cd 297 137 = (3, 1, 0, 1, 0) := by decide +kernel
theorem c_297_138 : pg_cd 297 138 = (80, 296, 411, 0, 0) := by decide +kernel
theorem c_297_141 : pg_cd 297 141 = (90, 0, 0, 0, 0) := by decide +kernel
theorem c_297_142 : pg_cd 297 142 = (1, 1, 0, 0, (-1)) := by decide +kernel
theorem c_297_143 : pg_cd 297 143 = (90, 0, 0, 0, 0) := by decide +kernel
theorem mx_297 : pg_mx 297 = 5 := by decide +kernel
theorem m_297 {d : Nat} {h : ab_H} {Q : Option Value → ab_H → Prop} {x0 : Nat} {x1 : Int32} {x2 : Int32} (t : wq d 297 0 [.ref x0, .int x1, .int x2, .retAddr 0, .retAddr 0] [] h Q) : wm d 297 [.ref x0, .int x1, .int x2] h Q := by
  unfold wm
  rw [mx_297]
  exact t
set_option maxRecDepth 20000 in
theorem t_297_0 {d : Nat} {h : ab_H} {Q : Option Value → ab_H → Prop} {x0 : Nat} {x1 : Int32} {x2 : Int32} (t : ab_ok h x0 112 = true ∧ wm d 202 [.ref x0, .int x1] h (fun r9 h9 => wq (d + 1) 297 5 [.ref x0, .int x1, .int x2, .retAddr 0, .retAddr 0] (r9.toList ++ []) h9 Q)) : wq (d + 1) 297 0 [.ref x0, .int x1, .int x2, .retAddr 0, .retAddr 0] [] h Q := by
  refine g5 c_297_0 rfl ?_
  refine g3 c_297_1 rfl ?_
  exact g80 (As := [.int x1]) (rest := []) c_297_2 rfl rfl (Nat.le_of_ble_eq_true rfl) (Nat.le_of_ble_eq_true rfl) t.1 t.2
set_option maxRecDepth 20000 in
theorem t_297_5 {d : Nat} {h : ab_H} {Q : Option Value → ab_H → Prop} {x0 : Nat} {x1 : Int32} {x2 : Int32} {s0 : Int32} (t : if s0 = 0 then (Q (some (.int (-1))) h) else (if x2 = 0 then (ab_ok h x0 112 = true ∧ wm d 200 [.ref x0, .int x1, .int 1] h (fun r9 h9 => wq (d + 1) 297 62 [.ref x0, .int x1, .int x2, .int 0, .retAddr 0] (r9.toList ++ []) h9 Q)) else (if x2 = 1 then (ab_ok h x0 112 = true ∧ wm d 200 [.ref x0, .int x1, .int 2] h (fun r9 h9 => wq (d + 1) 297 69 [.ref x0, .int x1, .int x2, .int 0, .retAddr 0] (r9.toList ++ []) h9 Q)) else (if x2 = 2 then (ab_ok h x0 112 = true ∧ wm d 200 [.ref x0, .int x1, .int 3] h (fun r9 h9 => wq (d + 1) 297 76 [.ref x0, .int x1, .int x2, .int 0, .retAddr 0] (r9.toList ++ []) h9 Q)) else (if x2 = 3 then (ab_ok h x0 112 = true ∧ wm d 288 [.ref x0, .int x1] h (fun r9 h9 => wq (d + 1) 297 82 [.ref x0, .int x1, .int x2, .int 0, .retAddr 0] (r9.toList ++ []) h9 Q)) else (if x2 = 4 then (wq (d + 1) 297 86 [.ref x0, .int x1, .int x2, .int 0, .int 0] [] h Q) else (if x2 = 5 then (ab_ok h x0 112 = true ∧ wm d 296 [.ref x0, .int 22300, .int x1] h (fun r9 h9 => wq (d + 1) 297 132 [.ref x0, .int x1, .int x2, .int 0, .retAddr 0] (r9.toList ++ []) h9 Q)) else (if x2 = 6 then (ab_ok h x0 112 = true ∧ wm d 296 [.ref x0, .int 31900, .int x1] h (fun r9 h9 => wq (d + 1) 297 141 [.ref x0, .int x1, .int x2, .int 0, .retAddr 0] (r9.toList ++ []) h9 Q)) else (Q (some (.int (-1))) h))))))))) : wq (d + 1) 297 5 [.ref x0, .int x1, .int x2, .retAddr 0, .retAddr 0] [.int s0] h Q := by
  refine gif c_297_5 (gbn t (ab_c1 _ _) rfl (fun hc t => ?_) (fun hc t => ?_))
  · refine g1 c_297_8 k_m1 ?_
    exact g90 c_297_9 t
  · refine g1 c_297_10 k_0 ?_
    refine g6 (L' := [.ref x0, .int x1, .int x2, .int 0, .retAddr 0]) c_297_11 rfl ?_
    refine g3 c_297_12 rfl ?_
    by_cases e0 : x2 = 0
    · rw [if_pos e0] at t
      refine g42 (o := 43) c_297_13 sw_7 (by rw [e0]; decide) (by rw [e0]; decide) rfl ?_
      refine g5 c_297_56 rfl ?_
      refine g3 c_297_57 rfl ?_
      refine g1 c_297_58 k_1 ?_
      exact g80 (As := [.int x1, .int 1]) (rest := []) c_297_59 rfl rfl (Nat.le_of_ble_eq_true rfl) (Nat.le_of_ble_eq_true rfl) t.1 t.2
    rw [if_neg e0] at t
    by_cases e1 : x2 = 1
    · rw [if_pos e1] at t
      refine g42 (o := 50) c_297_13 sw_7 (by rw [e1]; decide) (by rw [e1]; decide) rfl ?_
      refine g5 c_297_63 rfl ?_
      refine g3 c_297_64 rfl ?_
      refine g1 c_297_65 k_2 ?_
      exact g80 (As := [.int x1, .int 2]) (rest := []) c_297_66 rfl rfl (Nat.le_of_ble_eq_true rfl) (Nat.le_of_ble_eq_true rfl) t.1 t.2
    rw [if_neg e1] at t
    by_cases e2 : x2 = 2
    · rw [if_pos e2] at t
      refine g42 (o := 57) c_297_13 sw_7 (by rw [e2]; decide) (by rw [e2]; decide) rfl ?_
      refine g5 c_297_70 rfl ?_
      refine g3 c_297_71 rfl ?_
      refine g1 c_297_72 k_3 ?_
      exact g80 (As := [.int x1, .int 3]) (rest := []) c_297_73 rfl rfl (Nat.le_of_ble_eq_true rfl) (Nat.le_of_ble_eq_true rfl) t.1 t.2
    rw [if_neg e2] at t
    by_cases e3 : x2 = 3
    · rw [if_pos e3] at t
      refine g42 (o := 64) c_297_13 sw_7 (by rw [e3]; decide) (by rw [e3]; decide) rfl ?_
      refine g5 c_297_77 rfl ?_
      refine g3 c_297_78 rfl ?_
      exact g80 (As := [.int x1]) (rest := []) c_297_79 rfl rfl (Nat.le_of_ble_eq_true rfl) (Nat.le_of_ble_eq_true rfl) t.1 t.2
    rw [if_neg e3] at t
    by_cases e4 : x2 = 4
    · rw [if_pos e4] at t
      refine g42 (o := 70) c_297_13 sw_7 (by rw [e4]; decide) (by rw [e4]; decide) rfl ?_
      refine g1 c_297_83 k_0 ?_
      refine g6 (L' := [.ref x0, .int x1, .int x2, .int 0, .int 0]) c_297_84 rfl ?_
      exact t
    rw [if_neg e4] at t
    by_cases e5 : x2 = 5
    · rw [if_pos e5] at t
      refine g42 (o := 111) c_297_13 sw_7 (by rw [e5]; decide) (by rw [e5]; decide) rfl ?_
      refine g5 c_297_124 rfl ?_
      refine g1 c_297_125 k_22300 ?_
      refine g3 c_297_128 rfl ?_
      exact g80 (As := [.int 22300, .int x1]) (rest := []) c_297_129 rfl rfl (Nat.le_of_ble_eq_true rfl) (Nat.le_of_ble_eq_true rfl) t.1 t.2
    rw [if_neg e5] at t
    by_cases e6 : x2 = 6
    · rw [if_pos e6] at t
      refine g42 (o := 120) c_297_13 sw_7 (by rw [e6]; decide) (by rw [e6]; decide) rfl ?_
      refine g5 c_297_133 rfl ?_
      refine g1 c_297_134 k_31900 ?_
      refine g3 c_297_137 rfl ?_
      exact g80 (As := [.int 31900, .int x1]) (rest := []) c_297_138 rfl rfl (Nat.le_of_ble_eq_true rfl) (Nat.le_of_ble_eq_true rfl) t.1 t.2
    rw [if_neg e6] at t
    refine g42d c_297_13 sw_7 (gsw_out (n := 7) (by decide) (by decide) (fun i hi => ?_)) rfl ?_
    · rcases (show i = 0 ∨ i = 1 ∨ i = 2 ∨ i = 3 ∨ i = 4 ∨ i = 5 ∨ i = 6 by omega) with rfl | rfl | rfl | rfl | rfl | rfl | rfl
      · exact fun q => e0 (q.trans k_0)
      · exact fun q => e1 (q.trans k_1)
      · exact fun q => e2 (q.trans k_2)
      · exact fun q => e3 (q.trans k_3)
      · exact fun q => e4 (q.trans k_4)
      · exact fun q => e5 (q.trans k_5)
      · exact fun q => e6 (q.trans k_6)
    refine g1 c_297_142 k_m1 ?_
    exact g90 c_297_143 t
set_option maxRecDepth 20000 in
theorem t_297_62 {d : Nat} {h : ab_H} {Q : Option Value → ab_H → Prop} {x0 : Nat} {x1 : Int32} {x2 : Int32} {x3 : Int32} {s0 : Int32} (t : Q (some (.int s0)) h) : wq d 297 62 [.ref x0, .int x1, .int x2, .int x3, .retAddr 0] [.int s0] h Q := by
  exact g90 c_297_62 t
set_option maxRecDepth 20000 in
theorem t_297_69 {d : Nat} {h : ab_H} {Q : Option Value → ab_H → Prop} {x0 : Nat} {x1 : Int32} {x2 : Int32} {x3 : Int32} {s0 : Int32} (t : Q (some (.int s0)) h) : wq d 297 69 [.ref x0, .int x1, .int x2, .int x3, .retAddr 0] [.int s0] h Q := by
  exact g90 c_297_69 t
set_option maxRecDepth 20000 in
theorem t_297_76 {d : Nat} {h : ab_H} {Q : Option Value → ab_H → Prop} {x0 : Nat} {x1 : Int32} {x2 : Int32} {x3 : Int32} {s0 : Int32} (t : Q (some (.int s0)) h) : wq d 297 76 [.ref x0, .int x1, .int x2, .int x3, .retAddr 0] [.int s0] h Q := by
  exact g90 c_297_76 t
set_option maxRecDepth 20000 in
theorem t_297_82 {d : Nat} {h : ab_H} {Q : Option Value → ab_H → Prop} {x0 : Nat} {x1 : Int32} {x2 : Int32} {x3 : Int32} {s0 : Int32} (t : Q (some (.int s0)) h) : wq d 297 82 [.ref x0, .int x1, .int x2, .int x3, .retAddr 0] [.int s0] h Q := by
  exact g90 c_297_82 t
set_option maxRecDepth 20000 in
theorem t_297_86 {d : Nat} {h : ab_H} {Q : Option Value → ab_H → Prop} {x0 : Nat} {x1 : Int32} {x2 : Int32} {x3 : Int32} {x4 : Int32} (t : ab_ok h x0 112 = true ∧ ∃ j1 : Nat, ab_r h x0 0 = some j1 ∧ ((j1 = 0 ∨ ab_ok h j1 0 = true) ∧ ab_in (4 : Int32) (ab_s h j1).2 = true) ∧ if (ab_i h j1 (Int32.toNatClampNeg (4 : Int32))) ≤ x4 then (Q (some (.int x3)) h) else (ab_ok h x0 112 = true ∧ wm d 199 [.ref x0, .int x4, .int 0] h (fun r9 h9 => wq (d + 1) 297 105 [.ref x0, .int x1, .int x2, .int x3, .int x4] (r9.toList ++ [.int x3]) h9 Q))) : wq (d + 1) 297 86 [.ref x0, .int x1, .int x2, .int x3, .int x4] [] h Q := by
  refine g3 c_297_86 rfl ?_
  refine g5 c_297_88 rfl ?_
  obtain ⟨ho, j1, hr, t⟩ := t
  refine g45 c_297_89 ho hr ?_
  refine g1 c_297_92 k_4 ?_
  obtain ⟨ho, t⟩ := t
  refine g50 c_297_93 ho ?_
  refine gcm c_297_94 (gbr t rfl rfl (fun hc t => ?_) (fun hc t => ?_))
  · refine g3 c_297_122 rfl ?_
    exact g90 c_297_123 t
  · refine g3 c_297_97 rfl ?_
    refine g5 c_297_98 rfl ?_
    refine g3 c_297_99 rfl ?_
    refine g1 c_297_101 k_0 ?_
    exact g80 (As := [.int x4, .int 0]) (rest := [.int x3]) c_297_102 rfl rfl (Nat.le_of_ble_eq_true rfl) (Nat.le_of_ble_eq_true rfl) t.1 t.2
set_option maxRecDepth 20000 in
theorem t_297_105 {d : Nat} {h : ab_H} {Q : Option Value → ab_H → Prop} {x0 : Nat} {x1 : Int32} {x2 : Int32} {x3 : Int32} {x4 : Int32} {s0 : Int32} {s1 : Int32} (t : if s1 = x1 then (wq d 297 86 [.ref x0, .int x1, .int x2, .int (s0 + 1), .int (x4 + 1)] [] h Q) else (wq d 297 86 [.ref x0, .int x1, .int x2, .int (s0 + 0), .int (x4 + 1)] [] h Q)) : wq d 297 105 [.ref x0, .int x1, .int x2, .int x3, .int x4] [.int s1, .int s0] h Q := by
  refine g3 c_297_105 rfl ?_
  refine gcm c_297_106 (gbn t (ab_c1 _ _) rfl (fun hc t => ?_) (fun hc t => ?_))
  · refine g1 c_297_109 k_1 ?_
    refine g38 c_297_110 rfl ?_
    refine g10 c_297_114 ?_
    refine g6 (L' := [.ref x0, .int x1, .int x2, .int (s0 + 1), .int x4]) c_297_115 rfl ?_
    refine g9 (L' := [.ref x0, .int x1, .int x2, .int (s0 + 1), .int (x4 + 1)]) c_297_116 rfl k_1 rfl ?_
    refine g38 c_297_119 rfl ?_
    exact t
  · refine g1 c_297_113 k_0 ?_
    refine g10 c_297_114 ?_
    refine g6 (L' := [.ref x0, .int x1, .int x2, .int (s0 + 0), .int x4]) c_297_115 rfl ?_
    refine g9 (L' := [.ref x0, .int x1, .int x2, .int (s0 + 0), .int (x4 + 1)]) c_297_116 rfl k_1 rfl ?_
    refine g38 c_297_119 rfl ?_
    exact t
set_option maxRecDepth 20000 in
theorem t_297_132 {d : Nat} {h : ab_H} {Q : Option Value → ab_H → Prop} {x0 : Nat} {x1 : Int32} {x2 : Int32} {x3 : Int32} {s0 : Int32} (t : Q (some (.int s0)) h) : wq d 297 132 [.ref x0, .int x1, .int x2, .int x3, .retAddr 0] [.int s0] h Q := by
  exact g90 c_297_132 t
set_option maxRecDepth 20000 in
theorem t_297_141 {d : Nat} {h : ab_H} {Q : Option Value → ab_H → Prop} {x0 : Nat} {x1 : Int32} {x2 : Int32} {x3 : Int32} {s0 : Int32} (t : Q (some (.int s0)) h) : wq d 297 141 [.ref x0, .int x1, .int x2, .int x3, .retAddr 0] [.int s0] h Q := by
  exact g90 c_297_141 t
-- method 298: MillTownModel.personOf(II)I
theorem c_298_0 : pg_cd 298 0 = (5, 1, 0, 0, 0) := by decide +kernel
theorem c_298_1 : pg_cd 298 1 = (3, 1, 0, 1, 0) := by decide +kernel
theorem c_298_2 : pg_cd 298 2 = (80, 203, 109, 0, 0) := by decide +kernel
theorem c_298_5 : pg_cd 298 5 = (36, 3, 0, 1, 5) := by decide +kernel
theorem c_298_8 : pg_cd 298 8 = (1, 1, 0, 0, (-1)) := by decide +kernel
theorem c_298_9 : pg_cd 298 9 = (90, 0, 0, 0, 0) := by decide +kernel
theorem c_298_10 : pg_cd 298 10 = (3, 1, 0, 2, 0) := by decide +kernel
theorem c_298_11 : pg_cd 298 11 = (42, 8, 49, 0, 0) := by decide +kernel
theorem c_298_60 : pg_cd 298 60 = (5, 1, 0, 0, 0) := by decide +kernel
theorem c_298_61 : pg_cd 298 61 = (3, 1, 0, 1, 0) := by decide +kernel
theorem c_298_62 : pg_cd 298 62 = (1, 1, 0, 0, 0) := by decide +kernel
theorem c_298_63 : pg_cd 298 63 = (80, 199, 102, 0, 0) := by decide +kernel
theorem c_298_66 : pg_cd 298 66 = (90, 0, 0, 0, 0) := by decide +kernel
theorem c_298_67 : pg_cd 298 67 = (5, 1, 0, 0, 0) := by decide +kernel
theorem c_298_68 : pg_cd 298 68 = (3, 1, 0, 1, 0) := by decide +kernel
theorem c_298_69 : pg_cd 298 69 = (1, 1, 0, 0, 1) := by decide +kernel
theorem c_298_70 : pg_cd 298 70 = (80, 199, 102, 0, 0) := by decide +kernel
theorem c_298_73 : pg_cd 298 73 = (90, 0, 0, 0, 0) := by decide +kernel
theorem c_298_74 : pg_cd 298 74 = (5, 1, 0, 0, 0) := by decide +kernel
theorem c_298_75 : pg_cd 298 75 = (3, 1, 0, 1, 0) := by decide +kernel
theorem c_298_76 : pg_cd 298 76 = (1, 1, 0, 0, 2) := by decide +kernel
theorem c_298_77 : pg_cd 298 77 = (80, 199, 102, 0, 0) := by decide +kernel
theorem c_298_80 : pg_cd 298 80 = (90, 0, 0, 0, 0) := by decide +kernel
theorem c_298_81 : pg_cd 298 81 = (5, 1, 0, 0, 0) := by decide +kernel
theorem c_298_82 : pg_cd 298 82 = (3, 1, 0, 1, 0) := by decide +kernel
theorem c_298_83 : pg_cd 298 83 = (1, 1, 0, 0, 3) := by decide +kernel
theorem c_298_84 : pg_cd 298 84 = (80, 199, 102, 0, 0) := by decide +kernel
theorem c_298_87 : pg_cd 298 87 = (90, 0, 0, 0, 0) := by decide +kernel
theorem c_298_88 : pg_cd 298 88 = (5, 1, 0, 0, 0) := by decide +kernel
theorem c_298_89 : pg_cd 298 89 = (3, 1, 0, 1, 0) := by decide +kernel
theorem c_298_90 : pg_cd 298 90 = (1, 1, 0, 0, 4) := by decide +kernel
theorem c_298_91 : pg_cd 298 91 = (80, 199, 102, 0, 0) := by decide +kernel
theorem c_298_94 : pg_cd 298 94 = (90, 0, 0, 0, 0) := by decide +kernel
theorem c_298_95 : pg_cd 298 95 = (5, 1, 0, 0, 0) := by decide +kernel
theorem c_298_96 : pg_cd 298 96 = (3, 1, 0, 1, 0) := by decide +kernel
theorem c_298_97 : pg_cd 298 97 = (1, 1, 0, 0, 5) := by decide +kernel
theorem c_298_98 : pg_cd 298 98 = (80, 199, 102, 0, 0) := by decide +kernel
theorem c_298_101 : pg_cd 298 101 = (90, 0, 0, 0, 0) := by decide +kernel
theorem c_298_102 : pg_cd 298 102 = (5, 1, 0, 0, 0) := by decide +kernel
theorem c_298_103 : pg_cd 298 103 = (3, 1, 0, 1, 0) := by decide +kernel
theorem c_298_104 : pg_cd 298 104 = (1, 2, 0, 0, 6) := by decide +kernel
theorem c_298_106 : pg_cd 298 106 = (80, 199, 102, 0, 0) := by decide +kernel
theorem c_298_109 : pg_cd 298 109 = (90, 0, 0, 0, 0) := by decide +kernel
theorem c_298_110 : pg_cd 298 110 = (5, 1, 0, 0, 0) := by decide +kernel
theorem c_298_111 : pg_cd 298 111 = (3, 1, 0, 1, 0) := by decide +kernel
theorem c_298_112 : pg_cd 298 112 = (1, 2, 0, 0, 7) := by decide +kernel
theorem c_298_114 : pg_cd 298 114 = (80, 199, 102, 0, 0) := by decide +kernel
theorem c_298_117 : pg_cd 298 117 = (90, 0, 0, 0, 0) := by decide +kernel
theorem c_298_118 : pg_cd 298 118 = (5, 1, 0, 0, 0) := by decide +kernel
theorem c_298_119 : pg_cd 298 119 = (3, 1, 0, 1, 0) := by decide +kernel
theorem c_298_120 : pg_cd 298 120 = (1, 2, 0, 0, 8) := by decide +kernel
theorem c_298_122 : pg_cd 298 122 = (80, 199, 102, 0, 0) := by decide +kernel
theorem c_298_125 : pg_cd 298 125 = (90, 0, 0, 0, 0) := by decide +kernel
theorem c_298_126 : pg_cd 298 126 = (1, 1, 0, 0, (-1)) := by decide +kernel
theorem c_298_127 : pg_cd 298 127 = (90, 0, 0, 0, 0) := by decide +kernel
theorem mx_298 : pg_mx 298 = 3 := by decide +kernel
theorem m_298 {d : Nat} {h : ab_H} {Q : Option Value → ab_H → Prop} {x0 : Nat} {x1 : Int32} {x2 : Int32} (t : wq d 298 0 [.ref x0, .int x1, .int x2] [] h Q) : wm d 298 [.ref x0, .int x1, .int x2] h Q := by
  unfold wm
  rw [mx_298]
  exact t
set_option maxRecDepth 20000 in
theorem t_298_0 {d : Nat} {h : ab_H} {Q : Option Value → ab_H → Prop} {x0 : Nat} {x1 : Int32} {x2 : Int32} (t : ab_ok h x0 112 = true ∧ wm d 203 [.ref x0, .int x1] h (fun r9 h9 => wq (d + 1) 298 5 [.ref x0, .int x1, .int x2] (r9.toList ++ []) h9 Q)) : wq (d + 1) 298 0 [.ref x0, .int x1, .int x2] [] h Q := by
  refine g5 c_298_0 rfl ?_
  refine g3 c_298_1 rfl ?_
  exact g80 (As := [.int x1]) (rest := []) c_298_2 rfl rfl (Nat.le_of_ble_eq_true rfl) (Nat.le_of_ble_eq_true rfl) t.1 t.2
set_option maxRecDepth 20000 in
theorem t_298_5 {d : Nat} {h : ab_H} {Q : Option Value → ab_H → Prop} {x0 : Nat} {x1 : Int32} {x2 : Int32} {s0 : Int32} (t : if s0 = 0 then (Q (some (.int (-1))) h) else (if x2 = 0 then (ab_ok h x0 112 = true ∧ wm d 199 [.ref x0, .int x1, .int 0] h (fun r9 h9 => wq (d + 1) 298 66 [.ref x0, .int x1, .int x2] (r9.toList ++ []) h9 Q)) else (if x2 = 1 then (ab_ok h x0 112 = true ∧ wm d 199 [.ref x0, .int x1, .int 1] h (fun r9 h9 => wq (d + 1) 298 73 [.ref x0, .int x1, .int x2] (r9.toList ++ []) h9 Q)) else (if x2 = 2 then (ab_ok h x0 112 = true ∧ wm d 199 [.ref x0, .int x1, .int 2] h (fun r9 h9 => wq (d + 1) 298 80 [.ref x0, .int x1, .int x2] (r9.toList ++ []) h9 Q)) else (if x2 = 3 then (ab_ok h x0 112 = true ∧ wm d 199 [.ref x0, .int x1, .int 3] h (fun r9 h9 => wq (d + 1) 298 87 [.ref x0, .int x1, .int x2] (r9.toList ++ []) h9 Q)) else (if x2 = 4 then (ab_ok h x0 112 = true ∧ wm d 199 [.ref x0, .int x1, .int 4] h (fun r9 h9 => wq (d + 1) 298 94 [.ref x0, .int x1, .int x2] (r9.toList ++ []) h9 Q)) else (if x2 = 5 then (ab_ok h x0 112 = true ∧ wm d 199 [.ref x0, .int x1, .int 5] h (fun r9 h9 => wq (d + 1) 298 101 [.ref x0, .int x1, .int x2] (r9.toList ++ []) h9 Q)) else (if x2 = 6 then (ab_ok h x0 112 = true ∧ wm d 199 [.ref x0, .int x1, .int 6] h (fun r9 h9 => wq (d + 1) 298 109 [.ref x0, .int x1, .int x2] (r9.toList ++ []) h9 Q)) else (if x2 = 7 then (ab_ok h x0 112 = true ∧ wm d 199 [.ref x0, .int x1, .int 7] h (fun r9 h9 => wq (d + 1) 298 117 [.ref x0, .int x1, .int x2] (r9.toList ++ []) h9 Q)) else (if x2 = 8 then (ab_ok h x0 112 = true ∧ wm d 199 [.ref x0, .int x1, .int 8] h (fun r9 h9 => wq (d + 1) 298 125 [.ref x0, .int x1, .int x2] (r9.toList ++ []) h9 Q)) else (Q (some (.int (-1))) h))))))))))) : wq (d + 1) 298 5 [.ref x0, .int x1, .int x2] [.int s0] h Q := by
  refine gif c_298_5 (gbn t (ab_c1 _ _) rfl (fun hc t => ?_) (fun hc t => ?_))
  · refine g1 c_298_8 k_m1 ?_
    exact g90 c_298_9 t
  · refine g3 c_298_10 rfl ?_
    by_cases e0 : x2 = 0
    · rw [if_pos e0] at t
      refine g42 (o := 49) c_298_11 sw_8 (by rw [e0]; decide) (by rw [e0]; decide) rfl ?_
      refine g5 c_298_60 rfl ?_
      refine g3 c_298_61 rfl ?_
      refine g1 c_298_62 k_0 ?_
      exact g80 (As := [.int x1, .int 0]) (rest := []) c_298_63 rfl rfl (Nat.le_of_ble_eq_true rfl) (Nat.le_of_ble_eq_true rfl) t.1 t.2
    rw [if_neg e0] at t
    by_cases e1 : x2 = 1
    · rw [if_pos e1] at t
      refine g42 (o := 56) c_298_11 sw_8 (by rw [e1]; decide) (by rw [e1]; decide) rfl ?_
      refine g5 c_298_67 rfl ?_
      refine g3 c_298_68 rfl ?_
      refine g1 c_298_69 k_1 ?_
      exact g80 (As := [.int x1, .int 1]) (rest := []) c_298_70 rfl rfl (Nat.le_of_ble_eq_true rfl) (Nat.le_of_ble_eq_true rfl) t.1 t.2
    rw [if_neg e1] at t
    by_cases e2 : x2 = 2
    · rw [if_pos e2] at t
      refine g42 (o := 63) c_298_11 sw_8 (by rw [e2]; decide) (by rw [e2]; decide) rfl ?_
      refine g5 c_298_74 rfl ?_
      refine g3 c_298_75 rfl ?_
      refine g1 c_298_76 k_2 ?_
      exact g80 (As := [.int x1, .int 2]) (rest := []) c_298_77 rfl rfl (Nat.le_of_ble_eq_true rfl) (Nat.le_of_ble_eq_true rfl) t.1 t.2
    rw [if_neg e2] at t
    by_cases e3 : x2 = 3
    · rw [if_pos e3] at t
      refine g42 (o := 70) c_298_11 sw_8 (by rw [e3]; decide) (by rw [e3]; decide) rfl ?_
      refine g5 c_298_81 rfl ?_
      refine g3 c_298_82 rfl ?_
      refine g1 c_298_83 k_3 ?_
      exact g80 (As := [.int x1, .int 3]) (rest := []) c_298_84 rfl rfl (Nat.le_of_ble_eq_true rfl) (Nat.le_of_ble_eq_true rfl) t.1 t.2
    rw [if_neg e3] at t
    by_cases e4 : x2 = 4
    · rw [if_pos e4] at t
      refine g42 (o := 77) c_298_11 sw_8 (by rw [e4]; decide) (by rw [e4]; decide) rfl ?_
      refine g5 c_298_88 rfl ?_
      refine g3 c_298_89 rfl ?_
      refine g1 c_298_90 k_4 ?_
      exact g80 (As := [.int x1, .int 4]) (rest := []) c_298_91 rfl rfl (Nat.le_of_ble_eq_true rfl) (Nat.le_of_ble_eq_true rfl) t.1 t.2
    rw [if_neg e4] at t
    by_cases e5 : x2 = 5
    · rw [if_pos e5] at t
      refine g42 (o := 84) c_298_11 sw_8 (by rw [e5]; decide) (by rw [e5]; decide) rfl ?_
      refine g5 c_298_95 rfl ?_
      refine g3 c_298_96 rfl ?_
      refine g1 c_298_97 k_5 ?_
      exact g80 (As := [.int x1, .int 5]) (rest := []) c_298_98 rfl rfl (Nat.le_of_ble_eq_true rfl) (Nat.le_of_ble_eq_true rfl) t.1 t.2
    rw [if_neg e5] at t
    by_cases e6 : x2 = 6
    · rw [if_pos e6] at t
      refine g42 (o := 91) c_298_11 sw_8 (by rw [e6]; decide) (by rw [e6]; decide) rfl ?_
      refine g5 c_298_102 rfl ?_
      refine g3 c_298_103 rfl ?_
      refine g1 c_298_104 k_6 ?_
      exact g80 (As := [.int x1, .int 6]) (rest := []) c_298_106 rfl rfl (Nat.le_of_ble_eq_true rfl) (Nat.le_of_ble_eq_true rfl) t.1 t.2
    rw [if_neg e6] at t
    by_cases e7 : x2 = 7
    · rw [if_pos e7] at t
      refine g42 (o := 99) c_298_11 sw_8 (by rw [e7]; decide) (by rw [e7]; decide) rfl ?_
      refine g5 c_298_110 rfl ?_
      refine g3 c_298_111 rfl ?_
      refine g1 c_298_112 k_7 ?_
      exact g80 (As := [.int x1, .int 7]) (rest := []) c_298_114 rfl rfl (Nat.le_of_ble_eq_true rfl) (Nat.le_of_ble_eq_true rfl) t.1 t.2
    rw [if_neg e7] at t
    by_cases e8 : x2 = 8
    · rw [if_pos e8] at t
      refine g42 (o := 107) c_298_11 sw_8 (by rw [e8]; decide) (by rw [e8]; decide) rfl ?_
      refine g5 c_298_118 rfl ?_
      refine g3 c_298_119 rfl ?_
      refine g1 c_298_120 k_8 ?_
      exact g80 (As := [.int x1, .int 8]) (rest := []) c_298_122 rfl rfl (Nat.le_of_ble_eq_true rfl) (Nat.le_of_ble_eq_true rfl) t.1 t.2
    rw [if_neg e8] at t
    refine g42d c_298_11 sw_8 (gsw_out (n := 9) (by decide) (by decide) (fun i hi => ?_)) rfl ?_
    · rcases (show i = 0 ∨ i = 1 ∨ i = 2 ∨ i = 3 ∨ i = 4 ∨ i = 5 ∨ i = 6 ∨ i = 7 ∨ i = 8 by omega) with rfl | rfl | rfl | rfl | rfl | rfl | rfl | rfl | rfl
      · exact fun q => e0 (q.trans k_0)
      · exact fun q => e1 (q.trans k_1)
      · exact fun q => e2 (q.trans k_2)
      · exact fun q => e3 (q.trans k_3)
      · exact fun q => e4 (q.trans k_4)
      · exact fun q => e5 (q.trans k_5)
      · exact fun q => e6 (q.trans k_6)
      · exact fun q => e7 (q.trans k_7)
      · exact fun q => e8 (q.trans k_8)
    refine g1 c_298_126 k_m1 ?_
    exact g90 c_298_127 t
set_option maxRecDepth 20000 in
theorem t_298_66 {d : Nat} {h : ab_H} {Q : Option Value → ab_H → Prop} {x0 : Nat} {x1 : Int32} {x2 : Int32} {s0 : Int32} (t : Q (some (.int s0)) h) : wq d 298 66 [.ref x0, .int x1, .int x2] [.int s0] h Q := by
  exact g90 c_298_66 t
set_option maxRecDepth 20000 in
theorem t_298_73 {d : Nat} {h : ab_H} {Q : Option Value → ab_H → Prop} {x0 : Nat} {x1 : Int32} {x2 : Int32} {s0 : Int32} (t : Q (some (.int s0)) h) : wq d 298 73 [.ref x0, .int x1, .int x2] [.int s0] h Q := by
  exact g90 c_298_73 t
set_option maxRecDepth 20000 in
theorem t_298_80 {d : Nat} {h : ab_H} {Q : Option Value → ab_H → Prop} {x0 : Nat} {x1 : Int32} {x2 : Int32} {s0 : Int32} (t : Q (some (.int s0)) h) : wq d 298 80 [.ref x0, .int x1, .int x2] [.int s0] h Q := by
  exact g90 c_298_80 t
set_option maxRecDepth 20000 in
theorem t_298_87 {d : Nat} {h : ab_H} {Q : Option Value → ab_H → Prop} {x0 : Nat} {x1 : Int32} {x2 : Int32} {s0 : Int32} (t : Q (some (.int s0)) h) : wq d 298 87 [.ref x0, .int x1, .int x2] [.int s0] h Q := by
  exact g90 c_298_87 t
set_option maxRecDepth 20000 in
theorem t_298_94 {d : Nat} {h : ab_H} {Q : Option Value → ab_H → Prop} {x0 : Nat} {x1 : Int32} {x2 : Int32} {s0 : Int32} (t : Q (some (.int s0)) h) : wq d 298 94 [.ref x0, .int x1, .int x2] [.int s0] h Q := by
  exact g90 c_298_94 t
set_option maxRecDepth 20000 in
theorem t_298_101 {d : Nat} {h : ab_H} {Q : Option Value → ab_H → Prop} {x0 : Nat} {x1 : Int32} {x2 : Int32} {s0 : Int32} (t : Q (some (.int s0)) h) : wq d 298 101 [.ref x0, .int x1, .int x2] [.int s0] h Q := by
  exact g90 c_298_101 t
set_option maxRecDepth 20000 in
theorem t_298_109 {d : Nat} {h : ab_H} {Q : Option Value → ab_H → Prop} {x0 : Nat} {x1 : Int32} {x2 : Int32} {s0 : Int32} (t : Q (some (.int s0)) h) : wq d 298 109 [.ref x0, .int x1, .int x2] [.int s0] h Q := by
  exact g90 c_298_109 t
set_option maxRecDepth 20000 in
theorem t_298_117 {d : Nat} {h : ab_H} {Q : Option Value → ab_H → Prop} {x0 : Nat} {x1 : Int32} {x2 : Int32} {s0 : Int32} (t : Q (some (.int s0)) h) : wq d 298 117 [.ref x0, .int x1, .int x2] [.int s0] h Q := by
  exact g90 c_298_117 t
set_option maxRecDepth 20000 in
theorem t_298_125 {d : Nat} {h : ab_H} {Q : Option Value → ab_H → Prop} {x0 : Nat} {x1 : Int32} {x2 : Int32} {s0 : Int32} (t : Q (some (.int s0)) h) : wq d 298 125 [.ref x0, .int x1, .int x2] [.int s0] h Q := by
  exact g90 c_298_125 t
-- method 299: MillTownModel.shopOf(II)I
theorem c_299_0 : pg_cd 299 0 = (3, 1, 0, 1, 0) := by decide +kernel
theorem c_299_1 : pg_cd 299 1 = (1, 1, 0, 0, 0) := by decide +kernel
theorem c_299_2 : pg_cd 299 2 = (5, 1, 0, 0, 0) := by decide +kernel
theorem c_299_3 : pg_cd 299 3 = (45, 12, 8, 0, 0) := by decide +kernel
theorem c_299_6 : pg_cd 299 6 = (1, 1, 0, 0, 2) := by decide +kernel
theorem c_299_7 : pg_cd 299 7 = (50, 1, 0, 0, 0) := by decide +kernel
theorem c_299_8 : pg_cd 299 8 = (1, 1, 0, 0, 1) := by decide +kernel
theorem c_299_9 : pg_cd 299 9 = (11, 1, 0, 0, 0) := by decide +kernel
theorem c_299_10 : pg_cd 299 10 = (81, 196, 76, 0, 0) := by decide +kernel
theorem c_299_13 : pg_cd 299 13 = (36, 3, 0, 1, 5) := by decide +kernel
theorem c_299_16 : pg_cd 299 16 = (1, 1, 0, 0, (-1)) := by decide +kernel
theorem c_299_17 : pg_cd 299 17 = (90, 0, 0, 0, 0) := by decide +kernel
theorem c_299_18 : pg_cd 299 18 = (1, 1, 0, 0, 0) := by decide +kernel
theorem c_299_19 : pg_cd 299 19 = (6, 1, 0, 3, 0) := by decide +kernel
theorem c_299_20 : pg_cd 299 20 = (1, 1, 0, 0, 0) := by decide +kernel
theorem c_299_21 : pg_cd 299 21 = (6, 2, 0, 4, 0) := by decide +kernel
theorem c_299_23 : pg_cd 299 23 = (3, 2, 0, 4, 0) := by decide +kernel
theorem c_299_25 : pg_cd 299 25 = (5, 1, 0, 0, 0) := by decide +kernel
theorem c_299_26 : pg_cd 299 26 = (45, 12, 8, 0, 0) := by decide +kernel
theorem c_299_29 : pg_cd 299 29 = (1, 1, 0, 0, 3) := by decide +kernel
theorem c_299_30 : pg_cd 299 30 = (50, 1, 0, 0, 0) := by decide +kernel
theorem c_299_31 : pg_cd 299 31 = (37, 3, 0, 3, 34) := by decide +kernel
theorem c_299_34 : pg_cd 299 34 = (3, 1, 0, 3, 0) := by decide +kernel
theorem c_299_35 : pg_cd 299 35 = (5, 1, 0, 0, 0) := by decide +kernel
theorem c_299_36 : pg_cd 299 36 = (3, 2, 0, 4, 0) := by decide +kernel
theorem c_299_38 : pg_cd 299 38 = (1, 1, 0, 0, 0) := by decide +kernel
theorem c_299_39 : pg_cd 299 39 = (80, 200, 99, 0, 0) := by decide +kernel
theorem c_299_42 : pg_cd 299 42 = (3, 1, 0, 1, 0) := by decide +kernel
theorem c_299_43 : pg_cd 299 43 = (37, 3, 0, 1, 13) := by decide +kernel
theorem c_299_46 : pg_cd 299 46 = (5, 1, 0, 0, 0) := by decide +kernel
theorem c_299_47 : pg_cd 299 47 = (3, 2, 0, 4, 0) := by decide +kernel
theorem c_299_49 : pg_cd 299 49 = (1, 1, 0, 0, 2) := by decide +kernel
theorem c_299_50 : pg_cd 299 50 = (80, 200, 99, 0, 0) := by decide +kernel
theorem c_299_53 : pg_cd 299 53 = (38, 3, 0, 0, 4) := by decide +kernel
theorem c_299_56 : pg_cd 299 56 = (1, 1, 0, 0, 0) := by decide +kernel
theorem c_299_57 : pg_cd 299 57 = (10, 1, 0, 0, 0) := by decide +kernel
theorem c_299_58 : pg_cd 299 58 = (6, 1, 0, 3, 0) := by decide +kernel
theorem c_299_59 : pg_cd 299 59 = (9, 3, 0, 4, 1) := by decide +kernel
theorem c_299_62 : pg_cd 299 62 = (38, 3, 0, 0, (-39)) := by decide +kernel
theorem c_299_65 : pg_cd 299 65 = (3, 1, 0, 2, 0) := by decide +kernel
theorem c_299_66 : pg_cd 299 66 = (36, 3, 0, 1, 19) := by decide +kernel
theorem c_299_69 : pg_cd 299 69 = (5, 1, 0, 0, 0) := by decide +kernel
theorem c_299_70 : pg_cd 299 70 = (45, 12, 8, 0, 0) := by decide +kernel
theorem c_299_73 : pg_cd 299 73 = (1, 3, 0, 0, 3428) := by decide +kernel
theorem c_299_76 : pg_cd 299 76 = (1, 2, 0, 0, 8) := by decide +kernel
theorem c_299_78 : pg_cd 299 78 = (3, 1, 0, 1, 0) := by decide +kernel
theorem c_299_79 : pg_cd 299 79 = (12, 1, 0, 0, 0) := by decide +kernel
theorem c_299_80 : pg_cd 299 80 = (10, 1, 0, 0, 0) := by decide +kernel
theorem c_299_81 : pg_cd 299 81 = (50, 1, 0, 0, 0) := by decide +kernel
theorem c_299_82 : pg_cd 299 82 = (38, 3, 0, 0, 36) := by decide +kernel
theorem c_299_85 : pg_cd 299 85 = (3, 1, 0, 2, 0) := by decide +kernel
theorem c_299_86 : pg_cd 299 86 = (1, 1, 0, 0, 1) := by decide +kernel
theorem c_299_87 : pg_cd 299 87 = (37, 3, 0, 1, 7) := by decide +kernel
theorem c_299_90 : pg_cd 299 90 = (3, 1, 0, 3, 0) := by decide +kernel
theorem c_299_91 : pg_cd 299 91 = (38, 3, 0, 0, 27) := by decide +kernel
theorem c_299_94 : pg_cd 299 94 = (3, 1, 0, 2, 0) := by decide +kernel
theorem c_299_95 : pg_cd 299 95 = (1, 1, 0, 0, 2) := by decide +kernel
theorem c_299_96 : pg_cd 299 96 = (37, 3, 0, 1, 21) := by decide +kernel
theorem c_299_99 : pg_cd 299 99 = (5, 1, 0, 0, 0) := by decide +kernel
theorem c_299_100 : pg_cd 299 100 = (45, 12, 8, 0, 0) := by decide +kernel
theorem c_299_103 : pg_cd 299 103 = (1, 3, 0, 0, 3428) := by decide +kernel
theorem c_299_106 : pg_cd 299 106 = (1, 2, 0, 0, 8) := by decide +kernel
theorem c_299_108 : pg_cd 299 108 = (3, 1, 0, 1, 0) := by decide +kernel
theorem c_299_109 : pg_cd 299 109 = (12, 1, 0, 0, 0) := by decide +kernel
theorem c_299_110 : pg_cd 299 110 = (10, 1, 0, 0, 0) := by decide +kernel
theorem c_299_111 : pg_cd 299 111 = (1, 1, 0, 0, 3) := by decide +kernel
theorem c_299_112 : pg_cd 299 112 = (10, 1, 0, 0, 0) := by decide +kernel
theorem c_299_113 : pg_cd 299 113 = (50, 1, 0, 0, 0) := by decide +kernel
theorem c_299_114 : pg_cd 299 114 = (38, 3, 0, 0, 4) := by decide +kernel
theorem c_299_117 : pg_cd 299 117 = (1, 1, 0, 0, (-1)) := by decide +kernel
theorem c_299_118 : pg_cd 299 118 = (90, 0, 0, 0, 0) := by decide +kernel
theorem mx_299 : pg_mx 299 = 5 := by decide +kernel
theorem m_299 {d : Nat} {h : ab_H} {Q : Option Value → ab_H → Prop} {x0 : Nat} {x1 : Int32} {x2 : Int32} (t : wq d 299 0 [.ref x0, .int x1, .int x2, .retAddr 0, .retAddr 0] [] h Q) : wm d 299 [.ref x0, .int x1, .int x2] h Q := by
  unfold wm
  rw [mx_299]
  exact t
set_option maxRecDepth 20000 in
theorem t_299_0 {d : Nat} {h : ab_H} {Q : Option Value → ab_H → Prop} {x0 : Nat} {x1 : Int32} {x2 : Int32} (t : ab_ok h x0 112 = true ∧ ∃ j1 : Nat, ab_r h x0 0 = some j1 ∧ ((j1 = 0 ∨ ab_ok h j1 0 = true) ∧ ab_in (2 : Int32) (ab_s h j1).2 = true) ∧ wm d 196 [.int x1, .int 0, .int ((ab_i h j1 (Int32.toNatClampNeg (2 : Int32))) - 1)] h (fun r9 h9 => wq (d + 1) 299 13 [.ref x0, .int x1, .int x2, .retAddr 0, .retAddr 0] (r9.toList ++ []) h9 Q)) : wq (d + 1) 299 0 [.ref x0, .int x1, .int x2, .retAddr 0, .retAddr 0] [] h Q := by
  refine g3 c_299_0 rfl ?_
  refine g1 c_299_1 k_0 ?_
  refine g5 c_299_2 rfl ?_
  obtain ⟨ho, j1, hr, t⟩ := t
  refine g45 c_299_3 ho hr ?_
  refine g1 c_299_6 k_2 ?_
  obtain ⟨ho, t⟩ := t
  refine g50 c_299_7 ho ?_
  refine g1 c_299_8 k_1 ?_
  refine g11 c_299_9 ?_
  exact g81 (As := [.int x1, .int 0, .int ((ab_i h j1 (Int32.toNatClampNeg (2 : Int32))) - 1)]) (rest := []) c_299_10 rfl rfl (Nat.le_of_ble_eq_true rfl) (Nat.le_of_ble_eq_true rfl) t
set_option maxRecDepth 20000 in
theorem t_299_13 {d : Nat} {h : ab_H} {Q : Option Value → ab_H → Prop} {x0 : Nat} {x1 : Int32} {x2 : Int32} {s0 : Int32} (t : if s0 = 0 then (Q (some (.int (-1))) h) else (wq d 299 23 [.ref x0, .int x1, .int x2, .int 0, .int 0] [] h Q)) : wq d 299 13 [.ref x0, .int x1, .int x2, .retAddr 0, .retAddr 0] [.int s0] h Q := by
  refine gif c_299_13 (gbn t (ab_c1 _ _) rfl (fun hc t => ?_) (fun hc t => ?_))
  · refine g1 c_299_16 k_m1 ?_
    exact g90 c_299_17 t
  · refine g1 c_299_18 k_0 ?_
    refine g6 (L' := [.ref x0, .int x1, .int x2, .int 0, .retAddr 0]) c_299_19 rfl ?_
    refine g1 c_299_20 k_0 ?_
    refine g6 (L' := [.ref x0, .int x1, .int x2, .int 0, .int 0]) c_299_21 rfl ?_
    exact t
set_option maxRecDepth 20000 in
theorem t_299_23 {d : Nat} {h : ab_H} {Q : Option Value → ab_H → Prop} {x0 : Nat} {x1 : Int32} {x2 : Int32} {x3 : Int32} {x4 : Int32} (t : ab_ok h x0 112 = true ∧ ∃ j1 : Nat, ab_r h x0 0 = some j1 ∧ ((j1 = 0 ∨ ab_ok h j1 0 = true) ∧ ab_in (3 : Int32) (ab_s h j1).2 = true) ∧ if (ab_i h j1 (Int32.toNatClampNeg (3 : Int32))) ≤ x4 then (if x2 = 0 then (ab_ok h x0 112 = true ∧ ∃ j2 : Nat, ab_r h x0 0 = some j2 ∧ ((j2 = 0 ∨ ab_ok h j2 0 = true) ∧ ab_in (3428 + (8 * x1)) (ab_s h j2).2 = true) ∧ Q (some (.int (ab_i h j2 (Int32.toNatClampNeg (3428 + (8 * x1)))))) h) else (if x2 = 1 then (Q (some (.int x3)) h) else (if x2 = 2 then (ab_ok h x0 112 = true ∧ ∃ j3 : Nat, ab_r h x0 0 = some j3 ∧ ((j3 = 0 ∨ ab_ok h j3 0 = true) ∧ ab_in ((3428 + (8 * x1)) + 3) (ab_s h j3).2 = true) ∧ Q (some (.int (ab_i h j3 (Int32.toNatClampNeg ((3428 + (8 * x1)) + 3))))) h) else (Q (some (.int (-1))) h)))) else (ab_ok h x0 112 = true ∧ wm d 200 [.ref x0, .int x4, .int 0] h (fun r9 h9 => wq (d + 1) 299 42 [.ref x0, .int x1, .int x2, .int x3, .int x4] (r9.toList ++ [.int x3]) h9 Q))) : wq (d + 1) 299 23 [.ref x0, .int x1, .int x2, .int x3, .int x4] [] h Q := by
  refine g3 c_299_23 rfl ?_
  refine g5 c_299_25 rfl ?_
  obtain ⟨ho, j1, hr, t⟩ := t
  refine g45 c_299_26 ho hr ?_
  refine g1 c_299_29 k_3 ?_
  obtain ⟨ho, t⟩ := t
  refine g50 c_299_30 ho ?_
  refine gcm c_299_31 (gbr t rfl rfl (fun hc t => ?_) (fun hc t => ?_))
  · refine g3 c_299_65 rfl ?_
    refine gif c_299_66 (gbn t (ab_c1 _ _) rfl (fun hc t => ?_) (fun hc t => ?_))
    · refine g5 c_299_69 rfl ?_
      obtain ⟨ho, j2, hr, t⟩ := t
      refine g45 c_299_70 ho hr ?_
      refine g1 c_299_73 k_3428 ?_
      refine g1 c_299_76 k_8 ?_
      refine g3 c_299_78 rfl ?_
      refine g12 c_299_79 ?_
      refine g10 c_299_80 ?_
      obtain ⟨ho, t⟩ := t
      refine g50 c_299_81 ho ?_
      refine g38 c_299_82 rfl ?_
      exact g90 c_299_118 t
    · refine g3 c_299_85 rfl ?_
      refine g1 c_299_86 k_1 ?_
      refine gcm c_299_87 (gbn t (ab_c1 _ _) rfl (fun hc t => ?_) (fun hc t => ?_))
      · refine g3 c_299_90 rfl ?_
        refine g38 c_299_91 rfl ?_
        exact g90 c_299_118 t
      · refine g3 c_299_94 rfl ?_
        refine g1 c_299_95 k_2 ?_
        refine gcm c_299_96 (gbn t (ab_c1 _ _) rfl (fun hc t => ?_) (fun hc t => ?_))
        · refine g5 c_299_99 rfl ?_
          obtain ⟨ho, j3, hr, t⟩ := t
          refine g45 c_299_100 ho hr ?_
          refine g1 c_299_103 k_3428 ?_
          refine g1 c_299_106 k_8 ?_
          refine g3 c_299_108 rfl ?_
          refine g12 c_299_109 ?_
          refine g10 c_299_110 ?_
          refine g1 c_299_111 k_3 ?_
          refine g10 c_299_112 ?_
          obtain ⟨ho, t⟩ := t
          refine g50 c_299_113 ho ?_
          refine g38 c_299_114 rfl ?_
          exact g90 c_299_118 t
        · refine g1 c_299_117 k_m1 ?_
          exact g90 c_299_118 t
  · refine g3 c_299_34 rfl ?_
    refine g5 c_299_35 rfl ?_
    refine g3 c_299_36 rfl ?_
    refine g1 c_299_38 k_0 ?_
    exact g80 (As := [.int x4, .int 0]) (rest := [.int x3]) c_299_39 rfl rfl (Nat.le_of_ble_eq_true rfl) (Nat.le_of_ble_eq_true rfl) t.1 t.2
set_option maxRecDepth 20000 in
theorem t_299_42 {d : Nat} {h : ab_H} {Q : Option Value → ab_H → Prop} {x0 : Nat} {x1 : Int32} {x2 : Int32} {x3 : Int32} {x4 : Int32} {s0 : Int32} {s1 : Int32} (t : if s1 = x1 then (ab_ok h x0 112 = true ∧ wm d 200 [.ref x0, .int x4, .int 2] h (fun r9 h9 => wq (d + 1) 299 53 [.ref x0, .int x1, .int x2, .int x3, .int x4] (r9.toList ++ [.int s0]) h9 Q)) else (wq (d + 1) 299 23 [.ref x0, .int x1, .int x2, .int (s0 + 0), .int (x4 + 1)] [] h Q)) : wq (d + 1) 299 42 [.ref x0, .int x1, .int x2, .int x3, .int x4] [.int s1, .int s0] h Q := by
  refine g3 c_299_42 rfl ?_
  refine gcm c_299_43 (gbn t (ab_c1 _ _) rfl (fun hc t => ?_) (fun hc t => ?_))
  · refine g5 c_299_46 rfl ?_
    refine g3 c_299_47 rfl ?_
    refine g1 c_299_49 k_2 ?_
    exact g80 (As := [.int x4, .int 2]) (rest := [.int s0]) c_299_50 rfl rfl (Nat.le_of_ble_eq_true rfl) (Nat.le_of_ble_eq_true rfl) t.1 t.2
  · refine g1 c_299_56 k_0 ?_
    refine g10 c_299_57 ?_
    refine g6 (L' := [.ref x0, .int x1, .int x2, .int (s0 + 0), .int x4]) c_299_58 rfl ?_
    refine g9 (L' := [.ref x0, .int x1, .int x2, .int (s0 + 0), .int (x4 + 1)]) c_299_59 rfl k_1 rfl ?_
    refine g38 c_299_62 rfl ?_
    exact t
set_option maxRecDepth 20000 in
theorem t_299_53 {d : Nat} {h : ab_H} {Q : Option Value → ab_H → Prop} {x0 : Nat} {x1 : Int32} {x2 : Int32} {x3 : Int32} {x4 : Int32} {s0 : Int32} {s1 : Int32} (t : wq d 299 23 [.ref x0, .int x1, .int x2, .int (s0 + s1), .int (x4 + 1)] [] h Q) : wq d 299 53 [.ref x0, .int x1, .int x2, .int x3, .int x4] [.int s1, .int s0] h Q := by
  refine g38 c_299_53 rfl ?_
  refine g10 c_299_57 ?_
  refine g6 (L' := [.ref x0, .int x1, .int x2, .int (s0 + s1), .int x4]) c_299_58 rfl ?_
  refine g9 (L' := [.ref x0, .int x1, .int x2, .int (s0 + s1), .int (x4 + 1)]) c_299_59 rfl k_1 rfl ?_
  refine g38 c_299_62 rfl ?_
  exact t
-- method 300: MillTownModel.orderOf(II)I
theorem c_300_0 : pg_cd 300 0 = (3, 1, 0, 1, 0) := by decide +kernel
theorem c_300_1 : pg_cd 300 1 = (1, 1, 0, 0, 0) := by decide +kernel
theorem c_300_2 : pg_cd 300 2 = (5, 1, 0, 0, 0) := by decide +kernel
theorem c_300_3 : pg_cd 300 3 = (45, 12, 8, 0, 0) := by decide +kernel
theorem c_300_6 : pg_cd 300 6 = (1, 2, 0, 0, 7) := by decide +kernel
theorem c_300_8 : pg_cd 300 8 = (50, 1, 0, 0, 0) := by decide +kernel
theorem c_300_9 : pg_cd 300 9 = (1, 1, 0, 0, 1) := by decide +kernel
theorem c_300_10 : pg_cd 300 10 = (11, 1, 0, 0, 0) := by decide +kernel
theorem c_300_11 : pg_cd 300 11 = (81, 196, 76, 0, 0) := by decide +kernel
theorem c_300_14 : pg_cd 300 14 = (36, 3, 0, 0, 30) := by decide +kernel
theorem c_300_17 : pg_cd 300 17 = (3, 1, 0, 2, 0) := by decide +kernel
theorem c_300_18 : pg_cd 300 18 = (1, 1, 0, 0, 0) := by decide +kernel
theorem c_300_19 : pg_cd 300 19 = (1, 1, 0, 0, 4) := by decide +kernel
theorem c_300_20 : pg_cd 300 20 = (81, 196, 76, 0, 0) := by decide +kernel
theorem c_300_23 : pg_cd 300 23 = (36, 3, 0, 0, 21) := by decide +kernel
theorem c_300_26 : pg_cd 300 26 = (5, 1, 0, 0, 0) := by decide +kernel
theorem c_300_27 : pg_cd 300 27 = (45, 12, 8, 0, 0) := by decide +kernel
theorem c_300_30 : pg_cd 300 30 = (1, 3, 0, 0, 4372) := by decide +kernel
theorem c_300_33 : pg_cd 300 33 = (1, 2, 0, 0, 8) := by decide +kernel
theorem c_300_35 : pg_cd 300 35 = (3, 1, 0, 1, 0) := by decide +kernel
theorem c_300_36 : pg_cd 300 36 = (12, 1, 0, 0, 0) := by decide +kernel
theorem c_300_37 : pg_cd 300 37 = (10, 1, 0, 0, 0) := by decide +kernel
theorem c_300_38 : pg_cd 300 38 = (3, 1, 0, 2, 0) := by decide +kernel
theorem c_300_39 : pg_cd 300 39 = (10, 1, 0, 0, 0) := by decide +kernel
theorem c_300_40 : pg_cd 300 40 = (50, 1, 0, 0, 0) := by decide +kernel
theorem c_300_41 : pg_cd 300 41 = (38, 3, 0, 0, 4) := by decide +kernel
theorem c_300_44 : pg_cd 300 44 = (1, 1, 0, 0, (-1)) := by decide +kernel
theorem c_300_45 : pg_cd 300 45 = (90, 0, 0, 0, 0) := by decide +kernel
theorem mx_300 : pg_mx 300 = 3 := by decide +kernel
theorem m_300 {d : Nat} {h : ab_H} {Q : Option Value → ab_H → Prop} {x0 : Nat} {x1 : Int32} {x2 : Int32} (t : wq d 300 0 [.ref x0, .int x1, .int x2] [] h Q) : wm d 300 [.ref x0, .int x1, .int x2] h Q := by
  unfold wm
  rw [mx_300]
  exact t
set_option maxRecDepth 20000 in
theorem t_300_0 {d : Nat} {h : ab_H} {Q : Option Value → ab_H → Prop} {x0 : Nat} {x1 : Int32} {x2 : Int32} (t : ab_ok h x0 112 = true ∧ ∃ j1 : Nat, ab_r h x0 0 = some j1 ∧ ((j1 = 0 ∨ ab_ok h j1 0 = true) ∧ ab_in (7 : Int32) (ab_s h j1).2 = true) ∧ wm d 196 [.int x1, .int 0, .int ((ab_i h j1 (Int32.toNatClampNeg (7 : Int32))) - 1)] h (fun r9 h9 => wq (d + 1) 300 14 [.ref x0, .int x1, .int x2] (r9.toList ++ []) h9 Q)) : wq (d + 1) 300 0 [.ref x0, .int x1, .int x2] [] h Q := by
  refine g3 c_300_0 rfl ?_
  refine g1 c_300_1 k_0 ?_
  refine g5 c_300_2 rfl ?_
  obtain ⟨ho, j1, hr, t⟩ := t
  refine g45 c_300_3 ho hr ?_
  refine g1 c_300_6 k_7 ?_
  obtain ⟨ho, t⟩ := t
  refine g50 c_300_8 ho ?_
  refine g1 c_300_9 k_1 ?_
  refine g11 c_300_10 ?_
  exact g81 (As := [.int x1, .int 0, .int ((ab_i h j1 (Int32.toNatClampNeg (7 : Int32))) - 1)]) (rest := []) c_300_11 rfl rfl (Nat.le_of_ble_eq_true rfl) (Nat.le_of_ble_eq_true rfl) t
set_option maxRecDepth 20000 in
theorem t_300_14 {d : Nat} {h : ab_H} {Q : Option Value → ab_H → Prop} {x0 : Nat} {x1 : Int32} {x2 : Int32} {s0 : Int32} (t : if s0 = 0 then (Q (some (.int (-1))) h) else (wm d 196 [.int x2, .int 0, .int 4] h (fun r9 h9 => wq (d + 1) 300 23 [.ref x0, .int x1, .int x2] (r9.toList ++ []) h9 Q))) : wq (d + 1) 300 14 [.ref x0, .int x1, .int x2] [.int s0] h Q := by
  refine gif c_300_14 (gbr t rfl rfl (fun hc t => ?_) (fun hc t => ?_))
  · refine g1 c_300_44 k_m1 ?_
    exact g90 c_300_45 t
  · refine g3 c_300_17 rfl ?_
    refine g1 c_300_18 k_0 ?_
    refine g1 c_300_19 k_4 ?_
    exact g81 (As := [.int x2, .int 0, .int 4]) (rest := []) c_300_20 rfl rfl (Nat.le_of_ble_eq_true rfl) (Nat.le_of_ble_eq_true rfl) t
set_option maxRecDepth 20000 in
theorem t_300_23 {d : Nat} {h : ab_H} {Q : Option Value → ab_H → Prop} {x0 : Nat} {x1 : Int32} {x2 : Int32} {s0 : Int32} (t : if s0 = 0 then (Q (some (.int (-1))) h) else (ab_ok h x0 112 = true ∧ ∃ j1 : Nat, ab_r h x0 0 = some j1 ∧ ((j1 = 0 ∨ ab_ok h j1 0 = true) ∧ ab_in ((4372 + (8 * x1)) + x2) (ab_s h j1).2 = true) ∧ Q (some (.int (ab_i h j1 (Int32.toNatClampNeg ((4372 + (8 * x1)) + x2))))) h)) : wq d 300 23 [.ref x0, .int x1, .int x2] [.int s0] h Q := by
  refine gif c_300_23 (gbr t rfl rfl (fun hc t => ?_) (fun hc t => ?_))
  · refine g1 c_300_44 k_m1 ?_
    exact g90 c_300_45 t
  · refine g5 c_300_26 rfl ?_
    obtain ⟨ho, j1, hr, t⟩ := t
    refine g45 c_300_27 ho hr ?_
    refine g1 c_300_30 k_4372 ?_
    refine g1 c_300_33 k_8 ?_
    refine g3 c_300_35 rfl ?_
    refine g12 c_300_36 ?_
    refine g10 c_300_37 ?_
    refine g3 c_300_38 rfl ?_
    refine g10 c_300_39 ?_
    obtain ⟨ho, t⟩ := t
    refine g50 c_300_40 ho ?_
    refine g38 c_300_41 rfl ?_
    exact g90 c_300_45 t
-- method 301: MillTownModel.book(III)I
theorem c_301_0 : pg_cd 301 0 = (5, 1, 0, 0, 0) := by decide +kernel
theorem c_301_1 : pg_cd 301 1 = (3, 1, 0, 1, 0) := by decide +kernel
theorem c_301_2 : pg_cd 301 2 = (80, 202, 96, 0, 0) := by decide +kernel
theorem c_301_5 : pg_cd 301 5 = (36, 3, 0, 0, 28) := by decide +kernel
theorem c_301_8 : pg_cd 301 8 = (3, 1, 0, 2, 0) := by decide +kernel
theorem c_301_9 : pg_cd 301 9 = (1, 1, 0, 0, 0) := by decide +kernel
theorem c_301_10 : pg_cd 301 10 = (5, 1, 0, 0, 0) := by decide +kernel
theorem c_301_11 : pg_cd 301 11 = (45, 12, 8, 0, 0) := by decide +kernel
theorem c_301_14 : pg_cd 301 14 = (1, 1, 0, 0, 0) := by decide +kernel
theorem c_301_15 : pg_cd 301 15 = (50, 1, 0, 0, 0) := by decide +kernel
theorem c_301_16 : pg_cd 301 16 = (1, 1, 0, 0, 1) := by decide +kernel
theorem c_301_17 : pg_cd 301 17 = (11, 1, 0, 0, 0) := by decide +kernel
theorem c_301_18 : pg_cd 301 18 = (81, 196, 76, 0, 0) := by decide +kernel
theorem c_301_21 : pg_cd 301 21 = (36, 3, 0, 0, 12) := by decide +kernel
theorem c_301_24 : pg_cd 301 24 = (3, 1, 0, 3, 0) := by decide +kernel
theorem c_301_25 : pg_cd 301 25 = (1, 1, 0, 0, 0) := by decide +kernel
theorem c_301_26 : pg_cd 301 26 = (1, 1, 0, 0, 1) := by decide +kernel
theorem c_301_27 : pg_cd 301 27 = (81, 196, 76, 0, 0) := by decide +kernel
theorem c_301_30 : pg_cd 301 30 = (36, 3, 0, 1, 5) := by decide +kernel
theorem c_301_33 : pg_cd 301 33 = (1, 1, 0, 0, (-1)) := by decide +kernel
theorem c_301_34 : pg_cd 301 34 = (90, 0, 0, 0, 0) := by decide +kernel
theorem c_301_35 : pg_cd 301 35 = (5, 1, 0, 0, 0) := by decide +kernel
theorem c_301_36 : pg_cd 301 36 = (45, 12, 8, 0, 0) := by decide +kernel
theorem c_301_39 : pg_cd 301 39 = (3, 1, 0, 3, 0) := by decide +kernel
theorem c_301_40 : pg_cd 301 40 = (36, 3, 0, 1, 9) := by decide +kernel
theorem c_301_43 : pg_cd 301 43 = (1, 3, 0, 0, 22300) := by decide +kernel
theorem c_301_46 : pg_cd 301 46 = (38, 3, 0, 0, 6) := by decide +kernel
theorem c_301_49 : pg_cd 301 49 = (1, 3, 0, 0, 31900) := by decide +kernel
theorem c_301_52 : pg_cd 301 52 = (1, 2, 0, 0, 24) := by decide +kernel
theorem c_301_54 : pg_cd 301 54 = (3, 1, 0, 2, 0) := by decide +kernel
theorem c_301_55 : pg_cd 301 55 = (12, 1, 0, 0, 0) := by decide +kernel
theorem c_301_56 : pg_cd 301 56 = (10, 1, 0, 0, 0) := by decide +kernel
theorem c_301_57 : pg_cd 301 57 = (3, 1, 0, 1, 0) := by decide +kernel
theorem c_301_58 : pg_cd 301 58 = (10, 1, 0, 0, 0) := by decide +kernel
theorem c_301_59 : pg_cd 301 59 = (50, 1, 0, 0, 0) := by decide +kernel
theorem c_301_60 : pg_cd 301 60 = (90, 0, 0, 0, 0) := by decide +kernel
theorem mx_301 : pg_mx 301 = 4 := by decide +kernel
theorem m_301 {d : Nat} {h : ab_H} {Q : Option Value → ab_H → Prop} {x0 : Nat} {x1 : Int32} {x2 : Int32} {x3 : Int32} (t : wq d 301 0 [.ref x0, .int x1, .int x2, .int x3] [] h Q) : wm d 301 [.ref x0, .int x1, .int x2, .int x3] h Q := by
  unfold wm
  rw [mx_301]
  exact t
set_option maxRecDepth 20000 in
theorem t_301_0 {d : Nat} {h : ab_H} {Q : Option Value → ab_H → Prop} {x0 : Nat} {x1 : Int32} {x2 : Int32} {x3 : Int32} (t : ab_ok h x0 112 = true ∧ wm d 202 [.ref x0, .int x1] h (fun r9 h9 => wq (d + 1) 301 5 [.ref x0, .int x1, .int x2, .int x3] (r9.toList ++ []) h9 Q)) : wq (d + 1) 301 0 [.ref x0, .int x1, .int x2, .int x3] [] h Q := by
  refine g5 c_301_0 rfl ?_
  refine g3 c_301_1 rfl ?_
  exact g80 (As := [.int x1]) (rest := []) c_301_2 rfl rfl (Nat.le_of_ble_eq_true rfl) (Nat.le_of_ble_eq_true rfl) t.1 t.2
set_option maxRecDepth 20000 in
theorem t_301_5 {d : Nat} {h : ab_H} {Q : Option Value → ab_H → Prop} {x0 : Nat} {x1 : Int32} {x2 : Int32} {x3 : Int32} {s0 : Int32} (t : if s0 = 0 then (Q (some (.int (-1))) h) else (ab_ok h x0 112 = true ∧ ∃ j1 : Nat, ab_r h x0 0 = some j1 ∧ ((j1 = 0 ∨ ab_ok h j1 0 = true) ∧ ab_in (0 : Int32) (ab_s h j1).2 = true) ∧ wm d 196 [.int x2, .int 0, .int ((ab_i h j1 (Int32.toNatClampNeg (0 : Int32))) - 1)] h (fun r9 h9 => wq (d + 1) 301 21 [.ref x0, .int x1, .int x2, .int x3] (r9.toList ++ []) h9 Q))) : wq (d + 1) 301 5 [.ref x0, .int x1, .int x2, .int x3] [.int s0] h Q := by
  refine gif c_301_5 (gbr t rfl rfl (fun hc t => ?_) (fun hc t => ?_))
  · refine g1 c_301_33 k_m1 ?_
    exact g90 c_301_34 t
  · refine g3 c_301_8 rfl ?_
    refine g1 c_301_9 k_0 ?_
    refine g5 c_301_10 rfl ?_
    obtain ⟨ho, j1, hr, t⟩ := t
    refine g45 c_301_11 ho hr ?_
    refine g1 c_301_14 k_0 ?_
    obtain ⟨ho, t⟩ := t
    refine g50 c_301_15 ho ?_
    refine g1 c_301_16 k_1 ?_
    refine g11 c_301_17 ?_
    exact g81 (As := [.int x2, .int 0, .int ((ab_i h j1 (Int32.toNatClampNeg (0 : Int32))) - 1)]) (rest := []) c_301_18 rfl rfl (Nat.le_of_ble_eq_true rfl) (Nat.le_of_ble_eq_true rfl) t
set_option maxRecDepth 20000 in
theorem t_301_21 {d : Nat} {h : ab_H} {Q : Option Value → ab_H → Prop} {x0 : Nat} {x1 : Int32} {x2 : Int32} {x3 : Int32} {s0 : Int32} (t : if s0 = 0 then (Q (some (.int (-1))) h) else (wm d 196 [.int x3, .int 0, .int 1] h (fun r9 h9 => wq (d + 1) 301 30 [.ref x0, .int x1, .int x2, .int x3] (r9.toList ++ []) h9 Q))) : wq (d + 1) 301 21 [.ref x0, .int x1, .int x2, .int x3] [.int s0] h Q := by
  refine gif c_301_21 (gbr t rfl rfl (fun hc t => ?_) (fun hc t => ?_))
  · refine g1 c_301_33 k_m1 ?_
    exact g90 c_301_34 t
  · refine g3 c_301_24 rfl ?_
    refine g1 c_301_25 k_0 ?_
    refine g1 c_301_26 k_1 ?_
    exact g81 (As := [.int x3, .int 0, .int 1]) (rest := []) c_301_27 rfl rfl (Nat.le_of_ble_eq_true rfl) (Nat.le_of_ble_eq_true rfl) t
set_option maxRecDepth 20000 in
theorem t_301_30 {d : Nat} {h : ab_H} {Q : Option Value → ab_H → Prop} {x0 : Nat} {x1 : Int32} {x2 : Int32} {x3 : Int32} {s0 : Int32} (t : if s0 = 0 then (Q (some (.int (-1))) h) else (ab_ok h x0 112 = true ∧ ∃ j1 : Nat, ab_r h x0 0 = some j1 ∧ if x3 = 0 then (((j1 = 0 ∨ ab_ok h j1 0 = true) ∧ ab_in ((22300 + (24 * x2)) + x1) (ab_s h j1).2 = true) ∧ Q (some (.int (ab_i h j1 (Int32.toNatClampNeg ((22300 + (24 * x2)) + x1))))) h) else (((j1 = 0 ∨ ab_ok h j1 0 = true) ∧ ab_in ((31900 + (24 * x2)) + x1) (ab_s h j1).2 = true) ∧ Q (some (.int (ab_i h j1 (Int32.toNatClampNeg ((31900 + (24 * x2)) + x1))))) h))) : wq d 301 30 [.ref x0, .int x1, .int x2, .int x3] [.int s0] h Q := by
  refine gif c_301_30 (gbn t (ab_c1 _ _) rfl (fun hc t => ?_) (fun hc t => ?_))
  · refine g1 c_301_33 k_m1 ?_
    exact g90 c_301_34 t
  · refine g5 c_301_35 rfl ?_
    obtain ⟨ho, j1, hr, t⟩ := t
    refine g45 c_301_36 ho hr ?_
    refine g3 c_301_39 rfl ?_
    refine gif c_301_40 (gbn t (ab_c1 _ _) rfl (fun hc t => ?_) (fun hc t => ?_))
    · refine g1 c_301_43 k_22300 ?_
      refine g38 c_301_46 rfl ?_
      refine g1 c_301_52 k_24 ?_
      refine g3 c_301_54 rfl ?_
      refine g12 c_301_55 ?_
      refine g10 c_301_56 ?_
      refine g3 c_301_57 rfl ?_
      refine g10 c_301_58 ?_
      obtain ⟨ho, t⟩ := t
      refine g50 c_301_59 ho ?_
      exact g90 c_301_60 t
    · refine g1 c_301_49 k_31900 ?_
      refine g1 c_301_52 k_24 ?_
      refine g3 c_301_54 rfl ?_
      refine g12 c_301_55 ?_
      refine g10 c_301_56 ?_
      refine g3 c_301_57 rfl ?_
      refine g10 c_301_58 ?_
      obtain ⟨ho, t⟩ := t
      refine g50 c_301_59 ho ?_
      exact g90 c_301_60 t
-- method 302: MillTownModel.sumOfWeek(II)I
theorem c_302_0 : pg_cd 302 0 = (1, 1, 0, 0, 0) := by decide +kernel
theorem c_302_1 : pg_cd 302 1 = (6, 1, 0, 3, 0) := by decide +kernel
theorem c_302_2 : pg_cd 302 2 = (1, 1, 0, 0, 0) := by decide +kernel
theorem c_302_3 : pg_cd 302 3 = (6, 2, 0, 4, 0) := by decide +kernel
theorem c_302_5 : pg_cd 302 5 = (3, 2, 0, 4, 0) := by decide +kernel
theorem c_302_7 : pg_cd 302 7 = (5, 1, 0, 0, 0) := by decide +kernel
theorem c_302_8 : pg_cd 302 8 = (45, 12, 8, 0, 0) := by decide +kernel
theorem c_302_11 : pg_cd 302 11 = (1, 1, 0, 0, 3) := by decide +kernel
theorem c_302_12 : pg_cd 302 12 = (50, 1, 0, 0, 0) := by decide +kernel
theorem c_302_13 : pg_cd 302 13 = (37, 3, 0, 3, 26) := by decide +kernel
theorem c_302_16 : pg_cd 302 16 = (3, 1, 0, 3, 0) := by decide +kernel
theorem c_302_17 : pg_cd 302 17 = (5, 1, 0, 0, 0) := by decide +kernel
theorem c_302_18 : pg_cd 302 18 = (45, 12, 8, 0, 0) := by decide +kernel
theorem c_302_21 : pg_cd 302 21 = (3, 1, 0, 1, 0) := by decide +kernel
theorem c_302_22 : pg_cd 302 22 = (1, 2, 0, 0, 24) := by decide +kernel
theorem c_302_24 : pg_cd 302 24 = (3, 1, 0, 2, 0) := by decide +kernel
theorem c_302_25 : pg_cd 302 25 = (12, 1, 0, 0, 0) := by decide +kernel
theorem c_302_26 : pg_cd 302 26 = (10, 1, 0, 0, 0) := by decide +kernel
theorem c_302_27 : pg_cd 302 27 = (3, 2, 0, 4, 0) := by decide +kernel
theorem c_302_29 : pg_cd 302 29 = (10, 1, 0, 0, 0) := by decide +kernel
theorem c_302_30 : pg_cd 302 30 = (50, 1, 0, 0, 0) := by decide +kernel
theorem c_302_31 : pg_cd 302 31 = (10, 1, 0, 0, 0) := by decide +kernel
theorem c_302_32 : pg_cd 302 32 = (6, 1, 0, 3, 0) := by decide +kernel
theorem c_302_33 : pg_cd 302 33 = (9, 3, 0, 4, 1) := by decide +kernel
theorem c_302_36 : pg_cd 302 36 = (38, 3, 0, 0, (-31)) := by decide +kernel
theorem c_302_39 : pg_cd 302 39 = (3, 1, 0, 3, 0) := by decide +kernel
theorem c_302_40 : pg_cd 302 40 = (90, 0, 0, 0, 0) := by decide +kernel
theorem mx_302 : pg_mx 302 = 5 := by decide +kernel
theorem m_302 {d : Nat} {h : ab_H} {Q : Option Value → ab_H → Prop} {x0 : Nat} {x1 : Int32} {x2 : Int32} (t : wq d 302 0 [.ref x0, .int x1, .int x2, .retAddr 0, .retAddr 0] [] h Q) : wm d 302 [.ref x0, .int x1, .int x2] h Q := by
  unfold wm
  rw [mx_302]
  exact t
set_option maxRecDepth 20000 in
theorem t_302_0 {d : Nat} {h : ab_H} {Q : Option Value → ab_H → Prop} {x0 : Nat} {x1 : Int32} {x2 : Int32} (t : wq d 302 5 [.ref x0, .int x1, .int x2, .int 0, .int 0] [] h Q) : wq d 302 0 [.ref x0, .int x1, .int x2, .retAddr 0, .retAddr 0] [] h Q := by
  refine g1 c_302_0 k_0 ?_
  refine g6 (L' := [.ref x0, .int x1, .int x2, .int 0, .retAddr 0]) c_302_1 rfl ?_
  refine g1 c_302_2 k_0 ?_
  refine g6 (L' := [.ref x0, .int x1, .int x2, .int 0, .int 0]) c_302_3 rfl ?_
  exact t
set_option maxRecDepth 20000 in
theorem t_302_5 {d : Nat} {h : ab_H} {Q : Option Value → ab_H → Prop} {x0 : Nat} {x1 : Int32} {x2 : Int32} {x3 : Int32} {x4 : Int32} (t : ab_ok h x0 112 = true ∧ ∃ j1 : Nat, ab_r h x0 0 = some j1 ∧ ((j1 = 0 ∨ ab_ok h j1 0 = true) ∧ ab_in (3 : Int32) (ab_s h j1).2 = true) ∧ if (ab_i h j1 (Int32.toNatClampNeg (3 : Int32))) ≤ x4 then (Q (some (.int x3)) h) else (ab_ok h x0 112 = true ∧ ∃ j2 : Nat, ab_r h x0 0 = some j2 ∧ ((j2 = 0 ∨ ab_ok h j2 0 = true) ∧ ab_in ((x1 + (24 * x2)) + x4) (ab_s h j2).2 = true) ∧ ∀ y3 : Int32, y3 = (x3 + (ab_i h j2 (Int32.toNatClampNeg ((x1 + (24 * x2)) + x4)))) → wq d 302 5 [.ref x0, .int x1, .int x2, .int y3, .int (x4 + 1)] [] h Q)) : wq d 302 5 [.ref x0, .int x1, .int x2, .int x3, .int x4] [] h Q := by
  refine g3 c_302_5 rfl ?_
  refine g5 c_302_7 rfl ?_
  obtain ⟨ho, j1, hr, t⟩ := t
  refine g45 c_302_8 ho hr ?_
  refine g1 c_302_11 k_3 ?_
  obtain ⟨ho, t⟩ := t
  refine g50 c_302_12 ho ?_
  refine gcm c_302_13 (gbr t rfl rfl (fun hc t => ?_) (fun hc t => ?_))
  · refine g3 c_302_39 rfl ?_
    exact g90 c_302_40 t
  · refine g3 c_302_16 rfl ?_
    refine g5 c_302_17 rfl ?_
    obtain ⟨ho, j2, hr, t⟩ := t
    refine g45 c_302_18 ho hr ?_
    refine g3 c_302_21 rfl ?_
    refine g1 c_302_22 k_24 ?_
    refine g3 c_302_24 rfl ?_
    refine g12 c_302_25 ?_
    refine g10 c_302_26 ?_
    refine g3 c_302_27 rfl ?_
    refine g10 c_302_29 ?_
    obtain ⟨ho, t⟩ := t
    refine g50 c_302_30 ho ?_
    refine g10 c_302_31 ?_
    refine g6y (Lf := fun y3 => [.ref x0, .int x1, .int x2, .int y3, .int x4]) c_302_32 (fun _ => rfl) (fun y3 ey3 => ?_)
    have t := t y3 ey3
    refine g9 (L' := [.ref x0, .int x1, .int x2, .int y3, .int (x4 + 1)]) c_302_33 rfl k_1 rfl ?_
    refine g38 c_302_36 rfl ?_
    exact t
-- method 303: MillTownModel.behind(I)I
theorem c_303_0 : pg_cd 303 0 = (1, 1, 0, 0, 0) := by decide +kernel
theorem c_303_1 : pg_cd 303 1 = (6, 1, 0, 2, 0) := by decide +kernel
theorem c_303_2 : pg_cd 303 2 = (1, 1, 0, 0, 0) := by decide +kernel
theorem c_303_3 : pg_cd 303 3 = (6, 1, 0, 3, 0) := by decide +kernel
theorem c_303_4 : pg_cd 303 4 = (3, 1, 0, 3, 0) := by decide +kernel
theorem c_303_5 : pg_cd 303 5 = (5, 1, 0, 0, 0) := by decide +kernel
theorem c_303_6 : pg_cd 303 6 = (45, 12, 8, 0, 0) := by decide +kernel
theorem c_303_9 : pg_cd 303 9 = (1, 1, 0, 0, 1) := by decide +kernel
theorem c_303_10 : pg_cd 303 10 = (50, 1, 0, 0, 0) := by decide +kernel
theorem c_303_11 : pg_cd 303 11 = (37, 3, 0, 3, 23) := by decide +kernel
theorem c_303_14 : pg_cd 303 14 = (3, 1, 0, 1, 0) := by decide +kernel
theorem c_303_15 : pg_cd 303 15 = (1, 1, 0, 0, 4) := by decide +kernel
theorem c_303_16 : pg_cd 303 16 = (37, 3, 0, 1, 18) := by decide +kernel
theorem c_303_19 : pg_cd 303 19 = (3, 1, 0, 2, 0) := by decide +kernel
theorem c_303_20 : pg_cd 303 20 = (5, 1, 0, 0, 0) := by decide +kernel
theorem c_303_21 : pg_cd 303 21 = (3, 1, 0, 3, 0) := by decide +kernel
theorem c_303_22 : pg_cd 303 22 = (1, 1, 0, 0, 5) := by decide +kernel
theorem c_303_23 : pg_cd 303 23 = (80, 198, 118, 0, 0) := by decide +kernel
theorem c_303_26 : pg_cd 303 26 = (10, 1, 0, 0, 0) := by decide +kernel
theorem c_303_27 : pg_cd 303 27 = (6, 1, 0, 2, 0) := by decide +kernel
theorem c_303_28 : pg_cd 303 28 = (9, 3, 0, 3, 1) := by decide +kernel
theorem c_303_31 : pg_cd 303 31 = (38, 3, 0, 0, (-27)) := by decide +kernel
theorem c_303_34 : pg_cd 303 34 = (1, 1, 0, 0, 0) := by decide +kernel
theorem c_303_35 : pg_cd 303 35 = (6, 1, 0, 3, 0) := by decide +kernel
theorem c_303_36 : pg_cd 303 36 = (3, 1, 0, 3, 0) := by decide +kernel
theorem c_303_37 : pg_cd 303 37 = (5, 1, 0, 0, 0) := by decide +kernel
theorem c_303_38 : pg_cd 303 38 = (45, 12, 8, 0, 0) := by decide +kernel
theorem c_303_41 : pg_cd 303 41 = (1, 1, 0, 0, 2) := by decide +kernel
theorem c_303_42 : pg_cd 303 42 = (50, 1, 0, 0, 0) := by decide +kernel
theorem c_303_43 : pg_cd 303 43 = (37, 3, 0, 3, 32) := by decide +kernel
theorem c_303_46 : pg_cd 303 46 = (3, 1, 0, 1, 0) := by decide +kernel
theorem c_303_47 : pg_cd 303 47 = (1, 1, 0, 0, 5) := by decide +kernel
theorem c_303_48 : pg_cd 303 48 = (37, 3, 0, 1, 27) := by decide +kernel
theorem c_303_51 : pg_cd 303 51 = (3, 1, 0, 2, 0) := by decide +kernel
theorem c_303_52 : pg_cd 303 52 = (5, 1, 0, 0, 0) := by decide +kernel
theorem c_303_53 : pg_cd 303 53 = (45, 12, 8, 0, 0) := by decide +kernel
theorem c_303_56 : pg_cd 303 56 = (1, 3, 0, 0, 3428) := by decide +kernel
theorem c_303_59 : pg_cd 303 59 = (1, 2, 0, 0, 8) := by decide +kernel
theorem c_303_61 : pg_cd 303 61 = (3, 1, 0, 3, 0) := by decide +kernel
theorem c_303_62 : pg_cd 303 62 = (12, 1, 0, 0, 0) := by decide +kernel
theorem c_303_63 : pg_cd 303 63 = (10, 1, 0, 0, 0) := by decide +kernel
theorem c_303_64 : pg_cd 303 64 = (1, 1, 0, 0, 3) := by decide +kernel
theorem c_303_65 : pg_cd 303 65 = (10, 1, 0, 0, 0) := by decide +kernel
theorem c_303_66 : pg_cd 303 66 = (50, 1, 0, 0, 0) := by decide +kernel
theorem c_303_67 : pg_cd 303 67 = (10, 1, 0, 0, 0) := by decide +kernel
theorem c_303_68 : pg_cd 303 68 = (6, 1, 0, 2, 0) := by decide +kernel
theorem c_303_69 : pg_cd 303 69 = (9, 3, 0, 3, 1) := by decide +kernel
theorem c_303_72 : pg_cd 303 72 = (38, 3, 0, 0, (-36)) := by decide +kernel
theorem c_303_75 : pg_cd 303 75 = (1, 1, 0, 0, 0) := by decide +kernel
theorem c_303_76 : pg_cd 303 76 = (6, 1, 0, 3, 0) := by decide +kernel
theorem c_303_77 : pg_cd 303 77 = (3, 1, 0, 3, 0) := by decide +kernel
theorem c_303_78 : pg_cd 303 78 = (5, 1, 0, 0, 0) := by decide +kernel
theorem c_303_79 : pg_cd 303 79 = (45, 12, 8, 0, 0) := by decide +kernel
theorem c_303_82 : pg_cd 303 82 = (1, 1, 0, 0, 3) := by decide +kernel
theorem c_303_83 : pg_cd 303 83 = (50, 1, 0, 0, 0) := by decide +kernel
theorem c_303_84 : pg_cd 303 84 = (37, 3, 0, 3, 24) := by decide +kernel
theorem c_303_87 : pg_cd 303 87 = (3, 1, 0, 1, 0) := by decide +kernel
theorem c_303_88 : pg_cd 303 88 = (1, 2, 0, 0, 6) := by decide +kernel
theorem c_303_90 : pg_cd 303 90 = (37, 3, 0, 1, 18) := by decide +kernel
theorem c_303_93 : pg_cd 303 93 = (3, 1, 0, 2, 0) := by decide +kernel
theorem c_303_94 : pg_cd 303 94 = (5, 1, 0, 0, 0) := by decide +kernel
theorem c_303_95 : pg_cd 303 95 = (3, 1, 0, 3, 0) := by decide +kernel
theorem c_303_96 : pg_cd 303 96 = (1, 1, 0, 0, 3) := by decide +kernel
theorem c_303_97 : pg_cd 303 97 = (80, 200, 99, 0, 0) := by decide +kernel
theorem c_303_100 : pg_cd 303 100 = (10, 1, 0, 0, 0) := by decide +kernel
theorem c_303_101 : pg_cd 303 101 = (6, 1, 0, 2, 0) := by decide +kernel
theorem c_303_102 : pg_cd 303 102 = (9, 3, 0, 3, 1) := by decide +kernel
theorem c_303_105 : pg_cd 303 105 = (38, 3, 0, 0, (-28)) := by decide +kernel
theorem c_303_108 : pg_cd 303 108 = (3, 1, 0, 2, 0) := by decide +kernel
theorem c_303_109 : pg_cd 303 109 = (90, 0, 0, 0, 0) := by decide +kernel
theorem mx_303 : pg_mx 303 = 4 := by decide +kernel
theorem m_303 {d : Nat} {h : ab_H} {Q : Option Value → ab_H → Prop} {x0 : Nat} {x1 : Int32} (t : wq d 303 0 [.ref x0, .int x1, .retAddr 0, .retAddr 0] [] h Q) : wm d 303 [.ref x0, .int x1] h Q := by
  unfold wm
  rw [mx_303]
  exact t
set_option maxRecDepth 20000 in
theorem t_303_0 {d : Nat} {h : ab_H} {Q : Option Value → ab_H → Prop} {x0 : Nat} {x1 : Int32} (t : wq d 303 4 [.ref x0, .int x1, .int 0, .int 0] [] h Q) : wq d 303 0 [.ref x0, .int x1, .retAddr 0, .retAddr 0] [] h Q := by
  refine g1 c_303_0 k_0 ?_
  refine g6 (L' := [.ref x0, .int x1, .int 0, .retAddr 0]) c_303_1 rfl ?_
  refine g1 c_303_2 k_0 ?_
  refine g6 (L' := [.ref x0, .int x1, .int 0, .int 0]) c_303_3 rfl ?_
  exact t
set_option maxRecDepth 20000 in
theorem t_303_4 {d : Nat} {h : ab_H} {Q : Option Value → ab_H → Prop} {x0 : Nat} {x1 : Int32} {x2 : Int32} {x3 : Int32} (t : ab_ok h x0 112 = true ∧ ∃ j1 : Nat, ab_r h x0 0 = some j1 ∧ ((j1 = 0 ∨ ab_ok h j1 0 = true) ∧ ab_in (1 : Int32) (ab_s h j1).2 = true) ∧ if (ab_i h j1 (Int32.toNatClampNeg (1 : Int32))) ≤ x3 then (wq (d + 1) 303 36 [.ref x0, .int x1, .int x2, .int 0] [] h Q) else (if x1 = 4 then (ab_ok h x0 112 = true ∧ wm d 198 [.ref x0, .int x3, .int 5] h (fun r9 h9 => wq (d + 1) 303 26 [.ref x0, .int x1, .int x2, .int x3] (r9.toList ++ [.int x2]) h9 Q)) else (wq (d + 1) 303 36 [.ref x0, .int x1, .int x2, .int 0] [] h Q))) : wq (d + 1) 303 4 [.ref x0, .int x1, .int x2, .int x3] [] h Q := by
  refine g3 c_303_4 rfl ?_
  refine g5 c_303_5 rfl ?_
  obtain ⟨ho, j1, hr, t⟩ := t
  refine g45 c_303_6 ho hr ?_
  refine g1 c_303_9 k_1 ?_
  obtain ⟨ho, t⟩ := t
  refine g50 c_303_10 ho ?_
  refine gcm c_303_11 (gbr t rfl rfl (fun hc t => ?_) (fun hc t => ?_))
  · refine g1 c_303_34 k_0 ?_
    refine g6 (L' := [.ref x0, .int x1, .int x2, .int 0]) c_303_35 rfl ?_
    exact t
  · refine g3 c_303_14 rfl ?_
    refine g1 c_303_15 k_4 ?_
    refine gcm c_303_16 (gbn t (ab_c1 _ _) rfl (fun hc t => ?_) (fun hc t => ?_))
    · refine g3 c_303_19 rfl ?_
      refine g5 c_303_20 rfl ?_
      refine g3 c_303_21 rfl ?_
      refine g1 c_303_22 k_5 ?_
      exact g80 (As := [.int x3, .int 5]) (rest := [.int x2]) c_303_23 rfl rfl (Nat.le_of_ble_eq_true rfl) (Nat.le_of_ble_eq_true rfl) t.1 t.2
    · refine g1 c_303_34 k_0 ?_
      refine g6 (L' := [.ref x0, .int x1, .int x2, .int 0]) c_303_35 rfl ?_
      exact t
set_option maxRecDepth 20000 in
theorem t_303_26 {d : Nat} {h : ab_H} {Q : Option Value → ab_H → Prop} {x0 : Nat} {x1 : Int32} {x2 : Int32} {x3 : Int32} {s0 : Int32} {s1 : Int32} (t : wq d 303 4 [.ref x0, .int x1, .int (s0 + s1), .int (x3 + 1)] [] h Q) : wq d 303 26 [.ref x0, .int x1, .int x2, .int x3] [.int s1, .int s0] h Q := by
  refine g10 c_303_26 ?_
  refine g6 (L' := [.ref x0, .int x1, .int (s0 + s1), .int x3]) c_303_27 rfl ?_
  refine g9 (L' := [.ref x0, .int x1, .int (s0 + s1), .int (x3 + 1)]) c_303_28 rfl k_1 rfl ?_
  refine g38 c_303_31 rfl ?_
  exact t
set_option maxRecDepth 20000 in
theorem t_303_36 {d : Nat} {h : ab_H} {Q : Option Value → ab_H → Prop} {x0 : Nat} {x1 : Int32} {x2 : Int32} {x3 : Int32} (t : ab_ok h x0 112 = true ∧ ∃ j1 : Nat, ab_r h x0 0 = some j1 ∧ ((j1 = 0 ∨ ab_ok h j1 0 = true) ∧ ab_in (2 : Int32) (ab_s h j1).2 = true) ∧ if (ab_i h j1 (Int32.toNatClampNeg (2 : Int32))) ≤ x3 then (wq d 303 77 [.ref x0, .int x1, .int x2, .int 0] [] h Q) else (if x1 = 5 then (ab_ok h x0 112 = true ∧ ∃ j2 : Nat, ab_r h x0 0 = some j2 ∧ ((j2 = 0 ∨ ab_ok h j2 0 = true) ∧ ab_in ((3428 + (8 * x3)) + 3) (ab_s h j2).2 = true) ∧ ∀ y3 : Int32, y3 = (x2 + (ab_i h j2 (Int32.toNatClampNeg ((3428 + (8 * x3)) + 3)))) → wq d 303 36 [.ref x0, .int x1, .int y3, .int (x3 + 1)] [] h Q) else (wq d 303 77 [.ref x0, .int x1, .int x2, .int 0] [] h Q))) : wq d 303 36 [.ref x0, .int x1, .int x2, .int x3] [] h Q := by
  refine g3 c_303_36 rfl ?_
  refine g5 c_303_37 rfl ?_
  obtain ⟨ho, j1, hr, t⟩ := t
  refine g45 c_303_38 ho hr ?_
  refine g1 c_303_41 k_2 ?_
  obtain ⟨ho, t⟩ := t
  refine g50 c_303_42 ho ?_
  refine gcm c_303_43 (gbr t rfl rfl (fun hc t => ?_) (fun hc t => ?_))
  · refine g1 c_303_75 k_0 ?_
    refine g6 (L' := [.ref x0, .int x1, .int x2, .int 0]) c_303_76 rfl ?_
    exact t
  · refine g3 c_303_46 rfl ?_
    refine g1 c_303_47 k_5 ?_
    refine gcm c_303_48 (gbn t (ab_c1 _ _) rfl (fun hc t => ?_) (fun hc t => ?_))
    · refine g3 c_303_51 rfl ?_
      refine g5 c_303_52 rfl ?_
      obtain ⟨ho, j2, hr, t⟩ := t
      refine g45 c_303_53 ho hr ?_
      refine g1 c_303_56 k_3428 ?_
      refine g1 c_303_59 k_8 ?_
      refine g3 c_303_61 rfl ?_
      refine g12 c_303_62 ?_
      refine g10 c_303_63 ?_
      refine g1 c_303_64 k_3 ?_
      refine g10 c_303_65 ?_
      obtain ⟨ho, t⟩ := t
      refine g50 c_303_66 ho ?_
      refine g10 c_303_67 ?_
      refine g6y (Lf := fun y3 => [.ref x0, .int x1, .int y3, .int x3]) c_303_68 (fun _ => rfl) (fun y3 ey3 => ?_)
      have t := t y3 ey3
      refine g9 (L' := [.ref x0, .int x1, .int y3, .int (x3 + 1)]) c_303_69 rfl k_1 rfl ?_
      refine g38 c_303_72 rfl ?_
      exact t
    · refine g1 c_303_75 k_0 ?_
      refine g6 (L' := [.ref x0, .int x1, .int x2, .int 0]) c_303_76 rfl ?_
      exact t
set_option maxRecDepth 20000 in
theorem t_303_77 {d : Nat} {h : ab_H} {Q : Option Value → ab_H → Prop} {x0 : Nat} {x1 : Int32} {x2 : Int32} {x3 : Int32} (t : ab_ok h x0 112 = true ∧ ∃ j1 : Nat, ab_r h x0 0 = some j1 ∧ ((j1 = 0 ∨ ab_ok h j1 0 = true) ∧ ab_in (3 : Int32) (ab_s h j1).2 = true) ∧ if (ab_i h j1 (Int32.toNatClampNeg (3 : Int32))) ≤ x3 then (Q (some (.int x2)) h) else (if x1 = 6 then (ab_ok h x0 112 = true ∧ wm d 200 [.ref x0, .int x3, .int 3] h (fun r9 h9 => wq (d + 1) 303 100 [.ref x0, .int x1, .int x2, .int x3] (r9.toList ++ [.int x2]) h9 Q)) else (Q (some (.int x2)) h))) : wq (d + 1) 303 77 [.ref x0, .int x1, .int x2, .int x3] [] h Q := by
  refine g3 c_303_77 rfl ?_
  refine g5 c_303_78 rfl ?_
  obtain ⟨ho, j1, hr, t⟩ := t
  refine g45 c_303_79 ho hr ?_
  refine g1 c_303_82 k_3 ?_
  obtain ⟨ho, t⟩ := t
  refine g50 c_303_83 ho ?_
  refine gcm c_303_84 (gbr t rfl rfl (fun hc t => ?_) (fun hc t => ?_))
  · refine g3 c_303_108 rfl ?_
    exact g90 c_303_109 t
  · refine g3 c_303_87 rfl ?_
    refine g1 c_303_88 k_6 ?_
    refine gcm c_303_90 (gbn t (ab_c1 _ _) rfl (fun hc t => ?_) (fun hc t => ?_))
    · refine g3 c_303_93 rfl ?_
      refine g5 c_303_94 rfl ?_
      refine g3 c_303_95 rfl ?_
      refine g1 c_303_96 k_3 ?_
      exact g80 (As := [.int x3, .int 3]) (rest := [.int x2]) c_303_97 rfl rfl (Nat.le_of_ble_eq_true rfl) (Nat.le_of_ble_eq_true rfl) t.1 t.2
    · refine g3 c_303_108 rfl ?_
      exact g90 c_303_109 t
set_option maxRecDepth 20000 in
theorem t_303_100 {d : Nat} {h : ab_H} {Q : Option Value → ab_H → Prop} {x0 : Nat} {x1 : Int32} {x2 : Int32} {x3 : Int32} {s0 : Int32} {s1 : Int32} (t : wq d 303 77 [.ref x0, .int x1, .int (s0 + s1), .int (x3 + 1)] [] h Q) : wq d 303 100 [.ref x0, .int x1, .int x2, .int x3] [.int s1, .int s0] h Q := by
  refine g10 c_303_100 ?_
  refine g6 (L' := [.ref x0, .int x1, .int (s0 + s1), .int x3]) c_303_101 rfl ?_
  refine g9 (L' := [.ref x0, .int x1, .int (s0 + s1), .int (x3 + 1)]) c_303_102 rfl k_1 rfl ?_
  refine g38 c_303_105 rfl ?_
  exact t
-- method 304: MillTownModel.tried(IIII)I
theorem c_304_0 : pg_cd 304 0 = (3, 1, 0, 1, 0) := by decide +kernel
theorem c_304_1 : pg_cd 304 1 = (1, 1, 0, 0, (-1)) := by decide +kernel
theorem c_304_2 : pg_cd 304 2 = (37, 3, 0, 0, 19) := by decide +kernel
theorem c_304_5 : pg_cd 304 5 = (3, 1, 0, 1, 0) := by decide +kernel
theorem c_304_6 : pg_cd 304 6 = (1, 1, 0, 0, 0) := by decide +kernel
theorem c_304_7 : pg_cd 304 7 = (5, 1, 0, 0, 0) := by decide +kernel
theorem c_304_8 : pg_cd 304 8 = (45, 12, 8, 0, 0) := by decide +kernel
theorem c_304_11 : pg_cd 304 11 = (1, 1, 0, 0, 5) := by decide +kernel
theorem c_304_12 : pg_cd 304 12 = (50, 1, 0, 0, 0) := by decide +kernel
theorem c_304_13 : pg_cd 304 13 = (1, 1, 0, 0, 1) := by decide +kernel
theorem c_304_14 : pg_cd 304 14 = (11, 1, 0, 0, 0) := by decide +kernel
theorem c_304_15 : pg_cd 304 15 = (81, 196, 76, 0, 0) := by decide +kernel
theorem c_304_18 : pg_cd 304 18 = (36, 3, 0, 0, 51) := by decide +kernel
theorem c_304_21 : pg_cd 304 21 = (3, 1, 0, 2, 0) := by decide +kernel
theorem c_304_22 : pg_cd 304 22 = (1, 1, 0, 0, (-1)) := by decide +kernel
theorem c_304_23 : pg_cd 304 23 = (37, 3, 0, 0, 11) := by decide +kernel
theorem c_304_26 : pg_cd 304 26 = (5, 1, 0, 0, 0) := by decide +kernel
theorem c_304_27 : pg_cd 304 27 = (3, 1, 0, 2, 0) := by decide +kernel
theorem c_304_28 : pg_cd 304 28 = (80, 201, 115, 0, 0) := by decide +kernel
theorem c_304_31 : pg_cd 304 31 = (36, 3, 0, 0, 38) := by decide +kernel
theorem c_304_34 : pg_cd 304 34 = (3, 1, 0, 3, 0) := by decide +kernel
theorem c_304_35 : pg_cd 304 35 = (1, 1, 0, 0, 1) := by decide +kernel
theorem c_304_36 : pg_cd 304 36 = (1, 2, 0, 0, 30) := by decide +kernel
theorem c_304_38 : pg_cd 304 38 = (81, 196, 76, 0, 0) := by decide +kernel
theorem c_304_41 : pg_cd 304 41 = (36, 3, 0, 0, 28) := by decide +kernel
theorem c_304_44 : pg_cd 304 44 = (3, 2, 0, 4, 0) := by decide +kernel
theorem c_304_46 : pg_cd 304 46 = (1, 1, 0, 0, 0) := by decide +kernel
theorem c_304_47 : pg_cd 304 47 = (1, 2, 0, 0, 6) := by decide +kernel
theorem c_304_49 : pg_cd 304 49 = (81, 196, 76, 0, 0) := by decide +kernel
theorem c_304_52 : pg_cd 304 52 = (36, 3, 0, 0, 17) := by decide +kernel
theorem c_304_55 : pg_cd 304 55 = (5, 1, 0, 0, 0) := by decide +kernel
theorem c_304_56 : pg_cd 304 56 = (45, 12, 8, 0, 0) := by decide +kernel
theorem c_304_59 : pg_cd 304 59 = (1, 1, 0, 0, 0) := by decide +kernel
theorem c_304_60 : pg_cd 304 60 = (50, 1, 0, 0, 0) := by decide +kernel
theorem c_304_61 : pg_cd 304 61 = (3, 1, 0, 3, 0) := by decide +kernel
theorem c_304_62 : pg_cd 304 62 = (10, 1, 0, 0, 0) := by decide +kernel
theorem c_304_63 : pg_cd 304 63 = (1, 3, 0, 0, 400) := by decide +kernel
theorem c_304_66 : pg_cd 304 66 = (37, 3, 0, 5, 5) := by decide +kernel
theorem c_304_69 : pg_cd 304 69 = (1, 1, 0, 0, (-1)) := by decide +kernel
theorem c_304_70 : pg_cd 304 70 = (90, 0, 0, 0, 0) := by decide +kernel
theorem c_304_71 : pg_cd 304 71 = (5, 1, 0, 0, 0) := by decide +kernel
theorem c_304_72 : pg_cd 304 72 = (45, 12, 8, 0, 0) := by decide +kernel
theorem c_304_75 : pg_cd 304 75 = (5, 1, 0, 0, 0) := by decide +kernel
theorem c_304_76 : pg_cd 304 76 = (45, 12, 17, 2, 0) := by decide +kernel
theorem c_304_79 : pg_cd 304 79 = (81, 195, 72, 0, 0) := by decide +kernel
theorem c_304_82 : pg_cd 304 82 = (3, 1, 0, 1, 0) := by decide +kernel
theorem c_304_83 : pg_cd 304 83 = (1, 1, 0, 0, (-1)) := by decide +kernel
theorem c_304_84 : pg_cd 304 84 = (37, 3, 0, 0, 18) := by decide +kernel
theorem c_304_87 : pg_cd 304 87 = (5, 1, 0, 0, 0) := by decide +kernel
theorem c_304_88 : pg_cd 304 88 = (3, 1, 0, 1, 0) := by decide +kernel
theorem c_304_89 : pg_cd 304 89 = (3, 1, 0, 2, 0) := by decide +kernel
theorem c_304_90 : pg_cd 304 90 = (5, 1, 0, 0, 0) := by decide +kernel
theorem c_304_91 : pg_cd 304 91 = (45, 12, 8, 0, 0) := by decide +kernel
theorem c_304_94 : pg_cd 304 94 = (1, 1, 0, 0, 0) := by decide +kernel
theorem c_304_95 : pg_cd 304 95 = (50, 1, 0, 0, 0) := by decide +kernel
theorem c_304_96 : pg_cd 304 96 = (1, 3, 0, 0, 399) := by decide +kernel
theorem c_304_99 : pg_cd 304 99 = (80, 220, 124, 0, 0) := by decide +kernel
theorem c_304_102 : pg_cd 304 102 = (1, 1, 0, 0, 0) := by decide +kernel
theorem c_304_103 : pg_cd 304 103 = (6, 2, 0, 5, 0) := by decide +kernel
theorem c_304_105 : pg_cd 304 105 = (1, 1, 0, 0, 0) := by decide +kernel
theorem c_304_106 : pg_cd 304 106 = (6, 2, 0, 6, 0) := by decide +kernel
theorem c_304_108 : pg_cd 304 108 = (1, 1, 0, 0, 0) := by decide +kernel
theorem c_304_109 : pg_cd 304 109 = (6, 2, 0, 7, 0) := by decide +kernel
theorem c_304_111 : pg_cd 304 111 = (5, 1, 0, 0, 0) := by decide +kernel
theorem c_304_112 : pg_cd 304 112 = (1, 1, 0, 0, 0) := by decide +kernel
theorem c_304_113 : pg_cd 304 113 = (46, 12, 367, 31, 0) := by decide +kernel
theorem c_304_116 : pg_cd 304 116 = (1, 1, 0, 0, 0) := by decide +kernel
theorem c_304_117 : pg_cd 304 117 = (6, 2, 0, 8, 0) := by decide +kernel
theorem c_304_119 : pg_cd 304 119 = (3, 2, 0, 8, 0) := by decide +kernel
theorem c_304_121 : pg_cd 304 121 = (3, 1, 0, 3, 0) := by decide +kernel
theorem c_304_122 : pg_cd 304 122 = (37, 3, 0, 3, 82) := by decide +kernel
theorem c_304_125 : pg_cd 304 125 = (5, 1, 0, 0, 0) := by decide +kernel
theorem c_304_126 : pg_cd 304 126 = (45, 12, 8, 0, 0) := by decide +kernel
theorem c_304_129 : pg_cd 304 129 = (1, 1, 0, 0, 0) := by decide +kernel
theorem c_304_130 : pg_cd 304 130 = (50, 1, 0, 0, 0) := by decide +kernel
theorem c_304_131 : pg_cd 304 131 = (6, 2, 0, 9, 0) := by decide +kernel
theorem c_304_133 : pg_cd 304 133 = (5, 1, 0, 0, 0) := by decide +kernel
theorem c_304_134 : pg_cd 304 134 = (80, 293, 408, 0, 0) := by decide +kernel
theorem c_304_137 : pg_cd 304 137 = (3, 2, 0, 5, 0) := by decide +kernel
theorem c_304_139 : pg_cd 304 139 = (5, 1, 0, 0, 0) := by decide +kernel
theorem c_304_140 : pg_cd 304 140 = (1, 3, 0, 0, 22300) := by decide +kernel
theorem c_304_143 : pg_cd 304 143 = (3, 2, 0, 9, 0) := by decide +kernel
theorem c_304_145 : pg_cd 304 145 = (80, 302, 414, 0, 0) := by decide +kernel
theorem c_304_148 : pg_cd 304 148 = (10, 1, 0, 0, 0) := by decide +kernel
theorem c_304_149 : pg_cd 304 149 = (6, 2, 0, 5, 0) := by decide +kernel
theorem c_304_151 : pg_cd 304 151 = (3, 2, 0, 6, 0) := by decide +kernel
theorem c_304_153 : pg_cd 304 153 = (5, 1, 0, 0, 0) := by decide +kernel
theorem c_304_154 : pg_cd 304 154 = (1, 3, 0, 0, 31900) := by decide +kernel
theorem c_304_157 : pg_cd 304 157 = (3, 2, 0, 9, 0) := by decide +kernel
theorem c_304_159 : pg_cd 304 159 = (80, 302, 414, 0, 0) := by decide +kernel
theorem c_304_162 : pg_cd 304 162 = (10, 1, 0, 0, 0) := by decide +kernel
theorem c_304_163 : pg_cd 304 163 = (6, 2, 0, 6, 0) := by decide +kernel
theorem c_304_165 : pg_cd 304 165 = (1, 1, 0, 0, 0) := by decide +kernel
theorem c_304_166 : pg_cd 304 166 = (6, 2, 0, 10, 0) := by decide +kernel
theorem c_304_168 : pg_cd 304 168 = (3, 2, 0, 10, 0) := by decide +kernel
theorem c_304_170 : pg_cd 304 170 = (5, 1, 0, 0, 0) := by decide +kernel
theorem c_304_171 : pg_cd 304 171 = (45, 12, 8, 0, 0) := by decide +kernel
theorem c_304_174 : pg_cd 304 174 = (1, 1, 0, 0, 1) := by decide +kernel
theorem c_304_175 : pg_cd 304 175 = (50, 1, 0, 0, 0) := by decide +kernel
theorem c_304_176 : pg_cd 304 176 = (37, 3, 0, 3, 22) := by decide +kernel
theorem c_304_179 : pg_cd 304 179 = (3, 2, 0, 7, 0) := by decide +kernel
theorem c_304_181 : pg_cd 304 181 = (5, 1, 0, 0, 0) := by decide +kernel
theorem c_304_182 : pg_cd 304 182 = (3, 2, 0, 10, 0) := by decide +kernel
theorem c_304_184 : pg_cd 304 184 = (1, 2, 0, 0, 10) := by decide +kernel
theorem c_304_186 : pg_cd 304 186 = (80, 198, 118, 0, 0) := by decide +kernel
theorem c_304_189 : pg_cd 304 189 = (10, 1, 0, 0, 0) := by decide +kernel
theorem c_304_190 : pg_cd 304 190 = (6, 2, 0, 7, 0) := by decide +kernel
theorem c_304_192 : pg_cd 304 192 = (9, 3, 0, 10, 1) := by decide +kernel
theorem c_304_195 : pg_cd 304 195 = (38, 3, 0, 0, (-27)) := by decide +kernel
theorem c_304_198 : pg_cd 304 198 = (9, 3, 0, 8, 1) := by decide +kernel
theorem c_304_201 : pg_cd 304 201 = (38, 3, 0, 0, (-82)) := by decide +kernel
theorem c_304_204 : pg_cd 304 204 = (3, 2, 0, 4, 0) := by decide +kernel
theorem c_304_206 : pg_cd 304 206 = (36, 3, 0, 1, 8) := by decide +kernel
theorem c_304_209 : pg_cd 304 209 = (3, 2, 0, 5, 0) := by decide +kernel
theorem c_304_211 : pg_cd 304 211 = (38, 3, 0, 0, 44) := by decide +kernel
theorem c_304_214 : pg_cd 304 214 = (3, 2, 0, 4, 0) := by decide +kernel
theorem c_304_216 : pg_cd 304 216 = (1, 1, 0, 0, 1) := by decide +kernel
theorem c_304_217 : pg_cd 304 217 = (37, 3, 0, 1, 8) := by decide +kernel
theorem c_304_220 : pg_cd 304 220 = (3, 2, 0, 6, 0) := by decide +kernel
theorem c_304_222 : pg_cd 304 222 = (38, 3, 0, 0, 33) := by decide +kernel
theorem c_304_225 : pg_cd 304 225 = (3, 2, 0, 4, 0) := by decide +kernel
theorem c_304_227 : pg_cd 304 227 = (1, 1, 0, 0, 2) := by decide +kernel
theorem c_304_228 : pg_cd 304 228 = (37, 3, 0, 1, 8) := by decide +kernel
theorem c_304_231 : pg_cd 304 231 = (3, 2, 0, 7, 0) := by decide +kernel
theorem c_304_233 : pg_cd 304 233 = (38, 3, 0, 0, 22) := by decide +kernel
theorem c_304_236 : pg_cd 304 236 = (3, 2, 0, 4, 0) := by decide +kernel
theorem c_304_238 : pg_cd 304 238 = (1, 1, 0, 0, 3) := by decide +kernel
theorem c_304_239 : pg_cd 304 239 = (37, 3, 0, 1, 10) := by decide +kernel
theorem c_304_242 : pg_cd 304 242 = (5, 1, 0, 0, 0) := by decide +kernel
theorem c_304_243 : pg_cd 304 243 = (43, 12, 367, 31, 0) := by decide +kernel
theorem c_304_246 : pg_cd 304 246 = (38, 3, 0, 0, 9) := by decide +kernel
theorem c_304_249 : pg_cd 304 249 = (5, 1, 0, 0, 0) := by decide +kernel
theorem c_304_250 : pg_cd 304 250 = (3, 2, 0, 4, 0) := by decide +kernel
theorem c_304_252 : pg_cd 304 252 = (80, 303, 417, 0, 0) := by decide +kernel
theorem c_304_255 : pg_cd 304 255 = (6, 2, 0, 8, 0) := by decide +kernel
theorem c_304_257 : pg_cd 304 257 = (5, 1, 0, 0, 0) := by decide +kernel
theorem c_304_258 : pg_cd 304 258 = (45, 12, 17, 2, 0) := by decide +kernel
theorem c_304_261 : pg_cd 304 261 = (5, 1, 0, 0, 0) := by decide +kernel
theorem c_304_262 : pg_cd 304 262 = (45, 12, 8, 0, 0) := by decide +kernel
theorem c_304_265 : pg_cd 304 265 = (81, 195, 72, 0, 0) := by decide +kernel
theorem c_304_268 : pg_cd 304 268 = (3, 2, 0, 8, 0) := by decide +kernel
theorem c_304_270 : pg_cd 304 270 = (90, 0, 0, 0, 0) := by decide +kernel
theorem mx_304 : pg_mx 304 = 11 := by decide +kernel
theorem m_304 {d : Nat} {h : ab_H} {Q : Option Value → ab_H → Prop} {x0 : Nat} {x1 : Int32} {x2 : Int32} {x3 : Int32} {x4 : Int32} (t : wq d 304 0 [.ref x0, .int x1, .int x2, .int x3, .int x4, .retAddr 0, .retAddr 0, .retAddr 0, .retAddr 0, .retAddr 0, .retAddr 0] [] h Q) : wm d 304 [.ref x0, .int x1, .int x2, .int x3, .int x4] h Q := by
  unfold wm
  rw [mx_304]
  exact t
set_option maxRecDepth 20000 in
theorem t_304_0 {d : Nat} {h : ab_H} {Q : Option Value → ab_H → Prop} {x0 : Nat} {x1 : Int32} {x2 : Int32} {x3 : Int32} {x4 : Int32} (t : if x1 = (-1) then (if x2 = (-1) then (wm d 196 [.int x3, .int 1, .int 30] h (fun r9 h9 => wq (d + 1) 304 41 [.ref x0, .int x1, .int x2, .int x3, .int x4, .retAddr 0, .retAddr 0, .retAddr 0, .retAddr 0, .retAddr 0, .retAddr 0] (r9.toList ++ []) h9 Q)) else (ab_ok h x0 112 = true ∧ wm d 201 [.ref x0, .int x2] h (fun r9 h9 => wq (d + 1) 304 31 [.ref x0, .int x1, .int x2, .int x3, .int x4, .retAddr 0, .retAddr 0, .retAddr 0, .retAddr 0, .retAddr 0, .retAddr 0] (r9.toList ++ []) h9 Q))) else (ab_ok h x0 112 = true ∧ ∃ j1 : Nat, ab_r h x0 0 = some j1 ∧ ((j1 = 0 ∨ ab_ok h j1 0 = true) ∧ ab_in (5 : Int32) (ab_s h j1).2 = true) ∧ wm d 196 [.int x1, .int 0, .int ((ab_i h j1 (Int32.toNatClampNeg (5 : Int32))) - 1)] h (fun r9 h9 => wq (d + 1) 304 18 [.ref x0, .int x1, .int x2, .int x3, .int x4, .retAddr 0, .retAddr 0, .retAddr 0, .retAddr 0, .retAddr 0, .retAddr 0] (r9.toList ++ []) h9 Q))) : wq (d + 1) 304 0 [.ref x0, .int x1, .int x2, .int x3, .int x4, .retAddr 0, .retAddr 0, .retAddr 0, .retAddr 0, .retAddr 0, .retAddr 0] [] h Q := by
  refine g3 c_304_0 rfl ?_
  refine g1 c_304_1 k_m1 ?_
  refine gcm c_304_2 (gbr t rfl rfl (fun hc t => ?_) (fun hc t => ?_))
  · refine g3 c_304_21 rfl ?_
    refine g1 c_304_22 k_m1 ?_
    refine gcm c_304_23 (gbr t rfl rfl (fun hc t => ?_) (fun hc t => ?_))
    · refine g3 c_304_34 rfl ?_
      refine g1 c_304_35 k_1 ?_
      refine g1 c_304_36 k_30 ?_
      exact g81 (As := [.int x3, .int 1, .int 30]) (rest := []) c_304_38 rfl rfl (Nat.le_of_ble_eq_true rfl) (Nat.le_of_ble_eq_true rfl) t
    · refine g5 c_304_26 rfl ?_
      refine g3 c_304_27 rfl ?_
      exact g80 (As := [.int x2]) (rest := []) c_304_28 rfl rfl (Nat.le_of_ble_eq_true rfl) (Nat.le_of_ble_eq_true rfl) t.1 t.2
  · refine g3 c_304_5 rfl ?_
    refine g1 c_304_6 k_0 ?_
    refine g5 c_304_7 rfl ?_
    obtain ⟨ho, j1, hr, t⟩ := t
    refine g45 c_304_8 ho hr ?_
    refine g1 c_304_11 k_5 ?_
    obtain ⟨ho, t⟩ := t
    refine g50 c_304_12 ho ?_
    refine g1 c_304_13 k_1 ?_
    refine g11 c_304_14 ?_
    exact g81 (As := [.int x1, .int 0, .int ((ab_i h j1 (Int32.toNatClampNeg (5 : Int32))) - 1)]) (rest := []) c_304_15 rfl rfl (Nat.le_of_ble_eq_true rfl) (Nat.le_of_ble_eq_true rfl) t
set_option maxRecDepth 20000 in
theorem t_304_18 {d : Nat} {h : ab_H} {Q : Option Value → ab_H → Prop} {x0 : Nat} {x1 : Int32} {x2 : Int32} {x3 : Int32} {x4 : Int32} {s0 : Int32} (t : if s0 = 0 then (Q (some (.int (-1))) h) else (if x2 = (-1) then (wm d 196 [.int x3, .int 1, .int 30] h (fun r9 h9 => wq (d + 1) 304 41 [.ref x0, .int x1, .int x2, .int x3, .int x4, .retAddr 0, .retAddr 0, .retAddr 0, .retAddr 0, .retAddr 0, .retAddr 0] (r9.toList ++ []) h9 Q)) else (ab_ok h x0 112 = true ∧ wm d 201 [.ref x0, .int x2] h (fun r9 h9 => wq (d + 1) 304 31 [.ref x0, .int x1, .int x2, .int x3, .int x4, .retAddr 0, .retAddr 0, .retAddr 0, .retAddr 0, .retAddr 0, .retAddr 0] (r9.toList ++ []) h9 Q)))) : wq (d + 1) 304 18 [.ref x0, .int x1, .int x2, .int x3, .int x4, .retAddr 0, .retAddr 0, .retAddr 0, .retAddr 0, .retAddr 0, .retAddr 0] [.int s0] h Q := by
  refine gif c_304_18 (gbr t rfl rfl (fun hc t => ?_) (fun hc t => ?_))
  · refine g1 c_304_69 k_m1 ?_
    exact g90 c_304_70 t
  · refine g3 c_304_21 rfl ?_
    refine g1 c_304_22 k_m1 ?_
    refine gcm c_304_23 (gbr t rfl rfl (fun hc t => ?_) (fun hc t => ?_))
    · refine g3 c_304_34 rfl ?_
      refine g1 c_304_35 k_1 ?_
      refine g1 c_304_36 k_30 ?_
      exact g81 (As := [.int x3, .int 1, .int 30]) (rest := []) c_304_38 rfl rfl (Nat.le_of_ble_eq_true rfl) (Nat.le_of_ble_eq_true rfl) t
    · refine g5 c_304_26 rfl ?_
      refine g3 c_304_27 rfl ?_
      exact g80 (As := [.int x2]) (rest := []) c_304_28 rfl rfl (Nat.le_of_ble_eq_true rfl) (Nat.le_of_ble_eq_true rfl) t.1 t.2
set_option maxRecDepth 20000 in
theorem t_304_31 {d : Nat} {h : ab_H} {Q : Option Value → ab_H → Prop} {x0 : Nat} {x1 : Int32} {x2 : Int32} {x3 : Int32} {x4 : Int32} {s0 : Int32} (t : if s0 = 0 then (Q (some (.int (-1))) h) else (wm d 196 [.int x3, .int 1, .int 30] h (fun r9 h9 => wq (d + 1) 304 41 [.ref x0, .int x1, .int x2, .int x3, .int x4, .retAddr 0, .retAddr 0, .retAddr 0, .retAddr 0, .retAddr 0, .retAddr 0] (r9.toList ++ []) h9 Q))) : wq (d + 1) 304 31 [.ref x0, .int x1, .int x2, .int x3, .int x4, .retAddr 0, .retAddr 0, .retAddr 0, .retAddr 0, .retAddr 0, .retAddr 0] [.int s0] h Q := by
  refine gif c_304_31 (gbr t rfl rfl (fun hc t => ?_) (fun hc t => ?_))
  · refine g1 c_304_69 k_m1 ?_
    exact g90 c_304_70 t
  · refine g3 c_304_34 rfl ?_
    refine g1 c_304_35 k_1 ?_
    refine g1 c_304_36 k_30 ?_
    exact g81 (As := [.int x3, .int 1, .int 30]) (rest := []) c_304_38 rfl rfl (Nat.le_of_ble_eq_true rfl) (Nat.le_of_ble_eq_true rfl) t
set_option maxRecDepth 20000 in
theorem t_304_41 {d : Nat} {h : ab_H} {Q : Option Value → ab_H → Prop} {x0 : Nat} {x1 : Int32} {x2 : Int32} {x3 : Int32} {x4 : Int32} {s0 : Int32} (t : if s0 = 0 then (Q (some (.int (-1))) h) else (wm d 196 [.int x4, .int 0, .int 6] h (fun r9 h9 => wq (d + 1) 304 52 [.ref x0, .int x1, .int x2, .int x3, .int x4, .retAddr 0, .retAddr 0, .retAddr 0, .retAddr 0, .retAddr 0, .retAddr 0] (r9.toList ++ []) h9 Q))) : wq (d + 1) 304 41 [.ref x0, .int x1, .int x2, .int x3, .int x4, .retAddr 0, .retAddr 0, .retAddr 0, .retAddr 0, .retAddr 0, .retAddr 0] [.int s0] h Q := by
  refine gif c_304_41 (gbr t rfl rfl (fun hc t => ?_) (fun hc t => ?_))
  · refine g1 c_304_69 k_m1 ?_
    exact g90 c_304_70 t
  · refine g3 c_304_44 rfl ?_
    refine g1 c_304_46 k_0 ?_
    refine g1 c_304_47 k_6 ?_
    exact g81 (As := [.int x4, .int 0, .int 6]) (rest := []) c_304_49 rfl rfl (Nat.le_of_ble_eq_true rfl) (Nat.le_of_ble_eq_true rfl) t
set_option maxRecDepth 20000 in
theorem t_304_52 {d : Nat} {h : ab_H} {Q : Option Value → ab_H → Prop} {x0 : Nat} {x1 : Int32} {x2 : Int32} {x3 : Int32} {x4 : Int32} {s0 : Int32} (t : if s0 = 0 then (Q (some (.int (-1))) h) else (ab_ok h x0 112 = true ∧ ∃ j1 : Nat, ab_r h x0 0 = some j1 ∧ ((j1 = 0 ∨ ab_ok h j1 0 = true) ∧ ab_in (0 : Int32) (ab_s h j1).2 = true) ∧ if ((ab_i h j1 (Int32.toNatClampNeg (0 : Int32))) + x3) ≤ 400 then (ab_ok h x0 112 = true ∧ ∃ j2 : Nat, ab_r h x0 0 = some j2 ∧ ab_ok h x0 112 = true ∧ ∃ j3 : Nat, ab_r h x0 2 = some j3 ∧ wm d 195 [.ref j2, .ref j3] h (fun r9 h9 => wq (d + 1) 304 82 [.ref x0, .int x1, .int x2, .int x3, .int x4, .retAddr 0, .retAddr 0, .retAddr 0, .retAddr 0, .retAddr 0, .retAddr 0] (r9.toList ++ []) h9 Q)) else (Q (some (.int (-1))) h))) : wq (d + 1) 304 52 [.ref x0, .int x1, .int x2, .int x3, .int x4, .retAddr 0, .retAddr 0, .retAddr 0, .retAddr 0, .retAddr 0, .retAddr 0] [.int s0] h Q := by
  refine gif c_304_52 (gbr t rfl rfl (fun hc t => ?_) (fun hc t => ?_))
  · refine g1 c_304_69 k_m1 ?_
    exact g90 c_304_70 t
  · refine g5 c_304_55 rfl ?_
    obtain ⟨ho, j1, hr, t⟩ := t
    refine g45 c_304_56 ho hr ?_
    refine g1 c_304_59 k_0 ?_
    obtain ⟨ho, t⟩ := t
    refine g50 c_304_60 ho ?_
    refine g3 c_304_61 rfl ?_
    refine g10 c_304_62 ?_
    refine g1 c_304_63 k_400 ?_
    refine gcm c_304_66 (gbr t rfl rfl (fun hc t => ?_) (fun hc t => ?_))
    · refine g5 c_304_71 rfl ?_
      obtain ⟨ho, j2, hr, t⟩ := t
      refine g45 c_304_72 ho hr ?_
      refine g5 c_304_75 rfl ?_
      obtain ⟨ho, j3, hr, t⟩ := t
      refine g45 c_304_76 ho hr ?_
      exact g81 (As := [.ref j2, .ref j3]) (rest := []) c_304_79 rfl rfl (Nat.le_of_ble_eq_true rfl) (Nat.le_of_ble_eq_true rfl) t
    · refine g1 c_304_69 k_m1 ?_
      exact g90 c_304_70 t
set_option maxRecDepth 20000 in
theorem t_304_82 {d : Nat} {h : ab_H} {Q : Option Value → ab_H → Prop} {x0 : Nat} {x1 : Int32} {x2 : Int32} {x3 : Int32} {x4 : Int32} (t : if x1 = (-1) then (ab_ok h x0 112 = true ∧ ∀ h1 : ab_H, h1 = ab_pi h x0 31 0 → wq (d + 1) 304 119 [.ref x0, .int x1, .int x2, .int x3, .int x4, .int 0, .int 0, .int 0, .int 0, .retAddr 0, .retAddr 0] [] h1 Q) else (ab_ok h x0 112 = true ∧ ∃ j2 : Nat, ab_r h x0 0 = some j2 ∧ ((j2 = 0 ∨ ab_ok h j2 0 = true) ∧ ab_in (0 : Int32) (ab_s h j2).2 = true) ∧ ab_ok h x0 112 = true ∧ wm d 220 [.ref x0, .int x1, .int x2, .int (ab_i h j2 (Int32.toNatClampNeg (0 : Int32))), .int 399] h (fun r9 h9 => wq (d + 1) 304 102 [.ref x0, .int x1, .int x2, .int x3, .int x4, .retAddr 0, .retAddr 0, .retAddr 0, .retAddr 0, .retAddr 0, .retAddr 0] (r9.toList ++ []) h9 Q))) : wq (d + 1) 304 82 [.ref x0, .int x1, .int x2, .int x3, .int x4, .retAddr 0, .retAddr 0, .retAddr 0, .retAddr 0, .retAddr 0, .retAddr 0] [] h Q := by
  refine g3 c_304_82 rfl ?_
  refine g1 c_304_83 k_m1 ?_
  refine gcm c_304_84 (gbr t rfl rfl (fun hc t => ?_) (fun hc t => ?_))
  · refine g1 c_304_102 k_0 ?_
    refine g6 (L' := [.ref x0, .int x1, .int x2, .int x3, .int x4, .int 0, .retAddr 0, .retAddr 0, .retAddr 0, .retAddr 0, .retAddr 0]) c_304_103 rfl ?_
    refine g1 c_304_105 k_0 ?_
    refine g6 (L' := [.ref x0, .int x1, .int x2, .int x3, .int x4, .int 0, .int 0, .retAddr 0, .retAddr 0, .retAddr 0, .retAddr 0]) c_304_106 rfl ?_
    refine g1 c_304_108 k_0 ?_
    refine g6 (L' := [.ref x0, .int x1, .int x2, .int x3, .int x4, .int 0, .int 0, .int 0, .retAddr 0, .retAddr 0, .retAddr 0]) c_304_109 rfl ?_
    refine g5 c_304_111 rfl ?_
    refine g1 c_304_112 k_0 ?_
    obtain ⟨ho, t⟩ := t
    refine g46 c_304_113 ho (fun h1 eh1 => ?_)
    have t := t h1 eh1
    refine g1 c_304_116 k_0 ?_
    refine g6 (L' := [.ref x0, .int x1, .int x2, .int x3, .int x4, .int 0, .int 0, .int 0, .int 0, .retAddr 0, .retAddr 0]) c_304_117 rfl ?_
    exact t
  · refine g5 c_304_87 rfl ?_
    refine g3 c_304_88 rfl ?_
    refine g3 c_304_89 rfl ?_
    refine g5 c_304_90 rfl ?_
    obtain ⟨ho, j2, hr, t⟩ := t
    refine g45 c_304_91 ho hr ?_
    refine g1 c_304_94 k_0 ?_
    obtain ⟨ho, t⟩ := t
    refine g50 c_304_95 ho ?_
    refine g1 c_304_96 k_399 ?_
    exact g80 (As := [.int x1, .int x2, .int (ab_i h j2 (Int32.toNatClampNeg (0 : Int32))), .int 399]) (rest := []) c_304_99 rfl rfl (Nat.le_of_ble_eq_true rfl) (Nat.le_of_ble_eq_true rfl) t.1 t.2
set_option maxRecDepth 20000 in
theorem t_304_102 {d : Nat} {h : ab_H} {Q : Option Value → ab_H → Prop} {x0 : Nat} {x1 : Int32} {x2 : Int32} {x3 : Int32} {x4 : Int32} (t : ab_ok h x0 112 = true ∧ ∀ h1 : ab_H, h1 = ab_pi h x0 31 0 → wq d 304 119 [.ref x0, .int x1, .int x2, .int x3, .int x4, .int 0, .int 0, .int 0, .int 0, .retAddr 0, .retAddr 0] [] h1 Q) : wq d 304 102 [.ref x0, .int x1, .int x2, .int x3, .int x4, .retAddr 0, .retAddr 0, .retAddr 0, .retAddr 0, .retAddr 0, .retAddr 0] [] h Q := by
  refine g1 c_304_102 k_0 ?_
  refine g6 (L' := [.ref x0, .int x1, .int x2, .int x3, .int x4, .int 0, .retAddr 0, .retAddr 0, .retAddr 0, .retAddr 0, .retAddr 0]) c_304_103 rfl ?_
  refine g1 c_304_105 k_0 ?_
  refine g6 (L' := [.ref x0, .int x1, .int x2, .int x3, .int x4, .int 0, .int 0, .retAddr 0, .retAddr 0, .retAddr 0, .retAddr 0]) c_304_106 rfl ?_
  refine g1 c_304_108 k_0 ?_
  refine g6 (L' := [.ref x0, .int x1, .int x2, .int x3, .int x4, .int 0, .int 0, .int 0, .retAddr 0, .retAddr 0, .retAddr 0]) c_304_109 rfl ?_
  refine g5 c_304_111 rfl ?_
  refine g1 c_304_112 k_0 ?_
  obtain ⟨ho, t⟩ := t
  refine g46 c_304_113 ho (fun h1 eh1 => ?_)
  have t := t h1 eh1
  refine g1 c_304_116 k_0 ?_
  refine g6 (L' := [.ref x0, .int x1, .int x2, .int x3, .int x4, .int 0, .int 0, .int 0, .int 0, .retAddr 0, .retAddr 0]) c_304_117 rfl ?_
  exact t
set_option maxRecDepth 20000 in
theorem t_304_119 {d : Nat} {h : ab_H} {Q : Option Value → ab_H → Prop} {x0 : Nat} {x1 : Int32} {x2 : Int32} {x3 : Int32} {x4 : Int32} {x5 : Int32} {x6 : Int32} {x7 : Int32} {x8 : Int32} (t : if x3 ≤ x8 then (if x4 = 0 then (ab_ok h x0 112 = true ∧ ∃ j1 : Nat, ab_r h x0 2 = some j1 ∧ ab_ok h x0 112 = true ∧ ∃ j2 : Nat, ab_r h x0 0 = some j2 ∧ wm d 195 [.ref j1, .ref j2] h (fun r9 h9 => wq (d + 1) 304 268 [.ref x0, .int x1, .int x2, .int x3, .int x4, .int x5, .int x6, .int x7, .int x5, .retAddr 0, .retAddr 0] (r9.toList ++ []) h9 Q)) else (if x4 = 1 then (ab_ok h x0 112 = true ∧ ∃ j3 : Nat, ab_r h x0 2 = some j3 ∧ ab_ok h x0 112 = true ∧ ∃ j4 : Nat, ab_r h x0 0 = some j4 ∧ wm d 195 [.ref j3, .ref j4] h (fun r9 h9 => wq (d + 1) 304 268 [.ref x0, .int x1, .int x2, .int x3, .int x4, .int x5, .int x6, .int x7, .int x6, .retAddr 0, .retAddr 0] (r9.toList ++ []) h9 Q)) else (if x4 = 2 then (ab_ok h x0 112 = true ∧ ∃ j5 : Nat, ab_r h x0 2 = some j5 ∧ ab_ok h x0 112 = true ∧ ∃ j6 : Nat, ab_r h x0 0 = some j6 ∧ wm d 195 [.ref j5, .ref j6] h (fun r9 h9 => wq (d + 1) 304 268 [.ref x0, .int x1, .int x2, .int x3, .int x4, .int x5, .int x6, .int x7, .int x7, .retAddr 0, .retAddr 0] (r9.toList ++ []) h9 Q)) else (if x4 = 3 then (ab_ok h x0 112 = true ∧ ab_ok h x0 112 = true ∧ ∃ j7 : Nat, ab_r h x0 2 = some j7 ∧ ab_ok h x0 112 = true ∧ ∃ j8 : Nat, ab_r h x0 0 = some j8 ∧ wm d 195 [.ref j7, .ref j8] h (fun r9 h9 => wq (d + 1) 304 268 [.ref x0, .int x1, .int x2, .int x3, .int x4, .int x5, .int x6, .int x7, .int (ab_i h x0 31), .retAddr 0, .retAddr 0] (r9.toList ++ []) h9 Q)) else (ab_ok h x0 112 = true ∧ wm d 303 [.ref x0, .int x4] h (fun r9 h9 => wq (d + 1) 304 255 [.ref x0, .int x1, .int x2, .int x3, .int x4, .int x5, .int x6, .int x7, .int x8, .retAddr 0, .retAddr 0] (r9.toList ++ []) h9 Q)))))) else (ab_ok h x0 112 = true ∧ ∃ j9 : Nat, ab_r h x0 0 = some j9 ∧ ((j9 = 0 ∨ ab_ok h j9 0 = true) ∧ ab_in (0 : Int32) (ab_s h j9).2 = true) ∧ ∀ y10 : Int32, y10 = (ab_i h j9 (Int32.toNatClampNeg (0 : Int32))) → ab_ok h x0 112 = true ∧ wm d 293 [.ref x0] h (fun r9 h9 => wq (d + 1) 304 137 [.ref x0, .int x1, .int x2, .int x3, .int x4, .int x5, .int x6, .int x7, .int x8, .int y10, .retAddr 0] (r9.toList ++ []) h9 Q))) : wq (d + 1) 304 119 [.ref x0, .int x1, .int x2, .int x3, .int x4, .int x5, .int x6, .int x7, .int x8, .retAddr 0, .retAddr 0] [] h Q := by
  refine g3 c_304_119 rfl ?_
  refine g3 c_304_121 rfl ?_
  refine gcm c_304_122 (gbr t rfl rfl (fun hc t => ?_) (fun hc t => ?_))
  · refine g3 c_304_204 rfl ?_
    refine gif c_304_206 (gbn t (ab_c1 _ _) rfl (fun hc t => ?_) (fun hc t => ?_))
    · refine g3 c_304_209 rfl ?_
      refine g38 c_304_211 rfl ?_
      refine g6 (L' := [.ref x0, .int x1, .int x2, .int x3, .int x4, .int x5, .int x6, .int x7, .int x5, .retAddr 0, .retAddr 0]) c_304_255 rfl ?_
      refine g5 c_304_257 rfl ?_
      obtain ⟨ho, j1, hr, t⟩ := t
      refine g45 c_304_258 ho hr ?_
      refine g5 c_304_261 rfl ?_
      obtain ⟨ho, j2, hr, t⟩ := t
      refine g45 c_304_262 ho hr ?_
      exact g81 (As := [.ref j1, .ref j2]) (rest := []) c_304_265 rfl rfl (Nat.le_of_ble_eq_true rfl) (Nat.le_of_ble_eq_true rfl) t
    · refine g3 c_304_214 rfl ?_
      refine g1 c_304_216 k_1 ?_
      refine gcm c_304_217 (gbn t (ab_c1 _ _) rfl (fun hc t => ?_) (fun hc t => ?_))
      · refine g3 c_304_220 rfl ?_
        refine g38 c_304_222 rfl ?_
        refine g6 (L' := [.ref x0, .int x1, .int x2, .int x3, .int x4, .int x5, .int x6, .int x7, .int x6, .retAddr 0, .retAddr 0]) c_304_255 rfl ?_
        refine g5 c_304_257 rfl ?_
        obtain ⟨ho, j3, hr, t⟩ := t
        refine g45 c_304_258 ho hr ?_
        refine g5 c_304_261 rfl ?_
        obtain ⟨ho, j4, hr, t⟩ := t
        refine g45 c_304_262 ho hr ?_
        exact g81 (As := [.ref j3, .ref j4]) (rest := []) c_304_265 rfl rfl (Nat.le_of_ble_eq_true rfl) (Nat.le_of_ble_eq_true rfl) t
      · refine g3 c_304_225 rfl ?_
        refine g1 c_304_227 k_2 ?_
        refine gcm c_304_228 (gbn t (ab_c1 _ _) rfl (fun hc t => ?_) (fun hc t => ?_))
        · refine g3 c_304_231 rfl ?_
          refine g38 c_304_233 rfl ?_
          refine g6 (L' := [.ref x0, .int x1, .int x2, .int x3, .int x4, .int x5, .int x6, .int x7, .int x7, .retAddr 0, .retAddr 0]) c_304_255 rfl ?_
          refine g5 c_304_257 rfl ?_
          obtain ⟨ho, j5, hr, t⟩ := t
          refine g45 c_304_258 ho hr ?_
          refine g5 c_304_261 rfl ?_
          obtain ⟨ho, j6, hr, t⟩ := t
          refine g45 c_304_262 ho hr ?_
          exact g81 (As := [.ref j5, .ref j6]) (rest := []) c_304_265 rfl rfl (Nat.le_of_ble_eq_true rfl) (Nat.le_of_ble_eq_true rfl) t
        · refine g3 c_304_236 rfl ?_
          refine g1 c_304_238 k_3 ?_
          refine gcm c_304_239 (gbn t (ab_c1 _ _) rfl (fun hc t => ?_) (fun hc t => ?_))
          · refine g5 c_304_242 rfl ?_
            obtain ⟨ho, t⟩ := t
            refine g43 c_304_243 ho ?_
            refine g38 c_304_246 rfl ?_
            refine g6 (L' := [.ref x0, .int x1, .int x2, .int x3, .int x4, .int x5, .int x6, .int x7, .int (ab_i h x0 31), .retAddr 0, .retAddr 0]) c_304_255 rfl ?_
            refine g5 c_304_257 rfl ?_
            obtain ⟨ho, j7, hr, t⟩ := t
            refine g45 c_304_258 ho hr ?_
            refine g5 c_304_261 rfl ?_
            obtain ⟨ho, j8, hr, t⟩ := t
            refine g45 c_304_262 ho hr ?_
            exact g81 (As := [.ref j7, .ref j8]) (rest := []) c_304_265 rfl rfl (Nat.le_of_ble_eq_true rfl) (Nat.le_of_ble_eq_true rfl) t
          · refine g5 c_304_249 rfl ?_
            refine g3 c_304_250 rfl ?_
            exact g80 (As := [.int x4]) (rest := []) c_304_252 rfl rfl (Nat.le_of_ble_eq_true rfl) (Nat.le_of_ble_eq_true rfl) t.1 t.2
  · refine g5 c_304_125 rfl ?_
    obtain ⟨ho, j9, hr, t⟩ := t
    refine g45 c_304_126 ho hr ?_
    refine g1 c_304_129 k_0 ?_
    obtain ⟨ho, t⟩ := t
    refine g50 c_304_130 ho ?_
    refine g6y (Lf := fun y10 => [.ref x0, .int x1, .int x2, .int x3, .int x4, .int x5, .int x6, .int x7, .int x8, .int y10, .retAddr 0]) c_304_131 (fun _ => rfl) (fun y10 ey10 => ?_)
    have t := t y10 ey10
    refine g5 c_304_133 rfl ?_
    exact g80 (As := []) (rest := []) c_304_134 rfl rfl (Nat.le_of_ble_eq_true rfl) (Nat.le_of_ble_eq_true rfl) t.1 t.2
set_option maxRecDepth 20000 in
theorem t_304_137 {d : Nat} {h : ab_H} {Q : Option Value → ab_H → Prop} {x0 : Nat} {x1 : Int32} {x2 : Int32} {x3 : Int32} {x4 : Int32} {x5 : Int32} {x6 : Int32} {x7 : Int32} {x8 : Int32} {x9 : Int32} (t : ab_ok h x0 112 = true ∧ wm d 302 [.ref x0, .int 22300, .int x9] h (fun r9 h9 => wq (d + 1) 304 148 [.ref x0, .int x1, .int x2, .int x3, .int x4, .int x5, .int x6, .int x7, .int x8, .int x9, .retAddr 0] (r9.toList ++ [.int x5]) h9 Q)) : wq (d + 1) 304 137 [.ref x0, .int x1, .int x2, .int x3, .int x4, .int x5, .int x6, .int x7, .int x8, .int x9, .retAddr 0] [] h Q := by
  refine g3 c_304_137 rfl ?_
  refine g5 c_304_139 rfl ?_
  refine g1 c_304_140 k_22300 ?_
  refine g3 c_304_143 rfl ?_
  exact g80 (As := [.int 22300, .int x9]) (rest := [.int x5]) c_304_145 rfl rfl (Nat.le_of_ble_eq_true rfl) (Nat.le_of_ble_eq_true rfl) t.1 t.2
set_option maxRecDepth 20000 in
theorem t_304_148 {d : Nat} {h : ab_H} {Q : Option Value → ab_H → Prop} {x0 : Nat} {x1 : Int32} {x2 : Int32} {x3 : Int32} {x4 : Int32} {x5 : Int32} {x6 : Int32} {x7 : Int32} {x8 : Int32} {x9 : Int32} {s0 : Int32} {s1 : Int32} (t : ab_ok h x0 112 = true ∧ wm d 302 [.ref x0, .int 31900, .int x9] h (fun r9 h9 => wq (d + 1) 304 162 [.ref x0, .int x1, .int x2, .int x3, .int x4, .int (s0 + s1), .int x6, .int x7, .int x8, .int x9, .retAddr 0] (r9.toList ++ [.int x6]) h9 Q)) : wq (d + 1) 304 148 [.ref x0, .int x1, .int x2, .int x3, .int x4, .int x5, .int x6, .int x7, .int x8, .int x9, .retAddr 0] [.int s1, .int s0] h Q := by
  refine g10 c_304_148 ?_
  refine g6 (L' := [.ref x0, .int x1, .int x2, .int x3, .int x4, .int (s0 + s1), .int x6, .int x7, .int x8, .int x9, .retAddr 0]) c_304_149 rfl ?_
  refine g3 c_304_151 rfl ?_
  refine g5 c_304_153 rfl ?_
  refine g1 c_304_154 k_31900 ?_
  refine g3 c_304_157 rfl ?_
  exact g80 (As := [.int 31900, .int x9]) (rest := [.int x6]) c_304_159 rfl rfl (Nat.le_of_ble_eq_true rfl) (Nat.le_of_ble_eq_true rfl) t.1 t.2
set_option maxRecDepth 20000 in
theorem t_304_162 {d : Nat} {h : ab_H} {Q : Option Value → ab_H → Prop} {x0 : Nat} {x1 : Int32} {x2 : Int32} {x3 : Int32} {x4 : Int32} {x5 : Int32} {x6 : Int32} {x7 : Int32} {x8 : Int32} {x9 : Int32} {s0 : Int32} {s1 : Int32} (t : wq d 304 168 [.ref x0, .int x1, .int x2, .int x3, .int x4, .int x5, .int (s0 + s1), .int x7, .int x8, .int x9, .int 0] [] h Q) : wq d 304 162 [.ref x0, .int x1, .int x2, .int x3, .int x4, .int x5, .int x6, .int x7, .int x8, .int x9, .retAddr 0] [.int s1, .int s0] h Q := by
  refine g10 c_304_162 ?_
  refine g6 (L' := [.ref x0, .int x1, .int x2, .int x3, .int x4, .int x5, .int (s0 + s1), .int x7, .int x8, .int x9, .retAddr 0]) c_304_163 rfl ?_
  refine g1 c_304_165 k_0 ?_
  refine g6 (L' := [.ref x0, .int x1, .int x2, .int x3, .int x4, .int x5, .int (s0 + s1), .int x7, .int x8, .int x9, .int 0]) c_304_166 rfl ?_
  exact t
set_option maxRecDepth 20000 in
theorem t_304_168 {d : Nat} {h : ab_H} {Q : Option Value → ab_H → Prop} {x0 : Nat} {x1 : Int32} {x2 : Int32} {x3 : Int32} {x4 : Int32} {x5 : Int32} {x6 : Int32} {x7 : Int32} {x8 : Int32} {x9 : Int32} {x10 : Int32} (t : ab_ok h x0 112 = true ∧ ∃ j1 : Nat, ab_r h x0 0 = some j1 ∧ ((j1 = 0 ∨ ab_ok h j1 0 = true) ∧ ab_in (1 : Int32) (ab_s h j1).2 = true) ∧ if (ab_i h j1 (Int32.toNatClampNeg (1 : Int32))) ≤ x10 then (wq (d + 1) 304 119 [.ref x0, .int x1, .int x2, .int x3, .int x4, .int x5, .int x6, .int x7, .int (x8 + 1), .int x9, .int x10] [] h Q) else (ab_ok h x0 112 = true ∧ wm d 198 [.ref x0, .int x10, .int 10] h (fun r9 h9 => wq (d + 1) 304 189 [.ref x0, .int x1, .int x2, .int x3, .int x4, .int x5, .int x6, .int x7, .int x8, .int x9, .int x10] (r9.toList ++ [.int x7]) h9 Q))) : wq (d + 1) 304 168 [.ref x0, .int x1, .int x2, .int x3, .int x4, .int x5, .int x6, .int x7, .int x8, .int x9, .int x10] [] h Q := by
  refine g3 c_304_168 rfl ?_
  refine g5 c_304_170 rfl ?_
  obtain ⟨ho, j1, hr, t⟩ := t
  refine g45 c_304_171 ho hr ?_
  refine g1 c_304_174 k_1 ?_
  obtain ⟨ho, t⟩ := t
  refine g50 c_304_175 ho ?_
  refine gcm c_304_176 (gbr t rfl rfl (fun hc t => ?_) (fun hc t => ?_))
  · refine g9 (L' := [.ref x0, .int x1, .int x2, .int x3, .int x4, .int x5, .int x6, .int x7, .int (x8 + 1), .int x9, .int x10]) c_304_198 rfl k_1 rfl ?_
    refine g38 c_304_201 rfl ?_
    exact t
  · refine g3 c_304_179 rfl ?_
    refine g5 c_304_181 rfl ?_
    refine g3 c_304_182 rfl ?_
    refine g1 c_304_184 k_10 ?_
    exact g80 (As := [.int x10, .int 10]) (rest := [.int x7]) c_304_186 rfl rfl (Nat.le_of_ble_eq_true rfl) (Nat.le_of_ble_eq_true rfl) t.1 t.2
set_option maxRecDepth 20000 in
theorem t_304_189 {d : Nat} {h : ab_H} {Q : Option Value → ab_H → Prop} {x0 : Nat} {x1 : Int32} {x2 : Int32} {x3 : Int32} {x4 : Int32} {x5 : Int32} {x6 : Int32} {x7 : Int32} {x8 : Int32} {x9 : Int32} {x10 : Int32} {s0 : Int32} {s1 : Int32} (t : wq d 304 168 [.ref x0, .int x1, .int x2, .int x3, .int x4, .int x5, .int x6, .int (s0 + s1), .int x8, .int x9, .int (x10 + 1)] [] h Q) : wq d 304 189 [.ref x0, .int x1, .int x2, .int x3, .int x4, .int x5, .int x6, .int x7, .int x8, .int x9, .int x10] [.int s1, .int s0] h Q := by
  refine g10 c_304_189 ?_
  refine g6 (L' := [.ref x0, .int x1, .int x2, .int x3, .int x4, .int x5, .int x6, .int (s0 + s1), .int x8, .int x9, .int x10]) c_304_190 rfl ?_
  refine g9 (L' := [.ref x0, .int x1, .int x2, .int x3, .int x4, .int x5, .int x6, .int (s0 + s1), .int x8, .int x9, .int (x10 + 1)]) c_304_192 rfl k_1 rfl ?_
  refine g38 c_304_195 rfl ?_
  exact t
set_option maxRecDepth 20000 in
theorem t_304_255 {d : Nat} {h : ab_H} {Q : Option Value → ab_H → Prop} {x0 : Nat} {x1 : Int32} {x2 : Int32} {x3 : Int32} {x4 : Int32} {x5 : Int32} {x6 : Int32} {x7 : Int32} {x8 : Int32} {s0 : Int32} (t : ab_ok h x0 112 = true ∧ ∃ j1 : Nat, ab_r h x0 2 = some j1 ∧ ab_ok h x0 112 = true ∧ ∃ j2 : Nat, ab_r h x0 0 = some j2 ∧ wm d 195 [.ref j1, .ref j2] h (fun r9 h9 => wq (d + 1) 304 268 [.ref x0, .int x1, .int x2, .int x3, .int x4, .int x5, .int x6, .int x7, .int s0, .retAddr 0, .retAddr 0] (r9.toList ++ []) h9 Q)) : wq (d + 1) 304 255 [.ref x0, .int x1, .int x2, .int x3, .int x4, .int x5, .int x6, .int x7, .int x8, .retAddr 0, .retAddr 0] [.int s0] h Q := by
  refine g6 (L' := [.ref x0, .int x1, .int x2, .int x3, .int x4, .int x5, .int x6, .int x7, .int s0, .retAddr 0, .retAddr 0]) c_304_255 rfl ?_
  refine g5 c_304_257 rfl ?_
  obtain ⟨ho, j1, hr, t⟩ := t
  refine g45 c_304_258 ho hr ?_
  refine g5 c_304_261 rfl ?_
  obtain ⟨ho, j2, hr, t⟩ := t
  refine g45 c_304_262 ho hr ?_
  exact g81 (As := [.ref j1, .ref j2]) (rest := []) c_304_265 rfl rfl (Nat.le_of_ble_eq_true rfl) (Nat.le_of_ble_eq_true rfl) t
set_option maxRecDepth 20000 in
theorem t_304_268 {d : Nat} {h : ab_H} {Q : Option Value → ab_H → Prop} {x0 : Nat} {x1 : Int32} {x2 : Int32} {x3 : Int32} {x4 : Int32} {x5 : Int32} {x6 : Int32} {x7 : Int32} {x8 : Int32} (t : Q (some (.int x8)) h) : wq d 304 268 [.ref x0, .int x1, .int x2, .int x3, .int x4, .int x5, .int x6, .int x7, .int x8, .retAddr 0, .retAddr 0] [] h Q := by
  refine g3 c_304_268 rfl ?_
  exact g90 c_304_270 t
-- method 305: MillTownModel.offer(II)Z
theorem c_305_0 : pg_cd 305 0 = (3, 1, 0, 1, 0) := by decide +kernel
theorem c_305_1 : pg_cd 305 1 = (1, 1, 0, 0, 0) := by decide +kernel
theorem c_305_2 : pg_cd 305 2 = (1, 1, 0, 0, 1) := by decide +kernel
theorem c_305_3 : pg_cd 305 3 = (81, 196, 76, 0, 0) := by decide +kernel
theorem c_305_6 : pg_cd 305 6 = (36, 3, 0, 0, 14) := by decide +kernel
theorem c_305_9 : pg_cd 305 9 = (3, 1, 0, 2, 0) := by decide +kernel
theorem c_305_10 : pg_cd 305 10 = (1, 1, 0, 0, 0) := by decide +kernel
theorem c_305_11 : pg_cd 305 11 = (1, 3, 0, 0, 1000) := by decide +kernel
theorem c_305_14 : pg_cd 305 14 = (81, 196, 76, 0, 0) := by decide +kernel
theorem c_305_17 : pg_cd 305 17 = (36, 3, 0, 1, 5) := by decide +kernel
theorem c_305_20 : pg_cd 305 20 = (1, 1, 0, 0, 0) := by decide +kernel
theorem c_305_21 : pg_cd 305 21 = (91, 0, 0, 0, 0) := by decide +kernel
theorem c_305_22 : pg_cd 305 22 = (5, 1, 0, 0, 0) := by decide +kernel
theorem c_305_23 : pg_cd 305 23 = (45, 12, 8, 0, 0) := by decide +kernel
theorem c_305_26 : pg_cd 305 26 = (1, 2, 0, 0, 13) := by decide +kernel
theorem c_305_28 : pg_cd 305 28 = (3, 1, 0, 1, 0) := by decide +kernel
theorem c_305_29 : pg_cd 305 29 = (10, 1, 0, 0, 0) := by decide +kernel
theorem c_305_30 : pg_cd 305 30 = (3, 1, 0, 2, 0) := by decide +kernel
theorem c_305_31 : pg_cd 305 31 = (54, 1, 0, 0, 0) := by decide +kernel
theorem c_305_32 : pg_cd 305 32 = (1, 1, 0, 0, 1) := by decide +kernel
theorem c_305_33 : pg_cd 305 33 = (91, 0, 0, 0, 0) := by decide +kernel
theorem mx_305 : pg_mx 305 = 3 := by decide +kernel
theorem m_305 {d : Nat} {h : ab_H} {Q : Option Value → ab_H → Prop} {x0 : Nat} {x1 : Int32} {x2 : Int32} (t : wq d 305 0 [.ref x0, .int x1, .int x2] [] h Q) : wm d 305 [.ref x0, .int x1, .int x2] h Q := by
  unfold wm
  rw [mx_305]
  exact t
set_option maxRecDepth 20000 in
theorem t_305_0 {d : Nat} {h : ab_H} {Q : Option Value → ab_H → Prop} {x0 : Nat} {x1 : Int32} {x2 : Int32} (t : wm d 196 [.int x1, .int 0, .int 1] h (fun r9 h9 => wq (d + 1) 305 6 [.ref x0, .int x1, .int x2] (r9.toList ++ []) h9 Q)) : wq (d + 1) 305 0 [.ref x0, .int x1, .int x2] [] h Q := by
  refine g3 c_305_0 rfl ?_
  refine g1 c_305_1 k_0 ?_
  refine g1 c_305_2 k_1 ?_
  exact g81 (As := [.int x1, .int 0, .int 1]) (rest := []) c_305_3 rfl rfl (Nat.le_of_ble_eq_true rfl) (Nat.le_of_ble_eq_true rfl) t
set_option maxRecDepth 20000 in
theorem t_305_6 {d : Nat} {h : ab_H} {Q : Option Value → ab_H → Prop} {x0 : Nat} {x1 : Int32} {x2 : Int32} {s0 : Int32} (t : if s0 = 0 then (Q (some (.int 0)) h) else (wm d 196 [.int x2, .int 0, .int 1000] h (fun r9 h9 => wq (d + 1) 305 17 [.ref x0, .int x1, .int x2] (r9.toList ++ []) h9 Q))) : wq (d + 1) 305 6 [.ref x0, .int x1, .int x2] [.int s0] h Q := by
  refine gif c_305_6 (gbr t rfl rfl (fun hc t => ?_) (fun hc t => ?_))
  · refine g1 c_305_20 k_0 ?_
    exact g91 c_305_21 ⟨by decide, t⟩
  · refine g3 c_305_9 rfl ?_
    refine g1 c_305_10 k_0 ?_
    refine g1 c_305_11 k_1000 ?_
    exact g81 (As := [.int x2, .int 0, .int 1000]) (rest := []) c_305_14 rfl rfl (Nat.le_of_ble_eq_true rfl) (Nat.le_of_ble_eq_true rfl) t
set_option maxRecDepth 20000 in
theorem t_305_17 {d : Nat} {h : ab_H} {Q : Option Value → ab_H → Prop} {x0 : Nat} {x1 : Int32} {x2 : Int32} {s0 : Int32} (t : if s0 = 0 then (Q (some (.int 0)) h) else (ab_ok h x0 112 = true ∧ ∃ j1 : Nat, ab_r h x0 0 = some j1 ∧ (ab_ok h j1 0 = true ∧ ab_in (13 + x1) (ab_s h j1).2 = true) ∧ ∀ h2 : ab_H, h2 = ab_pi h j1 (Int32.toNatClampNeg (13 + x1)) x2 → Q (some (.int 1)) h2)) : wq d 305 17 [.ref x0, .int x1, .int x2] [.int s0] h Q := by
  refine gif c_305_17 (gbn t (ab_c1 _ _) rfl (fun hc t => ?_) (fun hc t => ?_))
  · refine g1 c_305_20 k_0 ?_
    exact g91 c_305_21 ⟨by decide, t⟩
  · refine g5 c_305_22 rfl ?_
    obtain ⟨ho, j1, hr, t⟩ := t
    refine g45 c_305_23 ho hr ?_
    refine g1 c_305_26 k_13 ?_
    refine g3 c_305_28 rfl ?_
    refine g10 c_305_29 ?_
    refine g3 c_305_30 rfl ?_
    obtain ⟨ho, t⟩ := t
    refine g54 c_305_31 ho (fun h2 eh2 => ?_)
    have t := t h2 eh2
    refine g1 c_305_32 k_1 ?_
    exact g91 c_305_33 ⟨by decide, t⟩
-- method 306: MillTownModel.meet()I
theorem c_306_0 : pg_cd 306 0 = (5, 1, 0, 0, 0) := by decide +kernel
theorem c_306_1 : pg_cd 306 1 = (45, 12, 8, 0, 0) := by decide +kernel
theorem c_306_4 : pg_cd 306 4 = (1, 2, 0, 0, 13) := by decide +kernel
theorem c_306_6 : pg_cd 306 6 = (50, 1, 0, 0, 0) := by decide +kernel
theorem c_306_7 : pg_cd 306 7 = (6, 1, 0, 1, 0) := by decide +kernel
theorem c_306_8 : pg_cd 306 8 = (5, 1, 0, 0, 0) := by decide +kernel
theorem c_306_9 : pg_cd 306 9 = (45, 12, 8, 0, 0) := by decide +kernel
theorem c_306_12 : pg_cd 306 12 = (1, 2, 0, 0, 14) := by decide +kernel
theorem c_306_14 : pg_cd 306 14 = (50, 1, 0, 0, 0) := by decide +kernel
theorem c_306_15 : pg_cd 306 15 = (6, 1, 0, 2, 0) := by decide +kernel
theorem c_306_16 : pg_cd 306 16 = (3, 1, 0, 1, 0) := by decide +kernel
theorem c_306_17 : pg_cd 306 17 = (36, 3, 0, 2, 12) := by decide +kernel
theorem c_306_20 : pg_cd 306 20 = (3, 1, 0, 2, 0) := by decide +kernel
theorem c_306_21 : pg_cd 306 21 = (36, 3, 0, 2, 8) := by decide +kernel
theorem c_306_24 : pg_cd 306 24 = (3, 1, 0, 1, 0) := by decide +kernel
theorem c_306_25 : pg_cd 306 25 = (3, 1, 0, 2, 0) := by decide +kernel
theorem c_306_26 : pg_cd 306 26 = (37, 3, 0, 5, 5) := by decide +kernel
theorem c_306_29 : pg_cd 306 29 = (1, 1, 0, 0, (-1)) := by decide +kernel
theorem c_306_30 : pg_cd 306 30 = (90, 0, 0, 0, 0) := by decide +kernel
theorem c_306_31 : pg_cd 306 31 = (5, 1, 0, 0, 0) := by decide +kernel
theorem c_306_32 : pg_cd 306 32 = (45, 12, 8, 0, 0) := by decide +kernel
theorem c_306_35 : pg_cd 306 35 = (1, 2, 0, 0, 13) := by decide +kernel
theorem c_306_37 : pg_cd 306 37 = (1, 1, 0, 0, (-1)) := by decide +kernel
theorem c_306_38 : pg_cd 306 38 = (54, 1, 0, 0, 0) := by decide +kernel
theorem c_306_39 : pg_cd 306 39 = (5, 1, 0, 0, 0) := by decide +kernel
theorem c_306_40 : pg_cd 306 40 = (45, 12, 8, 0, 0) := by decide +kernel
theorem c_306_43 : pg_cd 306 43 = (1, 2, 0, 0, 14) := by decide +kernel
theorem c_306_45 : pg_cd 306 45 = (1, 1, 0, 0, (-1)) := by decide +kernel
theorem c_306_46 : pg_cd 306 46 = (54, 1, 0, 0, 0) := by decide +kernel
theorem c_306_47 : pg_cd 306 47 = (3, 1, 0, 1, 0) := by decide +kernel
theorem c_306_48 : pg_cd 306 48 = (3, 1, 0, 2, 0) := by decide +kernel
theorem c_306_49 : pg_cd 306 49 = (10, 1, 0, 0, 0) := by decide +kernel
theorem c_306_50 : pg_cd 306 50 = (1, 1, 0, 0, 2) := by decide +kernel
theorem c_306_51 : pg_cd 306 51 = (16, 1, 0, 0, 0) := by decide +kernel
theorem c_306_52 : pg_cd 306 52 = (90, 0, 0, 0, 0) := by decide +kernel
theorem mx_306 : pg_mx 306 = 3 := by decide +kernel
theorem m_306 {d : Nat} {h : ab_H} {Q : Option Value → ab_H → Prop} {x0 : Nat} (t : wq d 306 0 [.ref x0, .retAddr 0, .retAddr 0] [] h Q) : wm d 306 [.ref x0] h Q := by
  unfold wm
  rw [mx_306]
  exact t
set_option maxRecDepth 20000 in
theorem t_306_0 {d : Nat} {h : ab_H} {Q : Option Value → ab_H → Prop} {x0 : Nat} (t : ab_ok h x0 112 = true ∧ ∃ j1 : Nat, ab_r h x0 0 = some j1 ∧ ((j1 = 0 ∨ ab_ok h j1 0 = true) ∧ ab_in (13 : Int32) (ab_s h j1).2 = true) ∧ ∀ y2 : Int32, y2 = (ab_i h j1 (Int32.toNatClampNeg (13 : Int32))) → ab_ok h x0 112 = true ∧ ∃ j3 : Nat, ab_r h x0 0 = some j3 ∧ ((j3 = 0 ∨ ab_ok h j3 0 = true) ∧ ab_in (14 : Int32) (ab_s h j3).2 = true) ∧ ∀ y4 : Int32, y4 = (ab_i h j3 (Int32.toNatClampNeg (14 : Int32))) → if y2 < 0 then (Q (some (.int (-1))) h) else (if y4 < 0 then (Q (some (.int (-1))) h) else (if y2 ≤ y4 then (ab_ok h x0 112 = true ∧ ∃ j5 : Nat, ab_r h x0 0 = some j5 ∧ (ab_ok h j5 0 = true ∧ ab_in (13 : Int32) (ab_s h j5).2 = true) ∧ ∀ h6 : ab_H, h6 = ab_pi h j5 (Int32.toNatClampNeg (13 : Int32)) (-1) → ab_ok h6 x0 112 = true ∧ ∃ j7 : Nat, ab_r h6 x0 0 = some j7 ∧ (ab_ok h6 j7 0 = true ∧ ab_in (14 : Int32) (ab_s h6 j7).2 = true) ∧ ∀ h8 : ab_H, h8 = ab_pi h6 j7 (Int32.toNatClampNeg (14 : Int32)) (-1) → ¬ (2 : Int32) = 0 ∧ Q (some (.int ((y2 + y4) / 2))) h8) else (Q (some (.int (-1))) h)))) : wq d 306 0 [.ref x0, .retAddr 0, .retAddr 0] [] h Q := by
  refine g5 c_306_0 rfl ?_
  obtain ⟨ho, j1, hr, t⟩ := t
  refine g45 c_306_1 ho hr ?_
  refine g1 c_306_4 k_13 ?_
  obtain ⟨ho, t⟩ := t
  refine g50 c_306_6 ho ?_
  refine g6y (Lf := fun y2 => [.ref x0, .int y2, .retAddr 0]) c_306_7 (fun _ => rfl) (fun y2 ey2 => ?_)
  have t := t y2 ey2
  refine g5 c_306_8 rfl ?_
  obtain ⟨ho, j3, hr, t⟩ := t
  refine g45 c_306_9 ho hr ?_
  refine g1 c_306_12 k_14 ?_
  obtain ⟨ho, t⟩ := t
  refine g50 c_306_14 ho ?_
  refine g6y (Lf := fun y4 => [.ref x0, .int y2, .int y4]) c_306_15 (fun _ => rfl) (fun y4 ey4 => ?_)
  have t := t y4 ey4
  refine g3 c_306_16 rfl ?_
  refine gif c_306_17 (gbr t rfl rfl (fun hc t => ?_) (fun hc t => ?_))
  · refine g1 c_306_29 k_m1 ?_
    exact g90 c_306_30 t
  · refine g3 c_306_20 rfl ?_
    refine gif c_306_21 (gbr t rfl rfl (fun hc t => ?_) (fun hc t => ?_))
    · refine g1 c_306_29 k_m1 ?_
      exact g90 c_306_30 t
    · refine g3 c_306_24 rfl ?_
      refine g3 c_306_25 rfl ?_
      refine gcm c_306_26 (gbr t rfl rfl (fun hc t => ?_) (fun hc t => ?_))
      · refine g5 c_306_31 rfl ?_
        obtain ⟨ho, j5, hr, t⟩ := t
        refine g45 c_306_32 ho hr ?_
        refine g1 c_306_35 k_13 ?_
        refine g1 c_306_37 k_m1 ?_
        obtain ⟨ho, t⟩ := t
        refine g54 c_306_38 ho (fun h6 eh6 => ?_)
        have t := t h6 eh6
        refine g5 c_306_39 rfl ?_
        obtain ⟨ho, j7, hr, t⟩ := t
        refine g45 c_306_40 ho hr ?_
        refine g1 c_306_43 k_14 ?_
        refine g1 c_306_45 k_m1 ?_
        obtain ⟨ho, t⟩ := t
        refine g54 c_306_46 ho (fun h8 eh8 => ?_)
        have t := t h8 eh8
        refine g3 c_306_47 rfl ?_
        refine g3 c_306_48 rfl ?_
        refine g10 c_306_49 ?_
        refine g1 c_306_50 k_2 ?_
        obtain ⟨hy, t⟩ := t
        refine g16 c_306_51 hy ?_
        exact g90 c_306_52 t
      · refine g1 c_306_29 k_m1 ?_
        exact g90 c_306_30 t
-- method 307: MillTownModel.wish(II)Z
theorem c_307_0 : pg_cd 307 0 = (3, 1, 0, 1, 0) := by decide +kernel
theorem c_307_1 : pg_cd 307 1 = (81, 204, 80, 0, 0) := by decide +kernel
theorem c_307_4 : pg_cd 307 4 = (36, 3, 0, 0, 19) := by decide +kernel
theorem c_307_7 : pg_cd 307 7 = (3, 1, 0, 2, 0) := by decide +kernel
theorem c_307_8 : pg_cd 307 8 = (1, 1, 0, 0, (-1)) := by decide +kernel
theorem c_307_9 : pg_cd 307 9 = (37, 3, 0, 0, 16) := by decide +kernel
theorem c_307_12 : pg_cd 307 12 = (3, 1, 0, 2, 0) := by decide +kernel
theorem c_307_13 : pg_cd 307 13 = (1, 1, 0, 0, 0) := by decide +kernel
theorem c_307_14 : pg_cd 307 14 = (1, 3, 0, 0, 10000) := by decide +kernel
theorem c_307_17 : pg_cd 307 17 = (81, 196, 76, 0, 0) := by decide +kernel
theorem c_307_20 : pg_cd 307 20 = (36, 3, 0, 1, 5) := by decide +kernel
theorem c_307_23 : pg_cd 307 23 = (1, 1, 0, 0, 0) := by decide +kernel
theorem c_307_24 : pg_cd 307 24 = (91, 0, 0, 0, 0) := by decide +kernel
theorem c_307_25 : pg_cd 307 25 = (5, 1, 0, 0, 0) := by decide +kernel
theorem c_307_26 : pg_cd 307 26 = (45, 12, 8, 0, 0) := by decide +kernel
theorem c_307_29 : pg_cd 307 29 = (1, 2, 0, 0, 20) := by decide +kernel
theorem c_307_31 : pg_cd 307 31 = (1, 2, 0, 0, 8) := by decide +kernel
theorem c_307_33 : pg_cd 307 33 = (3, 1, 0, 1, 0) := by decide +kernel
theorem c_307_34 : pg_cd 307 34 = (12, 1, 0, 0, 0) := by decide +kernel
theorem c_307_35 : pg_cd 307 35 = (10, 1, 0, 0, 0) := by decide +kernel
theorem c_307_36 : pg_cd 307 36 = (1, 2, 0, 0, 6) := by decide +kernel
theorem c_307_38 : pg_cd 307 38 = (10, 1, 0, 0, 0) := by decide +kernel
theorem c_307_39 : pg_cd 307 39 = (3, 1, 0, 2, 0) := by decide +kernel
theorem c_307_40 : pg_cd 307 40 = (54, 1, 0, 0, 0) := by decide +kernel
theorem c_307_41 : pg_cd 307 41 = (1, 1, 0, 0, 1) := by decide +kernel
theorem c_307_42 : pg_cd 307 42 = (91, 0, 0, 0, 0) := by decide +kernel
theorem mx_307 : pg_mx 307 = 3 := by decide +kernel
theorem m_307 {d : Nat} {h : ab_H} {Q : Option Value → ab_H → Prop} {x0 : Nat} {x1 : Int32} {x2 : Int32} (t : wq d 307 0 [.ref x0, .int x1, .int x2] [] h Q) : wm d 307 [.ref x0, .int x1, .int x2] h Q := by
  unfold wm
  rw [mx_307]
  exact t
set_option maxRecDepth 20000 in
theorem t_307_0 {d : Nat} {h : ab_H} {Q : Option Value → ab_H → Prop} {x0 : Nat} {x1 : Int32} {x2 : Int32} (t : wm d 204 [.int x1] h (fun r9 h9 => wq (d + 1) 307 4 [.ref x0, .int x1, .int x2] (r9.toList ++ []) h9 Q)) : wq (d + 1) 307 0 [.ref x0, .int x1, .int x2] [] h Q := by
  refine g3 c_307_0 rfl ?_
  exact g81 (As := [.int x1]) (rest := []) c_307_1 rfl rfl (Nat.le_of_ble_eq_true rfl) (Nat.le_of_ble_eq_true rfl) t
set_option maxRecDepth 20000 in
theorem t_307_4 {d : Nat} {h : ab_H} {Q : Option Value → ab_H → Prop} {x0 : Nat} {x1 : Int32} {x2 : Int32} {s0 : Int32} (t : if s0 = 0 then (Q (some (.int 0)) h) else (if x2 = (-1) then (ab_ok h x0 112 = true ∧ ∃ j1 : Nat, ab_r h x0 0 = some j1 ∧ (ab_ok h j1 0 = true ∧ ab_in ((20 + (8 * x1)) + 6) (ab_s h j1).2 = true) ∧ ∀ h2 : ab_H, h2 = ab_pi h j1 (Int32.toNatClampNeg ((20 + (8 * x1)) + 6)) x2 → Q (some (.int 1)) h2) else (wm d 196 [.int x2, .int 0, .int 10000] h (fun r9 h9 => wq (d + 1) 307 20 [.ref x0, .int x1, .int x2] (r9.toList ++ []) h9 Q)))) : wq (d + 1) 307 4 [.ref x0, .int x1, .int x2] [.int s0] h Q := by
  refine gif c_307_4 (gbr t rfl rfl (fun hc t => ?_) (fun hc t => ?_))
  · refine g1 c_307_23 k_0 ?_
    exact g91 c_307_24 ⟨by decide, t⟩
  · refine g3 c_307_7 rfl ?_
    refine g1 c_307_8 k_m1 ?_
    refine gcm c_307_9 (gbr t rfl rfl (fun hc t => ?_) (fun hc t => ?_))
    · refine g5 c_307_25 rfl ?_
      obtain ⟨ho, j1, hr, t⟩ := t
      refine g45 c_307_26 ho hr ?_
      refine g1 c_307_29 k_20 ?_
      refine g1 c_307_31 k_8 ?_
      refine g3 c_307_33 rfl ?_
      refine g12 c_307_34 ?_
      refine g10 c_307_35 ?_
      refine g1 c_307_36 k_6 ?_
      refine g10 c_307_38 ?_
      refine g3 c_307_39 rfl ?_
      obtain ⟨ho, t⟩ := t
      refine g54 c_307_40 ho (fun h2 eh2 => ?_)
      have t := t h2 eh2
      refine g1 c_307_41 k_1 ?_
      exact g91 c_307_42 ⟨by decide, t⟩
    · refine g3 c_307_12 rfl ?_
      refine g1 c_307_13 k_0 ?_
      refine g1 c_307_14 k_10000 ?_
      exact g81 (As := [.int x2, .int 0, .int 10000]) (rest := []) c_307_17 rfl rfl (Nat.le_of_ble_eq_true rfl) (Nat.le_of_ble_eq_true rfl) t
set_option maxRecDepth 20000 in
theorem t_307_20 {d : Nat} {h : ab_H} {Q : Option Value → ab_H → Prop} {x0 : Nat} {x1 : Int32} {x2 : Int32} {s0 : Int32} (t : if s0 = 0 then (Q (some (.int 0)) h) else (ab_ok h x0 112 = true ∧ ∃ j1 : Nat, ab_r h x0 0 = some j1 ∧ (ab_ok h j1 0 = true ∧ ab_in ((20 + (8 * x1)) + 6) (ab_s h j1).2 = true) ∧ ∀ h2 : ab_H, h2 = ab_pi h j1 (Int32.toNatClampNeg ((20 + (8 * x1)) + 6)) x2 → Q (some (.int 1)) h2)) : wq d 307 20 [.ref x0, .int x1, .int x2] [.int s0] h Q := by
  refine gif c_307_20 (gbn t (ab_c1 _ _) rfl (fun hc t => ?_) (fun hc t => ?_))
  · refine g1 c_307_23 k_0 ?_
    exact g91 c_307_24 ⟨by decide, t⟩
  · refine g5 c_307_25 rfl ?_
    obtain ⟨ho, j1, hr, t⟩ := t
    refine g45 c_307_26 ho hr ?_
    refine g1 c_307_29 k_20 ?_
    refine g1 c_307_31 k_8 ?_
    refine g3 c_307_33 rfl ?_
    refine g12 c_307_34 ?_
    refine g10 c_307_35 ?_
    refine g1 c_307_36 k_6 ?_
    refine g10 c_307_38 ?_
    refine g3 c_307_39 rfl ?_
    obtain ⟨ho, t⟩ := t
    refine g54 c_307_40 ho (fun h2 eh2 => ?_)
    have t := t h2 eh2
    refine g1 c_307_41 k_1 ?_
    exact g91 c_307_42 ⟨by decide, t⟩
-- method 308: MillTownModel.squares(III)I
theorem c_308_0 : pg_cd 308 0 = (1, 1, 0, 0, 0) := by decide +kernel
theorem c_308_1 : pg_cd 308 1 = (6, 2, 0, 4, 0) := by decide +kernel
theorem c_308_3 : pg_cd 308 3 = (1, 1, 0, 0, 0) := by decide +kernel
theorem c_308_4 : pg_cd 308 4 = (6, 2, 0, 5, 0) := by decide +kernel
theorem c_308_6 : pg_cd 308 6 = (3, 2, 0, 5, 0) := by decide +kernel
theorem c_308_8 : pg_cd 308 8 = (1, 2, 0, 0, 6) := by decide +kernel
theorem c_308_10 : pg_cd 308 10 = (37, 3, 0, 3, 68) := by decide +kernel
theorem c_308_13 : pg_cd 308 13 = (5, 1, 0, 0, 0) := by decide +kernel
theorem c_308_14 : pg_cd 308 14 = (3, 2, 0, 5, 0) := by decide +kernel
theorem c_308_16 : pg_cd 308 16 = (1, 2, 0, 0, 6) := by decide +kernel
theorem c_308_18 : pg_cd 308 18 = (80, 197, 85, 0, 0) := by decide +kernel
theorem c_308_21 : pg_cd 308 21 = (36, 3, 0, 3, 6) := by decide +kernel
theorem c_308_24 : pg_cd 308 24 = (38, 3, 0, 0, 48) := by decide +kernel
theorem c_308_27 : pg_cd 308 27 = (3, 1, 0, 1, 0) := by decide +kernel
theorem c_308_28 : pg_cd 308 28 = (3, 1, 0, 2, 0) := by decide +kernel
theorem c_308_29 : pg_cd 308 29 = (5, 1, 0, 0, 0) := by decide +kernel
theorem c_308_30 : pg_cd 308 30 = (3, 2, 0, 5, 0) := by decide +kernel
theorem c_308_32 : pg_cd 308 32 = (1, 1, 0, 0, 1) := by decide +kernel
theorem c_308_33 : pg_cd 308 33 = (80, 197, 85, 0, 0) := by decide +kernel
theorem c_308_36 : pg_cd 308 36 = (12, 1, 0, 0, 0) := by decide +kernel
theorem c_308_37 : pg_cd 308 37 = (3, 1, 0, 3, 0) := by decide +kernel
theorem c_308_38 : pg_cd 308 38 = (5, 1, 0, 0, 0) := by decide +kernel
theorem c_308_39 : pg_cd 308 39 = (3, 2, 0, 5, 0) := by decide +kernel
theorem c_308_41 : pg_cd 308 41 = (1, 1, 0, 0, 2) := by decide +kernel
theorem c_308_42 : pg_cd 308 42 = (80, 197, 85, 0, 0) := by decide +kernel
theorem c_308_45 : pg_cd 308 45 = (12, 1, 0, 0, 0) := by decide +kernel
theorem c_308_46 : pg_cd 308 46 = (10, 1, 0, 0, 0) := by decide +kernel
theorem c_308_47 : pg_cd 308 47 = (1, 2, 0, 0, 10) := by decide +kernel
theorem c_308_49 : pg_cd 308 49 = (16, 1, 0, 0, 0) := by decide +kernel
theorem c_308_50 : pg_cd 308 50 = (10, 1, 0, 0, 0) := by decide +kernel
theorem c_308_51 : pg_cd 308 51 = (5, 1, 0, 0, 0) := by decide +kernel
theorem c_308_52 : pg_cd 308 52 = (3, 2, 0, 5, 0) := by decide +kernel
theorem c_308_54 : pg_cd 308 54 = (1, 2, 0, 0, 6) := by decide +kernel
theorem c_308_56 : pg_cd 308 56 = (80, 197, 85, 0, 0) := by decide +kernel
theorem c_308_59 : pg_cd 308 59 = (11, 1, 0, 0, 0) := by decide +kernel
theorem c_308_60 : pg_cd 308 60 = (6, 2, 0, 6, 0) := by decide +kernel
theorem c_308_62 : pg_cd 308 62 = (3, 2, 0, 4, 0) := by decide +kernel
theorem c_308_64 : pg_cd 308 64 = (3, 2, 0, 6, 0) := by decide +kernel
theorem c_308_66 : pg_cd 308 66 = (3, 2, 0, 6, 0) := by decide +kernel
theorem c_308_68 : pg_cd 308 68 = (12, 1, 0, 0, 0) := by decide +kernel
theorem c_308_69 : pg_cd 308 69 = (10, 1, 0, 0, 0) := by decide +kernel
theorem c_308_70 : pg_cd 308 70 = (6, 2, 0, 4, 0) := by decide +kernel
theorem c_308_72 : pg_cd 308 72 = (9, 3, 0, 5, 1) := by decide +kernel
theorem c_308_75 : pg_cd 308 75 = (38, 3, 0, 0, (-69)) := by decide +kernel
theorem c_308_78 : pg_cd 308 78 = (3, 2, 0, 4, 0) := by decide +kernel
theorem c_308_80 : pg_cd 308 80 = (90, 0, 0, 0, 0) := by decide +kernel
theorem mx_308 : pg_mx 308 = 7 := by decide +kernel
theorem m_308 {d : Nat} {h : ab_H} {Q : Option Value → ab_H → Prop} {x0 : Nat} {x1 : Int32} {x2 : Int32} {x3 : Int32} (t : wq d 308 0 [.ref x0, .int x1, .int x2, .int x3, .retAddr 0, .retAddr 0, .retAddr 0] [] h Q) : wm d 308 [.ref x0, .int x1, .int x2, .int x3] h Q := by
  unfold wm
  rw [mx_308]
  exact t
set_option maxRecDepth 20000 in
theorem t_308_0 {d : Nat} {h : ab_H} {Q : Option Value → ab_H → Prop} {x0 : Nat} {x1 : Int32} {x2 : Int32} {x3 : Int32} (t : wq d 308 6 [.ref x0, .int x1, .int x2, .int x3, .int 0, .int 0, .retAddr 0] [] h Q) : wq d 308 0 [.ref x0, .int x1, .int x2, .int x3, .retAddr 0, .retAddr 0, .retAddr 0] [] h Q := by
  refine g1 c_308_0 k_0 ?_
  refine g6 (L' := [.ref x0, .int x1, .int x2, .int x3, .int 0, .retAddr 0, .retAddr 0]) c_308_1 rfl ?_
  refine g1 c_308_3 k_0 ?_
  refine g6 (L' := [.ref x0, .int x1, .int x2, .int x3, .int 0, .int 0, .retAddr 0]) c_308_4 rfl ?_
  exact t
set_option maxRecDepth 20000 in
theorem t_308_6 {d : Nat} {h : ab_H} {Q : Option Value → ab_H → Prop} {x0 : Nat} {x1 : Int32} {x2 : Int32} {x3 : Int32} {x4 : Int32} {x5 : Int32} (t : if 6 ≤ x5 then (Q (some (.int x4)) h) else (ab_ok h x0 112 = true ∧ wm d 197 [.ref x0, .int x5, .int 6] h (fun r9 h9 => wq (d + 1) 308 21 [.ref x0, .int x1, .int x2, .int x3, .int x4, .int x5, .retAddr 0] (r9.toList ++ []) h9 Q))) : wq (d + 1) 308 6 [.ref x0, .int x1, .int x2, .int x3, .int x4, .int x5, .retAddr 0] [] h Q := by
  refine g3 c_308_6 rfl ?_
  refine g1 c_308_8 k_6 ?_
  refine gcm c_308_10 (gbr t rfl rfl (fun hc t => ?_) (fun hc t => ?_))
  · refine g3 c_308_78 rfl ?_
    exact g90 c_308_80 t
  · refine g5 c_308_13 rfl ?_
    refine g3 c_308_14 rfl ?_
    refine g1 c_308_16 k_6 ?_
    exact g80 (As := [.int x5, .int 6]) (rest := []) c_308_18 rfl rfl (Nat.le_of_ble_eq_true rfl) (Nat.le_of_ble_eq_true rfl) t.1 t.2
set_option maxRecDepth 20000 in
theorem t_308_21 {d : Nat} {h : ab_H} {Q : Option Value → ab_H → Prop} {x0 : Nat} {x1 : Int32} {x2 : Int32} {x3 : Int32} {x4 : Int32} {x5 : Int32} {s0 : Int32} (t : if 0 ≤ s0 then (ab_ok h x0 112 = true ∧ wm d 197 [.ref x0, .int x5, .int 1] h (fun r9 h9 => wq (d + 1) 308 36 [.ref x0, .int x1, .int x2, .int x3, .int x4, .int x5, .retAddr 0] (r9.toList ++ [.int x2, .int x1]) h9 Q)) else (wq (d + 1) 308 6 [.ref x0, .int x1, .int x2, .int x3, .int x4, .int (x5 + 1), .retAddr 0] [] h Q)) : wq (d + 1) 308 21 [.ref x0, .int x1, .int x2, .int x3, .int x4, .int x5, .retAddr 0] [.int s0] h Q := by
  refine gif c_308_21 (gbr t rfl rfl (fun hc t => ?_) (fun hc t => ?_))
  · refine g3 c_308_27 rfl ?_
    refine g3 c_308_28 rfl ?_
    refine g5 c_308_29 rfl ?_
    refine g3 c_308_30 rfl ?_
    refine g1 c_308_32 k_1 ?_
    exact g80 (As := [.int x5, .int 1]) (rest := [.int x2, .int x1]) c_308_33 rfl rfl (Nat.le_of_ble_eq_true rfl) (Nat.le_of_ble_eq_true rfl) t.1 t.2
  · refine g38 c_308_24 rfl ?_
    refine g9 (L' := [.ref x0, .int x1, .int x2, .int x3, .int x4, .int (x5 + 1), .retAddr 0]) c_308_72 rfl k_1 rfl ?_
    refine g38 c_308_75 rfl ?_
    exact t
set_option maxRecDepth 20000 in
theorem t_308_36 {d : Nat} {h : ab_H} {Q : Option Value → ab_H → Prop} {x0 : Nat} {x1 : Int32} {x2 : Int32} {x3 : Int32} {x4 : Int32} {x5 : Int32} {s0 : Int32} {s1 : Int32} {s2 : Int32} (t : ab_ok h x0 112 = true ∧ wm d 197 [.ref x0, .int x5, .int 2] h (fun r9 h9 => wq (d + 1) 308 45 [.ref x0, .int x1, .int x2, .int x3, .int x4, .int x5, .retAddr 0] (r9.toList ++ [.int x3, .int (s1 * s2), .int s0]) h9 Q)) : wq (d + 1) 308 36 [.ref x0, .int x1, .int x2, .int x3, .int x4, .int x5, .retAddr 0] [.int s2, .int s1, .int s0] h Q := by
  refine g12 c_308_36 ?_
  refine g3 c_308_37 rfl ?_
  refine g5 c_308_38 rfl ?_
  refine g3 c_308_39 rfl ?_
  refine g1 c_308_41 k_2 ?_
  exact g80 (As := [.int x5, .int 2]) (rest := [.int x3, .int (s1 * s2), .int s0]) c_308_42 rfl rfl (Nat.le_of_ble_eq_true rfl) (Nat.le_of_ble_eq_true rfl) t.1 t.2
set_option maxRecDepth 20000 in
theorem t_308_45 {d : Nat} {h : ab_H} {Q : Option Value → ab_H → Prop} {x0 : Nat} {x1 : Int32} {x2 : Int32} {x3 : Int32} {x4 : Int32} {x5 : Int32} {s0 : Int32} {s1 : Int32} {s2 : Int32} {s3 : Int32} (t : ¬ (10 : Int32) = 0 ∧ ab_ok h x0 112 = true ∧ wm d 197 [.ref x0, .int x5, .int 6] h (fun r9 h9 => wq (d + 1) 308 59 [.ref x0, .int x1, .int x2, .int x3, .int x4, .int x5, .retAddr 0] (r9.toList ++ [.int (s0 + ((s1 + (s2 * s3)) / 10))]) h9 Q)) : wq (d + 1) 308 45 [.ref x0, .int x1, .int x2, .int x3, .int x4, .int x5, .retAddr 0] [.int s3, .int s2, .int s1, .int s0] h Q := by
  refine g12 c_308_45 ?_
  refine g10 c_308_46 ?_
  refine g1 c_308_47 k_10 ?_
  obtain ⟨hy, t⟩ := t
  refine g16 c_308_49 hy ?_
  refine g10 c_308_50 ?_
  refine g5 c_308_51 rfl ?_
  refine g3 c_308_52 rfl ?_
  refine g1 c_308_54 k_6 ?_
  exact g80 (As := [.int x5, .int 6]) (rest := [.int (s0 + ((s1 + (s2 * s3)) / 10))]) c_308_56 rfl rfl (Nat.le_of_ble_eq_true rfl) (Nat.le_of_ble_eq_true rfl) t.1 t.2
set_option maxRecDepth 20000 in
theorem t_308_59 {d : Nat} {h : ab_H} {Q : Option Value → ab_H → Prop} {x0 : Nat} {x1 : Int32} {x2 : Int32} {x3 : Int32} {x4 : Int32} {x5 : Int32} {s0 : Int32} {s1 : Int32} (t : wq d 308 6 [.ref x0, .int x1, .int x2, .int x3, .int (x4 + ((s0 - s1) * (s0 - s1))), .int (x5 + 1), .int (s0 - s1)] [] h Q) : wq d 308 59 [.ref x0, .int x1, .int x2, .int x3, .int x4, .int x5, .retAddr 0] [.int s1, .int s0] h Q := by
  refine g11 c_308_59 ?_
  refine g6 (L' := [.ref x0, .int x1, .int x2, .int x3, .int x4, .int x5, .int (s0 - s1)]) c_308_60 rfl ?_
  refine g3 c_308_62 rfl ?_
  refine g3 c_308_64 rfl ?_
  refine g3 c_308_66 rfl ?_
  refine g12 c_308_68 ?_
  refine g10 c_308_69 ?_
  refine g6 (L' := [.ref x0, .int x1, .int x2, .int x3, .int (x4 + ((s0 - s1) * (s0 - s1))), .int x5, .int (s0 - s1)]) c_308_70 rfl ?_
  refine g9 (L' := [.ref x0, .int x1, .int x2, .int x3, .int (x4 + ((s0 - s1) * (s0 - s1))), .int (x5 + 1), .int (s0 - s1)]) c_308_72 rfl k_1 rfl ?_
  refine g38 c_308_75 rfl ?_
  exact t
-- method 309: MillTownModel.apart(II)I
theorem c_309_0 : pg_cd 309 0 = (3, 1, 0, 0, 0) := by decide +kernel
theorem c_309_1 : pg_cd 309 1 = (3, 1, 0, 1, 0) := by decide +kernel
theorem c_309_2 : pg_cd 309 2 = (37, 3, 0, 5, 9) := by decide +kernel
theorem c_309_5 : pg_cd 309 5 = (3, 1, 0, 0, 0) := by decide +kernel
theorem c_309_6 : pg_cd 309 6 = (3, 1, 0, 1, 0) := by decide +kernel
theorem c_309_7 : pg_cd 309 7 = (11, 1, 0, 0, 0) := by decide +kernel
theorem c_309_8 : pg_cd 309 8 = (38, 3, 0, 0, 6) := by decide +kernel
theorem c_309_11 : pg_cd 309 11 = (3, 1, 0, 1, 0) := by decide +kernel
theorem c_309_12 : pg_cd 309 12 = (3, 1, 0, 0, 0) := by decide +kernel
theorem c_309_13 : pg_cd 309 13 = (11, 1, 0, 0, 0) := by decide +kernel
theorem c_309_14 : pg_cd 309 14 = (90, 0, 0, 0, 0) := by decide +kernel
theorem mx_309 : pg_mx 309 = 2 := by decide +kernel
theorem m_309 {d : Nat} {h : ab_H} {Q : Option Value → ab_H → Prop} {x0 : Int32} {x1 : Int32} (t : wq d 309 0 [.int x0, .int x1] [] h Q) : wm d 309 [.int x0, .int x1] h Q := by
  unfold wm
  rw [mx_309]
  exact t
set_option maxRecDepth 20000 in
theorem t_309_0 {d : Nat} {h : ab_H} {Q : Option Value → ab_H → Prop} {x0 : Int32} {x1 : Int32} (t : if x0 ≤ x1 then (Q (some (.int (x1 - x0))) h) else (Q (some (.int (x0 - x1))) h)) : wq d 309 0 [.int x0, .int x1] [] h Q := by
  refine g3 c_309_0 rfl ?_
  refine g3 c_309_1 rfl ?_
  refine gcm c_309_2 (gbr t rfl rfl (fun hc t => ?_) (fun hc t => ?_))
  · refine g3 c_309_11 rfl ?_
    refine g3 c_309_12 rfl ?_
    refine g11 c_309_13 ?_
    exact g90 c_309_14 t
  · refine g3 c_309_5 rfl ?_
    refine g3 c_309_6 rfl ?_
    refine g11 c_309_7 ?_
    refine g38 c_309_8 rfl ?_
    exact g90 c_309_14 t
-- method 310: MillTownModel.made(IIII)I
theorem c_310_0 : pg_cd 310 0 = (1, 1, 0, 0, 0) := by decide +kernel
theorem c_310_1 : pg_cd 310 1 = (6, 2, 0, 5, 0) := by decide +kernel
theorem c_310_3 : pg_cd 310 3 = (1, 1, 0, 0, 0) := by decide +kernel
theorem c_310_4 : pg_cd 310 4 = (6, 2, 0, 6, 0) := by decide +kernel
theorem c_310_6 : pg_cd 310 6 = (3, 2, 0, 6, 0) := by decide +kernel
theorem c_310_8 : pg_cd 310 8 = (1, 2, 0, 0, 6) := by decide +kernel
theorem c_310_10 : pg_cd 310 10 = (37, 3, 0, 3, 32) := by decide +kernel
theorem c_310_13 : pg_cd 310 13 = (3, 2, 0, 5, 0) := by decide +kernel
theorem c_310_15 : pg_cd 310 15 = (36, 3, 0, 1, 14) := by decide +kernel
theorem c_310_18 : pg_cd 310 18 = (5, 1, 0, 0, 0) := by decide +kernel
theorem c_310_19 : pg_cd 310 19 = (3, 2, 0, 6, 0) := by decide +kernel
theorem c_310_21 : pg_cd 310 21 = (1, 2, 0, 0, 6) := by decide +kernel
theorem c_310_23 : pg_cd 310 23 = (80, 197, 85, 0, 0) := by decide +kernel
theorem c_310_26 : pg_cd 310 26 = (36, 3, 0, 2, 7) := by decide +kernel
theorem c_310_29 : pg_cd 310 29 = (1, 1, 0, 0, 1) := by decide +kernel
theorem c_310_30 : pg_cd 310 30 = (38, 3, 0, 0, 4) := by decide +kernel
theorem c_310_33 : pg_cd 310 33 = (1, 1, 0, 0, 0) := by decide +kernel
theorem c_310_34 : pg_cd 310 34 = (6, 2, 0, 5, 0) := by decide +kernel
theorem c_310_36 : pg_cd 310 36 = (9, 3, 0, 6, 1) := by decide +kernel
theorem c_310_39 : pg_cd 310 39 = (38, 3, 0, 0, (-33)) := by decide +kernel
theorem c_310_42 : pg_cd 310 42 = (3, 1, 0, 1, 0) := by decide +kernel
theorem c_310_43 : pg_cd 310 43 = (1, 1, 0, 0, 0) := by decide +kernel
theorem c_310_44 : pg_cd 310 44 = (1, 2, 0, 0, 40) := by decide +kernel
theorem c_310_46 : pg_cd 310 46 = (81, 196, 76, 0, 0) := by decide +kernel
theorem c_310_49 : pg_cd 310 49 = (36, 3, 0, 0, 38) := by decide +kernel
theorem c_310_52 : pg_cd 310 52 = (3, 1, 0, 2, 0) := by decide +kernel
theorem c_310_53 : pg_cd 310 53 = (1, 1, 0, 0, 0) := by decide +kernel
theorem c_310_54 : pg_cd 310 54 = (1, 2, 0, 0, 40) := by decide +kernel
theorem c_310_56 : pg_cd 310 56 = (81, 196, 76, 0, 0) := by decide +kernel
theorem c_310_59 : pg_cd 310 59 = (36, 3, 0, 0, 28) := by decide +kernel
theorem c_310_62 : pg_cd 310 62 = (3, 1, 0, 3, 0) := by decide +kernel
theorem c_310_63 : pg_cd 310 63 = (1, 1, 0, 0, 0) := by decide +kernel
theorem c_310_64 : pg_cd 310 64 = (1, 2, 0, 0, 40) := by decide +kernel
theorem c_310_66 : pg_cd 310 66 = (81, 196, 76, 0, 0) := by decide +kernel
theorem c_310_69 : pg_cd 310 69 = (36, 3, 0, 0, 18) := by decide +kernel
theorem c_310_72 : pg_cd 310 72 = (3, 2, 0, 4, 0) := by decide +kernel
theorem c_310_74 : pg_cd 310 74 = (1, 1, 0, 0, 0) := by decide +kernel
theorem c_310_75 : pg_cd 310 75 = (1, 1, 0, 0, 3) := by decide +kernel
theorem c_310_76 : pg_cd 310 76 = (81, 196, 76, 0, 0) := by decide +kernel
theorem c_310_79 : pg_cd 310 79 = (36, 3, 0, 0, 8) := by decide +kernel
theorem c_310_82 : pg_cd 310 82 = (3, 2, 0, 5, 0) := by decide +kernel
theorem c_310_84 : pg_cd 310 84 = (36, 3, 0, 1, 5) := by decide +kernel
theorem c_310_87 : pg_cd 310 87 = (1, 1, 0, 0, (-1)) := by decide +kernel
theorem c_310_88 : pg_cd 310 88 = (90, 0, 0, 0, 0) := by decide +kernel
theorem c_310_89 : pg_cd 310 89 = (1, 1, 0, 0, (-1)) := by decide +kernel
theorem c_310_90 : pg_cd 310 90 = (6, 2, 0, 6, 0) := by decide +kernel
theorem c_310_92 : pg_cd 310 92 = (1, 1, 0, 0, 0) := by decide +kernel
theorem c_310_93 : pg_cd 310 93 = (6, 2, 0, 7, 0) := by decide +kernel
theorem c_310_95 : pg_cd 310 95 = (1, 1, 0, 0, 0) := by decide +kernel
theorem c_310_96 : pg_cd 310 96 = (6, 2, 0, 8, 0) := by decide +kernel
theorem c_310_98 : pg_cd 310 98 = (1, 1, 0, 0, 0) := by decide +kernel
theorem c_310_99 : pg_cd 310 99 = (6, 2, 0, 9, 0) := by decide +kernel
theorem c_310_101 : pg_cd 310 101 = (3, 2, 0, 9, 0) := by decide +kernel
theorem c_310_103 : pg_cd 310 103 = (1, 3, 420, 0, 68921) := by decide +kernel
theorem c_310_106 : pg_cd 310 106 = (37, 3, 0, 3, 109) := by decide +kernel
theorem c_310_109 : pg_cd 310 109 = (3, 2, 0, 9, 0) := by decide +kernel
theorem c_310_111 : pg_cd 310 111 = (1, 3, 0, 0, 1681) := by decide +kernel
theorem c_310_114 : pg_cd 310 114 = (16, 1, 0, 0, 0) := by decide +kernel
theorem c_310_115 : pg_cd 310 115 = (6, 2, 0, 10, 0) := by decide +kernel
theorem c_310_117 : pg_cd 310 117 = (3, 2, 0, 9, 0) := by decide +kernel
theorem c_310_119 : pg_cd 310 119 = (1, 2, 0, 0, 41) := by decide +kernel
theorem c_310_121 : pg_cd 310 121 = (16, 1, 0, 0, 0) := by decide +kernel
theorem c_310_122 : pg_cd 310 122 = (1, 2, 0, 0, 41) := by decide +kernel
theorem c_310_124 : pg_cd 310 124 = (17, 1, 0, 0, 0) := by decide +kernel
theorem c_310_125 : pg_cd 310 125 = (6, 2, 0, 11, 0) := by decide +kernel
theorem c_310_127 : pg_cd 310 127 = (3, 2, 0, 9, 0) := by decide +kernel
theorem c_310_129 : pg_cd 310 129 = (1, 2, 0, 0, 41) := by decide +kernel
theorem c_310_131 : pg_cd 310 131 = (17, 1, 0, 0, 0) := by decide +kernel
theorem c_310_132 : pg_cd 310 132 = (6, 2, 0, 12, 0) := by decide +kernel
theorem c_310_134 : pg_cd 310 134 = (5, 1, 0, 0, 0) := by decide +kernel
theorem c_310_135 : pg_cd 310 135 = (3, 2, 0, 10, 0) := by decide +kernel
theorem c_310_137 : pg_cd 310 137 = (3, 2, 0, 11, 0) := by decide +kernel
theorem c_310_139 : pg_cd 310 139 = (3, 2, 0, 12, 0) := by decide +kernel
theorem c_310_141 : pg_cd 310 141 = (80, 308, 421, 0, 0) := by decide +kernel
theorem c_310_144 : pg_cd 310 144 = (6, 2, 0, 13, 0) := by decide +kernel
theorem c_310_146 : pg_cd 310 146 = (3, 2, 0, 10, 0) := by decide +kernel
theorem c_310_148 : pg_cd 310 148 = (3, 1, 0, 1, 0) := by decide +kernel
theorem c_310_149 : pg_cd 310 149 = (81, 309, 424, 0, 0) := by decide +kernel
theorem c_310_152 : pg_cd 310 152 = (3, 2, 0, 11, 0) := by decide +kernel
theorem c_310_154 : pg_cd 310 154 = (3, 1, 0, 2, 0) := by decide +kernel
theorem c_310_155 : pg_cd 310 155 = (81, 309, 424, 0, 0) := by decide +kernel
theorem c_310_158 : pg_cd 310 158 = (10, 1, 0, 0, 0) := by decide +kernel
theorem c_310_159 : pg_cd 310 159 = (3, 2, 0, 12, 0) := by decide +kernel
theorem c_310_161 : pg_cd 310 161 = (3, 1, 0, 3, 0) := by decide +kernel
theorem c_310_162 : pg_cd 310 162 = (81, 309, 424, 0, 0) := by decide +kernel
theorem c_310_165 : pg_cd 310 165 = (10, 1, 0, 0, 0) := by decide +kernel
theorem c_310_166 : pg_cd 310 166 = (6, 2, 0, 14, 0) := by decide +kernel
theorem c_310_168 : pg_cd 310 168 = (3, 2, 0, 6, 0) := by decide +kernel
theorem c_310_170 : pg_cd 310 170 = (36, 3, 0, 2, 27) := by decide +kernel
theorem c_310_173 : pg_cd 310 173 = (3, 2, 0, 13, 0) := by decide +kernel
theorem c_310_175 : pg_cd 310 175 = (3, 2, 0, 7, 0) := by decide +kernel
theorem c_310_177 : pg_cd 310 177 = (37, 3, 0, 4, 32) := by decide +kernel
theorem c_310_180 : pg_cd 310 180 = (3, 2, 0, 13, 0) := by decide +kernel
theorem c_310_182 : pg_cd 310 182 = (3, 2, 0, 7, 0) := by decide +kernel
theorem c_310_184 : pg_cd 310 184 = (37, 3, 0, 1, 13) := by decide +kernel
theorem c_310_187 : pg_cd 310 187 = (3, 2, 0, 14, 0) := by decide +kernel
theorem c_310_189 : pg_cd 310 189 = (3, 2, 0, 8, 0) := by decide +kernel
theorem c_310_191 : pg_cd 310 191 = (37, 3, 0, 2, 6) := by decide +kernel
theorem c_310_194 : pg_cd 310 194 = (38, 3, 0, 0, 15) := by decide +kernel
theorem c_310_197 : pg_cd 310 197 = (3, 2, 0, 9, 0) := by decide +kernel
theorem c_310_199 : pg_cd 310 199 = (6, 2, 0, 6, 0) := by decide +kernel
theorem c_310_201 : pg_cd 310 201 = (3, 2, 0, 13, 0) := by decide +kernel
theorem c_310_203 : pg_cd 310 203 = (6, 2, 0, 7, 0) := by decide +kernel
theorem c_310_205 : pg_cd 310 205 = (3, 2, 0, 14, 0) := by decide +kernel
theorem c_310_207 : pg_cd 310 207 = (6, 2, 0, 8, 0) := by decide +kernel
theorem c_310_209 : pg_cd 310 209 = (9, 3, 0, 9, 1) := by decide +kernel
theorem c_310_212 : pg_cd 310 212 = (38, 3, 0, 0, (-111)) := by decide +kernel
theorem c_310_215 : pg_cd 310 215 = (3, 2, 0, 4, 0) := by decide +kernel
theorem c_310_217 : pg_cd 310 217 = (36, 3, 0, 1, 12) := by decide +kernel
theorem c_310_220 : pg_cd 310 220 = (3, 2, 0, 6, 0) := by decide +kernel
theorem c_310_222 : pg_cd 310 222 = (1, 3, 0, 0, 1681) := by decide +kernel
theorem c_310_225 : pg_cd 310 225 = (16, 1, 0, 0, 0) := by decide +kernel
theorem c_310_226 : pg_cd 310 226 = (38, 3, 0, 0, 36) := by decide +kernel
theorem c_310_229 : pg_cd 310 229 = (3, 2, 0, 4, 0) := by decide +kernel
theorem c_310_231 : pg_cd 310 231 = (1, 1, 0, 0, 1) := by decide +kernel
theorem c_310_232 : pg_cd 310 232 = (37, 3, 0, 1, 14) := by decide +kernel
theorem c_310_235 : pg_cd 310 235 = (3, 2, 0, 6, 0) := by decide +kernel
theorem c_310_237 : pg_cd 310 237 = (1, 2, 0, 0, 41) := by decide +kernel
theorem c_310_239 : pg_cd 310 239 = (16, 1, 0, 0, 0) := by decide +kernel
theorem c_310_240 : pg_cd 310 240 = (1, 2, 0, 0, 41) := by decide +kernel
theorem c_310_242 : pg_cd 310 242 = (17, 1, 0, 0, 0) := by decide +kernel
theorem c_310_243 : pg_cd 310 243 = (38, 3, 0, 0, 19) := by decide +kernel
theorem c_310_246 : pg_cd 310 246 = (3, 2, 0, 4, 0) := by decide +kernel
theorem c_310_248 : pg_cd 310 248 = (1, 1, 0, 0, 2) := by decide +kernel
theorem c_310_249 : pg_cd 310 249 = (37, 3, 0, 1, 11) := by decide +kernel
theorem c_310_252 : pg_cd 310 252 = (3, 2, 0, 6, 0) := by decide +kernel
theorem c_310_254 : pg_cd 310 254 = (1, 2, 0, 0, 41) := by decide +kernel
theorem c_310_256 : pg_cd 310 256 = (17, 1, 0, 0, 0) := by decide +kernel
theorem c_310_257 : pg_cd 310 257 = (38, 3, 0, 0, 5) := by decide +kernel
theorem c_310_260 : pg_cd 310 260 = (3, 2, 0, 7, 0) := by decide +kernel
theorem c_310_262 : pg_cd 310 262 = (90, 0, 0, 0, 0) := by decide +kernel
theorem mx_310 : pg_mx 310 = 15 := by decide +kernel
theorem m_310 {d : Nat} {h : ab_H} {Q : Option Value → ab_H → Prop} {x0 : Nat} {x1 : Int32} {x2 : Int32} {x3 : Int32} {x4 : Int32} (t : wq d 310 0 [.ref x0, .int x1, .int x2, .int x3, .int x4, .retAddr 0, .retAddr 0, .retAddr 0, .retAddr 0, .retAddr 0, .retAddr 0, .retAddr 0, .retAddr 0, .retAddr 0, .retAddr 0] [] h Q) : wm d 310 [.ref x0, .int x1, .int x2, .int x3, .int x4] h Q := by
  unfold wm
  rw [mx_310]
  exact t
set_option maxRecDepth 20000 in
theorem t_310_0 {d : Nat} {h : ab_H} {Q : Option Value → ab_H → Prop} {x0 : Nat} {x1 : Int32} {x2 : Int32} {x3 : Int32} {x4 : Int32} (t : wq d 310 6 [.ref x0, .int x1, .int x2, .int x3, .int x4, .int 0, .int 0, .retAddr 0, .retAddr 0, .retAddr 0, .retAddr 0, .retAddr 0, .retAddr 0, .retAddr 0, .retAddr 0] [] h Q) : wq d 310 0 [.ref x0, .int x1, .int x2, .int x3, .int x4, .retAddr 0, .retAddr 0, .retAddr 0, .retAddr 0, .retAddr 0, .retAddr 0, .retAddr 0, .retAddr 0, .retAddr 0, .retAddr 0] [] h Q := by
  refine g1 c_310_0 k_0 ?_
  refine g6 (L' := [.ref x0, .int x1, .int x2, .int x3, .int x4, .int 0, .retAddr 0, .retAddr 0, .retAddr 0, .retAddr 0, .retAddr 0, .retAddr 0, .retAddr 0, .retAddr 0, .retAddr 0]) c_310_1 rfl ?_
  refine g1 c_310_3 k_0 ?_
  refine g6 (L' := [.ref x0, .int x1, .int x2, .int x3, .int x4, .int 0, .int 0, .retAddr 0, .retAddr 0, .retAddr 0, .retAddr 0, .retAddr 0, .retAddr 0, .retAddr 0, .retAddr 0]) c_310_4 rfl ?_
  exact t
set_option maxRecDepth 20000 in
theorem t_310_6 {d : Nat} {h : ab_H} {Q : Option Value → ab_H → Prop} {x0 : Nat} {x1 : Int32} {x2 : Int32} {x3 : Int32} {x4 : Int32} {x5 : Int32} {x6 : Int32} (t : if 6 ≤ x6 then (wm d 196 [.int x1, .int 0, .int 40] h (fun r9 h9 => wq (d + 1) 310 49 [.ref x0, .int x1, .int x2, .int x3, .int x4, .int x5, .int x6, .retAddr 0, .retAddr 0, .retAddr 0, .retAddr 0, .retAddr 0, .retAddr 0, .retAddr 0, .retAddr 0] (r9.toList ++ []) h9 Q)) else (if x5 = 0 then (ab_ok h x0 112 = true ∧ wm d 197 [.ref x0, .int x6, .int 6] h (fun r9 h9 => wq (d + 1) 310 26 [.ref x0, .int x1, .int x2, .int x3, .int x4, .int x5, .int x6, .retAddr 0, .retAddr 0, .retAddr 0, .retAddr 0, .retAddr 0, .retAddr 0, .retAddr 0, .retAddr 0] (r9.toList ++ []) h9 Q)) else (wq (d + 1) 310 6 [.ref x0, .int x1, .int x2, .int x3, .int x4, .int 1, .int (x6 + 1), .retAddr 0, .retAddr 0, .retAddr 0, .retAddr 0, .retAddr 0, .retAddr 0, .retAddr 0, .retAddr 0] [] h Q))) : wq (d + 1) 310 6 [.ref x0, .int x1, .int x2, .int x3, .int x4, .int x5, .int x6, .retAddr 0, .retAddr 0, .retAddr 0, .retAddr 0, .retAddr 0, .retAddr 0, .retAddr 0, .retAddr 0] [] h Q := by
  refine g3 c_310_6 rfl ?_
  refine g1 c_310_8 k_6 ?_
  refine gcm c_310_10 (gbr t rfl rfl (fun hc t => ?_) (fun hc t => ?_))
  · refine g3 c_310_42 rfl ?_
    refine g1 c_310_43 k_0 ?_
    refine g1 c_310_44 k_40 ?_
    exact g81 (As := [.int x1, .int 0, .int 40]) (rest := []) c_310_46 rfl rfl (Nat.le_of_ble_eq_true rfl) (Nat.le_of_ble_eq_true rfl) t
  · refine g3 c_310_13 rfl ?_
    refine gif c_310_15 (gbn t (ab_c1 _ _) rfl (fun hc t => ?_) (fun hc t => ?_))
    · refine g5 c_310_18 rfl ?_
      refine g3 c_310_19 rfl ?_
      refine g1 c_310_21 k_6 ?_
      exact g80 (As := [.int x6, .int 6]) (rest := []) c_310_23 rfl rfl (Nat.le_of_ble_eq_true rfl) (Nat.le_of_ble_eq_true rfl) t.1 t.2
    · refine g1 c_310_29 k_1 ?_
      refine g38 c_310_30 rfl ?_
      refine g6 (L' := [.ref x0, .int x1, .int x2, .int x3, .int x4, .int 1, .int x6, .retAddr 0, .retAddr 0, .retAddr 0, .retAddr 0, .retAddr 0, .retAddr 0, .retAddr 0, .retAddr 0]) c_310_34 rfl ?_
      refine g9 (L' := [.ref x0, .int x1, .int x2, .int x3, .int x4, .int 1, .int (x6 + 1), .retAddr 0, .retAddr 0, .retAddr 0, .retAddr 0, .retAddr 0, .retAddr 0, .retAddr 0, .retAddr 0]) c_310_36 rfl k_1 rfl ?_
      refine g38 c_310_39 rfl ?_
      exact t
set_option maxRecDepth 20000 in
theorem t_310_26 {d : Nat} {h : ab_H} {Q : Option Value → ab_H → Prop} {x0 : Nat} {x1 : Int32} {x2 : Int32} {x3 : Int32} {x4 : Int32} {x5 : Int32} {x6 : Int32} {s0 : Int32} (t : if s0 < 0 then (wq d 310 6 [.ref x0, .int x1, .int x2, .int x3, .int x4, .int 0, .int (x6 + 1), .retAddr 0, .retAddr 0, .retAddr 0, .retAddr 0, .retAddr 0, .retAddr 0, .retAddr 0, .retAddr 0] [] h Q) else (wq d 310 6 [.ref x0, .int x1, .int x2, .int x3, .int x4, .int 1, .int (x6 + 1), .retAddr 0, .retAddr 0, .retAddr 0, .retAddr 0, .retAddr 0, .retAddr 0, .retAddr 0, .retAddr 0] [] h Q)) : wq d 310 26 [.ref x0, .int x1, .int x2, .int x3, .int x4, .int x5, .int x6, .retAddr 0, .retAddr 0, .retAddr 0, .retAddr 0, .retAddr 0, .retAddr 0, .retAddr 0, .retAddr 0] [.int s0] h Q := by
  refine gif c_310_26 (gbr t rfl rfl (fun hc t => ?_) (fun hc t => ?_))
  · refine g1 c_310_33 k_0 ?_
    refine g6 (L' := [.ref x0, .int x1, .int x2, .int x3, .int x4, .int 0, .int x6, .retAddr 0, .retAddr 0, .retAddr 0, .retAddr 0, .retAddr 0, .retAddr 0, .retAddr 0, .retAddr 0]) c_310_34 rfl ?_
    refine g9 (L' := [.ref x0, .int x1, .int x2, .int x3, .int x4, .int 0, .int (x6 + 1), .retAddr 0, .retAddr 0, .retAddr 0, .retAddr 0, .retAddr 0, .retAddr 0, .retAddr 0, .retAddr 0]) c_310_36 rfl k_1 rfl ?_
    refine g38 c_310_39 rfl ?_
    exact t
  · refine g1 c_310_29 k_1 ?_
    refine g38 c_310_30 rfl ?_
    refine g6 (L' := [.ref x0, .int x1, .int x2, .int x3, .int x4, .int 1, .int x6, .retAddr 0, .retAddr 0, .retAddr 0, .retAddr 0, .retAddr 0, .retAddr 0, .retAddr 0, .retAddr 0]) c_310_34 rfl ?_
    refine g9 (L' := [.ref x0, .int x1, .int x2, .int x3, .int x4, .int 1, .int (x6 + 1), .retAddr 0, .retAddr 0, .retAddr 0, .retAddr 0, .retAddr 0, .retAddr 0, .retAddr 0, .retAddr 0]) c_310_36 rfl k_1 rfl ?_
    refine g38 c_310_39 rfl ?_
    exact t
set_option maxRecDepth 20000 in
theorem t_310_49 {d : Nat} {h : ab_H} {Q : Option Value → ab_H → Prop} {x0 : Nat} {x1 : Int32} {x2 : Int32} {x3 : Int32} {x4 : Int32} {x5 : Int32} {x6 : Int32} {s0 : Int32} (t : if s0 = 0 then (Q (some (.int (-1))) h) else (wm d 196 [.int x2, .int 0, .int 40] h (fun r9 h9 => wq (d + 1) 310 59 [.ref x0, .int x1, .int x2, .int x3, .int x4, .int x5, .int x6, .retAddr 0, .retAddr 0, .retAddr 0, .retAddr 0, .retAddr 0, .retAddr 0, .retAddr 0, .retAddr 0] (r9.toList ++ []) h9 Q))) : wq (d + 1) 310 49 [.ref x0, .int x1, .int x2, .int x3, .int x4, .int x5, .int x6, .retAddr 0, .retAddr 0, .retAddr 0, .retAddr 0, .retAddr 0, .retAddr 0, .retAddr 0, .retAddr 0] [.int s0] h Q := by
  refine gif c_310_49 (gbr t rfl rfl (fun hc t => ?_) (fun hc t => ?_))
  · refine g1 c_310_87 k_m1 ?_
    exact g90 c_310_88 t
  · refine g3 c_310_52 rfl ?_
    refine g1 c_310_53 k_0 ?_
    refine g1 c_310_54 k_40 ?_
    exact g81 (As := [.int x2, .int 0, .int 40]) (rest := []) c_310_56 rfl rfl (Nat.le_of_ble_eq_true rfl) (Nat.le_of_ble_eq_true rfl) t
set_option maxRecDepth 20000 in
theorem t_310_59 {d : Nat} {h : ab_H} {Q : Option Value → ab_H → Prop} {x0 : Nat} {x1 : Int32} {x2 : Int32} {x3 : Int32} {x4 : Int32} {x5 : Int32} {x6 : Int32} {s0 : Int32} (t : if s0 = 0 then (Q (some (.int (-1))) h) else (wm d 196 [.int x3, .int 0, .int 40] h (fun r9 h9 => wq (d + 1) 310 69 [.ref x0, .int x1, .int x2, .int x3, .int x4, .int x5, .int x6, .retAddr 0, .retAddr 0, .retAddr 0, .retAddr 0, .retAddr 0, .retAddr 0, .retAddr 0, .retAddr 0] (r9.toList ++ []) h9 Q))) : wq (d + 1) 310 59 [.ref x0, .int x1, .int x2, .int x3, .int x4, .int x5, .int x6, .retAddr 0, .retAddr 0, .retAddr 0, .retAddr 0, .retAddr 0, .retAddr 0, .retAddr 0, .retAddr 0] [.int s0] h Q := by
  refine gif c_310_59 (gbr t rfl rfl (fun hc t => ?_) (fun hc t => ?_))
  · refine g1 c_310_87 k_m1 ?_
    exact g90 c_310_88 t
  · refine g3 c_310_62 rfl ?_
    refine g1 c_310_63 k_0 ?_
    refine g1 c_310_64 k_40 ?_
    exact g81 (As := [.int x3, .int 0, .int 40]) (rest := []) c_310_66 rfl rfl (Nat.le_of_ble_eq_true rfl) (Nat.le_of_ble_eq_true rfl) t
set_option maxRecDepth 20000 in
theorem t_310_69 {d : Nat} {h : ab_H} {Q : Option Value → ab_H → Prop} {x0 : Nat} {x1 : Int32} {x2 : Int32} {x3 : Int32} {x4 : Int32} {x5 : Int32} {x6 : Int32} {s0 : Int32} (t : if s0 = 0 then (Q (some (.int (-1))) h) else (wm d 196 [.int x4, .int 0, .int 3] h (fun r9 h9 => wq (d + 1) 310 79 [.ref x0, .int x1, .int x2, .int x3, .int x4, .int x5, .int x6, .retAddr 0, .retAddr 0, .retAddr 0, .retAddr 0, .retAddr 0, .retAddr 0, .retAddr 0, .retAddr 0] (r9.toList ++ []) h9 Q))) : wq (d + 1) 310 69 [.ref x0, .int x1, .int x2, .int x3, .int x4, .int x5, .int x6, .retAddr 0, .retAddr 0, .retAddr 0, .retAddr 0, .retAddr 0, .retAddr 0, .retAddr 0, .retAddr 0] [.int s0] h Q := by
  refine gif c_310_69 (gbr t rfl rfl (fun hc t => ?_) (fun hc t => ?_))
  · refine g1 c_310_87 k_m1 ?_
    exact g90 c_310_88 t
  · refine g3 c_310_72 rfl ?_
    refine g1 c_310_74 k_0 ?_
    refine g1 c_310_75 k_3 ?_
    exact g81 (As := [.int x4, .int 0, .int 3]) (rest := []) c_310_76 rfl rfl (Nat.le_of_ble_eq_true rfl) (Nat.le_of_ble_eq_true rfl) t
set_option maxRecDepth 20000 in
theorem t_310_79 {d : Nat} {h : ab_H} {Q : Option Value → ab_H → Prop} {x0 : Nat} {x1 : Int32} {x2 : Int32} {x3 : Int32} {x4 : Int32} {x5 : Int32} {x6 : Int32} {s0 : Int32} (t : if s0 = 0 then (Q (some (.int (-1))) h) else (if x5 = 0 then (Q (some (.int (-1))) h) else (wq d 310 101 [.ref x0, .int x1, .int x2, .int x3, .int x4, .int x5, .int (-1), .int 0, .int 0, .int 0, .retAddr 0, .retAddr 0, .retAddr 0, .retAddr 0, .retAddr 0] [] h Q))) : wq d 310 79 [.ref x0, .int x1, .int x2, .int x3, .int x4, .int x5, .int x6, .retAddr 0, .retAddr 0, .retAddr 0, .retAddr 0, .retAddr 0, .retAddr 0, .retAddr 0, .retAddr 0] [.int s0] h Q := by
  refine gif c_310_79 (gbr t rfl rfl (fun hc t => ?_) (fun hc t => ?_))
  · refine g1 c_310_87 k_m1 ?_
    exact g90 c_310_88 t
  · refine g3 c_310_82 rfl ?_
    refine gif c_310_84 (gbn t (ab_c1 _ _) rfl (fun hc t => ?_) (fun hc t => ?_))
    · refine g1 c_310_87 k_m1 ?_
      exact g90 c_310_88 t
    · refine g1 c_310_89 k_m1 ?_
      refine g6 (L' := [.ref x0, .int x1, .int x2, .int x3, .int x4, .int x5, .int (-1), .retAddr 0, .retAddr 0, .retAddr 0, .retAddr 0, .retAddr 0, .retAddr 0, .retAddr 0, .retAddr 0]) c_310_90 rfl ?_
      refine g1 c_310_92 k_0 ?_
      refine g6 (L' := [.ref x0, .int x1, .int x2, .int x3, .int x4, .int x5, .int (-1), .int 0, .retAddr 0, .retAddr 0, .retAddr 0, .retAddr 0, .retAddr 0, .retAddr 0, .retAddr 0]) c_310_93 rfl ?_
      refine g1 c_310_95 k_0 ?_
      refine g6 (L' := [.ref x0, .int x1, .int x2, .int x3, .int x4, .int x5, .int (-1), .int 0, .int 0, .retAddr 0, .retAddr 0, .retAddr 0, .retAddr 0, .retAddr 0, .retAddr 0]) c_310_96 rfl ?_
      refine g1 c_310_98 k_0 ?_
      refine g6 (L' := [.ref x0, .int x1, .int x2, .int x3, .int x4, .int x5, .int (-1), .int 0, .int 0, .int 0, .retAddr 0, .retAddr 0, .retAddr 0, .retAddr 0, .retAddr 0]) c_310_99 rfl ?_
      exact t
set_option maxRecDepth 20000 in
theorem t_310_101 {d : Nat} {h : ab_H} {Q : Option Value → ab_H → Prop} {x0 : Nat} {x1 : Int32} {x2 : Int32} {x3 : Int32} {x4 : Int32} {x5 : Int32} {x6 : Int32} {x7 : Int32} {x8 : Int32} {x9 : Int32} (t : if 68921 ≤ x9 then (if x4 = 0 then (¬ (1681 : Int32) = 0 ∧ Q (some (.int (x6 / 1681))) h) else (if x4 = 1 then (¬ (41 : Int32) = 0 ∧ ¬ (41 : Int32) = 0 ∧ Q (some (.int ((x6 / 41) - (x6 / 41) / 41 * 41))) h) else (if x4 = 2 then (¬ (41 : Int32) = 0 ∧ Q (some (.int (x6 - x6 / 41 * 41))) h) else (Q (some (.int x7)) h)))) else (¬ (1681 : Int32) = 0 ∧ ¬ (41 : Int32) = 0 ∧ ¬ (41 : Int32) = 0 ∧ ¬ (41 : Int32) = 0 ∧ ab_ok h x0 112 = true ∧ wm d 308 [.ref x0, .int (x9 / 1681), .int ((x9 / 41) - (x9 / 41) / 41 * 41), .int (x9 - x9 / 41 * 41)] h (fun r9 h9 => wq (d + 1) 310 144 [.ref x0, .int x1, .int x2, .int x3, .int x4, .int x5, .int x6, .int x7, .int x8, .int x9, .int (x9 / 1681), .int ((x9 / 41) - (x9 / 41) / 41 * 41), .int (x9 - x9 / 41 * 41), .retAddr 0, .retAddr 0] (r9.toList ++ []) h9 Q))) : wq (d + 1) 310 101 [.ref x0, .int x1, .int x2, .int x3, .int x4, .int x5, .int x6, .int x7, .int x8, .int x9, .retAddr 0, .retAddr 0, .retAddr 0, .retAddr 0, .retAddr 0] [] h Q := by
  refine g3 c_310_101 rfl ?_
  refine g1 c_310_103 k_68921 ?_
  refine gcm c_310_106 (gbr t rfl rfl (fun hc t => ?_) (fun hc t => ?_))
  · refine g3 c_310_215 rfl ?_
    refine gif c_310_217 (gbn t (ab_c1 _ _) rfl (fun hc t => ?_) (fun hc t => ?_))
    · refine g3 c_310_220 rfl ?_
      refine g1 c_310_222 k_1681 ?_
      obtain ⟨hy, t⟩ := t
      refine g16 c_310_225 hy ?_
      refine g38 c_310_226 rfl ?_
      exact g90 c_310_262 t
    · refine g3 c_310_229 rfl ?_
      refine g1 c_310_231 k_1 ?_
      refine gcm c_310_232 (gbn t (ab_c1 _ _) rfl (fun hc t => ?_) (fun hc t => ?_))
      · refine g3 c_310_235 rfl ?_
        refine g1 c_310_237 k_41 ?_
        obtain ⟨hy, t⟩ := t
        refine g16 c_310_239 hy ?_
        refine g1 c_310_240 k_41 ?_
        obtain ⟨hy, t⟩ := t
        refine g17 c_310_242 hy ?_
        refine g38 c_310_243 rfl ?_
        exact g90 c_310_262 t
      · refine g3 c_310_246 rfl ?_
        refine g1 c_310_248 k_2 ?_
        refine gcm c_310_249 (gbn t (ab_c1 _ _) rfl (fun hc t => ?_) (fun hc t => ?_))
        · refine g3 c_310_252 rfl ?_
          refine g1 c_310_254 k_41 ?_
          obtain ⟨hy, t⟩ := t
          refine g17 c_310_256 hy ?_
          refine g38 c_310_257 rfl ?_
          exact g90 c_310_262 t
        · refine g3 c_310_260 rfl ?_
          exact g90 c_310_262 t
  · refine g3 c_310_109 rfl ?_
    refine g1 c_310_111 k_1681 ?_
    obtain ⟨hy, t⟩ := t
    refine g16 c_310_114 hy ?_
    refine g6 (L' := [.ref x0, .int x1, .int x2, .int x3, .int x4, .int x5, .int x6, .int x7, .int x8, .int x9, .int (x9 / 1681), .retAddr 0, .retAddr 0, .retAddr 0, .retAddr 0]) c_310_115 rfl ?_
    refine g3 c_310_117 rfl ?_
    refine g1 c_310_119 k_41 ?_
    obtain ⟨hy, t⟩ := t
    refine g16 c_310_121 hy ?_
    refine g1 c_310_122 k_41 ?_
    obtain ⟨hy, t⟩ := t
    refine g17 c_310_124 hy ?_
    refine g6 (L' := [.ref x0, .int x1, .int x2, .int x3, .int x4, .int x5, .int x6, .int x7, .int x8, .int x9, .int (x9 / 1681), .int ((x9 / 41) - (x9 / 41) / 41 * 41), .retAddr 0, .retAddr 0, .retAddr 0]) c_310_125 rfl ?_
    refine g3 c_310_127 rfl ?_
    refine g1 c_310_129 k_41 ?_
    obtain ⟨hy, t⟩ := t
    refine g17 c_310_131 hy ?_
    refine g6 (L' := [.ref x0, .int x1, .int x2, .int x3, .int x4, .int x5, .int x6, .int x7, .int x8, .int x9, .int (x9 / 1681), .int ((x9 / 41) - (x9 / 41) / 41 * 41), .int (x9 - x9 / 41 * 41), .retAddr 0, .retAddr 0]) c_310_132 rfl ?_
    refine g5 c_310_134 rfl ?_
    refine g3 c_310_135 rfl ?_
    refine g3 c_310_137 rfl ?_
    refine g3 c_310_139 rfl ?_
    exact g80 (As := [.int (x9 / 1681), .int ((x9 / 41) - (x9 / 41) / 41 * 41), .int (x9 - x9 / 41 * 41)]) (rest := []) c_310_141 rfl rfl (Nat.le_of_ble_eq_true rfl) (Nat.le_of_ble_eq_true rfl) t.1 t.2
set_option maxRecDepth 20000 in
theorem t_310_144 {d : Nat} {h : ab_H} {Q : Option Value → ab_H → Prop} {x0 : Nat} {x1 : Int32} {x2 : Int32} {x3 : Int32} {x4 : Int32} {x5 : Int32} {x6 : Int32} {x7 : Int32} {x8 : Int32} {x9 : Int32} {x10 : Int32} {x11 : Int32} {x12 : Int32} {s0 : Int32} (t : wm d 309 [.int x10, .int x1] h (fun r9 h9 => wq (d + 1) 310 152 [.ref x0, .int x1, .int x2, .int x3, .int x4, .int x5, .int x6, .int x7, .int x8, .int x9, .int x10, .int x11, .int x12, .int s0, .retAddr 0] (r9.toList ++ []) h9 Q)) : wq (d + 1) 310 144 [.ref x0, .int x1, .int x2, .int x3, .int x4, .int x5, .int x6, .int x7, .int x8, .int x9, .int x10, .int x11, .int x12, .retAddr 0, .retAddr 0] [.int s0] h Q := by
  refine g6 (L' := [.ref x0, .int x1, .int x2, .int x3, .int x4, .int x5, .int x6, .int x7, .int x8, .int x9, .int x10, .int x11, .int x12, .int s0, .retAddr 0]) c_310_144 rfl ?_
  refine g3 c_310_146 rfl ?_
  refine g3 c_310_148 rfl ?_
  exact g81 (As := [.int x10, .int x1]) (rest := []) c_310_149 rfl rfl (Nat.le_of_ble_eq_true rfl) (Nat.le_of_ble_eq_true rfl) t
set_option maxRecDepth 20000 in
theorem t_310_152 {d : Nat} {h : ab_H} {Q : Option Value → ab_H → Prop} {x0 : Nat} {x1 : Int32} {x2 : Int32} {x3 : Int32} {x4 : Int32} {x5 : Int32} {x6 : Int32} {x7 : Int32} {x8 : Int32} {x9 : Int32} {x10 : Int32} {x11 : Int32} {x12 : Int32} {x13 : Int32} {s0 : Int32} (t : wm d 309 [.int x11, .int x2] h (fun r9 h9 => wq (d + 1) 310 158 [.ref x0, .int x1, .int x2, .int x3, .int x4, .int x5, .int x6, .int x7, .int x8, .int x9, .int x10, .int x11, .int x12, .int x13, .retAddr 0] (r9.toList ++ [.int s0]) h9 Q)) : wq (d + 1) 310 152 [.ref x0, .int x1, .int x2, .int x3, .int x4, .int x5, .int x6, .int x7, .int x8, .int x9, .int x10, .int x11, .int x12, .int x13, .retAddr 0] [.int s0] h Q := by
  refine g3 c_310_152 rfl ?_
  refine g3 c_310_154 rfl ?_
  exact g81 (As := [.int x11, .int x2]) (rest := [.int s0]) c_310_155 rfl rfl (Nat.le_of_ble_eq_true rfl) (Nat.le_of_ble_eq_true rfl) t
set_option maxRecDepth 20000 in
theorem t_310_158 {d : Nat} {h : ab_H} {Q : Option Value → ab_H → Prop} {x0 : Nat} {x1 : Int32} {x2 : Int32} {x3 : Int32} {x4 : Int32} {x5 : Int32} {x6 : Int32} {x7 : Int32} {x8 : Int32} {x9 : Int32} {x10 : Int32} {x11 : Int32} {x12 : Int32} {x13 : Int32} {s0 : Int32} {s1 : Int32} (t : wm d 309 [.int x12, .int x3] h (fun r9 h9 => wq (d + 1) 310 165 [.ref x0, .int x1, .int x2, .int x3, .int x4, .int x5, .int x6, .int x7, .int x8, .int x9, .int x10, .int x11, .int x12, .int x13, .retAddr 0] (r9.toList ++ [.int (s0 + s1)]) h9 Q)) : wq (d + 1) 310 158 [.ref x0, .int x1, .int x2, .int x3, .int x4, .int x5, .int x6, .int x7, .int x8, .int x9, .int x10, .int x11, .int x12, .int x13, .retAddr 0] [.int s1, .int s0] h Q := by
  refine g10 c_310_158 ?_
  refine g3 c_310_159 rfl ?_
  refine g3 c_310_161 rfl ?_
  exact g81 (As := [.int x12, .int x3]) (rest := [.int (s0 + s1)]) c_310_162 rfl rfl (Nat.le_of_ble_eq_true rfl) (Nat.le_of_ble_eq_true rfl) t
set_option maxRecDepth 20000 in
theorem t_310_165 {d : Nat} {h : ab_H} {Q : Option Value → ab_H → Prop} {x0 : Nat} {x1 : Int32} {x2 : Int32} {x3 : Int32} {x4 : Int32} {x5 : Int32} {x6 : Int32} {x7 : Int32} {x8 : Int32} {x9 : Int32} {x10 : Int32} {x11 : Int32} {x12 : Int32} {x13 : Int32} {s0 : Int32} {s1 : Int32} (t : if x6 < 0 then (wq d 310 101 [.ref x0, .int x1, .int x2, .int x3, .int x4, .int x5, .int x9, .int x13, .int (s0 + s1), .int (x9 + 1), .int x10, .int x11, .int x12, .int x13, .int (s0 + s1)] [] h Q) else (if x7 < x13 then (wq d 310 101 [.ref x0, .int x1, .int x2, .int x3, .int x4, .int x5, .int x6, .int x7, .int x8, .int (x9 + 1), .int x10, .int x11, .int x12, .int x13, .int (s0 + s1)] [] h Q) else (if x13 = x7 then (if (s0 + s1) < x8 then (wq d 310 101 [.ref x0, .int x1, .int x2, .int x3, .int x4, .int x5, .int x9, .int x13, .int (s0 + s1), .int (x9 + 1), .int x10, .int x11, .int x12, .int x13, .int (s0 + s1)] [] h Q) else (wq d 310 101 [.ref x0, .int x1, .int x2, .int x3, .int x4, .int x5, .int x6, .int x7, .int x8, .int (x9 + 1), .int x10, .int x11, .int x12, .int x13, .int (s0 + s1)] [] h Q)) else (wq d 310 101 [.ref x0, .int x1, .int x2, .int x3, .int x4, .int x5, .int x9, .int x13, .int (s0 + s1), .int (x9 + 1), .int x10, .int x11, .int x12, .int x13, .int (s0 + s1)] [] h Q)))) : wq d 310 165 [.ref x0, .int x1, .int x2, .int x3, .int x4, .int x5, .int x6, .int x7, .int x8, .int x9, .int x10, .int x11, .int x12, .int x13, .retAddr 0] [.int s1, .int s0] h Q := by
  refine g10 c_310_165 ?_
  refine g6 (L' := [.ref x0, .int x1, .int x2, .int x3, .int x4, .int x5, .int x6, .int x7, .int x8, .int x9, .int x10, .int x11, .int x12, .int x13, .int (s0 + s1)]) c_310_166 rfl ?_
  refine g3 c_310_168 rfl ?_
  refine gif c_310_170 (gbr t rfl rfl (fun hc t => ?_) (fun hc t => ?_))
  · refine g3 c_310_197 rfl ?_
    refine g6 (L' := [.ref x0, .int x1, .int x2, .int x3, .int x4, .int x5, .int x9, .int x7, .int x8, .int x9, .int x10, .int x11, .int x12, .int x13, .int (s0 + s1)]) c_310_199 rfl ?_
    refine g3 c_310_201 rfl ?_
    refine g6 (L' := [.ref x0, .int x1, .int x2, .int x3, .int x4, .int x5, .int x9, .int x13, .int x8, .int x9, .int x10, .int x11, .int x12, .int x13, .int (s0 + s1)]) c_310_203 rfl ?_
    refine g3 c_310_205 rfl ?_
    refine g6 (L' := [.ref x0, .int x1, .int x2, .int x3, .int x4, .int x5, .int x9, .int x13, .int (s0 + s1), .int x9, .int x10, .int x11, .int x12, .int x13, .int (s0 + s1)]) c_310_207 rfl ?_
    refine g9 (L' := [.ref x0, .int x1, .int x2, .int x3, .int x4, .int x5, .int x9, .int x13, .int (s0 + s1), .int (x9 + 1), .int x10, .int x11, .int x12, .int x13, .int (s0 + s1)]) c_310_209 rfl k_1 rfl ?_
    refine g38 c_310_212 rfl ?_
    exact t
  · refine g3 c_310_173 rfl ?_
    refine g3 c_310_175 rfl ?_
    refine gcm c_310_177 (gbr t rfl rfl (fun hc t => ?_) (fun hc t => ?_))
    · refine g9 (L' := [.ref x0, .int x1, .int x2, .int x3, .int x4, .int x5, .int x6, .int x7, .int x8, .int (x9 + 1), .int x10, .int x11, .int x12, .int x13, .int (s0 + s1)]) c_310_209 rfl k_1 rfl ?_
      refine g38 c_310_212 rfl ?_
      exact t
    · refine g3 c_310_180 rfl ?_
      refine g3 c_310_182 rfl ?_
      refine gcm c_310_184 (gbn t (ab_c1 _ _) rfl (fun hc t => ?_) (fun hc t => ?_))
      · refine g3 c_310_187 rfl ?_
        refine g3 c_310_189 rfl ?_
        refine gcm c_310_191 (gbr t rfl rfl (fun hc t => ?_) (fun hc t => ?_))
        · refine g3 c_310_197 rfl ?_
          refine g6 (L' := [.ref x0, .int x1, .int x2, .int x3, .int x4, .int x5, .int x9, .int x7, .int x8, .int x9, .int x10, .int x11, .int x12, .int x13, .int (s0 + s1)]) c_310_199 rfl ?_
          refine g3 c_310_201 rfl ?_
          refine g6 (L' := [.ref x0, .int x1, .int x2, .int x3, .int x4, .int x5, .int x9, .int x13, .int x8, .int x9, .int x10, .int x11, .int x12, .int x13, .int (s0 + s1)]) c_310_203 rfl ?_
          refine g3 c_310_205 rfl ?_
          refine g6 (L' := [.ref x0, .int x1, .int x2, .int x3, .int x4, .int x5, .int x9, .int x13, .int (s0 + s1), .int x9, .int x10, .int x11, .int x12, .int x13, .int (s0 + s1)]) c_310_207 rfl ?_
          refine g9 (L' := [.ref x0, .int x1, .int x2, .int x3, .int x4, .int x5, .int x9, .int x13, .int (s0 + s1), .int (x9 + 1), .int x10, .int x11, .int x12, .int x13, .int (s0 + s1)]) c_310_209 rfl k_1 rfl ?_
          refine g38 c_310_212 rfl ?_
          exact t
        · refine g38 c_310_194 rfl ?_
          refine g9 (L' := [.ref x0, .int x1, .int x2, .int x3, .int x4, .int x5, .int x6, .int x7, .int x8, .int (x9 + 1), .int x10, .int x11, .int x12, .int x13, .int (s0 + s1)]) c_310_209 rfl k_1 rfl ?_
          refine g38 c_310_212 rfl ?_
          exact t
      · refine g3 c_310_197 rfl ?_
        refine g6 (L' := [.ref x0, .int x1, .int x2, .int x3, .int x4, .int x5, .int x9, .int x7, .int x8, .int x9, .int x10, .int x11, .int x12, .int x13, .int (s0 + s1)]) c_310_199 rfl ?_
        refine g3 c_310_201 rfl ?_
        refine g6 (L' := [.ref x0, .int x1, .int x2, .int x3, .int x4, .int x5, .int x9, .int x13, .int x8, .int x9, .int x10, .int x11, .int x12, .int x13, .int (s0 + s1)]) c_310_203 rfl ?_
        refine g3 c_310_205 rfl ?_
        refine g6 (L' := [.ref x0, .int x1, .int x2, .int x3, .int x4, .int x5, .int x9, .int x13, .int (s0 + s1), .int x9, .int x10, .int x11, .int x12, .int x13, .int (s0 + s1)]) c_310_207 rfl ?_
        refine g9 (L' := [.ref x0, .int x1, .int x2, .int x3, .int x4, .int x5, .int x9, .int x13, .int (s0 + s1), .int (x9 + 1), .int x10, .int x11, .int x12, .int x13, .int (s0 + s1)]) c_310_209 rfl k_1 rfl ?_
        refine g38 c_310_212 rfl ?_
        exact t
-- method 311: MillTownModel.proof(II)Z
theorem c_311_0 : pg_cd 311 0 = (3, 1, 0, 1, 0) := by decide +kernel
theorem c_311_1 : pg_cd 311 1 = (81, 204, 80, 0, 0) := by decide +kernel
theorem c_311_4 : pg_cd 311 4 = (36, 3, 0, 0, 30) := by decide +kernel
theorem c_311_7 : pg_cd 311 7 = (3, 1, 0, 2, 0) := by decide +kernel
theorem c_311_8 : pg_cd 311 8 = (81, 204, 80, 0, 0) := by decide +kernel
theorem c_311_11 : pg_cd 311 11 = (36, 3, 0, 0, 23) := by decide +kernel
theorem c_311_14 : pg_cd 311 14 = (5, 1, 0, 0, 0) := by decide +kernel
theorem c_311_15 : pg_cd 311 15 = (3, 1, 0, 1, 0) := by decide +kernel
theorem c_311_16 : pg_cd 311 16 = (1, 2, 0, 0, 6) := by decide +kernel
theorem c_311_18 : pg_cd 311 18 = (80, 197, 85, 0, 0) := by decide +kernel
theorem c_311_21 : pg_cd 311 21 = (36, 3, 0, 2, 13) := by decide +kernel
theorem c_311_24 : pg_cd 311 24 = (5, 1, 0, 0, 0) := by decide +kernel
theorem c_311_25 : pg_cd 311 25 = (3, 1, 0, 2, 0) := by decide +kernel
theorem c_311_26 : pg_cd 311 26 = (1, 2, 0, 0, 6) := by decide +kernel
theorem c_311_28 : pg_cd 311 28 = (80, 197, 85, 0, 0) := by decide +kernel
theorem c_311_31 : pg_cd 311 31 = (36, 3, 0, 3, 5) := by decide +kernel
theorem c_311_34 : pg_cd 311 34 = (1, 1, 0, 0, 0) := by decide +kernel
theorem c_311_35 : pg_cd 311 35 = (91, 0, 0, 0, 0) := by decide +kernel
theorem c_311_36 : pg_cd 311 36 = (5, 1, 0, 0, 0) := by decide +kernel
theorem c_311_37 : pg_cd 311 37 = (3, 1, 0, 1, 0) := by decide +kernel
theorem c_311_38 : pg_cd 311 38 = (1, 1, 0, 0, 1) := by decide +kernel
theorem c_311_39 : pg_cd 311 39 = (80, 197, 85, 0, 0) := by decide +kernel
theorem c_311_42 : pg_cd 311 42 = (5, 1, 0, 0, 0) := by decide +kernel
theorem c_311_43 : pg_cd 311 43 = (3, 1, 0, 2, 0) := by decide +kernel
theorem c_311_44 : pg_cd 311 44 = (1, 1, 0, 0, 1) := by decide +kernel
theorem c_311_45 : pg_cd 311 45 = (80, 197, 85, 0, 0) := by decide +kernel
theorem c_311_48 : pg_cd 311 48 = (37, 3, 0, 2, 39) := by decide +kernel
theorem c_311_51 : pg_cd 311 51 = (5, 1, 0, 0, 0) := by decide +kernel
theorem c_311_52 : pg_cd 311 52 = (3, 1, 0, 1, 0) := by decide +kernel
theorem c_311_53 : pg_cd 311 53 = (1, 1, 0, 0, 2) := by decide +kernel
theorem c_311_54 : pg_cd 311 54 = (80, 197, 85, 0, 0) := by decide +kernel
theorem c_311_57 : pg_cd 311 57 = (5, 1, 0, 0, 0) := by decide +kernel
theorem c_311_58 : pg_cd 311 58 = (3, 1, 0, 2, 0) := by decide +kernel
theorem c_311_59 : pg_cd 311 59 = (1, 1, 0, 0, 2) := by decide +kernel
theorem c_311_60 : pg_cd 311 60 = (80, 197, 85, 0, 0) := by decide +kernel
theorem c_311_63 : pg_cd 311 63 = (37, 3, 0, 2, 24) := by decide +kernel
theorem c_311_66 : pg_cd 311 66 = (5, 1, 0, 0, 0) := by decide +kernel
theorem c_311_67 : pg_cd 311 67 = (3, 1, 0, 1, 0) := by decide +kernel
theorem c_311_68 : pg_cd 311 68 = (1, 2, 0, 0, 6) := by decide +kernel
theorem c_311_70 : pg_cd 311 70 = (80, 197, 85, 0, 0) := by decide +kernel
theorem c_311_73 : pg_cd 311 73 = (5, 1, 0, 0, 0) := by decide +kernel
theorem c_311_74 : pg_cd 311 74 = (3, 1, 0, 2, 0) := by decide +kernel
theorem c_311_75 : pg_cd 311 75 = (1, 2, 0, 0, 6) := by decide +kernel
theorem c_311_77 : pg_cd 311 77 = (80, 197, 85, 0, 0) := by decide +kernel
theorem c_311_80 : pg_cd 311 80 = (37, 3, 0, 3, 7) := by decide +kernel
theorem c_311_83 : pg_cd 311 83 = (1, 1, 0, 0, 1) := by decide +kernel
theorem c_311_84 : pg_cd 311 84 = (38, 3, 0, 0, 4) := by decide +kernel
theorem c_311_87 : pg_cd 311 87 = (1, 1, 0, 0, 0) := by decide +kernel
theorem c_311_88 : pg_cd 311 88 = (91, 0, 0, 0, 0) := by decide +kernel
theorem mx_311 : pg_mx 311 = 3 := by decide +kernel
theorem m_311 {d : Nat} {h : ab_H} {Q : Option Value → ab_H → Prop} {x0 : Nat} {x1 : Int32} {x2 : Int32} (t : wq d 311 0 [.ref x0, .int x1, .int x2] [] h Q) : wm d 311 [.ref x0, .int x1, .int x2] h Q := by
  unfold wm
  rw [mx_311]
  exact t
set_option maxRecDepth 20000 in
theorem t_311_0 {d : Nat} {h : ab_H} {Q : Option Value → ab_H → Prop} {x0 : Nat} {x1 : Int32} {x2 : Int32} (t : wm d 204 [.int x1] h (fun r9 h9 => wq (d + 1) 311 4 [.ref x0, .int x1, .int x2] (r9.toList ++ []) h9 Q)) : wq (d + 1) 311 0 [.ref x0, .int x1, .int x2] [] h Q := by
  refine g3 c_311_0 rfl ?_
  exact g81 (As := [.int x1]) (rest := []) c_311_1 rfl rfl (Nat.le_of_ble_eq_true rfl) (Nat.le_of_ble_eq_true rfl) t
set_option maxRecDepth 20000 in
theorem t_311_4 {d : Nat} {h : ab_H} {Q : Option Value → ab_H → Prop} {x0 : Nat} {x1 : Int32} {x2 : Int32} {s0 : Int32} (t : if s0 = 0 then (Q (some (.int 0)) h) else (wm d 204 [.int x2] h (fun r9 h9 => wq (d + 1) 311 11 [.ref x0, .int x1, .int x2] (r9.toList ++ []) h9 Q))) : wq (d + 1) 311 4 [.ref x0, .int x1, .int x2] [.int s0] h Q := by
  refine gif c_311_4 (gbr t rfl rfl (fun hc t => ?_) (fun hc t => ?_))
  · refine g1 c_311_34 k_0 ?_
    exact g91 c_311_35 ⟨by decide, t⟩
  · refine g3 c_311_7 rfl ?_
    exact g81 (As := [.int x2]) (rest := []) c_311_8 rfl rfl (Nat.le_of_ble_eq_true rfl) (Nat.le_of_ble_eq_true rfl) t
set_option maxRecDepth 20000 in
theorem t_311_11 {d : Nat} {h : ab_H} {Q : Option Value → ab_H → Prop} {x0 : Nat} {x1 : Int32} {x2 : Int32} {s0 : Int32} (t : if s0 = 0 then (Q (some (.int 0)) h) else (ab_ok h x0 112 = true ∧ wm d 197 [.ref x0, .int x1, .int 6] h (fun r9 h9 => wq (d + 1) 311 21 [.ref x0, .int x1, .int x2] (r9.toList ++ []) h9 Q))) : wq (d + 1) 311 11 [.ref x0, .int x1, .int x2] [.int s0] h Q := by
  refine gif c_311_11 (gbr t rfl rfl (fun hc t => ?_) (fun hc t => ?_))
  · refine g1 c_311_34 k_0 ?_
    exact g91 c_311_35 ⟨by decide, t⟩
  · refine g5 c_311_14 rfl ?_
    refine g3 c_311_15 rfl ?_
    refine g1 c_311_16 k_6 ?_
    exact g80 (As := [.int x1, .int 6]) (rest := []) c_311_18 rfl rfl (Nat.le_of_ble_eq_true rfl) (Nat.le_of_ble_eq_true rfl) t.1 t.2
set_option maxRecDepth 20000 in
theorem t_311_21 {d : Nat} {h : ab_H} {Q : Option Value → ab_H → Prop} {x0 : Nat} {x1 : Int32} {x2 : Int32} {s0 : Int32} (t : if s0 < 0 then (Q (some (.int 0)) h) else (ab_ok h x0 112 = true ∧ wm d 197 [.ref x0, .int x2, .int 6] h (fun r9 h9 => wq (d + 1) 311 31 [.ref x0, .int x1, .int x2] (r9.toList ++ []) h9 Q))) : wq (d + 1) 311 21 [.ref x0, .int x1, .int x2] [.int s0] h Q := by
  refine gif c_311_21 (gbr t rfl rfl (fun hc t => ?_) (fun hc t => ?_))
  · refine g1 c_311_34 k_0 ?_
    exact g91 c_311_35 ⟨by decide, t⟩
  · refine g5 c_311_24 rfl ?_
    refine g3 c_311_25 rfl ?_
    refine g1 c_311_26 k_6 ?_
    exact g80 (As := [.int x2, .int 6]) (rest := []) c_311_28 rfl rfl (Nat.le_of_ble_eq_true rfl) (Nat.le_of_ble_eq_true rfl) t.1 t.2
set_option maxRecDepth 20000 in
theorem t_311_31 {d : Nat} {h : ab_H} {Q : Option Value → ab_H → Prop} {x0 : Nat} {x1 : Int32} {x2 : Int32} {s0 : Int32} (t : if 0 ≤ s0 then (ab_ok h x0 112 = true ∧ wm d 197 [.ref x0, .int x1, .int 1] h (fun r9 h9 => wq (d + 1) 311 42 [.ref x0, .int x1, .int x2] (r9.toList ++ []) h9 Q)) else (Q (some (.int 0)) h)) : wq (d + 1) 311 31 [.ref x0, .int x1, .int x2] [.int s0] h Q := by
  refine gif c_311_31 (gbr t rfl rfl (fun hc t => ?_) (fun hc t => ?_))
  · refine g5 c_311_36 rfl ?_
    refine g3 c_311_37 rfl ?_
    refine g1 c_311_38 k_1 ?_
    exact g80 (As := [.int x1, .int 1]) (rest := []) c_311_39 rfl rfl (Nat.le_of_ble_eq_true rfl) (Nat.le_of_ble_eq_true rfl) t.1 t.2
  · refine g1 c_311_34 k_0 ?_
    exact g91 c_311_35 ⟨by decide, t⟩
set_option maxRecDepth 20000 in
theorem t_311_42 {d : Nat} {h : ab_H} {Q : Option Value → ab_H → Prop} {x0 : Nat} {x1 : Int32} {x2 : Int32} {s0 : Int32} (t : ab_ok h x0 112 = true ∧ wm d 197 [.ref x0, .int x2, .int 1] h (fun r9 h9 => wq (d + 1) 311 48 [.ref x0, .int x1, .int x2] (r9.toList ++ [.int s0]) h9 Q)) : wq (d + 1) 311 42 [.ref x0, .int x1, .int x2] [.int s0] h Q := by
  refine g5 c_311_42 rfl ?_
  refine g3 c_311_43 rfl ?_
  refine g1 c_311_44 k_1 ?_
  exact g80 (As := [.int x2, .int 1]) (rest := [.int s0]) c_311_45 rfl rfl (Nat.le_of_ble_eq_true rfl) (Nat.le_of_ble_eq_true rfl) t.1 t.2
set_option maxRecDepth 20000 in
theorem t_311_48 {d : Nat} {h : ab_H} {Q : Option Value → ab_H → Prop} {x0 : Nat} {x1 : Int32} {x2 : Int32} {s0 : Int32} {s1 : Int32} (t : if s0 < s1 then (Q (some (.int 0)) h) else (ab_ok h x0 112 = true ∧ wm d 197 [.ref x0, .int x1, .int 2] h (fun r9 h9 => wq (d + 1) 311 57 [.ref x0, .int x1, .int x2] (r9.toList ++ []) h9 Q))) : wq (d + 1) 311 48 [.ref x0, .int x1, .int x2] [.int s1, .int s0] h Q := by
  refine gcm c_311_48 (gbr t rfl rfl (fun hc t => ?_) (fun hc t => ?_))
  · refine g1 c_311_87 k_0 ?_
    exact g91 c_311_88 ⟨by decide, t⟩
  · refine g5 c_311_51 rfl ?_
    refine g3 c_311_52 rfl ?_
    refine g1 c_311_53 k_2 ?_
    exact g80 (As := [.int x1, .int 2]) (rest := []) c_311_54 rfl rfl (Nat.le_of_ble_eq_true rfl) (Nat.le_of_ble_eq_true rfl) t.1 t.2
set_option maxRecDepth 20000 in
theorem t_311_57 {d : Nat} {h : ab_H} {Q : Option Value → ab_H → Prop} {x0 : Nat} {x1 : Int32} {x2 : Int32} {s0 : Int32} (t : ab_ok h x0 112 = true ∧ wm d 197 [.ref x0, .int x2, .int 2] h (fun r9 h9 => wq (d + 1) 311 63 [.ref x0, .int x1, .int x2] (r9.toList ++ [.int s0]) h9 Q)) : wq (d + 1) 311 57 [.ref x0, .int x1, .int x2] [.int s0] h Q := by
  refine g5 c_311_57 rfl ?_
  refine g3 c_311_58 rfl ?_
  refine g1 c_311_59 k_2 ?_
  exact g80 (As := [.int x2, .int 2]) (rest := [.int s0]) c_311_60 rfl rfl (Nat.le_of_ble_eq_true rfl) (Nat.le_of_ble_eq_true rfl) t.1 t.2
set_option maxRecDepth 20000 in
theorem t_311_63 {d : Nat} {h : ab_H} {Q : Option Value → ab_H → Prop} {x0 : Nat} {x1 : Int32} {x2 : Int32} {s0 : Int32} {s1 : Int32} (t : if s0 < s1 then (Q (some (.int 0)) h) else (ab_ok h x0 112 = true ∧ wm d 197 [.ref x0, .int x1, .int 6] h (fun r9 h9 => wq (d + 1) 311 73 [.ref x0, .int x1, .int x2] (r9.toList ++ []) h9 Q))) : wq (d + 1) 311 63 [.ref x0, .int x1, .int x2] [.int s1, .int s0] h Q := by
  refine gcm c_311_63 (gbr t rfl rfl (fun hc t => ?_) (fun hc t => ?_))
  · refine g1 c_311_87 k_0 ?_
    exact g91 c_311_88 ⟨by decide, t⟩
  · refine g5 c_311_66 rfl ?_
    refine g3 c_311_67 rfl ?_
    refine g1 c_311_68 k_6 ?_
    exact g80 (As := [.int x1, .int 6]) (rest := []) c_311_70 rfl rfl (Nat.le_of_ble_eq_true rfl) (Nat.le_of_ble_eq_true rfl) t.1 t.2
set_option maxRecDepth 20000 in
theorem t_311_73 {d : Nat} {h : ab_H} {Q : Option Value → ab_H → Prop} {x0 : Nat} {x1 : Int32} {x2 : Int32} {s0 : Int32} (t : ab_ok h x0 112 = true ∧ wm d 197 [.ref x0, .int x2, .int 6] h (fun r9 h9 => wq (d + 1) 311 80 [.ref x0, .int x1, .int x2] (r9.toList ++ [.int s0]) h9 Q)) : wq (d + 1) 311 73 [.ref x0, .int x1, .int x2] [.int s0] h Q := by
  refine g5 c_311_73 rfl ?_
  refine g3 c_311_74 rfl ?_
  refine g1 c_311_75 k_6 ?_
  exact g80 (As := [.int x2, .int 6]) (rest := [.int s0]) c_311_77 rfl rfl (Nat.le_of_ble_eq_true rfl) (Nat.le_of_ble_eq_true rfl) t.1 t.2
set_option maxRecDepth 20000 in
theorem t_311_80 {d : Nat} {h : ab_H} {Q : Option Value → ab_H → Prop} {x0 : Nat} {x1 : Int32} {x2 : Int32} {s0 : Int32} {s1 : Int32} (t : if s1 ≤ s0 then (Q (some (.int 0)) h) else (Q (some (.int 1)) h)) : wq d 311 80 [.ref x0, .int x1, .int x2] [.int s1, .int s0] h Q := by
  refine gcm c_311_80 (gbr t rfl rfl (fun hc t => ?_) (fun hc t => ?_))
  · refine g1 c_311_87 k_0 ?_
    exact g91 c_311_88 ⟨by decide, t⟩
  · refine g1 c_311_83 k_1 ?_
    refine g38 c_311_84 rfl ?_
    exact g91 c_311_88 ⟨by decide, t⟩
-- method 312: MillTownModel.shareOf(II)V
theorem c_312_0 : pg_cd 312 0 = (5, 1, 0, 0, 0) := by decide +kernel
theorem c_312_1 : pg_cd 312 1 = (45, 12, 8, 0, 0) := by decide +kernel
theorem c_312_4 : pg_cd 312 4 = (1, 1, 0, 0, 0) := by decide +kernel
theorem c_312_5 : pg_cd 312 5 = (50, 1, 0, 0, 0) := by decide +kernel
theorem c_312_6 : pg_cd 312 6 = (6, 1, 0, 3, 0) := by decide +kernel
theorem c_312_7 : pg_cd 312 7 = (5, 1, 0, 0, 0) := by decide +kernel
theorem c_312_8 : pg_cd 312 8 = (3, 1, 0, 1, 0) := by decide +kernel
theorem c_312_9 : pg_cd 312 9 = (1, 2, 0, 0, 7) := by decide +kernel
theorem c_312_11 : pg_cd 312 11 = (80, 198, 118, 0, 0) := by decide +kernel
theorem c_312_14 : pg_cd 312 14 = (6, 2, 0, 4, 0) := by decide +kernel
theorem c_312_16 : pg_cd 312 16 = (1, 1, 0, 0, 3) := by decide +kernel
theorem c_312_17 : pg_cd 312 17 = (3, 1, 0, 1, 0) := by decide +kernel
theorem c_312_18 : pg_cd 312 18 = (12, 1, 0, 0, 0) := by decide +kernel
theorem c_312_19 : pg_cd 312 19 = (3, 1, 0, 2, 0) := by decide +kernel
theorem c_312_20 : pg_cd 312 20 = (10, 1, 0, 0, 0) := by decide +kernel
theorem c_312_21 : pg_cd 312 21 = (6, 2, 0, 5, 0) := by decide +kernel
theorem c_312_23 : pg_cd 312 23 = (1, 1, 0, 0, 0) := by decide +kernel
theorem c_312_24 : pg_cd 312 24 = (6, 2, 0, 6, 0) := by decide +kernel
theorem c_312_26 : pg_cd 312 26 = (1, 1, 0, 0, 0) := by decide +kernel
theorem c_312_27 : pg_cd 312 27 = (6, 2, 0, 7, 0) := by decide +kernel
theorem c_312_29 : pg_cd 312 29 = (3, 2, 0, 7, 0) := by decide +kernel
theorem c_312_31 : pg_cd 312 31 = (1, 2, 0, 0, 24) := by decide +kernel
theorem c_312_33 : pg_cd 312 33 = (37, 3, 0, 3, 23) := by decide +kernel
theorem c_312_36 : pg_cd 312 36 = (5, 1, 0, 0, 0) := by decide +kernel
theorem c_312_37 : pg_cd 312 37 = (45, 12, 56, 35, 0) := by decide +kernel
theorem c_312_40 : pg_cd 312 40 = (1, 2, 0, 0, 24) := by decide +kernel
theorem c_312_42 : pg_cd 312 42 = (3, 2, 0, 5, 0) := by decide +kernel
theorem c_312_44 : pg_cd 312 44 = (12, 1, 0, 0, 0) := by decide +kernel
theorem c_312_45 : pg_cd 312 45 = (3, 2, 0, 7, 0) := by decide +kernel
theorem c_312_47 : pg_cd 312 47 = (10, 1, 0, 0, 0) := by decide +kernel
theorem c_312_48 : pg_cd 312 48 = (2, 1, 0, 0, 0) := by decide +kernel
theorem c_312_49 : pg_cd 312 49 = (56, 1, 0, 0, 0) := by decide +kernel
theorem c_312_50 : pg_cd 312 50 = (9, 3, 0, 7, 1) := by decide +kernel
theorem c_312_53 : pg_cd 312 53 = (38, 3, 0, 0, (-24)) := by decide +kernel
theorem c_312_56 : pg_cd 312 56 = (5, 1, 0, 0, 0) := by decide +kernel
theorem c_312_57 : pg_cd 312 57 = (45, 12, 53, 34, 0) := by decide +kernel
theorem c_312_60 : pg_cd 312 60 = (3, 2, 0, 5, 0) := by decide +kernel
theorem c_312_62 : pg_cd 312 62 = (1, 1, 0, 0, 0) := by decide +kernel
theorem c_312_63 : pg_cd 312 63 = (54, 1, 0, 0, 0) := by decide +kernel
theorem c_312_64 : pg_cd 312 64 = (3, 1, 0, 2, 0) := by decide +kernel
theorem c_312_65 : pg_cd 312 65 = (36, 3, 0, 1, 4) := by decide +kernel
theorem c_312_68 : pg_cd 312 68 = (94, 0, 0, 0, 0) := by decide +kernel
theorem c_312_69 : pg_cd 312 69 = (3, 2, 0, 4, 0) := by decide +kernel
theorem c_312_71 : pg_cd 312 71 = (36, 3, 0, 3, 7) := by decide +kernel
theorem c_312_74 : pg_cd 312 74 = (1, 1, 0, 0, 0) := by decide +kernel
theorem c_312_75 : pg_cd 312 75 = (38, 3, 0, 0, 12) := by decide +kernel
theorem c_312_78 : pg_cd 312 78 = (5, 1, 0, 0, 0) := by decide +kernel
theorem c_312_79 : pg_cd 312 79 = (3, 2, 0, 4, 0) := by decide +kernel
theorem c_312_81 : pg_cd 312 81 = (3, 1, 0, 1, 0) := by decide +kernel
theorem c_312_82 : pg_cd 312 82 = (3, 1, 0, 3, 0) := by decide +kernel
theorem c_312_83 : pg_cd 312 83 = (3, 1, 0, 3, 0) := by decide +kernel
theorem c_312_84 : pg_cd 312 84 = (80, 271, 337, 0, 0) := by decide +kernel
theorem c_312_87 : pg_cd 312 87 = (6, 2, 0, 7, 0) := by decide +kernel
theorem c_312_89 : pg_cd 312 89 = (1, 1, 0, 0, 0) := by decide +kernel
theorem c_312_90 : pg_cd 312 90 = (6, 2, 0, 8, 0) := by decide +kernel
theorem c_312_92 : pg_cd 312 92 = (3, 2, 0, 8, 0) := by decide +kernel
theorem c_312_94 : pg_cd 312 94 = (5, 1, 0, 0, 0) := by decide +kernel
theorem c_312_95 : pg_cd 312 95 = (45, 12, 8, 0, 0) := by decide +kernel
theorem c_312_98 : pg_cd 312 98 = (1, 1, 0, 0, 4) := by decide +kernel
theorem c_312_99 : pg_cd 312 99 = (50, 1, 0, 0, 0) := by decide +kernel
theorem c_312_100 : pg_cd 312 100 = (37, 3, 0, 3, 283) := by decide +kernel
theorem c_312_103 : pg_cd 312 103 = (5, 1, 0, 0, 0) := by decide +kernel
theorem c_312_104 : pg_cd 312 104 = (3, 2, 0, 8, 0) := by decide +kernel
theorem c_312_106 : pg_cd 312 106 = (1, 1, 0, 0, 4) := by decide +kernel
theorem c_312_107 : pg_cd 312 107 = (80, 199, 102, 0, 0) := by decide +kernel
theorem c_312_110 : pg_cd 312 110 = (3, 1, 0, 1, 0) := by decide +kernel
theorem c_312_111 : pg_cd 312 111 = (37, 3, 0, 0, 6) := by decide +kernel
theorem c_312_114 : pg_cd 312 114 = (38, 3, 0, 0, 263) := by decide +kernel
theorem c_312_117 : pg_cd 312 117 = (5, 1, 0, 0, 0) := by decide +kernel
theorem c_312_118 : pg_cd 312 118 = (5, 1, 0, 0, 0) := by decide +kernel
theorem c_312_119 : pg_cd 312 119 = (3, 2, 0, 8, 0) := by decide +kernel
theorem c_312_121 : pg_cd 312 121 = (1, 1, 0, 0, 1) := by decide +kernel
theorem c_312_122 : pg_cd 312 122 = (80, 199, 102, 0, 0) := by decide +kernel
theorem c_312_125 : pg_cd 312 125 = (3, 1, 0, 1, 0) := by decide +kernel
theorem c_312_126 : pg_cd 312 126 = (3, 1, 0, 3, 0) := by decide +kernel
theorem c_312_127 : pg_cd 312 127 = (3, 1, 0, 3, 0) := by decide +kernel
theorem c_312_128 : pg_cd 312 128 = (80, 276, 343, 0, 0) := by decide +kernel
theorem c_312_131 : pg_cd 312 131 = (6, 2, 0, 9, 0) := by decide +kernel
theorem c_312_133 : pg_cd 312 133 = (3, 1, 0, 2, 0) := by decide +kernel
theorem c_312_134 : pg_cd 312 134 = (1, 1, 0, 0, 1) := by decide +kernel
theorem c_312_135 : pg_cd 312 135 = (37, 3, 0, 1, 9) := by decide +kernel
theorem c_312_138 : pg_cd 312 138 = (3, 2, 0, 9, 0) := by decide +kernel
theorem c_312_140 : pg_cd 312 140 = (1, 1, 0, 0, 2) := by decide +kernel
theorem c_312_141 : pg_cd 312 141 = (16, 1, 0, 0, 0) := by decide +kernel
theorem c_312_142 : pg_cd 312 142 = (6, 2, 0, 9, 0) := by decide +kernel
theorem c_312_144 : pg_cd 312 144 = (3, 2, 0, 4, 0) := by decide +kernel
theorem c_312_146 : pg_cd 312 146 = (36, 3, 0, 2, 13) := by decide +kernel
theorem c_312_149 : pg_cd 312 149 = (5, 1, 0, 0, 0) := by decide +kernel
theorem c_312_150 : pg_cd 312 150 = (3, 2, 0, 8, 0) := by decide +kernel
theorem c_312_152 : pg_cd 312 152 = (3, 1, 0, 1, 0) := by decide +kernel
theorem c_312_153 : pg_cd 312 153 = (80, 279, 346, 0, 0) := by decide +kernel
theorem c_312_156 : pg_cd 312 156 = (36, 3, 0, 1, 7) := by decide +kernel
theorem c_312_159 : pg_cd 312 159 = (1, 1, 0, 0, 0) := by decide +kernel
theorem c_312_160 : pg_cd 312 160 = (38, 3, 0, 0, 27) := by decide +kernel
theorem c_312_163 : pg_cd 312 163 = (5, 1, 0, 0, 0) := by decide +kernel
theorem c_312_164 : pg_cd 312 164 = (3, 2, 0, 8, 0) := by decide +kernel
theorem c_312_166 : pg_cd 312 166 = (1, 2, 0, 0, 7) := by decide +kernel
theorem c_312_168 : pg_cd 312 168 = (80, 199, 102, 0, 0) := by decide +kernel
theorem c_312_171 : pg_cd 312 171 = (5, 1, 0, 0, 0) := by decide +kernel
theorem c_312_172 : pg_cd 312 172 = (3, 2, 0, 8, 0) := by decide +kernel
theorem c_312_174 : pg_cd 312 174 = (3, 2, 0, 9, 0) := by decide +kernel
theorem c_312_176 : pg_cd 312 176 = (80, 280, 349, 0, 0) := by decide +kernel
theorem c_312_179 : pg_cd 312 179 = (10, 1, 0, 0, 0) := by decide +kernel
theorem c_312_180 : pg_cd 312 180 = (5, 1, 0, 0, 0) := by decide +kernel
theorem c_312_181 : pg_cd 312 181 = (3, 2, 0, 4, 0) := by decide +kernel
theorem c_312_183 : pg_cd 312 183 = (80, 278, 352, 0, 0) := by decide +kernel
theorem c_312_186 : pg_cd 312 186 = (16, 1, 0, 0, 0) := by decide +kernel
theorem c_312_187 : pg_cd 312 187 = (6, 2, 0, 10, 0) := by decide +kernel
theorem c_312_189 : pg_cd 312 189 = (3, 2, 0, 6, 0) := by decide +kernel
theorem c_312_191 : pg_cd 312 191 = (3, 2, 0, 4, 0) := by decide +kernel
theorem c_312_193 : pg_cd 312 193 = (36, 3, 0, 2, 13) := by decide +kernel
theorem c_312_196 : pg_cd 312 196 = (5, 1, 0, 0, 0) := by decide +kernel
theorem c_312_197 : pg_cd 312 197 = (3, 2, 0, 8, 0) := by decide +kernel
theorem c_312_199 : pg_cd 312 199 = (3, 1, 0, 1, 0) := by decide +kernel
theorem c_312_200 : pg_cd 312 200 = (80, 279, 346, 0, 0) := by decide +kernel
theorem c_312_203 : pg_cd 312 203 = (36, 3, 0, 1, 7) := by decide +kernel
theorem c_312_206 : pg_cd 312 206 = (1, 1, 0, 0, 0) := by decide +kernel
theorem c_312_207 : pg_cd 312 207 = (38, 3, 0, 0, 39) := by decide +kernel
theorem c_312_210 : pg_cd 312 210 = (5, 1, 0, 0, 0) := by decide +kernel
theorem c_312_211 : pg_cd 312 211 = (3, 2, 0, 8, 0) := by decide +kernel
theorem c_312_213 : pg_cd 312 213 = (1, 2, 0, 0, 7) := by decide +kernel
theorem c_312_215 : pg_cd 312 215 = (80, 199, 102, 0, 0) := by decide +kernel
theorem c_312_218 : pg_cd 312 218 = (5, 1, 0, 0, 0) := by decide +kernel
theorem c_312_219 : pg_cd 312 219 = (3, 2, 0, 8, 0) := by decide +kernel
theorem c_312_221 : pg_cd 312 221 = (5, 1, 0, 0, 0) := by decide +kernel
theorem c_312_222 : pg_cd 312 222 = (5, 1, 0, 0, 0) := by decide +kernel
theorem c_312_223 : pg_cd 312 223 = (3, 2, 0, 8, 0) := by decide +kernel
theorem c_312_225 : pg_cd 312 225 = (1, 1, 0, 0, 1) := by decide +kernel
theorem c_312_226 : pg_cd 312 226 = (80, 199, 102, 0, 0) := by decide +kernel
theorem c_312_229 : pg_cd 312 229 = (3, 1, 0, 1, 0) := by decide +kernel
theorem c_312_230 : pg_cd 312 230 = (3, 1, 0, 3, 0) := by decide +kernel
theorem c_312_231 : pg_cd 312 231 = (3, 1, 0, 3, 0) := by decide +kernel
theorem c_312_232 : pg_cd 312 232 = (80, 276, 343, 0, 0) := by decide +kernel
theorem c_312_235 : pg_cd 312 235 = (80, 280, 349, 0, 0) := by decide +kernel
theorem c_312_238 : pg_cd 312 238 = (10, 1, 0, 0, 0) := by decide +kernel
theorem c_312_239 : pg_cd 312 239 = (5, 1, 0, 0, 0) := by decide +kernel
theorem c_312_240 : pg_cd 312 240 = (3, 2, 0, 4, 0) := by decide +kernel
theorem c_312_242 : pg_cd 312 242 = (80, 278, 352, 0, 0) := by decide +kernel
theorem c_312_245 : pg_cd 312 245 = (16, 1, 0, 0, 0) := by decide +kernel
theorem c_312_246 : pg_cd 312 246 = (10, 1, 0, 0, 0) := by decide +kernel
theorem c_312_247 : pg_cd 312 247 = (6, 2, 0, 6, 0) := by decide +kernel
theorem c_312_249 : pg_cd 312 249 = (5, 1, 0, 0, 0) := by decide +kernel
theorem c_312_250 : pg_cd 312 250 = (3, 2, 0, 8, 0) := by decide +kernel
theorem c_312_252 : pg_cd 312 252 = (1, 1, 0, 0, 3) := by decide +kernel
theorem c_312_253 : pg_cd 312 253 = (80, 199, 102, 0, 0) := by decide +kernel
theorem c_312_256 : pg_cd 312 256 = (1, 1, 0, 0, 3) := by decide +kernel
theorem c_312_257 : pg_cd 312 257 = (37, 3, 0, 2, 16) := by decide +kernel
theorem c_312_260 : pg_cd 312 260 = (3, 2, 0, 9, 0) := by decide +kernel
theorem c_312_262 : pg_cd 312 262 = (5, 1, 0, 0, 0) := by decide +kernel
theorem c_312_263 : pg_cd 312 263 = (3, 2, 0, 8, 0) := by decide +kernel
theorem c_312_265 : pg_cd 312 265 = (1, 1, 0, 0, 5) := by decide +kernel
theorem c_312_266 : pg_cd 312 266 = (80, 199, 102, 0, 0) := by decide +kernel
theorem c_312_269 : pg_cd 312 269 = (12, 1, 0, 0, 0) := by decide +kernel
theorem c_312_270 : pg_cd 312 270 = (38, 3, 0, 0, 8) := by decide +kernel
theorem c_312_273 : pg_cd 312 273 = (3, 2, 0, 10, 0) := by decide +kernel
theorem c_312_275 : pg_cd 312 275 = (3, 2, 0, 7, 0) := by decide +kernel
theorem c_312_277 : pg_cd 312 277 = (12, 1, 0, 0, 0) := by decide +kernel
theorem c_312_278 : pg_cd 312 278 = (6, 2, 0, 11, 0) := by decide +kernel
theorem c_312_280 : pg_cd 312 280 = (5, 1, 0, 0, 0) := by decide +kernel
theorem c_312_281 : pg_cd 312 281 = (3, 2, 0, 8, 0) := by decide +kernel
theorem c_312_283 : pg_cd 312 283 = (1, 1, 0, 0, 3) := by decide +kernel
theorem c_312_284 : pg_cd 312 284 = (80, 199, 102, 0, 0) := by decide +kernel
theorem c_312_287 : pg_cd 312 287 = (1, 1, 0, 0, 2) := by decide +kernel
theorem c_312_288 : pg_cd 312 288 = (37, 3, 0, 1, 10) := by decide +kernel
theorem c_312_291 : pg_cd 312 291 = (3, 2, 0, 11, 0) := by decide +kernel
theorem c_312_293 : pg_cd 312 293 = (1, 1, 0, 0, 3) := by decide +kernel
theorem c_312_294 : pg_cd 312 294 = (16, 1, 0, 0, 0) := by decide +kernel
theorem c_312_295 : pg_cd 312 295 = (38, 3, 0, 0, 5) := by decide +kernel
theorem c_312_298 : pg_cd 312 298 = (3, 2, 0, 11, 0) := by decide +kernel
theorem c_312_300 : pg_cd 312 300 = (6, 2, 0, 12, 0) := by decide +kernel
theorem c_312_302 : pg_cd 312 302 = (5, 1, 0, 0, 0) := by decide +kernel
theorem c_312_303 : pg_cd 312 303 = (45, 12, 56, 35, 0) := by decide +kernel
theorem c_312_306 : pg_cd 312 306 = (1, 2, 0, 0, 24) := by decide +kernel
theorem c_312_308 : pg_cd 312 308 = (3, 2, 0, 5, 0) := by decide +kernel
theorem c_312_310 : pg_cd 312 310 = (12, 1, 0, 0, 0) := by decide +kernel
theorem c_312_311 : pg_cd 312 311 = (5, 1, 0, 0, 0) := by decide +kernel
theorem c_312_312 : pg_cd 312 312 = (3, 2, 0, 8, 0) := by decide +kernel
theorem c_312_314 : pg_cd 312 314 = (1, 1, 0, 0, 0) := by decide +kernel
theorem c_312_315 : pg_cd 312 315 = (80, 199, 102, 0, 0) := by decide +kernel
theorem c_312_318 : pg_cd 312 318 = (10, 1, 0, 0, 0) := by decide +kernel
theorem c_312_319 : pg_cd 312 319 = (34, 1, 0, 0, 0) := by decide +kernel
theorem c_312_320 : pg_cd 312 320 = (52, 1, 0, 0, 0) := by decide +kernel
theorem c_312_321 : pg_cd 312 321 = (3, 2, 0, 12, 0) := by decide +kernel
theorem c_312_323 : pg_cd 312 323 = (31, 1, 0, 0, 0) := by decide +kernel
theorem c_312_324 : pg_cd 312 324 = (22, 1, 0, 0, 0) := by decide +kernel
theorem c_312_325 : pg_cd 312 325 = (56, 1, 0, 0, 0) := by decide +kernel
theorem c_312_326 : pg_cd 312 326 = (3, 2, 0, 12, 0) := by decide +kernel
theorem c_312_328 : pg_cd 312 328 = (3, 2, 0, 11, 0) := by decide +kernel
theorem c_312_330 : pg_cd 312 330 = (37, 3, 0, 2, 14) := by decide +kernel
theorem c_312_333 : pg_cd 312 333 = (5, 1, 0, 0, 0) := by decide +kernel
theorem c_312_334 : pg_cd 312 334 = (3, 2, 0, 8, 0) := by decide +kernel
theorem c_312_336 : pg_cd 312 336 = (1, 1, 0, 0, 3) := by decide +kernel
theorem c_312_337 : pg_cd 312 337 = (80, 199, 102, 0, 0) := by decide +kernel
theorem c_312_340 : pg_cd 312 340 = (1, 1, 0, 0, 2) := by decide +kernel
theorem c_312_341 : pg_cd 312 341 = (37, 3, 0, 1, 36) := by decide +kernel
theorem c_312_344 : pg_cd 312 344 = (5, 1, 0, 0, 0) := by decide +kernel
theorem c_312_345 : pg_cd 312 345 = (45, 12, 56, 35, 0) := by decide +kernel
theorem c_312_348 : pg_cd 312 348 = (1, 2, 0, 0, 24) := by decide +kernel
theorem c_312_350 : pg_cd 312 350 = (3, 2, 0, 5, 0) := by decide +kernel
theorem c_312_352 : pg_cd 312 352 = (12, 1, 0, 0, 0) := by decide +kernel
theorem c_312_353 : pg_cd 312 353 = (5, 1, 0, 0, 0) := by decide +kernel
theorem c_312_354 : pg_cd 312 354 = (5, 1, 0, 0, 0) := by decide +kernel
theorem c_312_355 : pg_cd 312 355 = (3, 2, 0, 8, 0) := by decide +kernel
theorem c_312_357 : pg_cd 312 357 = (1, 2, 0, 0, 6) := by decide +kernel
theorem c_312_359 : pg_cd 312 359 = (80, 199, 102, 0, 0) := by decide +kernel
theorem c_312_362 : pg_cd 312 362 = (1, 1, 0, 0, 0) := by decide +kernel
theorem c_312_363 : pg_cd 312 363 = (80, 199, 102, 0, 0) := by decide +kernel
theorem c_312_366 : pg_cd 312 366 = (10, 1, 0, 0, 0) := by decide +kernel
theorem c_312_367 : pg_cd 312 367 = (34, 1, 0, 0, 0) := by decide +kernel
theorem c_312_368 : pg_cd 312 368 = (52, 1, 0, 0, 0) := by decide +kernel
theorem c_312_369 : pg_cd 312 369 = (3, 2, 0, 11, 0) := by decide +kernel
theorem c_312_371 : pg_cd 312 371 = (3, 2, 0, 12, 0) := by decide +kernel
theorem c_312_373 : pg_cd 312 373 = (11, 1, 0, 0, 0) := by decide +kernel
theorem c_312_374 : pg_cd 312 374 = (31, 1, 0, 0, 0) := by decide +kernel
theorem c_312_375 : pg_cd 312 375 = (22, 1, 0, 0, 0) := by decide +kernel
theorem c_312_376 : pg_cd 312 376 = (56, 1, 0, 0, 0) := by decide +kernel
theorem c_312_377 : pg_cd 312 377 = (9, 3, 0, 8, 1) := by decide +kernel
theorem c_312_380 : pg_cd 312 380 = (38, 3, 0, 0, (-288)) := by decide +kernel
theorem c_312_383 : pg_cd 312 383 = (5, 1, 0, 0, 0) := by decide +kernel
theorem c_312_384 : pg_cd 312 384 = (45, 12, 53, 34, 0) := by decide +kernel
theorem c_312_387 : pg_cd 312 387 = (3, 2, 0, 5, 0) := by decide +kernel
theorem c_312_389 : pg_cd 312 389 = (3, 1, 0, 2, 0) := by decide +kernel
theorem c_312_390 : pg_cd 312 390 = (1, 1, 0, 0, 2) := by decide +kernel
theorem c_312_391 : pg_cd 312 391 = (37, 3, 0, 1, 8) := by decide +kernel
theorem c_312_394 : pg_cd 312 394 = (3, 2, 0, 6, 0) := by decide +kernel
theorem c_312_396 : pg_cd 312 396 = (38, 3, 0, 0, 7) := by decide +kernel
theorem c_312_399 : pg_cd 312 399 = (3, 2, 0, 6, 0) := by decide +kernel
theorem c_312_401 : pg_cd 312 401 = (1, 1, 0, 0, 2) := by decide +kernel
theorem c_312_402 : pg_cd 312 402 = (16, 1, 0, 0, 0) := by decide +kernel
theorem c_312_403 : pg_cd 312 403 = (54, 1, 0, 0, 0) := by decide +kernel
theorem c_312_404 : pg_cd 312 404 = (94, 0, 0, 0, 0) := by decide +kernel
theorem mx_312 : pg_mx 312 = 13 := by decide +kernel
theorem m_312 {d : Nat} {h : ab_H} {Q : Option Value → ab_H → Prop} {x0 : Nat} {x1 : Int32} {x2 : Int32} (t : wq d 312 0 [.ref x0, .int x1, .int x2, .retAddr 0, .retAddr 0, .retAddr 0, .retAddr 0, .retAddr 0, .retAddr 0, .retAddr 0, .retAddr 0, .retAddr 0, .retAddr 0] [] h Q) : wm d 312 [.ref x0, .int x1, .int x2] h Q := by
  unfold wm
  rw [mx_312]
  exact t
set_option maxRecDepth 20000 in
theorem t_312_0 {d : Nat} {h : ab_H} {Q : Option Value → ab_H → Prop} {x0 : Nat} {x1 : Int32} {x2 : Int32} (t : ab_ok h x0 112 = true ∧ ∃ j1 : Nat, ab_r h x0 0 = some j1 ∧ ((j1 = 0 ∨ ab_ok h j1 0 = true) ∧ ab_in (0 : Int32) (ab_s h j1).2 = true) ∧ ∀ y2 : Int32, y2 = (ab_i h j1 (Int32.toNatClampNeg (0 : Int32))) → ab_ok h x0 112 = true ∧ wm d 198 [.ref x0, .int x1, .int 7] h (fun r9 h9 => wq (d + 1) 312 14 [.ref x0, .int x1, .int x2, .int y2, .retAddr 0, .retAddr 0, .retAddr 0, .retAddr 0, .retAddr 0, .retAddr 0, .retAddr 0, .retAddr 0, .retAddr 0] (r9.toList ++ []) h9 Q)) : wq (d + 1) 312 0 [.ref x0, .int x1, .int x2, .retAddr 0, .retAddr 0, .retAddr 0, .retAddr 0, .retAddr 0, .retAddr 0, .retAddr 0, .retAddr 0, .retAddr 0, .retAddr 0] [] h Q := by
  refine g5 c_312_0 rfl ?_
  obtain ⟨ho, j1, hr, t⟩ := t
  refine g45 c_312_1 ho hr ?_
  refine g1 c_312_4 k_0 ?_
  obtain ⟨ho, t⟩ := t
  refine g50 c_312_5 ho ?_
  refine g6y (Lf := fun y2 => [.ref x0, .int x1, .int x2, .int y2, .retAddr 0, .retAddr 0, .retAddr 0, .retAddr 0, .retAddr 0, .retAddr 0, .retAddr 0, .retAddr 0, .retAddr 0]) c_312_6 (fun _ => rfl) (fun y2 ey2 => ?_)
  have t := t y2 ey2
  refine g5 c_312_7 rfl ?_
  refine g3 c_312_8 rfl ?_
  refine g1 c_312_9 k_7 ?_
  exact g80 (As := [.int x1, .int 7]) (rest := []) c_312_11 rfl rfl (Nat.le_of_ble_eq_true rfl) (Nat.le_of_ble_eq_true rfl) t.1 t.2
set_option maxRecDepth 20000 in
theorem t_312_14 {d : Nat} {h : ab_H} {Q : Option Value → ab_H → Prop} {x0 : Nat} {x1 : Int32} {x2 : Int32} {x3 : Int32} {s0 : Int32} (t : wq d 312 29 [.ref x0, .int x1, .int x2, .int x3, .int s0, .int ((3 * x1) + x2), .int 0, .int 0, .retAddr 0, .retAddr 0, .retAddr 0, .retAddr 0, .retAddr 0] [] h Q) : wq d 312 14 [.ref x0, .int x1, .int x2, .int x3, .retAddr 0, .retAddr 0, .retAddr 0, .retAddr 0, .retAddr 0, .retAddr 0, .retAddr 0, .retAddr 0, .retAddr 0] [.int s0] h Q := by
  refine g6 (L' := [.ref x0, .int x1, .int x2, .int x3, .int s0, .retAddr 0, .retAddr 0, .retAddr 0, .retAddr 0, .retAddr 0, .retAddr 0, .retAddr 0, .retAddr 0]) c_312_14 rfl ?_
  refine g1 c_312_16 k_3 ?_
  refine g3 c_312_17 rfl ?_
  refine g12 c_312_18 ?_
  refine g3 c_312_19 rfl ?_
  refine g10 c_312_20 ?_
  refine g6 (L' := [.ref x0, .int x1, .int x2, .int x3, .int s0, .int ((3 * x1) + x2), .retAddr 0, .retAddr 0, .retAddr 0, .retAddr 0, .retAddr 0, .retAddr 0, .retAddr 0]) c_312_21 rfl ?_
  refine g1 c_312_23 k_0 ?_
  refine g6 (L' := [.ref x0, .int x1, .int x2, .int x3, .int s0, .int ((3 * x1) + x2), .int 0, .retAddr 0, .retAddr 0, .retAddr 0, .retAddr 0, .retAddr 0, .retAddr 0]) c_312_24 rfl ?_
  refine g1 c_312_26 k_0 ?_
  refine g6 (L' := [.ref x0, .int x1, .int x2, .int x3, .int s0, .int ((3 * x1) + x2), .int 0, .int 0, .retAddr 0, .retAddr 0, .retAddr 0, .retAddr 0, .retAddr 0]) c_312_27 rfl ?_
  exact t
set_option maxRecDepth 20000 in
theorem t_312_29 {d : Nat} {h : ab_H} {Q : Option Value → ab_H → Prop} {x0 : Nat} {x1 : Int32} {x2 : Int32} {x3 : Int32} {x4 : Int32} {x5 : Int32} {x6 : Int32} {x7 : Int32} (t : if 24 ≤ x7 then (ab_ok h x0 112 = true ∧ ∃ j1 : Nat, ab_r h x0 34 = some j1 ∧ (ab_ok h j1 0 = true ∧ ab_in x5 (ab_s h j1).2 = true) ∧ ∀ h2 : ab_H, h2 = ab_pi h j1 (Int32.toNatClampNeg x5) 0 → if x2 = 0 then (Q none h2) else (if 0 ≤ x4 then (ab_ok h2 x0 112 = true ∧ wm d 271 [.ref x0, .int x4, .int x1, .int x3, .int x3] h2 (fun r9 h9 => wq (d + 1) 312 87 [.ref x0, .int x1, .int x2, .int x3, .int x4, .int x5, .int x6, .int x7, .retAddr 0, .retAddr 0, .retAddr 0, .retAddr 0, .retAddr 0] (r9.toList ++ []) h9 Q)) else (wq (d + 1) 312 92 [.ref x0, .int x1, .int x2, .int x3, .int x4, .int x5, .int x6, .int 0, .int 0, .retAddr 0, .retAddr 0, .retAddr 0, .retAddr 0] [] h2 Q))) else (ab_ok h x0 112 = true ∧ ∃ j3 : Nat, ab_r h x0 35 = some j3 ∧ (ab_ok h j3 1 = true ∧ ab_in ((24 * x5) + x7) (ab_s h j3).2 = true) ∧ ∀ h4 : ab_H, h4 = ab_pl h j3 (Int32.toNatClampNeg ((24 * x5) + x7)) 0 → wq (d + 1) 312 29 [.ref x0, .int x1, .int x2, .int x3, .int x4, .int x5, .int x6, .int (x7 + 1), .retAddr 0, .retAddr 0, .retAddr 0, .retAddr 0, .retAddr 0] [] h4 Q)) : wq (d + 1) 312 29 [.ref x0, .int x1, .int x2, .int x3, .int x4, .int x5, .int x6, .int x7, .retAddr 0, .retAddr 0, .retAddr 0, .retAddr 0, .retAddr 0] [] h Q := by
  refine g3 c_312_29 rfl ?_
  refine g1 c_312_31 k_24 ?_
  refine gcm c_312_33 (gbr t rfl rfl (fun hc t => ?_) (fun hc t => ?_))
  · refine g5 c_312_56 rfl ?_
    obtain ⟨ho, j1, hr, t⟩ := t
    refine g45 c_312_57 ho hr ?_
    refine g3 c_312_60 rfl ?_
    refine g1 c_312_62 k_0 ?_
    obtain ⟨ho, t⟩ := t
    refine g54 c_312_63 ho (fun h2 eh2 => ?_)
    have t := t h2 eh2
    refine g3 c_312_64 rfl ?_
    refine gif c_312_65 (gbn t (ab_c1 _ _) rfl (fun hc t => ?_) (fun hc t => ?_))
    · exact g94 c_312_68 t
    · refine g3 c_312_69 rfl ?_
      refine gif c_312_71 (gbr t rfl rfl (fun hc t => ?_) (fun hc t => ?_))
      · refine g5 c_312_78 rfl ?_
        refine g3 c_312_79 rfl ?_
        refine g3 c_312_81 rfl ?_
        refine g3 c_312_82 rfl ?_
        refine g3 c_312_83 rfl ?_
        exact g80 (As := [.int x4, .int x1, .int x3, .int x3]) (rest := []) c_312_84 rfl rfl (Nat.le_of_ble_eq_true rfl) (Nat.le_of_ble_eq_true rfl) t.1 t.2
      · refine g1 c_312_74 k_0 ?_
        refine g38 c_312_75 rfl ?_
        refine g6 (L' := [.ref x0, .int x1, .int x2, .int x3, .int x4, .int x5, .int x6, .int 0, .retAddr 0, .retAddr 0, .retAddr 0, .retAddr 0, .retAddr 0]) c_312_87 rfl ?_
        refine g1 c_312_89 k_0 ?_
        refine g6 (L' := [.ref x0, .int x1, .int x2, .int x3, .int x4, .int x5, .int x6, .int 0, .int 0, .retAddr 0, .retAddr 0, .retAddr 0, .retAddr 0]) c_312_90 rfl ?_
        exact t
  · refine g5 c_312_36 rfl ?_
    obtain ⟨ho, j3, hr, t⟩ := t
    refine g45 c_312_37 ho hr ?_
    refine g1 c_312_40 k_24 ?_
    refine g3 c_312_42 rfl ?_
    refine g12 c_312_44 ?_
    refine g3 c_312_45 rfl ?_
    refine g10 c_312_47 ?_
    refine g2 c_312_48 kl_0 ?_
    obtain ⟨ho, t⟩ := t
    refine g56 c_312_49 ho (fun h4 eh4 => ?_)
    have t := t h4 eh4
    refine g9 (L' := [.ref x0, .int x1, .int x2, .int x3, .int x4, .int x5, .int x6, .int (x7 + 1), .retAddr 0, .retAddr 0, .retAddr 0, .retAddr 0, .retAddr 0]) c_312_50 rfl k_1 rfl ?_
    refine g38 c_312_53 rfl ?_
    exact t
set_option maxRecDepth 20000 in
theorem t_312_87 {d : Nat} {h : ab_H} {Q : Option Value → ab_H → Prop} {x0 : Nat} {x1 : Int32} {x2 : Int32} {x3 : Int32} {x4 : Int32} {x5 : Int32} {x6 : Int32} {x7 : Int32} {s0 : Int32} (t : wq d 312 92 [.ref x0, .int x1, .int x2, .int x3, .int x4, .int x5, .int x6, .int s0, .int 0, .retAddr 0, .retAddr 0, .retAddr 0, .retAddr 0] [] h Q) : wq d 312 87 [.ref x0, .int x1, .int x2, .int x3, .int x4, .int x5, .int x6, .int x7, .retAddr 0, .retAddr 0, .retAddr 0, .retAddr 0, .retAddr 0] [.int s0] h Q := by
  refine g6 (L' := [.ref x0, .int x1, .int x2, .int x3, .int x4, .int x5, .int x6, .int s0, .retAddr 0, .retAddr 0, .retAddr 0, .retAddr 0, .retAddr 0]) c_312_87 rfl ?_
  refine g1 c_312_89 k_0 ?_
  refine g6 (L' := [.ref x0, .int x1, .int x2, .int x3, .int x4, .int x5, .int x6, .int s0, .int 0, .retAddr 0, .retAddr 0, .retAddr 0, .retAddr 0]) c_312_90 rfl ?_
  exact t
set_option maxRecDepth 20000 in
theorem t_312_92 {d : Nat} {h : ab_H} {Q : Option Value → ab_H → Prop} {x0 : Nat} {x1 : Int32} {x2 : Int32} {x3 : Int32} {x4 : Int32} {x5 : Int32} {x6 : Int32} {x7 : Int32} {x8 : Int32} (t : ab_ok h x0 112 = true ∧ ∃ j1 : Nat, ab_r h x0 0 = some j1 ∧ ((j1 = 0 ∨ ab_ok h j1 0 = true) ∧ ab_in (4 : Int32) (ab_s h j1).2 = true) ∧ if (ab_i h j1 (Int32.toNatClampNeg (4 : Int32))) ≤ x8 then (ab_ok h x0 112 = true ∧ ∃ j2 : Nat, ab_r h x0 34 = some j2 ∧ if x2 = 2 then ((ab_ok h j2 0 = true ∧ ab_in x5 (ab_s h j2).2 = true) ∧ ∀ h3 : ab_H, h3 = ab_pi h j2 (Int32.toNatClampNeg x5) x6 → Q none h3) else (¬ (2 : Int32) = 0 ∧ (ab_ok h j2 0 = true ∧ ab_in x5 (ab_s h j2).2 = true) ∧ ∀ h4 : ab_H, h4 = ab_pi h j2 (Int32.toNatClampNeg x5) (x6 / 2) → Q none h4)) else (ab_ok h x0 112 = true ∧ wm d 199 [.ref x0, .int x8, .int 4] h (fun r9 h9 => wq (d + 1) 312 110 [.ref x0, .int x1, .int x2, .int x3, .int x4, .int x5, .int x6, .int x7, .int x8, .retAddr 0, .retAddr 0, .retAddr 0, .retAddr 0] (r9.toList ++ []) h9 Q))) : wq (d + 1) 312 92 [.ref x0, .int x1, .int x2, .int x3, .int x4, .int x5, .int x6, .int x7, .int x8, .retAddr 0, .retAddr 0, .retAddr 0, .retAddr 0] [] h Q := by
  refine g3 c_312_92 rfl ?_
  refine g5 c_312_94 rfl ?_
  obtain ⟨ho, j1, hr, t⟩ := t
  refine g45 c_312_95 ho hr ?_
  refine g1 c_312_98 k_4 ?_
  obtain ⟨ho, t⟩ := t
  refine g50 c_312_99 ho ?_
  refine gcm c_312_100 (gbr t rfl rfl (fun hc t => ?_) (fun hc t => ?_))
  · refine g5 c_312_383 rfl ?_
    obtain ⟨ho, j2, hr, t⟩ := t
    refine g45 c_312_384 ho hr ?_
    refine g3 c_312_387 rfl ?_
    refine g3 c_312_389 rfl ?_
    refine g1 c_312_390 k_2 ?_
    refine gcm c_312_391 (gbn t (ab_c1 _ _) rfl (fun hc t => ?_) (fun hc t => ?_))
    · refine g3 c_312_394 rfl ?_
      refine g38 c_312_396 rfl ?_
      obtain ⟨ho, t⟩ := t
      refine g54 c_312_403 ho (fun h3 eh3 => ?_)
      have t := t h3 eh3
      exact g94 c_312_404 t
    · refine g3 c_312_399 rfl ?_
      refine g1 c_312_401 k_2 ?_
      obtain ⟨hy, t⟩ := t
      refine g16 c_312_402 hy ?_
      obtain ⟨ho, t⟩ := t
      refine g54 c_312_403 ho (fun h4 eh4 => ?_)
      have t := t h4 eh4
      exact g94 c_312_404 t
  · refine g5 c_312_103 rfl ?_
    refine g3 c_312_104 rfl ?_
    refine g1 c_312_106 k_4 ?_
    exact g80 (As := [.int x8, .int 4]) (rest := []) c_312_107 rfl rfl (Nat.le_of_ble_eq_true rfl) (Nat.le_of_ble_eq_true rfl) t.1 t.2
set_option maxRecDepth 20000 in
theorem t_312_110 {d : Nat} {h : ab_H} {Q : Option Value → ab_H → Prop} {x0 : Nat} {x1 : Int32} {x2 : Int32} {x3 : Int32} {x4 : Int32} {x5 : Int32} {x6 : Int32} {x7 : Int32} {x8 : Int32} {s0 : Int32} (t : if s0 = x1 then (ab_ok h x0 112 = true ∧ wm d 199 [.ref x0, .int x8, .int 1] h (fun r9 h9 => wq (d + 1) 312 125 [.ref x0, .int x1, .int x2, .int x3, .int x4, .int x5, .int x6, .int x7, .int x8, .retAddr 0, .retAddr 0, .retAddr 0, .retAddr 0] (r9.toList ++ [.ref x0]) h9 Q)) else (wq (d + 1) 312 92 [.ref x0, .int x1, .int x2, .int x3, .int x4, .int x5, .int x6, .int x7, .int (x8 + 1), .retAddr 0, .retAddr 0, .retAddr 0, .retAddr 0] [] h Q)) : wq (d + 1) 312 110 [.ref x0, .int x1, .int x2, .int x3, .int x4, .int x5, .int x6, .int x7, .int x8, .retAddr 0, .retAddr 0, .retAddr 0, .retAddr 0] [.int s0] h Q := by
  refine g3 c_312_110 rfl ?_
  refine gcm c_312_111 (gbr t rfl rfl (fun hc t => ?_) (fun hc t => ?_))
  · refine g5 c_312_117 rfl ?_
    refine g5 c_312_118 rfl ?_
    refine g3 c_312_119 rfl ?_
    refine g1 c_312_121 k_1 ?_
    exact g80 (As := [.int x8, .int 1]) (rest := [.ref x0]) c_312_122 rfl rfl (Nat.le_of_ble_eq_true rfl) (Nat.le_of_ble_eq_true rfl) t.1 t.2
  · refine g38 c_312_114 rfl ?_
    refine g9 (L' := [.ref x0, .int x1, .int x2, .int x3, .int x4, .int x5, .int x6, .int x7, .int (x8 + 1), .retAddr 0, .retAddr 0, .retAddr 0, .retAddr 0]) c_312_377 rfl k_1 rfl ?_
    refine g38 c_312_380 rfl ?_
    exact t
set_option maxRecDepth 20000 in
theorem t_312_125 {d : Nat} {h : ab_H} {Q : Option Value → ab_H → Prop} {x0 : Nat} {x1 : Int32} {x2 : Int32} {x3 : Int32} {x4 : Int32} {x5 : Int32} {x6 : Int32} {x7 : Int32} {x8 : Int32} {s0 : Nat} {s1 : Int32} (t : ab_ok h s0 112 = true ∧ wm d 276 [.ref s0, .int s1, .int x1, .int x3, .int x3] h (fun r9 h9 => wq (d + 1) 312 131 [.ref x0, .int x1, .int x2, .int x3, .int x4, .int x5, .int x6, .int x7, .int x8, .retAddr 0, .retAddr 0, .retAddr 0, .retAddr 0] (r9.toList ++ []) h9 Q)) : wq (d + 1) 312 125 [.ref x0, .int x1, .int x2, .int x3, .int x4, .int x5, .int x6, .int x7, .int x8, .retAddr 0, .retAddr 0, .retAddr 0, .retAddr 0] [.int s1, .ref s0] h Q := by
  refine g3 c_312_125 rfl ?_
  refine g3 c_312_126 rfl ?_
  refine g3 c_312_127 rfl ?_
  exact g80 (As := [.int s1, .int x1, .int x3, .int x3]) (rest := []) c_312_128 rfl rfl (Nat.le_of_ble_eq_true rfl) (Nat.le_of_ble_eq_true rfl) t.1 t.2
set_option maxRecDepth 20000 in
theorem t_312_131 {d : Nat} {h : ab_H} {Q : Option Value → ab_H → Prop} {x0 : Nat} {x1 : Int32} {x2 : Int32} {x3 : Int32} {x4 : Int32} {x5 : Int32} {x6 : Int32} {x7 : Int32} {x8 : Int32} {s0 : Int32} (t : if x2 = 1 then (¬ (2 : Int32) = 0 ∧ if x4 < 0 then (if x4 < 0 then (ab_ok h x0 112 = true ∧ wm d 199 [.ref x0, .int x8, .int 3] h (fun r9 h9 => wq (d + 1) 312 256 [.ref x0, .int x1, .int x2, .int x3, .int x4, .int x5, .int (x6 + 0), .int x7, .int x8, .int (s0 / 2), .int 0, .retAddr 0, .retAddr 0] (r9.toList ++ []) h9 Q)) else (ab_ok h x0 112 = true ∧ wm d 279 [.ref x0, .int x8, .int x1] h (fun r9 h9 => wq (d + 1) 312 203 [.ref x0, .int x1, .int x2, .int x3, .int x4, .int x5, .int x6, .int x7, .int x8, .int (s0 / 2), .int 0, .retAddr 0, .retAddr 0] (r9.toList ++ [.int x6]) h9 Q))) else (ab_ok h x0 112 = true ∧ wm d 279 [.ref x0, .int x8, .int x1] h (fun r9 h9 => wq (d + 1) 312 156 [.ref x0, .int x1, .int x2, .int x3, .int x4, .int x5, .int x6, .int x7, .int x8, .int (s0 / 2), .retAddr 0, .retAddr 0, .retAddr 0] (r9.toList ++ []) h9 Q))) else (if x4 < 0 then (if x4 < 0 then (ab_ok h x0 112 = true ∧ wm d 199 [.ref x0, .int x8, .int 3] h (fun r9 h9 => wq (d + 1) 312 256 [.ref x0, .int x1, .int x2, .int x3, .int x4, .int x5, .int (x6 + 0), .int x7, .int x8, .int s0, .int 0, .retAddr 0, .retAddr 0] (r9.toList ++ []) h9 Q)) else (ab_ok h x0 112 = true ∧ wm d 279 [.ref x0, .int x8, .int x1] h (fun r9 h9 => wq (d + 1) 312 203 [.ref x0, .int x1, .int x2, .int x3, .int x4, .int x5, .int x6, .int x7, .int x8, .int s0, .int 0, .retAddr 0, .retAddr 0] (r9.toList ++ [.int x6]) h9 Q))) else (ab_ok h x0 112 = true ∧ wm d 279 [.ref x0, .int x8, .int x1] h (fun r9 h9 => wq (d + 1) 312 156 [.ref x0, .int x1, .int x2, .int x3, .int x4, .int x5, .int x6, .int x7, .int x8, .int s0, .retAddr 0, .retAddr 0, .retAddr 0] (r9.toList ++ []) h9 Q)))) : wq (d + 1) 312 131 [.ref x0, .int x1, .int x2, .int x3, .int x4, .int x5, .int x6, .int x7, .int x8, .retAddr 0, .retAddr 0, .retAddr 0, .retAddr 0] [.int s0] h Q := by
  refine g6 (L' := [.ref x0, .int x1, .int x2, .int x3, .int x4, .int x5, .int x6, .int x7, .int x8, .int s0, .retAddr 0, .retAddr 0, .retAddr 0]) c_312_131 rfl ?_
  refine g3 c_312_133 rfl ?_
  refine g1 c_312_134 k_1 ?_
  refine gcm c_312_135 (gbn t (ab_c1 _ _) rfl (fun hc t => ?_) (fun hc t => ?_))
  · refine g3 c_312_138 rfl ?_
    refine g1 c_312_140 k_2 ?_
    obtain ⟨hy, t⟩ := t
    refine g16 c_312_141 hy ?_
    refine g6 (L' := [.ref x0, .int x1, .int x2, .int x3, .int x4, .int x5, .int x6, .int x7, .int x8, .int (s0 / 2), .retAddr 0, .retAddr 0, .retAddr 0]) c_312_142 rfl ?_
    refine g3 c_312_144 rfl ?_
    refine gif c_312_146 (gbr t rfl rfl (fun hc t => ?_) (fun hc t => ?_))
    · refine g1 c_312_159 k_0 ?_
      refine g38 c_312_160 rfl ?_
      refine g6 (L' := [.ref x0, .int x1, .int x2, .int x3, .int x4, .int x5, .int x6, .int x7, .int x8, .int (s0 / 2), .int 0, .retAddr 0, .retAddr 0]) c_312_187 rfl ?_
      refine g3 c_312_189 rfl ?_
      refine g3 c_312_191 rfl ?_
      refine gif c_312_193 (gbr t rfl rfl (fun hc t => ?_) (fun hc t => ?_))
      · refine g1 c_312_206 k_0 ?_
        refine g38 c_312_207 rfl ?_
        refine g10 c_312_246 ?_
        refine g6 (L' := [.ref x0, .int x1, .int x2, .int x3, .int x4, .int x5, .int (x6 + 0), .int x7, .int x8, .int (s0 / 2), .int 0, .retAddr 0, .retAddr 0]) c_312_247 rfl ?_
        refine g5 c_312_249 rfl ?_
        refine g3 c_312_250 rfl ?_
        refine g1 c_312_252 k_3 ?_
        exact g80 (As := [.int x8, .int 3]) (rest := []) c_312_253 rfl rfl (Nat.le_of_ble_eq_true rfl) (Nat.le_of_ble_eq_true rfl) t.1 t.2
      · refine g5 c_312_196 rfl ?_
        refine g3 c_312_197 rfl ?_
        refine g3 c_312_199 rfl ?_
        exact g80 (As := [.int x8, .int x1]) (rest := [.int x6]) c_312_200 rfl rfl (Nat.le_of_ble_eq_true rfl) (Nat.le_of_ble_eq_true rfl) t.1 t.2
    · refine g5 c_312_149 rfl ?_
      refine g3 c_312_150 rfl ?_
      refine g3 c_312_152 rfl ?_
      exact g80 (As := [.int x8, .int x1]) (rest := []) c_312_153 rfl rfl (Nat.le_of_ble_eq_true rfl) (Nat.le_of_ble_eq_true rfl) t.1 t.2
  · refine g3 c_312_144 rfl ?_
    refine gif c_312_146 (gbr t rfl rfl (fun hc t => ?_) (fun hc t => ?_))
    · refine g1 c_312_159 k_0 ?_
      refine g38 c_312_160 rfl ?_
      refine g6 (L' := [.ref x0, .int x1, .int x2, .int x3, .int x4, .int x5, .int x6, .int x7, .int x8, .int s0, .int 0, .retAddr 0, .retAddr 0]) c_312_187 rfl ?_
      refine g3 c_312_189 rfl ?_
      refine g3 c_312_191 rfl ?_
      refine gif c_312_193 (gbr t rfl rfl (fun hc t => ?_) (fun hc t => ?_))
      · refine g1 c_312_206 k_0 ?_
        refine g38 c_312_207 rfl ?_
        refine g10 c_312_246 ?_
        refine g6 (L' := [.ref x0, .int x1, .int x2, .int x3, .int x4, .int x5, .int (x6 + 0), .int x7, .int x8, .int s0, .int 0, .retAddr 0, .retAddr 0]) c_312_247 rfl ?_
        refine g5 c_312_249 rfl ?_
        refine g3 c_312_250 rfl ?_
        refine g1 c_312_252 k_3 ?_
        exact g80 (As := [.int x8, .int 3]) (rest := []) c_312_253 rfl rfl (Nat.le_of_ble_eq_true rfl) (Nat.le_of_ble_eq_true rfl) t.1 t.2
      · refine g5 c_312_196 rfl ?_
        refine g3 c_312_197 rfl ?_
        refine g3 c_312_199 rfl ?_
        exact g80 (As := [.int x8, .int x1]) (rest := [.int x6]) c_312_200 rfl rfl (Nat.le_of_ble_eq_true rfl) (Nat.le_of_ble_eq_true rfl) t.1 t.2
    · refine g5 c_312_149 rfl ?_
      refine g3 c_312_150 rfl ?_
      refine g3 c_312_152 rfl ?_
      exact g80 (As := [.int x8, .int x1]) (rest := []) c_312_153 rfl rfl (Nat.le_of_ble_eq_true rfl) (Nat.le_of_ble_eq_true rfl) t.1 t.2
set_option maxRecDepth 20000 in
theorem t_312_156 {d : Nat} {h : ab_H} {Q : Option Value → ab_H → Prop} {x0 : Nat} {x1 : Int32} {x2 : Int32} {x3 : Int32} {x4 : Int32} {x5 : Int32} {x6 : Int32} {x7 : Int32} {x8 : Int32} {x9 : Int32} {s0 : Int32} (t : if s0 = 0 then (if x4 < 0 then (ab_ok h x0 112 = true ∧ wm d 199 [.ref x0, .int x8, .int 3] h (fun r9 h9 => wq (d + 1) 312 256 [.ref x0, .int x1, .int x2, .int x3, .int x4, .int x5, .int (x6 + 0), .int x7, .int x8, .int x9, .int 0, .retAddr 0, .retAddr 0] (r9.toList ++ []) h9 Q)) else (ab_ok h x0 112 = true ∧ wm d 279 [.ref x0, .int x8, .int x1] h (fun r9 h9 => wq (d + 1) 312 203 [.ref x0, .int x1, .int x2, .int x3, .int x4, .int x5, .int x6, .int x7, .int x8, .int x9, .int 0, .retAddr 0, .retAddr 0] (r9.toList ++ [.int x6]) h9 Q))) else (ab_ok h x0 112 = true ∧ wm d 199 [.ref x0, .int x8, .int 7] h (fun r9 h9 => wq (d + 1) 312 171 [.ref x0, .int x1, .int x2, .int x3, .int x4, .int x5, .int x6, .int x7, .int x8, .int x9, .retAddr 0, .retAddr 0, .retAddr 0] (r9.toList ++ []) h9 Q))) : wq (d + 1) 312 156 [.ref x0, .int x1, .int x2, .int x3, .int x4, .int x5, .int x6, .int x7, .int x8, .int x9, .retAddr 0, .retAddr 0, .retAddr 0] [.int s0] h Q := by
  refine gif c_312_156 (gbn t (ab_c1 _ _) rfl (fun hc t => ?_) (fun hc t => ?_))
  · refine g1 c_312_159 k_0 ?_
    refine g38 c_312_160 rfl ?_
    refine g6 (L' := [.ref x0, .int x1, .int x2, .int x3, .int x4, .int x5, .int x6, .int x7, .int x8, .int x9, .int 0, .retAddr 0, .retAddr 0]) c_312_187 rfl ?_
    refine g3 c_312_189 rfl ?_
    refine g3 c_312_191 rfl ?_
    refine gif c_312_193 (gbr t rfl rfl (fun hc t => ?_) (fun hc t => ?_))
    · refine g1 c_312_206 k_0 ?_
      refine g38 c_312_207 rfl ?_
      refine g10 c_312_246 ?_
      refine g6 (L' := [.ref x0, .int x1, .int x2, .int x3, .int x4, .int x5, .int (x6 + 0), .int x7, .int x8, .int x9, .int 0, .retAddr 0, .retAddr 0]) c_312_247 rfl ?_
      refine g5 c_312_249 rfl ?_
      refine g3 c_312_250 rfl ?_
      refine g1 c_312_252 k_3 ?_
      exact g80 (As := [.int x8, .int 3]) (rest := []) c_312_253 rfl rfl (Nat.le_of_ble_eq_true rfl) (Nat.le_of_ble_eq_true rfl) t.1 t.2
    · refine g5 c_312_196 rfl ?_
      refine g3 c_312_197 rfl ?_
      refine g3 c_312_199 rfl ?_
      exact g80 (As := [.int x8, .int x1]) (rest := [.int x6]) c_312_200 rfl rfl (Nat.le_of_ble_eq_true rfl) (Nat.le_of_ble_eq_true rfl) t.1 t.2
  · refine g5 c_312_163 rfl ?_
    refine g3 c_312_164 rfl ?_
    refine g1 c_312_166 k_7 ?_
    exact g80 (As := [.int x8, .int 7]) (rest := []) c_312_168 rfl rfl (Nat.le_of_ble_eq_true rfl) (Nat.le_of_ble_eq_true rfl) t.1 t.2
set_option maxRecDepth 20000 in
theorem t_312_171 {d : Nat} {h : ab_H} {Q : Option Value → ab_H → Prop} {x0 : Nat} {x1 : Int32} {x2 : Int32} {x3 : Int32} {x4 : Int32} {x5 : Int32} {x6 : Int32} {x7 : Int32} {x8 : Int32} {x9 : Int32} {s0 : Int32} (t : ab_ok h x0 112 = true ∧ wm d 280 [.ref x0, .int x8, .int x9] h (fun r9 h9 => wq (d + 1) 312 179 [.ref x0, .int x1, .int x2, .int x3, .int x4, .int x5, .int x6, .int x7, .int x8, .int x9, .retAddr 0, .retAddr 0, .retAddr 0] (r9.toList ++ [.int s0]) h9 Q)) : wq (d + 1) 312 171 [.ref x0, .int x1, .int x2, .int x3, .int x4, .int x5, .int x6, .int x7, .int x8, .int x9, .retAddr 0, .retAddr 0, .retAddr 0] [.int s0] h Q := by
  refine g5 c_312_171 rfl ?_
  refine g3 c_312_172 rfl ?_
  refine g3 c_312_174 rfl ?_
  exact g80 (As := [.int x8, .int x9]) (rest := [.int s0]) c_312_176 rfl rfl (Nat.le_of_ble_eq_true rfl) (Nat.le_of_ble_eq_true rfl) t.1 t.2
set_option maxRecDepth 20000 in
theorem t_312_179 {d : Nat} {h : ab_H} {Q : Option Value → ab_H → Prop} {x0 : Nat} {x1 : Int32} {x2 : Int32} {x3 : Int32} {x4 : Int32} {x5 : Int32} {x6 : Int32} {x7 : Int32} {x8 : Int32} {x9 : Int32} {s0 : Int32} {s1 : Int32} (t : ab_ok h x0 112 = true ∧ wm d 278 [.ref x0, .int x4] h (fun r9 h9 => wq (d + 1) 312 186 [.ref x0, .int x1, .int x2, .int x3, .int x4, .int x5, .int x6, .int x7, .int x8, .int x9, .retAddr 0, .retAddr 0, .retAddr 0] (r9.toList ++ [.int (s0 + s1)]) h9 Q)) : wq (d + 1) 312 179 [.ref x0, .int x1, .int x2, .int x3, .int x4, .int x5, .int x6, .int x7, .int x8, .int x9, .retAddr 0, .retAddr 0, .retAddr 0] [.int s1, .int s0] h Q := by
  refine g10 c_312_179 ?_
  refine g5 c_312_180 rfl ?_
  refine g3 c_312_181 rfl ?_
  exact g80 (As := [.int x4]) (rest := [.int (s0 + s1)]) c_312_183 rfl rfl (Nat.le_of_ble_eq_true rfl) (Nat.le_of_ble_eq_true rfl) t.1 t.2
set_option maxRecDepth 20000 in
theorem t_312_186 {d : Nat} {h : ab_H} {Q : Option Value → ab_H → Prop} {x0 : Nat} {x1 : Int32} {x2 : Int32} {x3 : Int32} {x4 : Int32} {x5 : Int32} {x6 : Int32} {x7 : Int32} {x8 : Int32} {x9 : Int32} {s0 : Int32} {s1 : Int32} (t : ¬ (s1 : Int32) = 0 ∧ if x4 < 0 then (ab_ok h x0 112 = true ∧ wm d 199 [.ref x0, .int x8, .int 3] h (fun r9 h9 => wq (d + 1) 312 256 [.ref x0, .int x1, .int x2, .int x3, .int x4, .int x5, .int (x6 + 0), .int x7, .int x8, .int x9, .int (s0 / s1), .retAddr 0, .retAddr 0] (r9.toList ++ []) h9 Q)) else (ab_ok h x0 112 = true ∧ wm d 279 [.ref x0, .int x8, .int x1] h (fun r9 h9 => wq (d + 1) 312 203 [.ref x0, .int x1, .int x2, .int x3, .int x4, .int x5, .int x6, .int x7, .int x8, .int x9, .int (s0 / s1), .retAddr 0, .retAddr 0] (r9.toList ++ [.int x6]) h9 Q))) : wq (d + 1) 312 186 [.ref x0, .int x1, .int x2, .int x3, .int x4, .int x5, .int x6, .int x7, .int x8, .int x9, .retAddr 0, .retAddr 0, .retAddr 0] [.int s1, .int s0] h Q := by
  obtain ⟨hy, t⟩ := t
  refine g16 c_312_186 hy ?_
  refine g6 (L' := [.ref x0, .int x1, .int x2, .int x3, .int x4, .int x5, .int x6, .int x7, .int x8, .int x9, .int (s0 / s1), .retAddr 0, .retAddr 0]) c_312_187 rfl ?_
  refine g3 c_312_189 rfl ?_
  refine g3 c_312_191 rfl ?_
  refine gif c_312_193 (gbr t rfl rfl (fun hc t => ?_) (fun hc t => ?_))
  · refine g1 c_312_206 k_0 ?_
    refine g38 c_312_207 rfl ?_
    refine g10 c_312_246 ?_
    refine g6 (L' := [.ref x0, .int x1, .int x2, .int x3, .int x4, .int x5, .int (x6 + 0), .int x7, .int x8, .int x9, .int (s0 / s1), .retAddr 0, .retAddr 0]) c_312_247 rfl ?_
    refine g5 c_312_249 rfl ?_
    refine g3 c_312_250 rfl ?_
    refine g1 c_312_252 k_3 ?_
    exact g80 (As := [.int x8, .int 3]) (rest := []) c_312_253 rfl rfl (Nat.le_of_ble_eq_true rfl) (Nat.le_of_ble_eq_true rfl) t.1 t.2
  · refine g5 c_312_196 rfl ?_
    refine g3 c_312_197 rfl ?_
    refine g3 c_312_199 rfl ?_
    exact g80 (As := [.int x8, .int x1]) (rest := [.int x6]) c_312_200 rfl rfl (Nat.le_of_ble_eq_true rfl) (Nat.le_of_ble_eq_true rfl) t.1 t.2
set_option maxRecDepth 20000 in
theorem t_312_203 {d : Nat} {h : ab_H} {Q : Option Value → ab_H → Prop} {x0 : Nat} {x1 : Int32} {x2 : Int32} {x3 : Int32} {x4 : Int32} {x5 : Int32} {x6 : Int32} {x7 : Int32} {x8 : Int32} {x9 : Int32} {x10 : Int32} {s0 : Int32} {s1 : Int32} (t : if s1 = 0 then (ab_ok h x0 112 = true ∧ wm d 199 [.ref x0, .int x8, .int 3] h (fun r9 h9 => wq (d + 1) 312 256 [.ref x0, .int x1, .int x2, .int x3, .int x4, .int x5, .int (s0 + 0), .int x7, .int x8, .int x9, .int x10, .retAddr 0, .retAddr 0] (r9.toList ++ []) h9 Q)) else (ab_ok h x0 112 = true ∧ wm d 199 [.ref x0, .int x8, .int 7] h (fun r9 h9 => wq (d + 1) 312 218 [.ref x0, .int x1, .int x2, .int x3, .int x4, .int x5, .int x6, .int x7, .int x8, .int x9, .int x10, .retAddr 0, .retAddr 0] (r9.toList ++ [.int s0]) h9 Q))) : wq (d + 1) 312 203 [.ref x0, .int x1, .int x2, .int x3, .int x4, .int x5, .int x6, .int x7, .int x8, .int x9, .int x10, .retAddr 0, .retAddr 0] [.int s1, .int s0] h Q := by
  refine gif c_312_203 (gbn t (ab_c1 _ _) rfl (fun hc t => ?_) (fun hc t => ?_))
  · refine g1 c_312_206 k_0 ?_
    refine g38 c_312_207 rfl ?_
    refine g10 c_312_246 ?_
    refine g6 (L' := [.ref x0, .int x1, .int x2, .int x3, .int x4, .int x5, .int (s0 + 0), .int x7, .int x8, .int x9, .int x10, .retAddr 0, .retAddr 0]) c_312_247 rfl ?_
    refine g5 c_312_249 rfl ?_
    refine g3 c_312_250 rfl ?_
    refine g1 c_312_252 k_3 ?_
    exact g80 (As := [.int x8, .int 3]) (rest := []) c_312_253 rfl rfl (Nat.le_of_ble_eq_true rfl) (Nat.le_of_ble_eq_true rfl) t.1 t.2
  · refine g5 c_312_210 rfl ?_
    refine g3 c_312_211 rfl ?_
    refine g1 c_312_213 k_7 ?_
    exact g80 (As := [.int x8, .int 7]) (rest := [.int s0]) c_312_215 rfl rfl (Nat.le_of_ble_eq_true rfl) (Nat.le_of_ble_eq_true rfl) t.1 t.2
set_option maxRecDepth 20000 in
theorem t_312_218 {d : Nat} {h : ab_H} {Q : Option Value → ab_H → Prop} {x0 : Nat} {x1 : Int32} {x2 : Int32} {x3 : Int32} {x4 : Int32} {x5 : Int32} {x6 : Int32} {x7 : Int32} {x8 : Int32} {x9 : Int32} {x10 : Int32} {s0 : Int32} {s1 : Int32} (t : ab_ok h x0 112 = true ∧ wm d 199 [.ref x0, .int x8, .int 1] h (fun r9 h9 => wq (d + 1) 312 229 [.ref x0, .int x1, .int x2, .int x3, .int x4, .int x5, .int x6, .int x7, .int x8, .int x9, .int x10, .retAddr 0, .retAddr 0] (r9.toList ++ [.ref x0, .int x8, .ref x0, .int s1, .int s0]) h9 Q)) : wq (d + 1) 312 218 [.ref x0, .int x1, .int x2, .int x3, .int x4, .int x5, .int x6, .int x7, .int x8, .int x9, .int x10, .retAddr 0, .retAddr 0] [.int s1, .int s0] h Q := by
  refine g5 c_312_218 rfl ?_
  refine g3 c_312_219 rfl ?_
  refine g5 c_312_221 rfl ?_
  refine g5 c_312_222 rfl ?_
  refine g3 c_312_223 rfl ?_
  refine g1 c_312_225 k_1 ?_
  exact g80 (As := [.int x8, .int 1]) (rest := [.ref x0, .int x8, .ref x0, .int s1, .int s0]) c_312_226 rfl rfl (Nat.le_of_ble_eq_true rfl) (Nat.le_of_ble_eq_true rfl) t.1 t.2
set_option maxRecDepth 20000 in
theorem t_312_229 {d : Nat} {h : ab_H} {Q : Option Value → ab_H → Prop} {x0 : Nat} {x1 : Int32} {x2 : Int32} {x3 : Int32} {x4 : Int32} {x5 : Int32} {x6 : Int32} {x7 : Int32} {x8 : Int32} {x9 : Int32} {x10 : Int32} {s0 : Int32} {s1 : Int32} {s2 : Nat} {s3 : Int32} {s4 : Nat} {s5 : Int32} (t : ab_ok h s4 112 = true ∧ wm d 276 [.ref s4, .int s5, .int x1, .int x3, .int x3] h (fun r9 h9 => wq (d + 1) 312 235 [.ref x0, .int x1, .int x2, .int x3, .int x4, .int x5, .int x6, .int x7, .int x8, .int x9, .int x10, .retAddr 0, .retAddr 0] (r9.toList ++ [.int s3, .ref s2, .int s1, .int s0]) h9 Q)) : wq (d + 1) 312 229 [.ref x0, .int x1, .int x2, .int x3, .int x4, .int x5, .int x6, .int x7, .int x8, .int x9, .int x10, .retAddr 0, .retAddr 0] [.int s5, .ref s4, .int s3, .ref s2, .int s1, .int s0] h Q := by
  refine g3 c_312_229 rfl ?_
  refine g3 c_312_230 rfl ?_
  refine g3 c_312_231 rfl ?_
  exact g80 (As := [.int s5, .int x1, .int x3, .int x3]) (rest := [.int s3, .ref s2, .int s1, .int s0]) c_312_232 rfl rfl (Nat.le_of_ble_eq_true rfl) (Nat.le_of_ble_eq_true rfl) t.1 t.2
set_option maxRecDepth 20000 in
theorem t_312_235 {d : Nat} {h : ab_H} {Q : Option Value → ab_H → Prop} {x0 : Nat} {x1 : Int32} {x2 : Int32} {x3 : Int32} {x4 : Int32} {x5 : Int32} {x6 : Int32} {x7 : Int32} {x8 : Int32} {x9 : Int32} {x10 : Int32} {s0 : Int32} {s1 : Int32} {s2 : Nat} {s3 : Int32} {s4 : Int32} (t : ab_ok h s2 112 = true ∧ wm d 280 [.ref s2, .int s3, .int s4] h (fun r9 h9 => wq (d + 1) 312 238 [.ref x0, .int x1, .int x2, .int x3, .int x4, .int x5, .int x6, .int x7, .int x8, .int x9, .int x10, .retAddr 0, .retAddr 0] (r9.toList ++ [.int s1, .int s0]) h9 Q)) : wq (d + 1) 312 235 [.ref x0, .int x1, .int x2, .int x3, .int x4, .int x5, .int x6, .int x7, .int x8, .int x9, .int x10, .retAddr 0, .retAddr 0] [.int s4, .int s3, .ref s2, .int s1, .int s0] h Q := by
  exact g80 (As := [.int s3, .int s4]) (rest := [.int s1, .int s0]) c_312_235 rfl rfl (Nat.le_of_ble_eq_true rfl) (Nat.le_of_ble_eq_true rfl) t.1 t.2
set_option maxRecDepth 20000 in
theorem t_312_238 {d : Nat} {h : ab_H} {Q : Option Value → ab_H → Prop} {x0 : Nat} {x1 : Int32} {x2 : Int32} {x3 : Int32} {x4 : Int32} {x5 : Int32} {x6 : Int32} {x7 : Int32} {x8 : Int32} {x9 : Int32} {x10 : Int32} {s0 : Int32} {s1 : Int32} {s2 : Int32} (t : ab_ok h x0 112 = true ∧ wm d 278 [.ref x0, .int x4] h (fun r9 h9 => wq (d + 1) 312 245 [.ref x0, .int x1, .int x2, .int x3, .int x4, .int x5, .int x6, .int x7, .int x8, .int x9, .int x10, .retAddr 0, .retAddr 0] (r9.toList ++ [.int (s1 + s2), .int s0]) h9 Q)) : wq (d + 1) 312 238 [.ref x0, .int x1, .int x2, .int x3, .int x4, .int x5, .int x6, .int x7, .int x8, .int x9, .int x10, .retAddr 0, .retAddr 0] [.int s2, .int s1, .int s0] h Q := by
  refine g10 c_312_238 ?_
  refine g5 c_312_239 rfl ?_
  refine g3 c_312_240 rfl ?_
  exact g80 (As := [.int x4]) (rest := [.int (s1 + s2), .int s0]) c_312_242 rfl rfl (Nat.le_of_ble_eq_true rfl) (Nat.le_of_ble_eq_true rfl) t.1 t.2
set_option maxRecDepth 20000 in
theorem t_312_245 {d : Nat} {h : ab_H} {Q : Option Value → ab_H → Prop} {x0 : Nat} {x1 : Int32} {x2 : Int32} {x3 : Int32} {x4 : Int32} {x5 : Int32} {x6 : Int32} {x7 : Int32} {x8 : Int32} {x9 : Int32} {x10 : Int32} {s0 : Int32} {s1 : Int32} {s2 : Int32} (t : ¬ (s2 : Int32) = 0 ∧ ab_ok h x0 112 = true ∧ wm d 199 [.ref x0, .int x8, .int 3] h (fun r9 h9 => wq (d + 1) 312 256 [.ref x0, .int x1, .int x2, .int x3, .int x4, .int x5, .int (s0 + (s1 / s2)), .int x7, .int x8, .int x9, .int x10, .retAddr 0, .retAddr 0] (r9.toList ++ []) h9 Q)) : wq (d + 1) 312 245 [.ref x0, .int x1, .int x2, .int x3, .int x4, .int x5, .int x6, .int x7, .int x8, .int x9, .int x10, .retAddr 0, .retAddr 0] [.int s2, .int s1, .int s0] h Q := by
  obtain ⟨hy, t⟩ := t
  refine g16 c_312_245 hy ?_
  refine g10 c_312_246 ?_
  refine g6 (L' := [.ref x0, .int x1, .int x2, .int x3, .int x4, .int x5, .int (s0 + (s1 / s2)), .int x7, .int x8, .int x9, .int x10, .retAddr 0, .retAddr 0]) c_312_247 rfl ?_
  refine g5 c_312_249 rfl ?_
  refine g3 c_312_250 rfl ?_
  refine g1 c_312_252 k_3 ?_
  exact g80 (As := [.int x8, .int 3]) (rest := []) c_312_253 rfl rfl (Nat.le_of_ble_eq_true rfl) (Nat.le_of_ble_eq_true rfl) t.1 t.2
set_option maxRecDepth 20000 in
theorem t_312_256 {d : Nat} {h : ab_H} {Q : Option Value → ab_H → Prop} {x0 : Nat} {x1 : Int32} {x2 : Int32} {x3 : Int32} {x4 : Int32} {x5 : Int32} {x6 : Int32} {x7 : Int32} {x8 : Int32} {x9 : Int32} {x10 : Int32} {s0 : Int32} (t : if s0 < 3 then (ab_ok h x0 112 = true ∧ wm d 199 [.ref x0, .int x8, .int 3] h (fun r9 h9 => wq (d + 1) 312 287 [.ref x0, .int x1, .int x2, .int x3, .int x4, .int x5, .int x6, .int x7, .int x8, .int x9, .int x10, .int (x10 * x7), .retAddr 0] (r9.toList ++ []) h9 Q)) else (ab_ok h x0 112 = true ∧ wm d 199 [.ref x0, .int x8, .int 5] h (fun r9 h9 => wq (d + 1) 312 269 [.ref x0, .int x1, .int x2, .int x3, .int x4, .int x5, .int x6, .int x7, .int x8, .int x9, .int x10, .retAddr 0, .retAddr 0] (r9.toList ++ [.int x9]) h9 Q))) : wq (d + 1) 312 256 [.ref x0, .int x1, .int x2, .int x3, .int x4, .int x5, .int x6, .int x7, .int x8, .int x9, .int x10, .retAddr 0, .retAddr 0] [.int s0] h Q := by
  refine g1 c_312_256 k_3 ?_
  refine gcm c_312_257 (gbr t rfl rfl (fun hc t => ?_) (fun hc t => ?_))
  · refine g3 c_312_273 rfl ?_
    refine g3 c_312_275 rfl ?_
    refine g12 c_312_277 ?_
    refine g6 (L' := [.ref x0, .int x1, .int x2, .int x3, .int x4, .int x5, .int x6, .int x7, .int x8, .int x9, .int x10, .int (x10 * x7), .retAddr 0]) c_312_278 rfl ?_
    refine g5 c_312_280 rfl ?_
    refine g3 c_312_281 rfl ?_
    refine g1 c_312_283 k_3 ?_
    exact g80 (As := [.int x8, .int 3]) (rest := []) c_312_284 rfl rfl (Nat.le_of_ble_eq_true rfl) (Nat.le_of_ble_eq_true rfl) t.1 t.2
  · refine g3 c_312_260 rfl ?_
    refine g5 c_312_262 rfl ?_
    refine g3 c_312_263 rfl ?_
    refine g1 c_312_265 k_5 ?_
    exact g80 (As := [.int x8, .int 5]) (rest := [.int x9]) c_312_266 rfl rfl (Nat.le_of_ble_eq_true rfl) (Nat.le_of_ble_eq_true rfl) t.1 t.2
set_option maxRecDepth 20000 in
theorem t_312_269 {d : Nat} {h : ab_H} {Q : Option Value → ab_H → Prop} {x0 : Nat} {x1 : Int32} {x2 : Int32} {x3 : Int32} {x4 : Int32} {x5 : Int32} {x6 : Int32} {x7 : Int32} {x8 : Int32} {x9 : Int32} {x10 : Int32} {s0 : Int32} {s1 : Int32} (t : ab_ok h x0 112 = true ∧ wm d 199 [.ref x0, .int x8, .int 3] h (fun r9 h9 => wq (d + 1) 312 287 [.ref x0, .int x1, .int x2, .int x3, .int x4, .int x5, .int x6, .int x7, .int x8, .int x9, .int x10, .int (s0 * s1), .retAddr 0] (r9.toList ++ []) h9 Q)) : wq (d + 1) 312 269 [.ref x0, .int x1, .int x2, .int x3, .int x4, .int x5, .int x6, .int x7, .int x8, .int x9, .int x10, .retAddr 0, .retAddr 0] [.int s1, .int s0] h Q := by
  refine g12 c_312_269 ?_
  refine g38 c_312_270 rfl ?_
  refine g6 (L' := [.ref x0, .int x1, .int x2, .int x3, .int x4, .int x5, .int x6, .int x7, .int x8, .int x9, .int x10, .int (s0 * s1), .retAddr 0]) c_312_278 rfl ?_
  refine g5 c_312_280 rfl ?_
  refine g3 c_312_281 rfl ?_
  refine g1 c_312_283 k_3 ?_
  exact g80 (As := [.int x8, .int 3]) (rest := []) c_312_284 rfl rfl (Nat.le_of_ble_eq_true rfl) (Nat.le_of_ble_eq_true rfl) t.1 t.2
set_option maxRecDepth 20000 in
theorem t_312_287 {d : Nat} {h : ab_H} {Q : Option Value → ab_H → Prop} {x0 : Nat} {x1 : Int32} {x2 : Int32} {x3 : Int32} {x4 : Int32} {x5 : Int32} {x6 : Int32} {x7 : Int32} {x8 : Int32} {x9 : Int32} {x10 : Int32} {x11 : Int32} {s0 : Int32} (t : if s0 = 2 then (¬ (3 : Int32) = 0 ∧ ab_ok h x0 112 = true ∧ ∃ j1 : Nat, ab_r h x0 35 = some j1 ∧ ab_ok h x0 112 = true ∧ wm d 199 [.ref x0, .int x8, .int 0] h (fun r9 h9 => wq (d + 1) 312 318 [.ref x0, .int x1, .int x2, .int x3, .int x4, .int x5, .int x6, .int x7, .int x8, .int x9, .int x10, .int x11, .int (x11 / 3)] (r9.toList ++ [.int (24 * x5), .ref j1]) h9 Q)) else (ab_ok h x0 112 = true ∧ ∃ j2 : Nat, ab_r h x0 35 = some j2 ∧ ab_ok h x0 112 = true ∧ wm d 199 [.ref x0, .int x8, .int 0] h (fun r9 h9 => wq (d + 1) 312 318 [.ref x0, .int x1, .int x2, .int x3, .int x4, .int x5, .int x6, .int x7, .int x8, .int x9, .int x10, .int x11, .int x11] (r9.toList ++ [.int (24 * x5), .ref j2]) h9 Q))) : wq (d + 1) 312 287 [.ref x0, .int x1, .int x2, .int x3, .int x4, .int x5, .int x6, .int x7, .int x8, .int x9, .int x10, .int x11, .retAddr 0] [.int s0] h Q := by
  refine g1 c_312_287 k_2 ?_
  refine gcm c_312_288 (gbn t (ab_c1 _ _) rfl (fun hc t => ?_) (fun hc t => ?_))
  · refine g3 c_312_291 rfl ?_
    refine g1 c_312_293 k_3 ?_
    obtain ⟨hy, t⟩ := t
    refine g16 c_312_294 hy ?_
    refine g38 c_312_295 rfl ?_
    refine g6 (L' := [.ref x0, .int x1, .int x2, .int x3, .int x4, .int x5, .int x6, .int x7, .int x8, .int x9, .int x10, .int x11, .int (x11 / 3)]) c_312_300 rfl ?_
    refine g5 c_312_302 rfl ?_
    obtain ⟨ho, j1, hr, t⟩ := t
    refine g45 c_312_303 ho hr ?_
    refine g1 c_312_306 k_24 ?_
    refine g3 c_312_308 rfl ?_
    refine g12 c_312_310 ?_
    refine g5 c_312_311 rfl ?_
    refine g3 c_312_312 rfl ?_
    refine g1 c_312_314 k_0 ?_
    exact g80 (As := [.int x8, .int 0]) (rest := [.int (24 * x5), .ref j1]) c_312_315 rfl rfl (Nat.le_of_ble_eq_true rfl) (Nat.le_of_ble_eq_true rfl) t.1 t.2
  · refine g3 c_312_298 rfl ?_
    refine g6 (L' := [.ref x0, .int x1, .int x2, .int x3, .int x4, .int x5, .int x6, .int x7, .int x8, .int x9, .int x10, .int x11, .int x11]) c_312_300 rfl ?_
    refine g5 c_312_302 rfl ?_
    obtain ⟨ho, j2, hr, t⟩ := t
    refine g45 c_312_303 ho hr ?_
    refine g1 c_312_306 k_24 ?_
    refine g3 c_312_308 rfl ?_
    refine g12 c_312_310 ?_
    refine g5 c_312_311 rfl ?_
    refine g3 c_312_312 rfl ?_
    refine g1 c_312_314 k_0 ?_
    exact g80 (As := [.int x8, .int 0]) (rest := [.int (24 * x5), .ref j2]) c_312_315 rfl rfl (Nat.le_of_ble_eq_true rfl) (Nat.le_of_ble_eq_true rfl) t.1 t.2
set_option maxRecDepth 20000 in
theorem t_312_318 {d : Nat} {h : ab_H} {Q : Option Value → ab_H → Prop} {x0 : Nat} {x1 : Int32} {x2 : Int32} {x3 : Int32} {x4 : Int32} {x5 : Int32} {x6 : Int32} {x7 : Int32} {x8 : Int32} {x9 : Int32} {x10 : Int32} {x11 : Int32} {x12 : Int32} {s0 : Nat} {s1 : Int32} {s2 : Int32} (t : (ab_ok h s0 1 = true ∧ ab_in (s1 + s2) (ab_s h s0).2 = true) ∧ (ab_ok h s0 1 = true ∧ ab_in (s1 + s2) (ab_s h s0).2 = true) ∧ ∀ h1 : ab_H, h1 = ab_pl h s0 (Int32.toNatClampNeg (s1 + s2)) ((ab_l h s0 (Int32.toNatClampNeg (s1 + s2))) + (Int32.toInt64 x12)) → if x12 < x11 then (ab_ok h1 x0 112 = true ∧ ∃ j2 : Nat, ab_r h1 x0 35 = some j2 ∧ ab_ok h1 x0 112 = true ∧ wm d 199 [.ref x0, .int x8, .int 6] h1 (fun r9 h9 => wq (d + 1) 312 362 [.ref x0, .int x1, .int x2, .int x3, .int x4, .int x5, .int x6, .int x7, .int x8, .int x9, .int x10, .int x11, .int x12] (r9.toList ++ [.ref x0, .int (24 * x5), .ref j2]) h9 Q)) else (ab_ok h1 x0 112 = true ∧ wm d 199 [.ref x0, .int x8, .int 3] h1 (fun r9 h9 => wq (d + 1) 312 340 [.ref x0, .int x1, .int x2, .int x3, .int x4, .int x5, .int x6, .int x7, .int x8, .int x9, .int x10, .int x11, .int x12] (r9.toList ++ []) h9 Q))) : wq (d + 1) 312 318 [.ref x0, .int x1, .int x2, .int x3, .int x4, .int x5, .int x6, .int x7, .int x8, .int x9, .int x10, .int x11, .int x12] [.int s2, .int s1, .ref s0] h Q := by
  refine g10 c_312_318 ?_
  refine g34a c_312_319 ?_
  obtain ⟨ho, t⟩ := t
  refine g52 c_312_320 ho ?_
  refine g3 c_312_321 rfl ?_
  refine g31 c_312_323 ?_
  refine g22 c_312_324 ?_
  obtain ⟨ho, t⟩ := t
  refine g56 c_312_325 ho (fun h1 eh1 => ?_)
  have t := t h1 eh1
  refine g3 c_312_326 rfl ?_
  refine g3 c_312_328 rfl ?_
  refine gcm c_312_330 (gbr t rfl rfl (fun hc t => ?_) (fun hc t => ?_))
  · refine g5 c_312_344 rfl ?_
    obtain ⟨ho, j2, hr, t⟩ := t
    refine g45 c_312_345 ho hr ?_
    refine g1 c_312_348 k_24 ?_
    refine g3 c_312_350 rfl ?_
    refine g12 c_312_352 ?_
    refine g5 c_312_353 rfl ?_
    refine g5 c_312_354 rfl ?_
    refine g3 c_312_355 rfl ?_
    refine g1 c_312_357 k_6 ?_
    exact g80 (As := [.int x8, .int 6]) (rest := [.ref x0, .int (24 * x5), .ref j2]) c_312_359 rfl rfl (Nat.le_of_ble_eq_true rfl) (Nat.le_of_ble_eq_true rfl) t.1 t.2
  · refine g5 c_312_333 rfl ?_
    refine g3 c_312_334 rfl ?_
    refine g1 c_312_336 k_3 ?_
    exact g80 (As := [.int x8, .int 3]) (rest := []) c_312_337 rfl rfl (Nat.le_of_ble_eq_true rfl) (Nat.le_of_ble_eq_true rfl) t.1 t.2
set_option maxRecDepth 20000 in
theorem t_312_340 {d : Nat} {h : ab_H} {Q : Option Value → ab_H → Prop} {x0 : Nat} {x1 : Int32} {x2 : Int32} {x3 : Int32} {x4 : Int32} {x5 : Int32} {x6 : Int32} {x7 : Int32} {x8 : Int32} {x9 : Int32} {x10 : Int32} {x11 : Int32} {x12 : Int32} {s0 : Int32} (t : if s0 = 2 then (ab_ok h x0 112 = true ∧ ∃ j1 : Nat, ab_r h x0 35 = some j1 ∧ ab_ok h x0 112 = true ∧ wm d 199 [.ref x0, .int x8, .int 6] h (fun r9 h9 => wq (d + 1) 312 362 [.ref x0, .int x1, .int x2, .int x3, .int x4, .int x5, .int x6, .int x7, .int x8, .int x9, .int x10, .int x11, .int x12] (r9.toList ++ [.ref x0, .int (24 * x5), .ref j1]) h9 Q)) else (wq (d + 1) 312 92 [.ref x0, .int x1, .int x2, .int x3, .int x4, .int x5, .int x6, .int x7, .int (x8 + 1), .int x9, .int x10, .int x11, .int x12] [] h Q)) : wq (d + 1) 312 340 [.ref x0, .int x1, .int x2, .int x3, .int x4, .int x5, .int x6, .int x7, .int x8, .int x9, .int x10, .int x11, .int x12] [.int s0] h Q := by
  refine g1 c_312_340 k_2 ?_
  refine gcm c_312_341 (gbn t (ab_c1 _ _) rfl (fun hc t => ?_) (fun hc t => ?_))
  · refine g5 c_312_344 rfl ?_
    obtain ⟨ho, j1, hr, t⟩ := t
    refine g45 c_312_345 ho hr ?_
    refine g1 c_312_348 k_24 ?_
    refine g3 c_312_350 rfl ?_
    refine g12 c_312_352 ?_
    refine g5 c_312_353 rfl ?_
    refine g5 c_312_354 rfl ?_
    refine g3 c_312_355 rfl ?_
    refine g1 c_312_357 k_6 ?_
    exact g80 (As := [.int x8, .int 6]) (rest := [.ref x0, .int (24 * x5), .ref j1]) c_312_359 rfl rfl (Nat.le_of_ble_eq_true rfl) (Nat.le_of_ble_eq_true rfl) t.1 t.2
  · refine g9 (L' := [.ref x0, .int x1, .int x2, .int x3, .int x4, .int x5, .int x6, .int x7, .int (x8 + 1), .int x9, .int x10, .int x11, .int x12]) c_312_377 rfl k_1 rfl ?_
    refine g38 c_312_380 rfl ?_
    exact t
set_option maxRecDepth 20000 in
theorem t_312_362 {d : Nat} {h : ab_H} {Q : Option Value → ab_H → Prop} {x0 : Nat} {x1 : Int32} {x2 : Int32} {x3 : Int32} {x4 : Int32} {x5 : Int32} {x6 : Int32} {x7 : Int32} {x8 : Int32} {x9 : Int32} {x10 : Int32} {x11 : Int32} {x12 : Int32} {s0 : Nat} {s1 : Int32} {s2 : Nat} {s3 : Int32} (t : ab_ok h s2 112 = true ∧ wm d 199 [.ref s2, .int s3, .int 0] h (fun r9 h9 => wq (d + 1) 312 366 [.ref x0, .int x1, .int x2, .int x3, .int x4, .int x5, .int x6, .int x7, .int x8, .int x9, .int x10, .int x11, .int x12] (r9.toList ++ [.int s1, .ref s0]) h9 Q)) : wq (d + 1) 312 362 [.ref x0, .int x1, .int x2, .int x3, .int x4, .int x5, .int x6, .int x7, .int x8, .int x9, .int x10, .int x11, .int x12] [.int s3, .ref s2, .int s1, .ref s0] h Q := by
  refine g1 c_312_362 k_0 ?_
  exact g80 (As := [.int s3, .int 0]) (rest := [.int s1, .ref s0]) c_312_363 rfl rfl (Nat.le_of_ble_eq_true rfl) (Nat.le_of_ble_eq_true rfl) t.1 t.2
set_option maxRecDepth 20000 in
theorem t_312_366 {d : Nat} {h : ab_H} {Q : Option Value → ab_H → Prop} {x0 : Nat} {x1 : Int32} {x2 : Int32} {x3 : Int32} {x4 : Int32} {x5 : Int32} {x6 : Int32} {x7 : Int32} {x8 : Int32} {x9 : Int32} {x10 : Int32} {x11 : Int32} {x12 : Int32} {s0 : Nat} {s1 : Int32} {s2 : Int32} (t : (ab_ok h s0 1 = true ∧ ab_in (s1 + s2) (ab_s h s0).2 = true) ∧ (ab_ok h s0 1 = true ∧ ab_in (s1 + s2) (ab_s h s0).2 = true) ∧ ∀ h1 : ab_H, h1 = ab_pl h s0 (Int32.toNatClampNeg (s1 + s2)) ((ab_l h s0 (Int32.toNatClampNeg (s1 + s2))) + (Int32.toInt64 (x11 - x12))) → wq d 312 92 [.ref x0, .int x1, .int x2, .int x3, .int x4, .int x5, .int x6, .int x7, .int (x8 + 1), .int x9, .int x10, .int x11, .int x12] [] h1 Q) : wq d 312 366 [.ref x0, .int x1, .int x2, .int x3, .int x4, .int x5, .int x6, .int x7, .int x8, .int x9, .int x10, .int x11, .int x12] [.int s2, .int s1, .ref s0] h Q := by
  refine g10 c_312_366 ?_
  refine g34a c_312_367 ?_
  obtain ⟨ho, t⟩ := t
  refine g52 c_312_368 ho ?_
  refine g3 c_312_369 rfl ?_
  refine g3 c_312_371 rfl ?_
  refine g11 c_312_373 ?_
  refine g31 c_312_374 ?_
  refine g22 c_312_375 ?_
  obtain ⟨ho, t⟩ := t
  refine g56 c_312_376 ho (fun h1 eh1 => ?_)
  have t := t h1 eh1
  refine g9 (L' := [.ref x0, .int x1, .int x2, .int x3, .int x4, .int x5, .int x6, .int x7, .int (x8 + 1), .int x9, .int x10, .int x11, .int x12]) c_312_377 rfl k_1 rfl ?_
  refine g38 c_312_380 rfl ?_
  exact t
-- method 313: MillTownModel.hungryNow(I)I
theorem c_313_0 : pg_cd 313 0 = (1, 1, 0, 0, 0) := by decide +kernel
theorem c_313_1 : pg_cd 313 1 = (6, 1, 0, 2, 0) := by decide +kernel
theorem c_313_2 : pg_cd 313 2 = (1, 1, 0, 0, 0) := by decide +kernel
theorem c_313_3 : pg_cd 313 3 = (6, 1, 0, 3, 0) := by decide +kernel
theorem c_313_4 : pg_cd 313 4 = (3, 1, 0, 3, 0) := by decide +kernel
theorem c_313_5 : pg_cd 313 5 = (5, 1, 0, 0, 0) := by decide +kernel
theorem c_313_6 : pg_cd 313 6 = (45, 12, 8, 0, 0) := by decide +kernel
theorem c_313_9 : pg_cd 313 9 = (1, 1, 0, 0, 3) := by decide +kernel
theorem c_313_10 : pg_cd 313 10 = (50, 1, 0, 0, 0) := by decide +kernel
theorem c_313_11 : pg_cd 313 11 = (37, 3, 0, 3, 46) := by decide +kernel
theorem c_313_14 : pg_cd 313 14 = (3, 1, 0, 2, 0) := by decide +kernel
theorem c_313_15 : pg_cd 313 15 = (5, 1, 0, 0, 0) := by decide +kernel
theorem c_313_16 : pg_cd 313 16 = (3, 1, 0, 3, 0) := by decide +kernel
theorem c_313_17 : pg_cd 313 17 = (1, 1, 0, 0, 3) := by decide +kernel
theorem c_313_18 : pg_cd 313 18 = (80, 200, 99, 0, 0) := by decide +kernel
theorem c_313_21 : pg_cd 313 21 = (36, 3, 0, 1, 27) := by decide +kernel
theorem c_313_24 : pg_cd 313 24 = (5, 1, 0, 0, 0) := by decide +kernel
theorem c_313_25 : pg_cd 313 25 = (45, 12, 59, 36, 0) := by decide +kernel
theorem c_313_28 : pg_cd 313 28 = (3, 1, 0, 3, 0) := by decide +kernel
theorem c_313_29 : pg_cd 313 29 = (52, 1, 0, 0, 0) := by decide +kernel
theorem c_313_30 : pg_cd 313 30 = (5, 1, 0, 0, 0) := by decide +kernel
theorem c_313_31 : pg_cd 313 31 = (45, 12, 62, 40, 0) := by decide +kernel
theorem c_313_34 : pg_cd 313 34 = (3, 1, 0, 3, 0) := by decide +kernel
theorem c_313_35 : pg_cd 313 35 = (50, 1, 0, 0, 0) := by decide +kernel
theorem c_313_36 : pg_cd 313 36 = (31, 1, 0, 0, 0) := by decide +kernel
theorem c_313_37 : pg_cd 313 37 = (3, 1, 0, 1, 0) := by decide +kernel
theorem c_313_38 : pg_cd 313 38 = (31, 1, 0, 0, 0) := by decide +kernel
theorem c_313_39 : pg_cd 313 39 = (24, 1, 0, 0, 0) := by decide +kernel
theorem c_313_40 : pg_cd 313 40 = (28, 1, 0, 0, 0) := by decide +kernel
theorem c_313_41 : pg_cd 313 41 = (36, 3, 0, 3, 7) := by decide +kernel
theorem c_313_44 : pg_cd 313 44 = (1, 1, 0, 0, 1) := by decide +kernel
theorem c_313_45 : pg_cd 313 45 = (38, 3, 0, 0, 4) := by decide +kernel
theorem c_313_48 : pg_cd 313 48 = (1, 1, 0, 0, 0) := by decide +kernel
theorem c_313_49 : pg_cd 313 49 = (10, 1, 0, 0, 0) := by decide +kernel
theorem c_313_50 : pg_cd 313 50 = (6, 1, 0, 2, 0) := by decide +kernel
theorem c_313_51 : pg_cd 313 51 = (9, 3, 0, 3, 1) := by decide +kernel
theorem c_313_54 : pg_cd 313 54 = (38, 3, 0, 0, (-50)) := by decide +kernel
theorem c_313_57 : pg_cd 313 57 = (3, 1, 0, 2, 0) := by decide +kernel
theorem c_313_58 : pg_cd 313 58 = (90, 0, 0, 0, 0) := by decide +kernel
theorem mx_313 : pg_mx 313 = 4 := by decide +kernel
theorem m_313 {d : Nat} {h : ab_H} {Q : Option Value → ab_H → Prop} {x0 : Nat} {x1 : Int32} (t : wq d 313 0 [.ref x0, .int x1, .retAddr 0, .retAddr 0] [] h Q) : wm d 313 [.ref x0, .int x1] h Q := by
  unfold wm
  rw [mx_313]
  exact t
set_option maxRecDepth 20000 in
theorem t_313_0 {d : Nat} {h : ab_H} {Q : Option Value → ab_H → Prop} {x0 : Nat} {x1 : Int32} (t : wq d 313 4 [.ref x0, .int x1, .int 0, .int 0] [] h Q) : wq d 313 0 [.ref x0, .int x1, .retAddr 0, .retAddr 0] [] h Q := by
  refine g1 c_313_0 k_0 ?_
  refine g6 (L' := [.ref x0, .int x1, .int 0, .retAddr 0]) c_313_1 rfl ?_
  refine g1 c_313_2 k_0 ?_
  refine g6 (L' := [.ref x0, .int x1, .int 0, .int 0]) c_313_3 rfl ?_
  exact t
set_option maxRecDepth 20000 in
theorem t_313_4 {d : Nat} {h : ab_H} {Q : Option Value → ab_H → Prop} {x0 : Nat} {x1 : Int32} {x2 : Int32} {x3 : Int32} (t : ab_ok h x0 112 = true ∧ ∃ j1 : Nat, ab_r h x0 0 = some j1 ∧ ((j1 = 0 ∨ ab_ok h j1 0 = true) ∧ ab_in (3 : Int32) (ab_s h j1).2 = true) ∧ if (ab_i h j1 (Int32.toNatClampNeg (3 : Int32))) ≤ x3 then (Q (some (.int x2)) h) else (ab_ok h x0 112 = true ∧ wm d 200 [.ref x0, .int x3, .int 3] h (fun r9 h9 => wq (d + 1) 313 21 [.ref x0, .int x1, .int x2, .int x3] (r9.toList ++ [.int x2]) h9 Q))) : wq (d + 1) 313 4 [.ref x0, .int x1, .int x2, .int x3] [] h Q := by
  refine g3 c_313_4 rfl ?_
  refine g5 c_313_5 rfl ?_
  obtain ⟨ho, j1, hr, t⟩ := t
  refine g45 c_313_6 ho hr ?_
  refine g1 c_313_9 k_3 ?_
  obtain ⟨ho, t⟩ := t
  refine g50 c_313_10 ho ?_
  refine gcm c_313_11 (gbr t rfl rfl (fun hc t => ?_) (fun hc t => ?_))
  · refine g3 c_313_57 rfl ?_
    exact g90 c_313_58 t
  · refine g3 c_313_14 rfl ?_
    refine g5 c_313_15 rfl ?_
    refine g3 c_313_16 rfl ?_
    refine g1 c_313_17 k_3 ?_
    exact g80 (As := [.int x3, .int 3]) (rest := [.int x2]) c_313_18 rfl rfl (Nat.le_of_ble_eq_true rfl) (Nat.le_of_ble_eq_true rfl) t.1 t.2
set_option maxRecDepth 20000 in
theorem t_313_21 {d : Nat} {h : ab_H} {Q : Option Value → ab_H → Prop} {x0 : Nat} {x1 : Int32} {x2 : Int32} {x3 : Int32} {s0 : Int32} {s1 : Int32} (t : if s1 = 0 then (ab_ok h x0 112 = true ∧ ∃ j1 : Nat, ab_r h x0 36 = some j1 ∧ (ab_ok h j1 1 = true ∧ ab_in x3 (ab_s h j1).2 = true) ∧ ab_ok h x0 112 = true ∧ ∃ j2 : Nat, ab_r h x0 40 = some j2 ∧ ((j2 = 0 ∨ ab_ok h j2 0 = true) ∧ ab_in x3 (ab_s h j2).2 = true) ∧ if 0 ≤ (lg_cmp (ab_l h j1 (Int32.toNatClampNeg x3)) ((Int32.toInt64 (ab_i h j2 (Int32.toNatClampNeg x3))) * (Int32.toInt64 x1))) then (wq d 313 4 [.ref x0, .int x1, .int (s0 + 0), .int (x3 + 1)] [] h Q) else (wq d 313 4 [.ref x0, .int x1, .int (s0 + 1), .int (x3 + 1)] [] h Q)) else (wq d 313 4 [.ref x0, .int x1, .int (s0 + 0), .int (x3 + 1)] [] h Q)) : wq d 313 21 [.ref x0, .int x1, .int x2, .int x3] [.int s1, .int s0] h Q := by
  refine gif c_313_21 (gbn t (ab_c1 _ _) rfl (fun hc t => ?_) (fun hc t => ?_))
  · refine g5 c_313_24 rfl ?_
    obtain ⟨ho, j1, hr, t⟩ := t
    refine g45 c_313_25 ho hr ?_
    refine g3 c_313_28 rfl ?_
    obtain ⟨ho, t⟩ := t
    refine g52 c_313_29 ho ?_
    refine g5 c_313_30 rfl ?_
    obtain ⟨ho, j2, hr, t⟩ := t
    refine g45 c_313_31 ho hr ?_
    refine g3 c_313_34 rfl ?_
    obtain ⟨ho, t⟩ := t
    refine g50 c_313_35 ho ?_
    refine g31 c_313_36 ?_
    refine g3 c_313_37 rfl ?_
    refine g31 c_313_38 ?_
    refine g24 c_313_39 ?_
    refine g28 c_313_40 ?_
    refine gif c_313_41 (gbr t rfl rfl (fun hc t => ?_) (fun hc t => ?_))
    · refine g1 c_313_48 k_0 ?_
      refine g10 c_313_49 ?_
      refine g6 (L' := [.ref x0, .int x1, .int (s0 + 0), .int x3]) c_313_50 rfl ?_
      refine g9 (L' := [.ref x0, .int x1, .int (s0 + 0), .int (x3 + 1)]) c_313_51 rfl k_1 rfl ?_
      refine g38 c_313_54 rfl ?_
      exact t
    · refine g1 c_313_44 k_1 ?_
      refine g38 c_313_45 rfl ?_
      refine g10 c_313_49 ?_
      refine g6 (L' := [.ref x0, .int x1, .int (s0 + 1), .int x3]) c_313_50 rfl ?_
      refine g9 (L' := [.ref x0, .int x1, .int (s0 + 1), .int (x3 + 1)]) c_313_51 rfl k_1 rfl ?_
      refine g38 c_313_54 rfl ?_
      exact t
  · refine g1 c_313_48 k_0 ?_
    refine g10 c_313_49 ?_
    refine g6 (L' := [.ref x0, .int x1, .int (s0 + 0), .int x3]) c_313_50 rfl ?_
    refine g9 (L' := [.ref x0, .int x1, .int (s0 + 0), .int (x3 + 1)]) c_313_51 rfl k_1 rfl ?_
    refine g38 c_313_54 rfl ?_
    exact t
-- method 314: MillTownModel.share(I)V
theorem c_314_0 : pg_cd 314 0 = (1, 1, 0, 0, 0) := by decide +kernel
theorem c_314_1 : pg_cd 314 1 = (6, 1, 0, 2, 0) := by decide +kernel
theorem c_314_2 : pg_cd 314 2 = (3, 1, 0, 2, 0) := by decide +kernel
theorem c_314_3 : pg_cd 314 3 = (5, 1, 0, 0, 0) := by decide +kernel
theorem c_314_4 : pg_cd 314 4 = (45, 12, 8, 0, 0) := by decide +kernel
theorem c_314_7 : pg_cd 314 7 = (1, 1, 0, 0, 1) := by decide +kernel
theorem c_314_8 : pg_cd 314 8 = (50, 1, 0, 0, 0) := by decide +kernel
theorem c_314_9 : pg_cd 314 9 = (37, 3, 0, 3, 28) := by decide +kernel
theorem c_314_12 : pg_cd 314 12 = (1, 1, 0, 0, 0) := by decide +kernel
theorem c_314_13 : pg_cd 314 13 = (6, 1, 0, 3, 0) := by decide +kernel
theorem c_314_14 : pg_cd 314 14 = (3, 1, 0, 3, 0) := by decide +kernel
theorem c_314_15 : pg_cd 314 15 = (1, 1, 0, 0, 3) := by decide +kernel
theorem c_314_16 : pg_cd 314 16 = (37, 3, 0, 3, 15) := by decide +kernel
theorem c_314_19 : pg_cd 314 19 = (5, 1, 0, 0, 0) := by decide +kernel
theorem c_314_20 : pg_cd 314 20 = (3, 1, 0, 2, 0) := by decide +kernel
theorem c_314_21 : pg_cd 314 21 = (3, 1, 0, 3, 0) := by decide +kernel
theorem c_314_22 : pg_cd 314 22 = (80, 312, 427, 0, 0) := by decide +kernel
theorem c_314_25 : pg_cd 314 25 = (9, 3, 0, 3, 1) := by decide +kernel
theorem c_314_28 : pg_cd 314 28 = (38, 3, 0, 0, (-14)) := by decide +kernel
theorem c_314_31 : pg_cd 314 31 = (9, 3, 0, 2, 1) := by decide +kernel
theorem c_314_34 : pg_cd 314 34 = (38, 3, 0, 0, (-32)) := by decide +kernel
theorem c_314_37 : pg_cd 314 37 = (1, 1, 0, 0, 0) := by decide +kernel
theorem c_314_38 : pg_cd 314 38 = (6, 1, 0, 2, 0) := by decide +kernel
theorem c_314_39 : pg_cd 314 39 = (3, 1, 0, 2, 0) := by decide +kernel
theorem c_314_40 : pg_cd 314 40 = (5, 1, 0, 0, 0) := by decide +kernel
theorem c_314_41 : pg_cd 314 41 = (45, 12, 8, 0, 0) := by decide +kernel
theorem c_314_44 : pg_cd 314 44 = (1, 1, 0, 0, 3) := by decide +kernel
theorem c_314_45 : pg_cd 314 45 = (50, 1, 0, 0, 0) := by decide +kernel
theorem c_314_46 : pg_cd 314 46 = (37, 3, 0, 3, 20) := by decide +kernel
theorem c_314_49 : pg_cd 314 49 = (5, 1, 0, 0, 0) := by decide +kernel
theorem c_314_50 : pg_cd 314 50 = (45, 12, 62, 40, 0) := by decide +kernel
theorem c_314_53 : pg_cd 314 53 = (3, 1, 0, 2, 0) := by decide +kernel
theorem c_314_54 : pg_cd 314 54 = (5, 1, 0, 0, 0) := by decide +kernel
theorem c_314_55 : pg_cd 314 55 = (3, 1, 0, 2, 0) := by decide +kernel
theorem c_314_56 : pg_cd 314 56 = (80, 288, 370, 0, 0) := by decide +kernel
theorem c_314_59 : pg_cd 314 59 = (54, 1, 0, 0, 0) := by decide +kernel
theorem c_314_60 : pg_cd 314 60 = (9, 3, 0, 2, 1) := by decide +kernel
theorem c_314_63 : pg_cd 314 63 = (38, 3, 0, 0, (-24)) := by decide +kernel
theorem c_314_66 : pg_cd 314 66 = (5, 1, 0, 0, 0) := by decide +kernel
theorem c_314_67 : pg_cd 314 67 = (1, 1, 0, 0, 1) := by decide +kernel
theorem c_314_68 : pg_cd 314 68 = (5, 1, 0, 0, 0) := by decide +kernel
theorem c_314_69 : pg_cd 314 69 = (45, 12, 8, 0, 0) := by decide +kernel
theorem c_314_72 : pg_cd 314 72 = (1, 1, 0, 0, 0) := by decide +kernel
theorem c_314_73 : pg_cd 314 73 = (50, 1, 0, 0, 0) := by decide +kernel
theorem c_314_74 : pg_cd 314 74 = (80, 209, 92, 0, 0) := by decide +kernel
theorem c_314_77 : pg_cd 314 77 = (6, 1, 0, 2, 0) := by decide +kernel
theorem c_314_78 : pg_cd 314 78 = (1, 1, 0, 0, 1) := by decide +kernel
theorem c_314_79 : pg_cd 314 79 = (6, 1, 0, 3, 0) := by decide +kernel
theorem c_314_80 : pg_cd 314 80 = (1, 1, 0, 0, 0) := by decide +kernel
theorem c_314_81 : pg_cd 314 81 = (6, 2, 0, 4, 0) := by decide +kernel
theorem c_314_83 : pg_cd 314 83 = (3, 2, 0, 4, 0) := by decide +kernel
theorem c_314_85 : pg_cd 314 85 = (5, 1, 0, 0, 0) := by decide +kernel
theorem c_314_86 : pg_cd 314 86 = (45, 12, 8, 0, 0) := by decide +kernel
theorem c_314_89 : pg_cd 314 89 = (1, 1, 0, 0, 1) := by decide +kernel
theorem c_314_90 : pg_cd 314 90 = (50, 1, 0, 0, 0) := by decide +kernel
theorem c_314_91 : pg_cd 314 91 = (37, 3, 0, 3, 13) := by decide +kernel
theorem c_314_94 : pg_cd 314 94 = (3, 1, 0, 3, 0) := by decide +kernel
theorem c_314_95 : pg_cd 314 95 = (1, 1, 0, 0, 3) := by decide +kernel
theorem c_314_96 : pg_cd 314 96 = (12, 1, 0, 0, 0) := by decide +kernel
theorem c_314_97 : pg_cd 314 97 = (6, 1, 0, 3, 0) := by decide +kernel
theorem c_314_98 : pg_cd 314 98 = (9, 3, 0, 4, 1) := by decide +kernel
theorem c_314_101 : pg_cd 314 101 = (38, 3, 0, 0, (-18)) := by decide +kernel
theorem c_314_104 : pg_cd 314 104 = (5, 1, 0, 0, 0) := by decide +kernel
theorem c_314_105 : pg_cd 314 105 = (1, 1, 0, 0, (-1)) := by decide +kernel
theorem c_314_106 : pg_cd 314 106 = (46, 12, 430, 39, 0) := by decide +kernel
theorem c_314_109 : pg_cd 314 109 = (1, 1, 0, 0, 0) := by decide +kernel
theorem c_314_110 : pg_cd 314 110 = (6, 2, 0, 4, 0) := by decide +kernel
theorem c_314_112 : pg_cd 314 112 = (3, 2, 0, 4, 0) := by decide +kernel
theorem c_314_114 : pg_cd 314 114 = (3, 1, 0, 3, 0) := by decide +kernel
theorem c_314_115 : pg_cd 314 115 = (37, 3, 0, 3, 251) := by decide +kernel
theorem c_314_118 : pg_cd 314 118 = (3, 1, 0, 3, 0) := by decide +kernel
theorem c_314_119 : pg_cd 314 119 = (6, 2, 0, 5, 0) := by decide +kernel
theorem c_314_121 : pg_cd 314 121 = (1, 1, 0, 0, 0) := by decide +kernel
theorem c_314_122 : pg_cd 314 122 = (6, 2, 0, 6, 0) := by decide +kernel
theorem c_314_124 : pg_cd 314 124 = (1, 1, 0, 0, 1) := by decide +kernel
theorem c_314_125 : pg_cd 314 125 = (6, 2, 0, 7, 0) := by decide +kernel
theorem c_314_127 : pg_cd 314 127 = (1, 1, 0, 0, 0) := by decide +kernel
theorem c_314_128 : pg_cd 314 128 = (6, 2, 0, 8, 0) := by decide +kernel
theorem c_314_130 : pg_cd 314 130 = (3, 2, 0, 8, 0) := by decide +kernel
theorem c_314_132 : pg_cd 314 132 = (5, 1, 0, 0, 0) := by decide +kernel
theorem c_314_133 : pg_cd 314 133 = (45, 12, 8, 0, 0) := by decide +kernel
theorem c_314_136 : pg_cd 314 136 = (1, 1, 0, 0, 3) := by decide +kernel
theorem c_314_137 : pg_cd 314 137 = (50, 1, 0, 0, 0) := by decide +kernel
theorem c_314_138 : pg_cd 314 138 = (37, 3, 0, 3, 17) := by decide +kernel
theorem c_314_141 : pg_cd 314 141 = (5, 1, 0, 0, 0) := by decide +kernel
theorem c_314_142 : pg_cd 314 142 = (45, 12, 59, 36, 0) := by decide +kernel
theorem c_314_145 : pg_cd 314 145 = (3, 2, 0, 8, 0) := by decide +kernel
theorem c_314_147 : pg_cd 314 147 = (2, 1, 0, 0, 0) := by decide +kernel
theorem c_314_148 : pg_cd 314 148 = (56, 1, 0, 0, 0) := by decide +kernel
theorem c_314_149 : pg_cd 314 149 = (9, 3, 0, 8, 1) := by decide +kernel
theorem c_314_152 : pg_cd 314 152 = (38, 3, 0, 0, (-22)) := by decide +kernel
theorem c_314_155 : pg_cd 314 155 = (1, 1, 0, 0, 0) := by decide +kernel
theorem c_314_156 : pg_cd 314 156 = (6, 2, 0, 8, 0) := by decide +kernel
theorem c_314_158 : pg_cd 314 158 = (3, 2, 0, 8, 0) := by decide +kernel
theorem c_314_160 : pg_cd 314 160 = (5, 1, 0, 0, 0) := by decide +kernel
theorem c_314_161 : pg_cd 314 161 = (45, 12, 8, 0, 0) := by decide +kernel
theorem c_314_164 : pg_cd 314 164 = (1, 1, 0, 0, 1) := by decide +kernel
theorem c_314_165 : pg_cd 314 165 = (50, 1, 0, 0, 0) := by decide +kernel
theorem c_314_166 : pg_cd 314 166 = (37, 3, 0, 3, 118) := by decide +kernel
theorem c_314_169 : pg_cd 314 169 = (3, 2, 0, 5, 0) := by decide +kernel
theorem c_314_171 : pg_cd 314 171 = (1, 1, 0, 0, 3) := by decide +kernel
theorem c_314_172 : pg_cd 314 172 = (16, 1, 0, 0, 0) := by decide +kernel
theorem c_314_173 : pg_cd 314 173 = (6, 2, 0, 5, 0) := by decide +kernel
theorem c_314_175 : pg_cd 314 175 = (1, 1, 0, 0, 2) := by decide +kernel
theorem c_314_176 : pg_cd 314 176 = (3, 2, 0, 4, 0) := by decide +kernel
theorem c_314_178 : pg_cd 314 178 = (3, 2, 0, 5, 0) := by decide +kernel
theorem c_314_180 : pg_cd 314 180 = (16, 1, 0, 0, 0) := by decide +kernel
theorem c_314_181 : pg_cd 314 181 = (1, 1, 0, 0, 3) := by decide +kernel
theorem c_314_182 : pg_cd 314 182 = (17, 1, 0, 0, 0) := by decide +kernel
theorem c_314_183 : pg_cd 314 183 = (11, 1, 0, 0, 0) := by decide +kernel
theorem c_314_184 : pg_cd 314 184 = (6, 2, 0, 9, 0) := by decide +kernel
theorem c_314_186 : pg_cd 314 186 = (3, 2, 0, 7, 0) := by decide +kernel
theorem c_314_188 : pg_cd 314 188 = (36, 3, 0, 0, 22) := by decide +kernel
theorem c_314_191 : pg_cd 314 191 = (3, 2, 0, 9, 0) := by decide +kernel
theorem c_314_193 : pg_cd 314 193 = (36, 3, 0, 0, 13) := by decide +kernel
theorem c_314_196 : pg_cd 314 196 = (5, 1, 0, 0, 0) := by decide +kernel
theorem c_314_197 : pg_cd 314 197 = (3, 2, 0, 8, 0) := by decide +kernel
theorem c_314_199 : pg_cd 314 199 = (1, 1, 0, 0, 5) := by decide +kernel
theorem c_314_200 : pg_cd 314 200 = (80, 198, 118, 0, 0) := by decide +kernel
theorem c_314_203 : pg_cd 314 203 = (36, 3, 0, 1, 7) := by decide +kernel
theorem c_314_206 : pg_cd 314 206 = (1, 1, 0, 0, 1) := by decide +kernel
theorem c_314_207 : pg_cd 314 207 = (38, 3, 0, 0, 4) := by decide +kernel
theorem c_314_210 : pg_cd 314 210 = (1, 1, 0, 0, 0) := by decide +kernel
theorem c_314_211 : pg_cd 314 211 = (6, 2, 0, 7, 0) := by decide +kernel
theorem c_314_213 : pg_cd 314 213 = (3, 2, 0, 6, 0) := by decide +kernel
theorem c_314_215 : pg_cd 314 215 = (5, 1, 0, 0, 0) := by decide +kernel
theorem c_314_216 : pg_cd 314 216 = (45, 12, 53, 34, 0) := by decide +kernel
theorem c_314_219 : pg_cd 314 219 = (1, 1, 0, 0, 3) := by decide +kernel
theorem c_314_220 : pg_cd 314 220 = (3, 2, 0, 8, 0) := by decide +kernel
theorem c_314_222 : pg_cd 314 222 = (12, 1, 0, 0, 0) := by decide +kernel
theorem c_314_223 : pg_cd 314 223 = (3, 2, 0, 9, 0) := by decide +kernel
theorem c_314_225 : pg_cd 314 225 = (10, 1, 0, 0, 0) := by decide +kernel
theorem c_314_226 : pg_cd 314 226 = (50, 1, 0, 0, 0) := by decide +kernel
theorem c_314_227 : pg_cd 314 227 = (10, 1, 0, 0, 0) := by decide +kernel
theorem c_314_228 : pg_cd 314 228 = (6, 2, 0, 6, 0) := by decide +kernel
theorem c_314_230 : pg_cd 314 230 = (1, 1, 0, 0, 0) := by decide +kernel
theorem c_314_231 : pg_cd 314 231 = (6, 2, 0, 10, 0) := by decide +kernel
theorem c_314_233 : pg_cd 314 233 = (3, 2, 0, 10, 0) := by decide +kernel
theorem c_314_235 : pg_cd 314 235 = (5, 1, 0, 0, 0) := by decide +kernel
theorem c_314_236 : pg_cd 314 236 = (45, 12, 8, 0, 0) := by decide +kernel
theorem c_314_239 : pg_cd 314 239 = (1, 1, 0, 0, 3) := by decide +kernel
theorem c_314_240 : pg_cd 314 240 = (50, 1, 0, 0, 0) := by decide +kernel
theorem c_314_241 : pg_cd 314 241 = (37, 3, 0, 3, 37) := by decide +kernel
theorem c_314_244 : pg_cd 314 244 = (5, 1, 0, 0, 0) := by decide +kernel
theorem c_314_245 : pg_cd 314 245 = (45, 12, 59, 36, 0) := by decide +kernel
theorem c_314_248 : pg_cd 314 248 = (3, 2, 0, 10, 0) := by decide +kernel
theorem c_314_250 : pg_cd 314 250 = (34, 1, 0, 0, 0) := by decide +kernel
theorem c_314_251 : pg_cd 314 251 = (52, 1, 0, 0, 0) := by decide +kernel
theorem c_314_252 : pg_cd 314 252 = (5, 1, 0, 0, 0) := by decide +kernel
theorem c_314_253 : pg_cd 314 253 = (45, 12, 56, 35, 0) := by decide +kernel
theorem c_314_256 : pg_cd 314 256 = (1, 2, 0, 0, 24) := by decide +kernel
theorem c_314_258 : pg_cd 314 258 = (1, 1, 0, 0, 3) := by decide +kernel
theorem c_314_259 : pg_cd 314 259 = (3, 2, 0, 8, 0) := by decide +kernel
theorem c_314_261 : pg_cd 314 261 = (12, 1, 0, 0, 0) := by decide +kernel
theorem c_314_262 : pg_cd 314 262 = (3, 2, 0, 9, 0) := by decide +kernel
theorem c_314_264 : pg_cd 314 264 = (10, 1, 0, 0, 0) := by decide +kernel
theorem c_314_265 : pg_cd 314 265 = (12, 1, 0, 0, 0) := by decide +kernel
theorem c_314_266 : pg_cd 314 266 = (3, 2, 0, 10, 0) := by decide +kernel
theorem c_314_268 : pg_cd 314 268 = (10, 1, 0, 0, 0) := by decide +kernel
theorem c_314_269 : pg_cd 314 269 = (52, 1, 0, 0, 0) := by decide +kernel
theorem c_314_270 : pg_cd 314 270 = (22, 1, 0, 0, 0) := by decide +kernel
theorem c_314_271 : pg_cd 314 271 = (56, 1, 0, 0, 0) := by decide +kernel
theorem c_314_272 : pg_cd 314 272 = (9, 3, 0, 10, 1) := by decide +kernel
theorem c_314_275 : pg_cd 314 275 = (38, 3, 0, 0, (-42)) := by decide +kernel
theorem c_314_278 : pg_cd 314 278 = (9, 3, 0, 8, 1) := by decide +kernel
theorem c_314_281 : pg_cd 314 281 = (38, 3, 0, 0, (-123)) := by decide +kernel
theorem c_314_284 : pg_cd 314 284 = (3, 2, 0, 7, 0) := by decide +kernel
theorem c_314_286 : pg_cd 314 286 = (36, 3, 0, 0, 74) := by decide +kernel
theorem c_314_289 : pg_cd 314 289 = (3, 2, 0, 6, 0) := by decide +kernel
theorem c_314_291 : pg_cd 314 291 = (3, 1, 0, 1, 0) := by decide +kernel
theorem c_314_292 : pg_cd 314 292 = (37, 3, 0, 5, 6) := by decide +kernel
theorem c_314_295 : pg_cd 314 295 = (38, 3, 0, 0, 65) := by decide +kernel
theorem c_314_298 : pg_cd 314 298 = (5, 1, 0, 0, 0) := by decide +kernel
theorem c_314_299 : pg_cd 314 299 = (3, 1, 0, 2, 0) := by decide +kernel
theorem c_314_300 : pg_cd 314 300 = (80, 313, 433, 0, 0) := by decide +kernel
theorem c_314_303 : pg_cd 314 303 = (6, 2, 0, 8, 0) := by decide +kernel
theorem c_314_305 : pg_cd 314 305 = (5, 1, 0, 0, 0) := by decide +kernel
theorem c_314_306 : pg_cd 314 306 = (43, 12, 430, 39, 0) := by decide +kernel
theorem c_314_309 : pg_cd 314 309 = (36, 3, 0, 2, 33) := by decide +kernel
theorem c_314_312 : pg_cd 314 312 = (3, 2, 0, 8, 0) := by decide +kernel
theorem c_314_314 : pg_cd 314 314 = (5, 1, 0, 0, 0) := by decide +kernel
theorem c_314_315 : pg_cd 314 315 = (43, 12, 436, 37, 0) := by decide +kernel
theorem c_314_318 : pg_cd 314 318 = (37, 3, 0, 4, 42) := by decide +kernel
theorem c_314_321 : pg_cd 314 321 = (3, 2, 0, 8, 0) := by decide +kernel
theorem c_314_323 : pg_cd 314 323 = (5, 1, 0, 0, 0) := by decide +kernel
theorem c_314_324 : pg_cd 314 324 = (43, 12, 436, 37, 0) := by decide +kernel
theorem c_314_327 : pg_cd 314 327 = (37, 3, 0, 1, 15) := by decide +kernel
theorem c_314_330 : pg_cd 314 330 = (3, 2, 0, 6, 0) := by decide +kernel
theorem c_314_332 : pg_cd 314 332 = (5, 1, 0, 0, 0) := by decide +kernel
theorem c_314_333 : pg_cd 314 333 = (43, 12, 439, 38, 0) := by decide +kernel
theorem c_314_336 : pg_cd 314 336 = (37, 3, 0, 4, 6) := by decide +kernel
theorem c_314_339 : pg_cd 314 339 = (38, 3, 0, 0, 21) := by decide +kernel
theorem c_314_342 : pg_cd 314 342 = (5, 1, 0, 0, 0) := by decide +kernel
theorem c_314_343 : pg_cd 314 343 = (3, 2, 0, 4, 0) := by decide +kernel
theorem c_314_345 : pg_cd 314 345 = (46, 12, 430, 39, 0) := by decide +kernel
theorem c_314_348 : pg_cd 314 348 = (5, 1, 0, 0, 0) := by decide +kernel
theorem c_314_349 : pg_cd 314 349 = (3, 2, 0, 8, 0) := by decide +kernel
theorem c_314_351 : pg_cd 314 351 = (46, 12, 436, 37, 0) := by decide +kernel
theorem c_314_354 : pg_cd 314 354 = (5, 1, 0, 0, 0) := by decide +kernel
theorem c_314_355 : pg_cd 314 355 = (3, 2, 0, 6, 0) := by decide +kernel
theorem c_314_357 : pg_cd 314 357 = (46, 12, 439, 38, 0) := by decide +kernel
theorem c_314_360 : pg_cd 314 360 = (9, 3, 0, 4, 1) := by decide +kernel
theorem c_314_363 : pg_cd 314 363 = (38, 3, 0, 0, (-251)) := by decide +kernel
theorem c_314_366 : pg_cd 314 366 = (94, 0, 0, 0, 0) := by decide +kernel
theorem mx_314 : pg_mx 314 = 11 := by decide +kernel
theorem m_314 {d : Nat} {h : ab_H} {Q : Option Value → ab_H → Prop} {x0 : Nat} {x1 : Int32} (t : wq d 314 0 [.ref x0, .int x1, .retAddr 0, .retAddr 0, .retAddr 0, .retAddr 0, .retAddr 0, .retAddr 0, .retAddr 0, .retAddr 0, .retAddr 0] [] h Q) : wm d 314 [.ref x0, .int x1] h Q := by
  unfold wm
  rw [mx_314]
  exact t
set_option maxRecDepth 20000 in
theorem t_314_0 {d : Nat} {h : ab_H} {Q : Option Value → ab_H → Prop} {x0 : Nat} {x1 : Int32} (t : wq d 314 2 [.ref x0, .int x1, .int 0, .retAddr 0, .retAddr 0, .retAddr 0, .retAddr 0, .retAddr 0, .retAddr 0, .retAddr 0, .retAddr 0] [] h Q) : wq d 314 0 [.ref x0, .int x1, .retAddr 0, .retAddr 0, .retAddr 0, .retAddr 0, .retAddr 0, .retAddr 0, .retAddr 0, .retAddr 0, .retAddr 0] [] h Q := by
  refine g1 c_314_0 k_0 ?_
  refine g6 (L' := [.ref x0, .int x1, .int 0, .retAddr 0, .retAddr 0, .retAddr 0, .retAddr 0, .retAddr 0, .retAddr 0, .retAddr 0, .retAddr 0]) c_314_1 rfl ?_
  exact t
set_option maxRecDepth 20000 in
theorem t_314_2 {d : Nat} {h : ab_H} {Q : Option Value → ab_H → Prop} {x0 : Nat} {x1 : Int32} {x2 : Int32} (t : ab_ok h x0 112 = true ∧ ∃ j1 : Nat, ab_r h x0 0 = some j1 ∧ ((j1 = 0 ∨ ab_ok h j1 0 = true) ∧ ab_in (1 : Int32) (ab_s h j1).2 = true) ∧ if (ab_i h j1 (Int32.toNatClampNeg (1 : Int32))) ≤ x2 then (wq d 314 39 [.ref x0, .int x1, .int 0, .retAddr 0, .retAddr 0, .retAddr 0, .retAddr 0, .retAddr 0, .retAddr 0, .retAddr 0, .retAddr 0] [] h Q) else (wq d 314 14 [.ref x0, .int x1, .int x2, .int 0, .retAddr 0, .retAddr 0, .retAddr 0, .retAddr 0, .retAddr 0, .retAddr 0, .retAddr 0] [] h Q)) : wq d 314 2 [.ref x0, .int x1, .int x2, .retAddr 0, .retAddr 0, .retAddr 0, .retAddr 0, .retAddr 0, .retAddr 0, .retAddr 0, .retAddr 0] [] h Q := by
  refine g3 c_314_2 rfl ?_
  refine g5 c_314_3 rfl ?_
  obtain ⟨ho, j1, hr, t⟩ := t
  refine g45 c_314_4 ho hr ?_
  refine g1 c_314_7 k_1 ?_
  obtain ⟨ho, t⟩ := t
  refine g50 c_314_8 ho ?_
  refine gcm c_314_9 (gbr t rfl rfl (fun hc t => ?_) (fun hc t => ?_))
  · refine g1 c_314_37 k_0 ?_
    refine g6 (L' := [.ref x0, .int x1, .int 0, .retAddr 0, .retAddr 0, .retAddr 0, .retAddr 0, .retAddr 0, .retAddr 0, .retAddr 0, .retAddr 0]) c_314_38 rfl ?_
    exact t
  · refine g1 c_314_12 k_0 ?_
    refine g6 (L' := [.ref x0, .int x1, .int x2, .int 0, .retAddr 0, .retAddr 0, .retAddr 0, .retAddr 0, .retAddr 0, .retAddr 0, .retAddr 0]) c_314_13 rfl ?_
    exact t
set_option maxRecDepth 20000 in
theorem t_314_14 {d : Nat} {h : ab_H} {Q : Option Value → ab_H → Prop} {x0 : Nat} {x1 : Int32} {x2 : Int32} {x3 : Int32} (t : if 3 ≤ x3 then (wq (d + 1) 314 2 [.ref x0, .int x1, .int (x2 + 1), .int x3, .retAddr 0, .retAddr 0, .retAddr 0, .retAddr 0, .retAddr 0, .retAddr 0, .retAddr 0] [] h Q) else (ab_ok h x0 112 = true ∧ wm d 312 [.ref x0, .int x2, .int x3] h (fun r9 h9 => wq (d + 1) 314 25 [.ref x0, .int x1, .int x2, .int x3, .retAddr 0, .retAddr 0, .retAddr 0, .retAddr 0, .retAddr 0, .retAddr 0, .retAddr 0] (r9.toList ++ []) h9 Q))) : wq (d + 1) 314 14 [.ref x0, .int x1, .int x2, .int x3, .retAddr 0, .retAddr 0, .retAddr 0, .retAddr 0, .retAddr 0, .retAddr 0, .retAddr 0] [] h Q := by
  refine g3 c_314_14 rfl ?_
  refine g1 c_314_15 k_3 ?_
  refine gcm c_314_16 (gbr t rfl rfl (fun hc t => ?_) (fun hc t => ?_))
  · refine g9 (L' := [.ref x0, .int x1, .int (x2 + 1), .int x3, .retAddr 0, .retAddr 0, .retAddr 0, .retAddr 0, .retAddr 0, .retAddr 0, .retAddr 0]) c_314_31 rfl k_1 rfl ?_
    refine g38 c_314_34 rfl ?_
    exact t
  · refine g5 c_314_19 rfl ?_
    refine g3 c_314_20 rfl ?_
    refine g3 c_314_21 rfl ?_
    exact g80 (As := [.int x2, .int x3]) (rest := []) c_314_22 rfl rfl (Nat.le_of_ble_eq_true rfl) (Nat.le_of_ble_eq_true rfl) t.1 t.2
set_option maxRecDepth 20000 in
theorem t_314_25 {d : Nat} {h : ab_H} {Q : Option Value → ab_H → Prop} {x0 : Nat} {x1 : Int32} {x2 : Int32} {x3 : Int32} (t : wq d 314 14 [.ref x0, .int x1, .int x2, .int (x3 + 1), .retAddr 0, .retAddr 0, .retAddr 0, .retAddr 0, .retAddr 0, .retAddr 0, .retAddr 0] [] h Q) : wq d 314 25 [.ref x0, .int x1, .int x2, .int x3, .retAddr 0, .retAddr 0, .retAddr 0, .retAddr 0, .retAddr 0, .retAddr 0, .retAddr 0] [] h Q := by
  refine g9 (L' := [.ref x0, .int x1, .int x2, .int (x3 + 1), .retAddr 0, .retAddr 0, .retAddr 0, .retAddr 0, .retAddr 0, .retAddr 0, .retAddr 0]) c_314_25 rfl k_1 rfl ?_
  refine g38 c_314_28 rfl ?_
  exact t
set_option maxRecDepth 20000 in
theorem t_314_39 {d : Nat} {h : ab_H} {Q : Option Value → ab_H → Prop} {x0 : Nat} {x1 : Int32} {x2 : Int32} (t : ab_ok h x0 112 = true ∧ ∃ j1 : Nat, ab_r h x0 0 = some j1 ∧ ((j1 = 0 ∨ ab_ok h j1 0 = true) ∧ ab_in (3 : Int32) (ab_s h j1).2 = true) ∧ if (ab_i h j1 (Int32.toNatClampNeg (3 : Int32))) ≤ x2 then (ab_ok h x0 112 = true ∧ ∃ j2 : Nat, ab_r h x0 0 = some j2 ∧ ((j2 = 0 ∨ ab_ok h j2 0 = true) ∧ ab_in (0 : Int32) (ab_s h j2).2 = true) ∧ ab_ok h x0 112 = true ∧ wm d 209 [.ref x0, .int 1, .int (ab_i h j2 (Int32.toNatClampNeg (0 : Int32)))] h (fun r9 h9 => wq (d + 1) 314 77 [.ref x0, .int x1, .int x2, .retAddr 0, .retAddr 0, .retAddr 0, .retAddr 0, .retAddr 0, .retAddr 0, .retAddr 0, .retAddr 0] (r9.toList ++ []) h9 Q)) else (ab_ok h x0 112 = true ∧ ∃ j3 : Nat, ab_r h x0 40 = some j3 ∧ ab_ok h x0 112 = true ∧ wm d 288 [.ref x0, .int x2] h (fun r9 h9 => wq (d + 1) 314 59 [.ref x0, .int x1, .int x2, .retAddr 0, .retAddr 0, .retAddr 0, .retAddr 0, .retAddr 0, .retAddr 0, .retAddr 0, .retAddr 0] (r9.toList ++ [.int x2, .ref j3]) h9 Q))) : wq (d + 1) 314 39 [.ref x0, .int x1, .int x2, .retAddr 0, .retAddr 0, .retAddr 0, .retAddr 0, .retAddr 0, .retAddr 0, .retAddr 0, .retAddr 0] [] h Q := by
  refine g3 c_314_39 rfl ?_
  refine g5 c_314_40 rfl ?_
  obtain ⟨ho, j1, hr, t⟩ := t
  refine g45 c_314_41 ho hr ?_
  refine g1 c_314_44 k_3 ?_
  obtain ⟨ho, t⟩ := t
  refine g50 c_314_45 ho ?_
  refine gcm c_314_46 (gbr t rfl rfl (fun hc t => ?_) (fun hc t => ?_))
  · refine g5 c_314_66 rfl ?_
    refine g1 c_314_67 k_1 ?_
    refine g5 c_314_68 rfl ?_
    obtain ⟨ho, j2, hr, t⟩ := t
    refine g45 c_314_69 ho hr ?_
    refine g1 c_314_72 k_0 ?_
    obtain ⟨ho, t⟩ := t
    refine g50 c_314_73 ho ?_
    exact g80 (As := [.int 1, .int (ab_i h j2 (Int32.toNatClampNeg (0 : Int32)))]) (rest := []) c_314_74 rfl rfl (Nat.le_of_ble_eq_true rfl) (Nat.le_of_ble_eq_true rfl) t.1 t.2
  · refine g5 c_314_49 rfl ?_
    obtain ⟨ho, j3, hr, t⟩ := t
    refine g45 c_314_50 ho hr ?_
    refine g3 c_314_53 rfl ?_
    refine g5 c_314_54 rfl ?_
    refine g3 c_314_55 rfl ?_
    exact g80 (As := [.int x2]) (rest := [.int x2, .ref j3]) c_314_56 rfl rfl (Nat.le_of_ble_eq_true rfl) (Nat.le_of_ble_eq_true rfl) t.1 t.2
set_option maxRecDepth 20000 in
theorem t_314_59 {d : Nat} {h : ab_H} {Q : Option Value → ab_H → Prop} {x0 : Nat} {x1 : Int32} {x2 : Int32} {s0 : Nat} {s1 : Int32} {s2 : Int32} (t : (ab_ok h s0 0 = true ∧ ab_in s1 (ab_s h s0).2 = true) ∧ ∀ h1 : ab_H, h1 = ab_pi h s0 (Int32.toNatClampNeg s1) s2 → wq d 314 39 [.ref x0, .int x1, .int (x2 + 1), .retAddr 0, .retAddr 0, .retAddr 0, .retAddr 0, .retAddr 0, .retAddr 0, .retAddr 0, .retAddr 0] [] h1 Q) : wq d 314 59 [.ref x0, .int x1, .int x2, .retAddr 0, .retAddr 0, .retAddr 0, .retAddr 0, .retAddr 0, .retAddr 0, .retAddr 0, .retAddr 0] [.int s2, .int s1, .ref s0] h Q := by
  obtain ⟨ho, t⟩ := t
  refine g54 c_314_59 ho (fun h1 eh1 => ?_)
  have t := t h1 eh1
  refine g9 (L' := [.ref x0, .int x1, .int (x2 + 1), .retAddr 0, .retAddr 0, .retAddr 0, .retAddr 0, .retAddr 0, .retAddr 0, .retAddr 0, .retAddr 0]) c_314_60 rfl k_1 rfl ?_
  refine g38 c_314_63 rfl ?_
  exact t
set_option maxRecDepth 20000 in
theorem t_314_77 {d : Nat} {h : ab_H} {Q : Option Value → ab_H → Prop} {x0 : Nat} {x1 : Int32} {x2 : Int32} {s0 : Int32} (t : wq d 314 83 [.ref x0, .int x1, .int s0, .int 1, .int 0, .retAddr 0, .retAddr 0, .retAddr 0, .retAddr 0, .retAddr 0, .retAddr 0] [] h Q) : wq d 314 77 [.ref x0, .int x1, .int x2, .retAddr 0, .retAddr 0, .retAddr 0, .retAddr 0, .retAddr 0, .retAddr 0, .retAddr 0, .retAddr 0] [.int s0] h Q := by
  refine g6 (L' := [.ref x0, .int x1, .int s0, .retAddr 0, .retAddr 0, .retAddr 0, .retAddr 0, .retAddr 0, .retAddr 0, .retAddr 0, .retAddr 0]) c_314_77 rfl ?_
  refine g1 c_314_78 k_1 ?_
  refine g6 (L' := [.ref x0, .int x1, .int s0, .int 1, .retAddr 0, .retAddr 0, .retAddr 0, .retAddr 0, .retAddr 0, .retAddr 0, .retAddr 0]) c_314_79 rfl ?_
  refine g1 c_314_80 k_0 ?_
  refine g6 (L' := [.ref x0, .int x1, .int s0, .int 1, .int 0, .retAddr 0, .retAddr 0, .retAddr 0, .retAddr 0, .retAddr 0, .retAddr 0]) c_314_81 rfl ?_
  exact t
set_option maxRecDepth 20000 in
theorem t_314_83 {d : Nat} {h : ab_H} {Q : Option Value → ab_H → Prop} {x0 : Nat} {x1 : Int32} {x2 : Int32} {x3 : Int32} {x4 : Int32} (t : ab_ok h x0 112 = true ∧ ∃ j1 : Nat, ab_r h x0 0 = some j1 ∧ ((j1 = 0 ∨ ab_ok h j1 0 = true) ∧ ab_in (1 : Int32) (ab_s h j1).2 = true) ∧ if (ab_i h j1 (Int32.toNatClampNeg (1 : Int32))) ≤ x4 then (ab_ok h x0 112 = true ∧ ∀ h2 : ab_H, h2 = ab_pi h x0 39 (-1) → wq d 314 112 [.ref x0, .int x1, .int x2, .int x3, .int 0, .retAddr 0, .retAddr 0, .retAddr 0, .retAddr 0, .retAddr 0, .retAddr 0] [] h2 Q) else (wq d 314 83 [.ref x0, .int x1, .int x2, .int (x3 * 3), .int (x4 + 1), .retAddr 0, .retAddr 0, .retAddr 0, .retAddr 0, .retAddr 0, .retAddr 0] [] h Q)) : wq d 314 83 [.ref x0, .int x1, .int x2, .int x3, .int x4, .retAddr 0, .retAddr 0, .retAddr 0, .retAddr 0, .retAddr 0, .retAddr 0] [] h Q := by
  refine g3 c_314_83 rfl ?_
  refine g5 c_314_85 rfl ?_
  obtain ⟨ho, j1, hr, t⟩ := t
  refine g45 c_314_86 ho hr ?_
  refine g1 c_314_89 k_1 ?_
  obtain ⟨ho, t⟩ := t
  refine g50 c_314_90 ho ?_
  refine gcm c_314_91 (gbr t rfl rfl (fun hc t => ?_) (fun hc t => ?_))
  · refine g5 c_314_104 rfl ?_
    refine g1 c_314_105 k_m1 ?_
    obtain ⟨ho, t⟩ := t
    refine g46 c_314_106 ho (fun h2 eh2 => ?_)
    have t := t h2 eh2
    refine g1 c_314_109 k_0 ?_
    refine g6 (L' := [.ref x0, .int x1, .int x2, .int x3, .int 0, .retAddr 0, .retAddr 0, .retAddr 0, .retAddr 0, .retAddr 0, .retAddr 0]) c_314_110 rfl ?_
    exact t
  · refine g3 c_314_94 rfl ?_
    refine g1 c_314_95 k_3 ?_
    refine g12 c_314_96 ?_
    refine g6 (L' := [.ref x0, .int x1, .int x2, .int (x3 * 3), .int x4, .retAddr 0, .retAddr 0, .retAddr 0, .retAddr 0, .retAddr 0, .retAddr 0]) c_314_97 rfl ?_
    refine g9 (L' := [.ref x0, .int x1, .int x2, .int (x3 * 3), .int (x4 + 1), .retAddr 0, .retAddr 0, .retAddr 0, .retAddr 0, .retAddr 0, .retAddr 0]) c_314_98 rfl k_1 rfl ?_
    refine g38 c_314_101 rfl ?_
    exact t
set_option maxRecDepth 20000 in
theorem t_314_112 {d : Nat} {h : ab_H} {Q : Option Value → ab_H → Prop} {x0 : Nat} {x1 : Int32} {x2 : Int32} {x3 : Int32} {x4 : Int32} (t : if x3 ≤ x4 then (Q none h) else (wq d 314 130 [.ref x0, .int x1, .int x2, .int x3, .int x4, .int x3, .int 0, .int 1, .int 0, .retAddr 0, .retAddr 0] [] h Q)) : wq d 314 112 [.ref x0, .int x1, .int x2, .int x3, .int x4, .retAddr 0, .retAddr 0, .retAddr 0, .retAddr 0, .retAddr 0, .retAddr 0] [] h Q := by
  refine g3 c_314_112 rfl ?_
  refine g3 c_314_114 rfl ?_
  refine gcm c_314_115 (gbr t rfl rfl (fun hc t => ?_) (fun hc t => ?_))
  · exact g94 c_314_366 t
  · refine g3 c_314_118 rfl ?_
    refine g6 (L' := [.ref x0, .int x1, .int x2, .int x3, .int x4, .int x3, .retAddr 0, .retAddr 0, .retAddr 0, .retAddr 0, .retAddr 0]) c_314_119 rfl ?_
    refine g1 c_314_121 k_0 ?_
    refine g6 (L' := [.ref x0, .int x1, .int x2, .int x3, .int x4, .int x3, .int 0, .retAddr 0, .retAddr 0, .retAddr 0, .retAddr 0]) c_314_122 rfl ?_
    refine g1 c_314_124 k_1 ?_
    refine g6 (L' := [.ref x0, .int x1, .int x2, .int x3, .int x4, .int x3, .int 0, .int 1, .retAddr 0, .retAddr 0, .retAddr 0]) c_314_125 rfl ?_
    refine g1 c_314_127 k_0 ?_
    refine g6 (L' := [.ref x0, .int x1, .int x2, .int x3, .int x4, .int x3, .int 0, .int 1, .int 0, .retAddr 0, .retAddr 0]) c_314_128 rfl ?_
    exact t
set_option maxRecDepth 20000 in
theorem t_314_130 {d : Nat} {h : ab_H} {Q : Option Value → ab_H → Prop} {x0 : Nat} {x1 : Int32} {x2 : Int32} {x3 : Int32} {x4 : Int32} {x5 : Int32} {x6 : Int32} {x7 : Int32} {x8 : Int32} (t : ab_ok h x0 112 = true ∧ ∃ j1 : Nat, ab_r h x0 0 = some j1 ∧ ((j1 = 0 ∨ ab_ok h j1 0 = true) ∧ ab_in (3 : Int32) (ab_s h j1).2 = true) ∧ if (ab_i h j1 (Int32.toNatClampNeg (3 : Int32))) ≤ x8 then (wq d 314 158 [.ref x0, .int x1, .int x2, .int x3, .int x4, .int x5, .int x6, .int x7, .int 0, .retAddr 0, .retAddr 0] [] h Q) else (ab_ok h x0 112 = true ∧ ∃ j2 : Nat, ab_r h x0 36 = some j2 ∧ (ab_ok h j2 1 = true ∧ ab_in x8 (ab_s h j2).2 = true) ∧ ∀ h3 : ab_H, h3 = ab_pl h j2 (Int32.toNatClampNeg x8) 0 → wq d 314 130 [.ref x0, .int x1, .int x2, .int x3, .int x4, .int x5, .int x6, .int x7, .int (x8 + 1), .retAddr 0, .retAddr 0] [] h3 Q)) : wq d 314 130 [.ref x0, .int x1, .int x2, .int x3, .int x4, .int x5, .int x6, .int x7, .int x8, .retAddr 0, .retAddr 0] [] h Q := by
  refine g3 c_314_130 rfl ?_
  refine g5 c_314_132 rfl ?_
  obtain ⟨ho, j1, hr, t⟩ := t
  refine g45 c_314_133 ho hr ?_
  refine g1 c_314_136 k_3 ?_
  obtain ⟨ho, t⟩ := t
  refine g50 c_314_137 ho ?_
  refine gcm c_314_138 (gbr t rfl rfl (fun hc t => ?_) (fun hc t => ?_))
  · refine g1 c_314_155 k_0 ?_
    refine g6 (L' := [.ref x0, .int x1, .int x2, .int x3, .int x4, .int x5, .int x6, .int x7, .int 0, .retAddr 0, .retAddr 0]) c_314_156 rfl ?_
    exact t
  · refine g5 c_314_141 rfl ?_
    obtain ⟨ho, j2, hr, t⟩ := t
    refine g45 c_314_142 ho hr ?_
    refine g3 c_314_145 rfl ?_
    refine g2 c_314_147 kl_0 ?_
    obtain ⟨ho, t⟩ := t
    refine g56 c_314_148 ho (fun h3 eh3 => ?_)
    have t := t h3 eh3
    refine g9 (L' := [.ref x0, .int x1, .int x2, .int x3, .int x4, .int x5, .int x6, .int x7, .int (x8 + 1), .retAddr 0, .retAddr 0]) c_314_149 rfl k_1 rfl ?_
    refine g38 c_314_152 rfl ?_
    exact t
set_option maxRecDepth 20000 in
theorem t_314_158 {d : Nat} {h : ab_H} {Q : Option Value → ab_H → Prop} {x0 : Nat} {x1 : Int32} {x2 : Int32} {x3 : Int32} {x4 : Int32} {x5 : Int32} {x6 : Int32} {x7 : Int32} {x8 : Int32} (t : ab_ok h x0 112 = true ∧ ∃ j1 : Nat, ab_r h x0 0 = some j1 ∧ ((j1 = 0 ∨ ab_ok h j1 0 = true) ∧ ab_in (1 : Int32) (ab_s h j1).2 = true) ∧ if (ab_i h j1 (Int32.toNatClampNeg (1 : Int32))) ≤ x8 then (if x7 = 0 then (wq (d + 1) 314 112 [.ref x0, .int x1, .int x2, .int x3, .int (x4 + 1), .int x5, .int x6, .int x7, .int x8, .retAddr 0, .retAddr 0] [] h Q) else (if x6 ≤ x1 then (ab_ok h x0 112 = true ∧ wm d 313 [.ref x0, .int x2] h (fun r9 h9 => wq (d + 1) 314 303 [.ref x0, .int x1, .int x2, .int x3, .int x4, .int x5, .int x6, .int x7, .int x8, .retAddr 0, .retAddr 0] (r9.toList ++ []) h9 Q)) else (wq (d + 1) 314 112 [.ref x0, .int x1, .int x2, .int x3, .int (x4 + 1), .int x5, .int x6, .int x7, .int x8, .retAddr 0, .retAddr 0] [] h Q))) else (¬ (3 : Int32) = 0 ∧ ¬ (x5 / 3 : Int32) = 0 ∧ ¬ (3 : Int32) = 0 ∧ ∀ y2 : Int32, y2 = (2 - ((x4 / (x5 / 3)) - (x4 / (x5 / 3)) / 3 * 3)) → if x7 = 0 then (ab_ok h x0 112 = true ∧ ∃ j3 : Nat, ab_r h x0 34 = some j3 ∧ ((j3 = 0 ∨ ab_ok h j3 0 = true) ∧ ab_in ((3 * x8) + y2) (ab_s h j3).2 = true) ∧ ∀ y4 : Int32, y4 = (x6 + (ab_i h j3 (Int32.toNatClampNeg ((3 * x8) + y2)))) → wq (d + 1) 314 233 [.ref x0, .int x1, .int x2, .int x3, .int x4, .int (x5 / 3), .int y4, .int 0, .int x8, .int y2, .int 0] [] h Q) else (if y2 = 0 then (ab_ok h x0 112 = true ∧ ∃ j5 : Nat, ab_r h x0 34 = some j5 ∧ ((j5 = 0 ∨ ab_ok h j5 0 = true) ∧ ab_in ((3 * x8) + y2) (ab_s h j5).2 = true) ∧ ∀ y6 : Int32, y6 = (x6 + (ab_i h j5 (Int32.toNatClampNeg ((3 * x8) + y2)))) → wq (d + 1) 314 233 [.ref x0, .int x1, .int x2, .int x3, .int x4, .int (x5 / 3), .int y6, .int 1, .int x8, .int y2, .int 0] [] h Q) else (ab_ok h x0 112 = true ∧ wm d 198 [.ref x0, .int x8, .int 5] h (fun r9 h9 => wq (d + 1) 314 203 [.ref x0, .int x1, .int x2, .int x3, .int x4, .int (x5 / 3), .int x6, .int x7, .int x8, .int y2, .retAddr 0] (r9.toList ++ []) h9 Q))))) : wq (d + 1) 314 158 [.ref x0, .int x1, .int x2, .int x3, .int x4, .int x5, .int x6, .int x7, .int x8, .retAddr 0, .retAddr 0] [] h Q := by
  refine g3 c_314_158 rfl ?_
  refine g5 c_314_160 rfl ?_
  obtain ⟨ho, j1, hr, t⟩ := t
  refine g45 c_314_161 ho hr ?_
  refine g1 c_314_164 k_1 ?_
  obtain ⟨ho, t⟩ := t
  refine g50 c_314_165 ho ?_
  refine gcm c_314_166 (gbr t rfl rfl (fun hc t => ?_) (fun hc t => ?_))
  · refine g3 c_314_284 rfl ?_
    refine gif c_314_286 (gbr t rfl rfl (fun hc t => ?_) (fun hc t => ?_))
    · refine g9 (L' := [.ref x0, .int x1, .int x2, .int x3, .int (x4 + 1), .int x5, .int x6, .int x7, .int x8, .retAddr 0, .retAddr 0]) c_314_360 rfl k_1 rfl ?_
      refine g38 c_314_363 rfl ?_
      exact t
    · refine g3 c_314_289 rfl ?_
      refine g3 c_314_291 rfl ?_
      refine gcm c_314_292 (gbr t rfl rfl (fun hc t => ?_) (fun hc t => ?_))
      · refine g5 c_314_298 rfl ?_
        refine g3 c_314_299 rfl ?_
        exact g80 (As := [.int x2]) (rest := []) c_314_300 rfl rfl (Nat.le_of_ble_eq_true rfl) (Nat.le_of_ble_eq_true rfl) t.1 t.2
      · refine g38 c_314_295 rfl ?_
        refine g9 (L' := [.ref x0, .int x1, .int x2, .int x3, .int (x4 + 1), .int x5, .int x6, .int x7, .int x8, .retAddr 0, .retAddr 0]) c_314_360 rfl k_1 rfl ?_
        refine g38 c_314_363 rfl ?_
        exact t
  · refine g3 c_314_169 rfl ?_
    refine g1 c_314_171 k_3 ?_
    obtain ⟨hy, t⟩ := t
    refine g16 c_314_172 hy ?_
    refine g6 (L' := [.ref x0, .int x1, .int x2, .int x3, .int x4, .int (x5 / 3), .int x6, .int x7, .int x8, .retAddr 0, .retAddr 0]) c_314_173 rfl ?_
    refine g1 c_314_175 k_2 ?_
    refine g3 c_314_176 rfl ?_
    refine g3 c_314_178 rfl ?_
    obtain ⟨hy, t⟩ := t
    refine g16 c_314_180 hy ?_
    refine g1 c_314_181 k_3 ?_
    obtain ⟨hy, t⟩ := t
    refine g17 c_314_182 hy ?_
    refine g11 c_314_183 ?_
    refine g6y (Lf := fun y2 => [.ref x0, .int x1, .int x2, .int x3, .int x4, .int (x5 / 3), .int x6, .int x7, .int x8, .int y2, .retAddr 0]) c_314_184 (fun _ => rfl) (fun y2 ey2 => ?_)
    have t := t y2 ey2
    refine g3 c_314_186 rfl ?_
    refine gif c_314_188 (gbr t rfl rfl (fun hc t => ?_) (fun hc t => ?_))
    · refine g1 c_314_210 k_0 ?_
      refine g6 (L' := [.ref x0, .int x1, .int x2, .int x3, .int x4, .int (x5 / 3), .int x6, .int 0, .int x8, .int y2, .retAddr 0]) c_314_211 rfl ?_
      refine g3 c_314_213 rfl ?_
      refine g5 c_314_215 rfl ?_
      obtain ⟨ho, j3, hr, t⟩ := t
      refine g45 c_314_216 ho hr ?_
      refine g1 c_314_219 k_3 ?_
      refine g3 c_314_220 rfl ?_
      refine g12 c_314_222 ?_
      refine g3 c_314_223 rfl ?_
      refine g10 c_314_225 ?_
      obtain ⟨ho, t⟩ := t
      refine g50 c_314_226 ho ?_
      refine g10 c_314_227 ?_
      refine g6y (Lf := fun y4 => [.ref x0, .int x1, .int x2, .int x3, .int x4, .int (x5 / 3), .int y4, .int 0, .int x8, .int y2, .retAddr 0]) c_314_228 (fun _ => rfl) (fun y4 ey4 => ?_)
      have t := t y4 ey4
      refine g1 c_314_230 k_0 ?_
      refine g6 (L' := [.ref x0, .int x1, .int x2, .int x3, .int x4, .int (x5 / 3), .int y4, .int 0, .int x8, .int y2, .int 0]) c_314_231 rfl ?_
      exact t
    · refine g3 c_314_191 rfl ?_
      refine gif c_314_193 (gbr t rfl rfl (fun hc t => ?_) (fun hc t => ?_))
      · refine g1 c_314_206 k_1 ?_
        refine g38 c_314_207 rfl ?_
        refine g6 (L' := [.ref x0, .int x1, .int x2, .int x3, .int x4, .int (x5 / 3), .int x6, .int 1, .int x8, .int y2, .retAddr 0]) c_314_211 rfl ?_
        refine g3 c_314_213 rfl ?_
        refine g5 c_314_215 rfl ?_
        obtain ⟨ho, j5, hr, t⟩ := t
        refine g45 c_314_216 ho hr ?_
        refine g1 c_314_219 k_3 ?_
        refine g3 c_314_220 rfl ?_
        refine g12 c_314_222 ?_
        refine g3 c_314_223 rfl ?_
        refine g10 c_314_225 ?_
        obtain ⟨ho, t⟩ := t
        refine g50 c_314_226 ho ?_
        refine g10 c_314_227 ?_
        refine g6y (Lf := fun y6 => [.ref x0, .int x1, .int x2, .int x3, .int x4, .int (x5 / 3), .int y6, .int 1, .int x8, .int y2, .retAddr 0]) c_314_228 (fun _ => rfl) (fun y6 ey6 => ?_)
        have t := t y6 ey6
        refine g1 c_314_230 k_0 ?_
        refine g6 (L' := [.ref x0, .int x1, .int x2, .int x3, .int x4, .int (x5 / 3), .int y6, .int 1, .int x8, .int y2, .int 0]) c_314_231 rfl ?_
        exact t
      · refine g5 c_314_196 rfl ?_
        refine g3 c_314_197 rfl ?_
        refine g1 c_314_199 k_5 ?_
        exact g80 (As := [.int x8, .int 5]) (rest := []) c_314_200 rfl rfl (Nat.le_of_ble_eq_true rfl) (Nat.le_of_ble_eq_true rfl) t.1 t.2
set_option maxRecDepth 20000 in
theorem t_314_203 {d : Nat} {h : ab_H} {Q : Option Value → ab_H → Prop} {x0 : Nat} {x1 : Int32} {x2 : Int32} {x3 : Int32} {x4 : Int32} {x5 : Int32} {x6 : Int32} {x7 : Int32} {x8 : Int32} {x9 : Int32} {s0 : Int32} (t : if s0 = 0 then (ab_ok h x0 112 = true ∧ ∃ j1 : Nat, ab_r h x0 34 = some j1 ∧ ((j1 = 0 ∨ ab_ok h j1 0 = true) ∧ ab_in ((3 * x8) + x9) (ab_s h j1).2 = true) ∧ ∀ y2 : Int32, y2 = (x6 + (ab_i h j1 (Int32.toNatClampNeg ((3 * x8) + x9)))) → wq d 314 233 [.ref x0, .int x1, .int x2, .int x3, .int x4, .int x5, .int y2, .int 1, .int x8, .int x9, .int 0] [] h Q) else (ab_ok h x0 112 = true ∧ ∃ j3 : Nat, ab_r h x0 34 = some j3 ∧ ((j3 = 0 ∨ ab_ok h j3 0 = true) ∧ ab_in ((3 * x8) + x9) (ab_s h j3).2 = true) ∧ ∀ y4 : Int32, y4 = (x6 + (ab_i h j3 (Int32.toNatClampNeg ((3 * x8) + x9)))) → wq d 314 233 [.ref x0, .int x1, .int x2, .int x3, .int x4, .int x5, .int y4, .int 0, .int x8, .int x9, .int 0] [] h Q)) : wq d 314 203 [.ref x0, .int x1, .int x2, .int x3, .int x4, .int x5, .int x6, .int x7, .int x8, .int x9, .retAddr 0] [.int s0] h Q := by
  refine gif c_314_203 (gbn t (ab_c1 _ _) rfl (fun hc t => ?_) (fun hc t => ?_))
  · refine g1 c_314_206 k_1 ?_
    refine g38 c_314_207 rfl ?_
    refine g6 (L' := [.ref x0, .int x1, .int x2, .int x3, .int x4, .int x5, .int x6, .int 1, .int x8, .int x9, .retAddr 0]) c_314_211 rfl ?_
    refine g3 c_314_213 rfl ?_
    refine g5 c_314_215 rfl ?_
    obtain ⟨ho, j1, hr, t⟩ := t
    refine g45 c_314_216 ho hr ?_
    refine g1 c_314_219 k_3 ?_
    refine g3 c_314_220 rfl ?_
    refine g12 c_314_222 ?_
    refine g3 c_314_223 rfl ?_
    refine g10 c_314_225 ?_
    obtain ⟨ho, t⟩ := t
    refine g50 c_314_226 ho ?_
    refine g10 c_314_227 ?_
    refine g6y (Lf := fun y2 => [.ref x0, .int x1, .int x2, .int x3, .int x4, .int x5, .int y2, .int 1, .int x8, .int x9, .retAddr 0]) c_314_228 (fun _ => rfl) (fun y2 ey2 => ?_)
    have t := t y2 ey2
    refine g1 c_314_230 k_0 ?_
    refine g6 (L' := [.ref x0, .int x1, .int x2, .int x3, .int x4, .int x5, .int y2, .int 1, .int x8, .int x9, .int 0]) c_314_231 rfl ?_
    exact t
  · refine g1 c_314_210 k_0 ?_
    refine g6 (L' := [.ref x0, .int x1, .int x2, .int x3, .int x4, .int x5, .int x6, .int 0, .int x8, .int x9, .retAddr 0]) c_314_211 rfl ?_
    refine g3 c_314_213 rfl ?_
    refine g5 c_314_215 rfl ?_
    obtain ⟨ho, j3, hr, t⟩ := t
    refine g45 c_314_216 ho hr ?_
    refine g1 c_314_219 k_3 ?_
    refine g3 c_314_220 rfl ?_
    refine g12 c_314_222 ?_
    refine g3 c_314_223 rfl ?_
    refine g10 c_314_225 ?_
    obtain ⟨ho, t⟩ := t
    refine g50 c_314_226 ho ?_
    refine g10 c_314_227 ?_
    refine g6y (Lf := fun y4 => [.ref x0, .int x1, .int x2, .int x3, .int x4, .int x5, .int y4, .int 0, .int x8, .int x9, .retAddr 0]) c_314_228 (fun _ => rfl) (fun y4 ey4 => ?_)
    have t := t y4 ey4
    refine g1 c_314_230 k_0 ?_
    refine g6 (L' := [.ref x0, .int x1, .int x2, .int x3, .int x4, .int x5, .int y4, .int 0, .int x8, .int x9, .int 0]) c_314_231 rfl ?_
    exact t
set_option maxRecDepth 20000 in
theorem t_314_233 {d : Nat} {h : ab_H} {Q : Option Value → ab_H → Prop} {x0 : Nat} {x1 : Int32} {x2 : Int32} {x3 : Int32} {x4 : Int32} {x5 : Int32} {x6 : Int32} {x7 : Int32} {x8 : Int32} {x9 : Int32} {x10 : Int32} (t : ab_ok h x0 112 = true ∧ ∃ j1 : Nat, ab_r h x0 0 = some j1 ∧ ((j1 = 0 ∨ ab_ok h j1 0 = true) ∧ ab_in (3 : Int32) (ab_s h j1).2 = true) ∧ if (ab_i h j1 (Int32.toNatClampNeg (3 : Int32))) ≤ x10 then (wq d 314 158 [.ref x0, .int x1, .int x2, .int x3, .int x4, .int x5, .int x6, .int x7, .int (x8 + 1), .int x9, .int x10] [] h Q) else (ab_ok h x0 112 = true ∧ ∃ j2 : Nat, ab_r h x0 36 = some j2 ∧ (ab_ok h j2 1 = true ∧ ab_in x10 (ab_s h j2).2 = true) ∧ ab_ok h x0 112 = true ∧ ∃ j3 : Nat, ab_r h x0 35 = some j3 ∧ (ab_ok h j3 1 = true ∧ ab_in ((24 * ((3 * x8) + x9)) + x10) (ab_s h j3).2 = true) ∧ (ab_ok h j2 1 = true ∧ ab_in x10 (ab_s h j2).2 = true) ∧ ∀ h4 : ab_H, h4 = ab_pl h j2 (Int32.toNatClampNeg x10) ((ab_l h j2 (Int32.toNatClampNeg x10)) + (ab_l h j3 (Int32.toNatClampNeg ((24 * ((3 * x8) + x9)) + x10)))) → wq d 314 233 [.ref x0, .int x1, .int x2, .int x3, .int x4, .int x5, .int x6, .int x7, .int x8, .int x9, .int (x10 + 1)] [] h4 Q)) : wq d 314 233 [.ref x0, .int x1, .int x2, .int x3, .int x4, .int x5, .int x6, .int x7, .int x8, .int x9, .int x10] [] h Q := by
  refine g3 c_314_233 rfl ?_
  refine g5 c_314_235 rfl ?_
  obtain ⟨ho, j1, hr, t⟩ := t
  refine g45 c_314_236 ho hr ?_
  refine g1 c_314_239 k_3 ?_
  obtain ⟨ho, t⟩ := t
  refine g50 c_314_240 ho ?_
  refine gcm c_314_241 (gbr t rfl rfl (fun hc t => ?_) (fun hc t => ?_))
  · refine g9 (L' := [.ref x0, .int x1, .int x2, .int x3, .int x4, .int x5, .int x6, .int x7, .int (x8 + 1), .int x9, .int x10]) c_314_278 rfl k_1 rfl ?_
    refine g38 c_314_281 rfl ?_
    exact t
  · refine g5 c_314_244 rfl ?_
    obtain ⟨ho, j2, hr, t⟩ := t
    refine g45 c_314_245 ho hr ?_
    refine g3 c_314_248 rfl ?_
    refine g34a c_314_250 ?_
    obtain ⟨ho, t⟩ := t
    refine g52 c_314_251 ho ?_
    refine g5 c_314_252 rfl ?_
    obtain ⟨ho, j3, hr, t⟩ := t
    refine g45 c_314_253 ho hr ?_
    refine g1 c_314_256 k_24 ?_
    refine g1 c_314_258 k_3 ?_
    refine g3 c_314_259 rfl ?_
    refine g12 c_314_261 ?_
    refine g3 c_314_262 rfl ?_
    refine g10 c_314_264 ?_
    refine g12 c_314_265 ?_
    refine g3 c_314_266 rfl ?_
    refine g10 c_314_268 ?_
    obtain ⟨ho, t⟩ := t
    refine g52 c_314_269 ho ?_
    refine g22 c_314_270 ?_
    obtain ⟨ho, t⟩ := t
    refine g56 c_314_271 ho (fun h4 eh4 => ?_)
    have t := t h4 eh4
    refine g9 (L' := [.ref x0, .int x1, .int x2, .int x3, .int x4, .int x5, .int x6, .int x7, .int x8, .int x9, .int (x10 + 1)]) c_314_272 rfl k_1 rfl ?_
    refine g38 c_314_275 rfl ?_
    exact t
set_option maxRecDepth 20000 in
theorem t_314_303 {d : Nat} {h : ab_H} {Q : Option Value → ab_H → Prop} {x0 : Nat} {x1 : Int32} {x2 : Int32} {x3 : Int32} {x4 : Int32} {x5 : Int32} {x6 : Int32} {x7 : Int32} {x8 : Int32} {s0 : Int32} (t : ab_ok h x0 112 = true ∧ if (ab_i h x0 39) < 0 then (ab_ok h x0 112 = true ∧ ∀ h1 : ab_H, h1 = ab_pi h x0 39 x4 → ab_ok h1 x0 112 = true ∧ ∀ h2 : ab_H, h2 = ab_pi h1 x0 37 s0 → ab_ok h2 x0 112 = true ∧ ∀ h3 : ab_H, h3 = ab_pi h2 x0 38 x6 → wq d 314 112 [.ref x0, .int x1, .int x2, .int x3, .int (x4 + 1), .int x5, .int x6, .int x7, .int s0, .retAddr 0, .retAddr 0] [] h3 Q) else (ab_ok h x0 112 = true ∧ if (ab_i h x0 37) < s0 then (wq d 314 112 [.ref x0, .int x1, .int x2, .int x3, .int (x4 + 1), .int x5, .int x6, .int x7, .int s0, .retAddr 0, .retAddr 0] [] h Q) else (ab_ok h x0 112 = true ∧ if s0 = (ab_i h x0 37) then (ab_ok h x0 112 = true ∧ if (ab_i h x0 38) < x6 then (ab_ok h x0 112 = true ∧ ∀ h4 : ab_H, h4 = ab_pi h x0 39 x4 → ab_ok h4 x0 112 = true ∧ ∀ h5 : ab_H, h5 = ab_pi h4 x0 37 s0 → ab_ok h5 x0 112 = true ∧ ∀ h6 : ab_H, h6 = ab_pi h5 x0 38 x6 → wq d 314 112 [.ref x0, .int x1, .int x2, .int x3, .int (x4 + 1), .int x5, .int x6, .int x7, .int s0, .retAddr 0, .retAddr 0] [] h6 Q) else (wq d 314 112 [.ref x0, .int x1, .int x2, .int x3, .int (x4 + 1), .int x5, .int x6, .int x7, .int s0, .retAddr 0, .retAddr 0] [] h Q)) else (ab_ok h x0 112 = true ∧ ∀ h7 : ab_H, h7 = ab_pi h x0 39 x4 → ab_ok h7 x0 112 = true ∧ ∀ h8 : ab_H, h8 = ab_pi h7 x0 37 s0 → ab_ok h8 x0 112 = true ∧ ∀ h9 : ab_H, h9 = ab_pi h8 x0 38 x6 → wq d 314 112 [.ref x0, .int x1, .int x2, .int x3, .int (x4 + 1), .int x5, .int x6, .int x7, .int s0, .retAddr 0, .retAddr 0] [] h9 Q)))) : wq d 314 303 [.ref x0, .int x1, .int x2, .int x3, .int x4, .int x5, .int x6, .int x7, .int x8, .retAddr 0, .retAddr 0] [.int s0] h Q := by
  refine g6 (L' := [.ref x0, .int x1, .int x2, .int x3, .int x4, .int x5, .int x6, .int x7, .int s0, .retAddr 0, .retAddr 0]) c_314_303 rfl ?_
  refine g5 c_314_305 rfl ?_
  obtain ⟨ho, t⟩ := t
  refine g43 c_314_306 ho ?_
  refine gif c_314_309 (gbr t rfl rfl (fun hc t => ?_) (fun hc t => ?_))
  · refine g5 c_314_342 rfl ?_
    refine g3 c_314_343 rfl ?_
    obtain ⟨ho, t⟩ := t
    refine g46 c_314_345 ho (fun h1 eh1 => ?_)
    have t := t h1 eh1
    refine g5 c_314_348 rfl ?_
    refine g3 c_314_349 rfl ?_
    obtain ⟨ho, t⟩ := t
    refine g46 c_314_351 ho (fun h2 eh2 => ?_)
    have t := t h2 eh2
    refine g5 c_314_354 rfl ?_
    refine g3 c_314_355 rfl ?_
    obtain ⟨ho, t⟩ := t
    refine g46 c_314_357 ho (fun h3 eh3 => ?_)
    have t := t h3 eh3
    refine g9 (L' := [.ref x0, .int x1, .int x2, .int x3, .int (x4 + 1), .int x5, .int x6, .int x7, .int s0, .retAddr 0, .retAddr 0]) c_314_360 rfl k_1 rfl ?_
    refine g38 c_314_363 rfl ?_
    exact t
  · refine g3 c_314_312 rfl ?_
    refine g5 c_314_314 rfl ?_
    obtain ⟨ho, t⟩ := t
    refine g43 c_314_315 ho ?_
    refine gcm c_314_318 (gbr t rfl rfl (fun hc t => ?_) (fun hc t => ?_))
    · refine g9 (L' := [.ref x0, .int x1, .int x2, .int x3, .int (x4 + 1), .int x5, .int x6, .int x7, .int s0, .retAddr 0, .retAddr 0]) c_314_360 rfl k_1 rfl ?_
      refine g38 c_314_363 rfl ?_
      exact t
    · refine g3 c_314_321 rfl ?_
      refine g5 c_314_323 rfl ?_
      obtain ⟨ho, t⟩ := t
      refine g43 c_314_324 ho ?_
      refine gcm c_314_327 (gbn t (ab_c1 _ _) rfl (fun hc t => ?_) (fun hc t => ?_))
      · refine g3 c_314_330 rfl ?_
        refine g5 c_314_332 rfl ?_
        obtain ⟨ho, t⟩ := t
        refine g43 c_314_333 ho ?_
        refine gcm c_314_336 (gbr t rfl rfl (fun hc t => ?_) (fun hc t => ?_))
        · refine g5 c_314_342 rfl ?_
          refine g3 c_314_343 rfl ?_
          obtain ⟨ho, t⟩ := t
          refine g46 c_314_345 ho (fun h4 eh4 => ?_)
          have t := t h4 eh4
          refine g5 c_314_348 rfl ?_
          refine g3 c_314_349 rfl ?_
          obtain ⟨ho, t⟩ := t
          refine g46 c_314_351 ho (fun h5 eh5 => ?_)
          have t := t h5 eh5
          refine g5 c_314_354 rfl ?_
          refine g3 c_314_355 rfl ?_
          obtain ⟨ho, t⟩ := t
          refine g46 c_314_357 ho (fun h6 eh6 => ?_)
          have t := t h6 eh6
          refine g9 (L' := [.ref x0, .int x1, .int x2, .int x3, .int (x4 + 1), .int x5, .int x6, .int x7, .int s0, .retAddr 0, .retAddr 0]) c_314_360 rfl k_1 rfl ?_
          refine g38 c_314_363 rfl ?_
          exact t
        · refine g38 c_314_339 rfl ?_
          refine g9 (L' := [.ref x0, .int x1, .int x2, .int x3, .int (x4 + 1), .int x5, .int x6, .int x7, .int s0, .retAddr 0, .retAddr 0]) c_314_360 rfl k_1 rfl ?_
          refine g38 c_314_363 rfl ?_
          exact t
      · refine g5 c_314_342 rfl ?_
        refine g3 c_314_343 rfl ?_
        obtain ⟨ho, t⟩ := t
        refine g46 c_314_345 ho (fun h7 eh7 => ?_)
        have t := t h7 eh7
        refine g5 c_314_348 rfl ?_
        refine g3 c_314_349 rfl ?_
        obtain ⟨ho, t⟩ := t
        refine g46 c_314_351 ho (fun h8 eh8 => ?_)
        have t := t h8 eh8
        refine g5 c_314_354 rfl ?_
        refine g3 c_314_355 rfl ?_
        obtain ⟨ho, t⟩ := t
        refine g46 c_314_357 ho (fun h9 eh9 => ?_)
        have t := t h9 eh9
        refine g9 (L' := [.ref x0, .int x1, .int x2, .int x3, .int (x4 + 1), .int x5, .int x6, .int x7, .int s0, .retAddr 0, .retAddr 0]) c_314_360 rfl k_1 rfl ?_
        refine g38 c_314_363 rfl ?_
        exact t
-- method 315: MillTownModel.shared(II)I
theorem c_315_0 : pg_cd 315 0 = (3, 1, 0, 1, 0) := by decide +kernel
theorem c_315_1 : pg_cd 315 1 = (1, 1, 0, 0, 0) := by decide +kernel
theorem c_315_2 : pg_cd 315 2 = (1, 2, 71, 0, 100000) := by decide +kernel
theorem c_315_4 : pg_cd 315 4 = (81, 196, 76, 0, 0) := by decide +kernel
theorem c_315_7 : pg_cd 315 7 = (36, 3, 0, 0, 34) := by decide +kernel
theorem c_315_10 : pg_cd 315 10 = (5, 1, 0, 0, 0) := by decide +kernel
theorem c_315_11 : pg_cd 315 11 = (45, 12, 8, 0, 0) := by decide +kernel
theorem c_315_14 : pg_cd 315 14 = (1, 1, 0, 0, 0) := by decide +kernel
theorem c_315_15 : pg_cd 315 15 = (50, 1, 0, 0, 0) := by decide +kernel
theorem c_315_16 : pg_cd 315 16 = (1, 3, 0, 0, 400) := by decide +kernel
theorem c_315_19 : pg_cd 315 19 = (37, 3, 0, 3, 22) := by decide +kernel
theorem c_315_22 : pg_cd 315 22 = (3, 1, 0, 2, 0) := by decide +kernel
theorem c_315_23 : pg_cd 315 23 = (1, 1, 0, 0, (-1)) := by decide +kernel
theorem c_315_24 : pg_cd 315 24 = (37, 3, 0, 0, 19) := by decide +kernel
theorem c_315_27 : pg_cd 315 27 = (3, 1, 0, 2, 0) := by decide +kernel
theorem c_315_28 : pg_cd 315 28 = (1, 2, 0, 0, (-2)) := by decide +kernel
theorem c_315_30 : pg_cd 315 30 = (37, 3, 0, 0, 13) := by decide +kernel
theorem c_315_33 : pg_cd 315 33 = (5, 1, 0, 0, 0) := by decide +kernel
theorem c_315_34 : pg_cd 315 34 = (3, 1, 0, 2, 0) := by decide +kernel
theorem c_315_35 : pg_cd 315 35 = (80, 201, 115, 0, 0) := by decide +kernel
theorem c_315_38 : pg_cd 315 38 = (36, 3, 0, 1, 5) := by decide +kernel
theorem c_315_41 : pg_cd 315 41 = (1, 1, 0, 0, (-1)) := by decide +kernel
theorem c_315_42 : pg_cd 315 42 = (90, 0, 0, 0, 0) := by decide +kernel
theorem c_315_43 : pg_cd 315 43 = (5, 1, 0, 0, 0) := by decide +kernel
theorem c_315_44 : pg_cd 315 44 = (3, 1, 0, 1, 0) := by decide +kernel
theorem c_315_45 : pg_cd 315 45 = (80, 314, 442, 0, 0) := by decide +kernel
theorem c_315_48 : pg_cd 315 48 = (3, 1, 0, 2, 0) := by decide +kernel
theorem c_315_49 : pg_cd 315 49 = (1, 1, 0, 0, (-1)) := by decide +kernel
theorem c_315_50 : pg_cd 315 50 = (37, 3, 0, 1, 8) := by decide +kernel
theorem c_315_53 : pg_cd 315 53 = (5, 1, 0, 0, 0) := by decide +kernel
theorem c_315_54 : pg_cd 315 54 = (43, 12, 436, 37, 0) := by decide +kernel
theorem c_315_57 : pg_cd 315 57 = (90, 0, 0, 0, 0) := by decide +kernel
theorem c_315_58 : pg_cd 315 58 = (3, 1, 0, 2, 0) := by decide +kernel
theorem c_315_59 : pg_cd 315 59 = (1, 2, 0, 0, (-2)) := by decide +kernel
theorem c_315_61 : pg_cd 315 61 = (37, 3, 0, 1, 8) := by decide +kernel
theorem c_315_64 : pg_cd 315 64 = (5, 1, 0, 0, 0) := by decide +kernel
theorem c_315_65 : pg_cd 315 65 = (43, 12, 439, 38, 0) := by decide +kernel
theorem c_315_68 : pg_cd 315 68 = (90, 0, 0, 0, 0) := by decide +kernel
theorem c_315_69 : pg_cd 315 69 = (1, 1, 0, 0, 1) := by decide +kernel
theorem c_315_70 : pg_cd 315 70 = (6, 1, 0, 3, 0) := by decide +kernel
theorem c_315_71 : pg_cd 315 71 = (3, 1, 0, 2, 0) := by decide +kernel
theorem c_315_72 : pg_cd 315 72 = (1, 1, 0, 0, 1) := by decide +kernel
theorem c_315_73 : pg_cd 315 73 = (10, 1, 0, 0, 0) := by decide +kernel
theorem c_315_74 : pg_cd 315 74 = (6, 2, 0, 4, 0) := by decide +kernel
theorem c_315_76 : pg_cd 315 76 = (3, 2, 0, 4, 0) := by decide +kernel
theorem c_315_78 : pg_cd 315 78 = (5, 1, 0, 0, 0) := by decide +kernel
theorem c_315_79 : pg_cd 315 79 = (45, 12, 8, 0, 0) := by decide +kernel
theorem c_315_82 : pg_cd 315 82 = (1, 1, 0, 0, 1) := by decide +kernel
theorem c_315_83 : pg_cd 315 83 = (50, 1, 0, 0, 0) := by decide +kernel
theorem c_315_84 : pg_cd 315 84 = (37, 3, 0, 3, 13) := by decide +kernel
theorem c_315_87 : pg_cd 315 87 = (3, 1, 0, 3, 0) := by decide +kernel
theorem c_315_88 : pg_cd 315 88 = (1, 1, 0, 0, 3) := by decide +kernel
theorem c_315_89 : pg_cd 315 89 = (12, 1, 0, 0, 0) := by decide +kernel
theorem c_315_90 : pg_cd 315 90 = (6, 1, 0, 3, 0) := by decide +kernel
theorem c_315_91 : pg_cd 315 91 = (9, 3, 0, 4, 1) := by decide +kernel
theorem c_315_94 : pg_cd 315 94 = (38, 3, 0, 0, (-18)) := by decide +kernel
theorem c_315_97 : pg_cd 315 97 = (1, 1, 0, 0, 2) := by decide +kernel
theorem c_315_98 : pg_cd 315 98 = (5, 1, 0, 0, 0) := by decide +kernel
theorem c_315_99 : pg_cd 315 99 = (43, 12, 430, 39, 0) := by decide +kernel
theorem c_315_102 : pg_cd 315 102 = (3, 1, 0, 3, 0) := by decide +kernel
theorem c_315_103 : pg_cd 315 103 = (16, 1, 0, 0, 0) := by decide +kernel
theorem c_315_104 : pg_cd 315 104 = (1, 1, 0, 0, 3) := by decide +kernel
theorem c_315_105 : pg_cd 315 105 = (17, 1, 0, 0, 0) := by decide +kernel
theorem c_315_106 : pg_cd 315 106 = (11, 1, 0, 0, 0) := by decide +kernel
theorem c_315_107 : pg_cd 315 107 = (90, 0, 0, 0, 0) := by decide +kernel
theorem mx_315 : pg_mx 315 = 5 := by decide +kernel
theorem m_315 {d : Nat} {h : ab_H} {Q : Option Value → ab_H → Prop} {x0 : Nat} {x1 : Int32} {x2 : Int32} (t : wq d 315 0 [.ref x0, .int x1, .int x2, .retAddr 0, .retAddr 0] [] h Q) : wm d 315 [.ref x0, .int x1, .int x2] h Q := by
  unfold wm
  rw [mx_315]
  exact t
set_option maxRecDepth 20000 in
theorem t_315_0 {d : Nat} {h : ab_H} {Q : Option Value → ab_H → Prop} {x0 : Nat} {x1 : Int32} {x2 : Int32} (t : wm d 196 [.int x1, .int 0, .int 100000] h (fun r9 h9 => wq (d + 1) 315 7 [.ref x0, .int x1, .int x2, .retAddr 0, .retAddr 0] (r9.toList ++ []) h9 Q)) : wq (d + 1) 315 0 [.ref x0, .int x1, .int x2, .retAddr 0, .retAddr 0] [] h Q := by
  refine g3 c_315_0 rfl ?_
  refine g1 c_315_1 k_0 ?_
  refine g1 c_315_2 k_100000 ?_
  exact g81 (As := [.int x1, .int 0, .int 100000]) (rest := []) c_315_4 rfl rfl (Nat.le_of_ble_eq_true rfl) (Nat.le_of_ble_eq_true rfl) t
set_option maxRecDepth 20000 in
theorem t_315_7 {d : Nat} {h : ab_H} {Q : Option Value → ab_H → Prop} {x0 : Nat} {x1 : Int32} {x2 : Int32} {s0 : Int32} (t : if s0 = 0 then (Q (some (.int (-1))) h) else (ab_ok h x0 112 = true ∧ ∃ j1 : Nat, ab_r h x0 0 = some j1 ∧ ((j1 = 0 ∨ ab_ok h j1 0 = true) ∧ ab_in (0 : Int32) (ab_s h j1).2 = true) ∧ if 400 ≤ (ab_i h j1 (Int32.toNatClampNeg (0 : Int32))) then (Q (some (.int (-1))) h) else (if x2 = (-1) then (ab_ok h x0 112 = true ∧ wm d 314 [.ref x0, .int x1] h (fun r9 h9 => wq (d + 1) 315 48 [.ref x0, .int x1, .int x2, .retAddr 0, .retAddr 0] (r9.toList ++ []) h9 Q)) else (if x2 = (-2) then (ab_ok h x0 112 = true ∧ wm d 314 [.ref x0, .int x1] h (fun r9 h9 => wq (d + 1) 315 48 [.ref x0, .int x1, .int x2, .retAddr 0, .retAddr 0] (r9.toList ++ []) h9 Q)) else (ab_ok h x0 112 = true ∧ wm d 201 [.ref x0, .int x2] h (fun r9 h9 => wq (d + 1) 315 38 [.ref x0, .int x1, .int x2, .retAddr 0, .retAddr 0] (r9.toList ++ []) h9 Q)))))) : wq (d + 1) 315 7 [.ref x0, .int x1, .int x2, .retAddr 0, .retAddr 0] [.int s0] h Q := by
  refine gif c_315_7 (gbr t rfl rfl (fun hc t => ?_) (fun hc t => ?_))
  · refine g1 c_315_41 k_m1 ?_
    exact g90 c_315_42 t
  · refine g5 c_315_10 rfl ?_
    obtain ⟨ho, j1, hr, t⟩ := t
    refine g45 c_315_11 ho hr ?_
    refine g1 c_315_14 k_0 ?_
    obtain ⟨ho, t⟩ := t
    refine g50 c_315_15 ho ?_
    refine g1 c_315_16 k_400 ?_
    refine gcm c_315_19 (gbr t rfl rfl (fun hc t => ?_) (fun hc t => ?_))
    · refine g1 c_315_41 k_m1 ?_
      exact g90 c_315_42 t
    · refine g3 c_315_22 rfl ?_
      refine g1 c_315_23 k_m1 ?_
      refine gcm c_315_24 (gbr t rfl rfl (fun hc t => ?_) (fun hc t => ?_))
      · refine g5 c_315_43 rfl ?_
        refine g3 c_315_44 rfl ?_
        exact g80 (As := [.int x1]) (rest := []) c_315_45 rfl rfl (Nat.le_of_ble_eq_true rfl) (Nat.le_of_ble_eq_true rfl) t.1 t.2
      · refine g3 c_315_27 rfl ?_
        refine g1 c_315_28 k_m2 ?_
        refine gcm c_315_30 (gbr t rfl rfl (fun hc t => ?_) (fun hc t => ?_))
        · refine g5 c_315_43 rfl ?_
          refine g3 c_315_44 rfl ?_
          exact g80 (As := [.int x1]) (rest := []) c_315_45 rfl rfl (Nat.le_of_ble_eq_true rfl) (Nat.le_of_ble_eq_true rfl) t.1 t.2
        · refine g5 c_315_33 rfl ?_
          refine g3 c_315_34 rfl ?_
          exact g80 (As := [.int x2]) (rest := []) c_315_35 rfl rfl (Nat.le_of_ble_eq_true rfl) (Nat.le_of_ble_eq_true rfl) t.1 t.2
set_option maxRecDepth 20000 in
theorem t_315_38 {d : Nat} {h : ab_H} {Q : Option Value → ab_H → Prop} {x0 : Nat} {x1 : Int32} {x2 : Int32} {s0 : Int32} (t : if s0 = 0 then (Q (some (.int (-1))) h) else (ab_ok h x0 112 = true ∧ wm d 314 [.ref x0, .int x1] h (fun r9 h9 => wq (d + 1) 315 48 [.ref x0, .int x1, .int x2, .retAddr 0, .retAddr 0] (r9.toList ++ []) h9 Q))) : wq (d + 1) 315 38 [.ref x0, .int x1, .int x2, .retAddr 0, .retAddr 0] [.int s0] h Q := by
  refine gif c_315_38 (gbn t (ab_c1 _ _) rfl (fun hc t => ?_) (fun hc t => ?_))
  · refine g1 c_315_41 k_m1 ?_
    exact g90 c_315_42 t
  · refine g5 c_315_43 rfl ?_
    refine g3 c_315_44 rfl ?_
    exact g80 (As := [.int x1]) (rest := []) c_315_45 rfl rfl (Nat.le_of_ble_eq_true rfl) (Nat.le_of_ble_eq_true rfl) t.1 t.2
set_option maxRecDepth 20000 in
theorem t_315_48 {d : Nat} {h : ab_H} {Q : Option Value → ab_H → Prop} {x0 : Nat} {x1 : Int32} {x2 : Int32} (t : if x2 = (-1) then (ab_ok h x0 112 = true ∧ Q (some (.int (ab_i h x0 37))) h) else (if x2 = (-2) then (ab_ok h x0 112 = true ∧ Q (some (.int (ab_i h x0 38))) h) else (wq d 315 76 [.ref x0, .int x1, .int x2, .int 1, .int (x2 + 1)] [] h Q))) : wq d 315 48 [.ref x0, .int x1, .int x2, .retAddr 0, .retAddr 0] [] h Q := by
  refine g3 c_315_48 rfl ?_
  refine g1 c_315_49 k_m1 ?_
  refine gcm c_315_50 (gbn t (ab_c1 _ _) rfl (fun hc t => ?_) (fun hc t => ?_))
  · refine g5 c_315_53 rfl ?_
    obtain ⟨ho, t⟩ := t
    refine g43 c_315_54 ho ?_
    exact g90 c_315_57 t
  · refine g3 c_315_58 rfl ?_
    refine g1 c_315_59 k_m2 ?_
    refine gcm c_315_61 (gbn t (ab_c1 _ _) rfl (fun hc t => ?_) (fun hc t => ?_))
    · refine g5 c_315_64 rfl ?_
      obtain ⟨ho, t⟩ := t
      refine g43 c_315_65 ho ?_
      exact g90 c_315_68 t
    · refine g1 c_315_69 k_1 ?_
      refine g6 (L' := [.ref x0, .int x1, .int x2, .int 1, .retAddr 0]) c_315_70 rfl ?_
      refine g3 c_315_71 rfl ?_
      refine g1 c_315_72 k_1 ?_
      refine g10 c_315_73 ?_
      refine g6 (L' := [.ref x0, .int x1, .int x2, .int 1, .int (x2 + 1)]) c_315_74 rfl ?_
      exact t
set_option maxRecDepth 20000 in
theorem t_315_76 {d : Nat} {h : ab_H} {Q : Option Value → ab_H → Prop} {x0 : Nat} {x1 : Int32} {x2 : Int32} {x3 : Int32} {x4 : Int32} (t : ab_ok h x0 112 = true ∧ ∃ j1 : Nat, ab_r h x0 0 = some j1 ∧ ((j1 = 0 ∨ ab_ok h j1 0 = true) ∧ ab_in (1 : Int32) (ab_s h j1).2 = true) ∧ if (ab_i h j1 (Int32.toNatClampNeg (1 : Int32))) ≤ x4 then (ab_ok h x0 112 = true ∧ ¬ (x3 : Int32) = 0 ∧ ¬ (3 : Int32) = 0 ∧ Q (some (.int (2 - (((ab_i h x0 39) / x3) - ((ab_i h x0 39) / x3) / 3 * 3)))) h) else (wq d 315 76 [.ref x0, .int x1, .int x2, .int (x3 * 3), .int (x4 + 1)] [] h Q)) : wq d 315 76 [.ref x0, .int x1, .int x2, .int x3, .int x4] [] h Q := by
  refine g3 c_315_76 rfl ?_
  refine g5 c_315_78 rfl ?_
  obtain ⟨ho, j1, hr, t⟩ := t
  refine g45 c_315_79 ho hr ?_
  refine g1 c_315_82 k_1 ?_
  obtain ⟨ho, t⟩ := t
  refine g50 c_315_83 ho ?_
  refine gcm c_315_84 (gbr t rfl rfl (fun hc t => ?_) (fun hc t => ?_))
  · refine g1 c_315_97 k_2 ?_
    refine g5 c_315_98 rfl ?_
    obtain ⟨ho, t⟩ := t
    refine g43 c_315_99 ho ?_
    refine g3 c_315_102 rfl ?_
    obtain ⟨hy, t⟩ := t
    refine g16 c_315_103 hy ?_
    refine g1 c_315_104 k_3 ?_
    obtain ⟨hy, t⟩ := t
    refine g17 c_315_105 hy ?_
    refine g11 c_315_106 ?_
    exact g90 c_315_107 t
  · refine g3 c_315_87 rfl ?_
    refine g1 c_315_88 k_3 ?_
    refine g12 c_315_89 ?_
    refine g6 (L' := [.ref x0, .int x1, .int x2, .int (x3 * 3), .int x4]) c_315_90 rfl ?_
    refine g9 (L' := [.ref x0, .int x1, .int x2, .int (x3 * 3), .int (x4 + 1)]) c_315_91 rfl k_1 rfl ?_
    refine g38 c_315_94 rfl ?_
    exact t
-- method 316: MillTownModel.whose(III)I
theorem c_316_0 : pg_cd 316 0 = (1, 1, 0, 0, 0) := by decide +kernel
theorem c_316_1 : pg_cd 316 1 = (6, 2, 0, 4, 0) := by decide +kernel
theorem c_316_3 : pg_cd 316 3 = (1, 1, 0, 0, 0) := by decide +kernel
theorem c_316_4 : pg_cd 316 4 = (6, 2, 0, 5, 0) := by decide +kernel
theorem c_316_6 : pg_cd 316 6 = (3, 2, 0, 5, 0) := by decide +kernel
theorem c_316_8 : pg_cd 316 8 = (5, 1, 0, 0, 0) := by decide +kernel
theorem c_316_9 : pg_cd 316 9 = (45, 12, 8, 0, 0) := by decide +kernel
theorem c_316_12 : pg_cd 316 12 = (1, 1, 0, 0, 4) := by decide +kernel
theorem c_316_13 : pg_cd 316 13 = (50, 1, 0, 0, 0) := by decide +kernel
theorem c_316_14 : pg_cd 316 14 = (37, 3, 0, 3, 53) := by decide +kernel
theorem c_316_17 : pg_cd 316 17 = (5, 1, 0, 0, 0) := by decide +kernel
theorem c_316_18 : pg_cd 316 18 = (3, 2, 0, 5, 0) := by decide +kernel
theorem c_316_20 : pg_cd 316 20 = (1, 1, 0, 0, 0) := by decide +kernel
theorem c_316_21 : pg_cd 316 21 = (80, 199, 102, 0, 0) := by decide +kernel
theorem c_316_24 : pg_cd 316 24 = (3, 1, 0, 1, 0) := by decide +kernel
theorem c_316_25 : pg_cd 316 25 = (37, 3, 0, 0, 6) := by decide +kernel
theorem c_316_28 : pg_cd 316 28 = (38, 3, 0, 0, 33) := by decide +kernel
theorem c_316_31 : pg_cd 316 31 = (3, 2, 0, 4, 0) := by decide +kernel
theorem c_316_33 : pg_cd 316 33 = (5, 1, 0, 0, 0) := by decide +kernel
theorem c_316_34 : pg_cd 316 34 = (45, 12, 8, 0, 0) := by decide +kernel
theorem c_316_37 : pg_cd 316 37 = (1, 3, 399, 0, 60700) := by decide +kernel
theorem c_316_40 : pg_cd 316 40 = (1, 2, 0, 0, 60) := by decide +kernel
theorem c_316_42 : pg_cd 316 42 = (3, 1, 0, 2, 0) := by decide +kernel
theorem c_316_43 : pg_cd 316 43 = (12, 1, 0, 0, 0) := by decide +kernel
theorem c_316_44 : pg_cd 316 44 = (10, 1, 0, 0, 0) := by decide +kernel
theorem c_316_45 : pg_cd 316 45 = (3, 2, 0, 5, 0) := by decide +kernel
theorem c_316_47 : pg_cd 316 47 = (10, 1, 0, 0, 0) := by decide +kernel
theorem c_316_48 : pg_cd 316 48 = (50, 1, 0, 0, 0) := by decide +kernel
theorem c_316_49 : pg_cd 316 49 = (10, 1, 0, 0, 0) := by decide +kernel
theorem c_316_50 : pg_cd 316 50 = (6, 2, 0, 4, 0) := by decide +kernel
theorem c_316_52 : pg_cd 316 52 = (3, 1, 0, 3, 0) := by decide +kernel
theorem c_316_53 : pg_cd 316 53 = (3, 2, 0, 4, 0) := by decide +kernel
theorem c_316_55 : pg_cd 316 55 = (37, 3, 0, 3, 6) := by decide +kernel
theorem c_316_58 : pg_cd 316 58 = (3, 2, 0, 5, 0) := by decide +kernel
theorem c_316_60 : pg_cd 316 60 = (90, 0, 0, 0, 0) := by decide +kernel
theorem c_316_61 : pg_cd 316 61 = (9, 3, 0, 5, 1) := by decide +kernel
theorem c_316_64 : pg_cd 316 64 = (38, 3, 0, 0, (-58)) := by decide +kernel
theorem c_316_67 : pg_cd 316 67 = (1, 1, 0, 0, (-1)) := by decide +kernel
theorem c_316_68 : pg_cd 316 68 = (90, 0, 0, 0, 0) := by decide +kernel
theorem mx_316 : pg_mx 316 = 6 := by decide +kernel
theorem m_316 {d : Nat} {h : ab_H} {Q : Option Value → ab_H → Prop} {x0 : Nat} {x1 : Int32} {x2 : Int32} {x3 : Int32} (t : wq d 316 0 [.ref x0, .int x1, .int x2, .int x3, .retAddr 0, .retAddr 0] [] h Q) : wm d 316 [.ref x0, .int x1, .int x2, .int x3] h Q := by
  unfold wm
  rw [mx_316]
  exact t
set_option maxRecDepth 20000 in
theorem t_316_0 {d : Nat} {h : ab_H} {Q : Option Value → ab_H → Prop} {x0 : Nat} {x1 : Int32} {x2 : Int32} {x3 : Int32} (t : wq d 316 6 [.ref x0, .int x1, .int x2, .int x3, .int 0, .int 0] [] h Q) : wq d 316 0 [.ref x0, .int x1, .int x2, .int x3, .retAddr 0, .retAddr 0] [] h Q := by
  refine g1 c_316_0 k_0 ?_
  refine g6 (L' := [.ref x0, .int x1, .int x2, .int x3, .int 0, .retAddr 0]) c_316_1 rfl ?_
  refine g1 c_316_3 k_0 ?_
  refine g6 (L' := [.ref x0, .int x1, .int x2, .int x3, .int 0, .int 0]) c_316_4 rfl ?_
  exact t
set_option maxRecDepth 20000 in
theorem t_316_6 {d : Nat} {h : ab_H} {Q : Option Value → ab_H → Prop} {x0 : Nat} {x1 : Int32} {x2 : Int32} {x3 : Int32} {x4 : Int32} {x5 : Int32} (t : ab_ok h x0 112 = true ∧ ∃ j1 : Nat, ab_r h x0 0 = some j1 ∧ ((j1 = 0 ∨ ab_ok h j1 0 = true) ∧ ab_in (4 : Int32) (ab_s h j1).2 = true) ∧ if (ab_i h j1 (Int32.toNatClampNeg (4 : Int32))) ≤ x5 then (Q (some (.int (-1))) h) else (ab_ok h x0 112 = true ∧ wm d 199 [.ref x0, .int x5, .int 0] h (fun r9 h9 => wq (d + 1) 316 24 [.ref x0, .int x1, .int x2, .int x3, .int x4, .int x5] (r9.toList ++ []) h9 Q))) : wq (d + 1) 316 6 [.ref x0, .int x1, .int x2, .int x3, .int x4, .int x5] [] h Q := by
  refine g3 c_316_6 rfl ?_
  refine g5 c_316_8 rfl ?_
  obtain ⟨ho, j1, hr, t⟩ := t
  refine g45 c_316_9 ho hr ?_
  refine g1 c_316_12 k_4 ?_
  obtain ⟨ho, t⟩ := t
  refine g50 c_316_13 ho ?_
  refine gcm c_316_14 (gbr t rfl rfl (fun hc t => ?_) (fun hc t => ?_))
  · refine g1 c_316_67 k_m1 ?_
    exact g90 c_316_68 t
  · refine g5 c_316_17 rfl ?_
    refine g3 c_316_18 rfl ?_
    refine g1 c_316_20 k_0 ?_
    exact g80 (As := [.int x5, .int 0]) (rest := []) c_316_21 rfl rfl (Nat.le_of_ble_eq_true rfl) (Nat.le_of_ble_eq_true rfl) t.1 t.2
set_option maxRecDepth 20000 in
theorem t_316_24 {d : Nat} {h : ab_H} {Q : Option Value → ab_H → Prop} {x0 : Nat} {x1 : Int32} {x2 : Int32} {x3 : Int32} {x4 : Int32} {x5 : Int32} {s0 : Int32} (t : if s0 = x1 then (ab_ok h x0 112 = true ∧ ∃ j1 : Nat, ab_r h x0 0 = some j1 ∧ ((j1 = 0 ∨ ab_ok h j1 0 = true) ∧ ab_in ((60700 + (60 * x2)) + x5) (ab_s h j1).2 = true) ∧ ∀ y2 : Int32, y2 = (x4 + (ab_i h j1 (Int32.toNatClampNeg ((60700 + (60 * x2)) + x5)))) → if y2 ≤ x3 then (wq d 316 6 [.ref x0, .int x1, .int x2, .int x3, .int y2, .int (x5 + 1)] [] h Q) else (Q (some (.int x5)) h)) else (wq d 316 6 [.ref x0, .int x1, .int x2, .int x3, .int x4, .int (x5 + 1)] [] h Q)) : wq d 316 24 [.ref x0, .int x1, .int x2, .int x3, .int x4, .int x5] [.int s0] h Q := by
  refine g3 c_316_24 rfl ?_
  refine gcm c_316_25 (gbr t rfl rfl (fun hc t => ?_) (fun hc t => ?_))
  · refine g3 c_316_31 rfl ?_
    refine g5 c_316_33 rfl ?_
    obtain ⟨ho, j1, hr, t⟩ := t
    refine g45 c_316_34 ho hr ?_
    refine g1 c_316_37 k_60700 ?_
    refine g1 c_316_40 k_60 ?_
    refine g3 c_316_42 rfl ?_
    refine g12 c_316_43 ?_
    refine g10 c_316_44 ?_
    refine g3 c_316_45 rfl ?_
    refine g10 c_316_47 ?_
    obtain ⟨ho, t⟩ := t
    refine g50 c_316_48 ho ?_
    refine g10 c_316_49 ?_
    refine g6y (Lf := fun y2 => [.ref x0, .int x1, .int x2, .int x3, .int y2, .int x5]) c_316_50 (fun _ => rfl) (fun y2 ey2 => ?_)
    have t := t y2 ey2
    refine g3 c_316_52 rfl ?_
    refine g3 c_316_53 rfl ?_
    refine gcm c_316_55 (gbr t rfl rfl (fun hc t => ?_) (fun hc t => ?_))
    · refine g9 (L' := [.ref x0, .int x1, .int x2, .int x3, .int y2, .int (x5 + 1)]) c_316_61 rfl k_1 rfl ?_
      refine g38 c_316_64 rfl ?_
      exact t
    · refine g3 c_316_58 rfl ?_
      exact g90 c_316_60 t
  · refine g38 c_316_28 rfl ?_
    refine g9 (L' := [.ref x0, .int x1, .int x2, .int x3, .int x4, .int (x5 + 1)]) c_316_61 rfl k_1 rfl ?_
    refine g38 c_316_64 rfl ?_
    exact t
-- method 317: MillTownModel.loaf(II)I
theorem c_317_0 : pg_cd 317 0 = (3, 1, 0, 1, 0) := by decide +kernel
theorem c_317_1 : pg_cd 317 1 = (1, 1, 0, 0, 0) := by decide +kernel
theorem c_317_2 : pg_cd 317 2 = (5, 1, 0, 0, 0) := by decide +kernel
theorem c_317_3 : pg_cd 317 3 = (45, 12, 8, 0, 0) := by decide +kernel
theorem c_317_6 : pg_cd 317 6 = (1, 2, 0, 0, 15) := by decide +kernel
theorem c_317_8 : pg_cd 317 8 = (50, 1, 0, 0, 0) := by decide +kernel
theorem c_317_9 : pg_cd 317 9 = (1, 1, 0, 0, 1) := by decide +kernel
theorem c_317_10 : pg_cd 317 10 = (11, 1, 0, 0, 0) := by decide +kernel
theorem c_317_11 : pg_cd 317 11 = (81, 196, 76, 0, 0) := by decide +kernel
theorem c_317_14 : pg_cd 317 14 = (36, 3, 0, 0, 12) := by decide +kernel
theorem c_317_17 : pg_cd 317 17 = (3, 1, 0, 2, 0) := by decide +kernel
theorem c_317_18 : pg_cd 317 18 = (1, 1, 0, 0, 0) := by decide +kernel
theorem c_317_19 : pg_cd 317 19 = (1, 1, 0, 0, 4) := by decide +kernel
theorem c_317_20 : pg_cd 317 20 = (81, 196, 76, 0, 0) := by decide +kernel
theorem c_317_23 : pg_cd 317 23 = (36, 3, 0, 1, 5) := by decide +kernel
theorem c_317_26 : pg_cd 317 26 = (1, 1, 0, 0, (-1)) := by decide +kernel
theorem c_317_27 : pg_cd 317 27 = (90, 0, 0, 0, 0) := by decide +kernel
theorem c_317_28 : pg_cd 317 28 = (3, 1, 0, 1, 0) := by decide +kernel
theorem c_317_29 : pg_cd 317 29 = (6, 1, 0, 3, 0) := by decide +kernel
theorem c_317_30 : pg_cd 317 30 = (1, 1, 0, 0, 0) := by decide +kernel
theorem c_317_31 : pg_cd 317 31 = (6, 2, 0, 4, 0) := by decide +kernel
theorem c_317_33 : pg_cd 317 33 = (3, 1, 0, 3, 0) := by decide +kernel
theorem c_317_34 : pg_cd 317 34 = (5, 1, 0, 0, 0) := by decide +kernel
theorem c_317_35 : pg_cd 317 35 = (45, 12, 8, 0, 0) := by decide +kernel
theorem c_317_38 : pg_cd 317 38 = (1, 3, 382, 0, 41500) := by decide +kernel
theorem c_317_41 : pg_cd 317 41 = (3, 2, 0, 4, 0) := by decide +kernel
theorem c_317_43 : pg_cd 317 43 = (10, 1, 0, 0, 0) := by decide +kernel
theorem c_317_44 : pg_cd 317 44 = (50, 1, 0, 0, 0) := by decide +kernel
theorem c_317_45 : pg_cd 317 45 = (37, 3, 0, 2, 23) := by decide +kernel
theorem c_317_48 : pg_cd 317 48 = (3, 1, 0, 3, 0) := by decide +kernel
theorem c_317_49 : pg_cd 317 49 = (5, 1, 0, 0, 0) := by decide +kernel
theorem c_317_50 : pg_cd 317 50 = (45, 12, 8, 0, 0) := by decide +kernel
theorem c_317_53 : pg_cd 317 53 = (1, 3, 382, 0, 41500) := by decide +kernel
theorem c_317_56 : pg_cd 317 56 = (3, 2, 0, 4, 0) := by decide +kernel
theorem c_317_58 : pg_cd 317 58 = (10, 1, 0, 0, 0) := by decide +kernel
theorem c_317_59 : pg_cd 317 59 = (50, 1, 0, 0, 0) := by decide +kernel
theorem c_317_60 : pg_cd 317 60 = (11, 1, 0, 0, 0) := by decide +kernel
theorem c_317_61 : pg_cd 317 61 = (6, 1, 0, 3, 0) := by decide +kernel
theorem c_317_62 : pg_cd 317 62 = (9, 3, 0, 4, 1) := by decide +kernel
theorem c_317_65 : pg_cd 317 65 = (38, 3, 0, 0, (-32)) := by decide +kernel
theorem c_317_68 : pg_cd 317 68 = (3, 2, 0, 4, 0) := by decide +kernel
theorem c_317_70 : pg_cd 317 70 = (1, 2, 0, 0, 24) := by decide +kernel
theorem c_317_72 : pg_cd 317 72 = (16, 1, 0, 0, 0) := by decide +kernel
theorem c_317_73 : pg_cd 317 73 = (6, 2, 0, 5, 0) := by decide +kernel
theorem c_317_75 : pg_cd 317 75 = (3, 2, 0, 4, 0) := by decide +kernel
theorem c_317_77 : pg_cd 317 77 = (1, 2, 0, 0, 24) := by decide +kernel
theorem c_317_79 : pg_cd 317 79 = (17, 1, 0, 0, 0) := by decide +kernel
theorem c_317_80 : pg_cd 317 80 = (6, 2, 0, 6, 0) := by decide +kernel
theorem c_317_82 : pg_cd 317 82 = (3, 1, 0, 2, 0) := by decide +kernel
theorem c_317_83 : pg_cd 317 83 = (36, 3, 0, 1, 6) := by decide +kernel
theorem c_317_86 : pg_cd 317 86 = (3, 2, 0, 6, 0) := by decide +kernel
theorem c_317_88 : pg_cd 317 88 = (90, 0, 0, 0, 0) := by decide +kernel
theorem c_317_89 : pg_cd 317 89 = (3, 1, 0, 2, 0) := by decide +kernel
theorem c_317_90 : pg_cd 317 90 = (1, 1, 0, 0, 1) := by decide +kernel
theorem c_317_91 : pg_cd 317 91 = (37, 3, 0, 1, 6) := by decide +kernel
theorem c_317_94 : pg_cd 317 94 = (3, 2, 0, 5, 0) := by decide +kernel
theorem c_317_96 : pg_cd 317 96 = (90, 0, 0, 0, 0) := by decide +kernel
theorem c_317_97 : pg_cd 317 97 = (3, 1, 0, 3, 0) := by decide +kernel
theorem c_317_98 : pg_cd 317 98 = (5, 1, 0, 0, 0) := by decide +kernel
theorem c_317_99 : pg_cd 317 99 = (45, 12, 8, 0, 0) := by decide +kernel
theorem c_317_102 : pg_cd 317 102 = (1, 3, 376, 0, 51100) := by decide +kernel
theorem c_317_105 : pg_cd 317 105 = (3, 2, 0, 4, 0) := by decide +kernel
theorem c_317_107 : pg_cd 317 107 = (10, 1, 0, 0, 0) := by decide +kernel
theorem c_317_108 : pg_cd 317 108 = (50, 1, 0, 0, 0) := by decide +kernel
theorem c_317_109 : pg_cd 317 109 = (37, 3, 0, 3, 27) := by decide +kernel
theorem c_317_112 : pg_cd 317 112 = (5, 1, 0, 0, 0) := by decide +kernel
theorem c_317_113 : pg_cd 317 113 = (3, 2, 0, 6, 0) := by decide +kernel
theorem c_317_115 : pg_cd 317 115 = (3, 2, 0, 5, 0) := by decide +kernel
theorem c_317_117 : pg_cd 317 117 = (3, 1, 0, 3, 0) := by decide +kernel
theorem c_317_118 : pg_cd 317 118 = (5, 1, 0, 0, 0) := by decide +kernel
theorem c_317_119 : pg_cd 317 119 = (45, 12, 8, 0, 0) := by decide +kernel
theorem c_317_122 : pg_cd 317 122 = (1, 3, 383, 0, 111900) := by decide +kernel
theorem c_317_125 : pg_cd 317 125 = (3, 2, 0, 5, 0) := by decide +kernel
theorem c_317_127 : pg_cd 317 127 = (10, 1, 0, 0, 0) := by decide +kernel
theorem c_317_128 : pg_cd 317 128 = (50, 1, 0, 0, 0) := by decide +kernel
theorem c_317_129 : pg_cd 317 129 = (12, 1, 0, 0, 0) := by decide +kernel
theorem c_317_130 : pg_cd 317 130 = (80, 316, 445, 0, 0) := by decide +kernel
theorem c_317_133 : pg_cd 317 133 = (38, 3, 0, 0, 4) := by decide +kernel
theorem c_317_136 : pg_cd 317 136 = (1, 1, 0, 0, (-1)) := by decide +kernel
theorem c_317_137 : pg_cd 317 137 = (6, 2, 0, 7, 0) := by decide +kernel
theorem c_317_139 : pg_cd 317 139 = (3, 1, 0, 2, 0) := by decide +kernel
theorem c_317_140 : pg_cd 317 140 = (1, 1, 0, 0, 2) := by decide +kernel
theorem c_317_141 : pg_cd 317 141 = (37, 3, 0, 0, 8) := by decide +kernel
theorem c_317_144 : pg_cd 317 144 = (3, 2, 0, 7, 0) := by decide +kernel
theorem c_317_146 : pg_cd 317 146 = (36, 3, 0, 3, 6) := by decide +kernel
theorem c_317_149 : pg_cd 317 149 = (3, 2, 0, 7, 0) := by decide +kernel
theorem c_317_151 : pg_cd 317 151 = (90, 0, 0, 0, 0) := by decide +kernel
theorem c_317_152 : pg_cd 317 152 = (5, 1, 0, 0, 0) := by decide +kernel
theorem c_317_153 : pg_cd 317 153 = (45, 12, 8, 0, 0) := by decide +kernel
theorem c_317_156 : pg_cd 317 156 = (1, 3, 400, 0, 84700) := by decide +kernel
theorem c_317_159 : pg_cd 317 159 = (1, 2, 0, 0, 60) := by decide +kernel
theorem c_317_161 : pg_cd 317 161 = (3, 2, 0, 5, 0) := by decide +kernel
theorem c_317_163 : pg_cd 317 163 = (12, 1, 0, 0, 0) := by decide +kernel
theorem c_317_164 : pg_cd 317 164 = (10, 1, 0, 0, 0) := by decide +kernel
theorem c_317_165 : pg_cd 317 165 = (3, 2, 0, 7, 0) := by decide +kernel
theorem c_317_167 : pg_cd 317 167 = (10, 1, 0, 0, 0) := by decide +kernel
theorem c_317_168 : pg_cd 317 168 = (50, 1, 0, 0, 0) := by decide +kernel
theorem c_317_169 : pg_cd 317 169 = (1, 1, 0, 0, 1) := by decide +kernel
theorem c_317_170 : pg_cd 317 170 = (11, 1, 0, 0, 0) := by decide +kernel
theorem c_317_171 : pg_cd 317 171 = (6, 2, 0, 8, 0) := by decide +kernel
theorem c_317_173 : pg_cd 317 173 = (3, 1, 0, 2, 0) := by decide +kernel
theorem c_317_174 : pg_cd 317 174 = (1, 1, 0, 0, 3) := by decide +kernel
theorem c_317_175 : pg_cd 317 175 = (37, 3, 0, 0, 8) := by decide +kernel
theorem c_317_178 : pg_cd 317 178 = (3, 2, 0, 8, 0) := by decide +kernel
theorem c_317_180 : pg_cd 317 180 = (36, 3, 0, 3, 8) := by decide +kernel
theorem c_317_183 : pg_cd 317 183 = (3, 2, 0, 8, 0) := by decide +kernel
theorem c_317_185 : pg_cd 317 185 = (38, 3, 0, 0, 22) := by decide +kernel
theorem c_317_188 : pg_cd 317 188 = (5, 1, 0, 0, 0) := by decide +kernel
theorem c_317_189 : pg_cd 317 189 = (45, 12, 8, 0, 0) := by decide +kernel
theorem c_317_192 : pg_cd 317 192 = (1, 3, 401, 0, 108700) := by decide +kernel
theorem c_317_195 : pg_cd 317 195 = (1, 2, 0, 0, 8) := by decide +kernel
theorem c_317_197 : pg_cd 317 197 = (3, 2, 0, 5, 0) := by decide +kernel
theorem c_317_199 : pg_cd 317 199 = (12, 1, 0, 0, 0) := by decide +kernel
theorem c_317_200 : pg_cd 317 200 = (10, 1, 0, 0, 0) := by decide +kernel
theorem c_317_201 : pg_cd 317 201 = (3, 2, 0, 8, 0) := by decide +kernel
theorem c_317_203 : pg_cd 317 203 = (10, 1, 0, 0, 0) := by decide +kernel
theorem c_317_204 : pg_cd 317 204 = (50, 1, 0, 0, 0) := by decide +kernel
theorem c_317_205 : pg_cd 317 205 = (1, 1, 0, 0, 1) := by decide +kernel
theorem c_317_206 : pg_cd 317 206 = (11, 1, 0, 0, 0) := by decide +kernel
theorem c_317_207 : pg_cd 317 207 = (90, 0, 0, 0, 0) := by decide +kernel
theorem mx_317 : pg_mx 317 = 9 := by decide +kernel
theorem m_317 {d : Nat} {h : ab_H} {Q : Option Value → ab_H → Prop} {x0 : Nat} {x1 : Int32} {x2 : Int32} (t : wq d 317 0 [.ref x0, .int x1, .int x2, .retAddr 0, .retAddr 0, .retAddr 0, .retAddr 0, .retAddr 0, .retAddr 0] [] h Q) : wm d 317 [.ref x0, .int x1, .int x2] h Q := by
  unfold wm
  rw [mx_317]
  exact t
set_option maxRecDepth 20000 in
theorem t_317_0 {d : Nat} {h : ab_H} {Q : Option Value → ab_H → Prop} {x0 : Nat} {x1 : Int32} {x2 : Int32} (t : ab_ok h x0 112 = true ∧ ∃ j1 : Nat, ab_r h x0 0 = some j1 ∧ ((j1 = 0 ∨ ab_ok h j1 0 = true) ∧ ab_in (15 : Int32) (ab_s h j1).2 = true) ∧ wm d 196 [.int x1, .int 0, .int ((ab_i h j1 (Int32.toNatClampNeg (15 : Int32))) - 1)] h (fun r9 h9 => wq (d + 1) 317 14 [.ref x0, .int x1, .int x2, .retAddr 0, .retAddr 0, .retAddr 0, .retAddr 0, .retAddr 0, .retAddr 0] (r9.toList ++ []) h9 Q)) : wq (d + 1) 317 0 [.ref x0, .int x1, .int x2, .retAddr 0, .retAddr 0, .retAddr 0, .retAddr 0, .retAddr 0, .retAddr 0] [] h Q := by
  refine g3 c_317_0 rfl ?_
  refine g1 c_317_1 k_0 ?_
  refine g5 c_317_2 rfl ?_
  obtain ⟨ho, j1, hr, t⟩ := t
  refine g45 c_317_3 ho hr ?_
  refine g1 c_317_6 k_15 ?_
  obtain ⟨ho, t⟩ := t
  refine g50 c_317_8 ho ?_
  refine g1 c_317_9 k_1 ?_
  refine g11 c_317_10 ?_
  exact g81 (As := [.int x1, .int 0, .int ((ab_i h j1 (Int32.toNatClampNeg (15 : Int32))) - 1)]) (rest := []) c_317_11 rfl rfl (Nat.le_of_ble_eq_true rfl) (Nat.le_of_ble_eq_true rfl) t
set_option maxRecDepth 20000 in
theorem t_317_14 {d : Nat} {h : ab_H} {Q : Option Value → ab_H → Prop} {x0 : Nat} {x1 : Int32} {x2 : Int32} {s0 : Int32} (t : if s0 = 0 then (Q (some (.int (-1))) h) else (wm d 196 [.int x2, .int 0, .int 4] h (fun r9 h9 => wq (d + 1) 317 23 [.ref x0, .int x1, .int x2, .retAddr 0, .retAddr 0, .retAddr 0, .retAddr 0, .retAddr 0, .retAddr 0] (r9.toList ++ []) h9 Q))) : wq (d + 1) 317 14 [.ref x0, .int x1, .int x2, .retAddr 0, .retAddr 0, .retAddr 0, .retAddr 0, .retAddr 0, .retAddr 0] [.int s0] h Q := by
  refine gif c_317_14 (gbr t rfl rfl (fun hc t => ?_) (fun hc t => ?_))
  · refine g1 c_317_26 k_m1 ?_
    exact g90 c_317_27 t
  · refine g3 c_317_17 rfl ?_
    refine g1 c_317_18 k_0 ?_
    refine g1 c_317_19 k_4 ?_
    exact g81 (As := [.int x2, .int 0, .int 4]) (rest := []) c_317_20 rfl rfl (Nat.le_of_ble_eq_true rfl) (Nat.le_of_ble_eq_true rfl) t
set_option maxRecDepth 20000 in
theorem t_317_23 {d : Nat} {h : ab_H} {Q : Option Value → ab_H → Prop} {x0 : Nat} {x1 : Int32} {x2 : Int32} {s0 : Int32} (t : if s0 = 0 then (Q (some (.int (-1))) h) else (wq d 317 33 [.ref x0, .int x1, .int x2, .int x1, .int 0, .retAddr 0, .retAddr 0, .retAddr 0, .retAddr 0] [] h Q)) : wq d 317 23 [.ref x0, .int x1, .int x2, .retAddr 0, .retAddr 0, .retAddr 0, .retAddr 0, .retAddr 0, .retAddr 0] [.int s0] h Q := by
  refine gif c_317_23 (gbn t (ab_c1 _ _) rfl (fun hc t => ?_) (fun hc t => ?_))
  · refine g1 c_317_26 k_m1 ?_
    exact g90 c_317_27 t
  · refine g3 c_317_28 rfl ?_
    refine g6 (L' := [.ref x0, .int x1, .int x2, .int x1, .retAddr 0, .retAddr 0, .retAddr 0, .retAddr 0, .retAddr 0]) c_317_29 rfl ?_
    refine g1 c_317_30 k_0 ?_
    refine g6 (L' := [.ref x0, .int x1, .int x2, .int x1, .int 0, .retAddr 0, .retAddr 0, .retAddr 0, .retAddr 0]) c_317_31 rfl ?_
    exact t
set_option maxRecDepth 20000 in
theorem t_317_33 {d : Nat} {h : ab_H} {Q : Option Value → ab_H → Prop} {x0 : Nat} {x1 : Int32} {x2 : Int32} {x3 : Int32} {x4 : Int32} (t : ab_ok h x0 112 = true ∧ ∃ j1 : Nat, ab_r h x0 0 = some j1 ∧ ((j1 = 0 ∨ ab_ok h j1 0 = true) ∧ ab_in (41500 + x4) (ab_s h j1).2 = true) ∧ if x3 < (ab_i h j1 (Int32.toNatClampNeg (41500 + x4))) then (¬ (24 : Int32) = 0 ∧ ¬ (24 : Int32) = 0 ∧ if x2 = 0 then (Q (some (.int (x4 - x4 / 24 * 24))) h) else (if x2 = 1 then (Q (some (.int (x4 / 24))) h) else (ab_ok h x0 112 = true ∧ ∃ j2 : Nat, ab_r h x0 0 = some j2 ∧ ((j2 = 0 ∨ ab_ok h j2 0 = true) ∧ ab_in (51100 + x4) (ab_s h j2).2 = true) ∧ if (ab_i h j2 (Int32.toNatClampNeg (51100 + x4))) ≤ x3 then (if x2 = 2 then (Q (some (.int (-1))) h) else (if 0 ≤ (-1 : Int32) then (ab_ok h x0 112 = true ∧ ∃ j3 : Nat, ab_r h x0 0 = some j3 ∧ ((j3 = 0 ∨ ab_ok h j3 0 = true) ∧ ab_in ((84700 + (60 * (x4 / 24))) + (-1)) (ab_s h j3).2 = true) ∧ ∀ y4 : Int32, y4 = ((ab_i h j3 (Int32.toNatClampNeg ((84700 + (60 * (x4 / 24))) + (-1)))) - 1) → if x2 = 3 then (Q (some (.int y4)) h) else (if 0 ≤ y4 then (ab_ok h x0 112 = true ∧ ∃ j5 : Nat, ab_r h x0 0 = some j5 ∧ ((j5 = 0 ∨ ab_ok h j5 0 = true) ∧ ab_in ((108700 + (8 * (x4 / 24))) + y4) (ab_s h j5).2 = true) ∧ Q (some (.int ((ab_i h j5 (Int32.toNatClampNeg ((108700 + (8 * (x4 / 24))) + y4))) - 1))) h) else (Q (some (.int y4)) h))) else (Q (some (.int (-1))) h))) else (ab_ok h x0 112 = true ∧ ∃ j6 : Nat, ab_r h x0 0 = some j6 ∧ ((j6 = 0 ∨ ab_ok h j6 0 = true) ∧ ab_in (111900 + (x4 / 24)) (ab_s h j6).2 = true) ∧ ab_ok h x0 112 = true ∧ wm d 316 [.ref x0, .int (x4 - x4 / 24 * 24), .int (x4 / 24), .int (x3 * (ab_i h j6 (Int32.toNatClampNeg (111900 + (x4 / 24)))))] h (fun r9 h9 => wq (d + 1) 317 133 [.ref x0, .int x1, .int x2, .int x3, .int x4, .int (x4 / 24), .int (x4 - x4 / 24 * 24), .retAddr 0, .retAddr 0] (r9.toList ++ []) h9 Q))))) else (ab_ok h x0 112 = true ∧ ∃ j7 : Nat, ab_r h x0 0 = some j7 ∧ ((j7 = 0 ∨ ab_ok h j7 0 = true) ∧ ab_in (41500 + x4) (ab_s h j7).2 = true) ∧ ∀ y8 : Int32, y8 = (x3 - (ab_i h j7 (Int32.toNatClampNeg (41500 + x4)))) → wq (d + 1) 317 33 [.ref x0, .int x1, .int x2, .int y8, .int (x4 + 1), .retAddr 0, .retAddr 0, .retAddr 0, .retAddr 0] [] h Q)) : wq (d + 1) 317 33 [.ref x0, .int x1, .int x2, .int x3, .int x4, .retAddr 0, .retAddr 0, .retAddr 0, .retAddr 0] [] h Q := by
  refine g3 c_317_33 rfl ?_
  refine g5 c_317_34 rfl ?_
  obtain ⟨ho, j1, hr, t⟩ := t
  refine g45 c_317_35 ho hr ?_
  refine g1 c_317_38 k_41500 ?_
  refine g3 c_317_41 rfl ?_
  refine g10 c_317_43 ?_
  obtain ⟨ho, t⟩ := t
  refine g50 c_317_44 ho ?_
  refine gcm c_317_45 (gbr t rfl rfl (fun hc t => ?_) (fun hc t => ?_))
  · refine g3 c_317_68 rfl ?_
    refine g1 c_317_70 k_24 ?_
    obtain ⟨hy, t⟩ := t
    refine g16 c_317_72 hy ?_
    refine g6 (L' := [.ref x0, .int x1, .int x2, .int x3, .int x4, .int (x4 / 24), .retAddr 0, .retAddr 0, .retAddr 0]) c_317_73 rfl ?_
    refine g3 c_317_75 rfl ?_
    refine g1 c_317_77 k_24 ?_
    obtain ⟨hy, t⟩ := t
    refine g17 c_317_79 hy ?_
    refine g6 (L' := [.ref x0, .int x1, .int x2, .int x3, .int x4, .int (x4 / 24), .int (x4 - x4 / 24 * 24), .retAddr 0, .retAddr 0]) c_317_80 rfl ?_
    refine g3 c_317_82 rfl ?_
    refine gif c_317_83 (gbn t (ab_c1 _ _) rfl (fun hc t => ?_) (fun hc t => ?_))
    · refine g3 c_317_86 rfl ?_
      exact g90 c_317_88 t
    · refine g3 c_317_89 rfl ?_
      refine g1 c_317_90 k_1 ?_
      refine gcm c_317_91 (gbn t (ab_c1 _ _) rfl (fun hc t => ?_) (fun hc t => ?_))
      · refine g3 c_317_94 rfl ?_
        exact g90 c_317_96 t
      · refine g3 c_317_97 rfl ?_
        refine g5 c_317_98 rfl ?_
        obtain ⟨ho, j2, hr, t⟩ := t
        refine g45 c_317_99 ho hr ?_
        refine g1 c_317_102 k_51100 ?_
        refine g3 c_317_105 rfl ?_
        refine g10 c_317_107 ?_
        obtain ⟨ho, t⟩ := t
        refine g50 c_317_108 ho ?_
        refine gcm c_317_109 (gbr t rfl rfl (fun hc t => ?_) (fun hc t => ?_))
        · refine g1 c_317_136 k_m1 ?_
          refine g6 (L' := [.ref x0, .int x1, .int x2, .int x3, .int x4, .int (x4 / 24), .int (x4 - x4 / 24 * 24), .int (-1), .retAddr 0]) c_317_137 rfl ?_
          refine g3 c_317_139 rfl ?_
          refine g1 c_317_140 k_2 ?_
          refine gcm c_317_141 (gbr t rfl rfl (fun hc t => ?_) (fun hc t => ?_))
          · refine g3 c_317_149 rfl ?_
            exact g90 c_317_151 t
          · refine g3 c_317_144 rfl ?_
            refine gif c_317_146 (gbr t rfl rfl (fun hc t => ?_) (fun hc t => ?_))
            · refine g5 c_317_152 rfl ?_
              obtain ⟨ho, j3, hr, t⟩ := t
              refine g45 c_317_153 ho hr ?_
              refine g1 c_317_156 k_84700 ?_
              refine g1 c_317_159 k_60 ?_
              refine g3 c_317_161 rfl ?_
              refine g12 c_317_163 ?_
              refine g10 c_317_164 ?_
              refine g3 c_317_165 rfl ?_
              refine g10 c_317_167 ?_
              obtain ⟨ho, t⟩ := t
              refine g50 c_317_168 ho ?_
              refine g1 c_317_169 k_1 ?_
              refine g11 c_317_170 ?_
              refine g6y (Lf := fun y4 => [.ref x0, .int x1, .int x2, .int x3, .int x4, .int (x4 / 24), .int (x4 - x4 / 24 * 24), .int (-1), .int y4]) c_317_171 (fun _ => rfl) (fun y4 ey4 => ?_)
              have t := t y4 ey4
              refine g3 c_317_173 rfl ?_
              refine g1 c_317_174 k_3 ?_
              refine gcm c_317_175 (gbr t rfl rfl (fun hc t => ?_) (fun hc t => ?_))
              · refine g3 c_317_183 rfl ?_
                refine g38 c_317_185 rfl ?_
                exact g90 c_317_207 t
              · refine g3 c_317_178 rfl ?_
                refine gif c_317_180 (gbr t rfl rfl (fun hc t => ?_) (fun hc t => ?_))
                · refine g5 c_317_188 rfl ?_
                  obtain ⟨ho, j5, hr, t⟩ := t
                  refine g45 c_317_189 ho hr ?_
                  refine g1 c_317_192 k_108700 ?_
                  refine g1 c_317_195 k_8 ?_
                  refine g3 c_317_197 rfl ?_
                  refine g12 c_317_199 ?_
                  refine g10 c_317_200 ?_
                  refine g3 c_317_201 rfl ?_
                  refine g10 c_317_203 ?_
                  obtain ⟨ho, t⟩ := t
                  refine g50 c_317_204 ho ?_
                  refine g1 c_317_205 k_1 ?_
                  refine g11 c_317_206 ?_
                  exact g90 c_317_207 t
                · refine g3 c_317_183 rfl ?_
                  refine g38 c_317_185 rfl ?_
                  exact g90 c_317_207 t
            · refine g3 c_317_149 rfl ?_
              exact g90 c_317_151 t
        · refine g5 c_317_112 rfl ?_
          refine g3 c_317_113 rfl ?_
          refine g3 c_317_115 rfl ?_
          refine g3 c_317_117 rfl ?_
          refine g5 c_317_118 rfl ?_
          obtain ⟨ho, j6, hr, t⟩ := t
          refine g45 c_317_119 ho hr ?_
          refine g1 c_317_122 k_111900 ?_
          refine g3 c_317_125 rfl ?_
          refine g10 c_317_127 ?_
          obtain ⟨ho, t⟩ := t
          refine g50 c_317_128 ho ?_
          refine g12 c_317_129 ?_
          exact g80 (As := [.int (x4 - x4 / 24 * 24), .int (x4 / 24), .int (x3 * (ab_i h j6 (Int32.toNatClampNeg (111900 + (x4 / 24)))))]) (rest := []) c_317_130 rfl rfl (Nat.le_of_ble_eq_true rfl) (Nat.le_of_ble_eq_true rfl) t.1 t.2
  · refine g3 c_317_48 rfl ?_
    refine g5 c_317_49 rfl ?_
    obtain ⟨ho, j7, hr, t⟩ := t
    refine g45 c_317_50 ho hr ?_
    refine g1 c_317_53 k_41500 ?_
    refine g3 c_317_56 rfl ?_
    refine g10 c_317_58 ?_
    obtain ⟨ho, t⟩ := t
    refine g50 c_317_59 ho ?_
    refine g11 c_317_60 ?_
    refine g6y (Lf := fun y8 => [.ref x0, .int x1, .int x2, .int y8, .int x4, .retAddr 0, .retAddr 0, .retAddr 0, .retAddr 0]) c_317_61 (fun _ => rfl) (fun y8 ey8 => ?_)
    have t := t y8 ey8
    refine g9 (L' := [.ref x0, .int x1, .int x2, .int y8, .int (x4 + 1), .retAddr 0, .retAddr 0, .retAddr 0, .retAddr 0]) c_317_62 rfl k_1 rfl ?_
    refine g38 c_317_65 rfl ?_
    exact t
set_option maxRecDepth 20000 in
theorem t_317_133 {d : Nat} {h : ab_H} {Q : Option Value → ab_H → Prop} {x0 : Nat} {x1 : Int32} {x2 : Int32} {x3 : Int32} {x4 : Int32} {x5 : Int32} {x6 : Int32} {s0 : Int32} (t : if x2 = 2 then (Q (some (.int s0)) h) else (if 0 ≤ s0 then (ab_ok h x0 112 = true ∧ ∃ j1 : Nat, ab_r h x0 0 = some j1 ∧ ((j1 = 0 ∨ ab_ok h j1 0 = true) ∧ ab_in ((84700 + (60 * x5)) + s0) (ab_s h j1).2 = true) ∧ ∀ y2 : Int32, y2 = ((ab_i h j1 (Int32.toNatClampNeg ((84700 + (60 * x5)) + s0))) - 1) → if x2 = 3 then (Q (some (.int y2)) h) else (if 0 ≤ y2 then (ab_ok h x0 112 = true ∧ ∃ j3 : Nat, ab_r h x0 0 = some j3 ∧ ((j3 = 0 ∨ ab_ok h j3 0 = true) ∧ ab_in ((108700 + (8 * x5)) + y2) (ab_s h j3).2 = true) ∧ Q (some (.int ((ab_i h j3 (Int32.toNatClampNeg ((108700 + (8 * x5)) + y2))) - 1))) h) else (Q (some (.int y2)) h))) else (Q (some (.int s0)) h))) : wq d 317 133 [.ref x0, .int x1, .int x2, .int x3, .int x4, .int x5, .int x6, .retAddr 0, .retAddr 0] [.int s0] h Q := by
  refine g38 c_317_133 rfl ?_
  refine g6 (L' := [.ref x0, .int x1, .int x2, .int x3, .int x4, .int x5, .int x6, .int s0, .retAddr 0]) c_317_137 rfl ?_
  refine g3 c_317_139 rfl ?_
  refine g1 c_317_140 k_2 ?_
  refine gcm c_317_141 (gbr t rfl rfl (fun hc t => ?_) (fun hc t => ?_))
  · refine g3 c_317_149 rfl ?_
    exact g90 c_317_151 t
  · refine g3 c_317_144 rfl ?_
    refine gif c_317_146 (gbr t rfl rfl (fun hc t => ?_) (fun hc t => ?_))
    · refine g5 c_317_152 rfl ?_
      obtain ⟨ho, j1, hr, t⟩ := t
      refine g45 c_317_153 ho hr ?_
      refine g1 c_317_156 k_84700 ?_
      refine g1 c_317_159 k_60 ?_
      refine g3 c_317_161 rfl ?_
      refine g12 c_317_163 ?_
      refine g10 c_317_164 ?_
      refine g3 c_317_165 rfl ?_
      refine g10 c_317_167 ?_
      obtain ⟨ho, t⟩ := t
      refine g50 c_317_168 ho ?_
      refine g1 c_317_169 k_1 ?_
      refine g11 c_317_170 ?_
      refine g6y (Lf := fun y2 => [.ref x0, .int x1, .int x2, .int x3, .int x4, .int x5, .int x6, .int s0, .int y2]) c_317_171 (fun _ => rfl) (fun y2 ey2 => ?_)
      have t := t y2 ey2
      refine g3 c_317_173 rfl ?_
      refine g1 c_317_174 k_3 ?_
      refine gcm c_317_175 (gbr t rfl rfl (fun hc t => ?_) (fun hc t => ?_))
      · refine g3 c_317_183 rfl ?_
        refine g38 c_317_185 rfl ?_
        exact g90 c_317_207 t
      · refine g3 c_317_178 rfl ?_
        refine gif c_317_180 (gbr t rfl rfl (fun hc t => ?_) (fun hc t => ?_))
        · refine g5 c_317_188 rfl ?_
          obtain ⟨ho, j3, hr, t⟩ := t
          refine g45 c_317_189 ho hr ?_
          refine g1 c_317_192 k_108700 ?_
          refine g1 c_317_195 k_8 ?_
          refine g3 c_317_197 rfl ?_
          refine g12 c_317_199 ?_
          refine g10 c_317_200 ?_
          refine g3 c_317_201 rfl ?_
          refine g10 c_317_203 ?_
          obtain ⟨ho, t⟩ := t
          refine g50 c_317_204 ho ?_
          refine g1 c_317_205 k_1 ?_
          refine g11 c_317_206 ?_
          exact g90 c_317_207 t
        · refine g3 c_317_183 rfl ?_
          refine g38 c_317_185 rfl ?_
          exact g90 c_317_207 t
    · refine g3 c_317_149 rfl ?_
      exact g90 c_317_151 t
-- method 318: MillTownModel.inBooks(III)I
theorem c_318_0 : pg_cd 318 0 = (1, 1, 0, 0, 0) := by decide +kernel
theorem c_318_1 : pg_cd 318 1 = (6, 2, 0, 4, 0) := by decide +kernel
theorem c_318_3 : pg_cd 318 3 = (1, 1, 0, 0, 0) := by decide +kernel
theorem c_318_4 : pg_cd 318 4 = (6, 2, 0, 5, 0) := by decide +kernel
theorem c_318_6 : pg_cd 318 6 = (3, 2, 0, 5, 0) := by decide +kernel
theorem c_318_8 : pg_cd 318 8 = (5, 1, 0, 0, 0) := by decide +kernel
theorem c_318_9 : pg_cd 318 9 = (45, 12, 8, 0, 0) := by decide +kernel
theorem c_318_12 : pg_cd 318 12 = (1, 1, 0, 0, 4) := by decide +kernel
theorem c_318_13 : pg_cd 318 13 = (50, 1, 0, 0, 0) := by decide +kernel
theorem c_318_14 : pg_cd 318 14 = (37, 3, 0, 3, 67) := by decide +kernel
theorem c_318_17 : pg_cd 318 17 = (3, 2, 0, 4, 0) := by decide +kernel
theorem c_318_19 : pg_cd 318 19 = (5, 1, 0, 0, 0) := by decide +kernel
theorem c_318_20 : pg_cd 318 20 = (3, 2, 0, 5, 0) := by decide +kernel
theorem c_318_22 : pg_cd 318 22 = (1, 1, 0, 0, 0) := by decide +kernel
theorem c_318_23 : pg_cd 318 23 = (80, 199, 102, 0, 0) := by decide +kernel
theorem c_318_26 : pg_cd 318 26 = (3, 1, 0, 2, 0) := by decide +kernel
theorem c_318_27 : pg_cd 318 27 = (37, 3, 0, 1, 44) := by decide +kernel
theorem c_318_30 : pg_cd 318 30 = (5, 1, 0, 0, 0) := by decide +kernel
theorem c_318_31 : pg_cd 318 31 = (45, 12, 8, 0, 0) := by decide +kernel
theorem c_318_34 : pg_cd 318 34 = (1, 3, 400, 0, 84700) := by decide +kernel
theorem c_318_37 : pg_cd 318 37 = (1, 2, 0, 0, 60) := by decide +kernel
theorem c_318_39 : pg_cd 318 39 = (3, 1, 0, 3, 0) := by decide +kernel
theorem c_318_40 : pg_cd 318 40 = (12, 1, 0, 0, 0) := by decide +kernel
theorem c_318_41 : pg_cd 318 41 = (10, 1, 0, 0, 0) := by decide +kernel
theorem c_318_42 : pg_cd 318 42 = (3, 2, 0, 5, 0) := by decide +kernel
theorem c_318_44 : pg_cd 318 44 = (10, 1, 0, 0, 0) := by decide +kernel
theorem c_318_45 : pg_cd 318 45 = (50, 1, 0, 0, 0) := by decide +kernel
theorem c_318_46 : pg_cd 318 46 = (3, 1, 0, 1, 0) := by decide +kernel
theorem c_318_47 : pg_cd 318 47 = (1, 1, 0, 0, 1) := by decide +kernel
theorem c_318_48 : pg_cd 318 48 = (10, 1, 0, 0, 0) := by decide +kernel
theorem c_318_49 : pg_cd 318 49 = (37, 3, 0, 1, 22) := by decide +kernel
theorem c_318_52 : pg_cd 318 52 = (5, 1, 0, 0, 0) := by decide +kernel
theorem c_318_53 : pg_cd 318 53 = (45, 12, 8, 0, 0) := by decide +kernel
theorem c_318_56 : pg_cd 318 56 = (1, 3, 399, 0, 60700) := by decide +kernel
theorem c_318_59 : pg_cd 318 59 = (1, 2, 0, 0, 60) := by decide +kernel
theorem c_318_61 : pg_cd 318 61 = (3, 1, 0, 3, 0) := by decide +kernel
theorem c_318_62 : pg_cd 318 62 = (12, 1, 0, 0, 0) := by decide +kernel
theorem c_318_63 : pg_cd 318 63 = (10, 1, 0, 0, 0) := by decide +kernel
theorem c_318_64 : pg_cd 318 64 = (3, 2, 0, 5, 0) := by decide +kernel
theorem c_318_66 : pg_cd 318 66 = (10, 1, 0, 0, 0) := by decide +kernel
theorem c_318_67 : pg_cd 318 67 = (50, 1, 0, 0, 0) := by decide +kernel
theorem c_318_68 : pg_cd 318 68 = (38, 3, 0, 0, 4) := by decide +kernel
theorem c_318_71 : pg_cd 318 71 = (1, 1, 0, 0, 0) := by decide +kernel
theorem c_318_72 : pg_cd 318 72 = (10, 1, 0, 0, 0) := by decide +kernel
theorem c_318_73 : pg_cd 318 73 = (6, 2, 0, 4, 0) := by decide +kernel
theorem c_318_75 : pg_cd 318 75 = (9, 3, 0, 5, 1) := by decide +kernel
theorem c_318_78 : pg_cd 318 78 = (38, 3, 0, 0, (-72)) := by decide +kernel
theorem c_318_81 : pg_cd 318 81 = (3, 2, 0, 4, 0) := by decide +kernel
theorem c_318_83 : pg_cd 318 83 = (90, 0, 0, 0, 0) := by decide +kernel
theorem mx_318 : pg_mx 318 = 6 := by decide +kernel
theorem m_318 {d : Nat} {h : ab_H} {Q : Option Value → ab_H → Prop} {x0 : Nat} {x1 : Int32} {x2 : Int32} {x3 : Int32} (t : wq d 318 0 [.ref x0, .int x1, .int x2, .int x3, .retAddr 0, .retAddr 0] [] h Q) : wm d 318 [.ref x0, .int x1, .int x2, .int x3] h Q := by
  unfold wm
  rw [mx_318]
  exact t
set_option maxRecDepth 20000 in
theorem t_318_0 {d : Nat} {h : ab_H} {Q : Option Value → ab_H → Prop} {x0 : Nat} {x1 : Int32} {x2 : Int32} {x3 : Int32} (t : wq d 318 6 [.ref x0, .int x1, .int x2, .int x3, .int 0, .int 0] [] h Q) : wq d 318 0 [.ref x0, .int x1, .int x2, .int x3, .retAddr 0, .retAddr 0] [] h Q := by
  refine g1 c_318_0 k_0 ?_
  refine g6 (L' := [.ref x0, .int x1, .int x2, .int x3, .int 0, .retAddr 0]) c_318_1 rfl ?_
  refine g1 c_318_3 k_0 ?_
  refine g6 (L' := [.ref x0, .int x1, .int x2, .int x3, .int 0, .int 0]) c_318_4 rfl ?_
  exact t
set_option maxRecDepth 20000 in
theorem t_318_6 {d : Nat} {h : ab_H} {Q : Option Value → ab_H → Prop} {x0 : Nat} {x1 : Int32} {x2 : Int32} {x3 : Int32} {x4 : Int32} {x5 : Int32} (t : ab_ok h x0 112 = true ∧ ∃ j1 : Nat, ab_r h x0 0 = some j1 ∧ ((j1 = 0 ∨ ab_ok h j1 0 = true) ∧ ab_in (4 : Int32) (ab_s h j1).2 = true) ∧ if (ab_i h j1 (Int32.toNatClampNeg (4 : Int32))) ≤ x5 then (Q (some (.int x4)) h) else (ab_ok h x0 112 = true ∧ wm d 199 [.ref x0, .int x5, .int 0] h (fun r9 h9 => wq (d + 1) 318 26 [.ref x0, .int x1, .int x2, .int x3, .int x4, .int x5] (r9.toList ++ [.int x4]) h9 Q))) : wq (d + 1) 318 6 [.ref x0, .int x1, .int x2, .int x3, .int x4, .int x5] [] h Q := by
  refine g3 c_318_6 rfl ?_
  refine g5 c_318_8 rfl ?_
  obtain ⟨ho, j1, hr, t⟩ := t
  refine g45 c_318_9 ho hr ?_
  refine g1 c_318_12 k_4 ?_
  obtain ⟨ho, t⟩ := t
  refine g50 c_318_13 ho ?_
  refine gcm c_318_14 (gbr t rfl rfl (fun hc t => ?_) (fun hc t => ?_))
  · refine g3 c_318_81 rfl ?_
    exact g90 c_318_83 t
  · refine g3 c_318_17 rfl ?_
    refine g5 c_318_19 rfl ?_
    refine g3 c_318_20 rfl ?_
    refine g1 c_318_22 k_0 ?_
    exact g80 (As := [.int x5, .int 0]) (rest := [.int x4]) c_318_23 rfl rfl (Nat.le_of_ble_eq_true rfl) (Nat.le_of_ble_eq_true rfl) t.1 t.2
set_option maxRecDepth 20000 in
theorem t_318_26 {d : Nat} {h : ab_H} {Q : Option Value → ab_H → Prop} {x0 : Nat} {x1 : Int32} {x2 : Int32} {x3 : Int32} {x4 : Int32} {x5 : Int32} {s0 : Int32} {s1 : Int32} (t : if s1 = x2 then (ab_ok h x0 112 = true ∧ ∃ j1 : Nat, ab_r h x0 0 = some j1 ∧ ((j1 = 0 ∨ ab_ok h j1 0 = true) ∧ ab_in ((84700 + (60 * x3)) + x5) (ab_s h j1).2 = true) ∧ if (ab_i h j1 (Int32.toNatClampNeg ((84700 + (60 * x3)) + x5))) = (x1 + 1) then (ab_ok h x0 112 = true ∧ ∃ j2 : Nat, ab_r h x0 0 = some j2 ∧ ((j2 = 0 ∨ ab_ok h j2 0 = true) ∧ ab_in ((60700 + (60 * x3)) + x5) (ab_s h j2).2 = true) ∧ ∀ y3 : Int32, y3 = (s0 + (ab_i h j2 (Int32.toNatClampNeg ((60700 + (60 * x3)) + x5)))) → wq d 318 6 [.ref x0, .int x1, .int x2, .int x3, .int y3, .int (x5 + 1)] [] h Q) else (wq d 318 6 [.ref x0, .int x1, .int x2, .int x3, .int (s0 + 0), .int (x5 + 1)] [] h Q)) else (wq d 318 6 [.ref x0, .int x1, .int x2, .int x3, .int (s0 + 0), .int (x5 + 1)] [] h Q)) : wq d 318 26 [.ref x0, .int x1, .int x2, .int x3, .int x4, .int x5] [.int s1, .int s0] h Q := by
  refine g3 c_318_26 rfl ?_
  refine gcm c_318_27 (gbn t (ab_c1 _ _) rfl (fun hc t => ?_) (fun hc t => ?_))
  · refine g5 c_318_30 rfl ?_
    obtain ⟨ho, j1, hr, t⟩ := t
    refine g45 c_318_31 ho hr ?_
    refine g1 c_318_34 k_84700 ?_
    refine g1 c_318_37 k_60 ?_
    refine g3 c_318_39 rfl ?_
    refine g12 c_318_40 ?_
    refine g10 c_318_41 ?_
    refine g3 c_318_42 rfl ?_
    refine g10 c_318_44 ?_
    obtain ⟨ho, t⟩ := t
    refine g50 c_318_45 ho ?_
    refine g3 c_318_46 rfl ?_
    refine g1 c_318_47 k_1 ?_
    refine g10 c_318_48 ?_
    refine gcm c_318_49 (gbn t (ab_c1 _ _) rfl (fun hc t => ?_) (fun hc t => ?_))
    · refine g5 c_318_52 rfl ?_
      obtain ⟨ho, j2, hr, t⟩ := t
      refine g45 c_318_53 ho hr ?_
      refine g1 c_318_56 k_60700 ?_
      refine g1 c_318_59 k_60 ?_
      refine g3 c_318_61 rfl ?_
      refine g12 c_318_62 ?_
      refine g10 c_318_63 ?_
      refine g3 c_318_64 rfl ?_
      refine g10 c_318_66 ?_
      obtain ⟨ho, t⟩ := t
      refine g50 c_318_67 ho ?_
      refine g38 c_318_68 rfl ?_
      refine g10 c_318_72 ?_
      refine g6y (Lf := fun y3 => [.ref x0, .int x1, .int x2, .int x3, .int y3, .int x5]) c_318_73 (fun _ => rfl) (fun y3 ey3 => ?_)
      have t := t y3 ey3
      refine g9 (L' := [.ref x0, .int x1, .int x2, .int x3, .int y3, .int (x5 + 1)]) c_318_75 rfl k_1 rfl ?_
      refine g38 c_318_78 rfl ?_
      exact t
    · refine g1 c_318_71 k_0 ?_
      refine g10 c_318_72 ?_
      refine g6 (L' := [.ref x0, .int x1, .int x2, .int x3, .int (s0 + 0), .int x5]) c_318_73 rfl ?_
      refine g9 (L' := [.ref x0, .int x1, .int x2, .int x3, .int (s0 + 0), .int (x5 + 1)]) c_318_75 rfl k_1 rfl ?_
      refine g38 c_318_78 rfl ?_
      exact t
  · refine g1 c_318_71 k_0 ?_
    refine g10 c_318_72 ?_
    refine g6 (L' := [.ref x0, .int x1, .int x2, .int x3, .int (s0 + 0), .int x5]) c_318_73 rfl ?_
    refine g9 (L' := [.ref x0, .int x1, .int x2, .int x3, .int (s0 + 0), .int (x5 + 1)]) c_318_75 rfl k_1 rfl ?_
    refine g38 c_318_78 rfl ?_
    exact t
-- method 319: MillTownModel.sheet(I)Z
theorem c_319_0 : pg_cd 319 0 = (3, 1, 0, 1, 0) := by decide +kernel
theorem c_319_1 : pg_cd 319 1 = (1, 1, 0, 0, 0) := by decide +kernel
theorem c_319_2 : pg_cd 319 2 = (5, 1, 0, 0, 0) := by decide +kernel
theorem c_319_3 : pg_cd 319 3 = (45, 12, 8, 0, 0) := by decide +kernel
theorem c_319_6 : pg_cd 319 6 = (1, 1, 0, 0, 0) := by decide +kernel
theorem c_319_7 : pg_cd 319 7 = (50, 1, 0, 0, 0) := by decide +kernel
theorem c_319_8 : pg_cd 319 8 = (1, 1, 0, 0, 1) := by decide +kernel
theorem c_319_9 : pg_cd 319 9 = (11, 1, 0, 0, 0) := by decide +kernel
theorem c_319_10 : pg_cd 319 10 = (81, 196, 76, 0, 0) := by decide +kernel
theorem c_319_13 : pg_cd 319 13 = (36, 3, 0, 1, 5) := by decide +kernel
theorem c_319_16 : pg_cd 319 16 = (1, 1, 0, 0, 0) := by decide +kernel
theorem c_319_17 : pg_cd 319 17 = (91, 0, 0, 0, 0) := by decide +kernel
theorem c_319_18 : pg_cd 319 18 = (5, 1, 0, 0, 0) := by decide +kernel
theorem c_319_19 : pg_cd 319 19 = (3, 1, 0, 1, 0) := by decide +kernel
theorem c_319_20 : pg_cd 319 20 = (46, 12, 68, 42, 0) := by decide +kernel
theorem c_319_23 : pg_cd 319 23 = (1, 1, 0, 0, 0) := by decide +kernel
theorem c_319_24 : pg_cd 319 24 = (6, 1, 0, 2, 0) := by decide +kernel
theorem c_319_25 : pg_cd 319 25 = (3, 1, 0, 2, 0) := by decide +kernel
theorem c_319_26 : pg_cd 319 26 = (1, 3, 0, 0, 192) := by decide +kernel
theorem c_319_29 : pg_cd 319 29 = (37, 3, 0, 3, 28) := by decide +kernel
theorem c_319_32 : pg_cd 319 32 = (5, 1, 0, 0, 0) := by decide +kernel
theorem c_319_33 : pg_cd 319 33 = (45, 12, 65, 41, 0) := by decide +kernel
theorem c_319_36 : pg_cd 319 36 = (3, 1, 0, 2, 0) := by decide +kernel
theorem c_319_37 : pg_cd 319 37 = (5, 1, 0, 0, 0) := by decide +kernel
theorem c_319_38 : pg_cd 319 38 = (3, 1, 0, 2, 0) := by decide +kernel
theorem c_319_39 : pg_cd 319 39 = (1, 2, 0, 0, 24) := by decide +kernel
theorem c_319_41 : pg_cd 319 41 = (16, 1, 0, 0, 0) := by decide +kernel
theorem c_319_42 : pg_cd 319 42 = (3, 1, 0, 2, 0) := by decide +kernel
theorem c_319_43 : pg_cd 319 43 = (1, 2, 0, 0, 24) := by decide +kernel
theorem c_319_45 : pg_cd 319 45 = (17, 1, 0, 0, 0) := by decide +kernel
theorem c_319_46 : pg_cd 319 46 = (3, 1, 0, 1, 0) := by decide +kernel
theorem c_319_47 : pg_cd 319 47 = (80, 318, 448, 0, 0) := by decide +kernel
theorem c_319_50 : pg_cd 319 50 = (54, 1, 0, 0, 0) := by decide +kernel
theorem c_319_51 : pg_cd 319 51 = (9, 3, 0, 2, 1) := by decide +kernel
theorem c_319_54 : pg_cd 319 54 = (38, 3, 0, 0, (-29)) := by decide +kernel
theorem c_319_57 : pg_cd 319 57 = (1, 1, 0, 0, 1) := by decide +kernel
theorem c_319_58 : pg_cd 319 58 = (91, 0, 0, 0, 0) := by decide +kernel
theorem mx_319 : pg_mx 319 = 3 := by decide +kernel
theorem m_319 {d : Nat} {h : ab_H} {Q : Option Value → ab_H → Prop} {x0 : Nat} {x1 : Int32} (t : wq d 319 0 [.ref x0, .int x1, .retAddr 0] [] h Q) : wm d 319 [.ref x0, .int x1] h Q := by
  unfold wm
  rw [mx_319]
  exact t
set_option maxRecDepth 20000 in
theorem t_319_0 {d : Nat} {h : ab_H} {Q : Option Value → ab_H → Prop} {x0 : Nat} {x1 : Int32} (t : ab_ok h x0 112 = true ∧ ∃ j1 : Nat, ab_r h x0 0 = some j1 ∧ ((j1 = 0 ∨ ab_ok h j1 0 = true) ∧ ab_in (0 : Int32) (ab_s h j1).2 = true) ∧ wm d 196 [.int x1, .int 0, .int ((ab_i h j1 (Int32.toNatClampNeg (0 : Int32))) - 1)] h (fun r9 h9 => wq (d + 1) 319 13 [.ref x0, .int x1, .retAddr 0] (r9.toList ++ []) h9 Q)) : wq (d + 1) 319 0 [.ref x0, .int x1, .retAddr 0] [] h Q := by
  refine g3 c_319_0 rfl ?_
  refine g1 c_319_1 k_0 ?_
  refine g5 c_319_2 rfl ?_
  obtain ⟨ho, j1, hr, t⟩ := t
  refine g45 c_319_3 ho hr ?_
  refine g1 c_319_6 k_0 ?_
  obtain ⟨ho, t⟩ := t
  refine g50 c_319_7 ho ?_
  refine g1 c_319_8 k_1 ?_
  refine g11 c_319_9 ?_
  exact g81 (As := [.int x1, .int 0, .int ((ab_i h j1 (Int32.toNatClampNeg (0 : Int32))) - 1)]) (rest := []) c_319_10 rfl rfl (Nat.le_of_ble_eq_true rfl) (Nat.le_of_ble_eq_true rfl) t
set_option maxRecDepth 20000 in
theorem t_319_13 {d : Nat} {h : ab_H} {Q : Option Value → ab_H → Prop} {x0 : Nat} {x1 : Int32} {s0 : Int32} (t : if s0 = 0 then (Q (some (.int 0)) h) else (ab_ok h x0 112 = true ∧ ∀ h1 : ab_H, h1 = ab_pi h x0 42 x1 → wq d 319 25 [.ref x0, .int x1, .int 0] [] h1 Q)) : wq d 319 13 [.ref x0, .int x1, .retAddr 0] [.int s0] h Q := by
  refine gif c_319_13 (gbn t (ab_c1 _ _) rfl (fun hc t => ?_) (fun hc t => ?_))
  · refine g1 c_319_16 k_0 ?_
    exact g91 c_319_17 ⟨by decide, t⟩
  · refine g5 c_319_18 rfl ?_
    refine g3 c_319_19 rfl ?_
    obtain ⟨ho, t⟩ := t
    refine g46 c_319_20 ho (fun h1 eh1 => ?_)
    have t := t h1 eh1
    refine g1 c_319_23 k_0 ?_
    refine g6 (L' := [.ref x0, .int x1, .int 0]) c_319_24 rfl ?_
    exact t
set_option maxRecDepth 20000 in
theorem t_319_25 {d : Nat} {h : ab_H} {Q : Option Value → ab_H → Prop} {x0 : Nat} {x1 : Int32} {x2 : Int32} (t : if 192 ≤ x2 then (Q (some (.int 1)) h) else (ab_ok h x0 112 = true ∧ ∃ j1 : Nat, ab_r h x0 41 = some j1 ∧ ¬ (24 : Int32) = 0 ∧ ¬ (24 : Int32) = 0 ∧ ab_ok h x0 112 = true ∧ wm d 318 [.ref x0, .int (x2 / 24), .int (x2 - x2 / 24 * 24), .int x1] h (fun r9 h9 => wq (d + 1) 319 50 [.ref x0, .int x1, .int x2] (r9.toList ++ [.int x2, .ref j1]) h9 Q))) : wq (d + 1) 319 25 [.ref x0, .int x1, .int x2] [] h Q := by
  refine g3 c_319_25 rfl ?_
  refine g1 c_319_26 k_192 ?_
  refine gcm c_319_29 (gbr t rfl rfl (fun hc t => ?_) (fun hc t => ?_))
  · refine g1 c_319_57 k_1 ?_
    exact g91 c_319_58 ⟨by decide, t⟩
  · refine g5 c_319_32 rfl ?_
    obtain ⟨ho, j1, hr, t⟩ := t
    refine g45 c_319_33 ho hr ?_
    refine g3 c_319_36 rfl ?_
    refine g5 c_319_37 rfl ?_
    refine g3 c_319_38 rfl ?_
    refine g1 c_319_39 k_24 ?_
    obtain ⟨hy, t⟩ := t
    refine g16 c_319_41 hy ?_
    refine g3 c_319_42 rfl ?_
    refine g1 c_319_43 k_24 ?_
    obtain ⟨hy, t⟩ := t
    refine g17 c_319_45 hy ?_
    refine g3 c_319_46 rfl ?_
    exact g80 (As := [.int (x2 / 24), .int (x2 - x2 / 24 * 24), .int x1]) (rest := [.int x2, .ref j1]) c_319_47 rfl rfl (Nat.le_of_ble_eq_true rfl) (Nat.le_of_ble_eq_true rfl) t.1 t.2
set_option maxRecDepth 20000 in
theorem t_319_50 {d : Nat} {h : ab_H} {Q : Option Value → ab_H → Prop} {x0 : Nat} {x1 : Int32} {x2 : Int32} {s0 : Nat} {s1 : Int32} {s2 : Int32} (t : (ab_ok h s0 0 = true ∧ ab_in s1 (ab_s h s0).2 = true) ∧ ∀ h1 : ab_H, h1 = ab_pi h s0 (Int32.toNatClampNeg s1) s2 → wq d 319 25 [.ref x0, .int x1, .int (x2 + 1)] [] h1 Q) : wq d 319 50 [.ref x0, .int x1, .int x2] [.int s2, .int s1, .ref s0] h Q := by
  obtain ⟨ho, t⟩ := t
  refine g54 c_319_50 ho (fun h1 eh1 => ?_)
  have t := t h1 eh1
  refine g9 (L' := [.ref x0, .int x1, .int (x2 + 1)]) c_319_51 rfl k_1 rfl ?_
  refine g38 c_319_54 rfl ?_
  exact t
-- method 320: MillTownModel.isPlace(II)Z
theorem c_320_0 : pg_cd 320 0 = (3, 1, 0, 0, 0) := by decide +kernel
theorem c_320_1 : pg_cd 320 1 = (1, 1, 0, 0, 0) := by decide +kernel
theorem c_320_2 : pg_cd 320 2 = (1, 2, 0, 0, 7) := by decide +kernel
theorem c_320_4 : pg_cd 320 4 = (81, 196, 76, 0, 0) := by decide +kernel
theorem c_320_7 : pg_cd 320 7 = (36, 3, 0, 0, 17) := by decide +kernel
theorem c_320_10 : pg_cd 320 10 = (3, 1, 0, 1, 0) := by decide +kernel
theorem c_320_11 : pg_cd 320 11 = (1, 1, 0, 0, 0) := by decide +kernel
theorem c_320_12 : pg_cd 320 12 = (1, 2, 0, 0, 23) := by decide +kernel
theorem c_320_14 : pg_cd 320 14 = (81, 196, 76, 0, 0) := by decide +kernel
theorem c_320_17 : pg_cd 320 17 = (36, 3, 0, 0, 7) := by decide +kernel
theorem c_320_20 : pg_cd 320 20 = (1, 1, 0, 0, 1) := by decide +kernel
theorem c_320_21 : pg_cd 320 21 = (38, 3, 0, 0, 4) := by decide +kernel
theorem c_320_24 : pg_cd 320 24 = (1, 1, 0, 0, 0) := by decide +kernel
theorem c_320_25 : pg_cd 320 25 = (91, 0, 0, 0, 0) := by decide +kernel
theorem mx_320 : pg_mx 320 = 2 := by decide +kernel
theorem m_320 {d : Nat} {h : ab_H} {Q : Option Value → ab_H → Prop} {x0 : Int32} {x1 : Int32} (t : wq d 320 0 [.int x0, .int x1] [] h Q) : wm d 320 [.int x0, .int x1] h Q := by
  unfold wm
  rw [mx_320]
  exact t
set_option maxRecDepth 20000 in
theorem t_320_0 {d : Nat} {h : ab_H} {Q : Option Value → ab_H → Prop} {x0 : Int32} {x1 : Int32} (t : wm d 196 [.int x0, .int 0, .int 7] h (fun r9 h9 => wq (d + 1) 320 7 [.int x0, .int x1] (r9.toList ++ []) h9 Q)) : wq (d + 1) 320 0 [.int x0, .int x1] [] h Q := by
  refine g3 c_320_0 rfl ?_
  refine g1 c_320_1 k_0 ?_
  refine g1 c_320_2 k_7 ?_
  exact g81 (As := [.int x0, .int 0, .int 7]) (rest := []) c_320_4 rfl rfl (Nat.le_of_ble_eq_true rfl) (Nat.le_of_ble_eq_true rfl) t
set_option maxRecDepth 20000 in
theorem t_320_7 {d : Nat} {h : ab_H} {Q : Option Value → ab_H → Prop} {x0 : Int32} {x1 : Int32} {s0 : Int32} (t : if s0 = 0 then (Q (some (.int 0)) h) else (wm d 196 [.int x1, .int 0, .int 23] h (fun r9 h9 => wq (d + 1) 320 17 [.int x0, .int x1] (r9.toList ++ []) h9 Q))) : wq (d + 1) 320 7 [.int x0, .int x1] [.int s0] h Q := by
  refine gif c_320_7 (gbr t rfl rfl (fun hc t => ?_) (fun hc t => ?_))
  · refine g1 c_320_24 k_0 ?_
    exact g91 c_320_25 ⟨by decide, t⟩
  · refine g3 c_320_10 rfl ?_
    refine g1 c_320_11 k_0 ?_
    refine g1 c_320_12 k_23 ?_
    exact g81 (As := [.int x1, .int 0, .int 23]) (rest := []) c_320_14 rfl rfl (Nat.le_of_ble_eq_true rfl) (Nat.le_of_ble_eq_true rfl) t
set_option maxRecDepth 20000 in
theorem t_320_17 {d : Nat} {h : ab_H} {Q : Option Value → ab_H → Prop} {x0 : Int32} {x1 : Int32} {s0 : Int32} (t : if s0 = 0 then (Q (some (.int 0)) h) else (Q (some (.int 1)) h)) : wq d 320 17 [.int x0, .int x1] [.int s0] h Q := by
  refine gif c_320_17 (gbr t rfl rfl (fun hc t => ?_) (fun hc t => ?_))
  · refine g1 c_320_24 k_0 ?_
    exact g91 c_320_25 ⟨by decide, t⟩
  · refine g1 c_320_20 k_1 ?_
    refine g38 c_320_21 rfl ?_
    exact g91 c_320_25 ⟨by decide, t⟩
-- method 321: MillTownModel.onSheet(II)I
theorem c_321_0 : pg_cd 321 0 = (3, 1, 0, 1, 0) := by decide +kernel
theorem c_321_1 : pg_cd 321 1 = (3, 1, 0, 2, 0) := by decide +kernel
theorem c_321_2 : pg_cd 321 2 = (81, 320, 451, 0, 0) := by decide +kernel
theorem c_321_5 : pg_cd 321 5 = (36, 3, 0, 0, 24) := by decide +kernel
theorem c_321_8 : pg_cd 321 8 = (5, 1, 0, 0, 0) := by decide +kernel
theorem c_321_9 : pg_cd 321 9 = (43, 12, 68, 42, 0) := by decide +kernel
theorem c_321_12 : pg_cd 321 12 = (36, 3, 0, 2, 17) := by decide +kernel
theorem c_321_15 : pg_cd 321 15 = (5, 1, 0, 0, 0) := by decide +kernel
theorem c_321_16 : pg_cd 321 16 = (45, 12, 65, 41, 0) := by decide +kernel
theorem c_321_19 : pg_cd 321 19 = (1, 2, 0, 0, 24) := by decide +kernel
theorem c_321_21 : pg_cd 321 21 = (3, 1, 0, 1, 0) := by decide +kernel
theorem c_321_22 : pg_cd 321 22 = (12, 1, 0, 0, 0) := by decide +kernel
theorem c_321_23 : pg_cd 321 23 = (3, 1, 0, 2, 0) := by decide +kernel
theorem c_321_24 : pg_cd 321 24 = (10, 1, 0, 0, 0) := by decide +kernel
theorem c_321_25 : pg_cd 321 25 = (50, 1, 0, 0, 0) := by decide +kernel
theorem c_321_26 : pg_cd 321 26 = (38, 3, 0, 0, 4) := by decide +kernel
theorem c_321_29 : pg_cd 321 29 = (1, 1, 0, 0, (-1)) := by decide +kernel
theorem c_321_30 : pg_cd 321 30 = (90, 0, 0, 0, 0) := by decide +kernel
theorem mx_321 : pg_mx 321 = 3 := by decide +kernel
theorem m_321 {d : Nat} {h : ab_H} {Q : Option Value → ab_H → Prop} {x0 : Nat} {x1 : Int32} {x2 : Int32} (t : wq d 321 0 [.ref x0, .int x1, .int x2] [] h Q) : wm d 321 [.ref x0, .int x1, .int x2] h Q := by
  unfold wm
  rw [mx_321]
  exact t
set_option maxRecDepth 20000 in
theorem t_321_0 {d : Nat} {h : ab_H} {Q : Option Value → ab_H → Prop} {x0 : Nat} {x1 : Int32} {x2 : Int32} (t : wm d 320 [.int x1, .int x2] h (fun r9 h9 => wq (d + 1) 321 5 [.ref x0, .int x1, .int x2] (r9.toList ++ []) h9 Q)) : wq (d + 1) 321 0 [.ref x0, .int x1, .int x2] [] h Q := by
  refine g3 c_321_0 rfl ?_
  refine g3 c_321_1 rfl ?_
  exact g81 (As := [.int x1, .int x2]) (rest := []) c_321_2 rfl rfl (Nat.le_of_ble_eq_true rfl) (Nat.le_of_ble_eq_true rfl) t
set_option maxRecDepth 20000 in
theorem t_321_5 {d : Nat} {h : ab_H} {Q : Option Value → ab_H → Prop} {x0 : Nat} {x1 : Int32} {x2 : Int32} {s0 : Int32} (t : if s0 = 0 then (Q (some (.int (-1))) h) else (ab_ok h x0 112 = true ∧ if (ab_i h x0 42) < 0 then (Q (some (.int (-1))) h) else (ab_ok h x0 112 = true ∧ ∃ j1 : Nat, ab_r h x0 41 = some j1 ∧ ((j1 = 0 ∨ ab_ok h j1 0 = true) ∧ ab_in ((24 * x1) + x2) (ab_s h j1).2 = true) ∧ Q (some (.int (ab_i h j1 (Int32.toNatClampNeg ((24 * x1) + x2))))) h))) : wq d 321 5 [.ref x0, .int x1, .int x2] [.int s0] h Q := by
  refine gif c_321_5 (gbr t rfl rfl (fun hc t => ?_) (fun hc t => ?_))
  · refine g1 c_321_29 k_m1 ?_
    exact g90 c_321_30 t
  · refine g5 c_321_8 rfl ?_
    obtain ⟨ho, t⟩ := t
    refine g43 c_321_9 ho ?_
    refine gif c_321_12 (gbr t rfl rfl (fun hc t => ?_) (fun hc t => ?_))
    · refine g1 c_321_29 k_m1 ?_
      exact g90 c_321_30 t
    · refine g5 c_321_15 rfl ?_
      obtain ⟨ho, j1, hr, t⟩ := t
      refine g45 c_321_16 ho hr ?_
      refine g1 c_321_19 k_24 ?_
      refine g3 c_321_21 rfl ?_
      refine g12 c_321_22 ?_
      refine g3 c_321_23 rfl ?_
      refine g10 c_321_24 ?_
      obtain ⟨ho, t⟩ := t
      refine g50 c_321_25 ho ?_
      refine g38 c_321_26 rfl ?_
      exact g90 c_321_30 t
-- method 322: MillTownModel.alter(III)Z
theorem c_322_0 : pg_cd 322 0 = (3, 1, 0, 1, 0) := by decide +kernel
theorem c_322_1 : pg_cd 322 1 = (3, 1, 0, 2, 0) := by decide +kernel
theorem c_322_2 : pg_cd 322 2 = (81, 320, 451, 0, 0) := by decide +kernel
theorem c_322_5 : pg_cd 322 5 = (36, 3, 0, 0, 14) := by decide +kernel
theorem c_322_8 : pg_cd 322 8 = (5, 1, 0, 0, 0) := by decide +kernel
theorem c_322_9 : pg_cd 322 9 = (43, 12, 68, 42, 0) := by decide +kernel
theorem c_322_12 : pg_cd 322 12 = (36, 3, 0, 2, 7) := by decide +kernel
theorem c_322_15 : pg_cd 322 15 = (3, 1, 0, 3, 0) := by decide +kernel
theorem c_322_16 : pg_cd 322 16 = (36, 3, 0, 1, 5) := by decide +kernel
theorem c_322_19 : pg_cd 322 19 = (1, 1, 0, 0, 0) := by decide +kernel
theorem c_322_20 : pg_cd 322 20 = (91, 0, 0, 0, 0) := by decide +kernel
theorem c_322_21 : pg_cd 322 21 = (5, 1, 0, 0, 0) := by decide +kernel
theorem c_322_22 : pg_cd 322 22 = (45, 12, 65, 41, 0) := by decide +kernel
theorem c_322_25 : pg_cd 322 25 = (1, 2, 0, 0, 24) := by decide +kernel
theorem c_322_27 : pg_cd 322 27 = (3, 1, 0, 1, 0) := by decide +kernel
theorem c_322_28 : pg_cd 322 28 = (12, 1, 0, 0, 0) := by decide +kernel
theorem c_322_29 : pg_cd 322 29 = (3, 1, 0, 2, 0) := by decide +kernel
theorem c_322_30 : pg_cd 322 30 = (10, 1, 0, 0, 0) := by decide +kernel
theorem c_322_31 : pg_cd 322 31 = (34, 1, 0, 0, 0) := by decide +kernel
theorem c_322_32 : pg_cd 322 32 = (50, 1, 0, 0, 0) := by decide +kernel
theorem c_322_33 : pg_cd 322 33 = (3, 1, 0, 3, 0) := by decide +kernel
theorem c_322_34 : pg_cd 322 34 = (15, 1, 0, 0, 0) := by decide +kernel
theorem c_322_35 : pg_cd 322 35 = (54, 1, 0, 0, 0) := by decide +kernel
theorem c_322_36 : pg_cd 322 36 = (1, 1, 0, 0, 1) := by decide +kernel
theorem c_322_37 : pg_cd 322 37 = (91, 0, 0, 0, 0) := by decide +kernel
theorem mx_322 : pg_mx 322 = 4 := by decide +kernel
theorem m_322 {d : Nat} {h : ab_H} {Q : Option Value → ab_H → Prop} {x0 : Nat} {x1 : Int32} {x2 : Int32} {x3 : Int32} (t : wq d 322 0 [.ref x0, .int x1, .int x2, .int x3] [] h Q) : wm d 322 [.ref x0, .int x1, .int x2, .int x3] h Q := by
  unfold wm
  rw [mx_322]
  exact t
set_option maxRecDepth 20000 in
theorem t_322_0 {d : Nat} {h : ab_H} {Q : Option Value → ab_H → Prop} {x0 : Nat} {x1 : Int32} {x2 : Int32} {x3 : Int32} (t : wm d 320 [.int x1, .int x2] h (fun r9 h9 => wq (d + 1) 322 5 [.ref x0, .int x1, .int x2, .int x3] (r9.toList ++ []) h9 Q)) : wq (d + 1) 322 0 [.ref x0, .int x1, .int x2, .int x3] [] h Q := by
  refine g3 c_322_0 rfl ?_
  refine g3 c_322_1 rfl ?_
  exact g81 (As := [.int x1, .int x2]) (rest := []) c_322_2 rfl rfl (Nat.le_of_ble_eq_true rfl) (Nat.le_of_ble_eq_true rfl) t
set_option maxRecDepth 20000 in
theorem t_322_5 {d : Nat} {h : ab_H} {Q : Option Value → ab_H → Prop} {x0 : Nat} {x1 : Int32} {x2 : Int32} {x3 : Int32} {s0 : Int32} (t : if s0 = 0 then (Q (some (.int 0)) h) else (ab_ok h x0 112 = true ∧ if (ab_i h x0 42) < 0 then (Q (some (.int 0)) h) else (if x3 = 0 then (Q (some (.int 0)) h) else (ab_ok h x0 112 = true ∧ ∃ j1 : Nat, ab_r h x0 41 = some j1 ∧ ((j1 = 0 ∨ ab_ok h j1 0 = true) ∧ ab_in ((24 * x1) + x2) (ab_s h j1).2 = true) ∧ (ab_ok h j1 0 = true ∧ ab_in ((24 * x1) + x2) (ab_s h j1).2 = true) ∧ ∀ h2 : ab_H, h2 = ab_pi h j1 (Int32.toNatClampNeg ((24 * x1) + x2)) ((ab_i h j1 (Int32.toNatClampNeg ((24 * x1) + x2))) ^^^ x3) → Q (some (.int 1)) h2)))) : wq d 322 5 [.ref x0, .int x1, .int x2, .int x3] [.int s0] h Q := by
  refine gif c_322_5 (gbr t rfl rfl (fun hc t => ?_) (fun hc t => ?_))
  · refine g1 c_322_19 k_0 ?_
    exact g91 c_322_20 ⟨by decide, t⟩
  · refine g5 c_322_8 rfl ?_
    obtain ⟨ho, t⟩ := t
    refine g43 c_322_9 ho ?_
    refine gif c_322_12 (gbr t rfl rfl (fun hc t => ?_) (fun hc t => ?_))
    · refine g1 c_322_19 k_0 ?_
      exact g91 c_322_20 ⟨by decide, t⟩
    · refine g3 c_322_15 rfl ?_
      refine gif c_322_16 (gbn t (ab_c1 _ _) rfl (fun hc t => ?_) (fun hc t => ?_))
      · refine g1 c_322_19 k_0 ?_
        exact g91 c_322_20 ⟨by decide, t⟩
      · refine g5 c_322_21 rfl ?_
        obtain ⟨ho, j1, hr, t⟩ := t
        refine g45 c_322_22 ho hr ?_
        refine g1 c_322_25 k_24 ?_
        refine g3 c_322_27 rfl ?_
        refine g12 c_322_28 ?_
        refine g3 c_322_29 rfl ?_
        refine g10 c_322_30 ?_
        refine g34a c_322_31 ?_
        obtain ⟨ho, t⟩ := t
        refine g50 c_322_32 ho ?_
        refine g3 c_322_33 rfl ?_
        refine g15 c_322_34 ?_
        obtain ⟨ho, t⟩ := t
        refine g54 c_322_35 ho (fun h2 eh2 => ?_)
        have t := t h2 eh2
        refine g1 c_322_36 k_1 ?_
        exact g91 c_322_37 ⟨by decide, t⟩
-- method 323: MillTownModel.check(I)I
theorem c_323_0 : pg_cd 323 0 = (3, 1, 0, 1, 0) := by decide +kernel
theorem c_323_1 : pg_cd 323 1 = (1, 1, 0, 0, 0) := by decide +kernel
theorem c_323_2 : pg_cd 323 2 = (1, 1, 0, 0, 2) := by decide +kernel
theorem c_323_3 : pg_cd 323 3 = (81, 196, 76, 0, 0) := by decide +kernel
theorem c_323_6 : pg_cd 323 6 = (36, 3, 0, 0, 23) := by decide +kernel
theorem c_323_9 : pg_cd 323 9 = (5, 1, 0, 0, 0) := by decide +kernel
theorem c_323_10 : pg_cd 323 10 = (43, 12, 68, 42, 0) := by decide +kernel
theorem c_323_13 : pg_cd 323 13 = (36, 3, 0, 2, 16) := by decide +kernel
theorem c_323_16 : pg_cd 323 16 = (5, 1, 0, 0, 0) := by decide +kernel
theorem c_323_17 : pg_cd 323 17 = (43, 12, 68, 42, 0) := by decide +kernel
theorem c_323_20 : pg_cd 323 20 = (5, 1, 0, 0, 0) := by decide +kernel
theorem c_323_21 : pg_cd 323 21 = (45, 12, 8, 0, 0) := by decide +kernel
theorem c_323_24 : pg_cd 323 24 = (1, 1, 0, 0, 0) := by decide +kernel
theorem c_323_25 : pg_cd 323 25 = (50, 1, 0, 0, 0) := by decide +kernel
theorem c_323_26 : pg_cd 323 26 = (37, 3, 0, 2, 5) := by decide +kernel
theorem c_323_29 : pg_cd 323 29 = (1, 1, 0, 0, (-1)) := by decide +kernel
theorem c_323_30 : pg_cd 323 30 = (90, 0, 0, 0, 0) := by decide +kernel
theorem c_323_31 : pg_cd 323 31 = (1, 1, 0, 0, 0) := by decide +kernel
theorem c_323_32 : pg_cd 323 32 = (6, 1, 0, 2, 0) := by decide +kernel
theorem c_323_33 : pg_cd 323 33 = (1, 1, 0, 0, (-1)) := by decide +kernel
theorem c_323_34 : pg_cd 323 34 = (6, 1, 0, 3, 0) := by decide +kernel
theorem c_323_35 : pg_cd 323 35 = (1, 1, 0, 0, 0) := by decide +kernel
theorem c_323_36 : pg_cd 323 36 = (6, 2, 0, 4, 0) := by decide +kernel
theorem c_323_38 : pg_cd 323 38 = (3, 2, 0, 4, 0) := by decide +kernel
theorem c_323_40 : pg_cd 323 40 = (1, 3, 0, 0, 192) := by decide +kernel
theorem c_323_43 : pg_cd 323 43 = (37, 3, 0, 3, 46) := by decide +kernel
theorem c_323_46 : pg_cd 323 46 = (5, 1, 0, 0, 0) := by decide +kernel
theorem c_323_47 : pg_cd 323 47 = (45, 12, 65, 41, 0) := by decide +kernel
theorem c_323_50 : pg_cd 323 50 = (3, 2, 0, 4, 0) := by decide +kernel
theorem c_323_52 : pg_cd 323 52 = (50, 1, 0, 0, 0) := by decide +kernel
theorem c_323_53 : pg_cd 323 53 = (5, 1, 0, 0, 0) := by decide +kernel
theorem c_323_54 : pg_cd 323 54 = (3, 2, 0, 4, 0) := by decide +kernel
theorem c_323_56 : pg_cd 323 56 = (1, 2, 0, 0, 24) := by decide +kernel
theorem c_323_58 : pg_cd 323 58 = (16, 1, 0, 0, 0) := by decide +kernel
theorem c_323_59 : pg_cd 323 59 = (3, 2, 0, 4, 0) := by decide +kernel
theorem c_323_61 : pg_cd 323 61 = (1, 2, 0, 0, 24) := by decide +kernel
theorem c_323_63 : pg_cd 323 63 = (17, 1, 0, 0, 0) := by decide +kernel
theorem c_323_64 : pg_cd 323 64 = (5, 1, 0, 0, 0) := by decide +kernel
theorem c_323_65 : pg_cd 323 65 = (43, 12, 68, 42, 0) := by decide +kernel
theorem c_323_68 : pg_cd 323 68 = (80, 318, 448, 0, 0) := by decide +kernel
theorem c_323_71 : pg_cd 323 71 = (37, 3, 0, 1, 6) := by decide +kernel
theorem c_323_74 : pg_cd 323 74 = (38, 3, 0, 0, 9) := by decide +kernel
theorem c_323_77 : pg_cd 323 77 = (9, 3, 0, 2, 1) := by decide +kernel
theorem c_323_80 : pg_cd 323 80 = (3, 2, 0, 4, 0) := by decide +kernel
theorem c_323_82 : pg_cd 323 82 = (6, 1, 0, 3, 0) := by decide +kernel
theorem c_323_83 : pg_cd 323 83 = (9, 3, 0, 4, 1) := by decide +kernel
theorem c_323_86 : pg_cd 323 86 = (38, 3, 0, 0, (-48)) := by decide +kernel
theorem c_323_89 : pg_cd 323 89 = (3, 1, 0, 1, 0) := by decide +kernel
theorem c_323_90 : pg_cd 323 90 = (36, 3, 0, 1, 14) := by decide +kernel
theorem c_323_93 : pg_cd 323 93 = (3, 1, 0, 2, 0) := by decide +kernel
theorem c_323_94 : pg_cd 323 94 = (1, 1, 0, 0, 2) := by decide +kernel
theorem c_323_95 : pg_cd 323 95 = (37, 3, 0, 5, 7) := by decide +kernel
theorem c_323_98 : pg_cd 323 98 = (1, 1, 0, 0, 2) := by decide +kernel
theorem c_323_99 : pg_cd 323 99 = (38, 3, 0, 0, 4) := by decide +kernel
theorem c_323_102 : pg_cd 323 102 = (3, 1, 0, 2, 0) := by decide +kernel
theorem c_323_103 : pg_cd 323 103 = (90, 0, 0, 0, 0) := by decide +kernel
theorem c_323_104 : pg_cd 323 104 = (3, 1, 0, 2, 0) := by decide +kernel
theorem c_323_105 : pg_cd 323 105 = (1, 1, 0, 0, 1) := by decide +kernel
theorem c_323_106 : pg_cd 323 106 = (37, 3, 0, 0, 7) := by decide +kernel
theorem c_323_109 : pg_cd 323 109 = (1, 1, 0, 0, (-1)) := by decide +kernel
theorem c_323_110 : pg_cd 323 110 = (38, 3, 0, 0, 19) := by decide +kernel
theorem c_323_113 : pg_cd 323 113 = (3, 1, 0, 1, 0) := by decide +kernel
theorem c_323_114 : pg_cd 323 114 = (1, 1, 0, 0, 1) := by decide +kernel
theorem c_323_115 : pg_cd 323 115 = (37, 3, 0, 1, 10) := by decide +kernel
theorem c_323_118 : pg_cd 323 118 = (3, 1, 0, 3, 0) := by decide +kernel
theorem c_323_119 : pg_cd 323 119 = (1, 2, 0, 0, 24) := by decide +kernel
theorem c_323_121 : pg_cd 323 121 = (16, 1, 0, 0, 0) := by decide +kernel
theorem c_323_122 : pg_cd 323 122 = (38, 3, 0, 0, 7) := by decide +kernel
theorem c_323_125 : pg_cd 323 125 = (3, 1, 0, 3, 0) := by decide +kernel
theorem c_323_126 : pg_cd 323 126 = (1, 2, 0, 0, 24) := by decide +kernel
theorem c_323_128 : pg_cd 323 128 = (17, 1, 0, 0, 0) := by decide +kernel
theorem c_323_129 : pg_cd 323 129 = (90, 0, 0, 0, 0) := by decide +kernel
theorem mx_323 : pg_mx 323 = 5 := by decide +kernel
theorem m_323 {d : Nat} {h : ab_H} {Q : Option Value → ab_H → Prop} {x0 : Nat} {x1 : Int32} (t : wq d 323 0 [.ref x0, .int x1, .retAddr 0, .retAddr 0, .retAddr 0] [] h Q) : wm d 323 [.ref x0, .int x1] h Q := by
  unfold wm
  rw [mx_323]
  exact t
set_option maxRecDepth 20000 in
theorem t_323_0 {d : Nat} {h : ab_H} {Q : Option Value → ab_H → Prop} {x0 : Nat} {x1 : Int32} (t : wm d 196 [.int x1, .int 0, .int 2] h (fun r9 h9 => wq (d + 1) 323 6 [.ref x0, .int x1, .retAddr 0, .retAddr 0, .retAddr 0] (r9.toList ++ []) h9 Q)) : wq (d + 1) 323 0 [.ref x0, .int x1, .retAddr 0, .retAddr 0, .retAddr 0] [] h Q := by
  refine g3 c_323_0 rfl ?_
  refine g1 c_323_1 k_0 ?_
  refine g1 c_323_2 k_2 ?_
  exact g81 (As := [.int x1, .int 0, .int 2]) (rest := []) c_323_3 rfl rfl (Nat.le_of_ble_eq_true rfl) (Nat.le_of_ble_eq_true rfl) t
set_option maxRecDepth 20000 in
theorem t_323_6 {d : Nat} {h : ab_H} {Q : Option Value → ab_H → Prop} {x0 : Nat} {x1 : Int32} {s0 : Int32} (t : if s0 = 0 then (Q (some (.int (-1))) h) else (ab_ok h x0 112 = true ∧ if (ab_i h x0 42) < 0 then (Q (some (.int (-1))) h) else (ab_ok h x0 112 = true ∧ ab_ok h x0 112 = true ∧ ∃ j1 : Nat, ab_r h x0 0 = some j1 ∧ ((j1 = 0 ∨ ab_ok h j1 0 = true) ∧ ab_in (0 : Int32) (ab_s h j1).2 = true) ∧ if (ab_i h x0 42) < (ab_i h j1 (Int32.toNatClampNeg (0 : Int32))) then (wq d 323 38 [.ref x0, .int x1, .int 0, .int (-1), .int 0] [] h Q) else (Q (some (.int (-1))) h)))) : wq d 323 6 [.ref x0, .int x1, .retAddr 0, .retAddr 0, .retAddr 0] [.int s0] h Q := by
  refine gif c_323_6 (gbr t rfl rfl (fun hc t => ?_) (fun hc t => ?_))
  · refine g1 c_323_29 k_m1 ?_
    exact g90 c_323_30 t
  · refine g5 c_323_9 rfl ?_
    obtain ⟨ho, t⟩ := t
    refine g43 c_323_10 ho ?_
    refine gif c_323_13 (gbr t rfl rfl (fun hc t => ?_) (fun hc t => ?_))
    · refine g1 c_323_29 k_m1 ?_
      exact g90 c_323_30 t
    · refine g5 c_323_16 rfl ?_
      obtain ⟨ho, t⟩ := t
      refine g43 c_323_17 ho ?_
      refine g5 c_323_20 rfl ?_
      obtain ⟨ho, j1, hr, t⟩ := t
      refine g45 c_323_21 ho hr ?_
      refine g1 c_323_24 k_0 ?_
      obtain ⟨ho, t⟩ := t
      refine g50 c_323_25 ho ?_
      refine gcm c_323_26 (gbr t rfl rfl (fun hc t => ?_) (fun hc t => ?_))
      · refine g1 c_323_31 k_0 ?_
        refine g6 (L' := [.ref x0, .int x1, .int 0, .retAddr 0, .retAddr 0]) c_323_32 rfl ?_
        refine g1 c_323_33 k_m1 ?_
        refine g6 (L' := [.ref x0, .int x1, .int 0, .int (-1), .retAddr 0]) c_323_34 rfl ?_
        refine g1 c_323_35 k_0 ?_
        refine g6 (L' := [.ref x0, .int x1, .int 0, .int (-1), .int 0]) c_323_36 rfl ?_
        exact t
      · refine g1 c_323_29 k_m1 ?_
        exact g90 c_323_30 t
set_option maxRecDepth 20000 in
theorem t_323_38 {d : Nat} {h : ab_H} {Q : Option Value → ab_H → Prop} {x0 : Nat} {x1 : Int32} {x2 : Int32} {x3 : Int32} {x4 : Int32} (t : if 192 ≤ x4 then (if x1 = 0 then (if x2 ≤ 2 then (Q (some (.int x2)) h) else (Q (some (.int 2)) h)) else (if x2 = 1 then (if x1 = 1 then (¬ (24 : Int32) = 0 ∧ Q (some (.int (x3 / 24))) h) else (¬ (24 : Int32) = 0 ∧ Q (some (.int (x3 - x3 / 24 * 24))) h)) else (Q (some (.int (-1))) h))) else (ab_ok h x0 112 = true ∧ ∃ j1 : Nat, ab_r h x0 41 = some j1 ∧ ((j1 = 0 ∨ ab_ok h j1 0 = true) ∧ ab_in x4 (ab_s h j1).2 = true) ∧ ¬ (24 : Int32) = 0 ∧ ¬ (24 : Int32) = 0 ∧ ab_ok h x0 112 = true ∧ ab_ok h x0 112 = true ∧ wm d 318 [.ref x0, .int (x4 / 24), .int (x4 - x4 / 24 * 24), .int (ab_i h x0 42)] h (fun r9 h9 => wq (d + 1) 323 71 [.ref x0, .int x1, .int x2, .int x3, .int x4] (r9.toList ++ [.int (ab_i h j1 (Int32.toNatClampNeg x4))]) h9 Q))) : wq (d + 1) 323 38 [.ref x0, .int x1, .int x2, .int x3, .int x4] [] h Q := by
  refine g3 c_323_38 rfl ?_
  refine g1 c_323_40 k_192 ?_
  refine gcm c_323_43 (gbr t rfl rfl (fun hc t => ?_) (fun hc t => ?_))
  · refine g3 c_323_89 rfl ?_
    refine gif c_323_90 (gbn t (ab_c1 _ _) rfl (fun hc t => ?_) (fun hc t => ?_))
    · refine g3 c_323_93 rfl ?_
      refine g1 c_323_94 k_2 ?_
      refine gcm c_323_95 (gbr t rfl rfl (fun hc t => ?_) (fun hc t => ?_))
      · refine g3 c_323_102 rfl ?_
        exact g90 c_323_103 t
      · refine g1 c_323_98 k_2 ?_
        refine g38 c_323_99 rfl ?_
        exact g90 c_323_103 t
    · refine g3 c_323_104 rfl ?_
      refine g1 c_323_105 k_1 ?_
      refine gcm c_323_106 (gbr t rfl rfl (fun hc t => ?_) (fun hc t => ?_))
      · refine g3 c_323_113 rfl ?_
        refine g1 c_323_114 k_1 ?_
        refine gcm c_323_115 (gbn t (ab_c1 _ _) rfl (fun hc t => ?_) (fun hc t => ?_))
        · refine g3 c_323_118 rfl ?_
          refine g1 c_323_119 k_24 ?_
          obtain ⟨hy, t⟩ := t
          refine g16 c_323_121 hy ?_
          refine g38 c_323_122 rfl ?_
          exact g90 c_323_129 t
        · refine g3 c_323_125 rfl ?_
          refine g1 c_323_126 k_24 ?_
          obtain ⟨hy, t⟩ := t
          refine g17 c_323_128 hy ?_
          exact g90 c_323_129 t
      · refine g1 c_323_109 k_m1 ?_
        refine g38 c_323_110 rfl ?_
        exact g90 c_323_129 t
  · refine g5 c_323_46 rfl ?_
    obtain ⟨ho, j1, hr, t⟩ := t
    refine g45 c_323_47 ho hr ?_
    refine g3 c_323_50 rfl ?_
    obtain ⟨ho, t⟩ := t
    refine g50 c_323_52 ho ?_
    refine g5 c_323_53 rfl ?_
    refine g3 c_323_54 rfl ?_
    refine g1 c_323_56 k_24 ?_
    obtain ⟨hy, t⟩ := t
    refine g16 c_323_58 hy ?_
    refine g3 c_323_59 rfl ?_
    refine g1 c_323_61 k_24 ?_
    obtain ⟨hy, t⟩ := t
    refine g17 c_323_63 hy ?_
    refine g5 c_323_64 rfl ?_
    obtain ⟨ho, t⟩ := t
    refine g43 c_323_65 ho ?_
    exact g80 (As := [.int (x4 / 24), .int (x4 - x4 / 24 * 24), .int (ab_i h x0 42)]) (rest := [.int (ab_i h j1 (Int32.toNatClampNeg x4))]) c_323_68 rfl rfl (Nat.le_of_ble_eq_true rfl) (Nat.le_of_ble_eq_true rfl) t.1 t.2
set_option maxRecDepth 20000 in
theorem t_323_71 {d : Nat} {h : ab_H} {Q : Option Value → ab_H → Prop} {x0 : Nat} {x1 : Int32} {x2 : Int32} {x3 : Int32} {x4 : Int32} {s0 : Int32} {s1 : Int32} (t : if s0 = s1 then (wq d 323 38 [.ref x0, .int x1, .int x2, .int x3, .int (x4 + 1)] [] h Q) else (wq d 323 38 [.ref x0, .int x1, .int (x2 + 1), .int x4, .int (x4 + 1)] [] h Q)) : wq d 323 71 [.ref x0, .int x1, .int x2, .int x3, .int x4] [.int s1, .int s0] h Q := by
  refine gcm c_323_71 (gbn t (ab_c1 _ _) rfl (fun hc t => ?_) (fun hc t => ?_))
  · refine g38 c_323_74 rfl ?_
    refine g9 (L' := [.ref x0, .int x1, .int x2, .int x3, .int (x4 + 1)]) c_323_83 rfl k_1 rfl ?_
    refine g38 c_323_86 rfl ?_
    exact t
  · refine g9 (L' := [.ref x0, .int x1, .int (x2 + 1), .int x3, .int x4]) c_323_77 rfl k_1 rfl ?_
    refine g3 c_323_80 rfl ?_
    refine g6 (L' := [.ref x0, .int x1, .int (x2 + 1), .int x4, .int x4]) c_323_82 rfl ?_
    refine g9 (L' := [.ref x0, .int x1, .int (x2 + 1), .int x4, .int (x4 + 1)]) c_323_83 rfl k_1 rfl ?_
    refine g38 c_323_86 rfl ?_
    exact t
-- method 324: MillTownModel.image()I
theorem c_324_0 : pg_cd 324 0 = (5, 1, 0, 0, 0) := by decide +kernel
theorem c_324_1 : pg_cd 324 1 = (45, 12, 8, 0, 0) := by decide +kernel
theorem c_324_4 : pg_cd 324 4 = (5, 1, 0, 0, 0) := by decide +kernel
theorem c_324_5 : pg_cd 324 5 = (45, 12, 14, 1, 0) := by decide +kernel
theorem c_324_8 : pg_cd 324 8 = (81, 195, 72, 0, 0) := by decide +kernel
theorem c_324_11 : pg_cd 324 11 = (5, 1, 0, 0, 0) := by decide +kernel
theorem c_324_12 : pg_cd 324 12 = (45, 12, 8, 0, 0) := by decide +kernel
theorem c_324_15 : pg_cd 324 15 = (1, 1, 0, 0, 0) := by decide +kernel
theorem c_324_16 : pg_cd 324 16 = (50, 1, 0, 0, 0) := by decide +kernel
theorem c_324_17 : pg_cd 324 17 = (90, 0, 0, 0, 0) := by decide +kernel
theorem mx_324 : pg_mx 324 = 1 := by decide +kernel
theorem m_324 {d : Nat} {h : ab_H} {Q : Option Value → ab_H → Prop} {x0 : Nat} (t : wq d 324 0 [.ref x0] [] h Q) : wm d 324 [.ref x0] h Q := by
  unfold wm
  rw [mx_324]
  exact t
set_option maxRecDepth 20000 in
theorem t_324_0 {d : Nat} {h : ab_H} {Q : Option Value → ab_H → Prop} {x0 : Nat} (t : ab_ok h x0 112 = true ∧ ∃ j1 : Nat, ab_r h x0 0 = some j1 ∧ ab_ok h x0 112 = true ∧ ∃ j2 : Nat, ab_r h x0 1 = some j2 ∧ wm d 195 [.ref j1, .ref j2] h (fun r9 h9 => wq (d + 1) 324 11 [.ref x0] (r9.toList ++ []) h9 Q)) : wq (d + 1) 324 0 [.ref x0] [] h Q := by
  refine g5 c_324_0 rfl ?_
  obtain ⟨ho, j1, hr, t⟩ := t
  refine g45 c_324_1 ho hr ?_
  refine g5 c_324_4 rfl ?_
  obtain ⟨ho, j2, hr, t⟩ := t
  refine g45 c_324_5 ho hr ?_
  exact g81 (As := [.ref j1, .ref j2]) (rest := []) c_324_8 rfl rfl (Nat.le_of_ble_eq_true rfl) (Nat.le_of_ble_eq_true rfl) t
set_option maxRecDepth 20000 in
theorem t_324_11 {d : Nat} {h : ab_H} {Q : Option Value → ab_H → Prop} {x0 : Nat} (t : ab_ok h x0 112 = true ∧ ∃ j1 : Nat, ab_r h x0 0 = some j1 ∧ ((j1 = 0 ∨ ab_ok h j1 0 = true) ∧ ab_in (0 : Int32) (ab_s h j1).2 = true) ∧ Q (some (.int (ab_i h j1 (Int32.toNatClampNeg (0 : Int32))))) h) : wq d 324 11 [.ref x0] [] h Q := by
  refine g5 c_324_11 rfl ?_
  obtain ⟨ho, j1, hr, t⟩ := t
  refine g45 c_324_12 ho hr ?_
  refine g1 c_324_15 k_0 ?_
  obtain ⟨ho, t⟩ := t
  refine g50 c_324_16 ho ?_
  exact g90 c_324_17 t
-- method 325: MillTownModel.back()I
theorem c_325_0 : pg_cd 325 0 = (5, 1, 0, 0, 0) := by decide +kernel
theorem c_325_1 : pg_cd 325 1 = (45, 12, 14, 1, 0) := by decide +kernel
theorem c_325_4 : pg_cd 325 4 = (5, 1, 0, 0, 0) := by decide +kernel
theorem c_325_5 : pg_cd 325 5 = (45, 12, 8, 0, 0) := by decide +kernel
theorem c_325_8 : pg_cd 325 8 = (81, 195, 72, 0, 0) := by decide +kernel
theorem c_325_11 : pg_cd 325 11 = (5, 1, 0, 0, 0) := by decide +kernel
theorem c_325_12 : pg_cd 325 12 = (45, 12, 8, 0, 0) := by decide +kernel
theorem c_325_15 : pg_cd 325 15 = (1, 1, 0, 0, 0) := by decide +kernel
theorem c_325_16 : pg_cd 325 16 = (50, 1, 0, 0, 0) := by decide +kernel
theorem c_325_17 : pg_cd 325 17 = (90, 0, 0, 0, 0) := by decide +kernel
theorem mx_325 : pg_mx 325 = 1 := by decide +kernel
theorem m_325 {d : Nat} {h : ab_H} {Q : Option Value → ab_H → Prop} {x0 : Nat} (t : wq d 325 0 [.ref x0] [] h Q) : wm d 325 [.ref x0] h Q := by
  unfold wm
  rw [mx_325]
  exact t
set_option maxRecDepth 20000 in
theorem t_325_0 {d : Nat} {h : ab_H} {Q : Option Value → ab_H → Prop} {x0 : Nat} (t : ab_ok h x0 112 = true ∧ ∃ j1 : Nat, ab_r h x0 1 = some j1 ∧ ab_ok h x0 112 = true ∧ ∃ j2 : Nat, ab_r h x0 0 = some j2 ∧ wm d 195 [.ref j1, .ref j2] h (fun r9 h9 => wq (d + 1) 325 11 [.ref x0] (r9.toList ++ []) h9 Q)) : wq (d + 1) 325 0 [.ref x0] [] h Q := by
  refine g5 c_325_0 rfl ?_
  obtain ⟨ho, j1, hr, t⟩ := t
  refine g45 c_325_1 ho hr ?_
  refine g5 c_325_4 rfl ?_
  obtain ⟨ho, j2, hr, t⟩ := t
  refine g45 c_325_5 ho hr ?_
  exact g81 (As := [.ref j1, .ref j2]) (rest := []) c_325_8 rfl rfl (Nat.le_of_ble_eq_true rfl) (Nat.le_of_ble_eq_true rfl) t
set_option maxRecDepth 20000 in
theorem t_325_11 {d : Nat} {h : ab_H} {Q : Option Value → ab_H → Prop} {x0 : Nat} (t : ab_ok h x0 112 = true ∧ ∃ j1 : Nat, ab_r h x0 0 = some j1 ∧ ((j1 = 0 ∨ ab_ok h j1 0 = true) ∧ ab_in (0 : Int32) (ab_s h j1).2 = true) ∧ Q (some (.int (ab_i h j1 (Int32.toNatClampNeg (0 : Int32))))) h) : wq d 325 11 [.ref x0] [] h Q := by
  refine g5 c_325_11 rfl ?_
  obtain ⟨ho, j1, hr, t⟩ := t
  refine g45 c_325_12 ho hr ?_
  refine g1 c_325_15 k_0 ?_
  obtain ⟨ho, t⟩ := t
  refine g50 c_325_16 ho ?_
  exact g90 c_325_17 t
-- method 326: MillTownModel.about(I)I
theorem c_326_0 : pg_cd 326 0 = (3, 1, 0, 1, 0) := by decide +kernel
theorem c_326_1 : pg_cd 326 1 = (42, 9, 79, 0, 0) := by decide +kernel
theorem c_326_80 : pg_cd 326 80 = (5, 1, 0, 0, 0) := by decide +kernel
theorem c_326_81 : pg_cd 326 81 = (45, 12, 8, 0, 0) := by decide +kernel
theorem c_326_84 : pg_cd 326 84 = (1, 1, 0, 0, 0) := by decide +kernel
theorem c_326_85 : pg_cd 326 85 = (50, 1, 0, 0, 0) := by decide +kernel
theorem c_326_86 : pg_cd 326 86 = (90, 0, 0, 0, 0) := by decide +kernel
theorem c_326_87 : pg_cd 326 87 = (5, 1, 0, 0, 0) := by decide +kernel
theorem c_326_88 : pg_cd 326 88 = (45, 12, 8, 0, 0) := by decide +kernel
theorem c_326_91 : pg_cd 326 91 = (1, 1, 0, 0, 1) := by decide +kernel
theorem c_326_92 : pg_cd 326 92 = (50, 1, 0, 0, 0) := by decide +kernel
theorem c_326_93 : pg_cd 326 93 = (90, 0, 0, 0, 0) := by decide +kernel
theorem c_326_94 : pg_cd 326 94 = (5, 1, 0, 0, 0) := by decide +kernel
theorem c_326_95 : pg_cd 326 95 = (45, 12, 8, 0, 0) := by decide +kernel
theorem c_326_98 : pg_cd 326 98 = (1, 1, 0, 0, 2) := by decide +kernel
theorem c_326_99 : pg_cd 326 99 = (50, 1, 0, 0, 0) := by decide +kernel
theorem c_326_100 : pg_cd 326 100 = (90, 0, 0, 0, 0) := by decide +kernel
theorem c_326_101 : pg_cd 326 101 = (5, 1, 0, 0, 0) := by decide +kernel
theorem c_326_102 : pg_cd 326 102 = (45, 12, 8, 0, 0) := by decide +kernel
theorem c_326_105 : pg_cd 326 105 = (1, 1, 0, 0, 3) := by decide +kernel
theorem c_326_106 : pg_cd 326 106 = (50, 1, 0, 0, 0) := by decide +kernel
theorem c_326_107 : pg_cd 326 107 = (90, 0, 0, 0, 0) := by decide +kernel
theorem c_326_108 : pg_cd 326 108 = (5, 1, 0, 0, 0) := by decide +kernel
theorem c_326_109 : pg_cd 326 109 = (45, 12, 8, 0, 0) := by decide +kernel
theorem c_326_112 : pg_cd 326 112 = (1, 1, 0, 0, 4) := by decide +kernel
theorem c_326_113 : pg_cd 326 113 = (50, 1, 0, 0, 0) := by decide +kernel
theorem c_326_114 : pg_cd 326 114 = (90, 0, 0, 0, 0) := by decide +kernel
theorem c_326_115 : pg_cd 326 115 = (5, 1, 0, 0, 0) := by decide +kernel
theorem c_326_116 : pg_cd 326 116 = (45, 12, 8, 0, 0) := by decide +kernel
theorem c_326_119 : pg_cd 326 119 = (1, 1, 0, 0, 5) := by decide +kernel
theorem c_326_120 : pg_cd 326 120 = (50, 1, 0, 0, 0) := by decide +kernel
theorem c_326_121 : pg_cd 326 121 = (90, 0, 0, 0, 0) := by decide +kernel
theorem c_326_122 : pg_cd 326 122 = (5, 1, 0, 0, 0) := by decide +kernel
theorem c_326_123 : pg_cd 326 123 = (45, 12, 8, 0, 0) := by decide +kernel
theorem c_326_126 : pg_cd 326 126 = (1, 2, 0, 0, 6) := by decide +kernel
theorem c_326_128 : pg_cd 326 128 = (50, 1, 0, 0, 0) := by decide +kernel
theorem c_326_129 : pg_cd 326 129 = (90, 0, 0, 0, 0) := by decide +kernel
theorem c_326_130 : pg_cd 326 130 = (5, 1, 0, 0, 0) := by decide +kernel
theorem c_326_131 : pg_cd 326 131 = (45, 12, 8, 0, 0) := by decide +kernel
theorem c_326_134 : pg_cd 326 134 = (1, 2, 0, 0, 7) := by decide +kernel
theorem c_326_136 : pg_cd 326 136 = (50, 1, 0, 0, 0) := by decide +kernel
theorem c_326_137 : pg_cd 326 137 = (90, 0, 0, 0, 0) := by decide +kernel
theorem c_326_138 : pg_cd 326 138 = (5, 1, 0, 0, 0) := by decide +kernel
theorem c_326_139 : pg_cd 326 139 = (45, 12, 8, 0, 0) := by decide +kernel
theorem c_326_142 : pg_cd 326 142 = (1, 2, 0, 0, 8) := by decide +kernel
theorem c_326_144 : pg_cd 326 144 = (50, 1, 0, 0, 0) := by decide +kernel
theorem c_326_145 : pg_cd 326 145 = (90, 0, 0, 0, 0) := by decide +kernel
theorem c_326_146 : pg_cd 326 146 = (5, 1, 0, 0, 0) := by decide +kernel
theorem c_326_147 : pg_cd 326 147 = (45, 12, 8, 0, 0) := by decide +kernel
theorem c_326_150 : pg_cd 326 150 = (1, 2, 0, 0, 15) := by decide +kernel
theorem c_326_152 : pg_cd 326 152 = (50, 1, 0, 0, 0) := by decide +kernel
theorem c_326_153 : pg_cd 326 153 = (90, 0, 0, 0, 0) := by decide +kernel
theorem c_326_154 : pg_cd 326 154 = (5, 1, 0, 0, 0) := by decide +kernel
theorem c_326_155 : pg_cd 326 155 = (43, 12, 128, 4, 0) := by decide +kernel
theorem c_326_158 : pg_cd 326 158 = (90, 0, 0, 0, 0) := by decide +kernel
theorem c_326_159 : pg_cd 326 159 = (5, 1, 0, 0, 0) := by decide +kernel
theorem c_326_160 : pg_cd 326 160 = (45, 12, 8, 0, 0) := by decide +kernel
theorem c_326_163 : pg_cd 326 163 = (1, 2, 0, 0, 9) := by decide +kernel
theorem c_326_165 : pg_cd 326 165 = (50, 1, 0, 0, 0) := by decide +kernel
theorem c_326_166 : pg_cd 326 166 = (90, 0, 0, 0, 0) := by decide +kernel
theorem c_326_167 : pg_cd 326 167 = (5, 1, 0, 0, 0) := by decide +kernel
theorem c_326_168 : pg_cd 326 168 = (45, 12, 8, 0, 0) := by decide +kernel
theorem c_326_171 : pg_cd 326 171 = (1, 2, 0, 0, 10) := by decide +kernel
theorem c_326_173 : pg_cd 326 173 = (50, 1, 0, 0, 0) := by decide +kernel
theorem c_326_174 : pg_cd 326 174 = (90, 0, 0, 0, 0) := by decide +kernel
theorem c_326_175 : pg_cd 326 175 = (5, 1, 0, 0, 0) := by decide +kernel
theorem c_326_176 : pg_cd 326 176 = (45, 12, 8, 0, 0) := by decide +kernel
theorem c_326_179 : pg_cd 326 179 = (1, 2, 0, 0, 11) := by decide +kernel
theorem c_326_181 : pg_cd 326 181 = (50, 1, 0, 0, 0) := by decide +kernel
theorem c_326_182 : pg_cd 326 182 = (90, 0, 0, 0, 0) := by decide +kernel
theorem c_326_183 : pg_cd 326 183 = (5, 1, 0, 0, 0) := by decide +kernel
theorem c_326_184 : pg_cd 326 184 = (45, 12, 8, 0, 0) := by decide +kernel
theorem c_326_187 : pg_cd 326 187 = (1, 2, 0, 0, 12) := by decide +kernel
theorem c_326_189 : pg_cd 326 189 = (50, 1, 0, 0, 0) := by decide +kernel
theorem c_326_190 : pg_cd 326 190 = (90, 0, 0, 0, 0) := by decide +kernel
theorem c_326_191 : pg_cd 326 191 = (5, 1, 0, 0, 0) := by decide +kernel
theorem c_326_192 : pg_cd 326 192 = (45, 12, 8, 0, 0) := by decide +kernel
theorem c_326_195 : pg_cd 326 195 = (1, 1, 0, 0, 5) := by decide +kernel
theorem c_326_196 : pg_cd 326 196 = (50, 1, 0, 0, 0) := by decide +kernel
theorem c_326_197 : pg_cd 326 197 = (36, 3, 0, 1, 7) := by decide +kernel
theorem c_326_200 : pg_cd 326 200 = (1, 1, 0, 0, (-1)) := by decide +kernel
theorem c_326_201 : pg_cd 326 201 = (38, 3, 0, 0, 15) := by decide +kernel
theorem c_326_204 : pg_cd 326 204 = (5, 1, 0, 0, 0) := by decide +kernel
theorem c_326_205 : pg_cd 326 205 = (5, 1, 0, 0, 0) := by decide +kernel
theorem c_326_206 : pg_cd 326 206 = (45, 12, 8, 0, 0) := by decide +kernel
theorem c_326_209 : pg_cd 326 209 = (1, 1, 0, 0, 5) := by decide +kernel
theorem c_326_210 : pg_cd 326 210 = (50, 1, 0, 0, 0) := by decide +kernel
theorem c_326_211 : pg_cd 326 211 = (1, 1, 0, 0, 1) := by decide +kernel
theorem c_326_212 : pg_cd 326 212 = (11, 1, 0, 0, 0) := by decide +kernel
theorem c_326_213 : pg_cd 326 213 = (80, 266, 296, 0, 0) := by decide +kernel
theorem c_326_216 : pg_cd 326 216 = (90, 0, 0, 0, 0) := by decide +kernel
theorem c_326_217 : pg_cd 326 217 = (1, 1, 0, 0, (-1)) := by decide +kernel
theorem c_326_218 : pg_cd 326 218 = (90, 0, 0, 0, 0) := by decide +kernel
theorem mx_326 : pg_mx 326 = 2 := by decide +kernel
theorem m_326 {d : Nat} {h : ab_H} {Q : Option Value → ab_H → Prop} {x0 : Nat} {x1 : Int32} (t : wq d 326 0 [.ref x0, .int x1] [] h Q) : wm d 326 [.ref x0, .int x1] h Q := by
  unfold wm
  rw [mx_326]
  exact t
set_option maxRecDepth 20000 in
theorem t_326_0 {d : Nat} {h : ab_H} {Q : Option Value → ab_H → Prop} {x0 : Nat} {x1 : Int32} (t : if x1 = 0 then (ab_ok h x0 112 = true ∧ ∃ j1 : Nat, ab_r h x0 0 = some j1 ∧ ((j1 = 0 ∨ ab_ok h j1 0 = true) ∧ ab_in (0 : Int32) (ab_s h j1).2 = true) ∧ Q (some (.int (ab_i h j1 (Int32.toNatClampNeg (0 : Int32))))) h) else (if x1 = 1 then (ab_ok h x0 112 = true ∧ ∃ j2 : Nat, ab_r h x0 0 = some j2 ∧ ((j2 = 0 ∨ ab_ok h j2 0 = true) ∧ ab_in (1 : Int32) (ab_s h j2).2 = true) ∧ Q (some (.int (ab_i h j2 (Int32.toNatClampNeg (1 : Int32))))) h) else (if x1 = 2 then (ab_ok h x0 112 = true ∧ ∃ j3 : Nat, ab_r h x0 0 = some j3 ∧ ((j3 = 0 ∨ ab_ok h j3 0 = true) ∧ ab_in (2 : Int32) (ab_s h j3).2 = true) ∧ Q (some (.int (ab_i h j3 (Int32.toNatClampNeg (2 : Int32))))) h) else (if x1 = 3 then (ab_ok h x0 112 = true ∧ ∃ j4 : Nat, ab_r h x0 0 = some j4 ∧ ((j4 = 0 ∨ ab_ok h j4 0 = true) ∧ ab_in (3 : Int32) (ab_s h j4).2 = true) ∧ Q (some (.int (ab_i h j4 (Int32.toNatClampNeg (3 : Int32))))) h) else (if x1 = 4 then (ab_ok h x0 112 = true ∧ ∃ j5 : Nat, ab_r h x0 0 = some j5 ∧ ((j5 = 0 ∨ ab_ok h j5 0 = true) ∧ ab_in (4 : Int32) (ab_s h j5).2 = true) ∧ Q (some (.int (ab_i h j5 (Int32.toNatClampNeg (4 : Int32))))) h) else (if x1 = 5 then (ab_ok h x0 112 = true ∧ ∃ j6 : Nat, ab_r h x0 0 = some j6 ∧ ((j6 = 0 ∨ ab_ok h j6 0 = true) ∧ ab_in (5 : Int32) (ab_s h j6).2 = true) ∧ Q (some (.int (ab_i h j6 (Int32.toNatClampNeg (5 : Int32))))) h) else (if x1 = 6 then (ab_ok h x0 112 = true ∧ ∃ j7 : Nat, ab_r h x0 0 = some j7 ∧ ((j7 = 0 ∨ ab_ok h j7 0 = true) ∧ ab_in (6 : Int32) (ab_s h j7).2 = true) ∧ Q (some (.int (ab_i h j7 (Int32.toNatClampNeg (6 : Int32))))) h) else (if x1 = 7 then (ab_ok h x0 112 = true ∧ ∃ j8 : Nat, ab_r h x0 0 = some j8 ∧ ((j8 = 0 ∨ ab_ok h j8 0 = true) ∧ ab_in (7 : Int32) (ab_s h j8).2 = true) ∧ Q (some (.int (ab_i h j8 (Int32.toNatClampNeg (7 : Int32))))) h) else (if x1 = 8 then (ab_ok h x0 112 = true ∧ ∃ j9 : Nat, ab_r h x0 0 = some j9 ∧ ((j9 = 0 ∨ ab_ok h j9 0 = true) ∧ ab_in (8 : Int32) (ab_s h j9).2 = true) ∧ Q (some (.int (ab_i h j9 (Int32.toNatClampNeg (8 : Int32))))) h) else (if x1 = 9 then (ab_ok h x0 112 = true ∧ ∃ j10 : Nat, ab_r h x0 0 = some j10 ∧ ((j10 = 0 ∨ ab_ok h j10 0 = true) ∧ ab_in (15 : Int32) (ab_s h j10).2 = true) ∧ Q (some (.int (ab_i h j10 (Int32.toNatClampNeg (15 : Int32))))) h) else (if x1 = 10 then (ab_ok h x0 112 = true ∧ Q (some (.int (ab_i h x0 4))) h) else (if x1 = 11 then (ab_ok h x0 112 = true ∧ ∃ j11 : Nat, ab_r h x0 0 = some j11 ∧ ((j11 = 0 ∨ ab_ok h j11 0 = true) ∧ ab_in (9 : Int32) (ab_s h j11).2 = true) ∧ Q (some (.int (ab_i h j11 (Int32.toNatClampNeg (9 : Int32))))) h) else (if x1 = 12 then (ab_ok h x0 112 = true ∧ ∃ j12 : Nat, ab_r h x0 0 = some j12 ∧ ((j12 = 0 ∨ ab_ok h j12 0 = true) ∧ ab_in (10 : Int32) (ab_s h j12).2 = true) ∧ Q (some (.int (ab_i h j12 (Int32.toNatClampNeg (10 : Int32))))) h) else (if x1 = 13 then (ab_ok h x0 112 = true ∧ ∃ j13 : Nat, ab_r h x0 0 = some j13 ∧ ((j13 = 0 ∨ ab_ok h j13 0 = true) ∧ ab_in (11 : Int32) (ab_s h j13).2 = true) ∧ Q (some (.int (ab_i h j13 (Int32.toNatClampNeg (11 : Int32))))) h) else (if x1 = 14 then (ab_ok h x0 112 = true ∧ ∃ j14 : Nat, ab_r h x0 0 = some j14 ∧ ((j14 = 0 ∨ ab_ok h j14 0 = true) ∧ ab_in (12 : Int32) (ab_s h j14).2 = true) ∧ Q (some (.int (ab_i h j14 (Int32.toNatClampNeg (12 : Int32))))) h) else (if x1 = 15 then (ab_ok h x0 112 = true ∧ ∃ j15 : Nat, ab_r h x0 0 = some j15 ∧ ((j15 = 0 ∨ ab_ok h j15 0 = true) ∧ ab_in (5 : Int32) (ab_s h j15).2 = true) ∧ if (ab_i h j15 (Int32.toNatClampNeg (5 : Int32))) = 0 then (Q (some (.int (-1))) h) else (ab_ok h x0 112 = true ∧ ∃ j16 : Nat, ab_r h x0 0 = some j16 ∧ ((j16 = 0 ∨ ab_ok h j16 0 = true) ∧ ab_in (5 : Int32) (ab_s h j16).2 = true) ∧ ab_ok h x0 112 = true ∧ wm d 266 [.ref x0, .int ((ab_i h j16 (Int32.toNatClampNeg (5 : Int32))) - 1)] h (fun r9 h9 => wq (d + 1) 326 216 [.ref x0, .int x1] (r9.toList ++ []) h9 Q))) else (Q (some (.int (-1))) h))))))))))))))))) : wq (d + 1) 326 0 [.ref x0, .int x1] [] h Q := by
  refine g3 c_326_0 rfl ?_
  by_cases e0 : x1 = 0
  · rw [if_pos e0] at t
    refine g42 (o := 79) c_326_1 sw_9 (by rw [e0]; decide) (by rw [e0]; decide) rfl ?_
    refine g5 c_326_80 rfl ?_
    obtain ⟨ho, j1, hr, t⟩ := t
    refine g45 c_326_81 ho hr ?_
    refine g1 c_326_84 k_0 ?_
    obtain ⟨ho, t⟩ := t
    refine g50 c_326_85 ho ?_
    exact g90 c_326_86 t
  rw [if_neg e0] at t
  by_cases e1 : x1 = 1
  · rw [if_pos e1] at t
    refine g42 (o := 86) c_326_1 sw_9 (by rw [e1]; decide) (by rw [e1]; decide) rfl ?_
    refine g5 c_326_87 rfl ?_
    obtain ⟨ho, j2, hr, t⟩ := t
    refine g45 c_326_88 ho hr ?_
    refine g1 c_326_91 k_1 ?_
    obtain ⟨ho, t⟩ := t
    refine g50 c_326_92 ho ?_
    exact g90 c_326_93 t
  rw [if_neg e1] at t
  by_cases e2 : x1 = 2
  · rw [if_pos e2] at t
    refine g42 (o := 93) c_326_1 sw_9 (by rw [e2]; decide) (by rw [e2]; decide) rfl ?_
    refine g5 c_326_94 rfl ?_
    obtain ⟨ho, j3, hr, t⟩ := t
    refine g45 c_326_95 ho hr ?_
    refine g1 c_326_98 k_2 ?_
    obtain ⟨ho, t⟩ := t
    refine g50 c_326_99 ho ?_
    exact g90 c_326_100 t
  rw [if_neg e2] at t
  by_cases e3 : x1 = 3
  · rw [if_pos e3] at t
    refine g42 (o := 100) c_326_1 sw_9 (by rw [e3]; decide) (by rw [e3]; decide) rfl ?_
    refine g5 c_326_101 rfl ?_
    obtain ⟨ho, j4, hr, t⟩ := t
    refine g45 c_326_102 ho hr ?_
    refine g1 c_326_105 k_3 ?_
    obtain ⟨ho, t⟩ := t
    refine g50 c_326_106 ho ?_
    exact g90 c_326_107 t
  rw [if_neg e3] at t
  by_cases e4 : x1 = 4
  · rw [if_pos e4] at t
    refine g42 (o := 107) c_326_1 sw_9 (by rw [e4]; decide) (by rw [e4]; decide) rfl ?_
    refine g5 c_326_108 rfl ?_
    obtain ⟨ho, j5, hr, t⟩ := t
    refine g45 c_326_109 ho hr ?_
    refine g1 c_326_112 k_4 ?_
    obtain ⟨ho, t⟩ := t
    refine g50 c_326_113 ho ?_
    exact g90 c_326_114 t
  rw [if_neg e4] at t
  by_cases e5 : x1 = 5
  · rw [if_pos e5] at t
    refine g42 (o := 114) c_326_1 sw_9 (by rw [e5]; decide) (by rw [e5]; decide) rfl ?_
    refine g5 c_326_115 rfl ?_
    obtain ⟨ho, j6, hr, t⟩ := t
    refine g45 c_326_116 ho hr ?_
    refine g1 c_326_119 k_5 ?_
    obtain ⟨ho, t⟩ := t
    refine g50 c_326_120 ho ?_
    exact g90 c_326_121 t
  rw [if_neg e5] at t
  by_cases e6 : x1 = 6
  · rw [if_pos e6] at t
    refine g42 (o := 121) c_326_1 sw_9 (by rw [e6]; decide) (by rw [e6]; decide) rfl ?_
    refine g5 c_326_122 rfl ?_
    obtain ⟨ho, j7, hr, t⟩ := t
    refine g45 c_326_123 ho hr ?_
    refine g1 c_326_126 k_6 ?_
    obtain ⟨ho, t⟩ := t
    refine g50 c_326_128 ho ?_
    exact g90 c_326_129 t
  rw [if_neg e6] at t
  by_cases e7 : x1 = 7
  · rw [if_pos e7] at t
    refine g42 (o := 129) c_326_1 sw_9 (by rw [e7]; decide) (by rw [e7]; decide) rfl ?_
    refine g5 c_326_130 rfl ?_
    obtain ⟨ho, j8, hr, t⟩ := t
    refine g45 c_326_131 ho hr ?_
    refine g1 c_326_134 k_7 ?_
    obtain ⟨ho, t⟩ := t
    refine g50 c_326_136 ho ?_
    exact g90 c_326_137 t
  rw [if_neg e7] at t
  by_cases e8 : x1 = 8
  · rw [if_pos e8] at t
    refine g42 (o := 137) c_326_1 sw_9 (by rw [e8]; decide) (by rw [e8]; decide) rfl ?_
    refine g5 c_326_138 rfl ?_
    obtain ⟨ho, j9, hr, t⟩ := t
    refine g45 c_326_139 ho hr ?_
    refine g1 c_326_142 k_8 ?_
    obtain ⟨ho, t⟩ := t
    refine g50 c_326_144 ho ?_
    exact g90 c_326_145 t
  rw [if_neg e8] at t
  by_cases e9 : x1 = 9
  · rw [if_pos e9] at t
    refine g42 (o := 145) c_326_1 sw_9 (by rw [e9]; decide) (by rw [e9]; decide) rfl ?_
    refine g5 c_326_146 rfl ?_
    obtain ⟨ho, j10, hr, t⟩ := t
    refine g45 c_326_147 ho hr ?_
    refine g1 c_326_150 k_15 ?_
    obtain ⟨ho, t⟩ := t
    refine g50 c_326_152 ho ?_
    exact g90 c_326_153 t
  rw [if_neg e9] at t
  by_cases e10 : x1 = 10
  · rw [if_pos e10] at t
    refine g42 (o := 153) c_326_1 sw_9 (by rw [e10]; decide) (by rw [e10]; decide) rfl ?_
    refine g5 c_326_154 rfl ?_
    obtain ⟨ho, t⟩ := t
    refine g43 c_326_155 ho ?_
    exact g90 c_326_158 t
  rw [if_neg e10] at t
  by_cases e11 : x1 = 11
  · rw [if_pos e11] at t
    refine g42 (o := 158) c_326_1 sw_9 (by rw [e11]; decide) (by rw [e11]; decide) rfl ?_
    refine g5 c_326_159 rfl ?_
    obtain ⟨ho, j11, hr, t⟩ := t
    refine g45 c_326_160 ho hr ?_
    refine g1 c_326_163 k_9 ?_
    obtain ⟨ho, t⟩ := t
    refine g50 c_326_165 ho ?_
    exact g90 c_326_166 t
  rw [if_neg e11] at t
  by_cases e12 : x1 = 12
  · rw [if_pos e12] at t
    refine g42 (o := 166) c_326_1 sw_9 (by rw [e12]; decide) (by rw [e12]; decide) rfl ?_
    refine g5 c_326_167 rfl ?_
    obtain ⟨ho, j12, hr, t⟩ := t
    refine g45 c_326_168 ho hr ?_
    refine g1 c_326_171 k_10 ?_
    obtain ⟨ho, t⟩ := t
    refine g50 c_326_173 ho ?_
    exact g90 c_326_174 t
  rw [if_neg e12] at t
  by_cases e13 : x1 = 13
  · rw [if_pos e13] at t
    refine g42 (o := 174) c_326_1 sw_9 (by rw [e13]; decide) (by rw [e13]; decide) rfl ?_
    refine g5 c_326_175 rfl ?_
    obtain ⟨ho, j13, hr, t⟩ := t
    refine g45 c_326_176 ho hr ?_
    refine g1 c_326_179 k_11 ?_
    obtain ⟨ho, t⟩ := t
    refine g50 c_326_181 ho ?_
    exact g90 c_326_182 t
  rw [if_neg e13] at t
  by_cases e14 : x1 = 14
  · rw [if_pos e14] at t
    refine g42 (o := 182) c_326_1 sw_9 (by rw [e14]; decide) (by rw [e14]; decide) rfl ?_
    refine g5 c_326_183 rfl ?_
    obtain ⟨ho, j14, hr, t⟩ := t
    refine g45 c_326_184 ho hr ?_
    refine g1 c_326_187 k_12 ?_
    obtain ⟨ho, t⟩ := t
    refine g50 c_326_189 ho ?_
    exact g90 c_326_190 t
  rw [if_neg e14] at t
  by_cases e15 : x1 = 15
  · rw [if_pos e15] at t
    refine g42 (o := 190) c_326_1 sw_9 (by rw [e15]; decide) (by rw [e15]; decide) rfl ?_
    refine g5 c_326_191 rfl ?_
    obtain ⟨ho, j15, hr, t⟩ := t
    refine g45 c_326_192 ho hr ?_
    refine g1 c_326_195 k_5 ?_
    obtain ⟨ho, t⟩ := t
    refine g50 c_326_196 ho ?_
    refine gif c_326_197 (gbn t (ab_c1 _ _) rfl (fun hc t => ?_) (fun hc t => ?_))
    · refine g1 c_326_200 k_m1 ?_
      refine g38 c_326_201 rfl ?_
      exact g90 c_326_216 t
    · refine g5 c_326_204 rfl ?_
      refine g5 c_326_205 rfl ?_
      obtain ⟨ho, j16, hr, t⟩ := t
      refine g45 c_326_206 ho hr ?_
      refine g1 c_326_209 k_5 ?_
      obtain ⟨ho, t⟩ := t
      refine g50 c_326_210 ho ?_
      refine g1 c_326_211 k_1 ?_
      refine g11 c_326_212 ?_
      exact g80 (As := [.int ((ab_i h j16 (Int32.toNatClampNeg (5 : Int32))) - 1)]) (rest := []) c_326_213 rfl rfl (Nat.le_of_ble_eq_true rfl) (Nat.le_of_ble_eq_true rfl) t.1 t.2
  rw [if_neg e15] at t
  refine g42d c_326_1 sw_9 (gsw_out (n := 16) (by decide) (by decide) (fun i hi => ?_)) rfl ?_
  · rcases (show i = 0 ∨ i = 1 ∨ i = 2 ∨ i = 3 ∨ i = 4 ∨ i = 5 ∨ i = 6 ∨ i = 7 ∨ i = 8 ∨ i = 9 ∨ i = 10 ∨ i = 11 ∨ i = 12 ∨ i = 13 ∨ i = 14 ∨ i = 15 by omega) with rfl | rfl | rfl | rfl | rfl | rfl | rfl | rfl | rfl | rfl | rfl | rfl | rfl | rfl | rfl | rfl
    · exact fun q => e0 (q.trans k_0)
    · exact fun q => e1 (q.trans k_1)
    · exact fun q => e2 (q.trans k_2)
    · exact fun q => e3 (q.trans k_3)
    · exact fun q => e4 (q.trans k_4)
    · exact fun q => e5 (q.trans k_5)
    · exact fun q => e6 (q.trans k_6)
    · exact fun q => e7 (q.trans k_7)
    · exact fun q => e8 (q.trans k_8)
    · exact fun q => e9 (q.trans k_9)
    · exact fun q => e10 (q.trans k_10)
    · exact fun q => e11 (q.trans k_11)
    · exact fun q => e12 (q.trans k_12)
    · exact fun q => e13 (q.trans k_13)
    · exact fun q => e14 (q.trans k_14)
    · exact fun q => e15 (q.trans k_15)
  refine g1 c_326_217 k_m1 ?_
  exact g90 c_326_218 t
set_option maxRecDepth 20000 in
theorem t_326_216 {d : Nat} {h : ab_H} {Q : Option Value → ab_H → Prop} {x0 : Nat} {x1 : Int32} {s0 : Int32} (t : Q (some (.int s0)) h) : wq d 326 216 [.ref x0, .int x1] [.int s0] h Q := by
  exact g90 c_326_216 t
