/-! ===== the reference: FRACTIONS, SUMS, PAY (segments printed by wip/whole, contracts own work) ===== -/
-- method 261: MillTownModel.small(I)V
theorem c_261_0 : pg_cd 261 0 = (5, 1, 0, 0, 0) := by decide +kernel
theorem c_261_1 : pg_cd 261 1 = (45, 12, 37, 20, 0) := by decide +kernel
theorem c_261_4 : pg_cd 261 4 = (3, 1, 0, 1, 0) := by decide +kernel
theorem c_261_5 : pg_cd 261 5 = (52, 1, 0, 0, 0) := by decide +kernel
theorem c_261_6 : pg_cd 261 6 = (2, 1, 0, 0, 0) := by decide +kernel
theorem c_261_7 : pg_cd 261 7 = (28, 1, 0, 0, 0) := by decide +kernel
theorem c_261_8 : pg_cd 261 8 = (36, 3, 0, 1, 4) := by decide +kernel
theorem c_261_11 : pg_cd 261 11 = (94, 0, 0, 0, 0) := by decide +kernel
theorem c_261_12 : pg_cd 261 12 = (5, 1, 0, 0, 0) := by decide +kernel
theorem c_261_13 : pg_cd 261 13 = (45, 12, 37, 20, 0) := by decide +kernel
theorem c_261_16 : pg_cd 261 16 = (3, 1, 0, 1, 0) := by decide +kernel
theorem c_261_17 : pg_cd 261 17 = (52, 1, 0, 0, 0) := by decide +kernel
theorem c_261_18 : pg_cd 261 18 = (2, 1, 0, 0, 0) := by decide +kernel
theorem c_261_19 : pg_cd 261 19 = (28, 1, 0, 0, 0) := by decide +kernel
theorem c_261_20 : pg_cd 261 20 = (36, 3, 0, 3, 29) := by decide +kernel
theorem c_261_23 : pg_cd 261 23 = (5, 1, 0, 0, 0) := by decide +kernel
theorem c_261_24 : pg_cd 261 24 = (45, 12, 37, 20, 0) := by decide +kernel
theorem c_261_27 : pg_cd 261 27 = (3, 1, 0, 1, 0) := by decide +kernel
theorem c_261_28 : pg_cd 261 28 = (5, 1, 0, 0, 0) := by decide +kernel
theorem c_261_29 : pg_cd 261 29 = (45, 12, 37, 20, 0) := by decide +kernel
theorem c_261_32 : pg_cd 261 32 = (3, 1, 0, 1, 0) := by decide +kernel
theorem c_261_33 : pg_cd 261 33 = (52, 1, 0, 0, 0) := by decide +kernel
theorem c_261_34 : pg_cd 261 34 = (29, 1, 0, 0, 0) := by decide +kernel
theorem c_261_35 : pg_cd 261 35 = (56, 1, 0, 0, 0) := by decide +kernel
theorem c_261_36 : pg_cd 261 36 = (5, 1, 0, 0, 0) := by decide +kernel
theorem c_261_37 : pg_cd 261 37 = (45, 12, 33, 19, 0) := by decide +kernel
theorem c_261_40 : pg_cd 261 40 = (3, 1, 0, 1, 0) := by decide +kernel
theorem c_261_41 : pg_cd 261 41 = (5, 1, 0, 0, 0) := by decide +kernel
theorem c_261_42 : pg_cd 261 42 = (45, 12, 33, 19, 0) := by decide +kernel
theorem c_261_45 : pg_cd 261 45 = (3, 1, 0, 1, 0) := by decide +kernel
theorem c_261_46 : pg_cd 261 46 = (52, 1, 0, 0, 0) := by decide +kernel
theorem c_261_47 : pg_cd 261 47 = (29, 1, 0, 0, 0) := by decide +kernel
theorem c_261_48 : pg_cd 261 48 = (56, 1, 0, 0, 0) := by decide +kernel
theorem c_261_49 : pg_cd 261 49 = (5, 1, 0, 0, 0) := by decide +kernel
theorem c_261_50 : pg_cd 261 50 = (45, 12, 33, 19, 0) := by decide +kernel
theorem c_261_53 : pg_cd 261 53 = (3, 1, 0, 1, 0) := by decide +kernel
theorem c_261_54 : pg_cd 261 54 = (52, 1, 0, 0, 0) := by decide +kernel
theorem c_261_55 : pg_cd 261 55 = (2, 1, 0, 0, 0) := by decide +kernel
theorem c_261_56 : pg_cd 261 56 = (28, 1, 0, 0, 0) := by decide +kernel
theorem c_261_57 : pg_cd 261 57 = (36, 3, 0, 3, 13) := by decide +kernel
theorem c_261_60 : pg_cd 261 60 = (5, 1, 0, 0, 0) := by decide +kernel
theorem c_261_61 : pg_cd 261 61 = (45, 12, 33, 19, 0) := by decide +kernel
theorem c_261_64 : pg_cd 261 64 = (3, 1, 0, 1, 0) := by decide +kernel
theorem c_261_65 : pg_cd 261 65 = (52, 1, 0, 0, 0) := by decide +kernel
theorem c_261_66 : pg_cd 261 66 = (29, 1, 0, 0, 0) := by decide +kernel
theorem c_261_67 : pg_cd 261 67 = (38, 3, 0, 0, 9) := by decide +kernel
theorem c_261_70 : pg_cd 261 70 = (5, 1, 0, 0, 0) := by decide +kernel
theorem c_261_71 : pg_cd 261 71 = (45, 12, 33, 19, 0) := by decide +kernel
theorem c_261_74 : pg_cd 261 74 = (3, 1, 0, 1, 0) := by decide +kernel
theorem c_261_75 : pg_cd 261 75 = (52, 1, 0, 0, 0) := by decide +kernel
theorem c_261_76 : pg_cd 261 76 = (7, 1, 0, 2, 0) := by decide +kernel
theorem c_261_77 : pg_cd 261 77 = (5, 1, 0, 0, 0) := by decide +kernel
theorem c_261_78 : pg_cd 261 78 = (45, 12, 37, 20, 0) := by decide +kernel
theorem c_261_81 : pg_cd 261 81 = (3, 1, 0, 1, 0) := by decide +kernel
theorem c_261_82 : pg_cd 261 82 = (52, 1, 0, 0, 0) := by decide +kernel
theorem c_261_83 : pg_cd 261 83 = (7, 2, 0, 4, 0) := by decide +kernel
theorem c_261_85 : pg_cd 261 85 = (4, 2, 0, 4, 0) := by decide +kernel
theorem c_261_87 : pg_cd 261 87 = (2, 1, 0, 0, 0) := by decide +kernel
theorem c_261_88 : pg_cd 261 88 = (28, 1, 0, 0, 0) := by decide +kernel
theorem c_261_89 : pg_cd 261 89 = (36, 3, 0, 0, 19) := by decide +kernel
theorem c_261_92 : pg_cd 261 92 = (4, 1, 0, 2, 0) := by decide +kernel
theorem c_261_93 : pg_cd 261 93 = (4, 2, 0, 4, 0) := by decide +kernel
theorem c_261_95 : pg_cd 261 95 = (27, 1, 0, 0, 0) := by decide +kernel
theorem c_261_96 : pg_cd 261 96 = (7, 2, 0, 6, 0) := by decide +kernel
theorem c_261_98 : pg_cd 261 98 = (4, 2, 0, 4, 0) := by decide +kernel
theorem c_261_100 : pg_cd 261 100 = (7, 1, 0, 2, 0) := by decide +kernel
theorem c_261_101 : pg_cd 261 101 = (4, 2, 0, 6, 0) := by decide +kernel
theorem c_261_103 : pg_cd 261 103 = (7, 2, 0, 4, 0) := by decide +kernel
theorem c_261_105 : pg_cd 261 105 = (38, 3, 0, 0, (-20)) := by decide +kernel
theorem c_261_108 : pg_cd 261 108 = (4, 1, 0, 2, 0) := by decide +kernel
theorem c_261_109 : pg_cd 261 109 = (2, 1, 0, 0, 1) := by decide +kernel
theorem c_261_110 : pg_cd 261 110 = (28, 1, 0, 0, 0) := by decide +kernel
theorem c_261_111 : pg_cd 261 111 = (36, 3, 0, 5, 23) := by decide +kernel
theorem c_261_114 : pg_cd 261 114 = (5, 1, 0, 0, 0) := by decide +kernel
theorem c_261_115 : pg_cd 261 115 = (45, 12, 33, 19, 0) := by decide +kernel
theorem c_261_118 : pg_cd 261 118 = (3, 1, 0, 1, 0) := by decide +kernel
theorem c_261_119 : pg_cd 261 119 = (34, 1, 0, 0, 0) := by decide +kernel
theorem c_261_120 : pg_cd 261 120 = (52, 1, 0, 0, 0) := by decide +kernel
theorem c_261_121 : pg_cd 261 121 = (4, 1, 0, 2, 0) := by decide +kernel
theorem c_261_122 : pg_cd 261 122 = (26, 1, 0, 0, 0) := by decide +kernel
theorem c_261_123 : pg_cd 261 123 = (56, 1, 0, 0, 0) := by decide +kernel
theorem c_261_124 : pg_cd 261 124 = (5, 1, 0, 0, 0) := by decide +kernel
theorem c_261_125 : pg_cd 261 125 = (45, 12, 37, 20, 0) := by decide +kernel
theorem c_261_128 : pg_cd 261 128 = (3, 1, 0, 1, 0) := by decide +kernel
theorem c_261_129 : pg_cd 261 129 = (34, 1, 0, 0, 0) := by decide +kernel
theorem c_261_130 : pg_cd 261 130 = (52, 1, 0, 0, 0) := by decide +kernel
theorem c_261_131 : pg_cd 261 131 = (4, 1, 0, 2, 0) := by decide +kernel
theorem c_261_132 : pg_cd 261 132 = (26, 1, 0, 0, 0) := by decide +kernel
theorem c_261_133 : pg_cd 261 133 = (56, 1, 0, 0, 0) := by decide +kernel
theorem c_261_134 : pg_cd 261 134 = (5, 1, 0, 0, 0) := by decide +kernel
theorem c_261_135 : pg_cd 261 135 = (45, 12, 33, 19, 0) := by decide +kernel
theorem c_261_138 : pg_cd 261 138 = (3, 1, 0, 1, 0) := by decide +kernel
theorem c_261_139 : pg_cd 261 139 = (52, 1, 0, 0, 0) := by decide +kernel
theorem c_261_140 : pg_cd 261 140 = (2, 3, 277, 0, 1000000000) := by decide +kernel
theorem c_261_143 : pg_cd 261 143 = (28, 1, 0, 0, 0) := by decide +kernel
theorem c_261_144 : pg_cd 261 144 = (36, 3, 0, 4, 29) := by decide +kernel
theorem c_261_147 : pg_cd 261 147 = (5, 1, 0, 0, 0) := by decide +kernel
theorem c_261_148 : pg_cd 261 148 = (45, 12, 33, 19, 0) := by decide +kernel
theorem c_261_151 : pg_cd 261 151 = (3, 1, 0, 1, 0) := by decide +kernel
theorem c_261_152 : pg_cd 261 152 = (52, 1, 0, 0, 0) := by decide +kernel
theorem c_261_153 : pg_cd 261 153 = (2, 3, 279, 0, (-1000000000)) := by decide +kernel
theorem c_261_156 : pg_cd 261 156 = (28, 1, 0, 0, 0) := by decide +kernel
theorem c_261_157 : pg_cd 261 157 = (36, 3, 0, 2, 16) := by decide +kernel
theorem c_261_160 : pg_cd 261 160 = (5, 1, 0, 0, 0) := by decide +kernel
theorem c_261_161 : pg_cd 261 161 = (45, 12, 37, 20, 0) := by decide +kernel
theorem c_261_164 : pg_cd 261 164 = (3, 1, 0, 1, 0) := by decide +kernel
theorem c_261_165 : pg_cd 261 165 = (52, 1, 0, 0, 0) := by decide +kernel
theorem c_261_166 : pg_cd 261 166 = (2, 3, 277, 0, 1000000000) := by decide +kernel
theorem c_261_169 : pg_cd 261 169 = (28, 1, 0, 0, 0) := by decide +kernel
theorem c_261_170 : pg_cd 261 170 = (36, 3, 0, 5, 10) := by decide +kernel
theorem c_261_173 : pg_cd 261 173 = (5, 1, 0, 0, 0) := by decide +kernel
theorem c_261_174 : pg_cd 261 174 = (45, 12, 37, 20, 0) := by decide +kernel
theorem c_261_177 : pg_cd 261 177 = (3, 1, 0, 1, 0) := by decide +kernel
theorem c_261_178 : pg_cd 261 178 = (2, 1, 0, 0, 0) := by decide +kernel
theorem c_261_179 : pg_cd 261 179 = (56, 1, 0, 0, 0) := by decide +kernel
theorem c_261_180 : pg_cd 261 180 = (94, 0, 0, 0, 0) := by decide +kernel
theorem mi_261 : pg_mc 261 = 12 ∧ pg_na 261 = 1 ∧ pg_mx 261 = 8 := by decide +kernel
set_option maxRecDepth 20000 in
theorem u_261_0 {d : Nat} {S : zS} {σ τ : zI} {Q : zQ} {x1 : Int} (t : (0 ≤ x1 ∧ x1 < 320) ∧ if (τ 90 x1) = 0 then (Q none S σ τ) else (if (0 : Int) ≤ (τ 90 x1) then (if (0 : Int) ≤ (τ 89 x1) then (wi (d + 1) 261 85 [.ref 83, .int (wI x1), .long (wJ (τ 89 x1)), .retAddr 0, .long (wJ (τ 90 x1)), .retAddr 0, .retAddr 0, .retAddr 0] [] S σ τ Q) else (wi (d + 1) 261 85 [.ref 83, .int (wI x1), .long (wJ (-(τ 89 x1))), .retAddr 0, .long (wJ (τ 90 x1)), .retAddr 0, .retAddr 0, .retAddr 0] [] S σ τ Q)) else (∃ w6 : Int, wJ w6 = wJ (-(τ 90 x1)) ∧ rj w6 ∧ ∃ w10 : Int, wJ w10 = wJ (-(τ 89 x1)) ∧ rj w10 ∧ if (0 : Int) ≤ w10 then (wi (d + 1) 261 85 [.ref 83, .int (wI x1), .long (wJ w10), .retAddr 0, .long (wJ w6), .retAddr 0, .retAddr 0, .retAddr 0] [] S σ (uc (uc τ 90 (u1 (τ 90) x1 w6)) 89 (u1 (τ 89) x1 w10)) Q) else (wi (d + 1) 261 85 [.ref 83, .int (wI x1), .long (wJ (-w10)), .retAddr 0, .long (wJ w6), .retAddr 0, .retAddr 0, .retAddr 0] [] S σ (uc (uc τ 90 (u1 (τ 90) x1 w6)) 89 (u1 (τ 89) x1 w10)) Q)))) : wi (d + 1) 261 0 [.ref 83, .int (wI x1), .retAddr 0, .retAddr 0, .retAddr 0, .retAddr 0, .retAddr 0, .retAddr 0] [] S σ τ Q := by
  obtain ⟨r1, t⟩ := t
  refine i5 c_261_0 rfl (i45 c_261_1 (lo (c := 83) (kd := 112) (n := 0) rfl (by decide)) (lro (c := 83) (k := 20) (j := 90) (by decide)) (i3 c_261_4 rfl (wi_ok (fun K2 => ?_))))
  refine i52 (v := τ 90 x1) c_261_5 (lo (c := 90) (kd := 1) (n := 320) rfl (by decide)) (by decide) r1 rfl (i2 c_261_6 (i28 c_261_7 ?_))
  refine i36l c_261_8 (rje_ K2 rfl) (by decide) rfl (fun hc => ?_) (fun hc => ?_)
  · have t := iF t hc
    have ha3 : ¬ ((τ 90 x1) = 0) := hc
    refine i5 c_261_12 rfl (i45 c_261_13 (lo (c := 83) (kd := 112) (n := 0) rfl (by decide)) (lro (c := 83) (k := 20) (j := 90) (by decide)) (i3 c_261_16 rfl (i52 (v := τ 90 x1) c_261_17 (lo (c := 90) (kd := 1) (n := 320) rfl (by decide)) (by decide) r1 rfl (i2 c_261_18 (i28 c_261_19 ?_)))))
    refine i36l c_261_20 (rje_ K2 rfl) (by decide) rfl (fun hc => ?_) (fun hc => ?_)
    · have t := iT t hc
      have ha4 : (0 : Int) ≤ (τ 90 x1) := hc
      refine i5 c_261_49 rfl (i45 c_261_50 (lo (c := 83) (kd := 112) (n := 0) rfl (by decide)) (lro (c := 83) (k := 19) (j := 89) (by decide)) (i3 c_261_53 rfl (i52 (v := τ 89 x1) c_261_54 (lo (c := 89) (kd := 1) (n := 320) rfl (by decide)) (by decide) r1 rfl (i2 c_261_55 (i28 c_261_56 ?_)))))
      refine i36l c_261_57 (rje_ K2 rfl) (by decide) rfl (fun hc => ?_) (fun hc => ?_)
      · have t := iT t hc
        have ha5 : (0 : Int) ≤ (τ 89 x1) := hc
        refine i5 c_261_70 rfl (i45 c_261_71 (lo (c := 83) (kd := 112) (n := 0) rfl (by decide)) (lro (c := 83) (k := 19) (j := 89) (by decide)) (i3 c_261_74 rfl (i52 (v := τ 89 x1) c_261_75 (lo (c := 89) (kd := 1) (n := 320) rfl (by decide)) (by decide) r1 rfl (i7 (L' := [.ref 83, .int (wI x1), .long (wJ (τ 89 x1)), .retAddr 0, .retAddr 0, .retAddr 0, .retAddr 0, .retAddr 0]) c_261_76 rfl (i5 c_261_77 rfl (i45 c_261_78 (lo (c := 83) (kd := 112) (n := 0) rfl (by decide)) (lro (c := 83) (k := 20) (j := 90) (by decide)) (i3 c_261_81 rfl (i52 (v := τ 90 x1) c_261_82 (lo (c := 90) (kd := 1) (n := 320) rfl (by decide)) (by decide) r1 rfl (i7 (L' := [.ref 83, .int (wI x1), .long (wJ (τ 89 x1)), .retAddr 0, .long (wJ (τ 90 x1)), .retAddr 0, .retAddr 0, .retAddr 0]) c_261_83 rfl t)))))))))
      · have t := iF t hc
        have ha5 : ¬ ((0 : Int) ≤ (τ 89 x1)) := hc
        refine i5 c_261_60 rfl (i45 c_261_61 (lo (c := 83) (kd := 112) (n := 0) rfl (by decide)) (lro (c := 83) (k := 19) (j := 89) (by decide)) (i3 c_261_64 rfl (i52 (v := τ 89 x1) c_261_65 (lo (c := 89) (kd := 1) (n := 320) rfl (by decide)) (by decide) r1 rfl (i29 c_261_66 (i38 c_261_67 rfl (i7 (L' := [.ref 83, .int (wI x1), .long (wJ (-(τ 89 x1))), .retAddr 0, .retAddr 0, .retAddr 0, .retAddr 0, .retAddr 0]) c_261_76 rfl (i5 c_261_77 rfl (i45 c_261_78 (lo (c := 83) (kd := 112) (n := 0) rfl (by decide)) (lro (c := 83) (k := 20) (j := 90) (by decide)) (i3 c_261_81 rfl (i52 (v := τ 90 x1) c_261_82 (lo (c := 90) (kd := 1) (n := 320) rfl (by decide)) (by decide) r1 rfl (i7 (L' := [.ref 83, .int (wI x1), .long (wJ (-(τ 89 x1))), .retAddr 0, .long (wJ (τ 90 x1)), .retAddr 0, .retAddr 0, .retAddr 0]) c_261_83 rfl t)))))))))))
    · have t := iF t hc
      have ha4 : ¬ ((0 : Int) ≤ (τ 90 x1)) := hc
      obtain ⟨w6, e7, r8, t⟩ := t
      refine i5 c_261_23 rfl (i45 c_261_24 (lo (c := 83) (kd := 112) (n := 0) rfl (by decide)) (lro (c := 83) (k := 20) (j := 90) (by decide)) (i3 c_261_27 rfl (i5 c_261_28 rfl (i45 c_261_29 (lo (c := 83) (kd := 112) (n := 0) rfl (by decide)) (lro (c := 83) (k := 20) (j := 90) (by decide)) (i3 c_261_32 rfl (i52 (v := τ 90 x1) c_261_33 (lo (c := 90) (kd := 1) (n := 320) rfl (by decide)) (by decide) r1 rfl (i29 c_261_34 (i56 (τ1 := uc τ 90 (u1 (τ 90) x1 w6)) c_261_35 (lo (c := 90) (kd := 1) (n := 320) rfl (by decide)) (by decide) r1 e7 r8 (wr_ rfl rfl) (i5 c_261_36 rfl (i45 c_261_37 (lo (c := 83) (kd := 112) (n := 0) rfl (by decide)) (lro (c := 83) (k := 19) (j := 89) (by decide)) (i3 c_261_40 rfl (i5 c_261_41 rfl (i45 c_261_42 (lo (c := 83) (kd := 112) (n := 0) rfl (by decide)) (lro (c := 83) (k := 19) (j := 89) (by decide)) (i3 c_261_45 rfl (wi_ok (fun K9 => ?_))))))))))))))))
      obtain ⟨w10, e11, r12, t⟩ := t
      refine i52 (v := τ 89 x1) c_261_46 (lo (c := 89) (kd := 1) (n := 320) rfl (by decide)) (by decide) r1 (congrFun (uc_ns rfl (by decide)) _) (i29 c_261_47 (i56 (τ1 := uc (uc τ 90 (u1 (τ 90) x1 w6)) 89 (u1 (τ 89) x1 w10)) c_261_48 (lo (c := 89) (kd := 1) (n := 320) rfl (by decide)) (by decide) r1 e11 r12 (wr_ (uc_ns rfl (by decide)) rfl) (i5 c_261_49 rfl (i45 c_261_50 (lo (c := 83) (kd := 112) (n := 0) rfl (by decide)) (lro (c := 83) (k := 19) (j := 89) (by decide)) (i3 c_261_53 rfl (wi_ok (fun K13 => ?_)))))))
      refine i52 (v := w10) c_261_54 (lo (c := 89) (kd := 1) (n := 320) rfl (by decide)) (by decide) r1 ((congrFun (uc_s _ _ _) _).trans (u1_s _ _ _)) (i2 c_261_55 (i28 c_261_56 ?_))
      refine i36l c_261_57 r12 (by decide) rfl (fun hc => ?_) (fun hc => ?_)
      · have t := iT t hc
        have ha14 : (0 : Int) ≤ w10 := hc
        refine i5 c_261_70 rfl (i45 c_261_71 (lo (c := 83) (kd := 112) (n := 0) rfl (by decide)) (lro (c := 83) (k := 19) (j := 89) (by decide)) (i3 c_261_74 rfl (i52 (v := w10) c_261_75 (lo (c := 89) (kd := 1) (n := 320) rfl (by decide)) (by decide) r1 ((congrFun (uc_s _ _ _) _).trans (u1_s _ _ _)) (i7 (L' := [.ref 83, .int (wI x1), .long (wJ w10), .retAddr 0, .retAddr 0, .retAddr 0, .retAddr 0, .retAddr 0]) c_261_76 rfl (i5 c_261_77 rfl (i45 c_261_78 (lo (c := 83) (kd := 112) (n := 0) rfl (by decide)) (lro (c := 83) (k := 20) (j := 90) (by decide)) (i3 c_261_81 rfl (i52 (v := w6) c_261_82 (lo (c := 90) (kd := 1) (n := 320) rfl (by decide)) (by decide) r1 ((congrFun (uc_ns (uc_s _ _ _) (by decide)) _).trans (u1_s _ _ _)) (i7 (L' := [.ref 83, .int (wI x1), .long (wJ w10), .retAddr 0, .long (wJ w6), .retAddr 0, .retAddr 0, .retAddr 0]) c_261_83 rfl t)))))))))
      · have t := iF t hc
        have ha14 : ¬ ((0 : Int) ≤ w10) := hc
        refine i5 c_261_60 rfl (i45 c_261_61 (lo (c := 83) (kd := 112) (n := 0) rfl (by decide)) (lro (c := 83) (k := 19) (j := 89) (by decide)) (i3 c_261_64 rfl (i52 (v := w10) c_261_65 (lo (c := 89) (kd := 1) (n := 320) rfl (by decide)) (by decide) r1 ((congrFun (uc_s _ _ _) _).trans (u1_s _ _ _)) (i29 c_261_66 (i38 c_261_67 rfl (i7 (L' := [.ref 83, .int (wI x1), .long (wJ (-w10)), .retAddr 0, .retAddr 0, .retAddr 0, .retAddr 0, .retAddr 0]) c_261_76 rfl (i5 c_261_77 rfl (i45 c_261_78 (lo (c := 83) (kd := 112) (n := 0) rfl (by decide)) (lro (c := 83) (k := 20) (j := 90) (by decide)) (i3 c_261_81 rfl (i52 (v := w6) c_261_82 (lo (c := 90) (kd := 1) (n := 320) rfl (by decide)) (by decide) r1 ((congrFun (uc_ns (uc_s _ _ _) (by decide)) _).trans (u1_s _ _ _)) (i7 (L' := [.ref 83, .int (wI x1), .long (wJ (-w10)), .retAddr 0, .long (wJ w6), .retAddr 0, .retAddr 0, .retAddr 0]) c_261_83 rfl t)))))))))))
  · have t := iT t (Decidable.not_not.mp hc)
    have ha3 : (τ 90 x1) = 0 := Decidable.not_not.mp hc
    exact i94 c_261_11 t
set_option maxRecDepth 20000 in
theorem u_261_85 {d : Nat} {S : zS} {σ τ : zI} {Q : zQ} {x1 : Int} {x2 : Int} {x4 : Int} {y6 : Value} {y7 : Value} (t : (rj x4) ∧ if x4 = 0 then ((rj x2) ∧ if x2 ≤ 1 then ((0 ≤ x1 ∧ x1 < 320) ∧ if (1000000000 : Int) < (τ 89 x1) then (Q none S σ (uc τ 90 (u1 (τ 90) x1 0))) else (if (τ 89 x1) < (-1000000000) then (Q none S σ (uc τ 90 (u1 (τ 90) x1 0))) else (if (τ 90 x1) ≤ 1000000000 then (Q none S σ τ) else (Q none S σ (uc τ 90 (u1 (τ 90) x1 0)))))) else ((0 ≤ x1 ∧ x1 < 320) ∧ (x2 ≠ 0) ∧ ∃ w13 : Int, wJ w13 = wJ (Int.tdiv (τ 89 x1) x2) ∧ rj w13 ∧ (x2 ≠ 0) ∧ ∃ w18 : Int, wJ w18 = wJ (Int.tdiv (τ 90 x1) x2) ∧ rj w18 ∧ if (1000000000 : Int) < w13 then (Q none S σ (uc (uc τ 89 (u1 (τ 89) x1 w13)) 90 (u1 (u1 (τ 90) x1 w18) x1 0))) else (if w13 < (-1000000000) then (Q none S σ (uc (uc τ 89 (u1 (τ 89) x1 w13)) 90 (u1 (u1 (τ 90) x1 w18) x1 0))) else (if w18 ≤ 1000000000 then (Q none S σ (uc (uc τ 89 (u1 (τ 89) x1 w13)) 90 (u1 (τ 90) x1 w18))) else (Q none S σ (uc (uc τ 89 (u1 (τ 89) x1 w13)) 90 (u1 (u1 (τ 90) x1 w18) x1 0))))))) else ((rj x2) ∧ (x4 ≠ 0) ∧ wi (d + 1) 261 85 [.ref 83, .int (wI x1), .long (wJ x4), .retAddr 0, .long (wJ (Int.tmod x2 x4)), .retAddr 0, .long (wJ (Int.tmod x2 x4)), .retAddr 0] [] S σ τ Q)) : wi (d + 1) 261 85 [.ref 83, .int (wI x1), .long (wJ x2), .retAddr 0, .long (wJ x4), .retAddr 0, y6, y7] [] S σ τ Q := by
  obtain ⟨r1, t⟩ := t
  refine i4 c_261_85 rfl (i2 c_261_87 (i28 c_261_88 ?_))
  refine i36l c_261_89 r1 (by decide) rfl (fun hc => ?_) (fun hc => ?_)
  · have t := iT t hc
    have ha2 : x4 = 0 := hc
    obtain ⟨r3, t⟩ := t
    refine i4 c_261_108 rfl (i2 c_261_109 (i28 c_261_110 ?_))
    refine i36l c_261_111 r3 (by decide) rfl (fun hc => ?_) (fun hc => ?_)
    · have t := iT t hc
      have ha4 : x2 ≤ 1 := hc
      obtain ⟨r5, t⟩ := t
      refine i5 c_261_134 rfl (i45 c_261_135 (lo (c := 83) (kd := 112) (n := 0) rfl (by decide)) (lro (c := 83) (k := 19) (j := 89) (by decide)) (i3 c_261_138 rfl (wi_ok (fun K6 => ?_))))
      refine i52 (v := τ 89 x1) c_261_139 (lo (c := 89) (kd := 1) (n := 320) rfl (by decide)) (by decide) r5 rfl (i2 c_261_140 (i28 c_261_143 ?_))
      refine i36l c_261_144 (rje_ K6 rfl) (by decide) rfl (fun hc => ?_) (fun hc => ?_)
      · have t := iT t hc
        have ha7 : (1000000000 : Int) < (τ 89 x1) := hc
        refine i5 c_261_173 rfl (i45 c_261_174 (lo (c := 83) (kd := 112) (n := 0) rfl (by decide)) (lro (c := 83) (k := 20) (j := 90) (by decide)) (i3 c_261_177 rfl (i2 c_261_178 (i56 (τ1 := uc τ 90 (u1 (τ 90) x1 0)) c_261_179 (lo (c := 90) (kd := 1) (n := 320) rfl (by decide)) (by decide) r5 rfl (by decide) (wr_ rfl rfl) ?_))))
        exact i94 c_261_180 t
      · have t := iF t hc
        have ha7 : ¬ ((1000000000 : Int) < (τ 89 x1)) := hc
        refine i5 c_261_147 rfl (i45 c_261_148 (lo (c := 83) (kd := 112) (n := 0) rfl (by decide)) (lro (c := 83) (k := 19) (j := 89) (by decide)) (i3 c_261_151 rfl (i52 (v := τ 89 x1) c_261_152 (lo (c := 89) (kd := 1) (n := 320) rfl (by decide)) (by decide) r5 rfl (i2 c_261_153 (i28 c_261_156 ?_)))))
        refine i36l c_261_157 (rje_ K6 rfl) (by decide) rfl (fun hc => ?_) (fun hc => ?_)
        · have t := iT t hc
          have ha8 : (τ 89 x1) < (-1000000000) := hc
          refine i5 c_261_173 rfl (i45 c_261_174 (lo (c := 83) (kd := 112) (n := 0) rfl (by decide)) (lro (c := 83) (k := 20) (j := 90) (by decide)) (i3 c_261_177 rfl (i2 c_261_178 (i56 (τ1 := uc τ 90 (u1 (τ 90) x1 0)) c_261_179 (lo (c := 90) (kd := 1) (n := 320) rfl (by decide)) (by decide) r5 rfl (by decide) (wr_ rfl rfl) ?_))))
          exact i94 c_261_180 t
        · have t := iF t hc
          have ha8 : ¬ ((τ 89 x1) < (-1000000000)) := hc
          refine i5 c_261_160 rfl (i45 c_261_161 (lo (c := 83) (kd := 112) (n := 0) rfl (by decide)) (lro (c := 83) (k := 20) (j := 90) (by decide)) (i3 c_261_164 rfl (i52 (v := τ 90 x1) c_261_165 (lo (c := 90) (kd := 1) (n := 320) rfl (by decide)) (by decide) r5 rfl (i2 c_261_166 (i28 c_261_169 ?_)))))
          refine i36l c_261_170 (rje_ K6 rfl) (by decide) rfl (fun hc => ?_) (fun hc => ?_)
          · have t := iT t hc
            have ha9 : (τ 90 x1) ≤ 1000000000 := hc
            exact i94 c_261_180 t
          · have t := iF t hc
            have ha9 : ¬ ((τ 90 x1) ≤ 1000000000) := hc
            refine i5 c_261_173 rfl (i45 c_261_174 (lo (c := 83) (kd := 112) (n := 0) rfl (by decide)) (lro (c := 83) (k := 20) (j := 90) (by decide)) (i3 c_261_177 rfl (i2 c_261_178 (i56 (τ1 := uc τ 90 (u1 (τ 90) x1 0)) c_261_179 (lo (c := 90) (kd := 1) (n := 320) rfl (by decide)) (by decide) r5 rfl (by decide) (wr_ rfl rfl) ?_))))
            exact i94 c_261_180 t
    · have t := iF t hc
      have ha4 : ¬ (x2 ≤ 1) := hc
      obtain ⟨r10, t⟩ := t
      refine i5 c_261_114 rfl (i45 c_261_115 (lo (c := 83) (kd := 112) (n := 0) rfl (by decide)) (lro (c := 83) (k := 19) (j := 89) (by decide)) (i3 c_261_118 rfl (i34a c_261_119 (wi_ok (fun K11 => ?_)))))
      obtain ⟨y12, t⟩ := t
      obtain ⟨w13, e14, r15, t⟩ := t
      refine i52 (v := τ 89 x1) c_261_120 (lo (c := 89) (kd := 1) (n := 320) rfl (by decide)) (by decide) r10 rfl (i4 c_261_121 rfl (i26 c_261_122 (rje_ K11 rfl) r3 y12 (i56 (τ1 := uc τ 89 (u1 (τ 89) x1 w13)) c_261_123 (lo (c := 89) (kd := 1) (n := 320) rfl (by decide)) (by decide) r10 e14 r15 (wr_ rfl rfl) (i5 c_261_124 rfl (i45 c_261_125 (lo (c := 83) (kd := 112) (n := 0) rfl (by decide)) (lro (c := 83) (k := 20) (j := 90) (by decide)) (i3 c_261_128 rfl (i34a c_261_129 (wi_ok (fun K16 => ?_)))))))))
      obtain ⟨y17, t⟩ := t
      obtain ⟨w18, e19, r20, t⟩ := t
      refine i52 (v := τ 90 x1) c_261_130 (lo (c := 90) (kd := 1) (n := 320) rfl (by decide)) (by decide) r10 (congrFun (uc_ns rfl (by decide)) _) (i4 c_261_131 rfl (i26 c_261_132 (rje_ K16 (congrFun (uc_ns rfl (by decide)) _)) r3 y17 (i56 (τ1 := uc (uc τ 89 (u1 (τ 89) x1 w13)) 90 (u1 (τ 90) x1 w18)) c_261_133 (lo (c := 90) (kd := 1) (n := 320) rfl (by decide)) (by decide) r10 e19 r20 (wr_ (uc_ns rfl (by decide)) rfl) (i5 c_261_134 rfl (i45 c_261_135 (lo (c := 83) (kd := 112) (n := 0) rfl (by decide)) (lro (c := 83) (k := 19) (j := 89) (by decide)) (i3 c_261_138 rfl (wi_ok (fun K21 => ?_))))))))
      refine i52 (v := w13) c_261_139 (lo (c := 89) (kd := 1) (n := 320) rfl (by decide)) (by decide) r10 ((congrFun (uc_ns (uc_s _ _ _) (by decide)) _).trans (u1_s _ _ _)) (i2 c_261_140 (i28 c_261_143 ?_))
      refine i36l c_261_144 r15 (by decide) rfl (fun hc => ?_) (fun hc => ?_)
      · have t := iT t hc
        have ha22 : (1000000000 : Int) < w13 := hc
        refine i5 c_261_173 rfl (i45 c_261_174 (lo (c := 83) (kd := 112) (n := 0) rfl (by decide)) (lro (c := 83) (k := 20) (j := 90) (by decide)) (i3 c_261_177 rfl (i2 c_261_178 (i56 (τ1 := uc (uc τ 89 (u1 (τ 89) x1 w13)) 90 (u1 (u1 (τ 90) x1 w18) x1 0)) c_261_179 (lo (c := 90) (kd := 1) (n := 320) rfl (by decide)) (by decide) r10 rfl (by decide) (wr_ (uc_s _ _ _) (uc_uc _ _ _ _)) ?_))))
        exact i94 c_261_180 t
      · have t := iF t hc
        have ha22 : ¬ ((1000000000 : Int) < w13) := hc
        refine i5 c_261_147 rfl (i45 c_261_148 (lo (c := 83) (kd := 112) (n := 0) rfl (by decide)) (lro (c := 83) (k := 19) (j := 89) (by decide)) (i3 c_261_151 rfl (i52 (v := w13) c_261_152 (lo (c := 89) (kd := 1) (n := 320) rfl (by decide)) (by decide) r10 ((congrFun (uc_ns (uc_s _ _ _) (by decide)) _).trans (u1_s _ _ _)) (i2 c_261_153 (i28 c_261_156 ?_)))))
        refine i36l c_261_157 r15 (by decide) rfl (fun hc => ?_) (fun hc => ?_)
        · have t := iT t hc
          have ha23 : w13 < (-1000000000) := hc
          refine i5 c_261_173 rfl (i45 c_261_174 (lo (c := 83) (kd := 112) (n := 0) rfl (by decide)) (lro (c := 83) (k := 20) (j := 90) (by decide)) (i3 c_261_177 rfl (i2 c_261_178 (i56 (τ1 := uc (uc τ 89 (u1 (τ 89) x1 w13)) 90 (u1 (u1 (τ 90) x1 w18) x1 0)) c_261_179 (lo (c := 90) (kd := 1) (n := 320) rfl (by decide)) (by decide) r10 rfl (by decide) (wr_ (uc_s _ _ _) (uc_uc _ _ _ _)) ?_))))
          exact i94 c_261_180 t
        · have t := iF t hc
          have ha23 : ¬ (w13 < (-1000000000)) := hc
          refine i5 c_261_160 rfl (i45 c_261_161 (lo (c := 83) (kd := 112) (n := 0) rfl (by decide)) (lro (c := 83) (k := 20) (j := 90) (by decide)) (i3 c_261_164 rfl (i52 (v := w18) c_261_165 (lo (c := 90) (kd := 1) (n := 320) rfl (by decide)) (by decide) r10 ((congrFun (uc_s _ _ _) _).trans (u1_s _ _ _)) (i2 c_261_166 (i28 c_261_169 ?_)))))
          refine i36l c_261_170 r20 (by decide) rfl (fun hc => ?_) (fun hc => ?_)
          · have t := iT t hc
            have ha24 : w18 ≤ 1000000000 := hc
            exact i94 c_261_180 t
          · have t := iF t hc
            have ha24 : ¬ (w18 ≤ 1000000000) := hc
            refine i5 c_261_173 rfl (i45 c_261_174 (lo (c := 83) (kd := 112) (n := 0) rfl (by decide)) (lro (c := 83) (k := 20) (j := 90) (by decide)) (i3 c_261_177 rfl (i2 c_261_178 (i56 (τ1 := uc (uc τ 89 (u1 (τ 89) x1 w13)) 90 (u1 (u1 (τ 90) x1 w18) x1 0)) c_261_179 (lo (c := 90) (kd := 1) (n := 320) rfl (by decide)) (by decide) r10 rfl (by decide) (wr_ (uc_s _ _ _) (uc_uc _ _ _ _)) ?_))))
            exact i94 c_261_180 t
  · have t := iF t hc
    have ha2 : ¬ (x4 = 0) := hc
    obtain ⟨r25, t⟩ := t
    obtain ⟨y26, t⟩ := t
    refine i4 c_261_92 rfl (i4 c_261_93 rfl (i27 c_261_95 r25 r1 y26 (i7 (L' := [.ref 83, .int (wI x1), .long (wJ x2), .retAddr 0, .long (wJ x4), .retAddr 0, .long (wJ (Int.tmod x2 x4)), .retAddr 0]) c_261_96 rfl (i4 c_261_98 rfl (i7 (L' := [.ref 83, .int (wI x1), .long (wJ x4), .retAddr 0, .long (wJ x4), .retAddr 0, .long (wJ (Int.tmod x2 x4)), .retAddr 0]) c_261_100 rfl (i4 c_261_101 rfl (i7 (L' := [.ref 83, .int (wI x1), .long (wJ x4), .retAddr 0, .long (wJ (Int.tmod x2 x4)), .retAddr 0, .long (wJ (Int.tmod x2 x4)), .retAddr 0]) c_261_103 rfl (i38 c_261_105 rfl t))))))))
theorem q_261 {d : Nat} {S : zS} {σ τ : zI} {Q : zQ} {k : Int} (p0 : 0 ≤ k ∧ k < 320) (p1 : -2000000000000000000 ≤ τ 89 k ∧ τ 89 k ≤ 2000000000000000000) (p2 : -2000000000000000000 ≤ τ 90 k ∧ τ 90 k ≤ 2000000000000000000) (t : ∀ (U : Int) (L : Int), L = (red (τ 89 k) (τ 90 k)).2 → (L ≠ 0 → U = (red (τ 89 k) (τ 90 k)).1) → Q none S σ (uc (uc τ 89 (u1 (τ 89) k U)) 90 (u1 (τ 90) k L))) : wc (d + 1) 261 [.ref 83, .int (wI k)] S σ τ Q := by
  have loop : ∀ τ' : zI, ∀ n m : Nat, (m : Int) ≤ 9000000000000000000 → (n : Int) ≤ 9000000000000000000 → (∀ y y', wi (d + 1) 261 85 [.ref 83, .int (wI k), .long (wJ ((Nat.gcd m n : Nat) : Int)), .retAddr 0, .long (wJ 0), .retAddr 0, y, y'] [] S σ τ' Q) → ∀ y y', wi (d + 1) 261 85 [.ref 83, .int (wI k), .long (wJ (m : Int)), .retAddr 0, .long (wJ (n : Int)), .retAddr 0, y, y'] [] S σ τ' Q := by
    intro τ' n
    induction n using Nat.strongRecOn with
    | ind n ih =>
      intro m hm hn h y y'
      by_cases e : n = 0
      · subst e
        rw [Nat.gcd_zero_right] at h
        exact h y y'
      · refine u_261_85 ⟨by omega, ?_⟩
        rw [if_neg (by omega)]
        refine ⟨by omega, by omega, ?_⟩
        have ml := Nat.mod_lt m (show n > 0 by omega)
        have r := ih (m % n) ml n hn (by omega) (by rw [Nat.gcd_comm n (m % n), ← Nat.gcd_rec n m, Nat.gcd_comm n m]; exact h)
        rw [show Int.tmod (m : Int) (n : Int) = ((m % n : Nat) : Int) from rfl]
        exact r _ _
  have fin : ∀ τ' : zI, 0 < τ' 90 k → τ' 90 k ≤ 9000000000000000000 → -9000000000000000000 ≤ τ' 89 k ∧ τ' 89 k ≤ 9000000000000000000 → (∀ U L, L = (red (τ' 89 k) (τ' 90 k)).2 → (L ≠ 0 → U = (red (τ' 89 k) (τ' 90 k)).1) → Q none S σ (uc (uc τ' 89 (u1 (τ' 89) k U)) 90 (u1 (τ' 90) k L))) → ∀ y y', wi (d + 1) 261 85 [.ref 83, .int (wI k), .long (wJ ((Nat.gcd (τ' 89 k).natAbs (τ' 90 k).natAbs : Nat) : Int)), .retAddr 0, .long (wJ 0), .retAddr 0, y, y'] [] S σ τ' Q := by
    intro τ' h0 h1 h2 t y y'
    have rp := red_p (x := τ' 89 k) (y := τ' 90 k) h0 rfl
    have gp : 0 < Nat.gcd (τ' 89 k).natAbs (τ' 90 k).natAbs := Nat.gcd_pos_of_pos_right _ (by omega)
    have gl : Nat.gcd (τ' 89 k).natAbs (τ' 90 k).natAbs ≤ (τ' 90 k).natAbs := Nat.le_of_dvd (by omega) (Nat.gcd_dvd_right _ _)
    rw [rp] at t
    generalize Nat.gcd (τ' 89 k).natAbs (τ' 90 k).natAbs = g at *
    refine u_261_85 ⟨by omega, ?_⟩
    rw [if_pos rfl]
    refine ⟨by omega, ?_⟩
    refine ifI (fun e => ?_) (fun e => ?_)
    · have e1 : (g : Int) = 1 := by omega
      rw [e1, Int.tdiv_one, Int.tdiv_one] at t
      have lost : (τ' 89 k > 1000000000 ∨ τ' 89 k < -1000000000 ∨ τ' 90 k > 1000000000) → Q none S σ (uc τ' 90 (u1 (τ' 90) k 0)) := fun h => by
        rw [if_pos h] at t
        have := t (τ' 89 k) 0 rfl (fun h => absurd rfl h)
        rw [u1_id, uc_id] at this
        exact this
      refine ⟨p0, ?_⟩
      refine ifI (fun e2 => lost (Or.inl e2)) (fun e2 => ?_)
      refine ifI (fun e3 => lost (Or.inr (Or.inl e3))) (fun e3 => ?_)
      refine ifI (fun e4 => ?_) (fun e4 => lost (Or.inr (Or.inr (by omega))))
      rw [if_neg (by omega)] at t
      have := t (τ' 89 k) (τ' 90 k) rfl (fun _ => rfl)
      rw [u1_id, uc_id, u1_id, uc_id] at this
      exact this
    · have a1 := Int.natAbs_tdiv_le_natAbs (τ' 89 k) g
      have a2 := Int.natAbs_tdiv_le_natAbs (τ' 90 k) g
      have lost : ((τ' 89 k).tdiv g > 1000000000 ∨ (τ' 89 k).tdiv g < -1000000000 ∨ (τ' 90 k).tdiv g > 1000000000) → Q none S σ (uc (uc τ' 89 (u1 (τ' 89) k ((τ' 89 k).tdiv g))) 90 (u1 (u1 (τ' 90) k ((τ' 90 k).tdiv g)) k 0)) := fun h => by
        rw [if_pos h] at t
        have := t ((τ' 89 k).tdiv g) 0 rfl (fun h => absurd rfl h)
        rw [u1_u1]
        exact this
      refine ⟨p0, by omega, _, rfl, by omega, by omega, _, rfl, by omega, ?_⟩
      refine ifI (fun e2 => lost (Or.inl e2)) (fun e2 => ?_)
      refine ifI (fun e3 => lost (Or.inr (Or.inl e3))) (fun e3 => ?_)
      refine ifI (fun e4 => ?_) (fun e4 => lost (Or.inr (Or.inr (by omega))))
      rw [if_neg (by omega)] at t
      exact t _ _ rfl (fun _ => rfl)
  refine wc_of mi_261 rfl (u_261_0 ⟨p0, ?_⟩)
  refine ifI (fun e => ?_) (fun e => ?_)
  · have := t (τ 89 k) (τ 90 k) (by rw [e]; rfl) (fun h => absurd e h)
    rw [u1_id, uc_id, u1_id, uc_id] at this
    exact this
  · refine ifI (fun e2 => ?_) (fun e2 => ?_)
    · have f := loop τ (τ 90 k).natAbs (τ 89 k).natAbs (by omega) (by omega) (fin τ (by omega) (by omega) (by omega) t)
      rw [show ((τ 90 k).natAbs : Int) = τ 90 k by omega] at f
      refine ifI (fun e3 => ?_) (fun e3 => ?_)
      · rw [show ((τ 89 k).natAbs : Int) = τ 89 k by omega] at f
        exact f _ _
      · rw [show ((τ 89 k).natAbs : Int) = -(τ 89 k) by omega] at f
        exact f _ _
    · refine ⟨_, rfl, by omega, _, rfl, by omega, ?_⟩
      have v89 : (uc (uc τ 90 (u1 (τ 90) k (-(τ 90 k)))) 89 (u1 (τ 89) k (-(τ 89 k)))) 89 k = -(τ 89 k) := by rw [uc_s, u1_s]
      have v90 : (uc (uc τ 90 (u1 (τ 90) k (-(τ 90 k)))) 89 (u1 (τ 89) k (-(τ 89 k)))) 90 k = -(τ 90 k) := by rw [uc_n (by decide), uc_s, u1_s]
      have f := fin (uc (uc τ 90 (u1 (τ 90) k (-(τ 90 k)))) 89 (u1 (τ 89) k (-(τ 89 k)))) (by rw [v90]; omega) (by rw [v90]; omega) (by rw [v89]; omega) (fun U L h1 h2 => by
        rw [v89, v90, red_neg] at h1 h2
        have := t U L h1 h2
        rw [show uc (uc τ 89 (u1 (τ 89) k U)) 90 (u1 (τ 90) k L) = uc (uc τ 90 (u1 (τ 90) k L)) 89 (u1 (τ 89) k U) from uc_cm rfl (by decide)] at this
        rw [uc_s, u1_u1, uc_uc, uc_n (show (90 : Nat) ≠ 89 by decide), uc_s, u1_u1, uc_cm (uc_uc τ 90 _ _) (by decide)]
        exact this)
      rw [v89, v90] at f
      have f := loop _ (τ 90 k).natAbs (τ 89 k).natAbs (by omega) (by omega) (by rw [Int.natAbs_neg, Int.natAbs_neg] at f; exact f)
      rw [show ((τ 90 k).natAbs : Int) = -(τ 90 k) by omega] at f
      refine ifI (fun e3 => ?_) (fun e3 => ?_)
      · rw [show ((τ 89 k).natAbs : Int) = -(τ 89 k) by omega] at f
        exact f _ _
      · rw [show ((τ 89 k).natAbs : Int) = - -(τ 89 k) by omega] at f
        exact f _ _
