/-! ===== the reference: FRACTIONS, SUMS, PAY (segments printed by wip/whole, contracts own work) ===== -/
-- method 261: MillTownModel.small(I)V
theorem c_261_0 : pg_cd 261 0 = (5, 1, 0, 0, 0) := by decide +kernel
theorem c_261_1 : pg_cd 261 1 = (45, 12, 37, 20, 0) := by decide +kernel
theorem c_261_4 : pg_cd 261 4 = (3, 1, 0, 1, 0) := by decide +kernel
theorem c_261_5 : pg_cd 261 5 = (52, 1, 0, 0, 0) := by decide +kernel
theorem c_261_6 : pg_cd 261 6 = (2, 1, 0, 0, 0) := by decide +kernel
theorem c_261_7 : pg_cd 261 7 = (28, 1, 0, 0, 0) := by decide +kernel
theorem c_261_8 : pg_cd 261 8 = (36, 3, 0, 1, 4) := by decide +kernel
theorem c_261_11 : pg_cd 261 11 = (94, 0, 0, 0, 0) := by decide +kernel
theorem c_261_12 : pg_cd 261 12 = (5, 1, 0, 0, 0) := by decide +kernel
theorem c_261_13 : pg_cd 261 13 = (45, 12, 37, 20, 0) := by decide +kernel
theorem c_261_16 : pg_cd 261 16 = (3, 1, 0, 1, 0) := by decide +kernel
theorem c_261_17 : pg_cd 261 17 = (52, 1, 0, 0, 0) := by decide +kernel
theorem c_261_18 : pg_cd 261 18 = (2, 1, 0, 0, 0) := by decide +kernel
theorem c_261_19 : pg_cd 261 19 = (28, 1, 0, 0, 0) := by decide +kernel
theorem c_261_20 : pg_cd 261 20 = (36, 3, 0, 3, 29) := by decide +kernel
theorem c_261_23 : pg_cd 261 23 = (5, 1, 0, 0, 0) := by decide +kernel
theorem c_261_24 : pg_cd 261 24 = (45, 12, 37, 20, 0) := by decide +kernel
theorem c_261_27 : pg_cd 261 27 = (3, 1, 0, 1, 0) := by decide +kernel
theorem c_261_28 : pg_cd 261 28 = (5, 1, 0, 0, 0) := by decide +kernel
theorem c_261_29 : pg_cd 261 29 = (45, 12, 37, 20, 0) := by decide +kernel
theorem c_261_32 : pg_cd 261 32 = (3, 1, 0, 1, 0) := by decide +kernel
theorem c_261_33 : pg_cd 261 33 = (52, 1, 0, 0, 0) := by decide +kernel
theorem c_261_34 : pg_cd 261 34 = (29, 1, 0, 0, 0) := by decide +kernel
theorem c_261_35 : pg_cd 261 35 = (56, 1, 0, 0, 0) := by decide +kernel
theorem c_261_36 : pg_cd 261 36 = (5, 1, 0, 0, 0) := by decide +kernel
theorem c_261_37 : pg_cd 261 37 = (45, 12, 33, 19, 0) := by decide +kernel
theorem c_261_40 : pg_cd 261 40 = (3, 1, 0, 1, 0) := by decide +kernel
theorem c_261_41 : pg_cd 261 41 = (5, 1, 0, 0, 0) := by decide +kernel
theorem c_261_42 : pg_cd 261 42 = (45, 12, 33, 19, 0) := by decide +kernel
theorem c_261_45 : pg_cd 261 45 = (3, 1, 0, 1, 0) := by decide +kernel
theorem c_261_46 : pg_cd 261 46 = (52, 1, 0, 0, 0) := by decide +kernel
theorem c_261_47 : pg_cd 261 47 = (29, 1, 0, 0, 0) := by decide +kernel
theorem c_261_48 : pg_cd 261 48 = (56, 1, 0, 0, 0) := by decide +kernel
theorem c_261_49 : pg_cd 261 49 = (5, 1, 0, 0, 0) := by decide +kernel
theorem c_261_50 : pg_cd 261 50 = (45, 12, 33, 19, 0) := by decide +kernel
theorem c_261_53 : pg_cd 261 53 = (3, 1, 0, 1, 0) := by decide +kernel
theorem c_261_54 : pg_cd 261 54 = (52, 1, 0, 0, 0) := by decide +kernel
theorem c_261_55 : pg_cd 261 55 = (2, 1, 0, 0, 0) := by decide +kernel
theorem c_261_56 : pg_cd 261 56 = (28, 1, 0, 0, 0) := by decide +kernel
theorem c_261_57 : pg_cd 261 57 = (36, 3, 0, 3, 13) := by decide +kernel
theorem c_261_60 : pg_cd 261 60 = (5, 1, 0, 0, 0) := by decide +kernel
theorem c_261_61 : pg_cd 261 61 = (45, 12, 33, 19, 0) := by decide +kernel
theorem c_261_64 : pg_cd 261 64 = (3, 1, 0, 1, 0) := by decide +kernel
theorem c_261_65 : pg_cd 261 65 = (52, 1, 0, 0, 0) := by decide +kernel
theorem c_261_66 : pg_cd 261 66 = (29, 1, 0, 0, 0) := by decide +kernel
theorem c_261_67 : pg_cd 261 67 = (38, 3, 0, 0, 9) := by decide +kernel
theorem c_261_70 : pg_cd 261 70 = (5, 1, 0, 0, 0) := by decide +kernel
theorem c_261_71 : pg_cd 261 71 = (45, 12, 33, 19, 0) := by decide +kernel
theorem c_261_74 : pg_cd 261 74 = (3, 1, 0, 1, 0) := by decide +kernel
theorem c_261_75 : pg_cd 261 75 = (52, 1, 0, 0, 0) := by decide +kernel
theorem c_261_76 : pg_cd 261 76 = (7, 1, 0, 2, 0) := by decide +kernel
theorem c_261_77 : pg_cd 261 77 = (5, 1, 0, 0, 0) := by decide +kernel
theorem c_261_78 : pg_cd 261 78 = (45, 12, 37, 20, 0) := by decide +kernel
theorem c_261_81 : pg_cd 261 81 = (3, 1, 0, 1, 0) := by decide +kernel
theorem c_261_82 : pg_cd 261 82 = (52, 1, 0, 0, 0) := by decide +kernel
theorem c_261_83 : pg_cd 261 83 = (7, 2, 0, 4, 0) := by decide +kernel
theorem c_261_85 : pg_cd 261 85 = (4, 2, 0, 4, 0) := by decide +kernel
theorem c_261_87 : pg_cd 261 87 = (2, 1, 0, 0, 0) := by decide +kernel
theorem c_261_88 : pg_cd 261 88 = (28, 1, 0, 0, 0) := by decide +kernel
theorem c_261_89 : pg_cd 261 89 = (36, 3, 0, 0, 19) := by decide +kernel
theorem c_261_92 : pg_cd 261 92 = (4, 1, 0, 2, 0) := by decide +kernel
theorem c_261_93 : pg_cd 261 93 = (4, 2, 0, 4, 0) := by decide +kernel
theorem c_261_95 : pg_cd 261 95 = (27, 1, 0, 0, 0) := by decide +kernel
theorem c_261_96 : pg_cd 261 96 = (7, 2, 0, 6, 0) := by decide +kernel
theorem c_261_98 : pg_cd 261 98 = (4, 2, 0, 4, 0) := by decide +kernel
theorem c_261_100 : pg_cd 261 100 = (7, 1, 0, 2, 0) := by decide +kernel
theorem c_261_101 : pg_cd 261 101 = (4, 2, 0, 6, 0) := by decide +kernel
theorem c_261_103 : pg_cd 261 103 = (7, 2, 0, 4, 0) := by decide +kernel
theorem c_261_105 : pg_cd 261 105 = (38, 3, 0, 0, (-20)) := by decide +kernel
theorem c_261_108 : pg_cd 261 108 = (4, 1, 0, 2, 0) := by decide +kernel
theorem c_261_109 : pg_cd 261 109 = (2, 1, 0, 0, 1) := by decide +kernel
theorem c_261_110 : pg_cd 261 110 = (28, 1, 0, 0, 0) := by decide +kernel
theorem c_261_111 : pg_cd 261 111 = (36, 3, 0, 5, 23) := by decide +kernel
theorem c_261_114 : pg_cd 261 114 = (5, 1, 0, 0, 0) := by decide +kernel
theorem c_261_115 : pg_cd 261 115 = (45, 12, 33, 19, 0) := by decide +kernel
theorem c_261_118 : pg_cd 261 118 = (3, 1, 0, 1, 0) := by decide +kernel
theorem c_261_119 : pg_cd 261 119 = (34, 1, 0, 0, 0) := by decide +kernel
theorem c_261_120 : pg_cd 261 120 = (52, 1, 0, 0, 0) := by decide +kernel
theorem c_261_121 : pg_cd 261 121 = (4, 1, 0, 2, 0) := by decide +kernel
theorem c_261_122 : pg_cd 261 122 = (26, 1, 0, 0, 0) := by decide +kernel
theorem c_261_123 : pg_cd 261 123 = (56, 1, 0, 0, 0) := by decide +kernel
theorem c_261_124 : pg_cd 261 124 = (5, 1, 0, 0, 0) := by decide +kernel
theorem c_261_125 : pg_cd 261 125 = (45, 12, 37, 20, 0) := by decide +kernel
theorem c_261_128 : pg_cd 261 128 = (3, 1, 0, 1, 0) := by decide +kernel
theorem c_261_129 : pg_cd 261 129 = (34, 1, 0, 0, 0) := by decide +kernel
theorem c_261_130 : pg_cd 261 130 = (52, 1, 0, 0, 0) := by decide +kernel
theorem c_261_131 : pg_cd 261 131 = (4, 1, 0, 2, 0) := by decide +kernel
theorem c_261_132 : pg_cd 261 132 = (26, 1, 0, 0, 0) := by decide +kernel
theorem c_261_133 : pg_cd 261 133 = (56, 1, 0, 0, 0) := by decide +kernel
theorem c_261_134 : pg_cd 261 134 = (5, 1, 0, 0, 0) := by decide +kernel
theorem c_261_135 : pg_cd 261 135 = (45, 12, 33, 19, 0) := by decide +kernel
theorem c_261_138 : pg_cd 261 138 = (3, 1, 0, 1, 0) := by decide +kernel
theorem c_261_139 : pg_cd 261 139 = (52, 1, 0, 0, 0) := by decide +kernel
theorem c_261_140 : pg_cd 261 140 = (2, 3, 277, 0, 1000000000) := by decide +kernel
theorem c_261_143 : pg_cd 261 143 = (28, 1, 0, 0, 0) := by decide +kernel
theorem c_261_144 : pg_cd 261 144 = (36, 3, 0, 4, 29) := by decide +kernel
theorem c_261_147 : pg_cd 261 147 = (5, 1, 0, 0, 0) := by decide +kernel
theorem c_261_148 : pg_cd 261 148 = (45, 12, 33, 19, 0) := by decide +kernel
theorem c_261_151 : pg_cd 261 151 = (3, 1, 0, 1, 0) := by decide +kernel
theorem c_261_152 : pg_cd 261 152 = (52, 1, 0, 0, 0) := by decide +kernel
theorem c_261_153 : pg_cd 261 153 = (2, 3, 279, 0, (-1000000000)) := by decide +kernel
theorem c_261_156 : pg_cd 261 156 = (28, 1, 0, 0, 0) := by decide +kernel
theorem c_261_157 : pg_cd 261 157 = (36, 3, 0, 2, 16) := by decide +kernel
theorem c_261_160 : pg_cd 261 160 = (5, 1, 0, 0, 0) := by decide +kernel
theorem c_261_161 : pg_cd 261 161 = (45, 12, 37, 20, 0) := by decide +kernel
theorem c_261_164 : pg_cd 261 164 = (3, 1, 0, 1, 0) := by decide +kernel
theorem c_261_165 : pg_cd 261 165 = (52, 1, 0, 0, 0) := by decide +kernel
theorem c_261_166 : pg_cd 261 166 = (2, 3, 277, 0, 1000000000) := by decide +kernel
theorem c_261_169 : pg_cd 261 169 = (28, 1, 0, 0, 0) := by decide +kernel
theorem c_261_170 : pg_cd 261 170 = (36, 3, 0, 5, 10) := by decide +kernel
theorem c_261_173 : pg_cd 261 173 = (5, 1, 0, 0, 0) := by decide +kernel
theorem c_261_174 : pg_cd 261 174 = (45, 12, 37, 20, 0) := by decide +kernel
theorem c_261_177 : pg_cd 261 177 = (3, 1, 0, 1, 0) := by decide +kernel
theorem c_261_178 : pg_cd 261 178 = (2, 1, 0, 0, 0) := by decide +kernel
theorem c_261_179 : pg_cd 261 179 = (56, 1, 0, 0, 0) := by decide +kernel
theorem c_261_180 : pg_cd 261 180 = (94, 0, 0, 0, 0) := by decide +kernel
theorem mi_261 : pg_mc 261 = 12 ∧ pg_na 261 = 1 ∧ pg_mx 261 = 8 := by decide +kernel
set_option maxRecDepth 20000 in
theorem u_261_0 {d : Nat} {S : zS} {σ τ : zI} {Q : zQ} {x1 : Int} (t : (0 ≤ x1 ∧ x1 < 320) ∧ if (τ 90 x1) = 0 then (Q none S σ τ) else (if (0 : Int) ≤ (τ 90 x1) then (if (0 : Int) ≤ (τ 89 x1) then (wi (d + 1) 261 85 [.ref 83, .int (wI x1), .long (wJ (τ 89 x1)), .retAddr 0, .long (wJ (τ 90 x1)), .retAddr 0, .retAddr 0, .retAddr 0] [] S σ τ Q) else (wi (d + 1) 261 85 [.ref 83, .int (wI x1), .long (wJ (-(τ 89 x1))), .retAddr 0, .long (wJ (τ 90 x1)), .retAddr 0, .retAddr 0, .retAddr 0] [] S σ τ Q)) else (∃ w6 : Int, wJ w6 = wJ (-(τ 90 x1)) ∧ rj w6 ∧ ∃ w10 : Int, wJ w10 = wJ (-(τ 89 x1)) ∧ rj w10 ∧ if (0 : Int) ≤ w10 then (wi (d + 1) 261 85 [.ref 83, .int (wI x1), .long (wJ w10), .retAddr 0, .long (wJ w6), .retAddr 0, .retAddr 0, .retAddr 0] [] S σ (uc (uc τ 90 (u1 (τ 90) x1 w6)) 89 (u1 (τ 89) x1 w10)) Q) else (wi (d + 1) 261 85 [.ref 83, .int (wI x1), .long (wJ (-w10)), .retAddr 0, .long (wJ w6), .retAddr 0, .retAddr 0, .retAddr 0] [] S σ (uc (uc τ 90 (u1 (τ 90) x1 w6)) 89 (u1 (τ 89) x1 w10)) Q)))) : wi (d + 1) 261 0 [.ref 83, .int (wI x1), .retAddr 0, .retAddr 0, .retAddr 0, .retAddr 0, .retAddr 0, .retAddr 0] [] S σ τ Q := by
  obtain ⟨r1, t⟩ := t
  refine i5 c_261_0 rfl (i45 c_261_1 (lo (c := 83) (kd := 112) (n := 0) rfl (by decide)) (lro (c := 83) (k := 20) (j := 90) (by decide)) (i3 c_261_4 rfl (wi_ok (fun K2 => ?_))))
  refine i52 (v := τ 90 x1) c_261_5 (lo (c := 90) (kd := 1) (n := 320) rfl (by decide)) (by decide) r1 rfl (i2 c_261_6 (i28 c_261_7 ?_))
  refine i36l c_261_8 (rje_ K2 rfl) (by decide) rfl (fun hc => ?_) (fun hc => ?_)
  · have t := iF t hc
    have ha3 : ¬ ((τ 90 x1) = 0) := hc
    refine i5 c_261_12 rfl (i45 c_261_13 (lo (c := 83) (kd := 112) (n := 0) rfl (by decide)) (lro (c := 83) (k := 20) (j := 90) (by decide)) (i3 c_261_16 rfl (i52 (v := τ 90 x1) c_261_17 (lo (c := 90) (kd := 1) (n := 320) rfl (by decide)) (by decide) r1 rfl (i2 c_261_18 (i28 c_261_19 ?_)))))
    refine i36l c_261_20 (rje_ K2 rfl) (by decide) rfl (fun hc => ?_) (fun hc => ?_)
    · have t := iT t hc
      have ha4 : (0 : Int) ≤ (τ 90 x1) := hc
      refine i5 c_261_49 rfl (i45 c_261_50 (lo (c := 83) (kd := 112) (n := 0) rfl (by decide)) (lro (c := 83) (k := 19) (j := 89) (by decide)) (i3 c_261_53 rfl (i52 (v := τ 89 x1) c_261_54 (lo (c := 89) (kd := 1) (n := 320) rfl (by decide)) (by decide) r1 rfl (i2 c_261_55 (i28 c_261_56 ?_)))))
      refine i36l c_261_57 (rje_ K2 rfl) (by decide) rfl (fun hc => ?_) (fun hc => ?_)
      · have t := iT t hc
        have ha5 : (0 : Int) ≤ (τ 89 x1) := hc
        refine i5 c_261_70 rfl (i45 c_261_71 (lo (c := 83) (kd := 112) (n := 0) rfl (by decide)) (lro (c := 83) (k := 19) (j := 89) (by decide)) (i3 c_261_74 rfl (i52 (v := τ 89 x1) c_261_75 (lo (c := 89) (kd := 1) (n := 320) rfl (by decide)) (by decide) r1 rfl (i7 (L' := [.ref 83, .int (wI x1), .long (wJ (τ 89 x1)), .retAddr 0, .retAddr 0, .retAddr 0, .retAddr 0, .retAddr 0]) c_261_76 rfl (i5 c_261_77 rfl (i45 c_261_78 (lo (c := 83) (kd := 112) (n := 0) rfl (by decide)) (lro (c := 83) (k := 20) (j := 90) (by decide)) (i3 c_261_81 rfl (i52 (v := τ 90 x1) c_261_82 (lo (c := 90) (kd := 1) (n := 320) rfl (by decide)) (by decide) r1 rfl (i7 (L' := [.ref 83, .int (wI x1), .long (wJ (τ 89 x1)), .retAddr 0, .long (wJ (τ 90 x1)), .retAddr 0, .retAddr 0, .retAddr 0]) c_261_83 rfl t)))))))))
      · have t := iF t hc
        have ha5 : ¬ ((0 : Int) ≤ (τ 89 x1)) := hc
        refine i5 c_261_60 rfl (i45 c_261_61 (lo (c := 83) (kd := 112) (n := 0) rfl (by decide)) (lro (c := 83) (k := 19) (j := 89) (by decide)) (i3 c_261_64 rfl (i52 (v := τ 89 x1) c_261_65 (lo (c := 89) (kd := 1) (n := 320) rfl (by decide)) (by decide) r1 rfl (i29 c_261_66 (i38 c_261_67 rfl (i7 (L' := [.ref 83, .int (wI x1), .long (wJ (-(τ 89 x1))), .retAddr 0, .retAddr 0, .retAddr 0, .retAddr 0, .retAddr 0]) c_261_76 rfl (i5 c_261_77 rfl (i45 c_261_78 (lo (c := 83) (kd := 112) (n := 0) rfl (by decide)) (lro (c := 83) (k := 20) (j := 90) (by decide)) (i3 c_261_81 rfl (i52 (v := τ 90 x1) c_261_82 (lo (c := 90) (kd := 1) (n := 320) rfl (by decide)) (by decide) r1 rfl (i7 (L' := [.ref 83, .int (wI x1), .long (wJ (-(τ 89 x1))), .retAddr 0, .long (wJ (τ 90 x1)), .retAddr 0, .retAddr 0, .retAddr 0]) c_261_83 rfl t)))))))))))
    · have t := iF t hc
      have ha4 : ¬ ((0 : Int) ≤ (τ 90 x1)) := hc
      obtain ⟨w6, e7, r8, t⟩ := t
      refine i5 c_261_23 rfl (i45 c_261_24 (lo (c := 83) (kd := 112) (n := 0) rfl (by decide)) (lro (c := 83) (k := 20) (j := 90) (by decide)) (i3 c_261_27 rfl (i5 c_261_28 rfl (i45 c_261_29 (lo (c := 83) (kd := 112) (n := 0) rfl (by decide)) (lro (c := 83) (k := 20) (j := 90) (by decide)) (i3 c_261_32 rfl (i52 (v := τ 90 x1) c_261_33 (lo (c := 90) (kd := 1) (n := 320) rfl (by decide)) (by decide) r1 rfl (i29 c_261_34 (i56 (τ1 := uc τ 90 (u1 (τ 90) x1 w6)) c_261_35 (lo (c := 90) (kd := 1) (n := 320) rfl (by decide)) (by decide) r1 e7 r8 (wr_ rfl rfl) (i5 c_261_36 rfl (i45 c_261_37 (lo (c := 83) (kd := 112) (n := 0) rfl (by decide)) (lro (c := 83) (k := 19) (j := 89) (by decide)) (i3 c_261_40 rfl (i5 c_261_41 rfl (i45 c_261_42 (lo (c := 83) (kd := 112) (n := 0) rfl (by decide)) (lro (c := 83) (k := 19) (j := 89) (by decide)) (i3 c_261_45 rfl (wi_ok (fun K9 => ?_))))))))))))))))
      obtain ⟨w10, e11, r12, t⟩ := t
      refine i52 (v := τ 89 x1) c_261_46 (lo (c := 89) (kd := 1) (n := 320) rfl (by decide)) (by decide) r1 (congrFun (uc_ns rfl (by decide)) _) (i29 c_261_47 (i56 (τ1 := uc (uc τ 90 (u1 (τ 90) x1 w6)) 89 (u1 (τ 89) x1 w10)) c_261_48 (lo (c := 89) (kd := 1) (n := 320) rfl (by decide)) (by decide) r1 e11 r12 (wr_ (uc_ns rfl (by decide)) rfl) (i5 c_261_49 rfl (i45 c_261_50 (lo (c := 83) (kd := 112) (n := 0) rfl (by decide)) (lro (c := 83) (k := 19) (j := 89) (by decide)) (i3 c_261_53 rfl (wi_ok (fun K13 => ?_)))))))
      refine i52 (v := w10) c_261_54 (lo (c := 89) (kd := 1) (n := 320) rfl (by decide)) (by decide) r1 ((congrFun (uc_s _ _ _) _).trans (u1_s _ _ _)) (i2 c_261_55 (i28 c_261_56 ?_))
      refine i36l c_261_57 r12 (by decide) rfl (fun hc => ?_) (fun hc => ?_)
      · have t := iT t hc
        have ha14 : (0 : Int) ≤ w10 := hc
        refine i5 c_261_70 rfl (i45 c_261_71 (lo (c := 83) (kd := 112) (n := 0) rfl (by decide)) (lro (c := 83) (k := 19) (j := 89) (by decide)) (i3 c_261_74 rfl (i52 (v := w10) c_261_75 (lo (c := 89) (kd := 1) (n := 320) rfl (by decide)) (by decide) r1 ((congrFun (uc_s _ _ _) _).trans (u1_s _ _ _)) (i7 (L' := [.ref 83, .int (wI x1), .long (wJ w10), .retAddr 0, .retAddr 0, .retAddr 0, .retAddr 0, .retAddr 0]) c_261_76 rfl (i5 c_261_77 rfl (i45 c_261_78 (lo (c := 83) (kd := 112) (n := 0) rfl (by decide)) (lro (c := 83) (k := 20) (j := 90) (by decide)) (i3 c_261_81 rfl (i52 (v := w6) c_261_82 (lo (c := 90) (kd := 1) (n := 320) rfl (by decide)) (by decide) r1 ((congrFun (uc_ns (uc_s _ _ _) (by decide)) _).trans (u1_s _ _ _)) (i7 (L' := [.ref 83, .int (wI x1), .long (wJ w10), .retAddr 0, .long (wJ w6), .retAddr 0, .retAddr 0, .retAddr 0]) c_261_83 rfl t)))))))))
      · have t := iF t hc
        have ha14 : ¬ ((0 : Int) ≤ w10) := hc
        refine i5 c_261_60 rfl (i45 c_261_61 (lo (c := 83) (kd := 112) (n := 0) rfl (by decide)) (lro (c := 83) (k := 19) (j := 89) (by decide)) (i3 c_261_64 rfl (i52 (v := w10) c_261_65 (lo (c := 89) (kd := 1) (n := 320) rfl (by decide)) (by decide) r1 ((congrFun (uc_s _ _ _) _).trans (u1_s _ _ _)) (i29 c_261_66 (i38 c_261_67 rfl (i7 (L' := [.ref 83, .int (wI x1), .long (wJ (-w10)), .retAddr 0, .retAddr 0, .retAddr 0, .retAddr 0, .retAddr 0]) c_261_76 rfl (i5 c_261_77 rfl (i45 c_261_78 (lo (c := 83) (kd := 112) (n := 0) rfl (by decide)) (lro (c := 83) (k := 20) (j := 90) (by decide)) (i3 c_261_81 rfl (i52 (v := w6) c_261_82 (lo (c := 90) (kd := 1) (n := 320) rfl (by decide)) (by decide) r1 ((congrFun (uc_ns (uc_s _ _ _) (by decide)) _).trans (u1_s _ _ _)) (i7 (L' := [.ref 83, .int (wI x1), .long (wJ (-w10)), .retAddr 0, .long (wJ w6), .retAddr 0, .retAddr 0, .retAddr 0]) c_261_83 rfl t)))))))))))
  · have t := iT t (Decidable.not_not.mp hc)
    have ha3 : (τ 90 x1) = 0 := Decidable.not_not.mp hc
    exact i94 c_261_11 t
set_option maxRecDepth 20000 in
theorem u_261_85 {d : Nat} {S : zS} {σ τ : zI} {Q : zQ} {x1 : Int} {x2 : Int} {x4 : Int} {y6 : Value} {y7 : Value} (t : (rj x4) ∧ if x4 = 0 then ((rj x2) ∧ if x2 ≤ 1 then ((0 ≤ x1 ∧ x1 < 320) ∧ if (1000000000 : Int) < (τ 89 x1) then (Q none S σ (uc τ 90 (u1 (τ 90) x1 0))) else (if (τ 89 x1) < (-1000000000) then (Q none S σ (uc τ 90 (u1 (τ 90) x1 0))) else (if (τ 90 x1) ≤ 1000000000 then (Q none S σ τ) else (Q none S σ (uc τ 90 (u1 (τ 90) x1 0)))))) else ((0 ≤ x1 ∧ x1 < 320) ∧ (x2 ≠ 0) ∧ ∃ w13 : Int, wJ w13 = wJ (Int.tdiv (τ 89 x1) x2) ∧ rj w13 ∧ (x2 ≠ 0) ∧ ∃ w18 : Int, wJ w18 = wJ (Int.tdiv (τ 90 x1) x2) ∧ rj w18 ∧ if (1000000000 : Int) < w13 then (Q none S σ (uc (uc τ 89 (u1 (τ 89) x1 w13)) 90 (u1 (u1 (τ 90) x1 w18) x1 0))) else (if w13 < (-1000000000) then (Q none S σ (uc (uc τ 89 (u1 (τ 89) x1 w13)) 90 (u1 (u1 (τ 90) x1 w18) x1 0))) else (if w18 ≤ 1000000000 then (Q none S σ (uc (uc τ 89 (u1 (τ 89) x1 w13)) 90 (u1 (τ 90) x1 w18))) else (Q none S σ (uc (uc τ 89 (u1 (τ 89) x1 w13)) 90 (u1 (u1 (τ 90) x1 w18) x1 0))))))) else ((rj x2) ∧ (x4 ≠ 0) ∧ wi (d + 1) 261 85 [.ref 83, .int (wI x1), .long (wJ x4), .retAddr 0, .long (wJ (Int.tmod x2 x4)), .retAddr 0, .long (wJ (Int.tmod x2 x4)), .retAddr 0] [] S σ τ Q)) : wi (d + 1) 261 85 [.ref 83, .int (wI x1), .long (wJ x2), .retAddr 0, .long (wJ x4), .retAddr 0, y6, y7] [] S σ τ Q := by
  obtain ⟨r1, t⟩ := t
  refine i4 c_261_85 rfl (i2 c_261_87 (i28 c_261_88 ?_))
  refine i36l c_261_89 r1 (by decide) rfl (fun hc => ?_) (fun hc => ?_)
  · have t := iT t hc
    have ha2 : x4 = 0 := hc
    obtain ⟨r3, t⟩ := t
    refine i4 c_261_108 rfl (i2 c_261_109 (i28 c_261_110 ?_))
    refine i36l c_261_111 r3 (by decide) rfl (fun hc => ?_) (fun hc => ?_)
    · have t := iT t hc
      have ha4 : x2 ≤ 1 := hc
      obtain ⟨r5, t⟩ := t
      refine i5 c_261_134 rfl (i45 c_261_135 (lo (c := 83) (kd := 112) (n := 0) rfl (by decide)) (lro (c := 83) (k := 19) (j := 89) (by decide)) (i3 c_261_138 rfl (wi_ok (fun K6 => ?_))))
      refine i52 (v := τ 89 x1) c_261_139 (lo (c := 89) (kd := 1) (n := 320) rfl (by decide)) (by decide) r5 rfl (i2 c_261_140 (i28 c_261_143 ?_))
      refine i36l c_261_144 (rje_ K6 rfl) (by decide) rfl (fun hc => ?_) (fun hc => ?_)
      · have t := iT t hc
        have ha7 : (1000000000 : Int) < (τ 89 x1) := hc
        refine i5 c_261_173 rfl (i45 c_261_174 (lo (c := 83) (kd := 112) (n := 0) rfl (by decide)) (lro (c := 83) (k := 20) (j := 90) (by decide)) (i3 c_261_177 rfl (i2 c_261_178 (i56 (τ1 := uc τ 90 (u1 (τ 90) x1 0)) c_261_179 (lo (c := 90) (kd := 1) (n := 320) rfl (by decide)) (by decide) r5 rfl (by decide) (wr_ rfl rfl) ?_))))
        exact i94 c_261_180 t
      · have t := iF t hc
        have ha7 : ¬ ((1000000000 : Int) < (τ 89 x1)) := hc
        refine i5 c_261_147 rfl (i45 c_261_148 (lo (c := 83) (kd := 112) (n := 0) rfl (by decide)) (lro (c := 83) (k := 19) (j := 89) (by decide)) (i3 c_261_151 rfl (i52 (v := τ 89 x1) c_261_152 (lo (c := 89) (kd := 1) (n := 320) rfl (by decide)) (by decide) r5 rfl (i2 c_261_153 (i28 c_261_156 ?_)))))
        refine i36l c_261_157 (rje_ K6 rfl) (by decide) rfl (fun hc => ?_) (fun hc => ?_)
        · have t := iT t hc
          have ha8 : (τ 89 x1) < (-1000000000) := hc
          refine i5 c_261_173 rfl (i45 c_261_174 (lo (c := 83) (kd := 112) (n := 0) rfl (by decide)) (lro (c := 83) (k := 20) (j := 90) (by decide)) (i3 c_261_177 rfl (i2 c_261_178 (i56 (τ1 := uc τ 90 (u1 (τ 90) x1 0)) c_261_179 (lo (c := 90) (kd := 1) (n := 320) rfl (by decide)) (by decide) r5 rfl (by decide) (wr_ rfl rfl) ?_))))
          exact i94 c_261_180 t
        · have t := iF t hc
          have ha8 : ¬ ((τ 89 x1) < (-1000000000)) := hc
          refine i5 c_261_160 rfl (i45 c_261_161 (lo (c := 83) (kd := 112) (n := 0) rfl (by decide)) (lro (c := 83) (k := 20) (j := 90) (by decide)) (i3 c_261_164 rfl (i52 (v := τ 90 x1) c_261_165 (lo (c := 90) (kd := 1) (n := 320) rfl (by decide)) (by decide) r5 rfl (i2 c_261_166 (i28 c_261_169 ?_)))))
          refine i36l c_261_170 (rje_ K6 rfl) (by decide) rfl (fun hc => ?_) (fun hc => ?_)
          · have t := iT t hc
            have ha9 : (τ 90 x1) ≤ 1000000000 := hc
            exact i94 c_261_180 t
          · have t := iF t hc
            have ha9 : ¬ ((τ 90 x1) ≤ 1000000000) := hc
            refine i5 c_261_173 rfl (i45 c_261_174 (lo (c := 83) (kd := 112) (n := 0) rfl (by decide)) (lro (c := 83) (k := 20) (j := 90) (by decide)) (i3 c_261_177 rfl (i2 c_261_178 (i56 (τ1 := uc τ 90 (u1 (τ 90) x1 0)) c_261_179 (lo (c := 90) (kd := 1) (n := 320) rfl (by decide)) (by decide) r5 rfl (by decide) (wr_ rfl rfl) ?_))))
            exact i94 c_261_180 t
    · have t := iF t hc
      have ha4 : ¬ (x2 ≤ 1) := hc
      obtain ⟨r10, t⟩ := t
      refine i5 c_261_114 rfl (i45 c_261_115 (lo (c := 83) (kd := 112) (n := 0) rfl (by decide)) (lro (c := 83) (k := 19) (j := 89) (by decide)) (i3 c_261_118 rfl (i34a c_261_119 (wi_ok (fun K11 => ?_)))))
      obtain ⟨y12, t⟩ := t
      obtain ⟨w13, e14, r15, t⟩ := t
      refine i52 (v := τ 89 x1) c_261_120 (lo (c := 89) (kd := 1) (n := 320) rfl (by decide)) (by decide) r10 rfl (i4 c_261_121 rfl (i26 c_261_122 (rje_ K11 rfl) r3 y12 (i56 (τ1 := uc τ 89 (u1 (τ 89) x1 w13)) c_261_123 (lo (c := 89) (kd := 1) (n := 320) rfl (by decide)) (by decide) r10 e14 r15 (wr_ rfl rfl) (i5 c_261_124 rfl (i45 c_261_125 (lo (c := 83) (kd := 112) (n := 0) rfl (by decide)) (lro (c := 83) (k := 20) (j := 90) (by decide)) (i3 c_261_128 rfl (i34a c_261_129 (wi_ok (fun K16 => ?_)))))))))
      obtain ⟨y17, t⟩ := t
      obtain ⟨w18, e19, r20, t⟩ := t
      refine i52 (v := τ 90 x1) c_261_130 (lo (c := 90) (kd := 1) (n := 320) rfl (by decide)) (by decide) r10 (congrFun (uc_ns rfl (by decide)) _) (i4 c_261_131 rfl (i26 c_261_132 (rje_ K16 (congrFun (uc_ns rfl (by decide)) _)) r3 y17 (i56 (τ1 := uc (uc τ 89 (u1 (τ 89) x1 w13)) 90 (u1 (τ 90) x1 w18)) c_261_133 (lo (c := 90) (kd := 1) (n := 320) rfl (by decide)) (by decide) r10 e19 r20 (wr_ (uc_ns rfl (by decide)) rfl) (i5 c_261_134 rfl (i45 c_261_135 (lo (c := 83) (kd := 112) (n := 0) rfl (by decide)) (lro (c := 83) (k := 19) (j := 89) (by decide)) (i3 c_261_138 rfl (wi_ok (fun K21 => ?_))))))))
      refine i52 (v := w13) c_261_139 (lo (c := 89) (kd := 1) (n := 320) rfl (by decide)) (by decide) r10 ((congrFun (uc_ns (uc_s _ _ _) (by decide)) _).trans (u1_s _ _ _)) (i2 c_261_140 (i28 c_261_143 ?_))
      refine i36l c_261_144 r15 (by decide) rfl (fun hc => ?_) (fun hc => ?_)
      · have t := iT t hc
        have ha22 : (1000000000 : Int) < w13 := hc
        refine i5 c_261_173 rfl (i45 c_261_174 (lo (c := 83) (kd := 112) (n := 0) rfl (by decide)) (lro (c := 83) (k := 20) (j := 90) (by decide)) (i3 c_261_177 rfl (i2 c_261_178 (i56 (τ1 := uc (uc τ 89 (u1 (τ 89) x1 w13)) 90 (u1 (u1 (τ 90) x1 w18) x1 0)) c_261_179 (lo (c := 90) (kd := 1) (n := 320) rfl (by decide)) (by decide) r10 rfl (by decide) (wr_ (uc_s _ _ _) (uc_uc _ _ _ _)) ?_))))
        exact i94 c_261_180 t
      · have t := iF t hc
        have ha22 : ¬ ((1000000000 : Int) < w13) := hc
        refine i5 c_261_147 rfl (i45 c_261_148 (lo (c := 83) (kd := 112) (n := 0) rfl (by decide)) (lro (c := 83) (k := 19) (j := 89) (by decide)) (i3 c_261_151 rfl (i52 (v := w13) c_261_152 (lo (c := 89) (kd := 1) (n := 320) rfl (by decide)) (by decide) r10 ((congrFun (uc_ns (uc_s _ _ _) (by decide)) _).trans (u1_s _ _ _)) (i2 c_261_153 (i28 c_261_156 ?_)))))
        refine i36l c_261_157 r15 (by decide) rfl (fun hc => ?_) (fun hc => ?_)
        · have t := iT t hc
          have ha23 : w13 < (-1000000000) := hc
          refine i5 c_261_173 rfl (i45 c_261_174 (lo (c := 83) (kd := 112) (n := 0) rfl (by decide)) (lro (c := 83) (k := 20) (j := 90) (by decide)) (i3 c_261_177 rfl (i2 c_261_178 (i56 (τ1 := uc (uc τ 89 (u1 (τ 89) x1 w13)) 90 (u1 (u1 (τ 90) x1 w18) x1 0)) c_261_179 (lo (c := 90) (kd := 1) (n := 320) rfl (by decide)) (by decide) r10 rfl (by decide) (wr_ (uc_s _ _ _) (uc_uc _ _ _ _)) ?_))))
          exact i94 c_261_180 t
        · have t := iF t hc
          have ha23 : ¬ (w13 < (-1000000000)) := hc
          refine i5 c_261_160 rfl (i45 c_261_161 (lo (c := 83) (kd := 112) (n := 0) rfl (by decide)) (lro (c := 83) (k := 20) (j := 90) (by decide)) (i3 c_261_164 rfl (i52 (v := w18) c_261_165 (lo (c := 90) (kd := 1) (n := 320) rfl (by decide)) (by decide) r10 ((congrFun (uc_s _ _ _) _).trans (u1_s _ _ _)) (i2 c_261_166 (i28 c_261_169 ?_)))))
          refine i36l c_261_170 r20 (by decide) rfl (fun hc => ?_) (fun hc => ?_)
          · have t := iT t hc
            have ha24 : w18 ≤ 1000000000 := hc
            exact i94 c_261_180 t
          · have t := iF t hc
            have ha24 : ¬ (w18 ≤ 1000000000) := hc
            refine i5 c_261_173 rfl (i45 c_261_174 (lo (c := 83) (kd := 112) (n := 0) rfl (by decide)) (lro (c := 83) (k := 20) (j := 90) (by decide)) (i3 c_261_177 rfl (i2 c_261_178 (i56 (τ1 := uc (uc τ 89 (u1 (τ 89) x1 w13)) 90 (u1 (u1 (τ 90) x1 w18) x1 0)) c_261_179 (lo (c := 90) (kd := 1) (n := 320) rfl (by decide)) (by decide) r10 rfl (by decide) (wr_ (uc_s _ _ _) (uc_uc _ _ _ _)) ?_))))
            exact i94 c_261_180 t
  · have t := iF t hc
    have ha2 : ¬ (x4 = 0) := hc
    obtain ⟨r25, t⟩ := t
    obtain ⟨y26, t⟩ := t
    refine i4 c_261_92 rfl (i4 c_261_93 rfl (i27 c_261_95 r25 r1 y26 (i7 (L' := [.ref 83, .int (wI x1), .long (wJ x2), .retAddr 0, .long (wJ x4), .retAddr 0, .long (wJ (Int.tmod x2 x4)), .retAddr 0]) c_261_96 rfl (i4 c_261_98 rfl (i7 (L' := [.ref 83, .int (wI x1), .long (wJ x4), .retAddr 0, .long (wJ x4), .retAddr 0, .long (wJ (Int.tmod x2 x4)), .retAddr 0]) c_261_100 rfl (i4 c_261_101 rfl (i7 (L' := [.ref 83, .int (wI x1), .long (wJ x4), .retAddr 0, .long (wJ (Int.tmod x2 x4)), .retAddr 0, .long (wJ (Int.tmod x2 x4)), .retAddr 0]) c_261_103 rfl (i38 c_261_105 rfl t))))))))
theorem q_261 {d : Nat} {S : zS} {σ τ : zI} {Q : zQ} {k : Int} (p0 : 0 ≤ k ∧ k < 320) (p1 : -2000000000000000000 ≤ τ 89 k ∧ τ 89 k ≤ 2000000000000000000) (p2 : -2000000000000000000 ≤ τ 90 k ∧ τ 90 k ≤ 2000000000000000000) (t : ∀ (U : Int) (L : Int), L = (red (τ 89 k) (τ 90 k)).2 → (L ≠ 0 → U = (red (τ 89 k) (τ 90 k)).1) → Q none S σ (uc (uc τ 89 (u1 (τ 89) k U)) 90 (u1 (τ 90) k L))) : wc (d + 1) 261 [.ref 83, .int (wI k)] S σ τ Q := by
  have loop : ∀ τ' : zI, ∀ n m : Nat, (m : Int) ≤ 9000000000000000000 → (n : Int) ≤ 9000000000000000000 → (∀ y y', wi (d + 1) 261 85 [.ref 83, .int (wI k), .long (wJ ((Nat.gcd m n : Nat) : Int)), .retAddr 0, .long (wJ 0), .retAddr 0, y, y'] [] S σ τ' Q) → ∀ y y', wi (d + 1) 261 85 [.ref 83, .int (wI k), .long (wJ (m : Int)), .retAddr 0, .long (wJ (n : Int)), .retAddr 0, y, y'] [] S σ τ' Q := by
    intro τ' n
    induction n using Nat.strongRecOn with
    | ind n ih =>
      intro m hm hn h y y'
      by_cases e : n = 0
      · subst e
        rw [Nat.gcd_zero_right] at h
        exact h y y'
      · refine u_261_85 ⟨by omega, ?_⟩
        rw [if_neg (by omega)]
        refine ⟨by omega, by omega, ?_⟩
        have ml := Nat.mod_lt m (show n > 0 by omega)
        have r := ih (m % n) ml n hn (by omega) (by rw [Nat.gcd_comm n (m % n), ← Nat.gcd_rec n m, Nat.gcd_comm n m]; exact h)
        rw [show Int.tmod (m : Int) (n : Int) = ((m % n : Nat) : Int) from rfl]
        exact r _ _
  have fin : ∀ τ' : zI, 0 < τ' 90 k → τ' 90 k ≤ 9000000000000000000 → -9000000000000000000 ≤ τ' 89 k ∧ τ' 89 k ≤ 9000000000000000000 → (∀ U L, L = (red (τ' 89 k) (τ' 90 k)).2 → (L ≠ 0 → U = (red (τ' 89 k) (τ' 90 k)).1) → Q none S σ (uc (uc τ' 89 (u1 (τ' 89) k U)) 90 (u1 (τ' 90) k L))) → ∀ y y', wi (d + 1) 261 85 [.ref 83, .int (wI k), .long (wJ ((Nat.gcd (τ' 89 k).natAbs (τ' 90 k).natAbs : Nat) : Int)), .retAddr 0, .long (wJ 0), .retAddr 0, y, y'] [] S σ τ' Q := by
    intro τ' h0 h1 h2 t y y'
    have rp := red_p (x := τ' 89 k) (y := τ' 90 k) h0 rfl
    have gp : 0 < Nat.gcd (τ' 89 k).natAbs (τ' 90 k).natAbs := Nat.gcd_pos_of_pos_right _ (by omega)
    have gl : Nat.gcd (τ' 89 k).natAbs (τ' 90 k).natAbs ≤ (τ' 90 k).natAbs := Nat.le_of_dvd (by omega) (Nat.gcd_dvd_right _ _)
    rw [rp] at t
    generalize Nat.gcd (τ' 89 k).natAbs (τ' 90 k).natAbs = g at *
    refine u_261_85 ⟨by omega, ?_⟩
    rw [if_pos rfl]
    refine ⟨by omega, ?_⟩
    refine ifI (fun e => ?_) (fun e => ?_)
    · have e1 : (g : Int) = 1 := by omega
      rw [e1, Int.tdiv_one, Int.tdiv_one] at t
      have lost : (τ' 89 k > 1000000000 ∨ τ' 89 k < -1000000000 ∨ τ' 90 k > 1000000000) → Q none S σ (uc τ' 90 (u1 (τ' 90) k 0)) := fun h => by
        rw [if_pos h] at t
        have := t (τ' 89 k) 0 rfl (fun h => absurd rfl h)
        rw [u1_id, uc_id] at this
        exact this
      refine ⟨p0, ?_⟩
      refine ifI (fun e2 => lost (Or.inl e2)) (fun e2 => ?_)
      refine ifI (fun e3 => lost (Or.inr (Or.inl e3))) (fun e3 => ?_)
      refine ifI (fun e4 => ?_) (fun e4 => lost (Or.inr (Or.inr (by omega))))
      rw [if_neg (by omega)] at t
      have := t (τ' 89 k) (τ' 90 k) rfl (fun _ => rfl)
      rw [u1_id, uc_id, u1_id, uc_id] at this
      exact this
    · have a1 := Int.natAbs_tdiv_le_natAbs (τ' 89 k) g
      have a2 := Int.natAbs_tdiv_le_natAbs (τ' 90 k) g
      have lost : ((τ' 89 k).tdiv g > 1000000000 ∨ (τ' 89 k).tdiv g < -1000000000 ∨ (τ' 90 k).tdiv g > 1000000000) → Q none S σ (uc (uc τ' 89 (u1 (τ' 89) k ((τ' 89 k).tdiv g))) 90 (u1 (u1 (τ' 90) k ((τ' 90 k).tdiv g)) k 0)) := fun h => by
        rw [if_pos h] at t
        have := t ((τ' 89 k).tdiv g) 0 rfl (fun h => absurd rfl h)
        rw [u1_u1]
        exact this
      refine ⟨p0, by omega, _, rfl, by omega, by omega, _, rfl, by omega, ?_⟩
      refine ifI (fun e2 => lost (Or.inl e2)) (fun e2 => ?_)
      refine ifI (fun e3 => lost (Or.inr (Or.inl e3))) (fun e3 => ?_)
      refine ifI (fun e4 => ?_) (fun e4 => lost (Or.inr (Or.inr (by omega))))
      rw [if_neg (by omega)] at t
      exact t _ _ rfl (fun _ => rfl)
  refine wc_of mi_261 rfl (u_261_0 ⟨p0, ?_⟩)
  refine ifI (fun e => ?_) (fun e => ?_)
  · have := t (τ 89 k) (τ 90 k) (by rw [e]; rfl) (fun h => absurd e h)
    rw [u1_id, uc_id, u1_id, uc_id] at this
    exact this
  · refine ifI (fun e2 => ?_) (fun e2 => ?_)
    · have f := loop τ (τ 90 k).natAbs (τ 89 k).natAbs (by omega) (by omega) (fin τ (by omega) (by omega) (by omega) t)
      rw [show ((τ 90 k).natAbs : Int) = τ 90 k by omega] at f
      refine ifI (fun e3 => ?_) (fun e3 => ?_)
      · rw [show ((τ 89 k).natAbs : Int) = τ 89 k by omega] at f
        exact f _ _
      · rw [show ((τ 89 k).natAbs : Int) = -(τ 89 k) by omega] at f
        exact f _ _
    · refine ⟨_, rfl, by omega, _, rfl, by omega, ?_⟩
      have v89 : (uc (uc τ 90 (u1 (τ 90) k (-(τ 90 k)))) 89 (u1 (τ 89) k (-(τ 89 k)))) 89 k = -(τ 89 k) := by rw [uc_s, u1_s]
      have v90 : (uc (uc τ 90 (u1 (τ 90) k (-(τ 90 k)))) 89 (u1 (τ 89) k (-(τ 89 k)))) 90 k = -(τ 90 k) := by rw [uc_n (by decide), uc_s, u1_s]
      have f := fin (uc (uc τ 90 (u1 (τ 90) k (-(τ 90 k)))) 89 (u1 (τ 89) k (-(τ 89 k)))) (by rw [v90]; omega) (by rw [v90]; omega) (by rw [v89]; omega) (fun U L h1 h2 => by
        rw [v89, v90, red_neg] at h1 h2
        have := t U L h1 h2
        rw [show uc (uc τ 89 (u1 (τ 89) k U)) 90 (u1 (τ 90) k L) = uc (uc τ 90 (u1 (τ 90) k L)) 89 (u1 (τ 89) k U) from uc_cm rfl (by decide)] at this
        rw [uc_s, u1_u1, uc_uc, uc_n (show (90 : Nat) ≠ 89 by decide), uc_s, u1_u1, uc_cm (uc_uc τ 90 _ _) (by decide)]
        exact this)
      rw [v89, v90] at f
      have f := loop _ (τ 90 k).natAbs (τ 89 k).natAbs (by omega) (by omega) (by rw [Int.natAbs_neg, Int.natAbs_neg] at f; exact f)
      rw [show ((τ 90 k).natAbs : Int) = -(τ 90 k) by omega] at f
      refine ifI (fun e3 => ?_) (fun e3 => ?_)
      · rw [show ((τ 89 k).natAbs : Int) = -(τ 89 k) by omega] at f
        exact f _ _
      · rw [show ((τ 89 k).natAbs : Int) = - -(τ 89 k) by omega] at f
        exact f _ _
-- method 262: MillTownModel.two(I)V
theorem c_262_0 : pg_cd 262 0 = (5, 1, 0, 0, 0) := by decide +kernel
theorem c_262_1 : pg_cd 262 1 = (33, 1, 0, 0, 0) := by decide +kernel
theorem c_262_2 : pg_cd 262 2 = (43, 12, 281, 22, 0) := by decide +kernel
theorem c_262_5 : pg_cd 262 5 = (1, 1, 0, 0, 1) := by decide +kernel
theorem c_262_6 : pg_cd 262 6 = (11, 1, 0, 0, 0) := by decide +kernel
theorem c_262_7 : pg_cd 262 7 = (46, 12, 281, 22, 0) := by decide +kernel
theorem c_262_10 : pg_cd 262 10 = (5, 1, 0, 0, 0) := by decide +kernel
theorem c_262_11 : pg_cd 262 11 = (43, 12, 281, 22, 0) := by decide +kernel
theorem c_262_14 : pg_cd 262 14 = (1, 1, 0, 0, 1) := by decide +kernel
theorem c_262_15 : pg_cd 262 15 = (11, 1, 0, 0, 0) := by decide +kernel
theorem c_262_16 : pg_cd 262 16 = (6, 1, 0, 2, 0) := by decide +kernel
theorem c_262_17 : pg_cd 262 17 = (5, 1, 0, 0, 0) := by decide +kernel
theorem c_262_18 : pg_cd 262 18 = (45, 12, 33, 19, 0) := by decide +kernel
theorem c_262_21 : pg_cd 262 21 = (3, 1, 0, 2, 0) := by decide +kernel
theorem c_262_22 : pg_cd 262 22 = (52, 1, 0, 0, 0) := by decide +kernel
theorem c_262_23 : pg_cd 262 23 = (7, 1, 0, 3, 0) := by decide +kernel
theorem c_262_24 : pg_cd 262 24 = (5, 1, 0, 0, 0) := by decide +kernel
theorem c_262_25 : pg_cd 262 25 = (45, 12, 37, 20, 0) := by decide +kernel
theorem c_262_28 : pg_cd 262 28 = (3, 1, 0, 2, 0) := by decide +kernel
theorem c_262_29 : pg_cd 262 29 = (52, 1, 0, 0, 0) := by decide +kernel
theorem c_262_30 : pg_cd 262 30 = (7, 2, 0, 5, 0) := by decide +kernel
theorem c_262_32 : pg_cd 262 32 = (5, 1, 0, 0, 0) := by decide +kernel
theorem c_262_33 : pg_cd 262 33 = (45, 12, 33, 19, 0) := by decide +kernel
theorem c_262_36 : pg_cd 262 36 = (5, 1, 0, 0, 0) := by decide +kernel
theorem c_262_37 : pg_cd 262 37 = (43, 12, 281, 22, 0) := by decide +kernel
theorem c_262_40 : pg_cd 262 40 = (52, 1, 0, 0, 0) := by decide +kernel
theorem c_262_41 : pg_cd 262 41 = (7, 2, 0, 7, 0) := by decide +kernel
theorem c_262_43 : pg_cd 262 43 = (5, 1, 0, 0, 0) := by decide +kernel
theorem c_262_44 : pg_cd 262 44 = (45, 12, 37, 20, 0) := by decide +kernel
theorem c_262_47 : pg_cd 262 47 = (5, 1, 0, 0, 0) := by decide +kernel
theorem c_262_48 : pg_cd 262 48 = (43, 12, 281, 22, 0) := by decide +kernel
theorem c_262_51 : pg_cd 262 51 = (52, 1, 0, 0, 0) := by decide +kernel
theorem c_262_52 : pg_cd 262 52 = (7, 2, 0, 9, 0) := by decide +kernel
theorem c_262_54 : pg_cd 262 54 = (4, 2, 0, 5, 0) := by decide +kernel
theorem c_262_56 : pg_cd 262 56 = (2, 1, 0, 0, 0) := by decide +kernel
theorem c_262_57 : pg_cd 262 57 = (28, 1, 0, 0, 0) := by decide +kernel
theorem c_262_58 : pg_cd 262 58 = (36, 3, 0, 0, 10) := by decide +kernel
theorem c_262_61 : pg_cd 262 61 = (4, 2, 0, 9, 0) := by decide +kernel
theorem c_262_63 : pg_cd 262 63 = (2, 1, 0, 0, 0) := by decide +kernel
theorem c_262_64 : pg_cd 262 64 = (28, 1, 0, 0, 0) := by decide +kernel
theorem c_262_65 : pg_cd 262 65 = (36, 3, 0, 1, 11) := by decide +kernel
theorem c_262_68 : pg_cd 262 68 = (5, 1, 0, 0, 0) := by decide +kernel
theorem c_262_69 : pg_cd 262 69 = (45, 12, 37, 20, 0) := by decide +kernel
theorem c_262_72 : pg_cd 262 72 = (3, 1, 0, 2, 0) := by decide +kernel
theorem c_262_73 : pg_cd 262 73 = (2, 1, 0, 0, 0) := by decide +kernel
theorem c_262_74 : pg_cd 262 74 = (56, 1, 0, 0, 0) := by decide +kernel
theorem c_262_75 : pg_cd 262 75 = (94, 0, 0, 0, 0) := by decide +kernel
theorem c_262_76 : pg_cd 262 76 = (4, 1, 0, 3, 0) := by decide +kernel
theorem c_262_77 : pg_cd 262 77 = (4, 2, 0, 9, 0) := by decide +kernel
theorem c_262_79 : pg_cd 262 79 = (24, 1, 0, 0, 0) := by decide +kernel
theorem c_262_80 : pg_cd 262 80 = (4, 2, 0, 7, 0) := by decide +kernel
theorem c_262_82 : pg_cd 262 82 = (4, 2, 0, 5, 0) := by decide +kernel
theorem c_262_84 : pg_cd 262 84 = (24, 1, 0, 0, 0) := by decide +kernel
theorem c_262_85 : pg_cd 262 85 = (28, 1, 0, 0, 0) := by decide +kernel
theorem c_262_86 : pg_cd 262 86 = (36, 3, 0, 3, 7) := by decide +kernel
theorem c_262_89 : pg_cd 262 89 = (1, 1, 0, 0, 1) := by decide +kernel
theorem c_262_90 : pg_cd 262 90 = (38, 3, 0, 0, 4) := by decide +kernel
theorem c_262_93 : pg_cd 262 93 = (1, 1, 0, 0, 0) := by decide +kernel
theorem c_262_94 : pg_cd 262 94 = (6, 2, 0, 11, 0) := by decide +kernel
theorem c_262_96 : pg_cd 262 96 = (3, 1, 0, 1, 0) := by decide +kernel
theorem c_262_97 : pg_cd 262 97 = (42, 5, 31, 0, 0) := by decide +kernel
theorem c_262_128 : pg_cd 262 128 = (5, 1, 0, 0, 0) := by decide +kernel
theorem c_262_129 : pg_cd 262 129 = (45, 12, 33, 19, 0) := by decide +kernel
theorem c_262_132 : pg_cd 262 132 = (3, 1, 0, 2, 0) := by decide +kernel
theorem c_262_133 : pg_cd 262 133 = (3, 1, 0, 1, 0) := by decide +kernel
theorem c_262_134 : pg_cd 262 134 = (1, 1, 0, 0, 3) := by decide +kernel
theorem c_262_135 : pg_cd 262 135 = (37, 3, 0, 1, 16) := by decide +kernel
theorem c_262_138 : pg_cd 262 138 = (4, 1, 0, 3, 0) := by decide +kernel
theorem c_262_139 : pg_cd 262 139 = (4, 2, 0, 9, 0) := by decide +kernel
theorem c_262_141 : pg_cd 262 141 = (24, 1, 0, 0, 0) := by decide +kernel
theorem c_262_142 : pg_cd 262 142 = (4, 2, 0, 7, 0) := by decide +kernel
theorem c_262_144 : pg_cd 262 144 = (4, 2, 0, 5, 0) := by decide +kernel
theorem c_262_146 : pg_cd 262 146 = (24, 1, 0, 0, 0) := by decide +kernel
theorem c_262_147 : pg_cd 262 147 = (22, 1, 0, 0, 0) := by decide +kernel
theorem c_262_148 : pg_cd 262 148 = (38, 3, 0, 0, 13) := by decide +kernel
theorem c_262_151 : pg_cd 262 151 = (4, 1, 0, 3, 0) := by decide +kernel
theorem c_262_152 : pg_cd 262 152 = (4, 2, 0, 9, 0) := by decide +kernel
theorem c_262_154 : pg_cd 262 154 = (24, 1, 0, 0, 0) := by decide +kernel
theorem c_262_155 : pg_cd 262 155 = (4, 2, 0, 7, 0) := by decide +kernel
theorem c_262_157 : pg_cd 262 157 = (4, 2, 0, 5, 0) := by decide +kernel
theorem c_262_159 : pg_cd 262 159 = (24, 1, 0, 0, 0) := by decide +kernel
theorem c_262_160 : pg_cd 262 160 = (23, 1, 0, 0, 0) := by decide +kernel
theorem c_262_161 : pg_cd 262 161 = (56, 1, 0, 0, 0) := by decide +kernel
theorem c_262_162 : pg_cd 262 162 = (5, 1, 0, 0, 0) := by decide +kernel
theorem c_262_163 : pg_cd 262 163 = (45, 12, 37, 20, 0) := by decide +kernel
theorem c_262_166 : pg_cd 262 166 = (3, 1, 0, 2, 0) := by decide +kernel
theorem c_262_167 : pg_cd 262 167 = (4, 2, 0, 5, 0) := by decide +kernel
theorem c_262_169 : pg_cd 262 169 = (4, 2, 0, 9, 0) := by decide +kernel
theorem c_262_171 : pg_cd 262 171 = (24, 1, 0, 0, 0) := by decide +kernel
theorem c_262_172 : pg_cd 262 172 = (56, 1, 0, 0, 0) := by decide +kernel
theorem c_262_173 : pg_cd 262 173 = (38, 3, 0, 0, 83) := by decide +kernel
theorem c_262_176 : pg_cd 262 176 = (5, 1, 0, 0, 0) := by decide +kernel
theorem c_262_177 : pg_cd 262 177 = (45, 12, 33, 19, 0) := by decide +kernel
theorem c_262_180 : pg_cd 262 180 = (3, 1, 0, 2, 0) := by decide +kernel
theorem c_262_181 : pg_cd 262 181 = (4, 1, 0, 3, 0) := by decide +kernel
theorem c_262_182 : pg_cd 262 182 = (4, 2, 0, 7, 0) := by decide +kernel
theorem c_262_184 : pg_cd 262 184 = (24, 1, 0, 0, 0) := by decide +kernel
theorem c_262_185 : pg_cd 262 185 = (56, 1, 0, 0, 0) := by decide +kernel
theorem c_262_186 : pg_cd 262 186 = (5, 1, 0, 0, 0) := by decide +kernel
theorem c_262_187 : pg_cd 262 187 = (45, 12, 37, 20, 0) := by decide +kernel
theorem c_262_190 : pg_cd 262 190 = (3, 1, 0, 2, 0) := by decide +kernel
theorem c_262_191 : pg_cd 262 191 = (4, 2, 0, 5, 0) := by decide +kernel
theorem c_262_193 : pg_cd 262 193 = (4, 2, 0, 9, 0) := by decide +kernel
theorem c_262_195 : pg_cd 262 195 = (24, 1, 0, 0, 0) := by decide +kernel
theorem c_262_196 : pg_cd 262 196 = (56, 1, 0, 0, 0) := by decide +kernel
theorem c_262_197 : pg_cd 262 197 = (38, 3, 0, 0, 59) := by decide +kernel
theorem c_262_200 : pg_cd 262 200 = (5, 1, 0, 0, 0) := by decide +kernel
theorem c_262_201 : pg_cd 262 201 = (45, 12, 33, 19, 0) := by decide +kernel
theorem c_262_204 : pg_cd 262 204 = (3, 1, 0, 2, 0) := by decide +kernel
theorem c_262_205 : pg_cd 262 205 = (4, 1, 0, 3, 0) := by decide +kernel
theorem c_262_206 : pg_cd 262 206 = (4, 2, 0, 9, 0) := by decide +kernel
theorem c_262_208 : pg_cd 262 208 = (24, 1, 0, 0, 0) := by decide +kernel
theorem c_262_209 : pg_cd 262 209 = (56, 1, 0, 0, 0) := by decide +kernel
theorem c_262_210 : pg_cd 262 210 = (5, 1, 0, 0, 0) := by decide +kernel
theorem c_262_211 : pg_cd 262 211 = (45, 12, 37, 20, 0) := by decide +kernel
theorem c_262_214 : pg_cd 262 214 = (3, 1, 0, 2, 0) := by decide +kernel
theorem c_262_215 : pg_cd 262 215 = (4, 2, 0, 5, 0) := by decide +kernel
theorem c_262_217 : pg_cd 262 217 = (4, 2, 0, 7, 0) := by decide +kernel
theorem c_262_219 : pg_cd 262 219 = (24, 1, 0, 0, 0) := by decide +kernel
theorem c_262_220 : pg_cd 262 220 = (56, 1, 0, 0, 0) := by decide +kernel
theorem c_262_221 : pg_cd 262 221 = (38, 3, 0, 0, 35) := by decide +kernel
theorem c_262_224 : pg_cd 262 224 = (3, 1, 0, 1, 0) := by decide +kernel
theorem c_262_225 : pg_cd 262 225 = (1, 2, 0, 0, 7) := by decide +kernel
theorem c_262_227 : pg_cd 262 227 = (37, 3, 0, 1, 7) := by decide +kernel
theorem c_262_230 : pg_cd 262 230 = (1, 1, 0, 0, 1) := by decide +kernel
theorem c_262_231 : pg_cd 262 231 = (38, 3, 0, 0, 4) := by decide +kernel
theorem c_262_234 : pg_cd 262 234 = (1, 1, 0, 0, 0) := by decide +kernel
theorem c_262_235 : pg_cd 262 235 = (3, 2, 0, 11, 0) := by decide +kernel
theorem c_262_237 : pg_cd 262 237 = (37, 3, 0, 0, 19) := by decide +kernel
theorem c_262_240 : pg_cd 262 240 = (5, 1, 0, 0, 0) := by decide +kernel
theorem c_262_241 : pg_cd 262 241 = (45, 12, 33, 19, 0) := by decide +kernel
theorem c_262_244 : pg_cd 262 244 = (3, 1, 0, 2, 0) := by decide +kernel
theorem c_262_245 : pg_cd 262 245 = (4, 2, 0, 7, 0) := by decide +kernel
theorem c_262_247 : pg_cd 262 247 = (56, 1, 0, 0, 0) := by decide +kernel
theorem c_262_248 : pg_cd 262 248 = (5, 1, 0, 0, 0) := by decide +kernel
theorem c_262_249 : pg_cd 262 249 = (45, 12, 37, 20, 0) := by decide +kernel
theorem c_262_252 : pg_cd 262 252 = (3, 1, 0, 2, 0) := by decide +kernel
theorem c_262_253 : pg_cd 262 253 = (4, 2, 0, 9, 0) := by decide +kernel
theorem c_262_255 : pg_cd 262 255 = (56, 1, 0, 0, 0) := by decide +kernel
theorem c_262_256 : pg_cd 262 256 = (5, 1, 0, 0, 0) := by decide +kernel
theorem c_262_257 : pg_cd 262 257 = (3, 1, 0, 2, 0) := by decide +kernel
theorem c_262_258 : pg_cd 262 258 = (80, 261, 284, 0, 0) := by decide +kernel
theorem c_262_261 : pg_cd 262 261 = (94, 0, 0, 0, 0) := by decide +kernel
theorem mi_262 : pg_mc 262 = 12 ∧ pg_na 262 = 1 ∧ pg_mx 262 = 12 := by decide +kernel
theorem sw_5 : pg_sw 5 = (127, 3, 6, [31, 31, 79, 103]) := by decide +kernel
set_option maxRecDepth 20000 in
theorem u_262_0 {d : Nat} {S : zS} {σ τ : zI} {Q : zQ} {x1 : Int} (t : ∃ w2 : Int, wI w2 = wI ((σ 83 22) - 1) ∧ rg w2 ∧ (0 ≤ w2 - 1 ∧ w2 - 1 < 320) ∧ (0 ≤ w2 ∧ w2 < 320) ∧ if (τ 90 (w2 - 1)) = 0 then (wi (d + 3) 262 68 [.ref 83, .int (wI x1), .int (wI (w2 - 1)), .long (wJ (τ 89 (w2 - 1))), .retAddr 0, .long (wJ (τ 90 (w2 - 1))), .retAddr 0, .long (wJ (τ 89 w2)), .retAddr 0, .long (wJ (τ 90 w2)), .retAddr 0, .retAddr 0] [] S (uc σ 83 (u1 (σ 83) 22 w2)) τ Q) else (if (τ 90 w2) = 0 then (wi (d + 3) 262 68 [.ref 83, .int (wI x1), .int (wI (w2 - 1)), .long (wJ (τ 89 (w2 - 1))), .retAddr 0, .long (wJ (τ 90 (w2 - 1))), .retAddr 0, .long (wJ (τ 89 w2)), .retAddr 0, .long (wJ (τ 90 w2)), .retAddr 0, .retAddr 0] [] S (uc σ 83 (u1 (σ 83) 22 w2)) τ Q) else ((rj ((τ 89 (w2 - 1)) * (τ 90 w2))) ∧ (rj ((τ 89 w2) * (τ 90 (w2 - 1)))) ∧ if ((τ 89 w2) * (τ 90 (w2 - 1))) ≤ ((τ 89 (w2 - 1)) * (τ 90 w2)) then (wi (d + 3) 262 94 [.ref 83, .int (wI x1), .int (wI (w2 - 1)), .long (wJ (τ 89 (w2 - 1))), .retAddr 0, .long (wJ (τ 90 (w2 - 1))), .retAddr 0, .long (wJ (τ 89 w2)), .retAddr 0, .long (wJ (τ 90 w2)), .retAddr 0, .retAddr 0] [.int (wI 0)] S (uc σ 83 (u1 (σ 83) 22 w2)) τ Q) else (wi (d + 3) 262 94 [.ref 83, .int (wI x1), .int (wI (w2 - 1)), .long (wJ (τ 89 (w2 - 1))), .retAddr 0, .long (wJ (τ 90 (w2 - 1))), .retAddr 0, .long (wJ (τ 89 w2)), .retAddr 0, .long (wJ (τ 90 w2)), .retAddr 0, .retAddr 0] [.int (wI 1)] S (uc σ 83 (u1 (σ 83) 22 w2)) τ Q)))) : wi (d + 3) 262 0 [.ref 83, .int (wI x1), .retAddr 0, .retAddr 0, .retAddr 0, .retAddr 0, .retAddr 0, .retAddr 0, .retAddr 0, .retAddr 0, .retAddr 0, .retAddr 0] [] S σ τ Q := by
  refine i5 c_262_0 rfl (i33a c_262_1 (wi_ok (fun K1 => ?_)))
  obtain ⟨w2, e3, r4, t⟩ := t
  refine i43 (v := σ 83 22) c_262_2 (lo (c := 83) (kd := 112) (n := 0) rfl (by decide)) rfl (i1 c_262_5 (i11 c_262_6 (i46 (σ1 := uc σ 83 (u1 (σ 83) 22 w2)) c_262_7 (lo (c := 83) (kd := 112) (n := 0) rfl (by decide)) (by decide) e3 r4 (wr_ rfl rfl) (i5 c_262_10 rfl (wi_ok (fun K5 => ?_))))))
  obtain ⟨r6, t⟩ := t
  obtain ⟨r7, t⟩ := t
  refine i43 (v := w2) c_262_11 (lo (c := 83) (kd := 112) (n := 0) rfl (by decide)) ((congrFun (uc_s _ _ _) _).trans (u1_s _ _ _)) (i1 c_262_14 (i11 c_262_15 (i6 (L' := [.ref 83, .int (wI x1), .int (wI (w2 - 1)), .retAddr 0, .retAddr 0, .retAddr 0, .retAddr 0, .retAddr 0, .retAddr 0, .retAddr 0, .retAddr 0, .retAddr 0]) c_262_16 rfl (i5 c_262_17 rfl (i45 c_262_18 (lo (c := 83) (kd := 112) (n := 0) rfl (by decide)) (lro (c := 83) (k := 19) (j := 89) (by decide)) (i3 c_262_21 rfl (i52 (v := τ 89 (w2 - 1)) c_262_22 (lo (c := 89) (kd := 1) (n := 320) rfl (by decide)) (by decide) r6 rfl (i7 (L' := [.ref 83, .int (wI x1), .int (wI (w2 - 1)), .long (wJ (τ 89 (w2 - 1))), .retAddr 0, .retAddr 0, .retAddr 0, .retAddr 0, .retAddr 0, .retAddr 0, .retAddr 0, .retAddr 0]) c_262_23 rfl (i5 c_262_24 rfl (i45 c_262_25 (lo (c := 83) (kd := 112) (n := 0) rfl (by decide)) (lro (c := 83) (k := 20) (j := 90) (by decide)) (i3 c_262_28 rfl (i52 (v := τ 90 (w2 - 1)) c_262_29 (lo (c := 90) (kd := 1) (n := 320) rfl (by decide)) (by decide) r6 rfl (i7 (L' := [.ref 83, .int (wI x1), .int (wI (w2 - 1)), .long (wJ (τ 89 (w2 - 1))), .retAddr 0, .long (wJ (τ 90 (w2 - 1))), .retAddr 0, .retAddr 0, .retAddr 0, .retAddr 0, .retAddr 0, .retAddr 0]) c_262_30 rfl (i5 c_262_32 rfl (i45 c_262_33 (lo (c := 83) (kd := 112) (n := 0) rfl (by decide)) (lro (c := 83) (k := 19) (j := 89) (by decide)) (i5 c_262_36 rfl (i43 (v := w2) c_262_37 (lo (c := 83) (kd := 112) (n := 0) rfl (by decide)) ((congrFun (uc_s _ _ _) _).trans (u1_s _ _ _)) (i52 (v := τ 89 w2) c_262_40 (lo (c := 89) (kd := 1) (n := 320) rfl (by decide)) (by decide) r7 rfl (i7 (L' := [.ref 83, .int (wI x1), .int (wI (w2 - 1)), .long (wJ (τ 89 (w2 - 1))), .retAddr 0, .long (wJ (τ 90 (w2 - 1))), .retAddr 0, .long (wJ (τ 89 w2)), .retAddr 0, .retAddr 0, .retAddr 0, .retAddr 0]) c_262_41 rfl (i5 c_262_43 rfl (i45 c_262_44 (lo (c := 83) (kd := 112) (n := 0) rfl (by decide)) (lro (c := 83) (k := 20) (j := 90) (by decide)) (i5 c_262_47 rfl (i43 (v := w2) c_262_48 (lo (c := 83) (kd := 112) (n := 0) rfl (by decide)) ((congrFun (uc_s _ _ _) _).trans (u1_s _ _ _)) (i52 (v := τ 90 w2) c_262_51 (lo (c := 90) (kd := 1) (n := 320) rfl (by decide)) (by decide) r7 rfl (i7 (L' := [.ref 83, .int (wI x1), .int (wI (w2 - 1)), .long (wJ (τ 89 (w2 - 1))), .retAddr 0, .long (wJ (τ 90 (w2 - 1))), .retAddr 0, .long (wJ (τ 89 w2)), .retAddr 0, .long (wJ (τ 90 w2)), .retAddr 0, .retAddr 0]) c_262_52 rfl (i4 c_262_54 rfl (i2 c_262_56 (i28 c_262_57 ?_))))))))))))))))))))))))))))
  refine i36l c_262_58 (rje_ K5 rfl) (by decide) rfl (fun hc => ?_) (fun hc => ?_)
  · have t := iT t hc
    have ha8 : (τ 90 (w2 - 1)) = 0 := hc
    exact t
  · have t := iF t hc
    have ha8 : ¬ ((τ 90 (w2 - 1)) = 0) := hc
    refine i4 c_262_61 rfl (i2 c_262_63 (i28 c_262_64 ?_))
    refine i36l c_262_65 (rje_ K5 rfl) (by decide) rfl (fun hc => ?_) (fun hc => ?_)
    · have t := iF t hc
      have ha9 : ¬ ((τ 90 w2) = 0) := hc
      obtain ⟨r10, t⟩ := t
      obtain ⟨r11, t⟩ := t
      refine i4 c_262_76 rfl (i4 c_262_77 rfl (i24 c_262_79 (i4 c_262_80 rfl (i4 c_262_82 rfl (i24 c_262_84 (i28 c_262_85 ?_))))))
      refine i36l c_262_86 r10 r11 rfl (fun hc => ?_) (fun hc => ?_)
      · have t := iT t hc
        have ha12 : ((τ 89 w2) * (τ 90 (w2 - 1))) ≤ ((τ 89 (w2 - 1)) * (τ 90 w2)) := hc
        refine i1 c_262_93 t
      · have t := iF t hc
        have ha12 : ¬ (((τ 89 w2) * (τ 90 (w2 - 1))) ≤ ((τ 89 (w2 - 1)) * (τ 90 w2))) := hc
        refine i1 c_262_89 (i38 c_262_90 rfl t)
    · have t := iT t (Decidable.not_not.mp hc)
      have ha9 : (τ 90 w2) = 0 := Decidable.not_not.mp hc
      exact t
set_option maxRecDepth 20000 in
theorem u_262_68 {d : Nat} {S : zS} {σ τ : zI} {Q : zQ} {x1 : Int} {x2 : Int} {x3 : Int} {x5 : Int} {x7 : Int} {x9 : Int} {y11 : Value} (t : (0 ≤ x2 ∧ x2 < 320) ∧ Q none S σ (uc τ 90 (u1 (τ 90) x2 0))) : wi (d + 3) 262 68 [.ref 83, .int (wI x1), .int (wI x2), .long (wJ x3), .retAddr 0, .long (wJ x5), .retAddr 0, .long (wJ x7), .retAddr 0, .long (wJ x9), .retAddr 0, y11] [] S σ τ Q := by
  obtain ⟨r1, t⟩ := t
  refine i5 c_262_68 rfl (i45 c_262_69 (lo (c := 83) (kd := 112) (n := 0) rfl (by decide)) (lro (c := 83) (k := 20) (j := 90) (by decide)) (i3 c_262_72 rfl (i2 c_262_73 (i56 (τ1 := uc τ 90 (u1 (τ 90) x2 0)) c_262_74 (lo (c := 90) (kd := 1) (n := 320) rfl (by decide)) (by decide) r1 rfl (by decide) (wr_ rfl rfl) ?_))))
  exact i94 c_262_75 t
set_option maxRecDepth 20000 in
theorem u_262_94 {d : Nat} {S : zS} {σ τ : zI} {Q : zQ} {x1 : Int} {x2 : Int} {x3 : Int} {x5 : Int} {x7 : Int} {x9 : Int} {y11 : Value} {s0 : Int} (t : (rg x1) ∧ if x1 = 3 then (if x1 = 3 then (wi (d + 3) 262 161 [.ref 83, .int (wI x1), .int (wI x2), .long (wJ x3), .retAddr 0, .long (wJ x5), .retAddr 0, .long (wJ x7), .retAddr 0, .long (wJ x9), .retAddr 0, .int (wI s0)] [.long (wJ ((x3 * x9) + (x7 * x5))), .int (wI x2), .ref 89] S σ τ Q) else (wi (d + 3) 262 161 [.ref 83, .int (wI x1), .int (wI x2), .long (wJ x3), .retAddr 0, .long (wJ x5), .retAddr 0, .long (wJ x7), .retAddr 0, .long (wJ x9), .retAddr 0, .int (wI s0)] [.long (wJ ((x3 * x9) - (x7 * x5))), .int (wI x2), .ref 89] S σ τ Q)) else (if x1 = 4 then (if x1 = 3 then (wi (d + 3) 262 161 [.ref 83, .int (wI x1), .int (wI x2), .long (wJ x3), .retAddr 0, .long (wJ x5), .retAddr 0, .long (wJ x7), .retAddr 0, .long (wJ x9), .retAddr 0, .int (wI s0)] [.long (wJ ((x3 * x9) + (x7 * x5))), .int (wI x2), .ref 89] S σ τ Q) else (wi (d + 3) 262 161 [.ref 83, .int (wI x1), .int (wI x2), .long (wJ x3), .retAddr 0, .long (wJ x5), .retAddr 0, .long (wJ x7), .retAddr 0, .long (wJ x9), .retAddr 0, .int (wI s0)] [.long (wJ ((x3 * x9) - (x7 * x5))), .int (wI x2), .ref 89] S σ τ Q)) else (if x1 = 5 then ((0 ≤ x2 ∧ x2 < 320) ∧ ∃ w5 : Int, wJ w5 = wJ (x3 * x7) ∧ rj w5 ∧ ∃ w8 : Int, wJ w8 = wJ (x5 * x9) ∧ rj w8 ∧ wi (d + 3) 262 256 [.ref 83, .int (wI x1), .int (wI x2), .long (wJ x3), .retAddr 0, .long (wJ x5), .retAddr 0, .long (wJ x7), .retAddr 0, .long (wJ x9), .retAddr 0, .int (wI s0)] [] S σ (uc (uc τ 89 (u1 (τ 89) x2 w5)) 90 (u1 (τ 90) x2 w8)) Q) else (if x1 = 6 then ((0 ≤ x2 ∧ x2 < 320) ∧ ∃ w12 : Int, wJ w12 = wJ (x3 * x9) ∧ rj w12 ∧ ∃ w15 : Int, wJ w15 = wJ (x5 * x7) ∧ rj w15 ∧ wi (d + 3) 262 256 [.ref 83, .int (wI x1), .int (wI x2), .long (wJ x3), .retAddr 0, .long (wJ x5), .retAddr 0, .long (wJ x7), .retAddr 0, .long (wJ x9), .retAddr 0, .int (wI s0)] [] S σ (uc (uc τ 89 (u1 (τ 89) x2 w12)) 90 (u1 (τ 90) x2 w15)) Q) else (if x1 = 7 then (wi (d + 3) 262 235 [.ref 83, .int (wI x1), .int (wI x2), .long (wJ x3), .retAddr 0, .long (wJ x5), .retAddr 0, .long (wJ x7), .retAddr 0, .long (wJ x9), .retAddr 0, .int (wI s0)] [.int (wI 1)] S σ τ Q) else (wi (d + 3) 262 235 [.ref 83, .int (wI x1), .int (wI x2), .long (wJ x3), .retAddr 0, .long (wJ x5), .retAddr 0, .long (wJ x7), .retAddr 0, .long (wJ x9), .retAddr 0, .int (wI s0)] [.int (wI 0)] S σ τ Q)))))) : wi (d + 3) 262 94 [.ref 83, .int (wI x1), .int (wI x2), .long (wJ x3), .retAddr 0, .long (wJ x5), .retAddr 0, .long (wJ x7), .retAddr 0, .long (wJ x9), .retAddr 0, y11] [.int (wI s0)] S σ τ Q := by
  obtain ⟨r1, t⟩ := t
  refine i6 (L' := [.ref 83, .int (wI x1), .int (wI x2), .long (wJ x3), .retAddr 0, .long (wJ x5), .retAddr 0, .long (wJ x7), .retAddr 0, .long (wJ x9), .retAddr 0, .int (wI s0)]) c_262_94 rfl (i3 c_262_96 rfl ?_)
  by_cases e0 : x1 = 3
  · have t := iT t e0
    refine i42 (o := 31) c_262_97 sw_5 3 e0 (by decide) (by decide) rfl rfl ?_
    refine i5 c_262_128 rfl (i45 c_262_129 (lo (c := 83) (kd := 112) (n := 0) rfl (by decide)) (lro (c := 83) (k := 19) (j := 89) (by decide)) (i3 c_262_132 rfl (i3 c_262_133 rfl (i1 c_262_134 ?_))))
    refine i37 c_262_135 r1 (by decide) rfl (fun hc => ?_) (fun hc => ?_)
    · have t := iF t hc
      have ha2 : ¬ (x1 = 3) := hc
      refine i4 c_262_151 rfl (i4 c_262_152 rfl (i24 c_262_154 (i4 c_262_155 rfl (i4 c_262_157 rfl (i24 c_262_159 (i23 c_262_160 t))))))
    · have t := iT t (Decidable.not_not.mp hc)
      have ha2 : x1 = 3 := Decidable.not_not.mp hc
      refine i4 c_262_138 rfl (i4 c_262_139 rfl (i24 c_262_141 (i4 c_262_142 rfl (i4 c_262_144 rfl (i24 c_262_146 (i22 c_262_147 (i38 c_262_148 rfl t)))))))
  have t := iF t e0
  by_cases e1 : x1 = 4
  · have t := iT t e1
    refine i42 (o := 31) c_262_97 sw_5 4 e1 (by decide) (by decide) rfl rfl ?_
    refine i5 c_262_128 rfl (i45 c_262_129 (lo (c := 83) (kd := 112) (n := 0) rfl (by decide)) (lro (c := 83) (k := 19) (j := 89) (by decide)) (i3 c_262_132 rfl (i3 c_262_133 rfl (i1 c_262_134 ?_))))
    refine i37 c_262_135 r1 (by decide) rfl (fun hc => ?_) (fun hc => ?_)
    · have t := iF t hc
      have ha3 : ¬ (x1 = 3) := hc
      refine i4 c_262_151 rfl (i4 c_262_152 rfl (i24 c_262_154 (i4 c_262_155 rfl (i4 c_262_157 rfl (i24 c_262_159 (i23 c_262_160 t))))))
    · have t := iT t (Decidable.not_not.mp hc)
      have ha3 : x1 = 3 := Decidable.not_not.mp hc
      refine i4 c_262_138 rfl (i4 c_262_139 rfl (i24 c_262_141 (i4 c_262_142 rfl (i4 c_262_144 rfl (i24 c_262_146 (i22 c_262_147 (i38 c_262_148 rfl t)))))))
  have t := iF t e1
  by_cases e2 : x1 = 5
  · have t := iT t e2
    refine i42 (o := 79) c_262_97 sw_5 5 e2 (by decide) (by decide) rfl rfl ?_
    obtain ⟨r4, t⟩ := t
    obtain ⟨w5, e6, r7, t⟩ := t
    obtain ⟨w8, e9, r10, t⟩ := t
    refine i5 c_262_176 rfl (i45 c_262_177 (lo (c := 83) (kd := 112) (n := 0) rfl (by decide)) (lro (c := 83) (k := 19) (j := 89) (by decide)) (i3 c_262_180 rfl (i4 c_262_181 rfl (i4 c_262_182 rfl (i24 c_262_184 (i56 (τ1 := uc τ 89 (u1 (τ 89) x2 w5)) c_262_185 (lo (c := 89) (kd := 1) (n := 320) rfl (by decide)) (by decide) r4 e6 r7 (wr_ rfl rfl) (i5 c_262_186 rfl (i45 c_262_187 (lo (c := 83) (kd := 112) (n := 0) rfl (by decide)) (lro (c := 83) (k := 20) (j := 90) (by decide)) (i3 c_262_190 rfl (i4 c_262_191 rfl (i4 c_262_193 rfl (i24 c_262_195 (i56 (τ1 := uc (uc τ 89 (u1 (τ 89) x2 w5)) 90 (u1 (τ 90) x2 w8)) c_262_196 (lo (c := 90) (kd := 1) (n := 320) rfl (by decide)) (by decide) r4 e9 r10 (wr_ (uc_ns rfl (by decide)) rfl) (i38 c_262_197 rfl t))))))))))))))
  have t := iF t e2
  by_cases e3 : x1 = 6
  · have t := iT t e3
    refine i42 (o := 103) c_262_97 sw_5 6 e3 (by decide) (by decide) rfl rfl ?_
    obtain ⟨r11, t⟩ := t
    obtain ⟨w12, e13, r14, t⟩ := t
    obtain ⟨w15, e16, r17, t⟩ := t
    refine i5 c_262_200 rfl (i45 c_262_201 (lo (c := 83) (kd := 112) (n := 0) rfl (by decide)) (lro (c := 83) (k := 19) (j := 89) (by decide)) (i3 c_262_204 rfl (i4 c_262_205 rfl (i4 c_262_206 rfl (i24 c_262_208 (i56 (τ1 := uc τ 89 (u1 (τ 89) x2 w12)) c_262_209 (lo (c := 89) (kd := 1) (n := 320) rfl (by decide)) (by decide) r11 e13 r14 (wr_ rfl rfl) (i5 c_262_210 rfl (i45 c_262_211 (lo (c := 83) (kd := 112) (n := 0) rfl (by decide)) (lro (c := 83) (k := 20) (j := 90) (by decide)) (i3 c_262_214 rfl (i4 c_262_215 rfl (i4 c_262_217 rfl (i24 c_262_219 (i56 (τ1 := uc (uc τ 89 (u1 (τ 89) x2 w12)) 90 (u1 (τ 90) x2 w15)) c_262_220 (lo (c := 90) (kd := 1) (n := 320) rfl (by decide)) (by decide) r11 e16 r17 (wr_ (uc_ns rfl (by decide)) rfl) (i38 c_262_221 rfl t))))))))))))))
  have t := iF t e3
  refine i42d c_262_97 sw_5 r1 (by omega) rfl ?_
  refine i3 c_262_224 rfl (i1 c_262_225 ?_)
  refine i37 c_262_227 r1 (by decide) rfl (fun hc => ?_) (fun hc => ?_)
  · have t := iF t hc
    have ha18 : ¬ (x1 = 7) := hc
    refine i1 c_262_234 t
  · have t := iT t (Decidable.not_not.mp hc)
    have ha18 : x1 = 7 := Decidable.not_not.mp hc
    refine i1 c_262_230 (i38 c_262_231 rfl t)
set_option maxRecDepth 20000 in
theorem u_262_161 {d : Nat} {S : zS} {σ τ : zI} {Q : zQ} {x1 : Int} {x2 : Int} {x3 : Int} {x5 : Int} {x7 : Int} {x9 : Int} {x11 : Int} {s1 : Int} {s2 : Int} (t : (0 ≤ s1 ∧ s1 < 320) ∧ ∃ w2 : Int, wJ w2 = wJ s2 ∧ rj w2 ∧ (0 ≤ x2 ∧ x2 < 320) ∧ ∃ w6 : Int, wJ w6 = wJ (x5 * x9) ∧ rj w6 ∧ wi (d + 3) 262 256 [.ref 83, .int (wI x1), .int (wI x2), .long (wJ x3), .retAddr 0, .long (wJ x5), .retAddr 0, .long (wJ x7), .retAddr 0, .long (wJ x9), .retAddr 0, .int (wI x11)] [] S σ (uc (uc τ 89 (u1 (τ 89) s1 w2)) 90 (u1 (τ 90) x2 w6)) Q) : wi (d + 3) 262 161 [.ref 83, .int (wI x1), .int (wI x2), .long (wJ x3), .retAddr 0, .long (wJ x5), .retAddr 0, .long (wJ x7), .retAddr 0, .long (wJ x9), .retAddr 0, .int (wI x11)] [.long (wJ s2), .int (wI s1), .ref 89] S σ τ Q := by
  obtain ⟨r1, t⟩ := t
  obtain ⟨w2, e3, r4, t⟩ := t
  obtain ⟨r5, t⟩ := t
  obtain ⟨w6, e7, r8, t⟩ := t
  refine i56 (τ1 := uc τ 89 (u1 (τ 89) s1 w2)) c_262_161 (lo (c := 89) (kd := 1) (n := 320) rfl (by decide)) (by decide) r1 e3 r4 (wr_ rfl rfl) (i5 c_262_162 rfl (i45 c_262_163 (lo (c := 83) (kd := 112) (n := 0) rfl (by decide)) (lro (c := 83) (k := 20) (j := 90) (by decide)) (i3 c_262_166 rfl (i4 c_262_167 rfl (i4 c_262_169 rfl (i24 c_262_171 (i56 (τ1 := uc (uc τ 89 (u1 (τ 89) s1 w2)) 90 (u1 (τ 90) x2 w6)) c_262_172 (lo (c := 90) (kd := 1) (n := 320) rfl (by decide)) (by decide) r5 e7 r8 (wr_ (uc_ns rfl (by decide)) rfl) (i38 c_262_173 rfl t))))))))
set_option maxRecDepth 20000 in
theorem u_262_235 {d : Nat} {S : zS} {σ τ : zI} {Q : zQ} {x1 : Int} {x2 : Int} {x3 : Int} {x5 : Int} {x7 : Int} {x9 : Int} {x11 : Int} {s0 : Int} (t : (rg s0) ∧ (rg x11) ∧ if s0 = x11 then (wi (d + 3) 262 256 [.ref 83, .int (wI x1), .int (wI x2), .long (wJ x3), .retAddr 0, .long (wJ x5), .retAddr 0, .long (wJ x7), .retAddr 0, .long (wJ x9), .retAddr 0, .int (wI x11)] [] S σ τ Q) else ((0 ≤ x2 ∧ x2 < 320) ∧ ∃ w5 : Int, wJ w5 = wJ x7 ∧ rj w5 ∧ ∃ w8 : Int, wJ w8 = wJ x9 ∧ rj w8 ∧ wi (d + 3) 262 256 [.ref 83, .int (wI x1), .int (wI x2), .long (wJ x3), .retAddr 0, .long (wJ x5), .retAddr 0, .long (wJ x7), .retAddr 0, .long (wJ x9), .retAddr 0, .int (wI x11)] [] S σ (uc (uc τ 89 (u1 (τ 89) x2 w5)) 90 (u1 (τ 90) x2 w8)) Q)) : wi (d + 3) 262 235 [.ref 83, .int (wI x1), .int (wI x2), .long (wJ x3), .retAddr 0, .long (wJ x5), .retAddr 0, .long (wJ x7), .retAddr 0, .long (wJ x9), .retAddr 0, .int (wI x11)] [.int (wI s0)] S σ τ Q := by
  obtain ⟨r1, t⟩ := t
  obtain ⟨r2, t⟩ := t
  refine i3 c_262_235 rfl ?_
  refine i37 c_262_237 r1 r2 rfl (fun hc => ?_) (fun hc => ?_)
  · have t := iT t hc
    have ha3 : s0 = x11 := hc
    exact t
  · have t := iF t hc
    have ha3 : ¬ (s0 = x11) := hc
    obtain ⟨r4, t⟩ := t
    obtain ⟨w5, e6, r7, t⟩ := t
    obtain ⟨w8, e9, r10, t⟩ := t
    refine i5 c_262_240 rfl (i45 c_262_241 (lo (c := 83) (kd := 112) (n := 0) rfl (by decide)) (lro (c := 83) (k := 19) (j := 89) (by decide)) (i3 c_262_244 rfl (i4 c_262_245 rfl (i56 (τ1 := uc τ 89 (u1 (τ 89) x2 w5)) c_262_247 (lo (c := 89) (kd := 1) (n := 320) rfl (by decide)) (by decide) r4 e6 r7 (wr_ rfl rfl) (i5 c_262_248 rfl (i45 c_262_249 (lo (c := 83) (kd := 112) (n := 0) rfl (by decide)) (lro (c := 83) (k := 20) (j := 90) (by decide)) (i3 c_262_252 rfl (i4 c_262_253 rfl (i56 (τ1 := uc (uc τ 89 (u1 (τ 89) x2 w5)) 90 (u1 (τ 90) x2 w8)) c_262_255 (lo (c := 90) (kd := 1) (n := 320) rfl (by decide)) (by decide) r4 e9 r10 (wr_ (uc_ns rfl (by decide)) rfl) t)))))))))
set_option maxRecDepth 20000 in
theorem u_262_256 {d : Nat} {S : zS} {σ τ : zI} {Q : zQ} {x1 : Int} {x2 : Int} {x3 : Int} {x5 : Int} {x7 : Int} {x9 : Int} {x11 : Int} (t : (0 ≤ x2 ∧ x2 < 320) ∧ (-2000000000000000000 ≤ τ 89 x2 ∧ τ 89 x2 ≤ 2000000000000000000) ∧ (-2000000000000000000 ≤ τ 90 x2 ∧ τ 90 x2 ≤ 2000000000000000000) ∧ ∀ (U4 : Int) (L5 : Int), L5 = (red (τ 89 x2) (τ 90 x2)).2 → (L5 ≠ 0 → U4 = (red (τ 89 x2) (τ 90 x2)).1) → Q none S σ (uc (uc τ 89 (u1 ((τ 89)) x2 U4)) 90 (u1 ((τ 90)) x2 L5))) : wi (d + 3) 262 256 [.ref 83, .int (wI x1), .int (wI x2), .long (wJ x3), .retAddr 0, .long (wJ x5), .retAddr 0, .long (wJ x7), .retAddr 0, .long (wJ x9), .retAddr 0, .int (wI x11)] [] S σ τ Q := by
  obtain ⟨p1, t⟩ := t
  obtain ⟨p2, t⟩ := t
  obtain ⟨p3, t⟩ := t
  refine i5 c_262_256 rfl (i3 c_262_257 rfl ?_)
  refine i80 (As := [.int (wI x2)]) (rest := []) c_262_258 mi_261 rfl rfl (Nat.le_of_ble_eq_true rfl) (Nat.le_of_ble_eq_true rfl) (lo (c := 83) (kd := 112) (n := 0) rfl (by decide)) (q_261 p1 p2 p3 (fun U4 L5 q6 q7 => ?_))
  have t := t U4 L5 q6 q7
  show wi (d + 3) 262 261 [.ref 83, .int (wI x1), .int (wI x2), .long (wJ x3), .retAddr 0, .long (wJ x5), .retAddr 0, .long (wJ x7), .retAddr 0, .long (wJ x9), .retAddr 0, .int (wI x11)] [] S σ (uc (uc τ 89 (u1 ((τ 89)) x2 U4)) 90 (u1 ((τ 90)) x2 L5)) Q
  exact i94 c_262_261 t
theorem q_262 {d : Nat} {S : zS} {σ τ : zI} {Q : zQ} {o : Int} (p0 : (3 : Int) ≤ o ∧ o ≤ (8 : Int)) (p1 : 2 ≤ σ 83 22 ∧ σ 83 22 ≤ 320) (p2 : frO (τ 89 (σ 83 22 - 2)) (τ 90 (σ 83 22 - 2))) (p3 : frO (τ 89 (σ 83 22 - 1)) (τ 90 (σ 83 22 - 1))) (t : ∀ (U : Int) (L : Int), L = (fr2 o (τ 89 (σ 83 22 - 2)) (τ 90 (σ 83 22 - 2)) (τ 89 (σ 83 22 - 1)) (τ 90 (σ 83 22 - 1))).2 → (L ≠ 0 → U = (fr2 o (τ 89 (σ 83 22 - 2)) (τ 90 (σ 83 22 - 2)) (τ 89 (σ 83 22 - 1)) (τ 90 (σ 83 22 - 1))).1) → Q none S (uc σ 83 (u1 (σ 83) 22 (σ 83 22 - 1))) (uc (uc τ 89 (u1 (τ 89) (σ 83 22 - 2) U)) 90 (u1 (τ 90) (σ 83 22 - 2) L))) : wc (d + 3) 262 [.ref 83, .int (wI o)] S σ τ Q := by
  have n1 : σ 83 22 - 1 - 1 = σ 83 22 - 2 := by omega
  have fin : ∀ X Y, (-2000000000000000000 ≤ X ∧ X ≤ 2000000000000000000) → (-2000000000000000000 ≤ Y ∧ Y ≤ 2000000000000000000) → red X Y = fr2 o (τ 89 (σ 83 22 - 2)) (τ 90 (σ 83 22 - 2)) (τ 89 (σ 83 22 - 1)) (τ 90 (σ 83 22 - 1)) → ∀ x3 x5 x7 x9 x11, wi (d + 3) 262 256 [.ref 83, .int (wI o), .int (wI (σ 83 22 - 2)), .long (wJ x3), .retAddr 0, .long (wJ x5), .retAddr 0, .long (wJ x7), .retAddr 0, .long (wJ x9), .retAddr 0, .int (wI x11)] [] S (uc σ 83 (u1 (σ 83) 22 (σ 83 22 - 1))) (uc (uc τ 89 (u1 (τ 89) (σ 83 22 - 2) X)) 90 (u1 (τ 90) (σ 83 22 - 2) Y)) Q := by
    intro X Y hX hY e x3 x5 x7 x9 x11
    have v89 : (uc (uc τ 89 (u1 (τ 89) (σ 83 22 - 2) X)) 90 (u1 (τ 90) (σ 83 22 - 2) Y)) 89 = u1 (τ 89) (σ 83 22 - 2) X := by rw [uc_n (by decide), uc_s]
    have v90 : (uc (uc τ 89 (u1 (τ 89) (σ 83 22 - 2) X)) 90 (u1 (τ 90) (σ 83 22 - 2) Y)) 90 = u1 (τ 90) (σ 83 22 - 2) Y := by rw [uc_s]
    refine u_262_256 ?_
    rw [v89, v90, u1_s, u1_s, e]
    refine ⟨by omega, hX, hY, fun U L h1 h2 => ?_⟩
    rw [u1_u1, u1_u1, uc4 (by decide)]
    exact t U L h1 h2
  refine wc_of mi_262 rfl (u_262_0 ⟨_, rfl, by omega, ?_⟩)
  rw [n1]
  generalize hp : τ 89 (σ 83 22 - 2) = p at *
  generalize hq : τ 90 (σ 83 22 - 2) = q at *
  generalize hr : τ 89 (σ 83 22 - 1) = r at *
  generalize hs : τ 90 (σ 83 22 - 1) = s at *
  refine ⟨by omega, by omega, ?_⟩
  have lost : (q = 0 ∨ s = 0) → ∀ y, wi (d + 3) 262 68 [.ref 83, .int (wI o), .int (wI (σ 83 22 - 2)), .long (wJ p), .retAddr 0, .long (wJ q), .retAddr 0, .long (wJ r), .retAddr 0, .long (wJ s), .retAddr 0, y] [] S (uc σ 83 (u1 (σ 83) 22 (σ 83 22 - 1))) τ Q := fun h y => by
    refine u_262_68 ⟨by omega, ?_⟩
    have := t (τ 89 (σ 83 22 - 2)) 0 (by unfold fr2; rw [if_pos h]) (fun h => absurd rfl h)
    rw [u1_id, uc_id] at this
    exact this
  refine ifI (fun e1 => lost (Or.inl e1) _) (fun e1 => ?_)
  refine ifI (fun e2 => lost (Or.inr e2) _) (fun e2 => ?_)
  have b1 := mb9 (x := p) (y := s) (by omega) (by omega)
  have b2 := mb9 (x := r) (y := q) (by omega) (by omega)
  have b3 := mb9 (x := q) (y := s) (by omega) (by omega)
  have b4 := mb9 (x := p) (y := r) (by omega) (by omega)
  have b5 := mb9 (x := q) (y := r) (by omega) (by omega)
  have fe : fr2 o p q r s = if o = 3 then red (p * s + r * q) (q * s) else if o = 4 then red (p * s - r * q) (q * s) else if o = 5 then red (p * r) (q * s) else if o = 6 then red (p * s) (q * r) else if o = 7 then (if p * s < r * q then red p q else red r s) else (if p * s < r * q then red r s else red p q) := by
    unfold fr2
    rw [if_neg (by omega)]
  rw [fe] at fin
  clear t fe lost
  have mid : ∀ z, (z = 0 ∧ r * q ≤ p * s ∨ z = 1 ∧ p * s < r * q) → ∀ y, wi (d + 3) 262 94 [.ref 83, .int (wI o), .int (wI (σ 83 22 - 2)), .long (wJ p), .retAddr 0, .long (wJ q), .retAddr 0, .long (wJ r), .retAddr 0, .long (wJ s), .retAddr 0, y] [.int (wI z)] S (uc σ 83 (u1 (σ 83) 22 (σ 83 22 - 1))) τ Q := fun z hz y => by
    refine u_262_94 ⟨by omega, ?_⟩
    refine ifI (fun c3 => ?_) (fun c3 => ?_)
    · rw [if_pos c3]
      refine u_262_161 ⟨by omega, _, rfl, by omega, by omega, _, rfl, by omega, ?_⟩
      exact fin _ _ (by omega) (by omega) (by rw [if_pos c3]) _ _ _ _ _
    · rw [if_neg c3] at fin
      refine ifI (fun c4 => ?_) (fun c4 => ?_)
      · rw [if_neg c3]
        refine u_262_161 ⟨by omega, _, rfl, by omega, by omega, _, rfl, by omega, ?_⟩
        exact fin _ _ (by omega) (by omega) (by rw [if_pos c4]) _ _ _ _ _
      · rw [if_neg c4] at fin
        refine ifI (fun c5 => ?_) (fun c5 => ?_)
        · refine ⟨by omega, _, rfl, by omega, _, rfl, by omega, ?_⟩
          exact fin _ _ (by omega) (by omega) (by rw [if_pos c5]) _ _ _ _ _
        · rw [if_neg c5] at fin
          refine ifI (fun c6 => ?_) (fun c6 => ?_)
          · refine ⟨by omega, _, rfl, by omega, _, rfl, by omega, ?_⟩
            exact fin _ _ (by omega) (by omega) (by rw [if_pos c6]) _ _ _ _ _
          · rw [if_neg c6] at fin
            have keep := fin (τ 89 (σ 83 22 - 2)) (τ 90 (σ 83 22 - 2)) (by rw [hp]; omega) (by rw [hq]; omega)
            rw [u1_id, uc_id, u1_id, uc_id, hp, hq] at keep
            refine ifI (fun c7 => ?_) (fun c7 => ?_)
            · rw [if_pos c7] at fin keep
              refine u_262_235 ⟨by omega, by omega, ?_⟩
              refine ifI (fun c => ?_) (fun c => ?_)
              · exact keep (by rw [if_pos (by omega)]) _ _ _ _ _
              · refine ⟨by omega, _, rfl, by omega, _, rfl, by omega, ?_⟩
                exact fin _ _ (by omega) (by omega) (by rw [if_neg (by omega)]) _ _ _ _ _
            · rw [if_neg c7] at fin keep
              refine u_262_235 ⟨by omega, by omega, ?_⟩
              refine ifI (fun c => ?_) (fun c => ?_)
              · exact keep (by rw [if_neg (by omega)]) _ _ _ _ _
              · refine ⟨by omega, _, rfl, by omega, _, rfl, by omega, ?_⟩
                exact fin _ _ (by omega) (by omega) (by rw [if_pos (by omega)]) _ _ _ _ _
  refine ⟨by omega, by omega, ?_⟩
  exact ifI (fun c => mid 0 (by omega) _) (fun c => mid 1 (by omega) _)
-- method 263: MillTownModel.asked(I)V
theorem c_263_0 : pg_cd 263 0 = (5, 1, 0, 0, 0) := by decide +kernel
theorem c_263_1 : pg_cd 263 1 = (33, 1, 0, 0, 0) := by decide +kernel
theorem c_263_2 : pg_cd 263 2 = (43, 12, 281, 22, 0) := by decide +kernel
theorem c_263_5 : pg_cd 263 5 = (1, 1, 0, 0, 2) := by decide +kernel
theorem c_263_6 : pg_cd 263 6 = (11, 1, 0, 0, 0) := by decide +kernel
theorem c_263_7 : pg_cd 263 7 = (46, 12, 281, 22, 0) := by decide +kernel
theorem c_263_10 : pg_cd 263 10 = (1, 1, 0, 0, 0) := by decide +kernel
theorem c_263_11 : pg_cd 263 11 = (6, 1, 0, 2, 0) := by decide +kernel
theorem c_263_12 : pg_cd 263 12 = (5, 1, 0, 0, 0) := by decide +kernel
theorem c_263_13 : pg_cd 263 13 = (45, 12, 37, 20, 0) := by decide +kernel
theorem c_263_16 : pg_cd 263 16 = (5, 1, 0, 0, 0) := by decide +kernel
theorem c_263_17 : pg_cd 263 17 = (43, 12, 281, 22, 0) := by decide +kernel
theorem c_263_20 : pg_cd 263 20 = (52, 1, 0, 0, 0) := by decide +kernel
theorem c_263_21 : pg_cd 263 21 = (2, 1, 0, 0, 0) := by decide +kernel
theorem c_263_22 : pg_cd 263 22 = (28, 1, 0, 0, 0) := by decide +kernel
theorem c_263_23 : pg_cd 263 23 = (36, 3, 0, 0, 182) := by decide +kernel
theorem c_263_26 : pg_cd 263 26 = (5, 1, 0, 0, 0) := by decide +kernel
theorem c_263_27 : pg_cd 263 27 = (45, 12, 37, 20, 0) := by decide +kernel
theorem c_263_30 : pg_cd 263 30 = (5, 1, 0, 0, 0) := by decide +kernel
theorem c_263_31 : pg_cd 263 31 = (43, 12, 281, 22, 0) := by decide +kernel
theorem c_263_34 : pg_cd 263 34 = (1, 1, 0, 0, 1) := by decide +kernel
theorem c_263_35 : pg_cd 263 35 = (10, 1, 0, 0, 0) := by decide +kernel
theorem c_263_36 : pg_cd 263 36 = (52, 1, 0, 0, 0) := by decide +kernel
theorem c_263_37 : pg_cd 263 37 = (2, 1, 0, 0, 0) := by decide +kernel
theorem c_263_38 : pg_cd 263 38 = (28, 1, 0, 0, 0) := by decide +kernel
theorem c_263_39 : pg_cd 263 39 = (36, 3, 0, 0, 166) := by decide +kernel
theorem c_263_42 : pg_cd 263 42 = (5, 1, 0, 0, 0) := by decide +kernel
theorem c_263_43 : pg_cd 263 43 = (45, 12, 33, 19, 0) := by decide +kernel
theorem c_263_46 : pg_cd 263 46 = (5, 1, 0, 0, 0) := by decide +kernel
theorem c_263_47 : pg_cd 263 47 = (43, 12, 281, 22, 0) := by decide +kernel
theorem c_263_50 : pg_cd 263 50 = (52, 1, 0, 0, 0) := by decide +kernel
theorem c_263_51 : pg_cd 263 51 = (5, 1, 0, 0, 0) := by decide +kernel
theorem c_263_52 : pg_cd 263 52 = (45, 12, 37, 20, 0) := by decide +kernel
theorem c_263_55 : pg_cd 263 55 = (5, 1, 0, 0, 0) := by decide +kernel
theorem c_263_56 : pg_cd 263 56 = (43, 12, 281, 22, 0) := by decide +kernel
theorem c_263_59 : pg_cd 263 59 = (1, 1, 0, 0, 1) := by decide +kernel
theorem c_263_60 : pg_cd 263 60 = (10, 1, 0, 0, 0) := by decide +kernel
theorem c_263_61 : pg_cd 263 61 = (52, 1, 0, 0, 0) := by decide +kernel
theorem c_263_62 : pg_cd 263 62 = (24, 1, 0, 0, 0) := by decide +kernel
theorem c_263_63 : pg_cd 263 63 = (7, 1, 0, 3, 0) := by decide +kernel
theorem c_263_64 : pg_cd 263 64 = (5, 1, 0, 0, 0) := by decide +kernel
theorem c_263_65 : pg_cd 263 65 = (45, 12, 33, 19, 0) := by decide +kernel
theorem c_263_68 : pg_cd 263 68 = (5, 1, 0, 0, 0) := by decide +kernel
theorem c_263_69 : pg_cd 263 69 = (43, 12, 281, 22, 0) := by decide +kernel
theorem c_263_72 : pg_cd 263 72 = (1, 1, 0, 0, 1) := by decide +kernel
theorem c_263_73 : pg_cd 263 73 = (10, 1, 0, 0, 0) := by decide +kernel
theorem c_263_74 : pg_cd 263 74 = (52, 1, 0, 0, 0) := by decide +kernel
theorem c_263_75 : pg_cd 263 75 = (5, 1, 0, 0, 0) := by decide +kernel
theorem c_263_76 : pg_cd 263 76 = (45, 12, 37, 20, 0) := by decide +kernel
theorem c_263_79 : pg_cd 263 79 = (5, 1, 0, 0, 0) := by decide +kernel
theorem c_263_80 : pg_cd 263 80 = (43, 12, 281, 22, 0) := by decide +kernel
theorem c_263_83 : pg_cd 263 83 = (52, 1, 0, 0, 0) := by decide +kernel
theorem c_263_84 : pg_cd 263 84 = (24, 1, 0, 0, 0) := by decide +kernel
theorem c_263_85 : pg_cd 263 85 = (7, 2, 0, 5, 0) := by decide +kernel
theorem c_263_87 : pg_cd 263 87 = (3, 1, 0, 1, 0) := by decide +kernel
theorem c_263_88 : pg_cd 263 88 = (1, 2, 0, 0, 10) := by decide +kernel
theorem c_263_90 : pg_cd 263 90 = (37, 3, 0, 1, 18) := by decide +kernel
theorem c_263_93 : pg_cd 263 93 = (4, 1, 0, 3, 0) := by decide +kernel
theorem c_263_94 : pg_cd 263 94 = (4, 2, 0, 5, 0) := by decide +kernel
theorem c_263_96 : pg_cd 263 96 = (28, 1, 0, 0, 0) := by decide +kernel
theorem c_263_97 : pg_cd 263 97 = (36, 3, 0, 3, 7) := by decide +kernel
theorem c_263_100 : pg_cd 263 100 = (1, 1, 0, 0, 1) := by decide +kernel
theorem c_263_101 : pg_cd 263 101 = (38, 3, 0, 0, 103) := by decide +kernel
theorem c_263_104 : pg_cd 263 104 = (1, 1, 0, 0, 0) := by decide +kernel
theorem c_263_105 : pg_cd 263 105 = (38, 3, 0, 0, 99) := by decide +kernel
theorem c_263_108 : pg_cd 263 108 = (3, 1, 0, 1, 0) := by decide +kernel
theorem c_263_109 : pg_cd 263 109 = (1, 2, 0, 0, 11) := by decide +kernel
theorem c_263_111 : pg_cd 263 111 = (37, 3, 0, 1, 18) := by decide +kernel
theorem c_263_114 : pg_cd 263 114 = (4, 1, 0, 3, 0) := by decide +kernel
theorem c_263_115 : pg_cd 263 115 = (4, 2, 0, 5, 0) := by decide +kernel
theorem c_263_117 : pg_cd 263 117 = (28, 1, 0, 0, 0) := by decide +kernel
theorem c_263_118 : pg_cd 263 118 = (36, 3, 0, 4, 7) := by decide +kernel
theorem c_263_121 : pg_cd 263 121 = (1, 1, 0, 0, 1) := by decide +kernel
theorem c_263_122 : pg_cd 263 122 = (38, 3, 0, 0, 82) := by decide +kernel
theorem c_263_125 : pg_cd 263 125 = (1, 1, 0, 0, 0) := by decide +kernel
theorem c_263_126 : pg_cd 263 126 = (38, 3, 0, 0, 78) := by decide +kernel
theorem c_263_129 : pg_cd 263 129 = (3, 1, 0, 1, 0) := by decide +kernel
theorem c_263_130 : pg_cd 263 130 = (1, 2, 0, 0, 12) := by decide +kernel
theorem c_263_132 : pg_cd 263 132 = (37, 3, 0, 1, 18) := by decide +kernel
theorem c_263_135 : pg_cd 263 135 = (4, 1, 0, 3, 0) := by decide +kernel
theorem c_263_136 : pg_cd 263 136 = (4, 2, 0, 5, 0) := by decide +kernel
theorem c_263_138 : pg_cd 263 138 = (28, 1, 0, 0, 0) := by decide +kernel
theorem c_263_139 : pg_cd 263 139 = (36, 3, 0, 5, 7) := by decide +kernel
theorem c_263_142 : pg_cd 263 142 = (1, 1, 0, 0, 1) := by decide +kernel
theorem c_263_143 : pg_cd 263 143 = (38, 3, 0, 0, 61) := by decide +kernel
theorem c_263_146 : pg_cd 263 146 = (1, 1, 0, 0, 0) := by decide +kernel
theorem c_263_147 : pg_cd 263 147 = (38, 3, 0, 0, 57) := by decide +kernel
theorem c_263_150 : pg_cd 263 150 = (3, 1, 0, 1, 0) := by decide +kernel
theorem c_263_151 : pg_cd 263 151 = (1, 2, 0, 0, 13) := by decide +kernel
theorem c_263_153 : pg_cd 263 153 = (37, 3, 0, 1, 18) := by decide +kernel
theorem c_263_156 : pg_cd 263 156 = (4, 1, 0, 3, 0) := by decide +kernel
theorem c_263_157 : pg_cd 263 157 = (4, 2, 0, 5, 0) := by decide +kernel
theorem c_263_159 : pg_cd 263 159 = (28, 1, 0, 0, 0) := by decide +kernel
theorem c_263_160 : pg_cd 263 160 = (36, 3, 0, 2, 7) := by decide +kernel
theorem c_263_163 : pg_cd 263 163 = (1, 1, 0, 0, 1) := by decide +kernel
theorem c_263_164 : pg_cd 263 164 = (38, 3, 0, 0, 40) := by decide +kernel
theorem c_263_167 : pg_cd 263 167 = (1, 1, 0, 0, 0) := by decide +kernel
theorem c_263_168 : pg_cd 263 168 = (38, 3, 0, 0, 36) := by decide +kernel
theorem c_263_171 : pg_cd 263 171 = (3, 1, 0, 1, 0) := by decide +kernel
theorem c_263_172 : pg_cd 263 172 = (1, 2, 0, 0, 14) := by decide +kernel
theorem c_263_174 : pg_cd 263 174 = (37, 3, 0, 1, 18) := by decide +kernel
theorem c_263_177 : pg_cd 263 177 = (4, 1, 0, 3, 0) := by decide +kernel
theorem c_263_178 : pg_cd 263 178 = (4, 2, 0, 5, 0) := by decide +kernel
theorem c_263_180 : pg_cd 263 180 = (28, 1, 0, 0, 0) := by decide +kernel
theorem c_263_181 : pg_cd 263 181 = (36, 3, 0, 1, 7) := by decide +kernel
theorem c_263_184 : pg_cd 263 184 = (1, 1, 0, 0, 1) := by decide +kernel
theorem c_263_185 : pg_cd 263 185 = (38, 3, 0, 0, 19) := by decide +kernel
theorem c_263_188 : pg_cd 263 188 = (1, 1, 0, 0, 0) := by decide +kernel
theorem c_263_189 : pg_cd 263 189 = (38, 3, 0, 0, 15) := by decide +kernel
theorem c_263_192 : pg_cd 263 192 = (4, 1, 0, 3, 0) := by decide +kernel
theorem c_263_193 : pg_cd 263 193 = (4, 2, 0, 5, 0) := by decide +kernel
theorem c_263_195 : pg_cd 263 195 = (28, 1, 0, 0, 0) := by decide +kernel
theorem c_263_196 : pg_cd 263 196 = (36, 3, 0, 0, 7) := by decide +kernel
theorem c_263_199 : pg_cd 263 199 = (1, 1, 0, 0, 1) := by decide +kernel
theorem c_263_200 : pg_cd 263 200 = (38, 3, 0, 0, 4) := by decide +kernel
theorem c_263_203 : pg_cd 263 203 = (1, 1, 0, 0, 0) := by decide +kernel
theorem c_263_204 : pg_cd 263 204 = (6, 1, 0, 2, 0) := by decide +kernel
theorem c_263_205 : pg_cd 263 205 = (5, 1, 0, 0, 0) := by decide +kernel
theorem c_263_206 : pg_cd 263 206 = (45, 12, 40, 21, 0) := by decide +kernel
theorem c_263_209 : pg_cd 263 209 = (5, 1, 0, 0, 0) := by decide +kernel
theorem c_263_210 : pg_cd 263 210 = (43, 12, 287, 23, 0) := by decide +kernel
theorem c_263_213 : pg_cd 263 213 = (3, 1, 0, 2, 0) := by decide +kernel
theorem c_263_214 : pg_cd 263 214 = (55, 1, 0, 0, 0) := by decide +kernel
theorem c_263_215 : pg_cd 263 215 = (5, 1, 0, 0, 0) := by decide +kernel
theorem c_263_216 : pg_cd 263 216 = (33, 1, 0, 0, 0) := by decide +kernel
theorem c_263_217 : pg_cd 263 217 = (43, 12, 287, 23, 0) := by decide +kernel
theorem c_263_220 : pg_cd 263 220 = (1, 1, 0, 0, 1) := by decide +kernel
theorem c_263_221 : pg_cd 263 221 = (10, 1, 0, 0, 0) := by decide +kernel
theorem c_263_222 : pg_cd 263 222 = (46, 12, 287, 23, 0) := by decide +kernel
theorem c_263_225 : pg_cd 263 225 = (94, 0, 0, 0, 0) := by decide +kernel
theorem mi_263 : pg_mc 263 = 12 ∧ pg_na 263 = 1 ∧ pg_mx 263 = 7 := by decide +kernel
set_option maxRecDepth 20000 in
theorem u_263_0 {d : Nat} {S : zS} {σ τ : zI} {Q : zQ} {x1 : Int} (t : ∃ w2 : Int, wI w2 = wI ((σ 83 22) - 2) ∧ rg w2 ∧ (0 ≤ w2 ∧ w2 < 320) ∧ if (τ 90 w2) = 0 then ((0 ≤ σ 83 23 ∧ σ 83 23 < 320) ∧ ∃ w10 : Int, wI w10 = wI ((σ 83 23) + 1) ∧ rg w10 ∧ Q none S (uc (uc σ 83 (u1 (u1 (σ 83) 22 w2) 23 w10)) 91 (u1 (σ 91) (σ 83 23) 0)) τ) else ((0 ≤ w2 + 1 ∧ w2 + 1 < 320) ∧ if (τ 90 (w2 + 1)) = 0 then ((0 ≤ σ 83 23 ∧ σ 83 23 < 320) ∧ ∃ w17 : Int, wI w17 = wI ((σ 83 23) + 1) ∧ rg w17 ∧ Q none S (uc (uc σ 83 (u1 (u1 (σ 83) 22 w2) 23 w17)) 91 (u1 (σ 91) (σ 83 23) 0)) τ) else ((rg x1) ∧ if x1 = 10 then ((rj ((τ 89 w2) * (τ 90 (w2 + 1)))) ∧ (rj ((τ 89 (w2 + 1)) * (τ 90 w2))) ∧ if ((τ 89 (w2 + 1)) * (τ 90 w2)) ≤ ((τ 89 w2) * (τ 90 (w2 + 1))) then ((0 ≤ σ 83 23 ∧ σ 83 23 < 320) ∧ ∃ w96 : Int, wI w96 = wI ((σ 83 23) + 1) ∧ rg w96 ∧ Q none S (uc (uc σ 83 (u1 (u1 (σ 83) 22 w2) 23 w96)) 91 (u1 (σ 91) (σ 83 23) 0)) τ) else ((0 ≤ σ 83 23 ∧ σ 83 23 < 320) ∧ ∃ w101 : Int, wI w101 = wI ((σ 83 23) + 1) ∧ rg w101 ∧ Q none S (uc (uc σ 83 (u1 (u1 (σ 83) 22 w2) 23 w101)) 91 (u1 (σ 91) (σ 83 23) 1)) τ)) else (if x1 = 11 then ((rj ((τ 89 w2) * (τ 90 (w2 + 1)))) ∧ (rj ((τ 89 (w2 + 1)) * (τ 90 w2))) ∧ if ((τ 89 (w2 + 1)) * (τ 90 w2)) < ((τ 89 w2) * (τ 90 (w2 + 1))) then ((0 ≤ σ 83 23 ∧ σ 83 23 < 320) ∧ ∃ w83 : Int, wI w83 = wI ((σ 83 23) + 1) ∧ rg w83 ∧ Q none S (uc (uc σ 83 (u1 (u1 (σ 83) 22 w2) 23 w83)) 91 (u1 (σ 91) (σ 83 23) 0)) τ) else ((0 ≤ σ 83 23 ∧ σ 83 23 < 320) ∧ ∃ w88 : Int, wI w88 = wI ((σ 83 23) + 1) ∧ rg w88 ∧ Q none S (uc (uc σ 83 (u1 (u1 (σ 83) 22 w2) 23 w88)) 91 (u1 (σ 91) (σ 83 23) 1)) τ)) else (if x1 = 12 then ((rj ((τ 89 w2) * (τ 90 (w2 + 1)))) ∧ (rj ((τ 89 (w2 + 1)) * (τ 90 w2))) ∧ if ((τ 89 w2) * (τ 90 (w2 + 1))) ≤ ((τ 89 (w2 + 1)) * (τ 90 w2)) then ((0 ≤ σ 83 23 ∧ σ 83 23 < 320) ∧ ∃ w70 : Int, wI w70 = wI ((σ 83 23) + 1) ∧ rg w70 ∧ Q none S (uc (uc σ 83 (u1 (u1 (σ 83) 22 w2) 23 w70)) 91 (u1 (σ 91) (σ 83 23) 0)) τ) else ((0 ≤ σ 83 23 ∧ σ 83 23 < 320) ∧ ∃ w75 : Int, wI w75 = wI ((σ 83 23) + 1) ∧ rg w75 ∧ Q none S (uc (uc σ 83 (u1 (u1 (σ 83) 22 w2) 23 w75)) 91 (u1 (σ 91) (σ 83 23) 1)) τ)) else (if x1 = 13 then ((rj ((τ 89 w2) * (τ 90 (w2 + 1)))) ∧ (rj ((τ 89 (w2 + 1)) * (τ 90 w2))) ∧ if ((τ 89 w2) * (τ 90 (w2 + 1))) < ((τ 89 (w2 + 1)) * (τ 90 w2)) then ((0 ≤ σ 83 23 ∧ σ 83 23 < 320) ∧ ∃ w57 : Int, wI w57 = wI ((σ 83 23) + 1) ∧ rg w57 ∧ Q none S (uc (uc σ 83 (u1 (u1 (σ 83) 22 w2) 23 w57)) 91 (u1 (σ 91) (σ 83 23) 0)) τ) else ((0 ≤ σ 83 23 ∧ σ 83 23 < 320) ∧ ∃ w62 : Int, wI w62 = wI ((σ 83 23) + 1) ∧ rg w62 ∧ Q none S (uc (uc σ 83 (u1 (u1 (σ 83) 22 w2) 23 w62)) 91 (u1 (σ 91) (σ 83 23) 1)) τ)) else (if x1 = 14 then ((rj ((τ 89 w2) * (τ 90 (w2 + 1)))) ∧ (rj ((τ 89 (w2 + 1)) * (τ 90 w2))) ∧ if ((τ 89 w2) * (τ 90 (w2 + 1))) = ((τ 89 (w2 + 1)) * (τ 90 w2)) then ((0 ≤ σ 83 23 ∧ σ 83 23 < 320) ∧ ∃ w49 : Int, wI w49 = wI ((σ 83 23) + 1) ∧ rg w49 ∧ Q none S (uc (uc σ 83 (u1 (u1 (σ 83) 22 w2) 23 w49)) 91 (u1 (σ 91) (σ 83 23) 1)) τ) else ((0 ≤ σ 83 23 ∧ σ 83 23 < 320) ∧ ∃ w44 : Int, wI w44 = wI ((σ 83 23) + 1) ∧ rg w44 ∧ Q none S (uc (uc σ 83 (u1 (u1 (σ 83) 22 w2) 23 w44)) 91 (u1 (σ 91) (σ 83 23) 0)) τ)) else ((rj ((τ 89 w2) * (τ 90 (w2 + 1)))) ∧ (rj ((τ 89 (w2 + 1)) * (τ 90 w2))) ∧ if ((τ 89 w2) * (τ 90 (w2 + 1))) = ((τ 89 (w2 + 1)) * (τ 90 w2)) then ((0 ≤ σ 83 23 ∧ σ 83 23 < 320) ∧ ∃ w31 : Int, wI w31 = wI ((σ 83 23) + 1) ∧ rg w31 ∧ Q none S (uc (uc σ 83 (u1 (u1 (σ 83) 22 w2) 23 w31)) 91 (u1 (σ 91) (σ 83 23) 0)) τ) else ((0 ≤ σ 83 23 ∧ σ 83 23 < 320) ∧ ∃ w36 : Int, wI w36 = wI ((σ 83 23) + 1) ∧ rg w36 ∧ Q none S (uc (uc σ 83 (u1 (u1 (σ 83) 22 w2) 23 w36)) 91 (u1 (σ 91) (σ 83 23) 1)) τ))))))))) : wi (d + 1) 263 0 [.ref 83, .int (wI x1), .retAddr 0, .retAddr 0, .retAddr 0, .retAddr 0, .retAddr 0] [] S σ τ Q := by
  refine i5 c_263_0 rfl (i33a c_263_1 (wi_ok (fun K1 => ?_)))
  obtain ⟨w2, e3, r4, t⟩ := t
  refine i43 (v := σ 83 22) c_263_2 (lo (c := 83) (kd := 112) (n := 0) rfl (by decide)) rfl (i1 c_263_5 (i11 c_263_6 (i46 (σ1 := uc σ 83 (u1 (σ 83) 22 w2)) c_263_7 (lo (c := 83) (kd := 112) (n := 0) rfl (by decide)) (by decide) e3 r4 (wr_ rfl rfl) (i1 c_263_10 (i6 (L' := [.ref 83, .int (wI x1), .int (wI 0), .retAddr 0, .retAddr 0, .retAddr 0, .retAddr 0]) c_263_11 rfl (i5 c_263_12 rfl (i45 c_263_13 (lo (c := 83) (kd := 112) (n := 0) rfl (by decide)) (lro (c := 83) (k := 20) (j := 90) (by decide)) (i5 c_263_16 rfl (wi_ok (fun K5 => ?_))))))))))
  obtain ⟨r6, t⟩ := t
  refine i43 (v := w2) c_263_17 (lo (c := 83) (kd := 112) (n := 0) rfl (by decide)) ((congrFun (uc_s _ _ _) _).trans (u1_s _ _ _)) (i52 (v := τ 90 w2) c_263_20 (lo (c := 90) (kd := 1) (n := 320) rfl (by decide)) (by decide) r6 rfl (i2 c_263_21 (i28 c_263_22 ?_)))
  refine i36l c_263_23 (rje_ K5 rfl) (by decide) rfl (fun hc => ?_) (fun hc => ?_)
  · have t := iT t hc
    have ha7 : (τ 90 w2) = 0 := hc
    obtain ⟨r8, t⟩ := t
    refine i5 c_263_205 rfl (i45 c_263_206 (lo (c := 83) (kd := 112) (n := 0) rfl (by decide)) (lro (c := 83) (k := 21) (j := 91) (by decide)) (i5 c_263_209 rfl (i43 (v := σ 83 23) c_263_210 (lo (c := 83) (kd := 112) (n := 0) rfl (by decide)) ((congrFun (uc_s _ _ _) _).trans (u1_n (by decide))) (i3 c_263_213 rfl (i55 (σ1 := uc (uc σ 83 (u1 (σ 83) 22 w2)) 91 (u1 (σ 91) (σ 83 23) 0)) c_263_214 (lo (c := 91) (kd := 2) (n := 320) rfl (by decide)) (by decide) r8 (by decide) rfl (by decide) (wr_ (uc_ns rfl (by decide)) rfl) (i5 c_263_215 rfl (i33a c_263_216 (wi_ok (fun K9 => ?_)))))))))
    obtain ⟨w10, e11, r12, t⟩ := t
    refine i43 (v := σ 83 23) c_263_217 (lo (c := 83) (kd := 112) (n := 0) rfl (by decide)) ((congrFun (uc_ns (uc_s _ _ _) (by decide)) _).trans (u1_n (by decide))) (i1 c_263_220 (i10 c_263_221 (i46 (σ1 := uc (uc σ 83 (u1 (u1 (σ 83) 22 w2) 23 w10)) 91 (u1 (σ 91) (σ 83 23) 0)) c_263_222 (lo (c := 83) (kd := 112) (n := 0) rfl (by decide)) (by decide) e11 r12 (wr_ (uc_ns (uc_s _ _ _) (by decide)) (uc_cm (uc_uc _ _ _ _) (by decide))) ?_)))
    exact i94 c_263_225 t
  · have t := iF t hc
    have ha7 : ¬ ((τ 90 w2) = 0) := hc
    obtain ⟨r13, t⟩ := t
    refine i5 c_263_26 rfl (i45 c_263_27 (lo (c := 83) (kd := 112) (n := 0) rfl (by decide)) (lro (c := 83) (k := 20) (j := 90) (by decide)) (i5 c_263_30 rfl (i43 (v := w2) c_263_31 (lo (c := 83) (kd := 112) (n := 0) rfl (by decide)) ((congrFun (uc_s _ _ _) _).trans (u1_s _ _ _)) (i1 c_263_34 (i10 c_263_35 (i52 (v := τ 90 (w2 + 1)) c_263_36 (lo (c := 90) (kd := 1) (n := 320) rfl (by decide)) (by decide) r13 rfl (i2 c_263_37 (i28 c_263_38 ?_))))))))
    refine i36l c_263_39 (rje_ K5 rfl) (by decide) rfl (fun hc => ?_) (fun hc => ?_)
    · have t := iT t hc
      have ha14 : (τ 90 (w2 + 1)) = 0 := hc
      obtain ⟨r15, t⟩ := t
      refine i5 c_263_205 rfl (i45 c_263_206 (lo (c := 83) (kd := 112) (n := 0) rfl (by decide)) (lro (c := 83) (k := 21) (j := 91) (by decide)) (i5 c_263_209 rfl (i43 (v := σ 83 23) c_263_210 (lo (c := 83) (kd := 112) (n := 0) rfl (by decide)) ((congrFun (uc_s _ _ _) _).trans (u1_n (by decide))) (i3 c_263_213 rfl (i55 (σ1 := uc (uc σ 83 (u1 (σ 83) 22 w2)) 91 (u1 (σ 91) (σ 83 23) 0)) c_263_214 (lo (c := 91) (kd := 2) (n := 320) rfl (by decide)) (by decide) r15 (by decide) rfl (by decide) (wr_ (uc_ns rfl (by decide)) rfl) (i5 c_263_215 rfl (i33a c_263_216 (wi_ok (fun K16 => ?_)))))))))
      obtain ⟨w17, e18, r19, t⟩ := t
      refine i43 (v := σ 83 23) c_263_217 (lo (c := 83) (kd := 112) (n := 0) rfl (by decide)) ((congrFun (uc_ns (uc_s _ _ _) (by decide)) _).trans (u1_n (by decide))) (i1 c_263_220 (i10 c_263_221 (i46 (σ1 := uc (uc σ 83 (u1 (u1 (σ 83) 22 w2) 23 w17)) 91 (u1 (σ 91) (σ 83 23) 0)) c_263_222 (lo (c := 83) (kd := 112) (n := 0) rfl (by decide)) (by decide) e18 r19 (wr_ (uc_ns (uc_s _ _ _) (by decide)) (uc_cm (uc_uc _ _ _ _) (by decide))) ?_)))
      exact i94 c_263_225 t
    · have t := iF t hc
      have ha14 : ¬ ((τ 90 (w2 + 1)) = 0) := hc
      obtain ⟨r20, t⟩ := t
      refine i5 c_263_42 rfl (i45 c_263_43 (lo (c := 83) (kd := 112) (n := 0) rfl (by decide)) (lro (c := 83) (k := 19) (j := 89) (by decide)) (i5 c_263_46 rfl (i43 (v := w2) c_263_47 (lo (c := 83) (kd := 112) (n := 0) rfl (by decide)) ((congrFun (uc_s _ _ _) _).trans (u1_s _ _ _)) (i52 (v := τ 89 w2) c_263_50 (lo (c := 89) (kd := 1) (n := 320) rfl (by decide)) (by decide) r6 rfl (i5 c_263_51 rfl (i45 c_263_52 (lo (c := 83) (kd := 112) (n := 0) rfl (by decide)) (lro (c := 83) (k := 20) (j := 90) (by decide)) (i5 c_263_55 rfl (i43 (v := w2) c_263_56 (lo (c := 83) (kd := 112) (n := 0) rfl (by decide)) ((congrFun (uc_s _ _ _) _).trans (u1_s _ _ _)) (i1 c_263_59 (i10 c_263_60 (i52 (v := τ 90 (w2 + 1)) c_263_61 (lo (c := 90) (kd := 1) (n := 320) rfl (by decide)) (by decide) r13 rfl (i24 c_263_62 (i7 (L' := [.ref 83, .int (wI x1), .int (wI 0), .long (wJ ((τ 89 w2) * (τ 90 (w2 + 1)))), .retAddr 0, .retAddr 0, .retAddr 0]) c_263_63 rfl (i5 c_263_64 rfl (i45 c_263_65 (lo (c := 83) (kd := 112) (n := 0) rfl (by decide)) (lro (c := 83) (k := 19) (j := 89) (by decide)) (i5 c_263_68 rfl (i43 (v := w2) c_263_69 (lo (c := 83) (kd := 112) (n := 0) rfl (by decide)) ((congrFun (uc_s _ _ _) _).trans (u1_s _ _ _)) (i1 c_263_72 (i10 c_263_73 (i52 (v := τ 89 (w2 + 1)) c_263_74 (lo (c := 89) (kd := 1) (n := 320) rfl (by decide)) (by decide) r13 rfl (i5 c_263_75 rfl (i45 c_263_76 (lo (c := 83) (kd := 112) (n := 0) rfl (by decide)) (lro (c := 83) (k := 20) (j := 90) (by decide)) (i5 c_263_79 rfl (i43 (v := w2) c_263_80 (lo (c := 83) (kd := 112) (n := 0) rfl (by decide)) ((congrFun (uc_s _ _ _) _).trans (u1_s _ _ _)) (i52 (v := τ 90 w2) c_263_83 (lo (c := 90) (kd := 1) (n := 320) rfl (by decide)) (by decide) r6 rfl (i24 c_263_84 (i7 (L' := [.ref 83, .int (wI x1), .int (wI 0), .long (wJ ((τ 89 w2) * (τ 90 (w2 + 1)))), .retAddr 0, .long (wJ ((τ 89 (w2 + 1)) * (τ 90 w2))), .retAddr 0]) c_263_85 rfl (i3 c_263_87 rfl (i1 c_263_88 ?_)))))))))))))))))))))))))))))
      refine i37 c_263_90 r20 (by decide) rfl (fun hc => ?_) (fun hc => ?_)
      · have t := iF t hc
        have ha21 : ¬ (x1 = 10) := hc
        refine i3 c_263_108 rfl (i1 c_263_109 ?_)
        refine i37 c_263_111 r20 (by decide) rfl (fun hc => ?_) (fun hc => ?_)
        · have t := iF t hc
          have ha22 : ¬ (x1 = 11) := hc
          refine i3 c_263_129 rfl (i1 c_263_130 ?_)
          refine i37 c_263_132 r20 (by decide) rfl (fun hc => ?_) (fun hc => ?_)
          · have t := iF t hc
            have ha23 : ¬ (x1 = 12) := hc
            refine i3 c_263_150 rfl (i1 c_263_151 ?_)
            refine i37 c_263_153 r20 (by decide) rfl (fun hc => ?_) (fun hc => ?_)
            · have t := iF t hc
              have ha24 : ¬ (x1 = 13) := hc
              refine i3 c_263_171 rfl (i1 c_263_172 ?_)
              refine i37 c_263_174 r20 (by decide) rfl (fun hc => ?_) (fun hc => ?_)
              · have t := iF t hc
                have ha25 : ¬ (x1 = 14) := hc
                obtain ⟨r26, t⟩ := t
                obtain ⟨r27, t⟩ := t
                refine i4 c_263_192 rfl (i4 c_263_193 rfl (i28 c_263_195 ?_))
                refine i36l c_263_196 r26 r27 rfl (fun hc => ?_) (fun hc => ?_)
                · have t := iT t hc
                  have ha28 : ((τ 89 w2) * (τ 90 (w2 + 1))) = ((τ 89 (w2 + 1)) * (τ 90 w2)) := hc
                  obtain ⟨r29, t⟩ := t
                  refine i1 c_263_203 (i6 (L' := [.ref 83, .int (wI x1), .int (wI 0), .long (wJ ((τ 89 w2) * (τ 90 (w2 + 1)))), .retAddr 0, .long (wJ ((τ 89 (w2 + 1)) * (τ 90 w2))), .retAddr 0]) c_263_204 rfl (i5 c_263_205 rfl (i45 c_263_206 (lo (c := 83) (kd := 112) (n := 0) rfl (by decide)) (lro (c := 83) (k := 21) (j := 91) (by decide)) (i5 c_263_209 rfl (i43 (v := σ 83 23) c_263_210 (lo (c := 83) (kd := 112) (n := 0) rfl (by decide)) ((congrFun (uc_s _ _ _) _).trans (u1_n (by decide))) (i3 c_263_213 rfl (i55 (σ1 := uc (uc σ 83 (u1 (σ 83) 22 w2)) 91 (u1 (σ 91) (σ 83 23) 0)) c_263_214 (lo (c := 91) (kd := 2) (n := 320) rfl (by decide)) (by decide) r29 (by decide) rfl (by decide) (wr_ (uc_ns rfl (by decide)) rfl) (i5 c_263_215 rfl (i33a c_263_216 (wi_ok (fun K30 => ?_)))))))))))
                  obtain ⟨w31, e32, r33, t⟩ := t
                  refine i43 (v := σ 83 23) c_263_217 (lo (c := 83) (kd := 112) (n := 0) rfl (by decide)) ((congrFun (uc_ns (uc_s _ _ _) (by decide)) _).trans (u1_n (by decide))) (i1 c_263_220 (i10 c_263_221 (i46 (σ1 := uc (uc σ 83 (u1 (u1 (σ 83) 22 w2) 23 w31)) 91 (u1 (σ 91) (σ 83 23) 0)) c_263_222 (lo (c := 83) (kd := 112) (n := 0) rfl (by decide)) (by decide) e32 r33 (wr_ (uc_ns (uc_s _ _ _) (by decide)) (uc_cm (uc_uc _ _ _ _) (by decide))) ?_)))
                  exact i94 c_263_225 t
                · have t := iF t hc
                  have ha28 : ¬ (((τ 89 w2) * (τ 90 (w2 + 1))) = ((τ 89 (w2 + 1)) * (τ 90 w2))) := hc
                  obtain ⟨r34, t⟩ := t
                  refine i1 c_263_199 (i38 c_263_200 rfl (i6 (L' := [.ref 83, .int (wI x1), .int (wI 1), .long (wJ ((τ 89 w2) * (τ 90 (w2 + 1)))), .retAddr 0, .long (wJ ((τ 89 (w2 + 1)) * (τ 90 w2))), .retAddr 0]) c_263_204 rfl (i5 c_263_205 rfl (i45 c_263_206 (lo (c := 83) (kd := 112) (n := 0) rfl (by decide)) (lro (c := 83) (k := 21) (j := 91) (by decide)) (i5 c_263_209 rfl (i43 (v := σ 83 23) c_263_210 (lo (c := 83) (kd := 112) (n := 0) rfl (by decide)) ((congrFun (uc_s _ _ _) _).trans (u1_n (by decide))) (i3 c_263_213 rfl (i55 (σ1 := uc (uc σ 83 (u1 (σ 83) 22 w2)) 91 (u1 (σ 91) (σ 83 23) 1)) c_263_214 (lo (c := 91) (kd := 2) (n := 320) rfl (by decide)) (by decide) r34 (by decide) rfl (by decide) (wr_ (uc_ns rfl (by decide)) rfl) (i5 c_263_215 rfl (i33a c_263_216 (wi_ok (fun K35 => ?_))))))))))))
                  obtain ⟨w36, e37, r38, t⟩ := t
                  refine i43 (v := σ 83 23) c_263_217 (lo (c := 83) (kd := 112) (n := 0) rfl (by decide)) ((congrFun (uc_ns (uc_s _ _ _) (by decide)) _).trans (u1_n (by decide))) (i1 c_263_220 (i10 c_263_221 (i46 (σ1 := uc (uc σ 83 (u1 (u1 (σ 83) 22 w2) 23 w36)) 91 (u1 (σ 91) (σ 83 23) 1)) c_263_222 (lo (c := 83) (kd := 112) (n := 0) rfl (by decide)) (by decide) e37 r38 (wr_ (uc_ns (uc_s _ _ _) (by decide)) (uc_cm (uc_uc _ _ _ _) (by decide))) ?_)))
                  exact i94 c_263_225 t
              · have t := iT t (Decidable.not_not.mp hc)
                have ha25 : x1 = 14 := Decidable.not_not.mp hc
                obtain ⟨r39, t⟩ := t
                obtain ⟨r40, t⟩ := t
                refine i4 c_263_177 rfl (i4 c_263_178 rfl (i28 c_263_180 ?_))
                refine i36l c_263_181 r39 r40 rfl (fun hc => ?_) (fun hc => ?_)
                · have t := iF t hc
                  have ha41 : ¬ (((τ 89 w2) * (τ 90 (w2 + 1))) = ((τ 89 (w2 + 1)) * (τ 90 w2))) := hc
                  obtain ⟨r42, t⟩ := t
                  refine i1 c_263_188 (i38 c_263_189 rfl (i6 (L' := [.ref 83, .int (wI x1), .int (wI 0), .long (wJ ((τ 89 w2) * (τ 90 (w2 + 1)))), .retAddr 0, .long (wJ ((τ 89 (w2 + 1)) * (τ 90 w2))), .retAddr 0]) c_263_204 rfl (i5 c_263_205 rfl (i45 c_263_206 (lo (c := 83) (kd := 112) (n := 0) rfl (by decide)) (lro (c := 83) (k := 21) (j := 91) (by decide)) (i5 c_263_209 rfl (i43 (v := σ 83 23) c_263_210 (lo (c := 83) (kd := 112) (n := 0) rfl (by decide)) ((congrFun (uc_s _ _ _) _).trans (u1_n (by decide))) (i3 c_263_213 rfl (i55 (σ1 := uc (uc σ 83 (u1 (σ 83) 22 w2)) 91 (u1 (σ 91) (σ 83 23) 0)) c_263_214 (lo (c := 91) (kd := 2) (n := 320) rfl (by decide)) (by decide) r42 (by decide) rfl (by decide) (wr_ (uc_ns rfl (by decide)) rfl) (i5 c_263_215 rfl (i33a c_263_216 (wi_ok (fun K43 => ?_))))))))))))
                  obtain ⟨w44, e45, r46, t⟩ := t
                  refine i43 (v := σ 83 23) c_263_217 (lo (c := 83) (kd := 112) (n := 0) rfl (by decide)) ((congrFun (uc_ns (uc_s _ _ _) (by decide)) _).trans (u1_n (by decide))) (i1 c_263_220 (i10 c_263_221 (i46 (σ1 := uc (uc σ 83 (u1 (u1 (σ 83) 22 w2) 23 w44)) 91 (u1 (σ 91) (σ 83 23) 0)) c_263_222 (lo (c := 83) (kd := 112) (n := 0) rfl (by decide)) (by decide) e45 r46 (wr_ (uc_ns (uc_s _ _ _) (by decide)) (uc_cm (uc_uc _ _ _ _) (by decide))) ?_)))
                  exact i94 c_263_225 t
                · have t := iT t (Decidable.not_not.mp hc)
                  have ha41 : ((τ 89 w2) * (τ 90 (w2 + 1))) = ((τ 89 (w2 + 1)) * (τ 90 w2)) := Decidable.not_not.mp hc
                  obtain ⟨r47, t⟩ := t
                  refine i1 c_263_184 (i38 c_263_185 rfl (i6 (L' := [.ref 83, .int (wI x1), .int (wI 1), .long (wJ ((τ 89 w2) * (τ 90 (w2 + 1)))), .retAddr 0, .long (wJ ((τ 89 (w2 + 1)) * (τ 90 w2))), .retAddr 0]) c_263_204 rfl (i5 c_263_205 rfl (i45 c_263_206 (lo (c := 83) (kd := 112) (n := 0) rfl (by decide)) (lro (c := 83) (k := 21) (j := 91) (by decide)) (i5 c_263_209 rfl (i43 (v := σ 83 23) c_263_210 (lo (c := 83) (kd := 112) (n := 0) rfl (by decide)) ((congrFun (uc_s _ _ _) _).trans (u1_n (by decide))) (i3 c_263_213 rfl (i55 (σ1 := uc (uc σ 83 (u1 (σ 83) 22 w2)) 91 (u1 (σ 91) (σ 83 23) 1)) c_263_214 (lo (c := 91) (kd := 2) (n := 320) rfl (by decide)) (by decide) r47 (by decide) rfl (by decide) (wr_ (uc_ns rfl (by decide)) rfl) (i5 c_263_215 rfl (i33a c_263_216 (wi_ok (fun K48 => ?_))))))))))))
                  obtain ⟨w49, e50, r51, t⟩ := t
                  refine i43 (v := σ 83 23) c_263_217 (lo (c := 83) (kd := 112) (n := 0) rfl (by decide)) ((congrFun (uc_ns (uc_s _ _ _) (by decide)) _).trans (u1_n (by decide))) (i1 c_263_220 (i10 c_263_221 (i46 (σ1 := uc (uc σ 83 (u1 (u1 (σ 83) 22 w2) 23 w49)) 91 (u1 (σ 91) (σ 83 23) 1)) c_263_222 (lo (c := 83) (kd := 112) (n := 0) rfl (by decide)) (by decide) e50 r51 (wr_ (uc_ns (uc_s _ _ _) (by decide)) (uc_cm (uc_uc _ _ _ _) (by decide))) ?_)))
                  exact i94 c_263_225 t
            · have t := iT t (Decidable.not_not.mp hc)
              have ha24 : x1 = 13 := Decidable.not_not.mp hc
              obtain ⟨r52, t⟩ := t
              obtain ⟨r53, t⟩ := t
              refine i4 c_263_156 rfl (i4 c_263_157 rfl (i28 c_263_159 ?_))
              refine i36l c_263_160 r52 r53 rfl (fun hc => ?_) (fun hc => ?_)
              · have t := iT t hc
                have ha54 : ((τ 89 w2) * (τ 90 (w2 + 1))) < ((τ 89 (w2 + 1)) * (τ 90 w2)) := hc
                obtain ⟨r55, t⟩ := t
                refine i1 c_263_167 (i38 c_263_168 rfl (i6 (L' := [.ref 83, .int (wI x1), .int (wI 0), .long (wJ ((τ 89 w2) * (τ 90 (w2 + 1)))), .retAddr 0, .long (wJ ((τ 89 (w2 + 1)) * (τ 90 w2))), .retAddr 0]) c_263_204 rfl (i5 c_263_205 rfl (i45 c_263_206 (lo (c := 83) (kd := 112) (n := 0) rfl (by decide)) (lro (c := 83) (k := 21) (j := 91) (by decide)) (i5 c_263_209 rfl (i43 (v := σ 83 23) c_263_210 (lo (c := 83) (kd := 112) (n := 0) rfl (by decide)) ((congrFun (uc_s _ _ _) _).trans (u1_n (by decide))) (i3 c_263_213 rfl (i55 (σ1 := uc (uc σ 83 (u1 (σ 83) 22 w2)) 91 (u1 (σ 91) (σ 83 23) 0)) c_263_214 (lo (c := 91) (kd := 2) (n := 320) rfl (by decide)) (by decide) r55 (by decide) rfl (by decide) (wr_ (uc_ns rfl (by decide)) rfl) (i5 c_263_215 rfl (i33a c_263_216 (wi_ok (fun K56 => ?_))))))))))))
                obtain ⟨w57, e58, r59, t⟩ := t
                refine i43 (v := σ 83 23) c_263_217 (lo (c := 83) (kd := 112) (n := 0) rfl (by decide)) ((congrFun (uc_ns (uc_s _ _ _) (by decide)) _).trans (u1_n (by decide))) (i1 c_263_220 (i10 c_263_221 (i46 (σ1 := uc (uc σ 83 (u1 (u1 (σ 83) 22 w2) 23 w57)) 91 (u1 (σ 91) (σ 83 23) 0)) c_263_222 (lo (c := 83) (kd := 112) (n := 0) rfl (by decide)) (by decide) e58 r59 (wr_ (uc_ns (uc_s _ _ _) (by decide)) (uc_cm (uc_uc _ _ _ _) (by decide))) ?_)))
                exact i94 c_263_225 t
              · have t := iF t hc
                have ha54 : ¬ (((τ 89 w2) * (τ 90 (w2 + 1))) < ((τ 89 (w2 + 1)) * (τ 90 w2))) := hc
                obtain ⟨r60, t⟩ := t
                refine i1 c_263_163 (i38 c_263_164 rfl (i6 (L' := [.ref 83, .int (wI x1), .int (wI 1), .long (wJ ((τ 89 w2) * (τ 90 (w2 + 1)))), .retAddr 0, .long (wJ ((τ 89 (w2 + 1)) * (τ 90 w2))), .retAddr 0]) c_263_204 rfl (i5 c_263_205 rfl (i45 c_263_206 (lo (c := 83) (kd := 112) (n := 0) rfl (by decide)) (lro (c := 83) (k := 21) (j := 91) (by decide)) (i5 c_263_209 rfl (i43 (v := σ 83 23) c_263_210 (lo (c := 83) (kd := 112) (n := 0) rfl (by decide)) ((congrFun (uc_s _ _ _) _).trans (u1_n (by decide))) (i3 c_263_213 rfl (i55 (σ1 := uc (uc σ 83 (u1 (σ 83) 22 w2)) 91 (u1 (σ 91) (σ 83 23) 1)) c_263_214 (lo (c := 91) (kd := 2) (n := 320) rfl (by decide)) (by decide) r60 (by decide) rfl (by decide) (wr_ (uc_ns rfl (by decide)) rfl) (i5 c_263_215 rfl (i33a c_263_216 (wi_ok (fun K61 => ?_))))))))))))
                obtain ⟨w62, e63, r64, t⟩ := t
                refine i43 (v := σ 83 23) c_263_217 (lo (c := 83) (kd := 112) (n := 0) rfl (by decide)) ((congrFun (uc_ns (uc_s _ _ _) (by decide)) _).trans (u1_n (by decide))) (i1 c_263_220 (i10 c_263_221 (i46 (σ1 := uc (uc σ 83 (u1 (u1 (σ 83) 22 w2) 23 w62)) 91 (u1 (σ 91) (σ 83 23) 1)) c_263_222 (lo (c := 83) (kd := 112) (n := 0) rfl (by decide)) (by decide) e63 r64 (wr_ (uc_ns (uc_s _ _ _) (by decide)) (uc_cm (uc_uc _ _ _ _) (by decide))) ?_)))
                exact i94 c_263_225 t
          · have t := iT t (Decidable.not_not.mp hc)
            have ha23 : x1 = 12 := Decidable.not_not.mp hc
            obtain ⟨r65, t⟩ := t
            obtain ⟨r66, t⟩ := t
            refine i4 c_263_135 rfl (i4 c_263_136 rfl (i28 c_263_138 ?_))
            refine i36l c_263_139 r65 r66 rfl (fun hc => ?_) (fun hc => ?_)
            · have t := iT t hc
              have ha67 : ((τ 89 w2) * (τ 90 (w2 + 1))) ≤ ((τ 89 (w2 + 1)) * (τ 90 w2)) := hc
              obtain ⟨r68, t⟩ := t
              refine i1 c_263_146 (i38 c_263_147 rfl (i6 (L' := [.ref 83, .int (wI x1), .int (wI 0), .long (wJ ((τ 89 w2) * (τ 90 (w2 + 1)))), .retAddr 0, .long (wJ ((τ 89 (w2 + 1)) * (τ 90 w2))), .retAddr 0]) c_263_204 rfl (i5 c_263_205 rfl (i45 c_263_206 (lo (c := 83) (kd := 112) (n := 0) rfl (by decide)) (lro (c := 83) (k := 21) (j := 91) (by decide)) (i5 c_263_209 rfl (i43 (v := σ 83 23) c_263_210 (lo (c := 83) (kd := 112) (n := 0) rfl (by decide)) ((congrFun (uc_s _ _ _) _).trans (u1_n (by decide))) (i3 c_263_213 rfl (i55 (σ1 := uc (uc σ 83 (u1 (σ 83) 22 w2)) 91 (u1 (σ 91) (σ 83 23) 0)) c_263_214 (lo (c := 91) (kd := 2) (n := 320) rfl (by decide)) (by decide) r68 (by decide) rfl (by decide) (wr_ (uc_ns rfl (by decide)) rfl) (i5 c_263_215 rfl (i33a c_263_216 (wi_ok (fun K69 => ?_))))))))))))
              obtain ⟨w70, e71, r72, t⟩ := t
              refine i43 (v := σ 83 23) c_263_217 (lo (c := 83) (kd := 112) (n := 0) rfl (by decide)) ((congrFun (uc_ns (uc_s _ _ _) (by decide)) _).trans (u1_n (by decide))) (i1 c_263_220 (i10 c_263_221 (i46 (σ1 := uc (uc σ 83 (u1 (u1 (σ 83) 22 w2) 23 w70)) 91 (u1 (σ 91) (σ 83 23) 0)) c_263_222 (lo (c := 83) (kd := 112) (n := 0) rfl (by decide)) (by decide) e71 r72 (wr_ (uc_ns (uc_s _ _ _) (by decide)) (uc_cm (uc_uc _ _ _ _) (by decide))) ?_)))
              exact i94 c_263_225 t
            · have t := iF t hc
              have ha67 : ¬ (((τ 89 w2) * (τ 90 (w2 + 1))) ≤ ((τ 89 (w2 + 1)) * (τ 90 w2))) := hc
              obtain ⟨r73, t⟩ := t
              refine i1 c_263_142 (i38 c_263_143 rfl (i6 (L' := [.ref 83, .int (wI x1), .int (wI 1), .long (wJ ((τ 89 w2) * (τ 90 (w2 + 1)))), .retAddr 0, .long (wJ ((τ 89 (w2 + 1)) * (τ 90 w2))), .retAddr 0]) c_263_204 rfl (i5 c_263_205 rfl (i45 c_263_206 (lo (c := 83) (kd := 112) (n := 0) rfl (by decide)) (lro (c := 83) (k := 21) (j := 91) (by decide)) (i5 c_263_209 rfl (i43 (v := σ 83 23) c_263_210 (lo (c := 83) (kd := 112) (n := 0) rfl (by decide)) ((congrFun (uc_s _ _ _) _).trans (u1_n (by decide))) (i3 c_263_213 rfl (i55 (σ1 := uc (uc σ 83 (u1 (σ 83) 22 w2)) 91 (u1 (σ 91) (σ 83 23) 1)) c_263_214 (lo (c := 91) (kd := 2) (n := 320) rfl (by decide)) (by decide) r73 (by decide) rfl (by decide) (wr_ (uc_ns rfl (by decide)) rfl) (i5 c_263_215 rfl (i33a c_263_216 (wi_ok (fun K74 => ?_))))))))))))
              obtain ⟨w75, e76, r77, t⟩ := t
              refine i43 (v := σ 83 23) c_263_217 (lo (c := 83) (kd := 112) (n := 0) rfl (by decide)) ((congrFun (uc_ns (uc_s _ _ _) (by decide)) _).trans (u1_n (by decide))) (i1 c_263_220 (i10 c_263_221 (i46 (σ1 := uc (uc σ 83 (u1 (u1 (σ 83) 22 w2) 23 w75)) 91 (u1 (σ 91) (σ 83 23) 1)) c_263_222 (lo (c := 83) (kd := 112) (n := 0) rfl (by decide)) (by decide) e76 r77 (wr_ (uc_ns (uc_s _ _ _) (by decide)) (uc_cm (uc_uc _ _ _ _) (by decide))) ?_)))
              exact i94 c_263_225 t
        · have t := iT t (Decidable.not_not.mp hc)
          have ha22 : x1 = 11 := Decidable.not_not.mp hc
          obtain ⟨r78, t⟩ := t
          obtain ⟨r79, t⟩ := t
          refine i4 c_263_114 rfl (i4 c_263_115 rfl (i28 c_263_117 ?_))
          refine i36l c_263_118 r78 r79 rfl (fun hc => ?_) (fun hc => ?_)
          · have t := iT t hc
            have ha80 : ((τ 89 (w2 + 1)) * (τ 90 w2)) < ((τ 89 w2) * (τ 90 (w2 + 1))) := hc
            obtain ⟨r81, t⟩ := t
            refine i1 c_263_125 (i38 c_263_126 rfl (i6 (L' := [.ref 83, .int (wI x1), .int (wI 0), .long (wJ ((τ 89 w2) * (τ 90 (w2 + 1)))), .retAddr 0, .long (wJ ((τ 89 (w2 + 1)) * (τ 90 w2))), .retAddr 0]) c_263_204 rfl (i5 c_263_205 rfl (i45 c_263_206 (lo (c := 83) (kd := 112) (n := 0) rfl (by decide)) (lro (c := 83) (k := 21) (j := 91) (by decide)) (i5 c_263_209 rfl (i43 (v := σ 83 23) c_263_210 (lo (c := 83) (kd := 112) (n := 0) rfl (by decide)) ((congrFun (uc_s _ _ _) _).trans (u1_n (by decide))) (i3 c_263_213 rfl (i55 (σ1 := uc (uc σ 83 (u1 (σ 83) 22 w2)) 91 (u1 (σ 91) (σ 83 23) 0)) c_263_214 (lo (c := 91) (kd := 2) (n := 320) rfl (by decide)) (by decide) r81 (by decide) rfl (by decide) (wr_ (uc_ns rfl (by decide)) rfl) (i5 c_263_215 rfl (i33a c_263_216 (wi_ok (fun K82 => ?_))))))))))))
            obtain ⟨w83, e84, r85, t⟩ := t
            refine i43 (v := σ 83 23) c_263_217 (lo (c := 83) (kd := 112) (n := 0) rfl (by decide)) ((congrFun (uc_ns (uc_s _ _ _) (by decide)) _).trans (u1_n (by decide))) (i1 c_263_220 (i10 c_263_221 (i46 (σ1 := uc (uc σ 83 (u1 (u1 (σ 83) 22 w2) 23 w83)) 91 (u1 (σ 91) (σ 83 23) 0)) c_263_222 (lo (c := 83) (kd := 112) (n := 0) rfl (by decide)) (by decide) e84 r85 (wr_ (uc_ns (uc_s _ _ _) (by decide)) (uc_cm (uc_uc _ _ _ _) (by decide))) ?_)))
            exact i94 c_263_225 t
          · have t := iF t hc
            have ha80 : ¬ (((τ 89 (w2 + 1)) * (τ 90 w2)) < ((τ 89 w2) * (τ 90 (w2 + 1)))) := hc
            obtain ⟨r86, t⟩ := t
            refine i1 c_263_121 (i38 c_263_122 rfl (i6 (L' := [.ref 83, .int (wI x1), .int (wI 1), .long (wJ ((τ 89 w2) * (τ 90 (w2 + 1)))), .retAddr 0, .long (wJ ((τ 89 (w2 + 1)) * (τ 90 w2))), .retAddr 0]) c_263_204 rfl (i5 c_263_205 rfl (i45 c_263_206 (lo (c := 83) (kd := 112) (n := 0) rfl (by decide)) (lro (c := 83) (k := 21) (j := 91) (by decide)) (i5 c_263_209 rfl (i43 (v := σ 83 23) c_263_210 (lo (c := 83) (kd := 112) (n := 0) rfl (by decide)) ((congrFun (uc_s _ _ _) _).trans (u1_n (by decide))) (i3 c_263_213 rfl (i55 (σ1 := uc (uc σ 83 (u1 (σ 83) 22 w2)) 91 (u1 (σ 91) (σ 83 23) 1)) c_263_214 (lo (c := 91) (kd := 2) (n := 320) rfl (by decide)) (by decide) r86 (by decide) rfl (by decide) (wr_ (uc_ns rfl (by decide)) rfl) (i5 c_263_215 rfl (i33a c_263_216 (wi_ok (fun K87 => ?_))))))))))))
            obtain ⟨w88, e89, r90, t⟩ := t
            refine i43 (v := σ 83 23) c_263_217 (lo (c := 83) (kd := 112) (n := 0) rfl (by decide)) ((congrFun (uc_ns (uc_s _ _ _) (by decide)) _).trans (u1_n (by decide))) (i1 c_263_220 (i10 c_263_221 (i46 (σ1 := uc (uc σ 83 (u1 (u1 (σ 83) 22 w2) 23 w88)) 91 (u1 (σ 91) (σ 83 23) 1)) c_263_222 (lo (c := 83) (kd := 112) (n := 0) rfl (by decide)) (by decide) e89 r90 (wr_ (uc_ns (uc_s _ _ _) (by decide)) (uc_cm (uc_uc _ _ _ _) (by decide))) ?_)))
            exact i94 c_263_225 t
      · have t := iT t (Decidable.not_not.mp hc)
        have ha21 : x1 = 10 := Decidable.not_not.mp hc
        obtain ⟨r91, t⟩ := t
        obtain ⟨r92, t⟩ := t
        refine i4 c_263_93 rfl (i4 c_263_94 rfl (i28 c_263_96 ?_))
        refine i36l c_263_97 r91 r92 rfl (fun hc => ?_) (fun hc => ?_)
        · have t := iT t hc
          have ha93 : ((τ 89 (w2 + 1)) * (τ 90 w2)) ≤ ((τ 89 w2) * (τ 90 (w2 + 1))) := hc
          obtain ⟨r94, t⟩ := t
          refine i1 c_263_104 (i38 c_263_105 rfl (i6 (L' := [.ref 83, .int (wI x1), .int (wI 0), .long (wJ ((τ 89 w2) * (τ 90 (w2 + 1)))), .retAddr 0, .long (wJ ((τ 89 (w2 + 1)) * (τ 90 w2))), .retAddr 0]) c_263_204 rfl (i5 c_263_205 rfl (i45 c_263_206 (lo (c := 83) (kd := 112) (n := 0) rfl (by decide)) (lro (c := 83) (k := 21) (j := 91) (by decide)) (i5 c_263_209 rfl (i43 (v := σ 83 23) c_263_210 (lo (c := 83) (kd := 112) (n := 0) rfl (by decide)) ((congrFun (uc_s _ _ _) _).trans (u1_n (by decide))) (i3 c_263_213 rfl (i55 (σ1 := uc (uc σ 83 (u1 (σ 83) 22 w2)) 91 (u1 (σ 91) (σ 83 23) 0)) c_263_214 (lo (c := 91) (kd := 2) (n := 320) rfl (by decide)) (by decide) r94 (by decide) rfl (by decide) (wr_ (uc_ns rfl (by decide)) rfl) (i5 c_263_215 rfl (i33a c_263_216 (wi_ok (fun K95 => ?_))))))))))))
          obtain ⟨w96, e97, r98, t⟩ := t
          refine i43 (v := σ 83 23) c_263_217 (lo (c := 83) (kd := 112) (n := 0) rfl (by decide)) ((congrFun (uc_ns (uc_s _ _ _) (by decide)) _).trans (u1_n (by decide))) (i1 c_263_220 (i10 c_263_221 (i46 (σ1 := uc (uc σ 83 (u1 (u1 (σ 83) 22 w2) 23 w96)) 91 (u1 (σ 91) (σ 83 23) 0)) c_263_222 (lo (c := 83) (kd := 112) (n := 0) rfl (by decide)) (by decide) e97 r98 (wr_ (uc_ns (uc_s _ _ _) (by decide)) (uc_cm (uc_uc _ _ _ _) (by decide))) ?_)))
          exact i94 c_263_225 t
        · have t := iF t hc
          have ha93 : ¬ (((τ 89 (w2 + 1)) * (τ 90 w2)) ≤ ((τ 89 w2) * (τ 90 (w2 + 1)))) := hc
          obtain ⟨r99, t⟩ := t
          refine i1 c_263_100 (i38 c_263_101 rfl (i6 (L' := [.ref 83, .int (wI x1), .int (wI 1), .long (wJ ((τ 89 w2) * (τ 90 (w2 + 1)))), .retAddr 0, .long (wJ ((τ 89 (w2 + 1)) * (τ 90 w2))), .retAddr 0]) c_263_204 rfl (i5 c_263_205 rfl (i45 c_263_206 (lo (c := 83) (kd := 112) (n := 0) rfl (by decide)) (lro (c := 83) (k := 21) (j := 91) (by decide)) (i5 c_263_209 rfl (i43 (v := σ 83 23) c_263_210 (lo (c := 83) (kd := 112) (n := 0) rfl (by decide)) ((congrFun (uc_s _ _ _) _).trans (u1_n (by decide))) (i3 c_263_213 rfl (i55 (σ1 := uc (uc σ 83 (u1 (σ 83) 22 w2)) 91 (u1 (σ 91) (σ 83 23) 1)) c_263_214 (lo (c := 91) (kd := 2) (n := 320) rfl (by decide)) (by decide) r99 (by decide) rfl (by decide) (wr_ (uc_ns rfl (by decide)) rfl) (i5 c_263_215 rfl (i33a c_263_216 (wi_ok (fun K100 => ?_))))))))))))
          obtain ⟨w101, e102, r103, t⟩ := t
          refine i43 (v := σ 83 23) c_263_217 (lo (c := 83) (kd := 112) (n := 0) rfl (by decide)) ((congrFun (uc_ns (uc_s _ _ _) (by decide)) _).trans (u1_n (by decide))) (i1 c_263_220 (i10 c_263_221 (i46 (σ1 := uc (uc σ 83 (u1 (u1 (σ 83) 22 w2) 23 w101)) 91 (u1 (σ 91) (σ 83 23) 1)) c_263_222 (lo (c := 83) (kd := 112) (n := 0) rfl (by decide)) (by decide) e102 r103 (wr_ (uc_ns (uc_s _ _ _) (by decide)) (uc_cm (uc_uc _ _ _ _) (by decide))) ?_)))
          exact i94 c_263_225 t
theorem q_263 {d : Nat} {S : zS} {σ τ : zI} {Q : zQ} {o : Int} (p0 : (10 : Int) ≤ o ∧ o ≤ (15 : Int)) (p1 : 2 ≤ σ 83 22 ∧ σ 83 22 ≤ 320) (p2 : 0 ≤ σ 83 23 ∧ σ 83 23 < 320) (p3 : frO (τ 89 (σ 83 22 - 2)) (τ 90 (σ 83 22 - 2))) (p4 : frO (τ 89 (σ 83 22 - 1)) (τ 90 (σ 83 22 - 1))) (t : Q none S (uc (uc σ 83 (u1 (u1 (σ 83) 22 (σ 83 22 - 2)) 23 (σ 83 23 + 1))) 91 (u1 (σ 91) (σ 83 23) (b1_ (cm2 o (τ 89 (σ 83 22 - 2)) (τ 90 (σ 83 22 - 2)) (τ 89 (σ 83 22 - 1)) (τ 90 (σ 83 22 - 1)))))) τ) : wc (d + 1) 263 [.ref 83, .int (wI o)] S σ τ Q := by
  have n1 : σ 83 22 - 2 + 1 = σ 83 22 - 1 := by omega
  refine wc_of mi_263 rfl (u_263_0 ⟨_, rfl, by omega, ?_⟩)
  rw [n1]
  generalize hp : τ 89 (σ 83 22 - 2) = p at *
  generalize hq : τ 90 (σ 83 22 - 2) = q at *
  generalize hr : τ 89 (σ 83 22 - 1) = r at *
  generalize hs : τ 90 (σ 83 22 - 1) = s at *
  have one : cm2 o p q r s = true → Q none S (uc (uc σ 83 (u1 (u1 (σ 83) 22 (σ 83 22 - 2)) 23 (σ 83 23 + 1))) 91 (u1 (σ 91) (σ 83 23) 1)) τ := fun h => by rw [h] at t; exact t
  have nil : cm2 o p q r s = false → Q none S (uc (uc σ 83 (u1 (u1 (σ 83) 22 (σ 83 22 - 2)) 23 (σ 83 23 + 1))) 91 (u1 (σ 91) (σ 83 23) 0)) τ := fun h => by rw [h] at t; exact t
  clear t
  refine ⟨by omega, ?_⟩
  refine ifI (fun e1 => ⟨by omega, _, rfl, by omega, nil (by unfold cm2; rw [if_pos (Or.inl e1)])⟩) (fun e1 => ?_)
  refine ⟨by omega, ?_⟩
  refine ifI (fun e2 => ⟨by omega, _, rfl, by omega, nil (by unfold cm2; rw [if_pos (Or.inr e2)])⟩) (fun e2 => ?_)
  have b1 := mb9 (x := p) (y := s) (by omega) (by omega)
  have b2 := mb9 (x := r) (y := q) (by omega) (by omega)
  unfold cm2 at one nil
  simp only [if_neg (show ¬ (q = 0 ∨ s = 0) by omega)] at one nil
  generalize hx : p * s = x at *
  generalize hy : r * q = y at *
  refine ⟨by omega, ?_⟩
  repeat' (first | exact one (by simp_all; try omega) | exact nil (by simp_all; try omega) | refine ⟨by omega, _, rfl, by omega, ?_⟩ | refine ⟨by omega, by omega, ?_⟩ | refine ifI (fun _ => ?_) (fun _ => ?_))
-- method 264: MillTownModel.run(IIII)V
theorem c_264_0 : pg_cd 264 0 = (5, 1, 0, 0, 0) := by decide +kernel
theorem c_264_1 : pg_cd 264 1 = (1, 1, 0, 0, 0) := by decide +kernel
theorem c_264_2 : pg_cd 264 2 = (46, 12, 281, 22, 0) := by decide +kernel
theorem c_264_5 : pg_cd 264 5 = (5, 1, 0, 0, 0) := by decide +kernel
theorem c_264_6 : pg_cd 264 6 = (1, 1, 0, 0, 0) := by decide +kernel
theorem c_264_7 : pg_cd 264 7 = (46, 12, 287, 23, 0) := by decide +kernel
theorem c_264_10 : pg_cd 264 10 = (3, 1, 0, 2, 0) := by decide +kernel
theorem c_264_11 : pg_cd 264 11 = (6, 2, 0, 5, 0) := by decide +kernel
theorem c_264_13 : pg_cd 264 13 = (3, 2, 0, 5, 0) := by decide +kernel
theorem c_264_15 : pg_cd 264 15 = (3, 1, 0, 3, 0) := by decide +kernel
theorem c_264_16 : pg_cd 264 16 = (37, 3, 0, 3, 321) := by decide +kernel
theorem c_264_19 : pg_cd 264 19 = (5, 1, 0, 0, 0) := by decide +kernel
theorem c_264_20 : pg_cd 264 20 = (45, 12, 8, 0, 0) := by decide +kernel
theorem c_264_23 : pg_cd 264 23 = (1, 3, 0, 0, 5500) := by decide +kernel
theorem c_264_26 : pg_cd 264 26 = (1, 3, 0, 0, 840) := by decide +kernel
theorem c_264_29 : pg_cd 264 29 = (3, 1, 0, 1, 0) := by decide +kernel
theorem c_264_30 : pg_cd 264 30 = (12, 1, 0, 0, 0) := by decide +kernel
theorem c_264_31 : pg_cd 264 31 = (10, 1, 0, 0, 0) := by decide +kernel
theorem c_264_32 : pg_cd 264 32 = (1, 3, 0, 0, 200) := by decide +kernel
theorem c_264_35 : pg_cd 264 35 = (10, 1, 0, 0, 0) := by decide +kernel
theorem c_264_36 : pg_cd 264 36 = (1, 1, 0, 0, 2) := by decide +kernel
theorem c_264_37 : pg_cd 264 37 = (3, 2, 0, 5, 0) := by decide +kernel
theorem c_264_39 : pg_cd 264 39 = (12, 1, 0, 0, 0) := by decide +kernel
theorem c_264_40 : pg_cd 264 40 = (10, 1, 0, 0, 0) := by decide +kernel
theorem c_264_41 : pg_cd 264 41 = (50, 1, 0, 0, 0) := by decide +kernel
theorem c_264_42 : pg_cd 264 42 = (6, 2, 0, 6, 0) := by decide +kernel
theorem c_264_44 : pg_cd 264 44 = (5, 1, 0, 0, 0) := by decide +kernel
theorem c_264_45 : pg_cd 264 45 = (45, 12, 8, 0, 0) := by decide +kernel
theorem c_264_48 : pg_cd 264 48 = (1, 3, 0, 0, 5500) := by decide +kernel
theorem c_264_51 : pg_cd 264 51 = (1, 3, 0, 0, 840) := by decide +kernel
theorem c_264_54 : pg_cd 264 54 = (3, 1, 0, 1, 0) := by decide +kernel
theorem c_264_55 : pg_cd 264 55 = (12, 1, 0, 0, 0) := by decide +kernel
theorem c_264_56 : pg_cd 264 56 = (10, 1, 0, 0, 0) := by decide +kernel
theorem c_264_57 : pg_cd 264 57 = (1, 3, 0, 0, 200) := by decide +kernel
theorem c_264_60 : pg_cd 264 60 = (10, 1, 0, 0, 0) := by decide +kernel
theorem c_264_61 : pg_cd 264 61 = (1, 1, 0, 0, 2) := by decide +kernel
theorem c_264_62 : pg_cd 264 62 = (3, 2, 0, 5, 0) := by decide +kernel
theorem c_264_64 : pg_cd 264 64 = (12, 1, 0, 0, 0) := by decide +kernel
theorem c_264_65 : pg_cd 264 65 = (10, 1, 0, 0, 0) := by decide +kernel
theorem c_264_66 : pg_cd 264 66 = (1, 1, 0, 0, 1) := by decide +kernel
theorem c_264_67 : pg_cd 264 67 = (10, 1, 0, 0, 0) := by decide +kernel
theorem c_264_68 : pg_cd 264 68 = (50, 1, 0, 0, 0) := by decide +kernel
theorem c_264_69 : pg_cd 264 69 = (6, 2, 0, 7, 0) := by decide +kernel
theorem c_264_71 : pg_cd 264 71 = (3, 2, 0, 6, 0) := by decide +kernel
theorem c_264_73 : pg_cd 264 73 = (36, 3, 0, 0, 9) := by decide +kernel
theorem c_264_76 : pg_cd 264 76 = (3, 2, 0, 6, 0) := by decide +kernel
theorem c_264_78 : pg_cd 264 78 = (1, 1, 0, 0, 1) := by decide +kernel
theorem c_264_79 : pg_cd 264 79 = (37, 3, 0, 1, 55) := by decide +kernel
theorem c_264_82 : pg_cd 264 82 = (5, 1, 0, 0, 0) := by decide +kernel
theorem c_264_83 : pg_cd 264 83 = (45, 12, 33, 19, 0) := by decide +kernel
theorem c_264_86 : pg_cd 264 86 = (5, 1, 0, 0, 0) := by decide +kernel
theorem c_264_87 : pg_cd 264 87 = (43, 12, 281, 22, 0) := by decide +kernel
theorem c_264_90 : pg_cd 264 90 = (3, 2, 0, 6, 0) := by decide +kernel
theorem c_264_92 : pg_cd 264 92 = (36, 3, 0, 1, 9) := by decide +kernel
theorem c_264_95 : pg_cd 264 95 = (3, 2, 0, 7, 0) := by decide +kernel
theorem c_264_97 : pg_cd 264 97 = (31, 1, 0, 0, 0) := by decide +kernel
theorem c_264_98 : pg_cd 264 98 = (38, 3, 0, 0, 12) := by decide +kernel
theorem c_264_101 : pg_cd 264 101 = (5, 1, 0, 0, 0) := by decide +kernel
theorem c_264_102 : pg_cd 264 102 = (3, 2, 0, 4, 0) := by decide +kernel
theorem c_264_104 : pg_cd 264 104 = (3, 2, 0, 7, 0) := by decide +kernel
theorem c_264_106 : pg_cd 264 106 = (80, 197, 85, 0, 0) := by decide +kernel
theorem c_264_109 : pg_cd 264 109 = (31, 1, 0, 0, 0) := by decide +kernel
theorem c_264_110 : pg_cd 264 110 = (56, 1, 0, 0, 0) := by decide +kernel
theorem c_264_111 : pg_cd 264 111 = (5, 1, 0, 0, 0) := by decide +kernel
theorem c_264_112 : pg_cd 264 112 = (45, 12, 37, 20, 0) := by decide +kernel
theorem c_264_115 : pg_cd 264 115 = (5, 1, 0, 0, 0) := by decide +kernel
theorem c_264_116 : pg_cd 264 116 = (43, 12, 281, 22, 0) := by decide +kernel
theorem c_264_119 : pg_cd 264 119 = (2, 1, 0, 0, 1) := by decide +kernel
theorem c_264_120 : pg_cd 264 120 = (56, 1, 0, 0, 0) := by decide +kernel
theorem c_264_121 : pg_cd 264 121 = (5, 1, 0, 0, 0) := by decide +kernel
theorem c_264_122 : pg_cd 264 122 = (33, 1, 0, 0, 0) := by decide +kernel
theorem c_264_123 : pg_cd 264 123 = (43, 12, 281, 22, 0) := by decide +kernel
theorem c_264_126 : pg_cd 264 126 = (1, 1, 0, 0, 1) := by decide +kernel
theorem c_264_127 : pg_cd 264 127 = (10, 1, 0, 0, 0) := by decide +kernel
theorem c_264_128 : pg_cd 264 128 = (46, 12, 281, 22, 0) := by decide +kernel
theorem c_264_131 : pg_cd 264 131 = (38, 3, 0, 0, 200) := by decide +kernel
theorem c_264_134 : pg_cd 264 134 = (3, 2, 0, 6, 0) := by decide +kernel
theorem c_264_136 : pg_cd 264 136 = (1, 1, 0, 0, 2) := by decide +kernel
theorem c_264_137 : pg_cd 264 137 = (37, 3, 0, 1, 29) := by decide +kernel
theorem c_264_140 : pg_cd 264 140 = (5, 1, 0, 0, 0) := by decide +kernel
theorem c_264_141 : pg_cd 264 141 = (45, 12, 33, 19, 0) := by decide +kernel
theorem c_264_144 : pg_cd 264 144 = (5, 1, 0, 0, 0) := by decide +kernel
theorem c_264_145 : pg_cd 264 145 = (43, 12, 281, 22, 0) := by decide +kernel
theorem c_264_148 : pg_cd 264 148 = (1, 1, 0, 0, 1) := by decide +kernel
theorem c_264_149 : pg_cd 264 149 = (11, 1, 0, 0, 0) := by decide +kernel
theorem c_264_150 : pg_cd 264 150 = (5, 1, 0, 0, 0) := by decide +kernel
theorem c_264_151 : pg_cd 264 151 = (45, 12, 33, 19, 0) := by decide +kernel
theorem c_264_154 : pg_cd 264 154 = (5, 1, 0, 0, 0) := by decide +kernel
theorem c_264_155 : pg_cd 264 155 = (43, 12, 281, 22, 0) := by decide +kernel
theorem c_264_158 : pg_cd 264 158 = (1, 1, 0, 0, 1) := by decide +kernel
theorem c_264_159 : pg_cd 264 159 = (11, 1, 0, 0, 0) := by decide +kernel
theorem c_264_160 : pg_cd 264 160 = (52, 1, 0, 0, 0) := by decide +kernel
theorem c_264_161 : pg_cd 264 161 = (29, 1, 0, 0, 0) := by decide +kernel
theorem c_264_162 : pg_cd 264 162 = (56, 1, 0, 0, 0) := by decide +kernel
theorem c_264_163 : pg_cd 264 163 = (38, 3, 0, 0, 168) := by decide +kernel
theorem c_264_166 : pg_cd 264 166 = (3, 2, 0, 6, 0) := by decide +kernel
theorem c_264_168 : pg_cd 264 168 = (1, 2, 0, 0, 10) := by decide +kernel
theorem c_264_170 : pg_cd 264 170 = (37, 3, 0, 3, 12) := by decide +kernel
theorem c_264_173 : pg_cd 264 173 = (5, 1, 0, 0, 0) := by decide +kernel
theorem c_264_174 : pg_cd 264 174 = (3, 2, 0, 6, 0) := by decide +kernel
theorem c_264_176 : pg_cd 264 176 = (80, 262, 290, 0, 0) := by decide +kernel
theorem c_264_179 : pg_cd 264 179 = (38, 3, 0, 0, 152) := by decide +kernel
theorem c_264_182 : pg_cd 264 182 = (3, 2, 0, 6, 0) := by decide +kernel
theorem c_264_184 : pg_cd 264 184 = (1, 2, 0, 0, 20) := by decide +kernel
theorem c_264_186 : pg_cd 264 186 = (37, 3, 0, 3, 12) := by decide +kernel
theorem c_264_189 : pg_cd 264 189 = (5, 1, 0, 0, 0) := by decide +kernel
theorem c_264_190 : pg_cd 264 190 = (3, 2, 0, 6, 0) := by decide +kernel
theorem c_264_192 : pg_cd 264 192 = (80, 263, 293, 0, 0) := by decide +kernel
theorem c_264_195 : pg_cd 264 195 = (38, 3, 0, 0, 136) := by decide +kernel
theorem c_264_198 : pg_cd 264 198 = (3, 2, 0, 6, 0) := by decide +kernel
theorem c_264_200 : pg_cd 264 200 = (1, 2, 0, 0, 20) := by decide +kernel
theorem c_264_202 : pg_cd 264 202 = (37, 3, 0, 1, 36) := by decide +kernel
theorem c_264_205 : pg_cd 264 205 = (5, 1, 0, 0, 0) := by decide +kernel
theorem c_264_206 : pg_cd 264 206 = (45, 12, 40, 21, 0) := by decide +kernel
theorem c_264_209 : pg_cd 264 209 = (5, 1, 0, 0, 0) := by decide +kernel
theorem c_264_210 : pg_cd 264 210 = (43, 12, 287, 23, 0) := by decide +kernel
theorem c_264_213 : pg_cd 264 213 = (1, 1, 0, 0, 1) := by decide +kernel
theorem c_264_214 : pg_cd 264 214 = (11, 1, 0, 0, 0) := by decide +kernel
theorem c_264_215 : pg_cd 264 215 = (5, 1, 0, 0, 0) := by decide +kernel
theorem c_264_216 : pg_cd 264 216 = (45, 12, 40, 21, 0) := by decide +kernel
theorem c_264_219 : pg_cd 264 219 = (5, 1, 0, 0, 0) := by decide +kernel
theorem c_264_220 : pg_cd 264 220 = (43, 12, 287, 23, 0) := by decide +kernel
theorem c_264_223 : pg_cd 264 223 = (1, 1, 0, 0, 1) := by decide +kernel
theorem c_264_224 : pg_cd 264 224 = (11, 1, 0, 0, 0) := by decide +kernel
theorem c_264_225 : pg_cd 264 225 = (51, 1, 0, 0, 0) := by decide +kernel
theorem c_264_226 : pg_cd 264 226 = (36, 3, 0, 1, 7) := by decide +kernel
theorem c_264_229 : pg_cd 264 229 = (1, 1, 0, 0, 1) := by decide +kernel
theorem c_264_230 : pg_cd 264 230 = (38, 3, 0, 0, 4) := by decide +kernel
theorem c_264_233 : pg_cd 264 233 = (1, 1, 0, 0, 0) := by decide +kernel
theorem c_264_234 : pg_cd 264 234 = (55, 1, 0, 0, 0) := by decide +kernel
theorem c_264_235 : pg_cd 264 235 = (38, 3, 0, 0, 96) := by decide +kernel
theorem c_264_238 : pg_cd 264 238 = (5, 1, 0, 0, 0) := by decide +kernel
theorem c_264_239 : pg_cd 264 239 = (33, 1, 0, 0, 0) := by decide +kernel
theorem c_264_240 : pg_cd 264 240 = (43, 12, 287, 23, 0) := by decide +kernel
theorem c_264_243 : pg_cd 264 243 = (1, 1, 0, 0, 1) := by decide +kernel
theorem c_264_244 : pg_cd 264 244 = (11, 1, 0, 0, 0) := by decide +kernel
theorem c_264_245 : pg_cd 264 245 = (46, 12, 287, 23, 0) := by decide +kernel
theorem c_264_248 : pg_cd 264 248 = (5, 1, 0, 0, 0) := by decide +kernel
theorem c_264_249 : pg_cd 264 249 = (45, 12, 40, 21, 0) := by decide +kernel
theorem c_264_252 : pg_cd 264 252 = (5, 1, 0, 0, 0) := by decide +kernel
theorem c_264_253 : pg_cd 264 253 = (43, 12, 287, 23, 0) := by decide +kernel
theorem c_264_256 : pg_cd 264 256 = (1, 1, 0, 0, 1) := by decide +kernel
theorem c_264_257 : pg_cd 264 257 = (11, 1, 0, 0, 0) := by decide +kernel
theorem c_264_258 : pg_cd 264 258 = (3, 2, 0, 6, 0) := by decide +kernel
theorem c_264_260 : pg_cd 264 260 = (1, 2, 0, 0, 21) := by decide +kernel
theorem c_264_262 : pg_cd 264 262 = (37, 3, 0, 1, 37) := by decide +kernel
theorem c_264_265 : pg_cd 264 265 = (5, 1, 0, 0, 0) := by decide +kernel
theorem c_264_266 : pg_cd 264 266 = (45, 12, 40, 21, 0) := by decide +kernel
theorem c_264_269 : pg_cd 264 269 = (5, 1, 0, 0, 0) := by decide +kernel
theorem c_264_270 : pg_cd 264 270 = (43, 12, 287, 23, 0) := by decide +kernel
theorem c_264_273 : pg_cd 264 273 = (1, 1, 0, 0, 1) := by decide +kernel
theorem c_264_274 : pg_cd 264 274 = (11, 1, 0, 0, 0) := by decide +kernel
theorem c_264_275 : pg_cd 264 275 = (51, 1, 0, 0, 0) := by decide +kernel
theorem c_264_276 : pg_cd 264 276 = (36, 3, 0, 0, 19) := by decide +kernel
theorem c_264_279 : pg_cd 264 279 = (5, 1, 0, 0, 0) := by decide +kernel
theorem c_264_280 : pg_cd 264 280 = (45, 12, 40, 21, 0) := by decide +kernel
theorem c_264_283 : pg_cd 264 283 = (5, 1, 0, 0, 0) := by decide +kernel
theorem c_264_284 : pg_cd 264 284 = (43, 12, 287, 23, 0) := by decide +kernel
theorem c_264_287 : pg_cd 264 287 = (51, 1, 0, 0, 0) := by decide +kernel
theorem c_264_288 : pg_cd 264 288 = (36, 3, 0, 0, 7) := by decide +kernel
theorem c_264_291 : pg_cd 264 291 = (1, 1, 0, 0, 1) := by decide +kernel
theorem c_264_292 : pg_cd 264 292 = (38, 3, 0, 0, 38) := by decide +kernel
theorem c_264_295 : pg_cd 264 295 = (1, 1, 0, 0, 0) := by decide +kernel
theorem c_264_296 : pg_cd 264 296 = (38, 3, 0, 0, 34) := by decide +kernel
theorem c_264_299 : pg_cd 264 299 = (5, 1, 0, 0, 0) := by decide +kernel
theorem c_264_300 : pg_cd 264 300 = (45, 12, 40, 21, 0) := by decide +kernel
theorem c_264_303 : pg_cd 264 303 = (5, 1, 0, 0, 0) := by decide +kernel
theorem c_264_304 : pg_cd 264 304 = (43, 12, 287, 23, 0) := by decide +kernel
theorem c_264_307 : pg_cd 264 307 = (1, 1, 0, 0, 1) := by decide +kernel
theorem c_264_308 : pg_cd 264 308 = (11, 1, 0, 0, 0) := by decide +kernel
theorem c_264_309 : pg_cd 264 309 = (51, 1, 0, 0, 0) := by decide +kernel
theorem c_264_310 : pg_cd 264 310 = (36, 3, 0, 1, 15) := by decide +kernel
theorem c_264_313 : pg_cd 264 313 = (5, 1, 0, 0, 0) := by decide +kernel
theorem c_264_314 : pg_cd 264 314 = (45, 12, 40, 21, 0) := by decide +kernel
theorem c_264_317 : pg_cd 264 317 = (5, 1, 0, 0, 0) := by decide +kernel
theorem c_264_318 : pg_cd 264 318 = (43, 12, 287, 23, 0) := by decide +kernel
theorem c_264_321 : pg_cd 264 321 = (51, 1, 0, 0, 0) := by decide +kernel
theorem c_264_322 : pg_cd 264 322 = (36, 3, 0, 0, 7) := by decide +kernel
theorem c_264_325 : pg_cd 264 325 = (1, 1, 0, 0, 1) := by decide +kernel
theorem c_264_326 : pg_cd 264 326 = (38, 3, 0, 0, 4) := by decide +kernel
theorem c_264_329 : pg_cd 264 329 = (1, 1, 0, 0, 0) := by decide +kernel
theorem c_264_330 : pg_cd 264 330 = (55, 1, 0, 0, 0) := by decide +kernel
theorem c_264_331 : pg_cd 264 331 = (9, 3, 0, 5, 1) := by decide +kernel
theorem c_264_334 : pg_cd 264 334 = (38, 3, 0, 0, (-321)) := by decide +kernel
theorem c_264_337 : pg_cd 264 337 = (94, 0, 0, 0, 0) := by decide +kernel
theorem mi_264 : pg_mc 264 = 12 ∧ pg_na 264 = 4 ∧ pg_mx 264 = 8 := by decide +kernel
set_option maxRecDepth 20000 in
theorem u_264_0 {d : Nat} {S : zS} {σ τ : zI} {Q : zQ} {x1 : Int} {x2 : Int} {x3 : Int} {x4 : Int} (t : wi (d + 5) 264 13 [.ref 83, .int (wI x1), .int (wI x2), .int (wI x3), .int (wI x4), .int (wI x2), .retAddr 0, .retAddr 0] [] S (uc σ 83 (u1 (u1 (σ 83) 22 0) 23 0)) τ Q) : wi (d + 5) 264 0 [.ref 83, .int (wI x1), .int (wI x2), .int (wI x3), .int (wI x4), .retAddr 0, .retAddr 0, .retAddr 0] [] S σ τ Q := by
  refine i5 c_264_0 rfl (i1 c_264_1 (i46 (σ1 := uc σ 83 (u1 (σ 83) 22 0)) c_264_2 (lo (c := 83) (kd := 112) (n := 0) rfl (by decide)) (by decide) rfl (by decide) (wr_ rfl rfl) (i5 c_264_5 rfl (i1 c_264_6 (i46 (σ1 := uc σ 83 (u1 (u1 (σ 83) 22 0) 23 0)) c_264_7 (lo (c := 83) (kd := 112) (n := 0) rfl (by decide)) (by decide) rfl (by decide) (wr_ (uc_s _ _ _) (uc_uc _ _ _ _)) (i3 c_264_10 rfl (i6 (L' := [.ref 83, .int (wI x1), .int (wI x2), .int (wI x3), .int (wI x4), .int (wI x2), .retAddr 0, .retAddr 0]) c_264_11 rfl t)))))))
set_option maxRecDepth 20000 in
theorem u_264_13 {d : Nat} {S : zS} {σ τ : zI} {Q : zQ} {x1 : Int} {x2 : Int} {x3 : Int} {x4 : Int} {x5 : Int} {y6 : Value} {y7 : Value} (t : (rg x5) ∧ (rg x3) ∧ if x3 ≤ x5 then (Q none S σ τ) else ((0 ≤ ((5500 + (840 * x1)) + 200) + (2 * x5) ∧ ((5500 + (840 * x1)) + 200) + (2 * x5) < 112300) ∧ (0 ≤ (((5500 + (840 * x1)) + 200) + (2 * x5)) + 1 ∧ (((5500 + (840 * x1)) + 200) + (2 * x5)) + 1 < 112300) ∧ if (σ 84 (((5500 + (840 * x1)) + 200) + (2 * x5))) = 0 then (wi (d + 5) 264 82 [.ref 83, .int (wI x1), .int (wI x2), .int (wI x3), .int (wI x4), .int (wI x5), .int (wI (σ 84 (((5500 + (840 * x1)) + 200) + (2 * x5)))), .int (wI (σ 84 ((((5500 + (840 * x1)) + 200) + (2 * x5)) + 1)))] [] S σ τ Q) else (if (σ 84 (((5500 + (840 * x1)) + 200) + (2 * x5))) = 1 then (wi (d + 5) 264 82 [.ref 83, .int (wI x1), .int (wI x2), .int (wI x3), .int (wI x4), .int (wI x5), .int (wI (σ 84 (((5500 + (840 * x1)) + 200) + (2 * x5)))), .int (wI (σ 84 ((((5500 + (840 * x1)) + 200) + (2 * x5)) + 1)))] [] S σ τ Q) else (if (σ 84 (((5500 + (840 * x1)) + 200) + (2 * x5))) = 2 then ((0 ≤ (σ 83 22) - 1 ∧ (σ 83 22) - 1 < 320) ∧ ∃ w42 : Int, wJ w42 = wJ (-(τ 89 ((σ 83 22) - 1))) ∧ rj w42 ∧ wi (d + 5) 264 331 [.ref 83, .int (wI x1), .int (wI x2), .int (wI x3), .int (wI x4), .int (wI x5), .int (wI (σ 84 (((5500 + (840 * x1)) + 200) + (2 * x5)))), .int (wI (σ 84 ((((5500 + (840 * x1)) + 200) + (2 * x5)) + 1)))] [] S σ (uc τ 89 (u1 (τ 89) ((σ 83 22) - 1) w42)) Q) else (if (10 : Int) ≤ (σ 84 (((5500 + (840 * x1)) + 200) + (2 * x5))) then (if (20 : Int) ≤ (σ 84 (((5500 + (840 * x1)) + 200) + (2 * x5))) then (if (σ 84 (((5500 + (840 * x1)) + 200) + (2 * x5))) = 20 then ((0 ≤ (σ 83 23) - 1 ∧ (σ 83 23) - 1 < 320) ∧ if (σ 91 ((σ 83 23) - 1)) = 0 then (wi (d + 5) 264 234 [.ref 83, .int (wI x1), .int (wI x2), .int (wI x3), .int (wI x4), .int (wI x5), .int (wI (σ 84 (((5500 + (840 * x1)) + 200) + (2 * x5)))), .int (wI (σ 84 ((((5500 + (840 * x1)) + 200) + (2 * x5)) + 1)))] [.int (wI 1), .int (wI ((σ 83 23) - 1)), .ref 91] S σ τ Q) else (wi (d + 5) 264 234 [.ref 83, .int (wI x1), .int (wI x2), .int (wI x3), .int (wI x4), .int (wI x5), .int (wI (σ 84 (((5500 + (840 * x1)) + 200) + (2 * x5)))), .int (wI (σ 84 ((((5500 + (840 * x1)) + 200) + (2 * x5)) + 1)))] [.int (wI 0), .int (wI ((σ 83 23) - 1)), .ref 91] S σ τ Q)) else (∃ w13 : Int, wI w13 = wI ((σ 83 23) - 1) ∧ rg w13 ∧ if (σ 84 (((5500 + (840 * x1)) + 200) + (2 * x5))) = 21 then ((0 ≤ w13 - 1 ∧ w13 - 1 < 320) ∧ if (σ 91 (w13 - 1)) = 0 then (wi (d + 5) 264 295 [.ref 83, .int (wI x1), .int (wI x2), .int (wI x3), .int (wI x4), .int (wI x5), .int (wI (σ 84 (((5500 + (840 * x1)) + 200) + (2 * x5)))), .int (wI (σ 84 ((((5500 + (840 * x1)) + 200) + (2 * x5)) + 1)))] [.int (wI (w13 - 1)), .ref 91] S (uc σ 83 (u1 (σ 83) 23 w13)) τ Q) else ((0 ≤ w13 ∧ w13 < 320) ∧ if (σ 91 w13) = 0 then (wi (d + 5) 264 295 [.ref 83, .int (wI x1), .int (wI x2), .int (wI x3), .int (wI x4), .int (wI x5), .int (wI (σ 84 (((5500 + (840 * x1)) + 200) + (2 * x5)))), .int (wI (σ 84 ((((5500 + (840 * x1)) + 200) + (2 * x5)) + 1)))] [.int (wI (w13 - 1)), .ref 91] S (uc σ 83 (u1 (σ 83) 23 w13)) τ Q) else (wi (d + 5) 264 330 [.ref 83, .int (wI x1), .int (wI x2), .int (wI x3), .int (wI x4), .int (wI x5), .int (wI (σ 84 (((5500 + (840 * x1)) + 200) + (2 * x5)))), .int (wI (σ 84 ((((5500 + (840 * x1)) + 200) + (2 * x5)) + 1)))] [.int (wI 1), .int (wI (w13 - 1)), .ref 91] S (uc σ 83 (u1 (σ 83) 23 w13)) τ Q))) else ((0 ≤ w13 - 1 ∧ w13 - 1 < 320) ∧ if (σ 91 (w13 - 1)) = 0 then ((0 ≤ w13 ∧ w13 < 320) ∧ if (σ 91 w13) = 0 then (wi (d + 5) 264 330 [.ref 83, .int (wI x1), .int (wI x2), .int (wI x3), .int (wI x4), .int (wI x5), .int (wI (σ 84 (((5500 + (840 * x1)) + 200) + (2 * x5)))), .int (wI (σ 84 ((((5500 + (840 * x1)) + 200) + (2 * x5)) + 1)))] [.int (wI 0), .int (wI (w13 - 1)), .ref 91] S (uc σ 83 (u1 (σ 83) 23 w13)) τ Q) else (wi (d + 5) 264 325 [.ref 83, .int (wI x1), .int (wI x2), .int (wI x3), .int (wI x4), .int (wI x5), .int (wI (σ 84 (((5500 + (840 * x1)) + 200) + (2 * x5)))), .int (wI (σ 84 ((((5500 + (840 * x1)) + 200) + (2 * x5)) + 1)))] [.int (wI (w13 - 1)), .ref 91] S (uc σ 83 (u1 (σ 83) 23 w13)) τ Q)) else (wi (d + 5) 264 325 [.ref 83, .int (wI x1), .int (wI x2), .int (wI x3), .int (wI x4), .int (wI x5), .int (wI (σ 84 (((5500 + (840 * x1)) + 200) + (2 * x5)))), .int (wI (σ 84 ((((5500 + (840 * x1)) + 200) + (2 * x5)) + 1)))] [.int (wI (w13 - 1)), .ref 91] S (uc σ 83 (u1 (σ 83) 23 w13)) τ Q)))) else (((10 : Int) ≤ (σ 84 (((5500 + (840 * x1)) + 200) + (2 * x5))) ∧ (σ 84 (((5500 + (840 * x1)) + 200) + (2 * x5))) ≤ (15 : Int)) ∧ (2 ≤ σ 83 22 ∧ σ 83 22 ≤ 320) ∧ (0 ≤ σ 83 23 ∧ σ 83 23 < 320) ∧ (frO (τ 89 (σ 83 22 - 2)) (τ 90 (σ 83 22 - 2))) ∧ (frO (τ 89 (σ 83 22 - 1)) (τ 90 (σ 83 22 - 1))) ∧ wi (d + 5) 264 331 [.ref 83, .int (wI x1), .int (wI x2), .int (wI x3), .int (wI x4), .int (wI x5), .int (wI (σ 84 (((5500 + (840 * x1)) + 200) + (2 * x5)))), .int (wI (σ 84 ((((5500 + (840 * x1)) + 200) + (2 * x5)) + 1)))] [] S (uc (uc σ 83 (u1 (u1 ((σ 83)) 22 ((σ 83) 22 - 2)) 23 ((σ 83) 23 + 1))) 91 (u1 ((σ 91)) ((σ 83) 23) (b1_ (cm2 (σ 84 (((5500 + (840 * x1)) + 200) + (2 * x5))) (τ 89 ((σ 83) 22 - 2)) (τ 90 ((σ 83) 22 - 2)) (τ 89 ((σ 83) 22 - 1)) (τ 90 ((σ 83) 22 - 1)))))) τ Q)) else (((3 : Int) ≤ (σ 84 (((5500 + (840 * x1)) + 200) + (2 * x5))) ∧ (σ 84 (((5500 + (840 * x1)) + 200) + (2 * x5))) ≤ (8 : Int)) ∧ (2 ≤ σ 83 22 ∧ σ 83 22 ≤ 320) ∧ (frO (τ 89 (σ 83 22 - 2)) (τ 90 (σ 83 22 - 2))) ∧ (frO (τ 89 (σ 83 22 - 1)) (τ 90 (σ 83 22 - 1))) ∧ ∀ (U37 : Int) (L38 : Int), L38 = (fr2 (σ 84 (((5500 + (840 * x1)) + 200) + (2 * x5))) (τ 89 (σ 83 22 - 2)) (τ 90 (σ 83 22 - 2)) (τ 89 (σ 83 22 - 1)) (τ 90 (σ 83 22 - 1))).2 → (L38 ≠ 0 → U37 = (fr2 (σ 84 (((5500 + (840 * x1)) + 200) + (2 * x5))) (τ 89 (σ 83 22 - 2)) (τ 90 (σ 83 22 - 2)) (τ 89 (σ 83 22 - 1)) (τ 90 (σ 83 22 - 1))).1) → wi (d + 5) 264 331 [.ref 83, .int (wI x1), .int (wI x2), .int (wI x3), .int (wI x4), .int (wI x5), .int (wI (σ 84 (((5500 + (840 * x1)) + 200) + (2 * x5)))), .int (wI (σ 84 ((((5500 + (840 * x1)) + 200) + (2 * x5)) + 1)))] [] S (uc σ 83 (u1 ((σ 83)) 22 ((σ 83) 22 - 1))) (uc (uc τ 89 (u1 ((τ 89)) (σ 83 22 - 2) U37)) 90 (u1 ((τ 90)) (σ 83 22 - 2) L38)) Q)))))) : wi (d + 5) 264 13 [.ref 83, .int (wI x1), .int (wI x2), .int (wI x3), .int (wI x4), .int (wI x5), y6, y7] [] S σ τ Q := by
  obtain ⟨r1, t⟩ := t
  obtain ⟨r2, t⟩ := t
  refine i3 c_264_13 rfl (i3 c_264_15 rfl ?_)
  refine i37 c_264_16 r1 r2 rfl (fun hc => ?_) (fun hc => ?_)
  · have t := iT t hc
    have ha3 : x3 ≤ x5 := hc
    exact i94 c_264_337 t
  · have t := iF t hc
    have ha3 : ¬ (x3 ≤ x5) := hc
    obtain ⟨r4, t⟩ := t
    refine i5 c_264_19 rfl (i45 c_264_20 (lo (c := 83) (kd := 112) (n := 0) rfl (by decide)) (lro (c := 83) (k := 0) (j := 84) (by decide)) (i1 c_264_23 (i1 c_264_26 (i3 c_264_29 rfl (i12 c_264_30 (i10 c_264_31 (i1 c_264_32 (i10 c_264_35 (i1 c_264_36 (i3 c_264_37 rfl (i12 c_264_39 (i10 c_264_40 (wi_ok (fun K5 => ?_))))))))))))))
    obtain ⟨r6, t⟩ := t
    refine i50 (v := σ 84 (((5500 + (840 * x1)) + 200) + (2 * x5))) c_264_41 (lo (c := 84) (kd := 0) (n := 112300) rfl (by decide)) (by decide) r4 rfl (i6 (L' := [.ref 83, .int (wI x1), .int (wI x2), .int (wI x3), .int (wI x4), .int (wI x5), .int (wI (σ 84 (((5500 + (840 * x1)) + 200) + (2 * x5)))), y7]) c_264_42 rfl (i5 c_264_44 rfl (i45 c_264_45 (lo (c := 83) (kd := 112) (n := 0) rfl (by decide)) (lro (c := 83) (k := 0) (j := 84) (by decide)) (i1 c_264_48 (i1 c_264_51 (i3 c_264_54 rfl (i12 c_264_55 (i10 c_264_56 (i1 c_264_57 (i10 c_264_60 (i1 c_264_61 (i3 c_264_62 rfl (i12 c_264_64 (i10 c_264_65 (i1 c_264_66 (i10 c_264_67 (i50 (v := σ 84 ((((5500 + (840 * x1)) + 200) + (2 * x5)) + 1)) c_264_68 (lo (c := 84) (kd := 0) (n := 112300) rfl (by decide)) (by decide) r6 rfl (i6 (L' := [.ref 83, .int (wI x1), .int (wI x2), .int (wI x3), .int (wI x4), .int (wI x5), .int (wI (σ 84 (((5500 + (840 * x1)) + 200) + (2 * x5)))), .int (wI (σ 84 ((((5500 + (840 * x1)) + 200) + (2 * x5)) + 1)))]) c_264_69 rfl (i3 c_264_71 rfl ?_)))))))))))))))))))
    refine i36 c_264_73 (rge_ K5 rfl) rfl (fun hc => ?_) (fun hc => ?_)
    · have t := iT t hc
      have ha7 : (σ 84 (((5500 + (840 * x1)) + 200) + (2 * x5))) = 0 := hc
      exact t
    · have t := iF t hc
      have ha7 : ¬ ((σ 84 (((5500 + (840 * x1)) + 200) + (2 * x5))) = 0) := hc
      refine i3 c_264_76 rfl (i1 c_264_78 ?_)
      refine i37 c_264_79 (rge_ K5 rfl) (by decide) rfl (fun hc => ?_) (fun hc => ?_)
      · have t := iF t hc
        have ha8 : ¬ ((σ 84 (((5500 + (840 * x1)) + 200) + (2 * x5))) = 1) := hc
        refine i3 c_264_134 rfl (i1 c_264_136 ?_)
        refine i37 c_264_137 (rge_ K5 rfl) (by decide) rfl (fun hc => ?_) (fun hc => ?_)
        · have t := iF t hc
          have ha9 : ¬ ((σ 84 (((5500 + (840 * x1)) + 200) + (2 * x5))) = 2) := hc
          refine i3 c_264_166 rfl (i1 c_264_168 ?_)
          refine i37 c_264_170 (rge_ K5 rfl) (by decide) rfl (fun hc => ?_) (fun hc => ?_)
          · have t := iT t hc
            have ha10 : (10 : Int) ≤ (σ 84 (((5500 + (840 * x1)) + 200) + (2 * x5))) := hc
            refine i3 c_264_182 rfl (i1 c_264_184 ?_)
            refine i37 c_264_186 (rge_ K5 rfl) (by decide) rfl (fun hc => ?_) (fun hc => ?_)
            · have t := iT t hc
              have ha11 : (20 : Int) ≤ (σ 84 (((5500 + (840 * x1)) + 200) + (2 * x5))) := hc
              refine i3 c_264_198 rfl (i1 c_264_200 ?_)
              refine i37 c_264_202 (rge_ K5 rfl) (by decide) rfl (fun hc => ?_) (fun hc => ?_)
              · have t := iF t hc
                have ha12 : ¬ ((σ 84 (((5500 + (840 * x1)) + 200) + (2 * x5))) = 20) := hc
                obtain ⟨w13, e14, r15, t⟩ := t
                refine i5 c_264_238 rfl (i33a c_264_239 (i43 (v := σ 83 23) c_264_240 (lo (c := 83) (kd := 112) (n := 0) rfl (by decide)) rfl (i1 c_264_243 (i11 c_264_244 (i46 (σ1 := uc σ 83 (u1 (σ 83) 23 w13)) c_264_245 (lo (c := 83) (kd := 112) (n := 0) rfl (by decide)) (by decide) e14 r15 (wr_ rfl rfl) (i5 c_264_248 rfl (i45 c_264_249 (lo (c := 83) (kd := 112) (n := 0) rfl (by decide)) (lro (c := 83) (k := 21) (j := 91) (by decide)) (i5 c_264_252 rfl (wi_ok (fun K16 => ?_))))))))))
                refine i43 (v := w13) c_264_253 (lo (c := 83) (kd := 112) (n := 0) rfl (by decide)) ((congrFun (uc_s _ _ _) _).trans (u1_s _ _ _)) (i1 c_264_256 (i11 c_264_257 (i3 c_264_258 rfl (i1 c_264_260 ?_))))
                refine i37 c_264_262 (rge_ K5 rfl) (by decide) rfl (fun hc => ?_) (fun hc => ?_)
                · have t := iF t hc
                  have ha17 : ¬ ((σ 84 (((5500 + (840 * x1)) + 200) + (2 * x5))) = 21) := hc
                  obtain ⟨r18, t⟩ := t
                  refine i5 c_264_299 rfl (i45 c_264_300 (lo (c := 83) (kd := 112) (n := 0) rfl (by decide)) (lro (c := 83) (k := 21) (j := 91) (by decide)) (i5 c_264_303 rfl (i43 (v := w13) c_264_304 (lo (c := 83) (kd := 112) (n := 0) rfl (by decide)) ((congrFun (uc_s _ _ _) _).trans (u1_s _ _ _)) (i1 c_264_307 (i11 c_264_308 (i51 (v := σ 91 (w13 - 1)) c_264_309 (lo (c := 91) (kd := 2) (n := 320) rfl (by decide)) (by decide) r18 (congrFun (uc_ns rfl (by decide)) _) ?_))))))
                  refine i36 c_264_310 (rge_ K16 (congrFun (uc_ns rfl (by decide)) _)) rfl (fun hc => ?_) (fun hc => ?_)
                  · have t := iF t hc
                    have ha19 : ¬ ((σ 91 (w13 - 1)) = 0) := hc
                    exact t
                  · have t := iT t (Decidable.not_not.mp hc)
                    have ha19 : (σ 91 (w13 - 1)) = 0 := Decidable.not_not.mp hc
                    obtain ⟨r20, t⟩ := t
                    refine i5 c_264_313 rfl (i45 c_264_314 (lo (c := 83) (kd := 112) (n := 0) rfl (by decide)) (lro (c := 83) (k := 21) (j := 91) (by decide)) (i5 c_264_317 rfl (i43 (v := w13) c_264_318 (lo (c := 83) (kd := 112) (n := 0) rfl (by decide)) ((congrFun (uc_s _ _ _) _).trans (u1_s _ _ _)) (i51 (v := σ 91 w13) c_264_321 (lo (c := 91) (kd := 2) (n := 320) rfl (by decide)) (by decide) r20 (congrFun (uc_ns rfl (by decide)) _) ?_))))
                    refine i36 c_264_322 (rge_ K16 (congrFun (uc_ns rfl (by decide)) _)) rfl (fun hc => ?_) (fun hc => ?_)
                    · have t := iT t hc
                      have ha21 : (σ 91 w13) = 0 := hc
                      refine i1 c_264_329 t
                    · have t := iF t hc
                      have ha21 : ¬ ((σ 91 w13) = 0) := hc
                      exact t
                · have t := iT t (Decidable.not_not.mp hc)
                  have ha17 : (σ 84 (((5500 + (840 * x1)) + 200) + (2 * x5))) = 21 := Decidable.not_not.mp hc
                  obtain ⟨r22, t⟩ := t
                  refine i5 c_264_265 rfl (i45 c_264_266 (lo (c := 83) (kd := 112) (n := 0) rfl (by decide)) (lro (c := 83) (k := 21) (j := 91) (by decide)) (i5 c_264_269 rfl (i43 (v := w13) c_264_270 (lo (c := 83) (kd := 112) (n := 0) rfl (by decide)) ((congrFun (uc_s _ _ _) _).trans (u1_s _ _ _)) (i1 c_264_273 (i11 c_264_274 (i51 (v := σ 91 (w13 - 1)) c_264_275 (lo (c := 91) (kd := 2) (n := 320) rfl (by decide)) (by decide) r22 (congrFun (uc_ns rfl (by decide)) _) ?_))))))
                  refine i36 c_264_276 (rge_ K16 (congrFun (uc_ns rfl (by decide)) _)) rfl (fun hc => ?_) (fun hc => ?_)
                  · have t := iT t hc
                    have ha23 : (σ 91 (w13 - 1)) = 0 := hc
                    exact t
                  · have t := iF t hc
                    have ha23 : ¬ ((σ 91 (w13 - 1)) = 0) := hc
                    obtain ⟨r24, t⟩ := t
                    refine i5 c_264_279 rfl (i45 c_264_280 (lo (c := 83) (kd := 112) (n := 0) rfl (by decide)) (lro (c := 83) (k := 21) (j := 91) (by decide)) (i5 c_264_283 rfl (i43 (v := w13) c_264_284 (lo (c := 83) (kd := 112) (n := 0) rfl (by decide)) ((congrFun (uc_s _ _ _) _).trans (u1_s _ _ _)) (i51 (v := σ 91 w13) c_264_287 (lo (c := 91) (kd := 2) (n := 320) rfl (by decide)) (by decide) r24 (congrFun (uc_ns rfl (by decide)) _) ?_))))
                    refine i36 c_264_288 (rge_ K16 (congrFun (uc_ns rfl (by decide)) _)) rfl (fun hc => ?_) (fun hc => ?_)
                    · have t := iT t hc
                      have ha25 : (σ 91 w13) = 0 := hc
                      exact t
                    · have t := iF t hc
                      have ha25 : ¬ ((σ 91 w13) = 0) := hc
                      refine i1 c_264_291 (i38 c_264_292 rfl t)
              · have t := iT t (Decidable.not_not.mp hc)
                have ha12 : (σ 84 (((5500 + (840 * x1)) + 200) + (2 * x5))) = 20 := Decidable.not_not.mp hc
                obtain ⟨r26, t⟩ := t
                refine i5 c_264_205 rfl (i45 c_264_206 (lo (c := 83) (kd := 112) (n := 0) rfl (by decide)) (lro (c := 83) (k := 21) (j := 91) (by decide)) (i5 c_264_209 rfl (i43 (v := σ 83 23) c_264_210 (lo (c := 83) (kd := 112) (n := 0) rfl (by decide)) rfl (i1 c_264_213 (i11 c_264_214 (i5 c_264_215 rfl (i45 c_264_216 (lo (c := 83) (kd := 112) (n := 0) rfl (by decide)) (lro (c := 83) (k := 21) (j := 91) (by decide)) (i5 c_264_219 rfl (i43 (v := σ 83 23) c_264_220 (lo (c := 83) (kd := 112) (n := 0) rfl (by decide)) rfl (i1 c_264_223 (i11 c_264_224 (i51 (v := σ 91 ((σ 83 23) - 1)) c_264_225 (lo (c := 91) (kd := 2) (n := 320) rfl (by decide)) (by decide) r26 rfl ?_))))))))))))
                refine i36 c_264_226 (rge_ K5 rfl) rfl (fun hc => ?_) (fun hc => ?_)
                · have t := iF t hc
                  have ha27 : ¬ ((σ 91 ((σ 83 23) - 1)) = 0) := hc
                  refine i1 c_264_233 t
                · have t := iT t (Decidable.not_not.mp hc)
                  have ha27 : (σ 91 ((σ 83 23) - 1)) = 0 := Decidable.not_not.mp hc
                  refine i1 c_264_229 (i38 c_264_230 rfl t)
            · have t := iF t hc
              have ha11 : ¬ ((20 : Int) ≤ (σ 84 (((5500 + (840 * x1)) + 200) + (2 * x5)))) := hc
              obtain ⟨p28, t⟩ := t
              obtain ⟨p29, t⟩ := t
              obtain ⟨p30, t⟩ := t
              obtain ⟨p31, t⟩ := t
              obtain ⟨p32, t⟩ := t
              refine i5 c_264_189 rfl (i3 c_264_190 rfl ?_)
              refine i80 (As := [.int (wI (σ 84 (((5500 + (840 * x1)) + 200) + (2 * x5))))]) (rest := []) c_264_192 mi_263 rfl rfl (Nat.le_of_ble_eq_true rfl) (Nat.le_of_ble_eq_true rfl) (lo (c := 83) (kd := 112) (n := 0) rfl (by decide)) (q_263 p28 p29 p30 p31 p32 ?_)
              show wi (d + 5) 264 195 [.ref 83, .int (wI x1), .int (wI x2), .int (wI x3), .int (wI x4), .int (wI x5), .int (wI (σ 84 (((5500 + (840 * x1)) + 200) + (2 * x5)))), .int (wI (σ 84 ((((5500 + (840 * x1)) + 200) + (2 * x5)) + 1)))] [] S (uc (uc σ 83 (u1 (u1 ((σ 83)) 22 ((σ 83) 22 - 2)) 23 ((σ 83) 23 + 1))) 91 (u1 ((σ 91)) ((σ 83) 23) (b1_ (cm2 (σ 84 (((5500 + (840 * x1)) + 200) + (2 * x5))) (τ 89 ((σ 83) 22 - 2)) (τ 90 ((σ 83) 22 - 2)) (τ 89 ((σ 83) 22 - 1)) (τ 90 ((σ 83) 22 - 1)))))) τ Q
              refine i38 c_264_195 rfl t
          · have t := iF t hc
            have ha10 : ¬ ((10 : Int) ≤ (σ 84 (((5500 + (840 * x1)) + 200) + (2 * x5)))) := hc
            obtain ⟨p33, t⟩ := t
            obtain ⟨p34, t⟩ := t
            obtain ⟨p35, t⟩ := t
            obtain ⟨p36, t⟩ := t
            refine i5 c_264_173 rfl (i3 c_264_174 rfl ?_)
            refine i80 (As := [.int (wI (σ 84 (((5500 + (840 * x1)) + 200) + (2 * x5))))]) (rest := []) c_264_176 mi_262 rfl rfl (Nat.le_of_ble_eq_true rfl) (Nat.le_of_ble_eq_true rfl) (lo (c := 83) (kd := 112) (n := 0) rfl (by decide)) (q_262 p33 p34 p35 p36 (fun U37 L38 q39 q40 => ?_))
            have t := t U37 L38 q39 q40
            show wi (d + 5) 264 179 [.ref 83, .int (wI x1), .int (wI x2), .int (wI x3), .int (wI x4), .int (wI x5), .int (wI (σ 84 (((5500 + (840 * x1)) + 200) + (2 * x5)))), .int (wI (σ 84 ((((5500 + (840 * x1)) + 200) + (2 * x5)) + 1)))] [] S (uc σ 83 (u1 ((σ 83)) 22 ((σ 83) 22 - 1))) (uc (uc τ 89 (u1 ((τ 89)) (σ 83 22 - 2) U37)) 90 (u1 ((τ 90)) (σ 83 22 - 2) L38)) Q
            refine i38 c_264_179 rfl t
        · have t := iT t (Decidable.not_not.mp hc)
          have ha9 : (σ 84 (((5500 + (840 * x1)) + 200) + (2 * x5))) = 2 := Decidable.not_not.mp hc
          obtain ⟨r41, t⟩ := t
          obtain ⟨w42, e43, r44, t⟩ := t
          refine i5 c_264_140 rfl (i45 c_264_141 (lo (c := 83) (kd := 112) (n := 0) rfl (by decide)) (lro (c := 83) (k := 19) (j := 89) (by decide)) (i5 c_264_144 rfl (i43 (v := σ 83 22) c_264_145 (lo (c := 83) (kd := 112) (n := 0) rfl (by decide)) rfl (i1 c_264_148 (i11 c_264_149 (i5 c_264_150 rfl (i45 c_264_151 (lo (c := 83) (kd := 112) (n := 0) rfl (by decide)) (lro (c := 83) (k := 19) (j := 89) (by decide)) (i5 c_264_154 rfl (i43 (v := σ 83 22) c_264_155 (lo (c := 83) (kd := 112) (n := 0) rfl (by decide)) rfl (i1 c_264_158 (i11 c_264_159 (i52 (v := τ 89 ((σ 83 22) - 1)) c_264_160 (lo (c := 89) (kd := 1) (n := 320) rfl (by decide)) (by decide) r41 rfl (i29 c_264_161 (i56 (τ1 := uc τ 89 (u1 (τ 89) ((σ 83 22) - 1) w42)) c_264_162 (lo (c := 89) (kd := 1) (n := 320) rfl (by decide)) (by decide) r41 e43 r44 (wr_ rfl rfl) (i38 c_264_163 rfl t)))))))))))))))
      · have t := iT t (Decidable.not_not.mp hc)
        have ha8 : (σ 84 (((5500 + (840 * x1)) + 200) + (2 * x5))) = 1 := Decidable.not_not.mp hc
        exact t
set_option maxRecDepth 20000 in
theorem u_264_82 {d : Nat} {S : zS} {σ τ : zI} {Q : zQ} {x1 : Int} {x2 : Int} {x3 : Int} {x4 : Int} {x5 : Int} {x6 : Int} {x7 : Int} (t : (rg x6) ∧ if x6 = 0 then ((rg x7) ∧ wi (d + 5) 264 110 [.ref 83, .int (wI x1), .int (wI x2), .int (wI x3), .int (wI x4), .int (wI x5), .int (wI x6), .int (wI x7)] [.long (wJ x7), .int (wI (σ 83 22)), .ref 89] S σ τ Q) else ((0 ≤ 20 + 8 * x4 + x7 ∧ 20 + 8 * x4 + x7 < 112300) ∧ wi (d + 5) 264 110 [.ref 83, .int (wI x1), .int (wI x2), .int (wI x3), .int (wI x4), .int (wI x5), .int (wI x6), .int (wI x7)] [.long (wJ (σ 84 (20 + 8 * x4 + x7))), .int (wI (σ 83 22)), .ref 89] S σ τ Q)) : wi (d + 5) 264 82 [.ref 83, .int (wI x1), .int (wI x2), .int (wI x3), .int (wI x4), .int (wI x5), .int (wI x6), .int (wI x7)] [] S σ τ Q := by
  refine i5 c_264_82 rfl (i45 c_264_83 (lo (c := 83) (kd := 112) (n := 0) rfl (by decide)) (lro (c := 83) (k := 19) (j := 89) (by decide)) (i5 c_264_86 rfl (wi_ok (fun K1 => ?_))))
  obtain ⟨r2, t⟩ := t
  refine i43 (v := σ 83 22) c_264_87 (lo (c := 83) (kd := 112) (n := 0) rfl (by decide)) rfl (i3 c_264_90 rfl ?_)
  refine i36 c_264_92 r2 rfl (fun hc => ?_) (fun hc => ?_)
  · have t := iF t hc
    have ha3 : ¬ (x6 = 0) := hc
    obtain ⟨p4, t⟩ := t
    refine i5 c_264_101 rfl (i3 c_264_102 rfl (i3 c_264_104 rfl ?_))
    refine i80 (As := [.int (wI x4), .int (wI x7)]) (rest := [.int (wI (σ 83 22)), .ref 89]) c_264_106 mi_197 rfl rfl (Nat.le_of_ble_eq_true rfl) (Nat.le_of_ble_eq_true rfl) (lo (c := 83) (kd := 112) (n := 0) rfl (by decide)) (q_197 p4 ?_)
    show wi (d + 5) 264 109 [.ref 83, .int (wI x1), .int (wI x2), .int (wI x3), .int (wI x4), .int (wI x5), .int (wI x6), .int (wI x7)] [.int (wI (σ 84 (20 + 8 * x4 + x7))), .int (wI (σ 83 22)), .ref 89] S σ τ Q
    refine i31 c_264_109 (rge_ K1 rfl) t
  · have t := iT t (Decidable.not_not.mp hc)
    have ha3 : x6 = 0 := Decidable.not_not.mp hc
    obtain ⟨r5, t⟩ := t
    refine i3 c_264_95 rfl (i31 c_264_97 r5 (i38 c_264_98 rfl t))
set_option maxRecDepth 20000 in
theorem u_264_110 {d : Nat} {S : zS} {σ τ : zI} {Q : zQ} {x1 : Int} {x2 : Int} {x3 : Int} {x4 : Int} {x5 : Int} {x6 : Int} {x7 : Int} {s1 : Int} {s2 : Int} (t : (0 ≤ s1 ∧ s1 < 320) ∧ ∃ w2 : Int, wJ w2 = wJ s2 ∧ rj w2 ∧ (0 ≤ σ 83 22 ∧ σ 83 22 < 320) ∧ ∃ w8 : Int, wI w8 = wI ((σ 83 22) + 1) ∧ rg w8 ∧ wi (d + 5) 264 331 [.ref 83, .int (wI x1), .int (wI x2), .int (wI x3), .int (wI x4), .int (wI x5), .int (wI x6), .int (wI x7)] [] S (uc σ 83 (u1 (σ 83) 22 w8)) (uc (uc τ 89 (u1 (τ 89) s1 w2)) 90 (u1 (τ 90) (σ 83 22) 1)) Q) : wi (d + 5) 264 110 [.ref 83, .int (wI x1), .int (wI x2), .int (wI x3), .int (wI x4), .int (wI x5), .int (wI x6), .int (wI x7)] [.long (wJ s2), .int (wI s1), .ref 89] S σ τ Q := by
  obtain ⟨r1, t⟩ := t
  obtain ⟨w2, e3, r4, t⟩ := t
  refine i56 (τ1 := uc τ 89 (u1 (τ 89) s1 w2)) c_264_110 (lo (c := 89) (kd := 1) (n := 320) rfl (by decide)) (by decide) r1 e3 r4 (wr_ rfl rfl) (i5 c_264_111 rfl (i45 c_264_112 (lo (c := 83) (kd := 112) (n := 0) rfl (by decide)) (lro (c := 83) (k := 20) (j := 90) (by decide)) (i5 c_264_115 rfl (wi_ok (fun K5 => ?_)))))
  obtain ⟨r6, t⟩ := t
  refine i43 (v := σ 83 22) c_264_116 (lo (c := 83) (kd := 112) (n := 0) rfl (by decide)) rfl (i2 c_264_119 (i56 (τ1 := uc (uc τ 89 (u1 (τ 89) s1 w2)) 90 (u1 (τ 90) (σ 83 22) 1)) c_264_120 (lo (c := 90) (kd := 1) (n := 320) rfl (by decide)) (by decide) r6 rfl (by decide) (wr_ (uc_ns rfl (by decide)) rfl) (i5 c_264_121 rfl (i33a c_264_122 (wi_ok (fun K7 => ?_))))))
  obtain ⟨w8, e9, r10, t⟩ := t
  refine i43 (v := σ 83 22) c_264_123 (lo (c := 83) (kd := 112) (n := 0) rfl (by decide)) rfl (i1 c_264_126 (i10 c_264_127 (i46 (σ1 := uc σ 83 (u1 (σ 83) 22 w8)) c_264_128 (lo (c := 83) (kd := 112) (n := 0) rfl (by decide)) (by decide) e9 r10 (wr_ rfl rfl) (i38 c_264_131 rfl t))))
set_option maxRecDepth 20000 in
theorem u_264_234 {d : Nat} {S : zS} {σ τ : zI} {Q : zQ} {x1 : Int} {x2 : Int} {x3 : Int} {x4 : Int} {x5 : Int} {x6 : Int} {x7 : Int} {s1 : Int} {s2 : Int} (t : (0 ≤ s1 ∧ s1 < 320) ∧ (s2 = 0 ∨ s2 = 1) ∧ wi (d + 5) 264 331 [.ref 83, .int (wI x1), .int (wI x2), .int (wI x3), .int (wI x4), .int (wI x5), .int (wI x6), .int (wI x7)] [] S (uc σ 91 (u1 (σ 91) s1 s2)) τ Q) : wi (d + 5) 264 234 [.ref 83, .int (wI x1), .int (wI x2), .int (wI x3), .int (wI x4), .int (wI x5), .int (wI x6), .int (wI x7)] [.int (wI s2), .int (wI s1), .ref 91] S σ τ Q := by
  obtain ⟨r1, t⟩ := t
  obtain ⟨b2, t⟩ := t
  refine i55 (σ1 := uc σ 91 (u1 (σ 91) s1 s2)) c_264_234 (lo (c := 91) (kd := 2) (n := 320) rfl (by decide)) (by decide) r1 (by decide) rfl b2 (wr_ rfl rfl) (i38 c_264_235 rfl t)
set_option maxRecDepth 20000 in
theorem u_264_295 {d : Nat} {S : zS} {σ τ : zI} {Q : zQ} {x1 : Int} {x2 : Int} {x3 : Int} {x4 : Int} {x5 : Int} {x6 : Int} {x7 : Int} {s1 : Int} (t : wi (d + 5) 264 330 [.ref 83, .int (wI x1), .int (wI x2), .int (wI x3), .int (wI x4), .int (wI x5), .int (wI x6), .int (wI x7)] [.int (wI 0), .int (wI s1), .ref 91] S σ τ Q) : wi (d + 5) 264 295 [.ref 83, .int (wI x1), .int (wI x2), .int (wI x3), .int (wI x4), .int (wI x5), .int (wI x6), .int (wI x7)] [.int (wI s1), .ref 91] S σ τ Q := by
  refine i1 c_264_295 (i38 c_264_296 rfl t)
set_option maxRecDepth 20000 in
theorem u_264_325 {d : Nat} {S : zS} {σ τ : zI} {Q : zQ} {x1 : Int} {x2 : Int} {x3 : Int} {x4 : Int} {x5 : Int} {x6 : Int} {x7 : Int} {s1 : Int} (t : wi (d + 5) 264 330 [.ref 83, .int (wI x1), .int (wI x2), .int (wI x3), .int (wI x4), .int (wI x5), .int (wI x6), .int (wI x7)] [.int (wI 1), .int (wI s1), .ref 91] S σ τ Q) : wi (d + 5) 264 325 [.ref 83, .int (wI x1), .int (wI x2), .int (wI x3), .int (wI x4), .int (wI x5), .int (wI x6), .int (wI x7)] [.int (wI s1), .ref 91] S σ τ Q := by
  refine i1 c_264_325 (i38 c_264_326 rfl t)
set_option maxRecDepth 20000 in
theorem u_264_330 {d : Nat} {S : zS} {σ τ : zI} {Q : zQ} {x1 : Int} {x2 : Int} {x3 : Int} {x4 : Int} {x5 : Int} {x6 : Int} {x7 : Int} {s1 : Int} {s2 : Int} (t : (0 ≤ s1 ∧ s1 < 320) ∧ (s2 = 0 ∨ s2 = 1) ∧ wi (d + 5) 264 331 [.ref 83, .int (wI x1), .int (wI x2), .int (wI x3), .int (wI x4), .int (wI x5), .int (wI x6), .int (wI x7)] [] S (uc σ 91 (u1 (σ 91) s1 s2)) τ Q) : wi (d + 5) 264 330 [.ref 83, .int (wI x1), .int (wI x2), .int (wI x3), .int (wI x4), .int (wI x5), .int (wI x6), .int (wI x7)] [.int (wI s2), .int (wI s1), .ref 91] S σ τ Q := by
  obtain ⟨r1, t⟩ := t
  obtain ⟨b2, t⟩ := t
  refine i55 (σ1 := uc σ 91 (u1 (σ 91) s1 s2)) c_264_330 (lo (c := 91) (kd := 2) (n := 320) rfl (by decide)) (by decide) r1 (by decide) rfl b2 (wr_ rfl rfl) t
set_option maxRecDepth 20000 in
theorem u_264_331 {d : Nat} {S : zS} {σ τ : zI} {Q : zQ} {x1 : Int} {x2 : Int} {x3 : Int} {x4 : Int} {x5 : Int} {x6 : Int} {x7 : Int} (t : wi (d + 5) 264 13 [.ref 83, .int (wI x1), .int (wI x2), .int (wI x3), .int (wI x4), .int (wI (x5 + 1)), .int (wI x6), .int (wI x7)] [] S σ τ Q) : wi (d + 5) 264 331 [.ref 83, .int (wI x1), .int (wI x2), .int (wI x3), .int (wI x4), .int (wI x5), .int (wI x6), .int (wI x7)] [] S σ τ Q := by
  refine i9 (L' := [.ref 83, .int (wI x1), .int (wI x2), .int (wI x3), .int (wI x4), .int (wI (x5 + 1)), .int (wI x6), .int (wI x7)]) c_264_331 rfl rfl (i38 c_264_334 rfl t)
theorem q_264 {d : Nat} {S : zS} {σ τ : zI} {Q : zQ} {text : Int} {fro : Int} {to : Int} {kind : Int} {m1 : Int} {b1 : Int} (p0 : jv_K (σ 84)) (p1 : 0 ≤ text ∧ text < 20) (p2 : 0 ≤ fro ∧ fro ≤ to ∧ to ≤ 300) (p3 : 0 ≤ kind ∧ kind ≤ 5) (p4 : wzN (σ 84) (5500 + 840 * text + 200) (to - fro).toNat fro 0 0 m1 b1) (t : ∀ (σ1 : zI) (τ1 : zI), Fr6 σ σ1 τ τ1 → RS σ1 τ1 (evN (σ 84) (fun v => σ 84 (20 + 8 * kind + v)) (5500 + 840 * text + 200) (to - fro).toNat fro ([], [])) → Q none S σ1 τ1) : wc (d + 5) 264 [.ref 83, .int (wI text), .int (wI fro), .int (wI to), .int (wI kind)] S σ τ Q := by
  have K := p0 kind p3.1 p3.2
  have key : ∀ n : Nat, ∀ (σ' τ' : zI) (s : eS) (i : Int) (y6 y7 : Value), i + n = to → fro ≤ i → wzN (σ 84) (5500 + 840 * text + 200) n i s.1.length s.2.length m1 b1 → (s.1.length : Int) + s.2.length ≤ 60 → Fr6 σ σ' τ τ' → RS σ' τ' s → (∀ σ1 τ1, Fr6 σ σ1 τ τ1 → RS σ1 τ1 (evN (σ 84) (fun v => σ 84 (20 + 8 * kind + v)) (5500 + 840 * text + 200) n i s) → Q none S σ1 τ1) → wi (d + 5) 264 13 [.ref 83, .int (wI text), .int (wI fro), .int (wI to), .int (wI kind), .int (wI i), y6, y7] [] S σ' τ' Q := by
    intro n
    induction n with
    | zero =>
      intro σ' τ' s i y6 y7 hi hf hw hsz fr rs t
      refine u_264_13 ⟨by omega, by omega, ?_⟩
      rw [if_pos (by omega)]
      exact t _ _ fr rs
    | succ n ih =>
      intro σ' τ' s i y6 y7 hi hf hw hsz fr rs t
      have next : ∀ (σ2 τ2 : zI) (x6 x7 : Int), Fr6 σ σ2 τ τ2 → RS σ2 τ2 (ev1 (fun v => σ 84 (20 + 8 * kind + v)) (σ 84 ((5500 + 840 * text + 200) + 2 * i)) (σ 84 ((5500 + 840 * text + 200) + 2 * i + 1)) s) → wi (d + 5) 264 331 [.ref 83, .int (wI text), .int (wI fro), .int (wI to), .int (wI kind), .int (wI i), .int (wI x6), .int (wI x7)] [] S σ2 τ2 Q := fun σ2 τ2 x6 x7 f2 r2 => by
        refine u_264_331 ?_
        have len := ev1_len (kv := (fun v => σ 84 (20 + 8 * kind + v))) hw.1
        exact ih σ2 τ2 _ (i + 1) _ _ (by omega) (by omega) (by rw [len.1, len.2]; exact hw.2) (by rw [len.1, len.2]; exact sz_b hw.1 hsz) f2 r2 t
      clear t ih
      have ho := hw.1
      have e84 : σ' 84 = σ 84 := fr.1 84 (by decide) (by decide)
      refine u_264_13 ⟨by omega, by omega, ?_⟩
      rw [if_neg (by omega), e84]
      refine ⟨by omega, by omega, ?_⟩
      generalize σ 84 ((5500 + 840 * text + 200) + 2 * i) = O at *
      generalize σ 84 ((5500 + 840 * text + 200) + 2 * i + 1) = V at *
      obtain ⟨fs, bs⟩ := s
      obtain ⟨m22, m23, hF, hB⟩ := rs
      dsimp only at m22 m23 hF hB ho hsz
      have push : ∀ X x6 x7, (-1000000000 ≤ X ∧ X ≤ 1000000000) → ev1 (fun v => σ 84 (20 + 8 * kind + v)) O V (fs, bs) = ((X, 1) :: fs, bs) → fs.length + bs.length < 60 → wi (d + 5) 264 110 [.ref 83, .int (wI text), .int (wI fro), .int (wI to), .int (wI kind), .int (wI i), .int (wI x6), .int (wI x7)] [.long (wJ X), .int (wI (σ' 83 22)), .ref 89] S σ' τ' Q := fun X x6 x7 hX he hl => by
        refine u_264_110 ⟨by omega, _, rfl, by omega, by omega, _, rfl, by omega, ?_⟩
        refine next _ _ _ _ (Fr6_j (Fr6_j (Fr6_k fr (fun k h1 h2 => by rw [u1_n h1])) (Or.inl rfl)) (Or.inr rfl)) ?_
        rw [he]
        refine ⟨by rw [uc_s, u1_s, m22]; rfl, by rw [uc_s, u1_n (by decide), m23], ?_, ?_⟩
        · rw [j89, j90, m22]
          exact ⟨⟨by rw [u1_s], fun _ => by rw [u1_s], Or.inr (by dsimp only; omega)⟩, FRs_c (fun k h0 h1 => ⟨by rw [u1_n (by omega)], by rw [u1_n (by omega)]⟩) hF⟩
        · rw [uc_n (by decide)]; exact hB
      unfold ok1 at ho
      rcases ho with ⟨e, hv, hm⟩ | ⟨e, hv, hm⟩ | ⟨e, hm⟩ | ⟨e, hm⟩ | ⟨e, hm⟩ | ⟨e, hm, hb⟩ | ⟨e, hm, hb⟩
      · subst e
        rw [if_pos rfl]
        refine u_264_82 ⟨by omega, ?_⟩
        rw [if_pos rfl]
        exact ⟨by omega, push _ _ _ (by omega) ev1_0 (by omega)⟩
      · subst e
        rw [if_neg (by omega), if_pos rfl]
        refine u_264_82 ⟨by omega, ?_⟩
        rw [if_neg (by omega), e84]
        have hb : 0 ≤ σ 84 (20 + 8 * kind + V) ∧ σ 84 (20 + 8 * kind + V) ≤ 1000 := by
          have : V = 1 ∨ V = 2 ∨ V = 3 ∨ V = 4 := by omega
          rcases this with h | h | h | h <;> rw [h] <;> omega
        exact ⟨by omega, push _ _ _ (by omega) ev1_1 (by omega)⟩
      · subst e
        obtain ⟨x, t, rfl⟩ := len1 hm
        · skip
          have hk : σ' 83 22 - 1 = (t.length : Int) := by rw [m22, List.length_cons]; omega
          have q := FRs_h hF hk
          rw [List.length_cons] at m22 hsz
          rw [if_neg (by omega), if_neg (by omega), if_pos rfl]
          refine ⟨by omega, zwj (-(τ' 89 (σ' 83 22 - 1))), wJ_zwj _, rj_zwj _, ?_⟩
          refine next _ _ _ _ (Fr6_j fr (Or.inl rfl)) ?_
          rw [ev1_2]
          refine ⟨m22, m23, ?_, hB⟩
          rw [uc_s, uc_n (by decide), hk]
          rw [hk] at q
          refine ⟨⟨q.2.1, fun h => ?_, ?_⟩, FRs_c (fun k h0 h1 => ⟨by rw [u1_n (by omega)], rfl⟩) hF.2⟩
          · have q1 := q.2.2.1 h
            have q2 := q.2.2.2
            dsimp only at h
            rw [u1_s, q1, zwj_id (by omega)]
          · have q2 := q.2.2.2
            dsimp only
            omega
      · obtain ⟨y, x, t, rfl⟩ := len2 (by omega : 2 ≤ (fs.length : Int))
        · skip
          have hk : σ' 83 22 - 1 = ((x :: t).length : Int) := by rw [m22, List.length_cons]; omega
          have hk2 : σ' 83 22 - 2 = (t.length : Int) := by rw [m22, List.length_cons, List.length_cons]; omega
          have q := FRs_h hF hk
          have q2 := FRs_h hF.2 hk2
          rw [if_neg (by omega), if_neg (by omega), if_neg (by omega), if_neg (by omega)]
          refine ⟨e, by omega, q2.1, q.1, fun U L h1 h2 => ?_⟩
          rw [q.2.1, q2.2.1, fr2_c q2.2.2.1 q.2.2.1] at h1 h2
          refine next _ _ _ _ (Fr6_j (Fr6_j (Fr6_k fr (fun k h1 h2 => by rw [u1_n h1])) (Or.inl rfl)) (Or.inr rfl)) ?_
          rw [ev1_3 e]
          refine ⟨by rw [uc_s, u1_s, hk]; rfl, by rw [uc_s, u1_n (by decide), m23], ?_, ?_⟩
          · rw [j89, j90, hk2]
            exact ⟨⟨by rw [u1_s]; exact h1, fun h => by rw [u1_s]; exact h2 (by rw [h1]; exact h), fr2_o _ _ _ _ _⟩, FRs_c (fun k h0 h1 => ⟨by rw [u1_n (by omega)], by rw [u1_n (by omega)]⟩) hF.2.2⟩
          · rw [uc_n (by decide)]; exact hB
      · obtain ⟨y, x, t, rfl⟩ := len2 (by omega : 2 ≤ (fs.length : Int))
        · skip
          have hk : σ' 83 22 - 1 = ((x :: t).length : Int) := by rw [m22, List.length_cons]; omega
          have hk2 : σ' 83 22 - 2 = (t.length : Int) := by rw [m22, List.length_cons, List.length_cons]; omega
          have q := FRs_h hF hk
          have q2 := FRs_h hF.2 hk2
          rw [if_neg (by omega), if_neg (by omega), if_neg (by omega), if_pos (by omega), if_neg (by omega)]
          refine ⟨e, by omega, by omega, q2.1, q.1, ?_⟩
          rw [q.2.1, q2.2.1, cm2_c q2.2.2.1 q.2.2.1]
          refine next _ _ _ _ (Fr6_b (Fr6_k fr (fun k h1 h2 => by rw [u1_n h2, u1_n h1]))) ?_
          rw [ev1_10 e]
          refine ⟨by rw [uc_n (by decide), uc_s, u1_n (by decide), u1_s, hk2], by rw [uc_n (by decide), uc_s, u1_s, m23]; rfl, hF.2.2, ?_⟩
          rw [uc_s, m23]
          exact ⟨by rw [u1_s], BRs_c (fun k h0 h1 => by rw [u1_n (by omega)]) hB⟩
      · subst e
        obtain ⟨b, t, rfl⟩ := len1 hb
        · skip
          have hk : σ' 83 23 - 1 = (t.length : Int) := by rw [m23, List.length_cons]; omega
          rw [if_neg (by omega), if_neg (by omega), if_neg (by omega), if_pos (by omega), if_pos (by omega), if_pos rfl]
          rw [hk, hB.1]
          have fin : ∀ z x6 x7, z = b1_ (!b) → wi (d + 5) 264 234 [.ref 83, .int (wI text), .int (wI fro), .int (wI to), .int (wI kind), .int (wI i), .int (wI x6), .int (wI x7)] [.int (wI z), .int (wI t.length), .ref 91] S σ' τ' Q := fun z x6 x7 hz => by
            refine u_264_234 ⟨by omega, by cases b <;> simp_all, ?_⟩
            refine next _ _ _ _ (Fr6_b fr) ?_
            rw [ev1_20]
            refine ⟨by rw [uc_n (by decide), m22], by rw [uc_n (by decide), m23]; rfl, hF, ?_⟩
            rw [uc_s]
            exact ⟨by rw [u1_s]; exact hz, BRs_c (fun k h0 h1 => by rw [u1_n (by omega)]) hB.2⟩
          refine ⟨by omega, ?_⟩
          refine ifI (fun h => fin _ _ _ ?_) (fun h => fin _ _ _ ?_)
          · cases b
            · rfl
            · simp at h
          · cases b
            · simp at h
            · rfl
      · obtain ⟨c, b, t, rfl⟩ := len2 hb
        have hk : σ' 83 23 - 1 = ((b :: t).length : Int) := by rw [m23, List.length_cons]; omega
        have hk1 : ((b :: t).length : Int) - 1 = (t.length : Int) := by rw [List.length_cons]; omega
        have hl : (t.length : Int) < 60 ∧ ((b :: t).length : Int) < 60 := by rw [List.length_cons, List.length_cons] at hsz; rw [List.length_cons]; omega
        rw [if_neg (by omega), if_neg (by omega), if_neg (by omega), if_pos (by omega), if_pos (by omega), if_neg (by omega)]
        refine ⟨_, rfl, by omega, ?_⟩
        rw [hk, hk1, hB.1, hB.2.1]
        have fin : ∀ z x6 x7, (z = 0 ∨ z = 1) → (z = b1_ (if O = 21 then b && c else b || c)) → wi (d + 5) 264 330 [.ref 83, .int (wI text), .int (wI fro), .int (wI to), .int (wI kind), .int (wI i), .int (wI x6), .int (wI x7)] [.int (wI z), .int (wI t.length), .ref 91] S (uc σ' 83 (u1 (σ' 83) 23 (b :: t).length)) τ' Q := fun z x6 x7 hz hb => by
          refine u_264_330 ⟨by omega, hz, ?_⟩
          refine next _ _ _ _ (Fr6_b (Fr6_k fr (fun k h1 h2 => by rw [u1_n h2]))) ?_
          have he : ev1 (fun v => σ 84 (20 + 8 * kind + v)) O V (fs, c :: b :: t) = (fs, (if O = 21 then b && c else b || c) :: t) := by
            rcases e with e | e <;> rw [e] <;> rfl
          rw [he]
          refine ⟨by rw [uc_n (by decide), uc_s, u1_n (by decide), m22], by rw [uc_n (by decide), uc_s, u1_s]; rfl, hF, ?_⟩
          rw [uc_s, uc_n (by decide)]
          exact ⟨by rw [u1_s]; exact hb, BRs_c (fun k h0 h1 => by rw [u1_n (by omega)]) hB.2.2⟩
        clear next
        refine ifI (fun h => ?_) (fun h => ?_)
        · rw [if_pos h] at fin
          refine ⟨by omega, ?_⟩
          refine ifI (fun h2 => u_264_295 (fin _ _ _ (Or.inl rfl) ?_)) (fun h2 => ⟨by omega, ifI (fun h3 => u_264_295 (fin _ _ _ (Or.inl rfl) ?_)) (fun h3 => fin _ _ _ (Or.inr rfl) ?_)⟩)
          all_goals (cases b <;> cases c <;> simp_all)
        · rw [if_neg h] at fin
          refine ⟨by omega, ?_⟩
          refine ifI (fun h2 => ⟨by omega, ifI (fun h3 => fin _ _ _ (Or.inl rfl) ?_) (fun h3 => u_264_325 (fin _ _ _ (Or.inr rfl) ?_))⟩) (fun h2 => u_264_325 (fin _ _ _ (Or.inr rfl) ?_))
          all_goals (cases b <;> cases c <;> simp_all)
  refine wc_of mi_264 rfl (u_264_0 ?_)
  exact key _ _ τ ([], []) fro _ _ (by omega) (by omega) p4 (by decide) (Fr6_k ⟨fun _ _ _ => rfl, fun _ _ _ => rfl, fun _ _ _ => rfl⟩ (fun k h1 h2 => by rw [u1_n h2, u1_n h1])) ⟨by rw [uc_s, u1_n (by decide), u1_s]; rfl, by rw [uc_s, u1_s]; rfl, trivial, trivial⟩ t
