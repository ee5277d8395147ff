/-! the segments of the program, printed by wip/whole/segs.py -/
-- method 32: MillTown$Reader.<init>()V
theorem c_32_0 : pg_cd 32 0 = (5, 1, 0, 0, 0) := by decide +kernel
theorem c_32_1 : pg_cd 32 1 = (61, 0, 3, 0, 0) := by decide +kernel
theorem c_32_4 : pg_cd 32 4 = (5, 1, 0, 0, 0) := by decide +kernel
theorem c_32_5 : pg_cd 32 5 = (1, 3, 0, 0, 301) := by decide +kernel
theorem c_32_8 : pg_cd 32 8 = (59, 2, 0, 0, 0) := by decide +kernel
theorem c_32_10 : pg_cd 32 10 = (49, 3, 9, 0, 0) := by decide +kernel
theorem c_32_13 : pg_cd 32 13 = (5, 1, 0, 0, 0) := by decide +kernel
theorem c_32_14 : pg_cd 32 14 = (1, 3, 0, 0, 301) := by decide +kernel
theorem c_32_17 : pg_cd 32 17 = (59, 2, 0, 0, 0) := by decide +kernel
theorem c_32_19 : pg_cd 32 19 = (49, 3, 15, 1, 0) := by decide +kernel
theorem c_32_22 : pg_cd 32 22 = (5, 1, 0, 0, 0) := by decide +kernel
theorem c_32_23 : pg_cd 32 23 = (1, 3, 0, 0, 301) := by decide +kernel
theorem c_32_26 : pg_cd 32 26 = (59, 2, 0, 0, 0) := by decide +kernel
theorem c_32_28 : pg_cd 32 28 = (49, 3, 18, 2, 0) := by decide +kernel
theorem c_32_31 : pg_cd 32 31 = (5, 1, 0, 0, 0) := by decide +kernel
theorem c_32_32 : pg_cd 32 32 = (1, 1, 0, 0, (-1)) := by decide +kernel
theorem c_32_33 : pg_cd 32 33 = (46, 3, 21, 5, 0) := by decide +kernel
theorem c_32_36 : pg_cd 32 36 = (5, 1, 0, 0, 0) := by decide +kernel
theorem c_32_37 : pg_cd 32 37 = (1, 1, 0, 0, (-1)) := by decide +kernel
theorem c_32_38 : pg_cd 32 38 = (46, 3, 25, 6, 0) := by decide +kernel
theorem c_32_41 : pg_cd 32 41 = (94, 0, 0, 0, 0) := by decide +kernel
theorem mx_32 : pg_mx 32 = 1 := by decide +kernel
theorem m_32 {d : Nat} {h : ab_H} {Q : Option Value → ab_H → Prop} {x0 : Nat} (t : wq d 32 0 [.ref x0] [] h Q) : wm d 32 [.ref x0] h Q := by
  unfold wm
  rw [mx_32]
  exact t
set_option maxRecDepth 20000 in
theorem t_32_0 {d : Nat} {h : ab_H} {Q : Option Value → ab_H → Prop} {x0 : Nat} (t : (¬ (301 : Int32) < 0 ∧ Int32.toNatClampNeg (301 : Int32) ≤ 1000000) ∧ ∀ h1 : ab_H, h1 = ab_new h 0 (Int32.toNatClampNeg (301 : Int32)) (Int32.toNatClampNeg (301 : Int32)) → ab_ok h1 x0 103 = true ∧ ∀ h2 : ab_H, h2 = ab_pr h1 x0 0 (some (ab_n h)) → (¬ (301 : Int32) < 0 ∧ Int32.toNatClampNeg (301 : Int32) ≤ 1000000) ∧ ∀ h3 : ab_H, h3 = ab_new h2 0 (Int32.toNatClampNeg (301 : Int32)) (Int32.toNatClampNeg (301 : Int32)) → ab_ok h3 x0 103 = true ∧ ∀ h4 : ab_H, h4 = ab_pr h3 x0 1 (some (ab_n h2)) → (¬ (301 : Int32) < 0 ∧ Int32.toNatClampNeg (301 : Int32) ≤ 1000000) ∧ ∀ h5 : ab_H, h5 = ab_new h4 0 (Int32.toNatClampNeg (301 : Int32)) (Int32.toNatClampNeg (301 : Int32)) → ab_ok h5 x0 103 = true ∧ ∀ h6 : ab_H, h6 = ab_pr h5 x0 2 (some (ab_n h4)) → ab_ok h6 x0 103 = true ∧ ∀ h7 : ab_H, h7 = ab_pi h6 x0 5 (-1) → ab_ok h7 x0 103 = true ∧ ∀ h8 : ab_H, h8 = ab_pi h7 x0 6 (-1) → Q none h8) : wq d 32 0 [.ref x0] [] h Q := by
  refine g5 c_32_0 rfl ?_
  refine g61 c_32_1 (Nat.le_of_ble_eq_true rfl) ?_
  refine g5 c_32_4 rfl ?_
  refine g1 c_32_5 k_301 ?_
  obtain ⟨ho, t⟩ := t
  refine g59 c_32_8 ho (fun h1 eh1 => ?_)
  have t := t h1 eh1
  obtain ⟨ho, t⟩ := t
  refine g49 c_32_10 ho (fun h2 eh2 => ?_)
  have t := t h2 eh2
  refine g5 c_32_13 rfl ?_
  refine g1 c_32_14 k_301 ?_
  obtain ⟨ho, t⟩ := t
  refine g59 c_32_17 ho (fun h3 eh3 => ?_)
  have t := t h3 eh3
  obtain ⟨ho, t⟩ := t
  refine g49 c_32_19 ho (fun h4 eh4 => ?_)
  have t := t h4 eh4
  refine g5 c_32_22 rfl ?_
  refine g1 c_32_23 k_301 ?_
  obtain ⟨ho, t⟩ := t
  refine g59 c_32_26 ho (fun h5 eh5 => ?_)
  have t := t h5 eh5
  obtain ⟨ho, t⟩ := t
  refine g49 c_32_28 ho (fun h6 eh6 => ?_)
  have t := t h6 eh6
  refine g5 c_32_31 rfl ?_
  refine g1 c_32_32 k_m1 ?_
  obtain ⟨ho, t⟩ := t
  refine g46 c_32_33 ho (fun h7 eh7 => ?_)
  have t := t h7 eh7
  refine g5 c_32_36 rfl ?_
  refine g1 c_32_37 k_m1 ?_
  obtain ⟨ho, t⟩ := t
  refine g46 c_32_38 ho (fun h8 eh8 => ?_)
  have t := t h8 eh8
  exact g94 c_32_41 t
-- method 33: MillTown$Reader.latestFault()I
theorem c_33_0 : pg_cd 33 0 = (5, 1, 0, 0, 0) := by decide +kernel
theorem c_33_1 : pg_cd 33 1 = (43, 3, 21, 5, 0) := by decide +kernel
theorem c_33_4 : pg_cd 33 4 = (90, 0, 0, 0, 0) := by decide +kernel
theorem mx_33 : pg_mx 33 = 1 := by decide +kernel
theorem m_33 {d : Nat} {h : ab_H} {Q : Option Value → ab_H → Prop} {x0 : Nat} (t : wq d 33 0 [.ref x0] [] h Q) : wm d 33 [.ref x0] h Q := by
  unfold wm
  rw [mx_33]
  exact t
set_option maxRecDepth 20000 in
theorem t_33_0 {d : Nat} {h : ab_H} {Q : Option Value → ab_H → Prop} {x0 : Nat} (t : ab_ok h x0 103 = true ∧ Q (some (.int (ab_i h x0 5))) h) : wq d 33 0 [.ref x0] [] h Q := by
  refine g5 c_33_0 rfl ?_
  obtain ⟨ho, t⟩ := t
  refine g43 c_33_1 ho ?_
  exact g90 c_33_4 t
-- method 34: MillTown$Reader.latestPlace()I
theorem c_34_0 : pg_cd 34 0 = (5, 1, 0, 0, 0) := by decide +kernel
theorem c_34_1 : pg_cd 34 1 = (43, 3, 25, 6, 0) := by decide +kernel
theorem c_34_4 : pg_cd 34 4 = (90, 0, 0, 0, 0) := by decide +kernel
theorem mx_34 : pg_mx 34 = 1 := by decide +kernel
theorem m_34 {d : Nat} {h : ab_H} {Q : Option Value → ab_H → Prop} {x0 : Nat} (t : wq d 34 0 [.ref x0] [] h Q) : wm d 34 [.ref x0] h Q := by
  unfold wm
  rw [mx_34]
  exact t
set_option maxRecDepth 20000 in
theorem t_34_0 {d : Nat} {h : ab_H} {Q : Option Value → ab_H → Prop} {x0 : Nat} (t : ab_ok h x0 103 = true ∧ Q (some (.int (ab_i h x0 6))) h) : wq d 34 0 [.ref x0] [] h Q := by
  refine g5 c_34_0 rfl ?_
  obtain ⟨ho, t⟩ := t
  refine g43 c_34_1 ho ?_
  exact g90 c_34_4 t
-- method 35: MillTown$Reader.read([IILMillTown$Text;)Z
theorem c_35_0 : pg_cd 35 0 = (5, 1, 0, 0, 0) := by decide +kernel
theorem c_35_1 : pg_cd 35 1 = (1, 1, 0, 0, 0) := by decide +kernel
theorem c_35_2 : pg_cd 35 2 = (46, 3, 21, 5, 0) := by decide +kernel
theorem c_35_5 : pg_cd 35 5 = (5, 1, 0, 0, 0) := by decide +kernel
theorem c_35_6 : pg_cd 35 6 = (1, 1, 0, 0, (-1)) := by decide +kernel
theorem c_35_7 : pg_cd 35 7 = (46, 3, 25, 6, 0) := by decide +kernel
theorem c_35_10 : pg_cd 35 10 = (5, 1, 0, 3, 0) := by decide +kernel
theorem c_35_11 : pg_cd 35 11 = (80, 81, 28, 0, 0) := by decide +kernel
theorem c_35_14 : pg_cd 35 14 = (5, 1, 0, 0, 0) := by decide +kernel
theorem c_35_15 : pg_cd 35 15 = (5, 1, 0, 1, 0) := by decide +kernel
theorem c_35_16 : pg_cd 35 16 = (3, 1, 0, 2, 0) := by decide +kernel
theorem c_35_17 : pg_cd 35 17 = (5, 1, 0, 1, 0) := by decide +kernel
theorem c_35_18 : pg_cd 35 18 = (58, 0, 0, 0, 0) := by decide +kernel
theorem c_35_19 : pg_cd 35 19 = (1, 3, 0, 0, 300) := by decide +kernel
theorem c_35_22 : pg_cd 35 22 = (74, 0, 33, 0, 0) := by decide +kernel
theorem c_35_25 : pg_cd 35 25 = (74, 0, 33, 0, 0) := by decide +kernel
theorem c_35_28 : pg_cd 35 28 = (80, 36, 39, 0, 0) := by decide +kernel
theorem c_35_31 : pg_cd 35 31 = (5, 1, 0, 0, 0) := by decide +kernel
theorem c_35_32 : pg_cd 35 32 = (1, 1, 0, 0, 0) := by decide +kernel
theorem c_35_33 : pg_cd 35 33 = (46, 3, 43, 3, 0) := by decide +kernel
theorem c_35_36 : pg_cd 35 36 = (5, 1, 0, 0, 0) := by decide +kernel
theorem c_35_37 : pg_cd 35 37 = (5, 1, 0, 0, 0) := by decide +kernel
theorem c_35_38 : pg_cd 35 38 = (45, 3, 9, 0, 0) := by decide +kernel
theorem c_35_41 : pg_cd 35 41 = (1, 1, 0, 0, 0) := by decide +kernel
theorem c_35_42 : pg_cd 35 42 = (50, 1, 0, 0, 0) := by decide +kernel
theorem c_35_43 : pg_cd 35 43 = (46, 3, 46, 4, 0) := by decide +kernel
theorem c_35_46 : pg_cd 35 46 = (1, 1, 0, 0, 0) := by decide +kernel
theorem c_35_47 : pg_cd 35 47 = (6, 2, 0, 4, 0) := by decide +kernel
theorem c_35_49 : pg_cd 35 49 = (3, 2, 0, 4, 0) := by decide +kernel
theorem c_35_51 : pg_cd 35 51 = (1, 2, 0, 0, 24) := by decide +kernel
theorem c_35_53 : pg_cd 35 53 = (37, 3, 0, 4, 90) := by decide +kernel
theorem c_35_56 : pg_cd 35 56 = (5, 1, 0, 0, 0) := by decide +kernel
theorem c_35_57 : pg_cd 35 57 = (43, 3, 21, 5, 0) := by decide +kernel
theorem c_35_60 : pg_cd 35 60 = (36, 3, 0, 1, 83) := by decide +kernel
theorem c_35_63 : pg_cd 35 63 = (5, 1, 0, 0, 0) := by decide +kernel
theorem c_35_64 : pg_cd 35 64 = (43, 3, 46, 4, 0) := by decide +kernel
theorem c_35_67 : pg_cd 35 67 = (1, 1, 0, 0, 1) := by decide +kernel
theorem c_35_68 : pg_cd 35 68 = (37, 3, 0, 0, 75) := by decide +kernel
theorem c_35_71 : pg_cd 35 71 = (5, 1, 0, 0, 0) := by decide +kernel
theorem c_35_72 : pg_cd 35 72 = (43, 3, 46, 4, 0) := by decide +kernel
theorem c_35_75 : pg_cd 35 75 = (1, 1, 0, 0, 3) := by decide +kernel
theorem c_35_76 : pg_cd 35 76 = (37, 3, 0, 2, 12) := by decide +kernel
theorem c_35_79 : pg_cd 35 79 = (5, 1, 0, 0, 0) := by decide +kernel
theorem c_35_80 : pg_cd 35 80 = (43, 3, 46, 4, 0) := by decide +kernel
theorem c_35_83 : pg_cd 35 83 = (1, 2, 0, 0, 9) := by decide +kernel
theorem c_35_85 : pg_cd 35 85 = (37, 3, 0, 5, 11) := by decide +kernel
theorem c_35_88 : pg_cd 35 88 = (5, 1, 0, 0, 0) := by decide +kernel
theorem c_35_89 : pg_cd 35 89 = (1, 1, 0, 0, 1) := by decide +kernel
theorem c_35_90 : pg_cd 35 90 = (80, 43, 49, 0, 0) := by decide +kernel
theorem c_35_93 : pg_cd 35 93 = (38, 3, 0, 0, 44) := by decide +kernel
theorem c_35_96 : pg_cd 35 96 = (5, 1, 0, 3, 0) := by decide +kernel
theorem c_35_97 : pg_cd 35 97 = (45, 7, 53, 0, 0) := by decide +kernel
theorem c_35_100 : pg_cd 35 100 = (43, 4, 57, 2, 0) := by decide +kernel
theorem c_35_103 : pg_cd 35 103 = (1, 2, 0, 0, 24) := by decide +kernel
theorem c_35_105 : pg_cd 35 105 = (37, 3, 0, 2, 11) := by decide +kernel
theorem c_35_108 : pg_cd 35 108 = (5, 1, 0, 0, 0) := by decide +kernel
theorem c_35_109 : pg_cd 35 109 = (1, 1, 0, 0, 4) := by decide +kernel
theorem c_35_110 : pg_cd 35 110 = (80, 43, 49, 0, 0) := by decide +kernel
theorem c_35_113 : pg_cd 35 113 = (38, 3, 0, 0, 24) := by decide +kernel
theorem c_35_116 : pg_cd 35 116 = (5, 1, 0, 0, 0) := by decide +kernel
theorem c_35_117 : pg_cd 35 117 = (43, 3, 46, 4, 0) := by decide +kernel
theorem c_35_120 : pg_cd 35 120 = (1, 1, 0, 0, 5) := by decide +kernel
theorem c_35_121 : pg_cd 35 121 = (37, 3, 0, 4, 11) := by decide +kernel
theorem c_35_124 : pg_cd 35 124 = (5, 1, 0, 0, 0) := by decide +kernel
theorem c_35_125 : pg_cd 35 125 = (5, 1, 0, 3, 0) := by decide +kernel
theorem c_35_126 : pg_cd 35 126 = (80, 47, 62, 0, 0) := by decide +kernel
theorem c_35_129 : pg_cd 35 129 = (38, 3, 0, 0, 8) := by decide +kernel
theorem c_35_132 : pg_cd 35 132 = (5, 1, 0, 0, 0) := by decide +kernel
theorem c_35_133 : pg_cd 35 133 = (5, 1, 0, 3, 0) := by decide +kernel
theorem c_35_134 : pg_cd 35 134 = (80, 46, 66, 0, 0) := by decide +kernel
theorem c_35_137 : pg_cd 35 137 = (9, 3, 0, 4, 1) := by decide +kernel
theorem c_35_140 : pg_cd 35 140 = (38, 3, 0, 0, (-91)) := by decide +kernel
theorem c_35_143 : pg_cd 35 143 = (5, 1, 0, 0, 0) := by decide +kernel
theorem c_35_144 : pg_cd 35 144 = (43, 3, 21, 5, 0) := by decide +kernel
theorem c_35_147 : pg_cd 35 147 = (36, 3, 0, 1, 7) := by decide +kernel
theorem c_35_150 : pg_cd 35 150 = (1, 1, 0, 0, 1) := by decide +kernel
theorem c_35_151 : pg_cd 35 151 = (38, 3, 0, 0, 4) := by decide +kernel
theorem c_35_154 : pg_cd 35 154 = (1, 1, 0, 0, 0) := by decide +kernel
theorem c_35_155 : pg_cd 35 155 = (91, 0, 0, 0, 0) := by decide +kernel
theorem mx_35 : pg_mx 35 = 5 := by decide +kernel
theorem m_35 {d : Nat} {h : ab_H} {Q : Option Value → ab_H → Prop} {x0 : Nat} {x1 : Nat} {x2 : Int32} {x3 : Nat} (t : wq d 35 0 [.ref x0, .ref x1, .int x2, .ref x3, .retAddr 0] [] h Q) : wm d 35 [.ref x0, .ref x1, .int x2, .ref x3] h Q := by
  unfold wm
  rw [mx_35]
  exact t
set_option maxRecDepth 20000 in
theorem t_35_0 {d : Nat} {h : ab_H} {Q : Option Value → ab_H → Prop} {x0 : Nat} {x1 : Nat} {x2 : Int32} {x3 : Nat} (t : ab_ok h x0 103 = true ∧ ∀ h1 : ab_H, h1 = ab_pi h x0 5 0 → ab_ok h1 x0 103 = true ∧ ∀ h2 : ab_H, h2 = ab_pi h1 x0 6 (-1) → ab_ok h2 x3 107 = true ∧ wm d 81 [.ref x3] h2 (fun r9 h9 => wq (d + 1) 35 14 [.ref x0, .ref x1, .int x2, .ref x3, .retAddr 0] (r9.toList ++ []) h9 Q)) : wq (d + 1) 35 0 [.ref x0, .ref x1, .int x2, .ref x3, .retAddr 0] [] h Q := by
  refine g5 c_35_0 rfl ?_
  refine g1 c_35_1 k_0 ?_
  obtain ⟨ho, t⟩ := t
  refine g46 c_35_2 ho (fun h1 eh1 => ?_)
  have t := t h1 eh1
  refine g5 c_35_5 rfl ?_
  refine g1 c_35_6 k_m1 ?_
  obtain ⟨ho, t⟩ := t
  refine g46 c_35_7 ho (fun h2 eh2 => ?_)
  have t := t h2 eh2
  refine g5 c_35_10 rfl ?_
  exact g80 (As := []) (rest := []) c_35_11 rfl rfl (Nat.le_of_ble_eq_true rfl) (Nat.le_of_ble_eq_true rfl) t.1 t.2
set_option maxRecDepth 20000 in
theorem t_35_14 {d : Nat} {h : ab_H} {Q : Option Value → ab_H → Prop} {x0 : Nat} {x1 : Nat} {x2 : Int32} {x3 : Nat} (t : ((x1 = 0 ∧ 0 = 0) ∨ ab_ok h x1 0 = true) ∧ 7 ≤ (d + 1) ∧ 7 ≤ (d + 1) ∧ ab_ok h x0 103 = true ∧ wm d 36 [.ref x0, .ref x1, .int (if (if (300 : Int32) < (Int32.ofNat (ab_s h x1).2) then 300 else (Int32.ofNat (ab_s h x1).2)) < x2 then (if (300 : Int32) < (Int32.ofNat (ab_s h x1).2) then 300 else (Int32.ofNat (ab_s h x1).2)) else x2)] h (fun r9 h9 => wq (d + 1) 35 31 [.ref x0, .ref x1, .int x2, .ref x3, .retAddr 0] (r9.toList ++ []) h9 Q)) : wq (d + 1) 35 14 [.ref x0, .ref x1, .int x2, .ref x3, .retAddr 0] [] h Q := by
  refine g5 c_35_14 rfl ?_
  refine g5 c_35_15 rfl ?_
  refine g3 c_35_16 rfl ?_
  refine g5 c_35_17 rfl ?_
  obtain ⟨ho, t⟩ := t
  refine g58 c_35_18 ho ?_
  refine g1 c_35_19 k_300 ?_
  obtain ⟨h7, t⟩ := t
  refine g74 c_35_22 (Nat.le_of_ble_eq_true rfl) h7 ?_
  obtain ⟨h7, t⟩ := t
  refine g74 c_35_25 (Nat.le_of_ble_eq_true rfl) h7 ?_
  exact g80 (As := [.ref x1, .int (if (if (300 : Int32) < (Int32.ofNat (ab_s h x1).2) then 300 else (Int32.ofNat (ab_s h x1).2)) < x2 then (if (300 : Int32) < (Int32.ofNat (ab_s h x1).2) then 300 else (Int32.ofNat (ab_s h x1).2)) else x2)]) (rest := []) c_35_28 rfl rfl (Nat.le_of_ble_eq_true rfl) (Nat.le_of_ble_eq_true rfl) t.1 t.2
set_option maxRecDepth 20000 in
theorem t_35_31 {d : Nat} {h : ab_H} {Q : Option Value → ab_H → Prop} {x0 : Nat} {x1 : Nat} {x2 : Int32} {x3 : Nat} (t : ab_ok h x0 103 = true ∧ ∀ h1 : ab_H, h1 = ab_pi h x0 3 0 → ab_ok h1 x0 103 = true ∧ ∃ j2 : Nat, ab_r h1 x0 0 = some j2 ∧ ((j2 = 0 ∨ ab_ok h1 j2 0 = true) ∧ ab_in (0 : Int32) (ab_s h1 j2).2 = true) ∧ ab_ok h1 x0 103 = true ∧ ∀ h3 : ab_H, h3 = ab_pi h1 x0 4 (ab_i h1 j2 (Int32.toNatClampNeg (0 : Int32))) → wq d 35 49 [.ref x0, .ref x1, .int x2, .ref x3, .int 0] [] h3 Q) : wq d 35 31 [.ref x0, .ref x1, .int x2, .ref x3, .retAddr 0] [] h Q := by
  refine g5 c_35_31 rfl ?_
  refine g1 c_35_32 k_0 ?_
  obtain ⟨ho, t⟩ := t
  refine g46 c_35_33 ho (fun h1 eh1 => ?_)
  have t := t h1 eh1
  refine g5 c_35_36 rfl ?_
  refine g5 c_35_37 rfl ?_
  obtain ⟨ho, j2, hr, t⟩ := t
  refine g45 c_35_38 ho hr ?_
  refine g1 c_35_41 k_0 ?_
  obtain ⟨ho, t⟩ := t
  refine g50 c_35_42 ho ?_
  obtain ⟨ho, t⟩ := t
  refine g46 c_35_43 ho (fun h3 eh3 => ?_)
  have t := t h3 eh3
  refine g1 c_35_46 k_0 ?_
  refine g6 (L' := [.ref x0, .ref x1, .int x2, .ref x3, .int 0]) c_35_47 rfl ?_
  exact t
set_option maxRecDepth 20000 in
theorem t_35_49 {d : Nat} {h : ab_H} {Q : Option Value → ab_H → Prop} {x0 : Nat} {x1 : Nat} {x2 : Int32} {x3 : Nat} {x4 : Int32} (t : if 24 < x4 then (ab_ok h x0 103 = true ∧ if (ab_i h x0 5) = 0 then (Q (some (.int 1)) h) else (Q (some (.int 0)) h)) else (ab_ok h x0 103 = true ∧ if (ab_i h x0 5) = 0 then (ab_ok h x0 103 = true ∧ if (ab_i h x0 4) = 1 then (ab_ok h x0 103 = true ∧ if (ab_i h x0 5) = 0 then (Q (some (.int 1)) h) else (Q (some (.int 0)) h)) else (ab_ok h x0 103 = true ∧ if (ab_i h x0 4) < 3 then (ab_ok h x0 103 = true ∧ wm d 43 [.ref x0, .int 1] h (fun r9 h9 => wq (d + 1) 35 93 [.ref x0, .ref x1, .int x2, .ref x3, .int x4] (r9.toList ++ []) h9 Q)) else (ab_ok h x0 103 = true ∧ if (ab_i h x0 4) ≤ 9 then (ab_ok h x3 107 = true ∧ ∃ j1 : Nat, ab_r h x3 0 = some j1 ∧ ab_ok h j1 104 = true ∧ if (ab_i h j1 2) < 24 then (ab_ok h x0 103 = true ∧ if 5 < (ab_i h x0 4) then (ab_ok h x0 103 = true ∧ wm d 46 [.ref x0, .ref x3] h (fun r9 h9 => wq (d + 1) 35 137 [.ref x0, .ref x1, .int x2, .ref x3, .int x4] (r9.toList ++ []) h9 Q)) else (ab_ok h x0 103 = true ∧ wm d 47 [.ref x0, .ref x3] h (fun r9 h9 => wq (d + 1) 35 129 [.ref x0, .ref x1, .int x2, .ref x3, .int x4] (r9.toList ++ []) h9 Q))) else (ab_ok h x0 103 = true ∧ wm d 43 [.ref x0, .int 4] h (fun r9 h9 => wq (d + 1) 35 113 [.ref x0, .ref x1, .int x2, .ref x3, .int x4] (r9.toList ++ []) h9 Q))) else (ab_ok h x0 103 = true ∧ wm d 43 [.ref x0, .int 1] h (fun r9 h9 => wq (d + 1) 35 93 [.ref x0, .ref x1, .int x2, .ref x3, .int x4] (r9.toList ++ []) h9 Q))))) else (ab_ok h x0 103 = true ∧ if (ab_i h x0 5) = 0 then (Q (some (.int 1)) h) else (Q (some (.int 0)) h)))) : wq (d + 1) 35 49 [.ref x0, .ref x1, .int x2, .ref x3, .int x4] [] h Q := by
  refine g3 c_35_49 rfl ?_
  refine g1 c_35_51 k_24 ?_
  refine gcm c_35_53 (gbr t rfl rfl (fun hc t => ?_) (fun hc t => ?_))
  · refine g5 c_35_143 rfl ?_
    obtain ⟨ho, t⟩ := t
    refine g43 c_35_144 ho ?_
    refine gif c_35_147 (gbn t (ab_c1 _ _) rfl (fun hc t => ?_) (fun hc t => ?_))
    · refine g1 c_35_150 k_1 ?_
      refine g38 c_35_151 rfl ?_
      exact g91 c_35_155 ⟨by decide, t⟩
    · refine g1 c_35_154 k_0 ?_
      exact g91 c_35_155 ⟨by decide, t⟩
  · refine g5 c_35_56 rfl ?_
    obtain ⟨ho, t⟩ := t
    refine g43 c_35_57 ho ?_
    refine gif c_35_60 (gbn t (ab_c1 _ _) rfl (fun hc t => ?_) (fun hc t => ?_))
    · refine g5 c_35_63 rfl ?_
      obtain ⟨ho, t⟩ := t
      refine g43 c_35_64 ho ?_
      refine g1 c_35_67 k_1 ?_
      refine gcm c_35_68 (gbr t rfl rfl (fun hc t => ?_) (fun hc t => ?_))
      · refine g5 c_35_143 rfl ?_
        obtain ⟨ho, t⟩ := t
        refine g43 c_35_144 ho ?_
        refine gif c_35_147 (gbn t (ab_c1 _ _) rfl (fun hc t => ?_) (fun hc t => ?_))
        · refine g1 c_35_150 k_1 ?_
          refine g38 c_35_151 rfl ?_
          exact g91 c_35_155 ⟨by decide, t⟩
        · refine g1 c_35_154 k_0 ?_
          exact g91 c_35_155 ⟨by decide, t⟩
      · refine g5 c_35_71 rfl ?_
        obtain ⟨ho, t⟩ := t
        refine g43 c_35_72 ho ?_
        refine g1 c_35_75 k_3 ?_
        refine gcm c_35_76 (gbr t rfl rfl (fun hc t => ?_) (fun hc t => ?_))
        · refine g5 c_35_88 rfl ?_
          refine g1 c_35_89 k_1 ?_
          exact g80 (As := [.int 1]) (rest := []) c_35_90 rfl rfl (Nat.le_of_ble_eq_true rfl) (Nat.le_of_ble_eq_true rfl) t.1 t.2
        · refine g5 c_35_79 rfl ?_
          obtain ⟨ho, t⟩ := t
          refine g43 c_35_80 ho ?_
          refine g1 c_35_83 k_9 ?_
          refine gcm c_35_85 (gbr t rfl rfl (fun hc t => ?_) (fun hc t => ?_))
          · refine g5 c_35_96 rfl ?_
            obtain ⟨ho, j1, hr, t⟩ := t
            refine g45 c_35_97 ho hr ?_
            obtain ⟨ho, t⟩ := t
            refine g43 c_35_100 ho ?_
            refine g1 c_35_103 k_24 ?_
            refine gcm c_35_105 (gbr t rfl rfl (fun hc t => ?_) (fun hc t => ?_))
            · refine g5 c_35_116 rfl ?_
              obtain ⟨ho, t⟩ := t
              refine g43 c_35_117 ho ?_
              refine g1 c_35_120 k_5 ?_
              refine gcm c_35_121 (gbr t rfl rfl (fun hc t => ?_) (fun hc t => ?_))
              · refine g5 c_35_132 rfl ?_
                refine g5 c_35_133 rfl ?_
                exact g80 (As := [.ref x3]) (rest := []) c_35_134 rfl rfl (Nat.le_of_ble_eq_true rfl) (Nat.le_of_ble_eq_true rfl) t.1 t.2
              · refine g5 c_35_124 rfl ?_
                refine g5 c_35_125 rfl ?_
                exact g80 (As := [.ref x3]) (rest := []) c_35_126 rfl rfl (Nat.le_of_ble_eq_true rfl) (Nat.le_of_ble_eq_true rfl) t.1 t.2
            · refine g5 c_35_108 rfl ?_
              refine g1 c_35_109 k_4 ?_
              exact g80 (As := [.int 4]) (rest := []) c_35_110 rfl rfl (Nat.le_of_ble_eq_true rfl) (Nat.le_of_ble_eq_true rfl) t.1 t.2
          · refine g5 c_35_88 rfl ?_
            refine g1 c_35_89 k_1 ?_
            exact g80 (As := [.int 1]) (rest := []) c_35_90 rfl rfl (Nat.le_of_ble_eq_true rfl) (Nat.le_of_ble_eq_true rfl) t.1 t.2
    · refine g5 c_35_143 rfl ?_
      obtain ⟨ho, t⟩ := t
      refine g43 c_35_144 ho ?_
      refine gif c_35_147 (gbn t (ab_c1 _ _) rfl (fun hc t => ?_) (fun hc t => ?_))
      · refine g1 c_35_150 k_1 ?_
        refine g38 c_35_151 rfl ?_
        exact g91 c_35_155 ⟨by decide, t⟩
      · refine g1 c_35_154 k_0 ?_
        exact g91 c_35_155 ⟨by decide, t⟩
set_option maxRecDepth 20000 in
theorem t_35_93 {d : Nat} {h : ab_H} {Q : Option Value → ab_H → Prop} {x0 : Nat} {x1 : Nat} {x2 : Int32} {x3 : Nat} {x4 : Int32} (t : wq d 35 49 [.ref x0, .ref x1, .int x2, .ref x3, .int (x4 + 1)] [] h Q) : wq d 35 93 [.ref x0, .ref x1, .int x2, .ref x3, .int x4] [] h Q := by
  refine g38 c_35_93 rfl ?_
  refine g9 (L' := [.ref x0, .ref x1, .int x2, .ref x3, .int (x4 + 1)]) c_35_137 rfl k_1 rfl ?_
  refine g38 c_35_140 rfl ?_
  exact t
set_option maxRecDepth 20000 in
theorem t_35_113 {d : Nat} {h : ab_H} {Q : Option Value → ab_H → Prop} {x0 : Nat} {x1 : Nat} {x2 : Int32} {x3 : Nat} {x4 : Int32} (t : wq d 35 49 [.ref x0, .ref x1, .int x2, .ref x3, .int (x4 + 1)] [] h Q) : wq d 35 113 [.ref x0, .ref x1, .int x2, .ref x3, .int x4] [] h Q := by
  refine g38 c_35_113 rfl ?_
  refine g9 (L' := [.ref x0, .ref x1, .int x2, .ref x3, .int (x4 + 1)]) c_35_137 rfl k_1 rfl ?_
  refine g38 c_35_140 rfl ?_
  exact t
set_option maxRecDepth 20000 in
theorem t_35_129 {d : Nat} {h : ab_H} {Q : Option Value → ab_H → Prop} {x0 : Nat} {x1 : Nat} {x2 : Int32} {x3 : Nat} {x4 : Int32} (t : wq d 35 49 [.ref x0, .ref x1, .int x2, .ref x3, .int (x4 + 1)] [] h Q) : wq d 35 129 [.ref x0, .ref x1, .int x2, .ref x3, .int x4] [] h Q := by
  refine g38 c_35_129 rfl ?_
  refine g9 (L' := [.ref x0, .ref x1, .int x2, .ref x3, .int (x4 + 1)]) c_35_137 rfl k_1 rfl ?_
  refine g38 c_35_140 rfl ?_
  exact t
set_option maxRecDepth 20000 in
theorem t_35_137 {d : Nat} {h : ab_H} {Q : Option Value → ab_H → Prop} {x0 : Nat} {x1 : Nat} {x2 : Int32} {x3 : Nat} {x4 : Int32} (t : wq d 35 49 [.ref x0, .ref x1, .int x2, .ref x3, .int (x4 + 1)] [] h Q) : wq d 35 137 [.ref x0, .ref x1, .int x2, .ref x3, .int x4] [] h Q := by
  refine g9 (L' := [.ref x0, .ref x1, .int x2, .ref x3, .int (x4 + 1)]) c_35_137 rfl k_1 rfl ?_
  refine g38 c_35_140 rfl ?_
  exact t
-- method 36: MillTown$Reader.cut([II)V
theorem c_36_0 : pg_cd 36 0 = (1, 1, 0, 0, 0) := by decide +kernel
theorem c_36_1 : pg_cd 36 1 = (6, 1, 0, 3, 0) := by decide +kernel
theorem c_36_2 : pg_cd 36 2 = (1, 1, 0, 0, 0) := by decide +kernel
theorem c_36_3 : pg_cd 36 3 = (6, 2, 0, 4, 0) := by decide +kernel
theorem c_36_5 : pg_cd 36 5 = (1, 1, 0, 0, 0) := by decide +kernel
theorem c_36_6 : pg_cd 36 6 = (6, 2, 0, 5, 0) := by decide +kernel
theorem c_36_8 : pg_cd 36 8 = (3, 2, 0, 5, 0) := by decide +kernel
theorem c_36_10 : pg_cd 36 10 = (3, 1, 0, 2, 0) := by decide +kernel
theorem c_36_11 : pg_cd 36 11 = (37, 3, 0, 3, 85) := by decide +kernel
theorem c_36_14 : pg_cd 36 14 = (3, 2, 0, 4, 0) := by decide +kernel
theorem c_36_16 : pg_cd 36 16 = (3, 1, 0, 2, 0) := by decide +kernel
theorem c_36_17 : pg_cd 36 17 = (37, 3, 0, 3, 79) := by decide +kernel
theorem c_36_20 : pg_cd 36 20 = (5, 1, 0, 1, 0) := by decide +kernel
theorem c_36_21 : pg_cd 36 21 = (3, 1, 0, 2, 0) := by decide +kernel
theorem c_36_22 : pg_cd 36 22 = (3, 2, 0, 4, 0) := by decide +kernel
theorem c_36_24 : pg_cd 36 24 = (81, 39, 69, 0, 0) := by decide +kernel
theorem c_36_27 : pg_cd 36 27 = (6, 2, 0, 6, 0) := by decide +kernel
theorem c_36_29 : pg_cd 36 29 = (5, 1, 0, 1, 0) := by decide +kernel
theorem c_36_30 : pg_cd 36 30 = (3, 2, 0, 4, 0) := by decide +kernel
theorem c_36_32 : pg_cd 36 32 = (50, 1, 0, 0, 0) := by decide +kernel
theorem c_36_33 : pg_cd 36 33 = (1, 2, 0, 0, 32) := by decide +kernel
theorem c_36_35 : pg_cd 36 35 = (37, 3, 0, 0, 51) := by decide +kernel
theorem c_36_38 : pg_cd 36 38 = (5, 1, 0, 1, 0) := by decide +kernel
theorem c_36_39 : pg_cd 36 39 = (3, 2, 0, 4, 0) := by decide +kernel
theorem c_36_41 : pg_cd 36 41 = (50, 1, 0, 0, 0) := by decide +kernel
theorem c_36_42 : pg_cd 36 42 = (1, 2, 0, 0, 10) := by decide +kernel
theorem c_36_44 : pg_cd 36 44 = (37, 3, 0, 0, 42) := by decide +kernel
theorem c_36_47 : pg_cd 36 47 = (5, 1, 0, 0, 0) := by decide +kernel
theorem c_36_48 : pg_cd 36 48 = (45, 3, 9, 0, 0) := by decide +kernel
theorem c_36_51 : pg_cd 36 51 = (3, 1, 0, 3, 0) := by decide +kernel
theorem c_36_52 : pg_cd 36 52 = (5, 1, 0, 1, 0) := by decide +kernel
theorem c_36_53 : pg_cd 36 53 = (3, 2, 0, 4, 0) := by decide +kernel
theorem c_36_55 : pg_cd 36 55 = (3, 2, 0, 6, 0) := by decide +kernel
theorem c_36_57 : pg_cd 36 57 = (81, 40, 73, 0, 0) := by decide +kernel
theorem c_36_60 : pg_cd 36 60 = (54, 1, 0, 0, 0) := by decide +kernel
theorem c_36_61 : pg_cd 36 61 = (5, 1, 0, 0, 0) := by decide +kernel
theorem c_36_62 : pg_cd 36 62 = (45, 3, 15, 1, 0) := by decide +kernel
theorem c_36_65 : pg_cd 36 65 = (3, 1, 0, 3, 0) := by decide +kernel
theorem c_36_66 : pg_cd 36 66 = (3, 2, 0, 4, 0) := by decide +kernel
theorem c_36_68 : pg_cd 36 68 = (54, 1, 0, 0, 0) := by decide +kernel
theorem c_36_69 : pg_cd 36 69 = (5, 1, 0, 0, 0) := by decide +kernel
theorem c_36_70 : pg_cd 36 70 = (45, 3, 18, 2, 0) := by decide +kernel
theorem c_36_73 : pg_cd 36 73 = (3, 1, 0, 3, 0) := by decide +kernel
theorem c_36_74 : pg_cd 36 74 = (5, 1, 0, 1, 0) := by decide +kernel
theorem c_36_75 : pg_cd 36 75 = (3, 2, 0, 4, 0) := by decide +kernel
theorem c_36_77 : pg_cd 36 77 = (3, 2, 0, 6, 0) := by decide +kernel
theorem c_36_79 : pg_cd 36 79 = (81, 42, 76, 0, 0) := by decide +kernel
theorem c_36_82 : pg_cd 36 82 = (54, 1, 0, 0, 0) := by decide +kernel
theorem c_36_83 : pg_cd 36 83 = (9, 3, 0, 3, 1) := by decide +kernel
theorem c_36_86 : pg_cd 36 86 = (3, 2, 0, 6, 0) := by decide +kernel
theorem c_36_88 : pg_cd 36 88 = (6, 2, 0, 4, 0) := by decide +kernel
theorem c_36_90 : pg_cd 36 90 = (9, 3, 0, 5, 1) := by decide +kernel
theorem c_36_93 : pg_cd 36 93 = (38, 3, 0, 0, (-85)) := by decide +kernel
theorem c_36_96 : pg_cd 36 96 = (5, 1, 0, 0, 0) := by decide +kernel
theorem c_36_97 : pg_cd 36 97 = (45, 3, 9, 0, 0) := by decide +kernel
theorem c_36_100 : pg_cd 36 100 = (3, 1, 0, 3, 0) := by decide +kernel
theorem c_36_101 : pg_cd 36 101 = (1, 1, 0, 0, 1) := by decide +kernel
theorem c_36_102 : pg_cd 36 102 = (54, 1, 0, 0, 0) := by decide +kernel
theorem c_36_103 : pg_cd 36 103 = (5, 1, 0, 0, 0) := by decide +kernel
theorem c_36_104 : pg_cd 36 104 = (45, 3, 15, 1, 0) := by decide +kernel
theorem c_36_107 : pg_cd 36 107 = (3, 1, 0, 3, 0) := by decide +kernel
theorem c_36_108 : pg_cd 36 108 = (3, 1, 0, 2, 0) := by decide +kernel
theorem c_36_109 : pg_cd 36 109 = (54, 1, 0, 0, 0) := by decide +kernel
theorem c_36_110 : pg_cd 36 110 = (94, 0, 0, 0, 0) := by decide +kernel
theorem mx_36 : pg_mx 36 = 7 := by decide +kernel
theorem m_36 {d : Nat} {h : ab_H} {Q : Option Value → ab_H → Prop} {x0 : Nat} {x1 : Nat} {x2 : Int32} (t : wq d 36 0 [.ref x0, .ref x1, .int x2, .retAddr 0, .retAddr 0, .retAddr 0, .retAddr 0] [] h Q) : wm d 36 [.ref x0, .ref x1, .int x2] h Q := by
  unfold wm
  rw [mx_36]
  exact t
set_option maxRecDepth 20000 in
theorem t_36_0 {d : Nat} {h : ab_H} {Q : Option Value → ab_H → Prop} {x0 : Nat} {x1 : Nat} {x2 : Int32} (t : wq d 36 8 [.ref x0, .ref x1, .int x2, .int 0, .int 0, .int 0, .retAddr 0] [] h Q) : wq d 36 0 [.ref x0, .ref x1, .int x2, .retAddr 0, .retAddr 0, .retAddr 0, .retAddr 0] [] h Q := by
  refine g1 c_36_0 k_0 ?_
  refine g6 (L' := [.ref x0, .ref x1, .int x2, .int 0, .retAddr 0, .retAddr 0, .retAddr 0]) c_36_1 rfl ?_
  refine g1 c_36_2 k_0 ?_
  refine g6 (L' := [.ref x0, .ref x1, .int x2, .int 0, .int 0, .retAddr 0, .retAddr 0]) c_36_3 rfl ?_
  refine g1 c_36_5 k_0 ?_
  refine g6 (L' := [.ref x0, .ref x1, .int x2, .int 0, .int 0, .int 0, .retAddr 0]) c_36_6 rfl ?_
  exact t
set_option maxRecDepth 20000 in
theorem t_36_8 {d : Nat} {h : ab_H} {Q : Option Value → ab_H → Prop} {x0 : Nat} {x1 : Nat} {x2 : Int32} {x3 : Int32} {x4 : Int32} {x5 : Int32} (t : if x2 ≤ x5 then (ab_ok h x0 103 = true ∧ ∃ j1 : Nat, ab_r h x0 0 = some j1 ∧ (ab_ok h j1 0 = true ∧ ab_in x3 (ab_s h j1).2 = true) ∧ ∀ h2 : ab_H, h2 = ab_pi h j1 (Int32.toNatClampNeg x3) 1 → ab_ok h2 x0 103 = true ∧ ∃ j3 : Nat, ab_r h2 x0 1 = some j3 ∧ (ab_ok h2 j3 0 = true ∧ ab_in x3 (ab_s h2 j3).2 = true) ∧ ∀ h4 : ab_H, h4 = ab_pi h2 j3 (Int32.toNatClampNeg x3) x2 → Q none h4) else (if x2 ≤ x4 then (ab_ok h x0 103 = true ∧ ∃ j5 : Nat, ab_r h x0 0 = some j5 ∧ (ab_ok h j5 0 = true ∧ ab_in x3 (ab_s h j5).2 = true) ∧ ∀ h6 : ab_H, h6 = ab_pi h j5 (Int32.toNatClampNeg x3) 1 → ab_ok h6 x0 103 = true ∧ ∃ j7 : Nat, ab_r h6 x0 1 = some j7 ∧ (ab_ok h6 j7 0 = true ∧ ab_in x3 (ab_s h6 j7).2 = true) ∧ ∀ h8 : ab_H, h8 = ab_pi h6 j7 (Int32.toNatClampNeg x3) x2 → Q none h8) else (wm d 39 [.ref x1, .int x2, .int x4] h (fun r9 h9 => wq (d + 1) 36 27 [.ref x0, .ref x1, .int x2, .int x3, .int x4, .int x5, .retAddr 0] (r9.toList ++ []) h9 Q)))) : wq (d + 1) 36 8 [.ref x0, .ref x1, .int x2, .int x3, .int x4, .int x5, .retAddr 0] [] h Q := by
  refine g3 c_36_8 rfl ?_
  refine g3 c_36_10 rfl ?_
  refine gcm c_36_11 (gbr t rfl rfl (fun hc t => ?_) (fun hc t => ?_))
  · refine g5 c_36_96 rfl ?_
    obtain ⟨ho, j1, hr, t⟩ := t
    refine g45 c_36_97 ho hr ?_
    refine g3 c_36_100 rfl ?_
    refine g1 c_36_101 k_1 ?_
    obtain ⟨ho, t⟩ := t
    refine g54 c_36_102 ho (fun h2 eh2 => ?_)
    have t := t h2 eh2
    refine g5 c_36_103 rfl ?_
    obtain ⟨ho, j3, hr, t⟩ := t
    refine g45 c_36_104 ho hr ?_
    refine g3 c_36_107 rfl ?_
    refine g3 c_36_108 rfl ?_
    obtain ⟨ho, t⟩ := t
    refine g54 c_36_109 ho (fun h4 eh4 => ?_)
    have t := t h4 eh4
    exact g94 c_36_110 t
  · refine g3 c_36_14 rfl ?_
    refine g3 c_36_16 rfl ?_
    refine gcm c_36_17 (gbr t rfl rfl (fun hc t => ?_) (fun hc t => ?_))
    · refine g5 c_36_96 rfl ?_
      obtain ⟨ho, j5, hr, t⟩ := t
      refine g45 c_36_97 ho hr ?_
      refine g3 c_36_100 rfl ?_
      refine g1 c_36_101 k_1 ?_
      obtain ⟨ho, t⟩ := t
      refine g54 c_36_102 ho (fun h6 eh6 => ?_)
      have t := t h6 eh6
      refine g5 c_36_103 rfl ?_
      obtain ⟨ho, j7, hr, t⟩ := t
      refine g45 c_36_104 ho hr ?_
      refine g3 c_36_107 rfl ?_
      refine g3 c_36_108 rfl ?_
      obtain ⟨ho, t⟩ := t
      refine g54 c_36_109 ho (fun h8 eh8 => ?_)
      have t := t h8 eh8
      exact g94 c_36_110 t
    · refine g5 c_36_20 rfl ?_
      refine g3 c_36_21 rfl ?_
      refine g3 c_36_22 rfl ?_
      exact g81 (As := [.ref x1, .int x2, .int x4]) (rest := []) c_36_24 rfl rfl (Nat.le_of_ble_eq_true rfl) (Nat.le_of_ble_eq_true rfl) t
set_option maxRecDepth 20000 in
theorem t_36_27 {d : Nat} {h : ab_H} {Q : Option Value → ab_H → Prop} {x0 : Nat} {x1 : Nat} {x2 : Int32} {x3 : Int32} {x4 : Int32} {x5 : Int32} {s0 : Int32} (t : ((x1 = 0 ∨ ab_ok h x1 0 = true) ∧ ab_in x4 (ab_s h x1).2 = true) ∧ if (ab_i h x1 (Int32.toNatClampNeg x4)) = 32 then (wq (d + 1) 36 8 [.ref x0, .ref x1, .int x2, .int x3, .int s0, .int (x5 + 1), .int s0] [] h Q) else (((x1 = 0 ∨ ab_ok h x1 0 = true) ∧ ab_in x4 (ab_s h x1).2 = true) ∧ if (ab_i h x1 (Int32.toNatClampNeg x4)) = 10 then (wq (d + 1) 36 8 [.ref x0, .ref x1, .int x2, .int x3, .int s0, .int (x5 + 1), .int s0] [] h Q) else (ab_ok h x0 103 = true ∧ ∃ j1 : Nat, ab_r h x0 0 = some j1 ∧ wm d 40 [.ref x1, .int x4, .int s0] h (fun r9 h9 => wq (d + 1) 36 60 [.ref x0, .ref x1, .int x2, .int x3, .int x4, .int x5, .int s0] (r9.toList ++ [.int x3, .ref j1]) h9 Q)))) : wq (d + 1) 36 27 [.ref x0, .ref x1, .int x2, .int x3, .int x4, .int x5, .retAddr 0] [.int s0] h Q := by
  refine g6 (L' := [.ref x0, .ref x1, .int x2, .int x3, .int x4, .int x5, .int s0]) c_36_27 rfl ?_
  refine g5 c_36_29 rfl ?_
  refine g3 c_36_30 rfl ?_
  obtain ⟨ho, t⟩ := t
  refine g50 c_36_32 ho ?_
  refine g1 c_36_33 k_32 ?_
  refine gcm c_36_35 (gbr t rfl rfl (fun hc t => ?_) (fun hc t => ?_))
  · refine g3 c_36_86 rfl ?_
    refine g6 (L' := [.ref x0, .ref x1, .int x2, .int x3, .int s0, .int x5, .int s0]) c_36_88 rfl ?_
    refine g9 (L' := [.ref x0, .ref x1, .int x2, .int x3, .int s0, .int (x5 + 1), .int s0]) c_36_90 rfl k_1 rfl ?_
    refine g38 c_36_93 rfl ?_
    exact t
  · refine g5 c_36_38 rfl ?_
    refine g3 c_36_39 rfl ?_
    obtain ⟨ho, t⟩ := t
    refine g50 c_36_41 ho ?_
    refine g1 c_36_42 k_10 ?_
    refine gcm c_36_44 (gbr t rfl rfl (fun hc t => ?_) (fun hc t => ?_))
    · refine g3 c_36_86 rfl ?_
      refine g6 (L' := [.ref x0, .ref x1, .int x2, .int x3, .int s0, .int x5, .int s0]) c_36_88 rfl ?_
      refine g9 (L' := [.ref x0, .ref x1, .int x2, .int x3, .int s0, .int (x5 + 1), .int s0]) c_36_90 rfl k_1 rfl ?_
      refine g38 c_36_93 rfl ?_
      exact t
    · refine g5 c_36_47 rfl ?_
      obtain ⟨ho, j1, hr, t⟩ := t
      refine g45 c_36_48 ho hr ?_
      refine g3 c_36_51 rfl ?_
      refine g5 c_36_52 rfl ?_
      refine g3 c_36_53 rfl ?_
      refine g3 c_36_55 rfl ?_
      exact g81 (As := [.ref x1, .int x4, .int s0]) (rest := [.int x3, .ref j1]) c_36_57 rfl rfl (Nat.le_of_ble_eq_true rfl) (Nat.le_of_ble_eq_true rfl) t
set_option maxRecDepth 20000 in
theorem t_36_60 {d : Nat} {h : ab_H} {Q : Option Value → ab_H → Prop} {x0 : Nat} {x1 : Nat} {x2 : Int32} {x3 : Int32} {x4 : Int32} {x5 : Int32} {x6 : Int32} {s0 : Nat} {s1 : Int32} {s2 : Int32} (t : (ab_ok h s0 0 = true ∧ ab_in s1 (ab_s h s0).2 = true) ∧ ∀ h1 : ab_H, h1 = ab_pi h s0 (Int32.toNatClampNeg s1) s2 → ab_ok h1 x0 103 = true ∧ ∃ j2 : Nat, ab_r h1 x0 1 = some j2 ∧ (ab_ok h1 j2 0 = true ∧ ab_in x3 (ab_s h1 j2).2 = true) ∧ ∀ h3 : ab_H, h3 = ab_pi h1 j2 (Int32.toNatClampNeg x3) x4 → ab_ok h3 x0 103 = true ∧ ∃ j4 : Nat, ab_r h3 x0 2 = some j4 ∧ wm d 42 [.ref x1, .int x4, .int x6] h3 (fun r9 h9 => wq (d + 1) 36 82 [.ref x0, .ref x1, .int x2, .int x3, .int x4, .int x5, .int x6] (r9.toList ++ [.int x3, .ref j4]) h9 Q)) : wq (d + 1) 36 60 [.ref x0, .ref x1, .int x2, .int x3, .int x4, .int x5, .int x6] [.int s2, .int s1, .ref s0] h Q := by
  obtain ⟨ho, t⟩ := t
  refine g54 c_36_60 ho (fun h1 eh1 => ?_)
  have t := t h1 eh1
  refine g5 c_36_61 rfl ?_
  obtain ⟨ho, j2, hr, t⟩ := t
  refine g45 c_36_62 ho hr ?_
  refine g3 c_36_65 rfl ?_
  refine g3 c_36_66 rfl ?_
  obtain ⟨ho, t⟩ := t
  refine g54 c_36_68 ho (fun h3 eh3 => ?_)
  have t := t h3 eh3
  refine g5 c_36_69 rfl ?_
  obtain ⟨ho, j4, hr, t⟩ := t
  refine g45 c_36_70 ho hr ?_
  refine g3 c_36_73 rfl ?_
  refine g5 c_36_74 rfl ?_
  refine g3 c_36_75 rfl ?_
  refine g3 c_36_77 rfl ?_
  exact g81 (As := [.ref x1, .int x4, .int x6]) (rest := [.int x3, .ref j4]) c_36_79 rfl rfl (Nat.le_of_ble_eq_true rfl) (Nat.le_of_ble_eq_true rfl) t
set_option maxRecDepth 20000 in
theorem t_36_82 {d : Nat} {h : ab_H} {Q : Option Value → ab_H → Prop} {x0 : Nat} {x1 : Nat} {x2 : Int32} {x3 : Int32} {x4 : Int32} {x5 : Int32} {x6 : Int32} {s0 : Nat} {s1 : Int32} {s2 : Int32} (t : (ab_ok h s0 0 = true ∧ ab_in s1 (ab_s h s0).2 = true) ∧ ∀ h1 : ab_H, h1 = ab_pi h s0 (Int32.toNatClampNeg s1) s2 → wq d 36 8 [.ref x0, .ref x1, .int x2, .int (x3 + 1), .int x6, .int (x5 + 1), .int x6] [] h1 Q) : wq d 36 82 [.ref x0, .ref x1, .int x2, .int x3, .int x4, .int x5, .int x6] [.int s2, .int s1, .ref s0] h Q := by
  obtain ⟨ho, t⟩ := t
  refine g54 c_36_82 ho (fun h1 eh1 => ?_)
  have t := t h1 eh1
  refine g9 (L' := [.ref x0, .ref x1, .int x2, .int (x3 + 1), .int x4, .int x5, .int x6]) c_36_83 rfl k_1 rfl ?_
  refine g3 c_36_86 rfl ?_
  refine g6 (L' := [.ref x0, .ref x1, .int x2, .int (x3 + 1), .int x6, .int x5, .int x6]) c_36_88 rfl ?_
  refine g9 (L' := [.ref x0, .ref x1, .int x2, .int (x3 + 1), .int x6, .int (x5 + 1), .int x6]) c_36_90 rfl k_1 rfl ?_
  refine g38 c_36_93 rfl ?_
  exact t
-- method 37: MillTown$Reader.isDigit(I)Z
theorem c_37_0 : pg_cd 37 0 = (3, 1, 0, 0, 0) := by decide +kernel
theorem c_37_1 : pg_cd 37 1 = (1, 2, 0, 0, 48) := by decide +kernel
theorem c_37_3 : pg_cd 37 3 = (37, 3, 0, 2, 13) := by decide +kernel
theorem c_37_6 : pg_cd 37 6 = (3, 1, 0, 0, 0) := by decide +kernel
theorem c_37_7 : pg_cd 37 7 = (1, 2, 0, 0, 57) := by decide +kernel
theorem c_37_9 : pg_cd 37 9 = (37, 3, 0, 4, 7) := by decide +kernel
theorem c_37_12 : pg_cd 37 12 = (1, 1, 0, 0, 1) := by decide +kernel
theorem c_37_13 : pg_cd 37 13 = (38, 3, 0, 0, 4) := by decide +kernel
theorem c_37_16 : pg_cd 37 16 = (1, 1, 0, 0, 0) := by decide +kernel
theorem c_37_17 : pg_cd 37 17 = (91, 0, 0, 0, 0) := by decide +kernel
theorem mx_37 : pg_mx 37 = 1 := by decide +kernel
theorem m_37 {d : Nat} {h : ab_H} {Q : Option Value → ab_H → Prop} {x0 : Int32} (t : wq d 37 0 [.int x0] [] h Q) : wm d 37 [.int x0] h Q := by
  unfold wm
  rw [mx_37]
  exact t
set_option maxRecDepth 20000 in
theorem t_37_0 {d : Nat} {h : ab_H} {Q : Option Value → ab_H → Prop} {x0 : Int32} (t : if x0 < 48 then (Q (some (.int 0)) h) else (if 57 < x0 then (Q (some (.int 0)) h) else (Q (some (.int 1)) h))) : wq d 37 0 [.int x0] [] h Q := by
  refine g3 c_37_0 rfl ?_
  refine g1 c_37_1 k_48 ?_
  refine gcm c_37_3 (gbr t rfl rfl (fun hc t => ?_) (fun hc t => ?_))
  · refine g1 c_37_16 k_0 ?_
    exact g91 c_37_17 ⟨by decide, t⟩
  · refine g3 c_37_6 rfl ?_
    refine g1 c_37_7 k_57 ?_
    refine gcm c_37_9 (gbr t rfl rfl (fun hc t => ?_) (fun hc t => ?_))
    · refine g1 c_37_16 k_0 ?_
      exact g91 c_37_17 ⟨by decide, t⟩
    · refine g1 c_37_12 k_1 ?_
      refine g38 c_37_13 rfl ?_
      exact g91 c_37_17 ⟨by decide, t⟩
-- method 38: MillTown$Reader.isLetter(I)Z
theorem c_38_0 : pg_cd 38 0 = (3, 1, 0, 0, 0) := by decide +kernel
theorem c_38_1 : pg_cd 38 1 = (1, 2, 0, 0, 97) := by decide +kernel
theorem c_38_3 : pg_cd 38 3 = (37, 3, 0, 2, 9) := by decide +kernel
theorem c_38_6 : pg_cd 38 6 = (3, 1, 0, 0, 0) := by decide +kernel
theorem c_38_7 : pg_cd 38 7 = (1, 2, 0, 0, 122) := by decide +kernel
theorem c_38_9 : pg_cd 38 9 = (37, 3, 0, 5, 15) := by decide +kernel
theorem c_38_12 : pg_cd 38 12 = (3, 1, 0, 0, 0) := by decide +kernel
theorem c_38_13 : pg_cd 38 13 = (1, 2, 0, 0, 65) := by decide +kernel
theorem c_38_15 : pg_cd 38 15 = (37, 3, 0, 2, 13) := by decide +kernel
theorem c_38_18 : pg_cd 38 18 = (3, 1, 0, 0, 0) := by decide +kernel
theorem c_38_19 : pg_cd 38 19 = (1, 2, 0, 0, 90) := by decide +kernel
theorem c_38_21 : pg_cd 38 21 = (37, 3, 0, 4, 7) := by decide +kernel
theorem c_38_24 : pg_cd 38 24 = (1, 1, 0, 0, 1) := by decide +kernel
theorem c_38_25 : pg_cd 38 25 = (38, 3, 0, 0, 4) := by decide +kernel
theorem c_38_28 : pg_cd 38 28 = (1, 1, 0, 0, 0) := by decide +kernel
theorem c_38_29 : pg_cd 38 29 = (91, 0, 0, 0, 0) := by decide +kernel
theorem mx_38 : pg_mx 38 = 1 := by decide +kernel
theorem m_38 {d : Nat} {h : ab_H} {Q : Option Value → ab_H → Prop} {x0 : Int32} (t : wq d 38 0 [.int x0] [] h Q) : wm d 38 [.int x0] h Q := by
  unfold wm
  rw [mx_38]
  exact t
set_option maxRecDepth 20000 in
theorem t_38_0 {d : Nat} {h : ab_H} {Q : Option Value → ab_H → Prop} {x0 : Int32} (t : if x0 < 97 then (if x0 < 65 then (Q (some (.int 0)) h) else (if 90 < x0 then (Q (some (.int 0)) h) else (Q (some (.int 1)) h))) else (if x0 ≤ 122 then (Q (some (.int 1)) h) else (if x0 < 65 then (Q (some (.int 0)) h) else (if 90 < x0 then (Q (some (.int 0)) h) else (Q (some (.int 1)) h))))) : wq d 38 0 [.int x0] [] h Q := by
  refine g3 c_38_0 rfl ?_
  refine g1 c_38_1 k_97 ?_
  refine gcm c_38_3 (gbr t rfl rfl (fun hc t => ?_) (fun hc t => ?_))
  · refine g3 c_38_12 rfl ?_
    refine g1 c_38_13 k_65 ?_
    refine gcm c_38_15 (gbr t rfl rfl (fun hc t => ?_) (fun hc t => ?_))
    · refine g1 c_38_28 k_0 ?_
      exact g91 c_38_29 ⟨by decide, t⟩
    · refine g3 c_38_18 rfl ?_
      refine g1 c_38_19 k_90 ?_
      refine gcm c_38_21 (gbr t rfl rfl (fun hc t => ?_) (fun hc t => ?_))
      · refine g1 c_38_28 k_0 ?_
        exact g91 c_38_29 ⟨by decide, t⟩
      · refine g1 c_38_24 k_1 ?_
        refine g38 c_38_25 rfl ?_
        exact g91 c_38_29 ⟨by decide, t⟩
  · refine g3 c_38_6 rfl ?_
    refine g1 c_38_7 k_122 ?_
    refine gcm c_38_9 (gbr t rfl rfl (fun hc t => ?_) (fun hc t => ?_))
    · refine g1 c_38_24 k_1 ?_
      refine g38 c_38_25 rfl ?_
      exact g91 c_38_29 ⟨by decide, t⟩
    · refine g3 c_38_12 rfl ?_
      refine g1 c_38_13 k_65 ?_
      refine gcm c_38_15 (gbr t rfl rfl (fun hc t => ?_) (fun hc t => ?_))
      · refine g1 c_38_28 k_0 ?_
        exact g91 c_38_29 ⟨by decide, t⟩
      · refine g3 c_38_18 rfl ?_
        refine g1 c_38_19 k_90 ?_
        refine gcm c_38_21 (gbr t rfl rfl (fun hc t => ?_) (fun hc t => ?_))
        · refine g1 c_38_28 k_0 ?_
          exact g91 c_38_29 ⟨by decide, t⟩
        · refine g1 c_38_24 k_1 ?_
          refine g38 c_38_25 rfl ?_
          exact g91 c_38_29 ⟨by decide, t⟩
-- method 39: MillTown$Reader.tokenEnd([III)I
theorem c_39_0 : pg_cd 39 0 = (3, 1, 0, 2, 0) := by decide +kernel
theorem c_39_1 : pg_cd 39 1 = (1, 1, 0, 0, 1) := by decide +kernel
theorem c_39_2 : pg_cd 39 2 = (10, 1, 0, 0, 0) := by decide +kernel
theorem c_39_3 : pg_cd 39 3 = (6, 1, 0, 3, 0) := by decide +kernel
theorem c_39_4 : pg_cd 39 4 = (5, 1, 0, 0, 0) := by decide +kernel
theorem c_39_5 : pg_cd 39 5 = (3, 1, 0, 2, 0) := by decide +kernel
theorem c_39_6 : pg_cd 39 6 = (50, 1, 0, 0, 0) := by decide +kernel
theorem c_39_7 : pg_cd 39 7 = (6, 2, 0, 4, 0) := by decide +kernel
theorem c_39_9 : pg_cd 39 9 = (3, 2, 0, 4, 0) := by decide +kernel
theorem c_39_11 : pg_cd 39 11 = (81, 38, 79, 0, 0) := by decide +kernel
theorem c_39_14 : pg_cd 39 14 = (36, 3, 0, 1, 11) := by decide +kernel
theorem c_39_17 : pg_cd 39 17 = (3, 2, 0, 4, 0) := by decide +kernel
theorem c_39_19 : pg_cd 39 19 = (81, 37, 83, 0, 0) := by decide +kernel
theorem c_39_22 : pg_cd 39 22 = (36, 3, 0, 0, 43) := by decide +kernel
theorem c_39_25 : pg_cd 39 25 = (3, 1, 0, 3, 0) := by decide +kernel
theorem c_39_26 : pg_cd 39 26 = (3, 1, 0, 1, 0) := by decide +kernel
theorem c_39_27 : pg_cd 39 27 = (37, 3, 0, 3, 68) := by decide +kernel
theorem c_39_30 : pg_cd 39 30 = (3, 2, 0, 4, 0) := by decide +kernel
theorem c_39_32 : pg_cd 39 32 = (81, 38, 79, 0, 0) := by decide +kernel
theorem c_39_35 : pg_cd 39 35 = (36, 3, 0, 0, 15) := by decide +kernel
theorem c_39_38 : pg_cd 39 38 = (5, 1, 0, 0, 0) := by decide +kernel
theorem c_39_39 : pg_cd 39 39 = (3, 1, 0, 3, 0) := by decide +kernel
theorem c_39_40 : pg_cd 39 40 = (50, 1, 0, 0, 0) := by decide +kernel
theorem c_39_41 : pg_cd 39 41 = (81, 38, 79, 0, 0) := by decide +kernel
theorem c_39_44 : pg_cd 39 44 = (36, 3, 0, 0, 51) := by decide +kernel
theorem c_39_47 : pg_cd 39 47 = (38, 3, 0, 0, 12) := by decide +kernel
theorem c_39_50 : pg_cd 39 50 = (5, 1, 0, 0, 0) := by decide +kernel
theorem c_39_51 : pg_cd 39 51 = (3, 1, 0, 3, 0) := by decide +kernel
theorem c_39_52 : pg_cd 39 52 = (50, 1, 0, 0, 0) := by decide +kernel
theorem c_39_53 : pg_cd 39 53 = (81, 37, 83, 0, 0) := by decide +kernel
theorem c_39_56 : pg_cd 39 56 = (36, 3, 0, 0, 39) := by decide +kernel
theorem c_39_59 : pg_cd 39 59 = (9, 3, 0, 3, 1) := by decide +kernel
theorem c_39_62 : pg_cd 39 62 = (38, 3, 0, 0, (-37)) := by decide +kernel
theorem c_39_65 : pg_cd 39 65 = (3, 2, 0, 4, 0) := by decide +kernel
theorem c_39_67 : pg_cd 39 67 = (1, 2, 0, 0, 60) := by decide +kernel
theorem c_39_69 : pg_cd 39 69 = (37, 3, 0, 0, 10) := by decide +kernel
theorem c_39_72 : pg_cd 39 72 = (3, 2, 0, 4, 0) := by decide +kernel
theorem c_39_74 : pg_cd 39 74 = (1, 2, 0, 0, 62) := by decide +kernel
theorem c_39_76 : pg_cd 39 76 = (37, 3, 0, 1, 19) := by decide +kernel
theorem c_39_79 : pg_cd 39 79 = (3, 1, 0, 3, 0) := by decide +kernel
theorem c_39_80 : pg_cd 39 80 = (3, 1, 0, 1, 0) := by decide +kernel
theorem c_39_81 : pg_cd 39 81 = (37, 3, 0, 3, 14) := by decide +kernel
theorem c_39_84 : pg_cd 39 84 = (5, 1, 0, 0, 0) := by decide +kernel
theorem c_39_85 : pg_cd 39 85 = (3, 1, 0, 3, 0) := by decide +kernel
theorem c_39_86 : pg_cd 39 86 = (50, 1, 0, 0, 0) := by decide +kernel
theorem c_39_87 : pg_cd 39 87 = (1, 2, 0, 0, 61) := by decide +kernel
theorem c_39_89 : pg_cd 39 89 = (37, 3, 0, 1, 6) := by decide +kernel
theorem c_39_92 : pg_cd 39 92 = (9, 3, 0, 3, 1) := by decide +kernel
theorem c_39_95 : pg_cd 39 95 = (3, 1, 0, 3, 0) := by decide +kernel
theorem c_39_96 : pg_cd 39 96 = (90, 0, 0, 0, 0) := by decide +kernel
theorem mx_39 : pg_mx 39 = 5 := by decide +kernel
theorem m_39 {d : Nat} {h : ab_H} {Q : Option Value → ab_H → Prop} {x0 : Nat} {x1 : Int32} {x2 : Int32} (t : wq d 39 0 [.ref x0, .int x1, .int x2, .retAddr 0, .retAddr 0] [] h Q) : wm d 39 [.ref x0, .int x1, .int x2] h Q := by
  unfold wm
  rw [mx_39]
  exact t
set_option maxRecDepth 20000 in
theorem t_39_0 {d : Nat} {h : ab_H} {Q : Option Value → ab_H → Prop} {x0 : Nat} {x1 : Int32} {x2 : Int32} (t : ((x0 = 0 ∨ ab_ok h x0 0 = true) ∧ ab_in x2 (ab_s h x0).2 = true) ∧ wm d 38 [.int (ab_i h x0 (Int32.toNatClampNeg x2))] h (fun r9 h9 => wq (d + 1) 39 14 [.ref x0, .int x1, .int x2, .int (x2 + 1), .int (ab_i h x0 (Int32.toNatClampNeg x2))] (r9.toList ++ []) h9 Q)) : wq (d + 1) 39 0 [.ref x0, .int x1, .int x2, .retAddr 0, .retAddr 0] [] h Q := by
  refine g3 c_39_0 rfl ?_
  refine g1 c_39_1 k_1 ?_
  refine g10 c_39_2 ?_
  refine g6 (L' := [.ref x0, .int x1, .int x2, .int (x2 + 1), .retAddr 0]) c_39_3 rfl ?_
  refine g5 c_39_4 rfl ?_
  refine g3 c_39_5 rfl ?_
  obtain ⟨ho, t⟩ := t
  refine g50 c_39_6 ho ?_
  refine g6 (L' := [.ref x0, .int x1, .int x2, .int (x2 + 1), .int (ab_i h x0 (Int32.toNatClampNeg x2))]) c_39_7 rfl ?_
  refine g3 c_39_9 rfl ?_
  exact g81 (As := [.int (ab_i h x0 (Int32.toNatClampNeg x2))]) (rest := []) c_39_11 rfl rfl (Nat.le_of_ble_eq_true rfl) (Nat.le_of_ble_eq_true rfl) t
set_option maxRecDepth 20000 in
theorem t_39_14 {d : Nat} {h : ab_H} {Q : Option Value → ab_H → Prop} {x0 : Nat} {x1 : Int32} {x2 : Int32} {x3 : Int32} {x4 : Int32} {s0 : Int32} (t : if s0 = 0 then (wm d 37 [.int x4] h (fun r9 h9 => wq (d + 1) 39 22 [.ref x0, .int x1, .int x2, .int x3, .int x4] (r9.toList ++ []) h9 Q)) else (wq (d + 1) 39 25 [.ref x0, .int x1, .int x2, .int x3, .int x4] [] h Q)) : wq (d + 1) 39 14 [.ref x0, .int x1, .int x2, .int x3, .int x4] [.int s0] h Q := by
  refine gif c_39_14 (gbn t (ab_c1 _ _) rfl (fun hc t => ?_) (fun hc t => ?_))
  · refine g3 c_39_17 rfl ?_
    exact g81 (As := [.int x4]) (rest := []) c_39_19 rfl rfl (Nat.le_of_ble_eq_true rfl) (Nat.le_of_ble_eq_true rfl) t
  · exact t
set_option maxRecDepth 20000 in
theorem t_39_22 {d : Nat} {h : ab_H} {Q : Option Value → ab_H → Prop} {x0 : Nat} {x1 : Int32} {x2 : Int32} {x3 : Int32} {x4 : Int32} {s0 : Int32} (t : if s0 = 0 then (if x4 = 60 then (if x1 ≤ x3 then (Q (some (.int x3)) h) else (((x0 = 0 ∨ ab_ok h x0 0 = true) ∧ ab_in x3 (ab_s h x0).2 = true) ∧ if (ab_i h x0 (Int32.toNatClampNeg x3)) = 61 then (Q (some (.int (x3 + 1))) h) else (Q (some (.int x3)) h))) else (if x4 = 62 then (if x1 ≤ x3 then (Q (some (.int x3)) h) else (((x0 = 0 ∨ ab_ok h x0 0 = true) ∧ ab_in x3 (ab_s h x0).2 = true) ∧ if (ab_i h x0 (Int32.toNatClampNeg x3)) = 61 then (Q (some (.int (x3 + 1))) h) else (Q (some (.int x3)) h))) else (Q (some (.int x3)) h))) else (wq d 39 25 [.ref x0, .int x1, .int x2, .int x3, .int x4] [] h Q)) : wq d 39 22 [.ref x0, .int x1, .int x2, .int x3, .int x4] [.int s0] h Q := by
  refine gif c_39_22 (gbr t rfl rfl (fun hc t => ?_) (fun hc t => ?_))
  · refine g3 c_39_65 rfl ?_
    refine g1 c_39_67 k_60 ?_
    refine gcm c_39_69 (gbr t rfl rfl (fun hc t => ?_) (fun hc t => ?_))
    · refine g3 c_39_79 rfl ?_
      refine g3 c_39_80 rfl ?_
      refine gcm c_39_81 (gbr t rfl rfl (fun hc t => ?_) (fun hc t => ?_))
      · refine g3 c_39_95 rfl ?_
        exact g90 c_39_96 t
      · refine g5 c_39_84 rfl ?_
        refine g3 c_39_85 rfl ?_
        obtain ⟨ho, t⟩ := t
        refine g50 c_39_86 ho ?_
        refine g1 c_39_87 k_61 ?_
        refine gcm c_39_89 (gbn t (ab_c1 _ _) rfl (fun hc t => ?_) (fun hc t => ?_))
        · refine g9 (L' := [.ref x0, .int x1, .int x2, .int (x3 + 1), .int x4]) c_39_92 rfl k_1 rfl ?_
          refine g3 c_39_95 rfl ?_
          exact g90 c_39_96 t
        · refine g3 c_39_95 rfl ?_
          exact g90 c_39_96 t
    · refine g3 c_39_72 rfl ?_
      refine g1 c_39_74 k_62 ?_
      refine gcm c_39_76 (gbn t (ab_c1 _ _) rfl (fun hc t => ?_) (fun hc t => ?_))
      · refine g3 c_39_79 rfl ?_
        refine g3 c_39_80 rfl ?_
        refine gcm c_39_81 (gbr t rfl rfl (fun hc t => ?_) (fun hc t => ?_))
        · refine g3 c_39_95 rfl ?_
          exact g90 c_39_96 t
        · refine g5 c_39_84 rfl ?_
          refine g3 c_39_85 rfl ?_
          obtain ⟨ho, t⟩ := t
          refine g50 c_39_86 ho ?_
          refine g1 c_39_87 k_61 ?_
          refine gcm c_39_89 (gbn t (ab_c1 _ _) rfl (fun hc t => ?_) (fun hc t => ?_))
          · refine g9 (L' := [.ref x0, .int x1, .int x2, .int (x3 + 1), .int x4]) c_39_92 rfl k_1 rfl ?_
            refine g3 c_39_95 rfl ?_
            exact g90 c_39_96 t
          · refine g3 c_39_95 rfl ?_
            exact g90 c_39_96 t
      · refine g3 c_39_95 rfl ?_
        exact g90 c_39_96 t
  · exact t
set_option maxRecDepth 20000 in
theorem t_39_25 {d : Nat} {h : ab_H} {Q : Option Value → ab_H → Prop} {x0 : Nat} {x1 : Int32} {x2 : Int32} {x3 : Int32} {x4 : Int32} (t : if x1 ≤ x3 then (Q (some (.int x3)) h) else (wm d 38 [.int x4] h (fun r9 h9 => wq (d + 1) 39 35 [.ref x0, .int x1, .int x2, .int x3, .int x4] (r9.toList ++ []) h9 Q))) : wq (d + 1) 39 25 [.ref x0, .int x1, .int x2, .int x3, .int x4] [] h Q := by
  refine g3 c_39_25 rfl ?_
  refine g3 c_39_26 rfl ?_
  refine gcm c_39_27 (gbr t rfl rfl (fun hc t => ?_) (fun hc t => ?_))
  · refine g3 c_39_95 rfl ?_
    exact g90 c_39_96 t
  · refine g3 c_39_30 rfl ?_
    exact g81 (As := [.int x4]) (rest := []) c_39_32 rfl rfl (Nat.le_of_ble_eq_true rfl) (Nat.le_of_ble_eq_true rfl) t
set_option maxRecDepth 20000 in
theorem t_39_35 {d : Nat} {h : ab_H} {Q : Option Value → ab_H → Prop} {x0 : Nat} {x1 : Int32} {x2 : Int32} {x3 : Int32} {x4 : Int32} {s0 : Int32} (t : if s0 = 0 then (((x0 = 0 ∨ ab_ok h x0 0 = true) ∧ ab_in x3 (ab_s h x0).2 = true) ∧ wm d 37 [.int (ab_i h x0 (Int32.toNatClampNeg x3))] h (fun r9 h9 => wq (d + 1) 39 56 [.ref x0, .int x1, .int x2, .int x3, .int x4] (r9.toList ++ []) h9 Q)) else (((x0 = 0 ∨ ab_ok h x0 0 = true) ∧ ab_in x3 (ab_s h x0).2 = true) ∧ wm d 38 [.int (ab_i h x0 (Int32.toNatClampNeg x3))] h (fun r9 h9 => wq (d + 1) 39 44 [.ref x0, .int x1, .int x2, .int x3, .int x4] (r9.toList ++ []) h9 Q))) : wq (d + 1) 39 35 [.ref x0, .int x1, .int x2, .int x3, .int x4] [.int s0] h Q := by
  refine gif c_39_35 (gbr t rfl rfl (fun hc t => ?_) (fun hc t => ?_))
  · refine g5 c_39_50 rfl ?_
    refine g3 c_39_51 rfl ?_
    obtain ⟨ho, t⟩ := t
    refine g50 c_39_52 ho ?_
    exact g81 (As := [.int (ab_i h x0 (Int32.toNatClampNeg x3))]) (rest := []) c_39_53 rfl rfl (Nat.le_of_ble_eq_true rfl) (Nat.le_of_ble_eq_true rfl) t
  · refine g5 c_39_38 rfl ?_
    refine g3 c_39_39 rfl ?_
    obtain ⟨ho, t⟩ := t
    refine g50 c_39_40 ho ?_
    exact g81 (As := [.int (ab_i h x0 (Int32.toNatClampNeg x3))]) (rest := []) c_39_41 rfl rfl (Nat.le_of_ble_eq_true rfl) (Nat.le_of_ble_eq_true rfl) t
set_option maxRecDepth 20000 in
theorem t_39_44 {d : Nat} {h : ab_H} {Q : Option Value → ab_H → Prop} {x0 : Nat} {x1 : Int32} {x2 : Int32} {x3 : Int32} {x4 : Int32} {s0 : Int32} (t : if s0 = 0 then (Q (some (.int x3)) h) else (wq d 39 25 [.ref x0, .int x1, .int x2, .int (x3 + 1), .int x4] [] h Q)) : wq d 39 44 [.ref x0, .int x1, .int x2, .int x3, .int x4] [.int s0] h Q := by
  refine gif c_39_44 (gbr t rfl rfl (fun hc t => ?_) (fun hc t => ?_))
  · refine g3 c_39_95 rfl ?_
    exact g90 c_39_96 t
  · refine g38 c_39_47 rfl ?_
    refine g9 (L' := [.ref x0, .int x1, .int x2, .int (x3 + 1), .int x4]) c_39_59 rfl k_1 rfl ?_
    refine g38 c_39_62 rfl ?_
    exact t
set_option maxRecDepth 20000 in
theorem t_39_56 {d : Nat} {h : ab_H} {Q : Option Value → ab_H → Prop} {x0 : Nat} {x1 : Int32} {x2 : Int32} {x3 : Int32} {x4 : Int32} {s0 : Int32} (t : if s0 = 0 then (Q (some (.int x3)) h) else (wq d 39 25 [.ref x0, .int x1, .int x2, .int (x3 + 1), .int x4] [] h Q)) : wq d 39 56 [.ref x0, .int x1, .int x2, .int x3, .int x4] [.int s0] h Q := by
  refine gif c_39_56 (gbr t rfl rfl (fun hc t => ?_) (fun hc t => ?_))
  · refine g3 c_39_95 rfl ?_
    exact g90 c_39_96 t
  · refine g9 (L' := [.ref x0, .int x1, .int x2, .int (x3 + 1), .int x4]) c_39_59 rfl k_1 rfl ?_
    refine g38 c_39_62 rfl ?_
    exact t
-- method 40: MillTown$Reader.tokenAt([III)I
theorem c_40_0 : pg_cd 40 0 = (5, 1, 0, 0, 0) := by decide +kernel
theorem c_40_1 : pg_cd 40 1 = (3, 1, 0, 1, 0) := by decide +kernel
theorem c_40_2 : pg_cd 40 2 = (50, 1, 0, 0, 0) := by decide +kernel
theorem c_40_3 : pg_cd 40 3 = (6, 1, 0, 3, 0) := by decide +kernel
theorem c_40_4 : pg_cd 40 4 = (3, 1, 0, 3, 0) := by decide +kernel
theorem c_40_5 : pg_cd 40 5 = (81, 37, 83, 0, 0) := by decide +kernel
theorem c_40_8 : pg_cd 40 8 = (36, 3, 0, 0, 5) := by decide +kernel
theorem c_40_11 : pg_cd 40 11 = (1, 1, 0, 0, 2) := by decide +kernel
theorem c_40_12 : pg_cd 40 12 = (90, 0, 0, 0, 0) := by decide +kernel
theorem c_40_13 : pg_cd 40 13 = (3, 1, 0, 3, 0) := by decide +kernel
theorem c_40_14 : pg_cd 40 14 = (81, 38, 79, 0, 0) := by decide +kernel
theorem c_40_17 : pg_cd 40 17 = (36, 3, 0, 0, 10) := by decide +kernel
theorem c_40_20 : pg_cd 40 20 = (5, 1, 0, 0, 0) := by decide +kernel
theorem c_40_21 : pg_cd 40 21 = (3, 1, 0, 1, 0) := by decide +kernel
theorem c_40_22 : pg_cd 40 22 = (3, 1, 0, 2, 0) := by decide +kernel
theorem c_40_23 : pg_cd 40 23 = (81, 41, 86, 0, 0) := by decide +kernel
theorem c_40_26 : pg_cd 40 26 = (90, 0, 0, 0, 0) := by decide +kernel
theorem c_40_27 : pg_cd 40 27 = (3, 1, 0, 3, 0) := by decide +kernel
theorem c_40_28 : pg_cd 40 28 = (42, 2, 128, 0, 0) := by decide +kernel
theorem c_40_156 : pg_cd 40 156 = (3, 1, 0, 2, 0) := by decide +kernel
theorem c_40_157 : pg_cd 40 157 = (3, 1, 0, 1, 0) := by decide +kernel
theorem c_40_158 : pg_cd 40 158 = (11, 1, 0, 0, 0) := by decide +kernel
theorem c_40_159 : pg_cd 40 159 = (1, 1, 0, 0, 2) := by decide +kernel
theorem c_40_160 : pg_cd 40 160 = (37, 3, 0, 1, 8) := by decide +kernel
theorem c_40_163 : pg_cd 40 163 = (1, 2, 0, 0, 24) := by decide +kernel
theorem c_40_165 : pg_cd 40 165 = (38, 3, 0, 0, 5) := by decide +kernel
theorem c_40_168 : pg_cd 40 168 = (1, 2, 0, 0, 23) := by decide +kernel
theorem c_40_170 : pg_cd 40 170 = (90, 0, 0, 0, 0) := by decide +kernel
theorem c_40_171 : pg_cd 40 171 = (3, 1, 0, 2, 0) := by decide +kernel
theorem c_40_172 : pg_cd 40 172 = (3, 1, 0, 1, 0) := by decide +kernel
theorem c_40_173 : pg_cd 40 173 = (11, 1, 0, 0, 0) := by decide +kernel
theorem c_40_174 : pg_cd 40 174 = (1, 1, 0, 0, 2) := by decide +kernel
theorem c_40_175 : pg_cd 40 175 = (37, 3, 0, 1, 8) := by decide +kernel
theorem c_40_178 : pg_cd 40 178 = (1, 2, 0, 0, 26) := by decide +kernel
theorem c_40_180 : pg_cd 40 180 = (38, 3, 0, 0, 5) := by decide +kernel
theorem c_40_183 : pg_cd 40 183 = (1, 2, 0, 0, 25) := by decide +kernel
theorem c_40_185 : pg_cd 40 185 = (90, 0, 0, 0, 0) := by decide +kernel
theorem c_40_186 : pg_cd 40 186 = (1, 2, 0, 0, 27) := by decide +kernel
theorem c_40_188 : pg_cd 40 188 = (90, 0, 0, 0, 0) := by decide +kernel
theorem c_40_189 : pg_cd 40 189 = (1, 2, 0, 0, 28) := by decide +kernel
theorem c_40_191 : pg_cd 40 191 = (90, 0, 0, 0, 0) := by decide +kernel
theorem c_40_192 : pg_cd 40 192 = (1, 2, 0, 0, 29) := by decide +kernel
theorem c_40_194 : pg_cd 40 194 = (90, 0, 0, 0, 0) := by decide +kernel
theorem c_40_195 : pg_cd 40 195 = (1, 2, 0, 0, 30) := by decide +kernel
theorem c_40_197 : pg_cd 40 197 = (90, 0, 0, 0, 0) := by decide +kernel
theorem c_40_198 : pg_cd 40 198 = (1, 2, 0, 0, 31) := by decide +kernel
theorem c_40_200 : pg_cd 40 200 = (90, 0, 0, 0, 0) := by decide +kernel
theorem c_40_201 : pg_cd 40 201 = (1, 2, 0, 0, 32) := by decide +kernel
theorem c_40_203 : pg_cd 40 203 = (90, 0, 0, 0, 0) := by decide +kernel
theorem c_40_204 : pg_cd 40 204 = (1, 2, 0, 0, 33) := by decide +kernel
theorem c_40_206 : pg_cd 40 206 = (90, 0, 0, 0, 0) := by decide +kernel
theorem c_40_207 : pg_cd 40 207 = (1, 2, 0, 0, 34) := by decide +kernel
theorem c_40_209 : pg_cd 40 209 = (90, 0, 0, 0, 0) := by decide +kernel
theorem c_40_210 : pg_cd 40 210 = (1, 2, 0, 0, 35) := by decide +kernel
theorem c_40_212 : pg_cd 40 212 = (90, 0, 0, 0, 0) := by decide +kernel
theorem c_40_213 : pg_cd 40 213 = (1, 2, 0, 0, 36) := by decide +kernel
theorem c_40_215 : pg_cd 40 215 = (90, 0, 0, 0, 0) := by decide +kernel
theorem c_40_216 : pg_cd 40 216 = (1, 1, 0, 0, 0) := by decide +kernel
theorem c_40_217 : pg_cd 40 217 = (90, 0, 0, 0, 0) := by decide +kernel
theorem mx_40 : pg_mx 40 = 4 := by decide +kernel
theorem m_40 {d : Nat} {h : ab_H} {Q : Option Value → ab_H → Prop} {x0 : Nat} {x1 : Int32} {x2 : Int32} (t : wq d 40 0 [.ref x0, .int x1, .int x2, .retAddr 0] [] h Q) : wm d 40 [.ref x0, .int x1, .int x2] h Q := by
  unfold wm
  rw [mx_40]
  exact t
set_option maxRecDepth 20000 in
theorem t_40_0 {d : Nat} {h : ab_H} {Q : Option Value → ab_H → Prop} {x0 : Nat} {x1 : Int32} {x2 : Int32} (t : ((x0 = 0 ∨ ab_ok h x0 0 = true) ∧ ab_in x1 (ab_s h x0).2 = true) ∧ wm d 37 [.int (ab_i h x0 (Int32.toNatClampNeg x1))] h (fun r9 h9 => wq (d + 1) 40 8 [.ref x0, .int x1, .int x2, .int (ab_i h x0 (Int32.toNatClampNeg x1))] (r9.toList ++ []) h9 Q)) : wq (d + 1) 40 0 [.ref x0, .int x1, .int x2, .retAddr 0] [] h Q := by
  refine g5 c_40_0 rfl ?_
  refine g3 c_40_1 rfl ?_
  obtain ⟨ho, t⟩ := t
  refine g50 c_40_2 ho ?_
  refine g6 (L' := [.ref x0, .int x1, .int x2, .int (ab_i h x0 (Int32.toNatClampNeg x1))]) c_40_3 rfl ?_
  refine g3 c_40_4 rfl ?_
  exact g81 (As := [.int (ab_i h x0 (Int32.toNatClampNeg x1))]) (rest := []) c_40_5 rfl rfl (Nat.le_of_ble_eq_true rfl) (Nat.le_of_ble_eq_true rfl) t
set_option maxRecDepth 20000 in
theorem t_40_8 {d : Nat} {h : ab_H} {Q : Option Value → ab_H → Prop} {x0 : Nat} {x1 : Int32} {x2 : Int32} {x3 : Int32} {s0 : Int32} (t : if s0 = 0 then (wm d 38 [.int x3] h (fun r9 h9 => wq (d + 1) 40 17 [.ref x0, .int x1, .int x2, .int x3] (r9.toList ++ []) h9 Q)) else (Q (some (.int 2)) h)) : wq (d + 1) 40 8 [.ref x0, .int x1, .int x2, .int x3] [.int s0] h Q := by
  refine gif c_40_8 (gbr t rfl rfl (fun hc t => ?_) (fun hc t => ?_))
  · refine g3 c_40_13 rfl ?_
    exact g81 (As := [.int x3]) (rest := []) c_40_14 rfl rfl (Nat.le_of_ble_eq_true rfl) (Nat.le_of_ble_eq_true rfl) t
  · refine g1 c_40_11 k_2 ?_
    exact g90 c_40_12 t
set_option maxRecDepth 20000 in
theorem t_40_17 {d : Nat} {h : ab_H} {Q : Option Value → ab_H → Prop} {x0 : Nat} {x1 : Int32} {x2 : Int32} {x3 : Int32} {s0 : Int32} (t : if s0 = 0 then (if x3 = 35 then (Q (some (.int 28)) h) else (if x3 = 36 then (Q (some (.int 0)) h) else (if x3 = 37 then (Q (some (.int 0)) h) else (if x3 = 38 then (Q (some (.int 0)) h) else (if x3 = 39 then (Q (some (.int 0)) h) else (if x3 = 40 then (Q (some (.int 33)) h) else (if x3 = 41 then (Q (some (.int 34)) h) else (if x3 = 42 then (Q (some (.int 31)) h) else (if x3 = 43 then (Q (some (.int 29)) h) else (if x3 = 44 then (Q (some (.int 35)) h) else (if x3 = 45 then (Q (some (.int 30)) h) else (if x3 = 46 then (Q (some (.int 0)) h) else (if x3 = 47 then (Q (some (.int 32)) h) else (if x3 = 48 then (Q (some (.int 0)) h) else (if x3 = 49 then (Q (some (.int 0)) h) else (if x3 = 50 then (Q (some (.int 0)) h) else (if x3 = 51 then (Q (some (.int 0)) h) else (if x3 = 52 then (Q (some (.int 0)) h) else (if x3 = 53 then (Q (some (.int 0)) h) else (if x3 = 54 then (Q (some (.int 0)) h) else (if x3 = 55 then (Q (some (.int 0)) h) else (if x3 = 56 then (Q (some (.int 0)) h) else (if x3 = 57 then (Q (some (.int 0)) h) else (if x3 = 58 then (Q (some (.int 0)) h) else (if x3 = 59 then (Q (some (.int 36)) h) else (if x3 = 60 then (if (x2 - x1) = 2 then (Q (some (.int 24)) h) else (Q (some (.int 23)) h)) else (if x3 = 61 then (Q (some (.int 27)) h) else (if x3 = 62 then (if (x2 - x1) = 2 then (Q (some (.int 26)) h) else (Q (some (.int 25)) h)) else (Q (some (.int 0)) h))))))))))))))))))))))))))))) else (wm d 41 [.ref x0, .int x1, .int x2] h (fun r9 h9 => wq (d + 1) 40 26 [.ref x0, .int x1, .int x2, .int x3] (r9.toList ++ []) h9 Q))) : wq (d + 1) 40 17 [.ref x0, .int x1, .int x2, .int x3] [.int s0] h Q := by
  refine gif c_40_17 (gbr t rfl rfl (fun hc t => ?_) (fun hc t => ?_))
  · refine g3 c_40_27 rfl ?_
    by_cases e0 : x3 = 35
    · rw [if_pos e0] at t
      refine g42 (o := 161) c_40_28 sw_2 (by rw [e0]; decide) (by rw [e0]; decide) rfl ?_
      refine g1 c_40_189 k_28 ?_
      exact g90 c_40_191 t
    rw [if_neg e0] at t
    by_cases e1 : x3 = 36
    · rw [if_pos e1] at t
      refine g42 (o := 188) c_40_28 sw_2 (by rw [e1]; decide) (by rw [e1]; decide) rfl ?_
      refine g1 c_40_216 k_0 ?_
      exact g90 c_40_217 t
    rw [if_neg e1] at t
    by_cases e2 : x3 = 37
    · rw [if_pos e2] at t
      refine g42 (o := 188) c_40_28 sw_2 (by rw [e2]; decide) (by rw [e2]; decide) rfl ?_
      refine g1 c_40_216 k_0 ?_
      exact g90 c_40_217 t
    rw [if_neg e2] at t
    by_cases e3 : x3 = 38
    · rw [if_pos e3] at t
      refine g42 (o := 188) c_40_28 sw_2 (by rw [e3]; decide) (by rw [e3]; decide) rfl ?_
      refine g1 c_40_216 k_0 ?_
      exact g90 c_40_217 t
    rw [if_neg e3] at t
    by_cases e4 : x3 = 39
    · rw [if_pos e4] at t
      refine g42 (o := 188) c_40_28 sw_2 (by rw [e4]; decide) (by rw [e4]; decide) rfl ?_
      refine g1 c_40_216 k_0 ?_
      exact g90 c_40_217 t
    rw [if_neg e4] at t
    by_cases e5 : x3 = 40
    · rw [if_pos e5] at t
      refine g42 (o := 176) c_40_28 sw_2 (by rw [e5]; decide) (by rw [e5]; decide) rfl ?_
      refine g1 c_40_204 k_33 ?_
      exact g90 c_40_206 t
    rw [if_neg e5] at t
    by_cases e6 : x3 = 41
    · rw [if_pos e6] at t
      refine g42 (o := 179) c_40_28 sw_2 (by rw [e6]; decide) (by rw [e6]; decide) rfl ?_
      refine g1 c_40_207 k_34 ?_
      exact g90 c_40_209 t
    rw [if_neg e6] at t
    by_cases e7 : x3 = 42
    · rw [if_pos e7] at t
      refine g42 (o := 170) c_40_28 sw_2 (by rw [e7]; decide) (by rw [e7]; decide) rfl ?_
      refine g1 c_40_198 k_31 ?_
      exact g90 c_40_200 t
    rw [if_neg e7] at t
    by_cases e8 : x3 = 43
    · rw [if_pos e8] at t
      refine g42 (o := 164) c_40_28 sw_2 (by rw [e8]; decide) (by rw [e8]; decide) rfl ?_
      refine g1 c_40_192 k_29 ?_
      exact g90 c_40_194 t
    rw [if_neg e8] at t
    by_cases e9 : x3 = 44
    · rw [if_pos e9] at t
      refine g42 (o := 182) c_40_28 sw_2 (by rw [e9]; decide) (by rw [e9]; decide) rfl ?_
      refine g1 c_40_210 k_35 ?_
      exact g90 c_40_212 t
    rw [if_neg e9] at t
    by_cases e10 : x3 = 45
    · rw [if_pos e10] at t
      refine g42 (o := 167) c_40_28 sw_2 (by rw [e10]; decide) (by rw [e10]; decide) rfl ?_
      refine g1 c_40_195 k_30 ?_
      exact g90 c_40_197 t
    rw [if_neg e10] at t
    by_cases e11 : x3 = 46
    · rw [if_pos e11] at t
      refine g42 (o := 188) c_40_28 sw_2 (by rw [e11]; decide) (by rw [e11]; decide) rfl ?_
      refine g1 c_40_216 k_0 ?_
      exact g90 c_40_217 t
    rw [if_neg e11] at t
    by_cases e12 : x3 = 47
    · rw [if_pos e12] at t
      refine g42 (o := 173) c_40_28 sw_2 (by rw [e12]; decide) (by rw [e12]; decide) rfl ?_
      refine g1 c_40_201 k_32 ?_
      exact g90 c_40_203 t
    rw [if_neg e12] at t
    by_cases e13 : x3 = 48
    · rw [if_pos e13] at t
      refine g42 (o := 188) c_40_28 sw_2 (by rw [e13]; decide) (by rw [e13]; decide) rfl ?_
      refine g1 c_40_216 k_0 ?_
      exact g90 c_40_217 t
    rw [if_neg e13] at t
    by_cases e14 : x3 = 49
    · rw [if_pos e14] at t
      refine g42 (o := 188) c_40_28 sw_2 (by rw [e14]; decide) (by rw [e14]; decide) rfl ?_
      refine g1 c_40_216 k_0 ?_
      exact g90 c_40_217 t
    rw [if_neg e14] at t
    by_cases e15 : x3 = 50
    · rw [if_pos e15] at t
      refine g42 (o := 188) c_40_28 sw_2 (by rw [e15]; decide) (by rw [e15]; decide) rfl ?_
      refine g1 c_40_216 k_0 ?_
      exact g90 c_40_217 t
    rw [if_neg e15] at t
    by_cases e16 : x3 = 51
    · rw [if_pos e16] at t
      refine g42 (o := 188) c_40_28 sw_2 (by rw [e16]; decide) (by rw [e16]; decide) rfl ?_
      refine g1 c_40_216 k_0 ?_
      exact g90 c_40_217 t
    rw [if_neg e16] at t
    by_cases e17 : x3 = 52
    · rw [if_pos e17] at t
      refine g42 (o := 188) c_40_28 sw_2 (by rw [e17]; decide) (by rw [e17]; decide) rfl ?_
      refine g1 c_40_216 k_0 ?_
      exact g90 c_40_217 t
    rw [if_neg e17] at t
    by_cases e18 : x3 = 53
    · rw [if_pos e18] at t
      refine g42 (o := 188) c_40_28 sw_2 (by rw [e18]; decide) (by rw [e18]; decide) rfl ?_
      refine g1 c_40_216 k_0 ?_
      exact g90 c_40_217 t
    rw [if_neg e18] at t
    by_cases e19 : x3 = 54
    · rw [if_pos e19] at t
      refine g42 (o := 188) c_40_28 sw_2 (by rw [e19]; decide) (by rw [e19]; decide) rfl ?_
      refine g1 c_40_216 k_0 ?_
      exact g90 c_40_217 t
    rw [if_neg e19] at t
    by_cases e20 : x3 = 55
    · rw [if_pos e20] at t
      refine g42 (o := 188) c_40_28 sw_2 (by rw [e20]; decide) (by rw [e20]; decide) rfl ?_
      refine g1 c_40_216 k_0 ?_
      exact g90 c_40_217 t
    rw [if_neg e20] at t
    by_cases e21 : x3 = 56
    · rw [if_pos e21] at t
      refine g42 (o := 188) c_40_28 sw_2 (by rw [e21]; decide) (by rw [e21]; decide) rfl ?_
      refine g1 c_40_216 k_0 ?_
      exact g90 c_40_217 t
    rw [if_neg e21] at t
    by_cases e22 : x3 = 57
    · rw [if_pos e22] at t
      refine g42 (o := 188) c_40_28 sw_2 (by rw [e22]; decide) (by rw [e22]; decide) rfl ?_
      refine g1 c_40_216 k_0 ?_
      exact g90 c_40_217 t
    rw [if_neg e22] at t
    by_cases e23 : x3 = 58
    · rw [if_pos e23] at t
      refine g42 (o := 188) c_40_28 sw_2 (by rw [e23]; decide) (by rw [e23]; decide) rfl ?_
      refine g1 c_40_216 k_0 ?_
      exact g90 c_40_217 t
    rw [if_neg e23] at t
    by_cases e24 : x3 = 59
    · rw [if_pos e24] at t
      refine g42 (o := 185) c_40_28 sw_2 (by rw [e24]; decide) (by rw [e24]; decide) rfl ?_
      refine g1 c_40_213 k_36 ?_
      exact g90 c_40_215 t
    rw [if_neg e24] at t
    by_cases e25 : x3 = 60
    · rw [if_pos e25] at t
      refine g42 (o := 128) c_40_28 sw_2 (by rw [e25]; decide) (by rw [e25]; decide) rfl ?_
      refine g3 c_40_156 rfl ?_
      refine g3 c_40_157 rfl ?_
      refine g11 c_40_158 ?_
      refine g1 c_40_159 k_2 ?_
      refine gcm c_40_160 (gbn t (ab_c1 _ _) rfl (fun hc t => ?_) (fun hc t => ?_))
      · refine g1 c_40_163 k_24 ?_
        refine g38 c_40_165 rfl ?_
        exact g90 c_40_170 t
      · refine g1 c_40_168 k_23 ?_
        exact g90 c_40_170 t
    rw [if_neg e25] at t
    by_cases e26 : x3 = 61
    · rw [if_pos e26] at t
      refine g42 (o := 158) c_40_28 sw_2 (by rw [e26]; decide) (by rw [e26]; decide) rfl ?_
      refine g1 c_40_186 k_27 ?_
      exact g90 c_40_188 t
    rw [if_neg e26] at t
    by_cases e27 : x3 = 62
    · rw [if_pos e27] at t
      refine g42 (o := 143) c_40_28 sw_2 (by rw [e27]; decide) (by rw [e27]; decide) rfl ?_
      refine g3 c_40_171 rfl ?_
      refine g3 c_40_172 rfl ?_
      refine g11 c_40_173 ?_
      refine g1 c_40_174 k_2 ?_
      refine gcm c_40_175 (gbn t (ab_c1 _ _) rfl (fun hc t => ?_) (fun hc t => ?_))
      · refine g1 c_40_178 k_26 ?_
        refine g38 c_40_180 rfl ?_
        exact g90 c_40_185 t
      · refine g1 c_40_183 k_25 ?_
        exact g90 c_40_185 t
    rw [if_neg e27] at t
    refine g42d c_40_28 sw_2 (gsw_out (n := 28) (by decide) (by decide) (fun i hi => ?_)) rfl ?_
    · rcases (show i = 0 ∨ i = 1 ∨ i = 2 ∨ i = 3 ∨ i = 4 ∨ i = 5 ∨ i = 6 ∨ i = 7 ∨ i = 8 ∨ i = 9 ∨ i = 10 ∨ i = 11 ∨ i = 12 ∨ i = 13 ∨ i = 14 ∨ i = 15 ∨ i = 16 ∨ i = 17 ∨ i = 18 ∨ i = 19 ∨ i = 20 ∨ i = 21 ∨ i = 22 ∨ i = 23 ∨ i = 24 ∨ i = 25 ∨ i = 26 ∨ i = 27 by omega) with rfl | rfl | rfl | rfl | rfl | rfl | rfl | rfl | rfl | rfl | rfl | rfl | rfl | rfl | rfl | rfl | rfl | rfl | rfl | rfl | rfl | rfl | rfl | rfl | rfl | rfl | rfl | rfl
      · exact fun q => e0 (q.trans k_35)
      · exact fun q => e1 (q.trans k_36)
      · exact fun q => e2 (q.trans k_37)
      · exact fun q => e3 (q.trans k_38)
      · exact fun q => e4 (q.trans k_39)
      · exact fun q => e5 (q.trans k_40)
      · exact fun q => e6 (q.trans k_41)
      · exact fun q => e7 (q.trans k_42)
      · exact fun q => e8 (q.trans k_43)
      · exact fun q => e9 (q.trans k_44)
      · exact fun q => e10 (q.trans k_45)
      · exact fun q => e11 (q.trans k_46)
      · exact fun q => e12 (q.trans k_47)
      · exact fun q => e13 (q.trans k_48)
      · exact fun q => e14 (q.trans k_49)
      · exact fun q => e15 (q.trans k_50)
      · exact fun q => e16 (q.trans k_51)
      · exact fun q => e17 (q.trans k_52)
      · exact fun q => e18 (q.trans k_53)
      · exact fun q => e19 (q.trans k_54)
      · exact fun q => e20 (q.trans k_55)
      · exact fun q => e21 (q.trans k_56)
      · exact fun q => e22 (q.trans k_57)
      · exact fun q => e23 (q.trans k_58)
      · exact fun q => e24 (q.trans k_59)
      · exact fun q => e25 (q.trans k_60)
      · exact fun q => e26 (q.trans k_61)
      · exact fun q => e27 (q.trans k_62)
    refine g1 c_40_216 k_0 ?_
    exact g90 c_40_217 t
  · refine g5 c_40_20 rfl ?_
    refine g3 c_40_21 rfl ?_
    refine g3 c_40_22 rfl ?_
    exact g81 (As := [.ref x0, .int x1, .int x2]) (rest := []) c_40_23 rfl rfl (Nat.le_of_ble_eq_true rfl) (Nat.le_of_ble_eq_true rfl) t
set_option maxRecDepth 20000 in
theorem t_40_26 {d : Nat} {h : ab_H} {Q : Option Value → ab_H → Prop} {x0 : Nat} {x1 : Int32} {x2 : Int32} {x3 : Int32} {s0 : Int32} (t : Q (some (.int s0)) h) : wq d 40 26 [.ref x0, .int x1, .int x2, .int x3] [.int s0] h Q := by
  exact g90 c_40_26 t
-- method 41: MillTown$Reader.wordAt([III)I
theorem c_41_0 : pg_cd 41 0 = (1, 1, 0, 0, 3) := by decide +kernel
theorem c_41_1 : pg_cd 41 1 = (6, 1, 0, 3, 0) := by decide +kernel
theorem c_41_2 : pg_cd 41 2 = (3, 1, 0, 1, 0) := by decide +kernel
theorem c_41_3 : pg_cd 41 3 = (6, 2, 0, 4, 0) := by decide +kernel
theorem c_41_5 : pg_cd 41 5 = (1, 1, 0, 0, 1) := by decide +kernel
theorem c_41_6 : pg_cd 41 6 = (6, 2, 0, 5, 0) := by decide +kernel
theorem c_41_8 : pg_cd 41 8 = (1, 1, 0, 0, 0) := by decide +kernel
theorem c_41_9 : pg_cd 41 9 = (6, 2, 0, 6, 0) := by decide +kernel
theorem c_41_11 : pg_cd 41 11 = (3, 2, 0, 6, 0) := by decide +kernel
theorem c_41_13 : pg_cd 41 13 = (78, 2, 89, 0, 0) := by decide +kernel
theorem c_41_15 : pg_cd 41 15 = (70, 0, 91, 0, 0) := by decide +kernel
theorem c_41_18 : pg_cd 41 18 = (37, 3, 0, 3, 80) := by decide +kernel
theorem c_41_21 : pg_cd 41 21 = (78, 2, 89, 0, 0) := by decide +kernel
theorem c_41_23 : pg_cd 41 23 = (3, 2, 0, 6, 0) := by decide +kernel
theorem c_41_25 : pg_cd 41 25 = (71, 0, 97, 0, 0) := by decide +kernel
theorem c_41_28 : pg_cd 41 28 = (6, 2, 0, 7, 0) := by decide +kernel
theorem c_41_30 : pg_cd 41 30 = (3, 2, 0, 7, 0) := by decide +kernel
theorem c_41_32 : pg_cd 41 32 = (1, 2, 0, 0, 32) := by decide +kernel
theorem c_41_34 : pg_cd 41 34 = (37, 3, 0, 0, 36) := by decide +kernel
theorem c_41_37 : pg_cd 41 37 = (3, 2, 0, 5, 0) := by decide +kernel
theorem c_41_39 : pg_cd 41 39 = (36, 3, 0, 0, 22) := by decide +kernel
theorem c_41_42 : pg_cd 41 42 = (3, 2, 0, 4, 0) := by decide +kernel
theorem c_41_44 : pg_cd 41 44 = (3, 1, 0, 2, 0) := by decide +kernel
theorem c_41_45 : pg_cd 41 45 = (37, 3, 0, 3, 16) := by decide +kernel
theorem c_41_48 : pg_cd 41 48 = (5, 1, 0, 0, 0) := by decide +kernel
theorem c_41_49 : pg_cd 41 49 = (3, 2, 0, 4, 0) := by decide +kernel
theorem c_41_51 : pg_cd 41 51 = (50, 1, 0, 0, 0) := by decide +kernel
theorem c_41_52 : pg_cd 41 52 = (3, 2, 0, 7, 0) := by decide +kernel
theorem c_41_54 : pg_cd 41 54 = (37, 3, 0, 1, 7) := by decide +kernel
theorem c_41_57 : pg_cd 41 57 = (1, 1, 0, 0, 1) := by decide +kernel
theorem c_41_58 : pg_cd 41 58 = (38, 3, 0, 0, 4) := by decide +kernel
theorem c_41_61 : pg_cd 41 61 = (1, 1, 0, 0, 0) := by decide +kernel
theorem c_41_62 : pg_cd 41 62 = (6, 2, 0, 5, 0) := by decide +kernel
theorem c_41_64 : pg_cd 41 64 = (9, 3, 0, 4, 1) := by decide +kernel
theorem c_41_67 : pg_cd 41 67 = (38, 3, 0, 0, 25) := by decide +kernel
theorem c_41_70 : pg_cd 41 70 = (3, 2, 0, 5, 0) := by decide +kernel
theorem c_41_72 : pg_cd 41 72 = (36, 3, 0, 0, 11) := by decide +kernel
theorem c_41_75 : pg_cd 41 75 = (3, 2, 0, 4, 0) := by decide +kernel
theorem c_41_77 : pg_cd 41 77 = (3, 1, 0, 2, 0) := by decide +kernel
theorem c_41_78 : pg_cd 41 78 = (37, 3, 0, 1, 5) := by decide +kernel
theorem c_41_81 : pg_cd 41 81 = (3, 1, 0, 3, 0) := by decide +kernel
theorem c_41_82 : pg_cd 41 82 = (90, 0, 0, 0, 0) := by decide +kernel
theorem c_41_83 : pg_cd 41 83 = (9, 3, 0, 3, 1) := by decide +kernel
theorem c_41_86 : pg_cd 41 86 = (3, 1, 0, 1, 0) := by decide +kernel
theorem c_41_87 : pg_cd 41 87 = (6, 2, 0, 4, 0) := by decide +kernel
theorem c_41_89 : pg_cd 41 89 = (1, 1, 0, 0, 1) := by decide +kernel
theorem c_41_90 : pg_cd 41 90 = (6, 2, 0, 5, 0) := by decide +kernel
theorem c_41_92 : pg_cd 41 92 = (9, 3, 0, 6, 1) := by decide +kernel
theorem c_41_95 : pg_cd 41 95 = (38, 3, 0, 0, (-84)) := by decide +kernel
theorem c_41_98 : pg_cd 41 98 = (1, 1, 0, 0, 0) := by decide +kernel
theorem c_41_99 : pg_cd 41 99 = (90, 0, 0, 0, 0) := by decide +kernel
theorem mx_41 : pg_mx 41 = 8 := by decide +kernel
theorem m_41 {d : Nat} {h : ab_H} {Q : Option Value → ab_H → Prop} {x0 : Nat} {x1 : Int32} {x2 : Int32} (t : wq d 41 0 [.ref x0, .int x1, .int x2, .retAddr 0, .retAddr 0, .retAddr 0, .retAddr 0, .retAddr 0] [] h Q) : wm d 41 [.ref x0, .int x1, .int x2] h Q := by
  unfold wm
  rw [mx_41]
  exact t
set_option maxRecDepth 20000 in
theorem t_41_0 {d : Nat} {h : ab_H} {Q : Option Value → ab_H → Prop} {x0 : Nat} {x1 : Int32} {x2 : Int32} (t : wq d 41 11 [.ref x0, .int x1, .int x2, .int 3, .int x1, .int 1, .int 0, .retAddr 0] [] h Q) : wq d 41 0 [.ref x0, .int x1, .int x2, .retAddr 0, .retAddr 0, .retAddr 0, .retAddr 0, .retAddr 0] [] h Q := by
  refine g1 c_41_0 k_3 ?_
  refine g6 (L' := [.ref x0, .int x1, .int x2, .int 3, .retAddr 0, .retAddr 0, .retAddr 0, .retAddr 0]) c_41_1 rfl ?_
  refine g3 c_41_2 rfl ?_
  refine g6 (L' := [.ref x0, .int x1, .int x2, .int 3, .int x1, .retAddr 0, .retAddr 0, .retAddr 0]) c_41_3 rfl ?_
  refine g1 c_41_5 k_1 ?_
  refine g6 (L' := [.ref x0, .int x1, .int x2, .int 3, .int x1, .int 1, .retAddr 0, .retAddr 0]) c_41_6 rfl ?_
  refine g1 c_41_8 k_0 ?_
  refine g6 (L' := [.ref x0, .int x1, .int x2, .int 3, .int x1, .int 1, .int 0, .retAddr 0]) c_41_9 rfl ?_
  exact t
set_option maxRecDepth 20000 in
theorem t_41_11 {d : Nat} {h : ab_H} {Q : Option Value → ab_H → Prop} {x0 : Nat} {x1 : Int32} {x2 : Int32} {x3 : Int32} {x4 : Int32} {x5 : Int32} {x6 : Int32} (t : 7 ≤ d ∧ 7 ≤ d ∧ if (Int32.ofNat pg_tx.length) ≤ x6 then (Q (some (.int 0)) h) else (7 ≤ d ∧ 7 ≤ d ∧ ab_in x6 pg_tx.length = true ∧ ∀ y1 : Int32, y1 = (Int32.ofInt (pg_tx.getD (Int32.toNatClampNeg x6) 0)) → if y1 = 32 then (if x5 = 0 then (wq d 41 11 [.ref x0, .int x1, .int x2, .int (x3 + 1), .int x1, .int 1, .int (x6 + 1), .int y1] [] h Q) else (if x4 = x2 then (Q (some (.int x3)) h) else (wq d 41 11 [.ref x0, .int x1, .int x2, .int (x3 + 1), .int x1, .int 1, .int (x6 + 1), .int y1] [] h Q))) else (if x5 = 0 then (wq d 41 11 [.ref x0, .int x1, .int x2, .int x3, .int (x4 + 1), .int 0, .int (x6 + 1), .int y1] [] h Q) else (if x2 ≤ x4 then (wq d 41 11 [.ref x0, .int x1, .int x2, .int x3, .int (x4 + 1), .int 0, .int (x6 + 1), .int y1] [] h Q) else (((x0 = 0 ∨ ab_ok h x0 0 = true) ∧ ab_in x4 (ab_s h x0).2 = true) ∧ if (ab_i h x0 (Int32.toNatClampNeg x4)) = y1 then (wq d 41 11 [.ref x0, .int x1, .int x2, .int x3, .int (x4 + 1), .int 1, .int (x6 + 1), .int y1] [] h Q) else (wq d 41 11 [.ref x0, .int x1, .int x2, .int x3, .int (x4 + 1), .int 0, .int (x6 + 1), .int y1] [] h Q)))))) : wq d 41 11 [.ref x0, .int x1, .int x2, .int x3, .int x4, .int x5, .int x6, .retAddr 0] [] h Q := by
  refine g3 c_41_11 rfl ?_
  obtain ⟨h7, t⟩ := t
  refine g78 c_41_13 h7 ?_
  obtain ⟨h7, t⟩ := t
  refine g70 c_41_15 (Nat.le_of_ble_eq_true rfl) h7 ?_
  refine gcm c_41_18 (gbr t rfl rfl (fun hc t => ?_) (fun hc t => ?_))
  · refine g1 c_41_98 k_0 ?_
    exact g90 c_41_99 t
  · obtain ⟨h7, t⟩ := t
    refine g78 c_41_21 h7 ?_
    refine g3 c_41_23 rfl ?_
    obtain ⟨h7, hx, t⟩ := t
    refine g71 c_41_25 (Nat.le_of_ble_eq_true rfl) h7 hx ?_
    refine g6y (Lf := fun y1 => [.ref x0, .int x1, .int x2, .int x3, .int x4, .int x5, .int x6, .int y1]) c_41_28 (fun _ => rfl) (fun y1 ey1 => ?_)
    have t := t y1 ey1
    refine g3 c_41_30 rfl ?_
    refine g1 c_41_32 k_32 ?_
    refine gcm c_41_34 (gbr t rfl rfl (fun hc t => ?_) (fun hc t => ?_))
    · refine g3 c_41_70 rfl ?_
      refine gif c_41_72 (gbr t rfl rfl (fun hc t => ?_) (fun hc t => ?_))
      · refine g9 (L' := [.ref x0, .int x1, .int x2, .int (x3 + 1), .int x4, .int x5, .int x6, .int y1]) c_41_83 rfl k_1 rfl ?_
        refine g3 c_41_86 rfl ?_
        refine g6 (L' := [.ref x0, .int x1, .int x2, .int (x3 + 1), .int x1, .int x5, .int x6, .int y1]) c_41_87 rfl ?_
        refine g1 c_41_89 k_1 ?_
        refine g6 (L' := [.ref x0, .int x1, .int x2, .int (x3 + 1), .int x1, .int 1, .int x6, .int y1]) c_41_90 rfl ?_
        refine g9 (L' := [.ref x0, .int x1, .int x2, .int (x3 + 1), .int x1, .int 1, .int (x6 + 1), .int y1]) c_41_92 rfl k_1 rfl ?_
        refine g38 c_41_95 rfl ?_
        exact t
      · refine g3 c_41_75 rfl ?_
        refine g3 c_41_77 rfl ?_
        refine gcm c_41_78 (gbn t (ab_c1 _ _) rfl (fun hc t => ?_) (fun hc t => ?_))
        · refine g3 c_41_81 rfl ?_
          exact g90 c_41_82 t
        · refine g9 (L' := [.ref x0, .int x1, .int x2, .int (x3 + 1), .int x4, .int x5, .int x6, .int y1]) c_41_83 rfl k_1 rfl ?_
          refine g3 c_41_86 rfl ?_
          refine g6 (L' := [.ref x0, .int x1, .int x2, .int (x3 + 1), .int x1, .int x5, .int x6, .int y1]) c_41_87 rfl ?_
          refine g1 c_41_89 k_1 ?_
          refine g6 (L' := [.ref x0, .int x1, .int x2, .int (x3 + 1), .int x1, .int 1, .int x6, .int y1]) c_41_90 rfl ?_
          refine g9 (L' := [.ref x0, .int x1, .int x2, .int (x3 + 1), .int x1, .int 1, .int (x6 + 1), .int y1]) c_41_92 rfl k_1 rfl ?_
          refine g38 c_41_95 rfl ?_
          exact t
    · refine g3 c_41_37 rfl ?_
      refine gif c_41_39 (gbr t rfl rfl (fun hc t => ?_) (fun hc t => ?_))
      · refine g1 c_41_61 k_0 ?_
        refine g6 (L' := [.ref x0, .int x1, .int x2, .int x3, .int x4, .int 0, .int x6, .int y1]) c_41_62 rfl ?_
        refine g9 (L' := [.ref x0, .int x1, .int x2, .int x3, .int (x4 + 1), .int 0, .int x6, .int y1]) c_41_64 rfl k_1 rfl ?_
        refine g38 c_41_67 rfl ?_
        refine g9 (L' := [.ref x0, .int x1, .int x2, .int x3, .int (x4 + 1), .int 0, .int (x6 + 1), .int y1]) c_41_92 rfl k_1 rfl ?_
        refine g38 c_41_95 rfl ?_
        exact t
      · refine g3 c_41_42 rfl ?_
        refine g3 c_41_44 rfl ?_
        refine gcm c_41_45 (gbr t rfl rfl (fun hc t => ?_) (fun hc t => ?_))
        · refine g1 c_41_61 k_0 ?_
          refine g6 (L' := [.ref x0, .int x1, .int x2, .int x3, .int x4, .int 0, .int x6, .int y1]) c_41_62 rfl ?_
          refine g9 (L' := [.ref x0, .int x1, .int x2, .int x3, .int (x4 + 1), .int 0, .int x6, .int y1]) c_41_64 rfl k_1 rfl ?_
          refine g38 c_41_67 rfl ?_
          refine g9 (L' := [.ref x0, .int x1, .int x2, .int x3, .int (x4 + 1), .int 0, .int (x6 + 1), .int y1]) c_41_92 rfl k_1 rfl ?_
          refine g38 c_41_95 rfl ?_
          exact t
        · refine g5 c_41_48 rfl ?_
          refine g3 c_41_49 rfl ?_
          obtain ⟨ho, t⟩ := t
          refine g50 c_41_51 ho ?_
          refine g3 c_41_52 rfl ?_
          refine gcm c_41_54 (gbn t (ab_c1 _ _) rfl (fun hc t => ?_) (fun hc t => ?_))
          · refine g1 c_41_57 k_1 ?_
            refine g38 c_41_58 rfl ?_
            refine g6 (L' := [.ref x0, .int x1, .int x2, .int x3, .int x4, .int 1, .int x6, .int y1]) c_41_62 rfl ?_
            refine g9 (L' := [.ref x0, .int x1, .int x2, .int x3, .int (x4 + 1), .int 1, .int x6, .int y1]) c_41_64 rfl k_1 rfl ?_
            refine g38 c_41_67 rfl ?_
            refine g9 (L' := [.ref x0, .int x1, .int x2, .int x3, .int (x4 + 1), .int 1, .int (x6 + 1), .int y1]) c_41_92 rfl k_1 rfl ?_
            refine g38 c_41_95 rfl ?_
            exact t
          · refine g1 c_41_61 k_0 ?_
            refine g6 (L' := [.ref x0, .int x1, .int x2, .int x3, .int x4, .int 0, .int x6, .int y1]) c_41_62 rfl ?_
            refine g9 (L' := [.ref x0, .int x1, .int x2, .int x3, .int (x4 + 1), .int 0, .int x6, .int y1]) c_41_64 rfl k_1 rfl ?_
            refine g38 c_41_67 rfl ?_
            refine g9 (L' := [.ref x0, .int x1, .int x2, .int x3, .int (x4 + 1), .int 0, .int (x6 + 1), .int y1]) c_41_92 rfl k_1 rfl ?_
            refine g38 c_41_95 rfl ?_
            exact t
-- method 42: MillTown$Reader.numberAt([III)I
theorem c_42_0 : pg_cd 42 0 = (1, 1, 0, 0, 0) := by decide +kernel
theorem c_42_1 : pg_cd 42 1 = (6, 1, 0, 3, 0) := by decide +kernel
theorem c_42_2 : pg_cd 42 2 = (3, 1, 0, 1, 0) := by decide +kernel
theorem c_42_3 : pg_cd 42 3 = (6, 2, 0, 4, 0) := by decide +kernel
theorem c_42_5 : pg_cd 42 5 = (3, 2, 0, 4, 0) := by decide +kernel
theorem c_42_7 : pg_cd 42 7 = (3, 1, 0, 2, 0) := by decide +kernel
theorem c_42_8 : pg_cd 42 8 = (37, 3, 0, 3, 38) := by decide +kernel
theorem c_42_11 : pg_cd 42 11 = (5, 1, 0, 0, 0) := by decide +kernel
theorem c_42_12 : pg_cd 42 12 = (3, 2, 0, 4, 0) := by decide +kernel
theorem c_42_14 : pg_cd 42 14 = (50, 1, 0, 0, 0) := by decide +kernel
theorem c_42_15 : pg_cd 42 15 = (81, 37, 83, 0, 0) := by decide +kernel
theorem c_42_18 : pg_cd 42 18 = (36, 3, 0, 0, 28) := by decide +kernel
theorem c_42_21 : pg_cd 42 21 = (3, 1, 0, 3, 0) := by decide +kernel
theorem c_42_22 : pg_cd 42 22 = (1, 2, 0, 0, 10) := by decide +kernel
theorem c_42_24 : pg_cd 42 24 = (12, 1, 0, 0, 0) := by decide +kernel
theorem c_42_25 : pg_cd 42 25 = (5, 1, 0, 0, 0) := by decide +kernel
theorem c_42_26 : pg_cd 42 26 = (3, 2, 0, 4, 0) := by decide +kernel
theorem c_42_28 : pg_cd 42 28 = (50, 1, 0, 0, 0) := by decide +kernel
theorem c_42_29 : pg_cd 42 29 = (10, 1, 0, 0, 0) := by decide +kernel
theorem c_42_30 : pg_cd 42 30 = (1, 2, 0, 0, 48) := by decide +kernel
theorem c_42_32 : pg_cd 42 32 = (11, 1, 0, 0, 0) := by decide +kernel
theorem c_42_33 : pg_cd 42 33 = (1, 3, 0, 0, 10000) := by decide +kernel
theorem c_42_36 : pg_cd 42 36 = (74, 0, 33, 0, 0) := by decide +kernel
theorem c_42_39 : pg_cd 42 39 = (6, 1, 0, 3, 0) := by decide +kernel
theorem c_42_40 : pg_cd 42 40 = (9, 3, 0, 4, 1) := by decide +kernel
theorem c_42_43 : pg_cd 42 43 = (38, 3, 0, 0, (-38)) := by decide +kernel
theorem c_42_46 : pg_cd 42 46 = (3, 1, 0, 3, 0) := by decide +kernel
theorem c_42_47 : pg_cd 42 47 = (90, 0, 0, 0, 0) := by decide +kernel
theorem mx_42 : pg_mx 42 = 5 := by decide +kernel
theorem m_42 {d : Nat} {h : ab_H} {Q : Option Value → ab_H → Prop} {x0 : Nat} {x1 : Int32} {x2 : Int32} (t : wq d 42 0 [.ref x0, .int x1, .int x2, .retAddr 0, .retAddr 0] [] h Q) : wm d 42 [.ref x0, .int x1, .int x2] h Q := by
  unfold wm
  rw [mx_42]
  exact t
set_option maxRecDepth 20000 in
theorem t_42_0 {d : Nat} {h : ab_H} {Q : Option Value → ab_H → Prop} {x0 : Nat} {x1 : Int32} {x2 : Int32} (t : wq d 42 5 [.ref x0, .int x1, .int x2, .int 0, .int x1] [] h Q) : wq d 42 0 [.ref x0, .int x1, .int x2, .retAddr 0, .retAddr 0] [] h Q := by
  refine g1 c_42_0 k_0 ?_
  refine g6 (L' := [.ref x0, .int x1, .int x2, .int 0, .retAddr 0]) c_42_1 rfl ?_
  refine g3 c_42_2 rfl ?_
  refine g6 (L' := [.ref x0, .int x1, .int x2, .int 0, .int x1]) c_42_3 rfl ?_
  exact t
set_option maxRecDepth 20000 in
theorem t_42_5 {d : Nat} {h : ab_H} {Q : Option Value → ab_H → Prop} {x0 : Nat} {x1 : Int32} {x2 : Int32} {x3 : Int32} {x4 : Int32} (t : if x2 ≤ x4 then (Q (some (.int x3)) h) else (((x0 = 0 ∨ ab_ok h x0 0 = true) ∧ ab_in x4 (ab_s h x0).2 = true) ∧ wm d 37 [.int (ab_i h x0 (Int32.toNatClampNeg x4))] h (fun r9 h9 => wq (d + 1) 42 18 [.ref x0, .int x1, .int x2, .int x3, .int x4] (r9.toList ++ []) h9 Q))) : wq (d + 1) 42 5 [.ref x0, .int x1, .int x2, .int x3, .int x4] [] h Q := by
  refine g3 c_42_5 rfl ?_
  refine g3 c_42_7 rfl ?_
  refine gcm c_42_8 (gbr t rfl rfl (fun hc t => ?_) (fun hc t => ?_))
  · refine g3 c_42_46 rfl ?_
    exact g90 c_42_47 t
  · refine g5 c_42_11 rfl ?_
    refine g3 c_42_12 rfl ?_
    obtain ⟨ho, t⟩ := t
    refine g50 c_42_14 ho ?_
    exact g81 (As := [.int (ab_i h x0 (Int32.toNatClampNeg x4))]) (rest := []) c_42_15 rfl rfl (Nat.le_of_ble_eq_true rfl) (Nat.le_of_ble_eq_true rfl) t
set_option maxRecDepth 20000 in
theorem t_42_18 {d : Nat} {h : ab_H} {Q : Option Value → ab_H → Prop} {x0 : Nat} {x1 : Int32} {x2 : Int32} {x3 : Int32} {x4 : Int32} {s0 : Int32} (t : if s0 = 0 then (Q (some (.int x3)) h) else (((x0 = 0 ∨ ab_ok h x0 0 = true) ∧ ab_in x4 (ab_s h x0).2 = true) ∧ 7 ≤ d ∧ ∀ y1 : Int32, y1 = (if (10000 : Int32) < (((x3 * 10) + (ab_i h x0 (Int32.toNatClampNeg x4))) - 48) then 10000 else (((x3 * 10) + (ab_i h x0 (Int32.toNatClampNeg x4))) - 48)) → wq d 42 5 [.ref x0, .int x1, .int x2, .int y1, .int (x4 + 1)] [] h Q)) : wq d 42 18 [.ref x0, .int x1, .int x2, .int x3, .int x4] [.int s0] h Q := by
  refine gif c_42_18 (gbr t rfl rfl (fun hc t => ?_) (fun hc t => ?_))
  · refine g3 c_42_46 rfl ?_
    exact g90 c_42_47 t
  · refine g3 c_42_21 rfl ?_
    refine g1 c_42_22 k_10 ?_
    refine g12 c_42_24 ?_
    refine g5 c_42_25 rfl ?_
    refine g3 c_42_26 rfl ?_
    obtain ⟨ho, t⟩ := t
    refine g50 c_42_28 ho ?_
    refine g10 c_42_29 ?_
    refine g1 c_42_30 k_48 ?_
    refine g11 c_42_32 ?_
    refine g1 c_42_33 k_10000 ?_
    obtain ⟨h7, t⟩ := t
    refine g74 c_42_36 (Nat.le_of_ble_eq_true rfl) h7 ?_
    refine g6y (Lf := fun y1 => [.ref x0, .int x1, .int x2, .int y1, .int x4]) c_42_39 (fun _ => rfl) (fun y1 ey1 => ?_)
    have t := t y1 ey1
    refine g9 (L' := [.ref x0, .int x1, .int x2, .int y1, .int (x4 + 1)]) c_42_40 rfl k_1 rfl ?_
    refine g38 c_42_43 rfl ?_
    exact t
-- method 43: MillTown$Reader.fail(I)V
theorem c_43_0 : pg_cd 43 0 = (5, 1, 0, 0, 0) := by decide +kernel
theorem c_43_1 : pg_cd 43 1 = (43, 3, 21, 5, 0) := by decide +kernel
theorem c_43_4 : pg_cd 43 4 = (36, 3, 0, 1, 33) := by decide +kernel
theorem c_43_7 : pg_cd 43 7 = (5, 1, 0, 0, 0) := by decide +kernel
theorem c_43_8 : pg_cd 43 8 = (43, 3, 43, 3, 0) := by decide +kernel
theorem c_43_11 : pg_cd 43 11 = (5, 1, 0, 0, 0) := by decide +kernel
theorem c_43_12 : pg_cd 43 12 = (45, 3, 15, 1, 0) := by decide +kernel
theorem c_43_15 : pg_cd 43 15 = (58, 0, 0, 0, 0) := by decide +kernel
theorem c_43_16 : pg_cd 43 16 = (37, 3, 0, 3, 21) := by decide +kernel
theorem c_43_19 : pg_cd 43 19 = (5, 1, 0, 0, 0) := by decide +kernel
theorem c_43_20 : pg_cd 43 20 = (3, 1, 0, 1, 0) := by decide +kernel
theorem c_43_21 : pg_cd 43 21 = (46, 3, 21, 5, 0) := by decide +kernel
theorem c_43_24 : pg_cd 43 24 = (5, 1, 0, 0, 0) := by decide +kernel
theorem c_43_25 : pg_cd 43 25 = (5, 1, 0, 0, 0) := by decide +kernel
theorem c_43_26 : pg_cd 43 26 = (45, 3, 15, 1, 0) := by decide +kernel
theorem c_43_29 : pg_cd 43 29 = (5, 1, 0, 0, 0) := by decide +kernel
theorem c_43_30 : pg_cd 43 30 = (43, 3, 43, 3, 0) := by decide +kernel
theorem c_43_33 : pg_cd 43 33 = (50, 1, 0, 0, 0) := by decide +kernel
theorem c_43_34 : pg_cd 43 34 = (46, 3, 25, 6, 0) := by decide +kernel
theorem c_43_37 : pg_cd 43 37 = (94, 0, 0, 0, 0) := by decide +kernel
theorem mx_43 : pg_mx 43 = 2 := by decide +kernel
theorem m_43 {d : Nat} {h : ab_H} {Q : Option Value → ab_H → Prop} {x0 : Nat} {x1 : Int32} (t : wq d 43 0 [.ref x0, .int x1] [] h Q) : wm d 43 [.ref x0, .int x1] h Q := by
  unfold wm
  rw [mx_43]
  exact t
set_option maxRecDepth 20000 in
theorem t_43_0 {d : Nat} {h : ab_H} {Q : Option Value → ab_H → Prop} {x0 : Nat} {x1 : Int32} (t : ab_ok h x0 103 = true ∧ if (ab_i h x0 5) = 0 then (ab_ok h x0 103 = true ∧ ab_ok h x0 103 = true ∧ ∃ j1 : Nat, ab_r h x0 1 = some j1 ∧ ((j1 = 0 ∧ 0 = 0) ∨ ab_ok h j1 0 = true) ∧ if (Int32.ofNat (ab_s h j1).2) ≤ (ab_i h x0 3) then (Q none h) else (ab_ok h x0 103 = true ∧ ∀ h2 : ab_H, h2 = ab_pi h x0 5 x1 → ab_ok h2 x0 103 = true ∧ ∃ j3 : Nat, ab_r h2 x0 1 = some j3 ∧ ab_ok h2 x0 103 = true ∧ ((j3 = 0 ∨ ab_ok h2 j3 0 = true) ∧ ab_in (ab_i h2 x0 3) (ab_s h2 j3).2 = true) ∧ ab_ok h2 x0 103 = true ∧ ∀ h4 : ab_H, h4 = ab_pi h2 x0 6 (ab_i h2 j3 (Int32.toNatClampNeg (ab_i h2 x0 3))) → Q none h4)) else (Q none h)) : wq d 43 0 [.ref x0, .int x1] [] h Q := by
  refine g5 c_43_0 rfl ?_
  obtain ⟨ho, t⟩ := t
  refine g43 c_43_1 ho ?_
  refine gif c_43_4 (gbn t (ab_c1 _ _) rfl (fun hc t => ?_) (fun hc t => ?_))
  · refine g5 c_43_7 rfl ?_
    obtain ⟨ho, t⟩ := t
    refine g43 c_43_8 ho ?_
    refine g5 c_43_11 rfl ?_
    obtain ⟨ho, j1, hr, t⟩ := t
    refine g45 c_43_12 ho hr ?_
    obtain ⟨ho, t⟩ := t
    refine g58 c_43_15 ho ?_
    refine gcm c_43_16 (gbr t rfl rfl (fun hc t => ?_) (fun hc t => ?_))
    · exact g94 c_43_37 t
    · refine g5 c_43_19 rfl ?_
      refine g3 c_43_20 rfl ?_
      obtain ⟨ho, t⟩ := t
      refine g46 c_43_21 ho (fun h2 eh2 => ?_)
      have t := t h2 eh2
      refine g5 c_43_24 rfl ?_
      refine g5 c_43_25 rfl ?_
      obtain ⟨ho, j3, hr, t⟩ := t
      refine g45 c_43_26 ho hr ?_
      refine g5 c_43_29 rfl ?_
      obtain ⟨ho, t⟩ := t
      refine g43 c_43_30 ho ?_
      obtain ⟨ho, t⟩ := t
      refine g50 c_43_33 ho ?_
      obtain ⟨ho, t⟩ := t
      refine g46 c_43_34 ho (fun h4 eh4 => ?_)
      have t := t h4 eh4
      exact g94 c_43_37 t
  · exact g94 c_43_37 t
-- method 44: MillTown$Reader.expect(I)V
theorem c_44_0 : pg_cd 44 0 = (5, 1, 0, 0, 0) := by decide +kernel
theorem c_44_1 : pg_cd 44 1 = (43, 3, 21, 5, 0) := by decide +kernel
theorem c_44_4 : pg_cd 44 4 = (36, 3, 0, 1, 51) := by decide +kernel
theorem c_44_7 : pg_cd 44 7 = (5, 1, 0, 0, 0) := by decide +kernel
theorem c_44_8 : pg_cd 44 8 = (43, 3, 46, 4, 0) := by decide +kernel
theorem c_44_11 : pg_cd 44 11 = (3, 1, 0, 1, 0) := by decide +kernel
theorem c_44_12 : pg_cd 44 12 = (37, 3, 0, 1, 43) := by decide +kernel
theorem c_44_15 : pg_cd 44 15 = (5, 1, 0, 0, 0) := by decide +kernel
theorem c_44_16 : pg_cd 44 16 = (43, 3, 43, 3, 0) := by decide +kernel
theorem c_44_19 : pg_cd 44 19 = (1, 1, 0, 0, 1) := by decide +kernel
theorem c_44_20 : pg_cd 44 20 = (10, 1, 0, 0, 0) := by decide +kernel
theorem c_44_21 : pg_cd 44 21 = (5, 1, 0, 0, 0) := by decide +kernel
theorem c_44_22 : pg_cd 44 22 = (45, 3, 9, 0, 0) := by decide +kernel
theorem c_44_25 : pg_cd 44 25 = (58, 0, 0, 0, 0) := by decide +kernel
theorem c_44_26 : pg_cd 44 26 = (37, 3, 0, 3, 29) := by decide +kernel
theorem c_44_29 : pg_cd 44 29 = (5, 1, 0, 0, 0) := by decide +kernel
theorem c_44_30 : pg_cd 44 30 = (33, 1, 0, 0, 0) := by decide +kernel
theorem c_44_31 : pg_cd 44 31 = (43, 3, 43, 3, 0) := by decide +kernel
theorem c_44_34 : pg_cd 44 34 = (1, 1, 0, 0, 1) := by decide +kernel
theorem c_44_35 : pg_cd 44 35 = (10, 1, 0, 0, 0) := by decide +kernel
theorem c_44_36 : pg_cd 44 36 = (46, 3, 43, 3, 0) := by decide +kernel
theorem c_44_39 : pg_cd 44 39 = (5, 1, 0, 0, 0) := by decide +kernel
theorem c_44_40 : pg_cd 44 40 = (5, 1, 0, 0, 0) := by decide +kernel
theorem c_44_41 : pg_cd 44 41 = (45, 3, 9, 0, 0) := by decide +kernel
theorem c_44_44 : pg_cd 44 44 = (5, 1, 0, 0, 0) := by decide +kernel
theorem c_44_45 : pg_cd 44 45 = (43, 3, 43, 3, 0) := by decide +kernel
theorem c_44_48 : pg_cd 44 48 = (50, 1, 0, 0, 0) := by decide +kernel
theorem c_44_49 : pg_cd 44 49 = (46, 3, 46, 4, 0) := by decide +kernel
theorem c_44_52 : pg_cd 44 52 = (38, 3, 0, 0, 40) := by decide +kernel
theorem c_44_55 : pg_cd 44 55 = (5, 1, 0, 0, 0) := by decide +kernel
theorem c_44_56 : pg_cd 44 56 = (43, 3, 21, 5, 0) := by decide +kernel
theorem c_44_59 : pg_cd 44 59 = (36, 3, 0, 1, 33) := by decide +kernel
theorem c_44_62 : pg_cd 44 62 = (5, 1, 0, 0, 0) := by decide +kernel
theorem c_44_63 : pg_cd 44 63 = (43, 3, 43, 3, 0) := by decide +kernel
theorem c_44_66 : pg_cd 44 66 = (5, 1, 0, 0, 0) := by decide +kernel
theorem c_44_67 : pg_cd 44 67 = (45, 3, 15, 1, 0) := by decide +kernel
theorem c_44_70 : pg_cd 44 70 = (58, 0, 0, 0, 0) := by decide +kernel
theorem c_44_71 : pg_cd 44 71 = (37, 3, 0, 3, 21) := by decide +kernel
theorem c_44_74 : pg_cd 44 74 = (5, 1, 0, 0, 0) := by decide +kernel
theorem c_44_75 : pg_cd 44 75 = (1, 1, 0, 0, 1) := by decide +kernel
theorem c_44_76 : pg_cd 44 76 = (46, 3, 21, 5, 0) := by decide +kernel
theorem c_44_79 : pg_cd 44 79 = (5, 1, 0, 0, 0) := by decide +kernel
theorem c_44_80 : pg_cd 44 80 = (5, 1, 0, 0, 0) := by decide +kernel
theorem c_44_81 : pg_cd 44 81 = (45, 3, 15, 1, 0) := by decide +kernel
theorem c_44_84 : pg_cd 44 84 = (5, 1, 0, 0, 0) := by decide +kernel
theorem c_44_85 : pg_cd 44 85 = (43, 3, 43, 3, 0) := by decide +kernel
theorem c_44_88 : pg_cd 44 88 = (50, 1, 0, 0, 0) := by decide +kernel
theorem c_44_89 : pg_cd 44 89 = (46, 3, 25, 6, 0) := by decide +kernel
theorem c_44_92 : pg_cd 44 92 = (94, 0, 0, 0, 0) := by decide +kernel
theorem mx_44 : pg_mx 44 = 2 := by decide +kernel
theorem m_44 {d : Nat} {h : ab_H} {Q : Option Value → ab_H → Prop} {x0 : Nat} {x1 : Int32} (t : wq d 44 0 [.ref x0, .int x1] [] h Q) : wm d 44 [.ref x0, .int x1] h Q := by
  unfold wm
  rw [mx_44]
  exact t
set_option maxRecDepth 20000 in
theorem t_44_0 {d : Nat} {h : ab_H} {Q : Option Value → ab_H → Prop} {x0 : Nat} {x1 : Int32} (t : ab_ok h x0 103 = true ∧ if (ab_i h x0 5) = 0 then (ab_ok h x0 103 = true ∧ if (ab_i h x0 4) = x1 then (ab_ok h x0 103 = true ∧ ab_ok h x0 103 = true ∧ ∃ j1 : Nat, ab_r h x0 0 = some j1 ∧ ((j1 = 0 ∧ 0 = 0) ∨ ab_ok h j1 0 = true) ∧ if (Int32.ofNat (ab_s h j1).2) ≤ ((ab_i h x0 3) + 1) then (ab_ok h x0 103 = true ∧ if (ab_i h x0 5) = 0 then (ab_ok h x0 103 = true ∧ ab_ok h x0 103 = true ∧ ∃ j2 : Nat, ab_r h x0 1 = some j2 ∧ ((j2 = 0 ∧ 0 = 0) ∨ ab_ok h j2 0 = true) ∧ if (Int32.ofNat (ab_s h j2).2) ≤ (ab_i h x0 3) then (Q none h) else (ab_ok h x0 103 = true ∧ ∀ h3 : ab_H, h3 = ab_pi h x0 5 1 → ab_ok h3 x0 103 = true ∧ ∃ j4 : Nat, ab_r h3 x0 1 = some j4 ∧ ab_ok h3 x0 103 = true ∧ ((j4 = 0 ∨ ab_ok h3 j4 0 = true) ∧ ab_in (ab_i h3 x0 3) (ab_s h3 j4).2 = true) ∧ ab_ok h3 x0 103 = true ∧ ∀ h5 : ab_H, h5 = ab_pi h3 x0 6 (ab_i h3 j4 (Int32.toNatClampNeg (ab_i h3 x0 3))) → Q none h5)) else (Q none h)) else (ab_ok h x0 103 = true ∧ ab_ok h x0 103 = true ∧ ∀ h6 : ab_H, h6 = ab_pi h x0 3 ((ab_i h x0 3) + 1) → ab_ok h6 x0 103 = true ∧ ∃ j7 : Nat, ab_r h6 x0 0 = some j7 ∧ ab_ok h6 x0 103 = true ∧ ((j7 = 0 ∨ ab_ok h6 j7 0 = true) ∧ ab_in (ab_i h6 x0 3) (ab_s h6 j7).2 = true) ∧ ab_ok h6 x0 103 = true ∧ ∀ h8 : ab_H, h8 = ab_pi h6 x0 4 (ab_i h6 j7 (Int32.toNatClampNeg (ab_i h6 x0 3))) → Q none h8)) else (ab_ok h x0 103 = true ∧ if (ab_i h x0 5) = 0 then (ab_ok h x0 103 = true ∧ ab_ok h x0 103 = true ∧ ∃ j9 : Nat, ab_r h x0 1 = some j9 ∧ ((j9 = 0 ∧ 0 = 0) ∨ ab_ok h j9 0 = true) ∧ if (Int32.ofNat (ab_s h j9).2) ≤ (ab_i h x0 3) then (Q none h) else (ab_ok h x0 103 = true ∧ ∀ h10 : ab_H, h10 = ab_pi h x0 5 1 → ab_ok h10 x0 103 = true ∧ ∃ j11 : Nat, ab_r h10 x0 1 = some j11 ∧ ab_ok h10 x0 103 = true ∧ ((j11 = 0 ∨ ab_ok h10 j11 0 = true) ∧ ab_in (ab_i h10 x0 3) (ab_s h10 j11).2 = true) ∧ ab_ok h10 x0 103 = true ∧ ∀ h12 : ab_H, h12 = ab_pi h10 x0 6 (ab_i h10 j11 (Int32.toNatClampNeg (ab_i h10 x0 3))) → Q none h12)) else (Q none h))) else (ab_ok h x0 103 = true ∧ if (ab_i h x0 5) = 0 then (ab_ok h x0 103 = true ∧ ab_ok h x0 103 = true ∧ ∃ j13 : Nat, ab_r h x0 1 = some j13 ∧ ((j13 = 0 ∧ 0 = 0) ∨ ab_ok h j13 0 = true) ∧ if (Int32.ofNat (ab_s h j13).2) ≤ (ab_i h x0 3) then (Q none h) else (ab_ok h x0 103 = true ∧ ∀ h14 : ab_H, h14 = ab_pi h x0 5 1 → ab_ok h14 x0 103 = true ∧ ∃ j15 : Nat, ab_r h14 x0 1 = some j15 ∧ ab_ok h14 x0 103 = true ∧ ((j15 = 0 ∨ ab_ok h14 j15 0 = true) ∧ ab_in (ab_i h14 x0 3) (ab_s h14 j15).2 = true) ∧ ab_ok h14 x0 103 = true ∧ ∀ h16 : ab_H, h16 = ab_pi h14 x0 6 (ab_i h14 j15 (Int32.toNatClampNeg (ab_i h14 x0 3))) → Q none h16)) else (Q none h))) : wq d 44 0 [.ref x0, .int x1] [] h Q := by
  refine g5 c_44_0 rfl ?_
  obtain ⟨ho, t⟩ := t
  refine g43 c_44_1 ho ?_
  refine gif c_44_4 (gbn t (ab_c1 _ _) rfl (fun hc t => ?_) (fun hc t => ?_))
  · refine g5 c_44_7 rfl ?_
    obtain ⟨ho, t⟩ := t
    refine g43 c_44_8 ho ?_
    refine g3 c_44_11 rfl ?_
    refine gcm c_44_12 (gbn t (ab_c1 _ _) rfl (fun hc t => ?_) (fun hc t => ?_))
    · refine g5 c_44_15 rfl ?_
      obtain ⟨ho, t⟩ := t
      refine g43 c_44_16 ho ?_
      refine g1 c_44_19 k_1 ?_
      refine g10 c_44_20 ?_
      refine g5 c_44_21 rfl ?_
      obtain ⟨ho, j1, hr, t⟩ := t
      refine g45 c_44_22 ho hr ?_
      obtain ⟨ho, t⟩ := t
      refine g58 c_44_25 ho ?_
      refine gcm c_44_26 (gbr t rfl rfl (fun hc t => ?_) (fun hc t => ?_))
      · refine g5 c_44_55 rfl ?_
        obtain ⟨ho, t⟩ := t
        refine g43 c_44_56 ho ?_
        refine gif c_44_59 (gbn t (ab_c1 _ _) rfl (fun hc t => ?_) (fun hc t => ?_))
        · refine g5 c_44_62 rfl ?_
          obtain ⟨ho, t⟩ := t
          refine g43 c_44_63 ho ?_
          refine g5 c_44_66 rfl ?_
          obtain ⟨ho, j2, hr, t⟩ := t
          refine g45 c_44_67 ho hr ?_
          obtain ⟨ho, t⟩ := t
          refine g58 c_44_70 ho ?_
          refine gcm c_44_71 (gbr t rfl rfl (fun hc t => ?_) (fun hc t => ?_))
          · exact g94 c_44_92 t
          · refine g5 c_44_74 rfl ?_
            refine g1 c_44_75 k_1 ?_
            obtain ⟨ho, t⟩ := t
            refine g46 c_44_76 ho (fun h3 eh3 => ?_)
            have t := t h3 eh3
            refine g5 c_44_79 rfl ?_
            refine g5 c_44_80 rfl ?_
            obtain ⟨ho, j4, hr, t⟩ := t
            refine g45 c_44_81 ho hr ?_
            refine g5 c_44_84 rfl ?_
            obtain ⟨ho, t⟩ := t
            refine g43 c_44_85 ho ?_
            obtain ⟨ho, t⟩ := t
            refine g50 c_44_88 ho ?_
            obtain ⟨ho, t⟩ := t
            refine g46 c_44_89 ho (fun h5 eh5 => ?_)
            have t := t h5 eh5
            exact g94 c_44_92 t
        · exact g94 c_44_92 t
      · refine g5 c_44_29 rfl ?_
        refine g33a c_44_30 ?_
        obtain ⟨ho, t⟩ := t
        refine g43 c_44_31 ho ?_
        refine g1 c_44_34 k_1 ?_
        refine g10 c_44_35 ?_
        obtain ⟨ho, t⟩ := t
        refine g46 c_44_36 ho (fun h6 eh6 => ?_)
        have t := t h6 eh6
        refine g5 c_44_39 rfl ?_
        refine g5 c_44_40 rfl ?_
        obtain ⟨ho, j7, hr, t⟩ := t
        refine g45 c_44_41 ho hr ?_
        refine g5 c_44_44 rfl ?_
        obtain ⟨ho, t⟩ := t
        refine g43 c_44_45 ho ?_
        obtain ⟨ho, t⟩ := t
        refine g50 c_44_48 ho ?_
        obtain ⟨ho, t⟩ := t
        refine g46 c_44_49 ho (fun h8 eh8 => ?_)
        have t := t h8 eh8
        refine g38 c_44_52 rfl ?_
        exact g94 c_44_92 t
    · refine g5 c_44_55 rfl ?_
      obtain ⟨ho, t⟩ := t
      refine g43 c_44_56 ho ?_
      refine gif c_44_59 (gbn t (ab_c1 _ _) rfl (fun hc t => ?_) (fun hc t => ?_))
      · refine g5 c_44_62 rfl ?_
        obtain ⟨ho, t⟩ := t
        refine g43 c_44_63 ho ?_
        refine g5 c_44_66 rfl ?_
        obtain ⟨ho, j9, hr, t⟩ := t
        refine g45 c_44_67 ho hr ?_
        obtain ⟨ho, t⟩ := t
        refine g58 c_44_70 ho ?_
        refine gcm c_44_71 (gbr t rfl rfl (fun hc t => ?_) (fun hc t => ?_))
        · exact g94 c_44_92 t
        · refine g5 c_44_74 rfl ?_
          refine g1 c_44_75 k_1 ?_
          obtain ⟨ho, t⟩ := t
          refine g46 c_44_76 ho (fun h10 eh10 => ?_)
          have t := t h10 eh10
          refine g5 c_44_79 rfl ?_
          refine g5 c_44_80 rfl ?_
          obtain ⟨ho, j11, hr, t⟩ := t
          refine g45 c_44_81 ho hr ?_
          refine g5 c_44_84 rfl ?_
          obtain ⟨ho, t⟩ := t
          refine g43 c_44_85 ho ?_
          obtain ⟨ho, t⟩ := t
          refine g50 c_44_88 ho ?_
          obtain ⟨ho, t⟩ := t
          refine g46 c_44_89 ho (fun h12 eh12 => ?_)
          have t := t h12 eh12
          exact g94 c_44_92 t
      · exact g94 c_44_92 t
  · refine g5 c_44_55 rfl ?_
    obtain ⟨ho, t⟩ := t
    refine g43 c_44_56 ho ?_
    refine gif c_44_59 (gbn t (ab_c1 _ _) rfl (fun hc t => ?_) (fun hc t => ?_))
    · refine g5 c_44_62 rfl ?_
      obtain ⟨ho, t⟩ := t
      refine g43 c_44_63 ho ?_
      refine g5 c_44_66 rfl ?_
      obtain ⟨ho, j13, hr, t⟩ := t
      refine g45 c_44_67 ho hr ?_
      obtain ⟨ho, t⟩ := t
      refine g58 c_44_70 ho ?_
      refine gcm c_44_71 (gbr t rfl rfl (fun hc t => ?_) (fun hc t => ?_))
      · exact g94 c_44_92 t
      · refine g5 c_44_74 rfl ?_
        refine g1 c_44_75 k_1 ?_
        obtain ⟨ho, t⟩ := t
        refine g46 c_44_76 ho (fun h14 eh14 => ?_)
        have t := t h14 eh14
        refine g5 c_44_79 rfl ?_
        refine g5 c_44_80 rfl ?_
        obtain ⟨ho, j15, hr, t⟩ := t
        refine g45 c_44_81 ho hr ?_
        refine g5 c_44_84 rfl ?_
        obtain ⟨ho, t⟩ := t
        refine g43 c_44_85 ho ?_
        obtain ⟨ho, t⟩ := t
        refine g50 c_44_88 ho ?_
        obtain ⟨ho, t⟩ := t
        refine g46 c_44_89 ho (fun h16 eh16 => ?_)
        have t := t h16 eh16
        exact g94 c_44_92 t
    · exact g94 c_44_92 t
-- method 45: MillTown$Reader.readNumber(II)I
theorem c_45_0 : pg_cd 45 0 = (5, 1, 0, 0, 0) := by decide +kernel
theorem c_45_1 : pg_cd 45 1 = (43, 3, 43, 3, 0) := by decide +kernel
theorem c_45_4 : pg_cd 45 4 = (5, 1, 0, 0, 0) := by decide +kernel
theorem c_45_5 : pg_cd 45 5 = (45, 3, 18, 2, 0) := by decide +kernel
theorem c_45_8 : pg_cd 45 8 = (58, 0, 0, 0, 0) := by decide +kernel
theorem c_45_9 : pg_cd 45 9 = (37, 3, 0, 3, 15) := by decide +kernel
theorem c_45_12 : pg_cd 45 12 = (5, 1, 0, 0, 0) := by decide +kernel
theorem c_45_13 : pg_cd 45 13 = (45, 3, 18, 2, 0) := by decide +kernel
theorem c_45_16 : pg_cd 45 16 = (5, 1, 0, 0, 0) := by decide +kernel
theorem c_45_17 : pg_cd 45 17 = (43, 3, 43, 3, 0) := by decide +kernel
theorem c_45_20 : pg_cd 45 20 = (50, 1, 0, 0, 0) := by decide +kernel
theorem c_45_21 : pg_cd 45 21 = (38, 3, 0, 0, 4) := by decide +kernel
theorem c_45_24 : pg_cd 45 24 = (1, 1, 0, 0, 0) := by decide +kernel
theorem c_45_25 : pg_cd 45 25 = (6, 1, 0, 3, 0) := by decide +kernel
theorem c_45_26 : pg_cd 45 26 = (5, 1, 0, 0, 0) := by decide +kernel
theorem c_45_27 : pg_cd 45 27 = (43, 3, 46, 4, 0) := by decide +kernel
theorem c_45_30 : pg_cd 45 30 = (1, 1, 0, 0, 2) := by decide +kernel
theorem c_45_31 : pg_cd 45 31 = (37, 3, 0, 1, 18) := by decide +kernel
theorem c_45_34 : pg_cd 45 34 = (3, 1, 0, 3, 0) := by decide +kernel
theorem c_45_35 : pg_cd 45 35 = (3, 1, 0, 1, 0) := by decide +kernel
theorem c_45_36 : pg_cd 45 36 = (37, 3, 0, 2, 8) := by decide +kernel
theorem c_45_39 : pg_cd 45 39 = (3, 1, 0, 3, 0) := by decide +kernel
theorem c_45_40 : pg_cd 45 40 = (3, 1, 0, 2, 0) := by decide +kernel
theorem c_45_41 : pg_cd 45 41 = (37, 3, 0, 5, 8) := by decide +kernel
theorem c_45_44 : pg_cd 45 44 = (5, 1, 0, 0, 0) := by decide +kernel
theorem c_45_45 : pg_cd 45 45 = (1, 1, 0, 0, 2) := by decide +kernel
theorem c_45_46 : pg_cd 45 46 = (80, 43, 49, 0, 0) := by decide +kernel
theorem c_45_49 : pg_cd 45 49 = (5, 1, 0, 0, 0) := by decide +kernel
theorem c_45_50 : pg_cd 45 50 = (1, 1, 0, 0, 2) := by decide +kernel
theorem c_45_51 : pg_cd 45 51 = (80, 44, 101, 0, 0) := by decide +kernel
theorem c_45_54 : pg_cd 45 54 = (3, 1, 0, 3, 0) := by decide +kernel
theorem c_45_55 : pg_cd 45 55 = (90, 0, 0, 0, 0) := by decide +kernel
theorem mx_45 : pg_mx 45 = 4 := by decide +kernel
theorem m_45 {d : Nat} {h : ab_H} {Q : Option Value → ab_H → Prop} {x0 : Nat} {x1 : Int32} {x2 : Int32} (t : wq d 45 0 [.ref x0, .int x1, .int x2, .retAddr 0] [] h Q) : wm d 45 [.ref x0, .int x1, .int x2] h Q := by
  unfold wm
  rw [mx_45]
  exact t
set_option maxRecDepth 20000 in
theorem t_45_0 {d : Nat} {h : ab_H} {Q : Option Value → ab_H → Prop} {x0 : Nat} {x1 : Int32} {x2 : Int32} (t : ab_ok h x0 103 = true ∧ ab_ok h x0 103 = true ∧ ∃ j1 : Nat, ab_r h x0 2 = some j1 ∧ ((j1 = 0 ∧ 0 = 0) ∨ ab_ok h j1 0 = true) ∧ if (Int32.ofNat (ab_s h j1).2) ≤ (ab_i h x0 3) then (ab_ok h x0 103 = true ∧ if (ab_i h x0 4) = 2 then (if (0 : Int32) < x1 then (ab_ok h x0 103 = true ∧ wm d 43 [.ref x0, .int 2] h (fun r9 h9 => wq (d + 1) 45 49 [.ref x0, .int x1, .int x2, .int 0] (r9.toList ++ []) h9 Q)) else (if (0 : Int32) ≤ x2 then (ab_ok h x0 103 = true ∧ wm d 44 [.ref x0, .int 2] h (fun r9 h9 => wq (d + 1) 45 54 [.ref x0, .int x1, .int x2, .int 0] (r9.toList ++ []) h9 Q)) else (ab_ok h x0 103 = true ∧ wm d 43 [.ref x0, .int 2] h (fun r9 h9 => wq (d + 1) 45 49 [.ref x0, .int x1, .int x2, .int 0] (r9.toList ++ []) h9 Q)))) else (ab_ok h x0 103 = true ∧ wm d 44 [.ref x0, .int 2] h (fun r9 h9 => wq (d + 1) 45 54 [.ref x0, .int x1, .int x2, .int 0] (r9.toList ++ []) h9 Q))) else (ab_ok h x0 103 = true ∧ ∃ j2 : Nat, ab_r h x0 2 = some j2 ∧ ab_ok h x0 103 = true ∧ ((j2 = 0 ∨ ab_ok h j2 0 = true) ∧ ab_in (ab_i h x0 3) (ab_s h j2).2 = true) ∧ ∀ y3 : Int32, y3 = (ab_i h j2 (Int32.toNatClampNeg (ab_i h x0 3))) → ab_ok h x0 103 = true ∧ if (ab_i h x0 4) = 2 then (if y3 < x1 then (ab_ok h x0 103 = true ∧ wm d 43 [.ref x0, .int 2] h (fun r9 h9 => wq (d + 1) 45 49 [.ref x0, .int x1, .int x2, .int y3] (r9.toList ++ []) h9 Q)) else (if y3 ≤ x2 then (ab_ok h x0 103 = true ∧ wm d 44 [.ref x0, .int 2] h (fun r9 h9 => wq (d + 1) 45 54 [.ref x0, .int x1, .int x2, .int y3] (r9.toList ++ []) h9 Q)) else (ab_ok h x0 103 = true ∧ wm d 43 [.ref x0, .int 2] h (fun r9 h9 => wq (d + 1) 45 49 [.ref x0, .int x1, .int x2, .int y3] (r9.toList ++ []) h9 Q)))) else (ab_ok h x0 103 = true ∧ wm d 44 [.ref x0, .int 2] h (fun r9 h9 => wq (d + 1) 45 54 [.ref x0, .int x1, .int x2, .int y3] (r9.toList ++ []) h9 Q)))) : wq (d + 1) 45 0 [.ref x0, .int x1, .int x2, .retAddr 0] [] h Q := by
  refine g5 c_45_0 rfl ?_
  obtain ⟨ho, t⟩ := t
  refine g43 c_45_1 ho ?_
  refine g5 c_45_4 rfl ?_
  obtain ⟨ho, j1, hr, t⟩ := t
  refine g45 c_45_5 ho hr ?_
  obtain ⟨ho, t⟩ := t
  refine g58 c_45_8 ho ?_
  refine gcm c_45_9 (gbr t rfl rfl (fun hc t => ?_) (fun hc t => ?_))
  · refine g1 c_45_24 k_0 ?_
    refine g6 (L' := [.ref x0, .int x1, .int x2, .int 0]) c_45_25 rfl ?_
    refine g5 c_45_26 rfl ?_
    obtain ⟨ho, t⟩ := t
    refine g43 c_45_27 ho ?_
    refine g1 c_45_30 k_2 ?_
    refine gcm c_45_31 (gbn t (ab_c1 _ _) rfl (fun hc t => ?_) (fun hc t => ?_))
    · refine g3 c_45_34 rfl ?_
      refine g3 c_45_35 rfl ?_
      refine gcm c_45_36 (gbr t rfl rfl (fun hc t => ?_) (fun hc t => ?_))
      · refine g5 c_45_44 rfl ?_
        refine g1 c_45_45 k_2 ?_
        exact g80 (As := [.int 2]) (rest := []) c_45_46 rfl rfl (Nat.le_of_ble_eq_true rfl) (Nat.le_of_ble_eq_true rfl) t.1 t.2
      · refine g3 c_45_39 rfl ?_
        refine g3 c_45_40 rfl ?_
        refine gcm c_45_41 (gbr t rfl rfl (fun hc t => ?_) (fun hc t => ?_))
        · refine g5 c_45_49 rfl ?_
          refine g1 c_45_50 k_2 ?_
          exact g80 (As := [.int 2]) (rest := []) c_45_51 rfl rfl (Nat.le_of_ble_eq_true rfl) (Nat.le_of_ble_eq_true rfl) t.1 t.2
        · refine g5 c_45_44 rfl ?_
          refine g1 c_45_45 k_2 ?_
          exact g80 (As := [.int 2]) (rest := []) c_45_46 rfl rfl (Nat.le_of_ble_eq_true rfl) (Nat.le_of_ble_eq_true rfl) t.1 t.2
    · refine g5 c_45_49 rfl ?_
      refine g1 c_45_50 k_2 ?_
      exact g80 (As := [.int 2]) (rest := []) c_45_51 rfl rfl (Nat.le_of_ble_eq_true rfl) (Nat.le_of_ble_eq_true rfl) t.1 t.2
  · refine g5 c_45_12 rfl ?_
    obtain ⟨ho, j2, hr, t⟩ := t
    refine g45 c_45_13 ho hr ?_
    refine g5 c_45_16 rfl ?_
    obtain ⟨ho, t⟩ := t
    refine g43 c_45_17 ho ?_
    obtain ⟨ho, t⟩ := t
    refine g50 c_45_20 ho ?_
    refine g38 c_45_21 rfl ?_
    refine g6y (Lf := fun y3 => [.ref x0, .int x1, .int x2, .int y3]) c_45_25 (fun _ => rfl) (fun y3 ey3 => ?_)
    have t := t y3 ey3
    refine g5 c_45_26 rfl ?_
    obtain ⟨ho, t⟩ := t
    refine g43 c_45_27 ho ?_
    refine g1 c_45_30 k_2 ?_
    refine gcm c_45_31 (gbn t (ab_c1 _ _) rfl (fun hc t => ?_) (fun hc t => ?_))
    · refine g3 c_45_34 rfl ?_
      refine g3 c_45_35 rfl ?_
      refine gcm c_45_36 (gbr t rfl rfl (fun hc t => ?_) (fun hc t => ?_))
      · refine g5 c_45_44 rfl ?_
        refine g1 c_45_45 k_2 ?_
        exact g80 (As := [.int 2]) (rest := []) c_45_46 rfl rfl (Nat.le_of_ble_eq_true rfl) (Nat.le_of_ble_eq_true rfl) t.1 t.2
      · refine g3 c_45_39 rfl ?_
        refine g3 c_45_40 rfl ?_
        refine gcm c_45_41 (gbr t rfl rfl (fun hc t => ?_) (fun hc t => ?_))
        · refine g5 c_45_49 rfl ?_
          refine g1 c_45_50 k_2 ?_
          exact g80 (As := [.int 2]) (rest := []) c_45_51 rfl rfl (Nat.le_of_ble_eq_true rfl) (Nat.le_of_ble_eq_true rfl) t.1 t.2
        · refine g5 c_45_44 rfl ?_
          refine g1 c_45_45 k_2 ?_
          exact g80 (As := [.int 2]) (rest := []) c_45_46 rfl rfl (Nat.le_of_ble_eq_true rfl) (Nat.le_of_ble_eq_true rfl) t.1 t.2
    · refine g5 c_45_49 rfl ?_
      refine g1 c_45_50 k_2 ?_
      exact g80 (As := [.int 2]) (rest := []) c_45_51 rfl rfl (Nat.le_of_ble_eq_true rfl) (Nat.le_of_ble_eq_true rfl) t.1 t.2
set_option maxRecDepth 20000 in
theorem t_45_49 {d : Nat} {h : ab_H} {Q : Option Value → ab_H → Prop} {x0 : Nat} {x1 : Int32} {x2 : Int32} {x3 : Int32} (t : ab_ok h x0 103 = true ∧ wm d 44 [.ref x0, .int 2] h (fun r9 h9 => wq (d + 1) 45 54 [.ref x0, .int x1, .int x2, .int x3] (r9.toList ++ []) h9 Q)) : wq (d + 1) 45 49 [.ref x0, .int x1, .int x2, .int x3] [] h Q := by
  refine g5 c_45_49 rfl ?_
  refine g1 c_45_50 k_2 ?_
  exact g80 (As := [.int 2]) (rest := []) c_45_51 rfl rfl (Nat.le_of_ble_eq_true rfl) (Nat.le_of_ble_eq_true rfl) t.1 t.2
set_option maxRecDepth 20000 in
theorem t_45_54 {d : Nat} {h : ab_H} {Q : Option Value → ab_H → Prop} {x0 : Nat} {x1 : Int32} {x2 : Int32} {x3 : Int32} (t : Q (some (.int x3)) h) : wq d 45 54 [.ref x0, .int x1, .int x2, .int x3] [] h Q := by
  refine g3 c_45_54 rfl ?_
  exact g90 c_45_55 t
-- method 46: MillTown$Reader.readRule(LMillTown$Text;)V
theorem c_46_0 : pg_cd 46 0 = (5, 1, 0, 0, 0) := by decide +kernel
theorem c_46_1 : pg_cd 46 1 = (43, 3, 46, 4, 0) := by decide +kernel
theorem c_46_4 : pg_cd 46 4 = (6, 1, 0, 2, 0) := by decide +kernel
theorem c_46_5 : pg_cd 46 5 = (5, 1, 0, 1, 0) := by decide +kernel
theorem c_46_6 : pg_cd 46 6 = (3, 1, 0, 2, 0) := by decide +kernel
theorem c_46_7 : pg_cd 46 7 = (80, 82, 104, 0, 0) := by decide +kernel
theorem c_46_10 : pg_cd 46 10 = (6, 1, 0, 3, 0) := by decide +kernel
theorem c_46_11 : pg_cd 46 11 = (5, 1, 0, 0, 0) := by decide +kernel
theorem c_46_12 : pg_cd 46 12 = (3, 1, 0, 2, 0) := by decide +kernel
theorem c_46_13 : pg_cd 46 13 = (80, 44, 101, 0, 0) := by decide +kernel
theorem c_46_16 : pg_cd 46 16 = (3, 1, 0, 2, 0) := by decide +kernel
theorem c_46_17 : pg_cd 46 17 = (1, 2, 0, 0, 7) := by decide +kernel
theorem c_46_19 : pg_cd 46 19 = (37, 3, 0, 1, 75) := by decide +kernel
theorem c_46_22 : pg_cd 46 22 = (5, 1, 0, 0, 0) := by decide +kernel
theorem c_46_23 : pg_cd 46 23 = (1, 1, 0, 0, 0) := by decide +kernel
theorem c_46_24 : pg_cd 46 24 = (1, 2, 0, 0, 99) := by decide +kernel
theorem c_46_26 : pg_cd 46 26 = (80, 45, 108, 0, 0) := by decide +kernel
theorem c_46_29 : pg_cd 46 29 = (6, 2, 0, 4, 0) := by decide +kernel
theorem c_46_31 : pg_cd 46 31 = (5, 1, 0, 0, 0) := by decide +kernel
theorem c_46_32 : pg_cd 46 32 = (1, 2, 0, 0, 12) := by decide +kernel
theorem c_46_34 : pg_cd 46 34 = (80, 44, 101, 0, 0) := by decide +kernel
theorem c_46_37 : pg_cd 46 37 = (5, 1, 0, 0, 0) := by decide +kernel
theorem c_46_38 : pg_cd 46 38 = (3, 2, 0, 4, 0) := by decide +kernel
theorem c_46_40 : pg_cd 46 40 = (1, 2, 0, 0, 99) := by decide +kernel
theorem c_46_42 : pg_cd 46 42 = (80, 45, 108, 0, 0) := by decide +kernel
theorem c_46_45 : pg_cd 46 45 = (6, 2, 0, 5, 0) := by decide +kernel
theorem c_46_47 : pg_cd 46 47 = (5, 1, 0, 0, 0) := by decide +kernel
theorem c_46_48 : pg_cd 46 48 = (1, 2, 0, 0, 13) := by decide +kernel
theorem c_46_50 : pg_cd 46 50 = (80, 44, 101, 0, 0) := by decide +kernel
theorem c_46_53 : pg_cd 46 53 = (5, 1, 0, 1, 0) := by decide +kernel
theorem c_46_54 : pg_cd 46 54 = (45, 7, 53, 0, 0) := by decide +kernel
theorem c_46_57 : pg_cd 46 57 = (3, 1, 0, 3, 0) := by decide +kernel
theorem c_46_58 : pg_cd 46 58 = (1, 1, 0, 0, 1) := by decide +kernel
theorem c_46_59 : pg_cd 46 59 = (3, 2, 0, 4, 0) := by decide +kernel
theorem c_46_61 : pg_cd 46 61 = (80, 56, 111, 0, 0) := by decide +kernel
theorem c_46_64 : pg_cd 46 64 = (5, 1, 0, 1, 0) := by decide +kernel
theorem c_46_65 : pg_cd 46 65 = (45, 7, 53, 0, 0) := by decide +kernel
theorem c_46_68 : pg_cd 46 68 = (3, 1, 0, 3, 0) := by decide +kernel
theorem c_46_69 : pg_cd 46 69 = (1, 1, 0, 0, 2) := by decide +kernel
theorem c_46_70 : pg_cd 46 70 = (3, 2, 0, 5, 0) := by decide +kernel
theorem c_46_72 : pg_cd 46 72 = (80, 56, 111, 0, 0) := by decide +kernel
theorem c_46_75 : pg_cd 46 75 = (5, 1, 0, 1, 0) := by decide +kernel
theorem c_46_76 : pg_cd 46 76 = (45, 7, 53, 0, 0) := by decide +kernel
theorem c_46_79 : pg_cd 46 79 = (3, 1, 0, 3, 0) := by decide +kernel
theorem c_46_80 : pg_cd 46 80 = (1, 1, 0, 0, 3) := by decide +kernel
theorem c_46_81 : pg_cd 46 81 = (5, 1, 0, 0, 0) := by decide +kernel
theorem c_46_82 : pg_cd 46 82 = (1, 1, 0, 0, 0) := by decide +kernel
theorem c_46_83 : pg_cd 46 83 = (1, 2, 0, 0, 80) := by decide +kernel
theorem c_46_85 : pg_cd 46 85 = (80, 45, 108, 0, 0) := by decide +kernel
theorem c_46_88 : pg_cd 46 88 = (80, 56, 111, 0, 0) := by decide +kernel
theorem c_46_91 : pg_cd 46 91 = (38, 3, 0, 0, 31) := by decide +kernel
theorem c_46_94 : pg_cd 46 94 = (5, 1, 0, 1, 0) := by decide +kernel
theorem c_46_95 : pg_cd 46 95 = (45, 7, 53, 0, 0) := by decide +kernel
theorem c_46_98 : pg_cd 46 98 = (3, 1, 0, 3, 0) := by decide +kernel
theorem c_46_99 : pg_cd 46 99 = (1, 1, 0, 0, 1) := by decide +kernel
theorem c_46_100 : pg_cd 46 100 = (5, 1, 0, 0, 0) := by decide +kernel
theorem c_46_101 : pg_cd 46 101 = (1, 1, 0, 0, 0) := by decide +kernel
theorem c_46_102 : pg_cd 46 102 = (3, 1, 0, 2, 0) := by decide +kernel
theorem c_46_103 : pg_cd 46 103 = (1, 2, 0, 0, 6) := by decide +kernel
theorem c_46_105 : pg_cd 46 105 = (37, 3, 0, 1, 9) := by decide +kernel
theorem c_46_108 : pg_cd 46 108 = (1, 3, 0, 0, 9999) := by decide +kernel
theorem c_46_111 : pg_cd 46 111 = (38, 3, 0, 0, 5) := by decide +kernel
theorem c_46_114 : pg_cd 46 114 = (1, 2, 0, 0, 20) := by decide +kernel
theorem c_46_116 : pg_cd 46 116 = (80, 45, 108, 0, 0) := by decide +kernel
theorem c_46_119 : pg_cd 46 119 = (80, 56, 111, 0, 0) := by decide +kernel
theorem c_46_122 : pg_cd 46 122 = (5, 1, 0, 0, 0) := by decide +kernel
theorem c_46_123 : pg_cd 46 123 = (1, 2, 0, 0, 36) := by decide +kernel
theorem c_46_125 : pg_cd 46 125 = (80, 44, 101, 0, 0) := by decide +kernel
theorem c_46_128 : pg_cd 46 128 = (94, 0, 0, 0, 0) := by decide +kernel
theorem mx_46 : pg_mx 46 = 6 := by decide +kernel
theorem m_46 {d : Nat} {h : ab_H} {Q : Option Value → ab_H → Prop} {x0 : Nat} {x1 : Nat} (t : wq d 46 0 [.ref x0, .ref x1, .retAddr 0, .retAddr 0, .retAddr 0, .retAddr 0] [] h Q) : wm d 46 [.ref x0, .ref x1] h Q := by
  unfold wm
  rw [mx_46]
  exact t
set_option maxRecDepth 20000 in
theorem t_46_0 {d : Nat} {h : ab_H} {Q : Option Value → ab_H → Prop} {x0 : Nat} {x1 : Nat} (t : ab_ok h x0 103 = true ∧ ab_ok h x1 107 = true ∧ wm d 82 [.ref x1, .int (ab_i h x0 4)] h (fun r9 h9 => wq (d + 1) 46 10 [.ref x0, .ref x1, .int (ab_i h x0 4), .retAddr 0, .retAddr 0, .retAddr 0] (r9.toList ++ []) h9 Q)) : wq (d + 1) 46 0 [.ref x0, .ref x1, .retAddr 0, .retAddr 0, .retAddr 0, .retAddr 0] [] h Q := by
  refine g5 c_46_0 rfl ?_
  obtain ⟨ho, t⟩ := t
  refine g43 c_46_1 ho ?_
  refine g6 (L' := [.ref x0, .ref x1, .int (ab_i h x0 4), .retAddr 0, .retAddr 0, .retAddr 0]) c_46_4 rfl ?_
  refine g5 c_46_5 rfl ?_
  refine g3 c_46_6 rfl ?_
  exact g80 (As := [.int (ab_i h x0 4)]) (rest := []) c_46_7 rfl rfl (Nat.le_of_ble_eq_true rfl) (Nat.le_of_ble_eq_true rfl) t.1 t.2
set_option maxRecDepth 20000 in
theorem t_46_10 {d : Nat} {h : ab_H} {Q : Option Value → ab_H → Prop} {x0 : Nat} {x1 : Nat} {x2 : Int32} {s0 : Int32} (t : ab_ok h x0 103 = true ∧ wm d 44 [.ref x0, .int x2] h (fun r9 h9 => wq (d + 1) 46 16 [.ref x0, .ref x1, .int x2, .int s0, .retAddr 0, .retAddr 0] (r9.toList ++ []) h9 Q)) : wq (d + 1) 46 10 [.ref x0, .ref x1, .int x2, .retAddr 0, .retAddr 0, .retAddr 0] [.int s0] h Q := by
  refine g6 (L' := [.ref x0, .ref x1, .int x2, .int s0, .retAddr 0, .retAddr 0]) c_46_10 rfl ?_
  refine g5 c_46_11 rfl ?_
  refine g3 c_46_12 rfl ?_
  exact g80 (As := [.int x2]) (rest := []) c_46_13 rfl rfl (Nat.le_of_ble_eq_true rfl) (Nat.le_of_ble_eq_true rfl) t.1 t.2
set_option maxRecDepth 20000 in
theorem t_46_16 {d : Nat} {h : ab_H} {Q : Option Value → ab_H → Prop} {x0 : Nat} {x1 : Nat} {x2 : Int32} {x3 : Int32} (t : if x2 = 7 then (ab_ok h x0 103 = true ∧ wm d 45 [.ref x0, .int 0, .int 99] h (fun r9 h9 => wq (d + 1) 46 29 [.ref x0, .ref x1, .int x2, .int x3, .retAddr 0, .retAddr 0] (r9.toList ++ []) h9 Q)) else (ab_ok h x1 107 = true ∧ ∃ j1 : Nat, ab_r h x1 0 = some j1 ∧ if x2 = 6 then (ab_ok h x0 103 = true ∧ wm d 45 [.ref x0, .int 0, .int 9999] h (fun r9 h9 => wq (d + 1) 46 119 [.ref x0, .ref x1, .int x2, .int x3, .retAddr 0, .retAddr 0] (r9.toList ++ [.int 1, .int x3, .ref j1]) h9 Q)) else (ab_ok h x0 103 = true ∧ wm d 45 [.ref x0, .int 0, .int 20] h (fun r9 h9 => wq (d + 1) 46 119 [.ref x0, .ref x1, .int x2, .int x3, .retAddr 0, .retAddr 0] (r9.toList ++ [.int 1, .int x3, .ref j1]) h9 Q)))) : wq (d + 1) 46 16 [.ref x0, .ref x1, .int x2, .int x3, .retAddr 0, .retAddr 0] [] h Q := by
  refine g3 c_46_16 rfl ?_
  refine g1 c_46_17 k_7 ?_
  refine gcm c_46_19 (gbn t (ab_c1 _ _) rfl (fun hc t => ?_) (fun hc t => ?_))
  · refine g5 c_46_22 rfl ?_
    refine g1 c_46_23 k_0 ?_
    refine g1 c_46_24 k_99 ?_
    exact g80 (As := [.int 0, .int 99]) (rest := []) c_46_26 rfl rfl (Nat.le_of_ble_eq_true rfl) (Nat.le_of_ble_eq_true rfl) t.1 t.2
  · refine g5 c_46_94 rfl ?_
    obtain ⟨ho, j1, hr, t⟩ := t
    refine g45 c_46_95 ho hr ?_
    refine g3 c_46_98 rfl ?_
    refine g1 c_46_99 k_1 ?_
    refine g5 c_46_100 rfl ?_
    refine g1 c_46_101 k_0 ?_
    refine g3 c_46_102 rfl ?_
    refine g1 c_46_103 k_6 ?_
    refine gcm c_46_105 (gbn t (ab_c1 _ _) rfl (fun hc t => ?_) (fun hc t => ?_))
    · refine g1 c_46_108 k_9999 ?_
      refine g38 c_46_111 rfl ?_
      exact g80 (As := [.int 0, .int 9999]) (rest := [.int 1, .int x3, .ref j1]) c_46_116 rfl rfl (Nat.le_of_ble_eq_true rfl) (Nat.le_of_ble_eq_true rfl) t.1 t.2
    · refine g1 c_46_114 k_20 ?_
      exact g80 (As := [.int 0, .int 20]) (rest := [.int 1, .int x3, .ref j1]) c_46_116 rfl rfl (Nat.le_of_ble_eq_true rfl) (Nat.le_of_ble_eq_true rfl) t.1 t.2
set_option maxRecDepth 20000 in
theorem t_46_29 {d : Nat} {h : ab_H} {Q : Option Value → ab_H → Prop} {x0 : Nat} {x1 : Nat} {x2 : Int32} {x3 : Int32} {s0 : Int32} (t : ab_ok h x0 103 = true ∧ wm d 44 [.ref x0, .int 12] h (fun r9 h9 => wq (d + 1) 46 37 [.ref x0, .ref x1, .int x2, .int x3, .int s0, .retAddr 0] (r9.toList ++ []) h9 Q)) : wq (d + 1) 46 29 [.ref x0, .ref x1, .int x2, .int x3, .retAddr 0, .retAddr 0] [.int s0] h Q := by
  refine g6 (L' := [.ref x0, .ref x1, .int x2, .int x3, .int s0, .retAddr 0]) c_46_29 rfl ?_
  refine g5 c_46_31 rfl ?_
  refine g1 c_46_32 k_12 ?_
  exact g80 (As := [.int 12]) (rest := []) c_46_34 rfl rfl (Nat.le_of_ble_eq_true rfl) (Nat.le_of_ble_eq_true rfl) t.1 t.2
set_option maxRecDepth 20000 in
theorem t_46_37 {d : Nat} {h : ab_H} {Q : Option Value → ab_H → Prop} {x0 : Nat} {x1 : Nat} {x2 : Int32} {x3 : Int32} {x4 : Int32} (t : ab_ok h x0 103 = true ∧ wm d 45 [.ref x0, .int x4, .int 99] h (fun r9 h9 => wq (d + 1) 46 45 [.ref x0, .ref x1, .int x2, .int x3, .int x4, .retAddr 0] (r9.toList ++ []) h9 Q)) : wq (d + 1) 46 37 [.ref x0, .ref x1, .int x2, .int x3, .int x4, .retAddr 0] [] h Q := by
  refine g5 c_46_37 rfl ?_
  refine g3 c_46_38 rfl ?_
  refine g1 c_46_40 k_99 ?_
  exact g80 (As := [.int x4, .int 99]) (rest := []) c_46_42 rfl rfl (Nat.le_of_ble_eq_true rfl) (Nat.le_of_ble_eq_true rfl) t.1 t.2
set_option maxRecDepth 20000 in
theorem t_46_45 {d : Nat} {h : ab_H} {Q : Option Value → ab_H → Prop} {x0 : Nat} {x1 : Nat} {x2 : Int32} {x3 : Int32} {x4 : Int32} {s0 : Int32} (t : ab_ok h x0 103 = true ∧ wm d 44 [.ref x0, .int 13] h (fun r9 h9 => wq (d + 1) 46 53 [.ref x0, .ref x1, .int x2, .int x3, .int x4, .int s0] (r9.toList ++ []) h9 Q)) : wq (d + 1) 46 45 [.ref x0, .ref x1, .int x2, .int x3, .int x4, .retAddr 0] [.int s0] h Q := by
  refine g6 (L' := [.ref x0, .ref x1, .int x2, .int x3, .int x4, .int s0]) c_46_45 rfl ?_
  refine g5 c_46_47 rfl ?_
  refine g1 c_46_48 k_13 ?_
  exact g80 (As := [.int 13]) (rest := []) c_46_50 rfl rfl (Nat.le_of_ble_eq_true rfl) (Nat.le_of_ble_eq_true rfl) t.1 t.2
set_option maxRecDepth 20000 in
theorem t_46_53 {d : Nat} {h : ab_H} {Q : Option Value → ab_H → Prop} {x0 : Nat} {x1 : Nat} {x2 : Int32} {x3 : Int32} {x4 : Int32} {x5 : Int32} (t : ab_ok h x1 107 = true ∧ ∃ j1 : Nat, ab_r h x1 0 = some j1 ∧ ab_ok h j1 104 = true ∧ wm d 56 [.ref j1, .int x3, .int 1, .int x4] h (fun r9 h9 => wq (d + 1) 46 64 [.ref x0, .ref x1, .int x2, .int x3, .int x4, .int x5] (r9.toList ++ []) h9 Q)) : wq (d + 1) 46 53 [.ref x0, .ref x1, .int x2, .int x3, .int x4, .int x5] [] h Q := by
  refine g5 c_46_53 rfl ?_
  obtain ⟨ho, j1, hr, t⟩ := t
  refine g45 c_46_54 ho hr ?_
  refine g3 c_46_57 rfl ?_
  refine g1 c_46_58 k_1 ?_
  refine g3 c_46_59 rfl ?_
  exact g80 (As := [.int x3, .int 1, .int x4]) (rest := []) c_46_61 rfl rfl (Nat.le_of_ble_eq_true rfl) (Nat.le_of_ble_eq_true rfl) t.1 t.2
set_option maxRecDepth 20000 in
theorem t_46_64 {d : Nat} {h : ab_H} {Q : Option Value → ab_H → Prop} {x0 : Nat} {x1 : Nat} {x2 : Int32} {x3 : Int32} {x4 : Int32} {x5 : Int32} (t : ab_ok h x1 107 = true ∧ ∃ j1 : Nat, ab_r h x1 0 = some j1 ∧ ab_ok h j1 104 = true ∧ wm d 56 [.ref j1, .int x3, .int 2, .int x5] h (fun r9 h9 => wq (d + 1) 46 75 [.ref x0, .ref x1, .int x2, .int x3, .int x4, .int x5] (r9.toList ++ []) h9 Q)) : wq (d + 1) 46 64 [.ref x0, .ref x1, .int x2, .int x3, .int x4, .int x5] [] h Q := by
  refine g5 c_46_64 rfl ?_
  obtain ⟨ho, j1, hr, t⟩ := t
  refine g45 c_46_65 ho hr ?_
  refine g3 c_46_68 rfl ?_
  refine g1 c_46_69 k_2 ?_
  refine g3 c_46_70 rfl ?_
  exact g80 (As := [.int x3, .int 2, .int x5]) (rest := []) c_46_72 rfl rfl (Nat.le_of_ble_eq_true rfl) (Nat.le_of_ble_eq_true rfl) t.1 t.2
set_option maxRecDepth 20000 in
theorem t_46_75 {d : Nat} {h : ab_H} {Q : Option Value → ab_H → Prop} {x0 : Nat} {x1 : Nat} {x2 : Int32} {x3 : Int32} {x4 : Int32} {x5 : Int32} (t : ab_ok h x1 107 = true ∧ ∃ j1 : Nat, ab_r h x1 0 = some j1 ∧ ab_ok h x0 103 = true ∧ wm d 45 [.ref x0, .int 0, .int 80] h (fun r9 h9 => wq (d + 1) 46 88 [.ref x0, .ref x1, .int x2, .int x3, .int x4, .int x5] (r9.toList ++ [.int 3, .int x3, .ref j1]) h9 Q)) : wq (d + 1) 46 75 [.ref x0, .ref x1, .int x2, .int x3, .int x4, .int x5] [] h Q := by
  refine g5 c_46_75 rfl ?_
  obtain ⟨ho, j1, hr, t⟩ := t
  refine g45 c_46_76 ho hr ?_
  refine g3 c_46_79 rfl ?_
  refine g1 c_46_80 k_3 ?_
  refine g5 c_46_81 rfl ?_
  refine g1 c_46_82 k_0 ?_
  refine g1 c_46_83 k_80 ?_
  exact g80 (As := [.int 0, .int 80]) (rest := [.int 3, .int x3, .ref j1]) c_46_85 rfl rfl (Nat.le_of_ble_eq_true rfl) (Nat.le_of_ble_eq_true rfl) t.1 t.2
set_option maxRecDepth 20000 in
theorem t_46_88 {d : Nat} {h : ab_H} {Q : Option Value → ab_H → Prop} {x0 : Nat} {x1 : Nat} {x2 : Int32} {x3 : Int32} {x4 : Int32} {x5 : Int32} {s0 : Nat} {s1 : Int32} {s2 : Int32} {s3 : Int32} (t : ab_ok h s0 104 = true ∧ wm d 56 [.ref s0, .int s1, .int s2, .int s3] h (fun r9 h9 => wq (d + 1) 46 91 [.ref x0, .ref x1, .int x2, .int x3, .int x4, .int x5] (r9.toList ++ []) h9 Q)) : wq (d + 1) 46 88 [.ref x0, .ref x1, .int x2, .int x3, .int x4, .int x5] [.int s3, .int s2, .int s1, .ref s0] h Q := by
  exact g80 (As := [.int s1, .int s2, .int s3]) (rest := []) c_46_88 rfl rfl (Nat.le_of_ble_eq_true rfl) (Nat.le_of_ble_eq_true rfl) t.1 t.2
set_option maxRecDepth 20000 in
theorem t_46_91 {d : Nat} {h : ab_H} {Q : Option Value → ab_H → Prop} {x0 : Nat} {x1 : Nat} {x2 : Int32} {x3 : Int32} {x4 : Int32} {x5 : Int32} (t : ab_ok h x0 103 = true ∧ wm d 44 [.ref x0, .int 36] h (fun r9 h9 => wq (d + 1) 46 128 [.ref x0, .ref x1, .int x2, .int x3, .int x4, .int x5] (r9.toList ++ []) h9 Q)) : wq (d + 1) 46 91 [.ref x0, .ref x1, .int x2, .int x3, .int x4, .int x5] [] h Q := by
  refine g38 c_46_91 rfl ?_
  refine g5 c_46_122 rfl ?_
  refine g1 c_46_123 k_36 ?_
  exact g80 (As := [.int 36]) (rest := []) c_46_125 rfl rfl (Nat.le_of_ble_eq_true rfl) (Nat.le_of_ble_eq_true rfl) t.1 t.2
set_option maxRecDepth 20000 in
theorem t_46_119 {d : Nat} {h : ab_H} {Q : Option Value → ab_H → Prop} {x0 : Nat} {x1 : Nat} {x2 : Int32} {x3 : Int32} {s0 : Nat} {s1 : Int32} {s2 : Int32} {s3 : Int32} (t : ab_ok h s0 104 = true ∧ wm d 56 [.ref s0, .int s1, .int s2, .int s3] h (fun r9 h9 => wq (d + 1) 46 122 [.ref x0, .ref x1, .int x2, .int x3, .retAddr 0, .retAddr 0] (r9.toList ++ []) h9 Q)) : wq (d + 1) 46 119 [.ref x0, .ref x1, .int x2, .int x3, .retAddr 0, .retAddr 0] [.int s3, .int s2, .int s1, .ref s0] h Q := by
  exact g80 (As := [.int s1, .int s2, .int s3]) (rest := []) c_46_119 rfl rfl (Nat.le_of_ble_eq_true rfl) (Nat.le_of_ble_eq_true rfl) t.1 t.2
set_option maxRecDepth 20000 in
theorem t_46_122 {d : Nat} {h : ab_H} {Q : Option Value → ab_H → Prop} {x0 : Nat} {x1 : Nat} {x2 : Int32} {x3 : Int32} (t : ab_ok h x0 103 = true ∧ wm d 44 [.ref x0, .int 36] h (fun r9 h9 => wq (d + 1) 46 128 [.ref x0, .ref x1, .int x2, .int x3, .retAddr 0, .retAddr 0] (r9.toList ++ []) h9 Q)) : wq (d + 1) 46 122 [.ref x0, .ref x1, .int x2, .int x3, .retAddr 0, .retAddr 0] [] h Q := by
  refine g5 c_46_122 rfl ?_
  refine g1 c_46_123 k_36 ?_
  exact g80 (As := [.int 36]) (rest := []) c_46_125 rfl rfl (Nat.le_of_ble_eq_true rfl) (Nat.le_of_ble_eq_true rfl) t.1 t.2
set_option maxRecDepth 20000 in
theorem t_46_128 {d : Nat} {h : ab_H} {Q : Option Value → ab_H → Prop} {x0 : Nat} {x1 : Nat} {x2 : Int32} {x3 : Int32} (t : Q none h) : wq d 46 128 [.ref x0, .ref x1, .int x2, .int x3, .retAddr 0, .retAddr 0] [] h Q := by
  exact g94 c_46_128 t
-- method 47: MillTown$Reader.readCounted(LMillTown$Text;)V
theorem c_47_0 : pg_cd 47 0 = (5, 1, 0, 0, 0) := by decide +kernel
theorem c_47_1 : pg_cd 47 1 = (43, 3, 46, 4, 0) := by decide +kernel
theorem c_47_4 : pg_cd 47 4 = (6, 1, 0, 2, 0) := by decide +kernel
theorem c_47_5 : pg_cd 47 5 = (5, 1, 0, 1, 0) := by decide +kernel
theorem c_47_6 : pg_cd 47 6 = (3, 1, 0, 2, 0) := by decide +kernel
theorem c_47_7 : pg_cd 47 7 = (80, 82, 104, 0, 0) := by decide +kernel
theorem c_47_10 : pg_cd 47 10 = (6, 1, 0, 3, 0) := by decide +kernel
theorem c_47_11 : pg_cd 47 11 = (5, 1, 0, 0, 0) := by decide +kernel
theorem c_47_12 : pg_cd 47 12 = (3, 1, 0, 2, 0) := by decide +kernel
theorem c_47_13 : pg_cd 47 13 = (80, 44, 101, 0, 0) := by decide +kernel
theorem c_47_16 : pg_cd 47 16 = (5, 1, 0, 1, 0) := by decide +kernel
theorem c_47_17 : pg_cd 47 17 = (45, 7, 53, 0, 0) := by decide +kernel
theorem c_47_20 : pg_cd 47 20 = (3, 1, 0, 3, 0) := by decide +kernel
theorem c_47_21 : pg_cd 47 21 = (1, 1, 0, 0, 5) := by decide +kernel
theorem c_47_22 : pg_cd 47 22 = (5, 1, 0, 1, 0) := by decide +kernel
theorem c_47_23 : pg_cd 47 23 = (43, 7, 115, 2, 0) := by decide +kernel
theorem c_47_26 : pg_cd 47 26 = (80, 56, 111, 0, 0) := by decide +kernel
theorem c_47_29 : pg_cd 47 29 = (3, 1, 0, 2, 0) := by decide +kernel
theorem c_47_30 : pg_cd 47 30 = (1, 1, 0, 0, 4) := by decide +kernel
theorem c_47_31 : pg_cd 47 31 = (37, 3, 0, 1, 22) := by decide +kernel
theorem c_47_34 : pg_cd 47 34 = (5, 1, 0, 1, 0) := by decide +kernel
theorem c_47_35 : pg_cd 47 35 = (45, 7, 53, 0, 0) := by decide +kernel
theorem c_47_38 : pg_cd 47 38 = (3, 1, 0, 3, 0) := by decide +kernel
theorem c_47_39 : pg_cd 47 39 = (1, 1, 0, 0, 1) := by decide +kernel
theorem c_47_40 : pg_cd 47 40 = (5, 1, 0, 0, 0) := by decide +kernel
theorem c_47_41 : pg_cd 47 41 = (1, 1, 0, 0, 0) := by decide +kernel
theorem c_47_42 : pg_cd 47 42 = (1, 2, 0, 0, 29) := by decide +kernel
theorem c_47_44 : pg_cd 47 44 = (80, 45, 108, 0, 0) := by decide +kernel
theorem c_47_47 : pg_cd 47 47 = (80, 56, 111, 0, 0) := by decide +kernel
theorem c_47_50 : pg_cd 47 50 = (38, 3, 0, 0, 13) := by decide +kernel
theorem c_47_53 : pg_cd 47 53 = (3, 1, 0, 2, 0) := by decide +kernel
theorem c_47_54 : pg_cd 47 54 = (1, 1, 0, 0, 5) := by decide +kernel
theorem c_47_55 : pg_cd 47 55 = (37, 3, 0, 1, 8) := by decide +kernel
theorem c_47_58 : pg_cd 47 58 = (5, 1, 0, 0, 0) := by decide +kernel
theorem c_47_59 : pg_cd 47 59 = (5, 1, 0, 1, 0) := by decide +kernel
theorem c_47_60 : pg_cd 47 60 = (80, 48, 117, 0, 0) := by decide +kernel
theorem c_47_63 : pg_cd 47 63 = (3, 1, 0, 2, 0) := by decide +kernel
theorem c_47_64 : pg_cd 47 64 = (1, 1, 0, 0, 3) := by decide +kernel
theorem c_47_65 : pg_cd 47 65 = (37, 3, 0, 0, 16) := by decide +kernel
theorem c_47_68 : pg_cd 47 68 = (5, 1, 0, 0, 0) := by decide +kernel
theorem c_47_69 : pg_cd 47 69 = (43, 3, 46, 4, 0) := by decide +kernel
theorem c_47_72 : pg_cd 47 72 = (1, 2, 0, 0, 11) := by decide +kernel
theorem c_47_74 : pg_cd 47 74 = (37, 3, 0, 1, 7) := by decide +kernel
theorem c_47_77 : pg_cd 47 77 = (1, 1, 0, 0, 1) := by decide +kernel
theorem c_47_78 : pg_cd 47 78 = (38, 3, 0, 0, 4) := by decide +kernel
theorem c_47_81 : pg_cd 47 81 = (1, 1, 0, 0, 0) := by decide +kernel
theorem c_47_82 : pg_cd 47 82 = (6, 2, 0, 4, 0) := by decide +kernel
theorem c_47_84 : pg_cd 47 84 = (5, 1, 0, 1, 0) := by decide +kernel
theorem c_47_85 : pg_cd 47 85 = (45, 7, 53, 0, 0) := by decide +kernel
theorem c_47_88 : pg_cd 47 88 = (3, 1, 0, 3, 0) := by decide +kernel
theorem c_47_89 : pg_cd 47 89 = (1, 1, 0, 0, 4) := by decide +kernel
theorem c_47_90 : pg_cd 47 90 = (3, 2, 0, 4, 0) := by decide +kernel
theorem c_47_92 : pg_cd 47 92 = (36, 3, 0, 0, 8) := by decide +kernel
theorem c_47_95 : pg_cd 47 95 = (1, 2, 0, 0, 30) := by decide +kernel
theorem c_47_97 : pg_cd 47 97 = (38, 3, 0, 0, 5) := by decide +kernel
theorem c_47_100 : pg_cd 47 100 = (1, 2, 0, 0, 29) := by decide +kernel
theorem c_47_102 : pg_cd 47 102 = (80, 56, 111, 0, 0) := by decide +kernel
theorem c_47_105 : pg_cd 47 105 = (3, 1, 0, 2, 0) := by decide +kernel
theorem c_47_106 : pg_cd 47 106 = (1, 1, 0, 0, 3) := by decide +kernel
theorem c_47_107 : pg_cd 47 107 = (37, 3, 0, 0, 19) := by decide +kernel
theorem c_47_110 : pg_cd 47 110 = (5, 1, 0, 0, 0) := by decide +kernel
theorem c_47_111 : pg_cd 47 111 = (3, 2, 0, 4, 0) := by decide +kernel
theorem c_47_113 : pg_cd 47 113 = (36, 3, 0, 0, 8) := by decide +kernel
theorem c_47_116 : pg_cd 47 116 = (1, 2, 0, 0, 11) := by decide +kernel
theorem c_47_118 : pg_cd 47 118 = (38, 3, 0, 0, 5) := by decide +kernel
theorem c_47_121 : pg_cd 47 121 = (1, 2, 0, 0, 10) := by decide +kernel
theorem c_47_123 : pg_cd 47 123 = (80, 44, 101, 0, 0) := by decide +kernel
theorem c_47_126 : pg_cd 47 126 = (5, 1, 0, 1, 0) := by decide +kernel
theorem c_47_127 : pg_cd 47 127 = (45, 7, 53, 0, 0) := by decide +kernel
theorem c_47_130 : pg_cd 47 130 = (3, 1, 0, 3, 0) := by decide +kernel
theorem c_47_131 : pg_cd 47 131 = (1, 2, 0, 0, 6) := by decide +kernel
theorem c_47_133 : pg_cd 47 133 = (5, 1, 0, 1, 0) := by decide +kernel
theorem c_47_134 : pg_cd 47 134 = (43, 7, 115, 2, 0) := by decide +kernel
theorem c_47_137 : pg_cd 47 137 = (80, 56, 111, 0, 0) := by decide +kernel
theorem c_47_140 : pg_cd 47 140 = (5, 1, 0, 0, 0) := by decide +kernel
theorem c_47_141 : pg_cd 47 141 = (5, 1, 0, 1, 0) := by decide +kernel
theorem c_47_142 : pg_cd 47 142 = (1, 1, 0, 0, 0) := by decide +kernel
theorem c_47_143 : pg_cd 47 143 = (80, 50, 120, 0, 0) := by decide +kernel
theorem c_47_146 : pg_cd 47 146 = (5, 1, 0, 1, 0) := by decide +kernel
theorem c_47_147 : pg_cd 47 147 = (45, 7, 53, 0, 0) := by decide +kernel
theorem c_47_150 : pg_cd 47 150 = (3, 1, 0, 3, 0) := by decide +kernel
theorem c_47_151 : pg_cd 47 151 = (1, 2, 0, 0, 7) := by decide +kernel
theorem c_47_153 : pg_cd 47 153 = (5, 1, 0, 1, 0) := by decide +kernel
theorem c_47_154 : pg_cd 47 154 = (43, 7, 115, 2, 0) := by decide +kernel
theorem c_47_157 : pg_cd 47 157 = (80, 56, 111, 0, 0) := by decide +kernel
theorem c_47_160 : pg_cd 47 160 = (5, 1, 0, 0, 0) := by decide +kernel
theorem c_47_161 : pg_cd 47 161 = (1, 2, 0, 0, 36) := by decide +kernel
theorem c_47_163 : pg_cd 47 163 = (80, 44, 101, 0, 0) := by decide +kernel
theorem c_47_166 : pg_cd 47 166 = (94, 0, 0, 0, 0) := by decide +kernel
theorem mx_47 : pg_mx 47 = 5 := by decide +kernel
theorem m_47 {d : Nat} {h : ab_H} {Q : Option Value → ab_H → Prop} {x0 : Nat} {x1 : Nat} (t : wq d 47 0 [.ref x0, .ref x1, .retAddr 0, .retAddr 0, .retAddr 0] [] h Q) : wm d 47 [.ref x0, .ref x1] h Q := by
  unfold wm
  rw [mx_47]
  exact t
set_option maxRecDepth 20000 in
theorem t_47_0 {d : Nat} {h : ab_H} {Q : Option Value → ab_H → Prop} {x0 : Nat} {x1 : Nat} (t : ab_ok h x0 103 = true ∧ ab_ok h x1 107 = true ∧ wm d 82 [.ref x1, .int (ab_i h x0 4)] h (fun r9 h9 => wq (d + 1) 47 10 [.ref x0, .ref x1, .int (ab_i h x0 4), .retAddr 0, .retAddr 0] (r9.toList ++ []) h9 Q)) : wq (d + 1) 47 0 [.ref x0, .ref x1, .retAddr 0, .retAddr 0, .retAddr 0] [] h Q := by
  refine g5 c_47_0 rfl ?_
  obtain ⟨ho, t⟩ := t
  refine g43 c_47_1 ho ?_
  refine g6 (L' := [.ref x0, .ref x1, .int (ab_i h x0 4), .retAddr 0, .retAddr 0]) c_47_4 rfl ?_
  refine g5 c_47_5 rfl ?_
  refine g3 c_47_6 rfl ?_
  exact g80 (As := [.int (ab_i h x0 4)]) (rest := []) c_47_7 rfl rfl (Nat.le_of_ble_eq_true rfl) (Nat.le_of_ble_eq_true rfl) t.1 t.2
set_option maxRecDepth 20000 in
theorem t_47_10 {d : Nat} {h : ab_H} {Q : Option Value → ab_H → Prop} {x0 : Nat} {x1 : Nat} {x2 : Int32} {s0 : Int32} (t : ab_ok h x0 103 = true ∧ wm d 44 [.ref x0, .int x2] h (fun r9 h9 => wq (d + 1) 47 16 [.ref x0, .ref x1, .int x2, .int s0, .retAddr 0] (r9.toList ++ []) h9 Q)) : wq (d + 1) 47 10 [.ref x0, .ref x1, .int x2, .retAddr 0, .retAddr 0] [.int s0] h Q := by
  refine g6 (L' := [.ref x0, .ref x1, .int x2, .int s0, .retAddr 0]) c_47_10 rfl ?_
  refine g5 c_47_11 rfl ?_
  refine g3 c_47_12 rfl ?_
  exact g80 (As := [.int x2]) (rest := []) c_47_13 rfl rfl (Nat.le_of_ble_eq_true rfl) (Nat.le_of_ble_eq_true rfl) t.1 t.2
set_option maxRecDepth 20000 in
theorem t_47_16 {d : Nat} {h : ab_H} {Q : Option Value → ab_H → Prop} {x0 : Nat} {x1 : Nat} {x2 : Int32} {x3 : Int32} (t : ab_ok h x1 107 = true ∧ ∃ j1 : Nat, ab_r h x1 0 = some j1 ∧ ab_ok h x1 107 = true ∧ ab_ok h j1 104 = true ∧ wm d 56 [.ref j1, .int x3, .int 5, .int (ab_i h x1 2)] h (fun r9 h9 => wq (d + 1) 47 29 [.ref x0, .ref x1, .int x2, .int x3, .retAddr 0] (r9.toList ++ []) h9 Q)) : wq (d + 1) 47 16 [.ref x0, .ref x1, .int x2, .int x3, .retAddr 0] [] h Q := by
  refine g5 c_47_16 rfl ?_
  obtain ⟨ho, j1, hr, t⟩ := t
  refine g45 c_47_17 ho hr ?_
  refine g3 c_47_20 rfl ?_
  refine g1 c_47_21 k_5 ?_
  refine g5 c_47_22 rfl ?_
  obtain ⟨ho, t⟩ := t
  refine g43 c_47_23 ho ?_
  exact g80 (As := [.int x3, .int 5, .int (ab_i h x1 2)]) (rest := []) c_47_26 rfl rfl (Nat.le_of_ble_eq_true rfl) (Nat.le_of_ble_eq_true rfl) t.1 t.2
set_option maxRecDepth 20000 in
theorem t_47_29 {d : Nat} {h : ab_H} {Q : Option Value → ab_H → Prop} {x0 : Nat} {x1 : Nat} {x2 : Int32} {x3 : Int32} (t : if x2 = 4 then (ab_ok h x1 107 = true ∧ ∃ j1 : Nat, ab_r h x1 0 = some j1 ∧ ab_ok h x0 103 = true ∧ wm d 45 [.ref x0, .int 0, .int 29] h (fun r9 h9 => wq (d + 1) 47 47 [.ref x0, .ref x1, .int x2, .int x3, .retAddr 0] (r9.toList ++ [.int 1, .int x3, .ref j1]) h9 Q)) else (if x2 = 5 then (ab_ok h x0 103 = true ∧ wm d 48 [.ref x0, .ref x1] h (fun r9 h9 => wq (d + 1) 47 63 [.ref x0, .ref x1, .int x2, .int x3, .retAddr 0] (r9.toList ++ []) h9 Q)) else (if x2 = 3 then (ab_ok h x1 107 = true ∧ ∃ j2 : Nat, ab_r h x1 0 = some j2 ∧ if (0 : Int32) = 0 then (ab_ok h j2 104 = true ∧ wm d 56 [.ref j2, .int x3, .int 4, .int 29] h (fun r9 h9 => wq (d + 1) 47 105 [.ref x0, .ref x1, .int x2, .int x3, .int 0] (r9.toList ++ []) h9 Q)) else (ab_ok h j2 104 = true ∧ wm d 56 [.ref j2, .int x3, .int 4, .int 30] h (fun r9 h9 => wq (d + 1) 47 105 [.ref x0, .ref x1, .int x2, .int x3, .int 0] (r9.toList ++ []) h9 Q))) else (ab_ok h x0 103 = true ∧ if (ab_i h x0 4) = 11 then (ab_ok h x1 107 = true ∧ ∃ j3 : Nat, ab_r h x1 0 = some j3 ∧ if (1 : Int32) = 0 then (ab_ok h j3 104 = true ∧ wm d 56 [.ref j3, .int x3, .int 4, .int 29] h (fun r9 h9 => wq (d + 1) 47 105 [.ref x0, .ref x1, .int x2, .int x3, .int 1] (r9.toList ++ []) h9 Q)) else (ab_ok h j3 104 = true ∧ wm d 56 [.ref j3, .int x3, .int 4, .int 30] h (fun r9 h9 => wq (d + 1) 47 105 [.ref x0, .ref x1, .int x2, .int x3, .int 1] (r9.toList ++ []) h9 Q))) else (ab_ok h x1 107 = true ∧ ∃ j4 : Nat, ab_r h x1 0 = some j4 ∧ if (0 : Int32) = 0 then (ab_ok h j4 104 = true ∧ wm d 56 [.ref j4, .int x3, .int 4, .int 29] h (fun r9 h9 => wq (d + 1) 47 105 [.ref x0, .ref x1, .int x2, .int x3, .int 0] (r9.toList ++ []) h9 Q)) else (ab_ok h j4 104 = true ∧ wm d 56 [.ref j4, .int x3, .int 4, .int 30] h (fun r9 h9 => wq (d + 1) 47 105 [.ref x0, .ref x1, .int x2, .int x3, .int 0] (r9.toList ++ []) h9 Q))))))) : wq (d + 1) 47 29 [.ref x0, .ref x1, .int x2, .int x3, .retAddr 0] [] h Q := by
  refine g3 c_47_29 rfl ?_
  refine g1 c_47_30 k_4 ?_
  refine gcm c_47_31 (gbn t (ab_c1 _ _) rfl (fun hc t => ?_) (fun hc t => ?_))
  · refine g5 c_47_34 rfl ?_
    obtain ⟨ho, j1, hr, t⟩ := t
    refine g45 c_47_35 ho hr ?_
    refine g3 c_47_38 rfl ?_
    refine g1 c_47_39 k_1 ?_
    refine g5 c_47_40 rfl ?_
    refine g1 c_47_41 k_0 ?_
    refine g1 c_47_42 k_29 ?_
    exact g80 (As := [.int 0, .int 29]) (rest := [.int 1, .int x3, .ref j1]) c_47_44 rfl rfl (Nat.le_of_ble_eq_true rfl) (Nat.le_of_ble_eq_true rfl) t.1 t.2
  · refine g3 c_47_53 rfl ?_
    refine g1 c_47_54 k_5 ?_
    refine gcm c_47_55 (gbn t (ab_c1 _ _) rfl (fun hc t => ?_) (fun hc t => ?_))
    · refine g5 c_47_58 rfl ?_
      refine g5 c_47_59 rfl ?_
      exact g80 (As := [.ref x1]) (rest := []) c_47_60 rfl rfl (Nat.le_of_ble_eq_true rfl) (Nat.le_of_ble_eq_true rfl) t.1 t.2
    · refine g3 c_47_63 rfl ?_
      refine g1 c_47_64 k_3 ?_
      refine gcm c_47_65 (gbr t rfl rfl (fun hc t => ?_) (fun hc t => ?_))
      · refine g1 c_47_81 k_0 ?_
        refine g6 (L' := [.ref x0, .ref x1, .int x2, .int x3, .int 0]) c_47_82 rfl ?_
        refine g5 c_47_84 rfl ?_
        obtain ⟨ho, j2, hr, t⟩ := t
        refine g45 c_47_85 ho hr ?_
        refine g3 c_47_88 rfl ?_
        refine g1 c_47_89 k_4 ?_
        refine g3 c_47_90 rfl ?_
        refine gif c_47_92 (gbr t rfl rfl (fun hc t => ?_) (fun hc t => ?_))
        · refine g1 c_47_100 k_29 ?_
          exact g80 (As := [.int x3, .int 4, .int 29]) (rest := []) c_47_102 rfl rfl (Nat.le_of_ble_eq_true rfl) (Nat.le_of_ble_eq_true rfl) t.1 t.2
        · refine g1 c_47_95 k_30 ?_
          refine g38 c_47_97 rfl ?_
          exact g80 (As := [.int x3, .int 4, .int 30]) (rest := []) c_47_102 rfl rfl (Nat.le_of_ble_eq_true rfl) (Nat.le_of_ble_eq_true rfl) t.1 t.2
      · refine g5 c_47_68 rfl ?_
        obtain ⟨ho, t⟩ := t
        refine g43 c_47_69 ho ?_
        refine g1 c_47_72 k_11 ?_
        refine gcm c_47_74 (gbn t (ab_c1 _ _) rfl (fun hc t => ?_) (fun hc t => ?_))
        · refine g1 c_47_77 k_1 ?_
          refine g38 c_47_78 rfl ?_
          refine g6 (L' := [.ref x0, .ref x1, .int x2, .int x3, .int 1]) c_47_82 rfl ?_
          refine g5 c_47_84 rfl ?_
          obtain ⟨ho, j3, hr, t⟩ := t
          refine g45 c_47_85 ho hr ?_
          refine g3 c_47_88 rfl ?_
          refine g1 c_47_89 k_4 ?_
          refine g3 c_47_90 rfl ?_
          refine gif c_47_92 (gbr t rfl rfl (fun hc t => ?_) (fun hc t => ?_))
          · refine g1 c_47_100 k_29 ?_
            exact g80 (As := [.int x3, .int 4, .int 29]) (rest := []) c_47_102 rfl rfl (Nat.le_of_ble_eq_true rfl) (Nat.le_of_ble_eq_true rfl) t.1 t.2
          · refine g1 c_47_95 k_30 ?_
            refine g38 c_47_97 rfl ?_
            exact g80 (As := [.int x3, .int 4, .int 30]) (rest := []) c_47_102 rfl rfl (Nat.le_of_ble_eq_true rfl) (Nat.le_of_ble_eq_true rfl) t.1 t.2
        · refine g1 c_47_81 k_0 ?_
          refine g6 (L' := [.ref x0, .ref x1, .int x2, .int x3, .int 0]) c_47_82 rfl ?_
          refine g5 c_47_84 rfl ?_
          obtain ⟨ho, j4, hr, t⟩ := t
          refine g45 c_47_85 ho hr ?_
          refine g3 c_47_88 rfl ?_
          refine g1 c_47_89 k_4 ?_
          refine g3 c_47_90 rfl ?_
          refine gif c_47_92 (gbr t rfl rfl (fun hc t => ?_) (fun hc t => ?_))
          · refine g1 c_47_100 k_29 ?_
            exact g80 (As := [.int x3, .int 4, .int 29]) (rest := []) c_47_102 rfl rfl (Nat.le_of_ble_eq_true rfl) (Nat.le_of_ble_eq_true rfl) t.1 t.2
          · refine g1 c_47_95 k_30 ?_
            refine g38 c_47_97 rfl ?_
            exact g80 (As := [.int x3, .int 4, .int 30]) (rest := []) c_47_102 rfl rfl (Nat.le_of_ble_eq_true rfl) (Nat.le_of_ble_eq_true rfl) t.1 t.2
set_option maxRecDepth 20000 in
theorem t_47_47 {d : Nat} {h : ab_H} {Q : Option Value → ab_H → Prop} {x0 : Nat} {x1 : Nat} {x2 : Int32} {x3 : Int32} {s0 : Nat} {s1 : Int32} {s2 : Int32} {s3 : Int32} (t : ab_ok h s0 104 = true ∧ wm d 56 [.ref s0, .int s1, .int s2, .int s3] h (fun r9 h9 => wq (d + 1) 47 50 [.ref x0, .ref x1, .int x2, .int x3, .retAddr 0] (r9.toList ++ []) h9 Q)) : wq (d + 1) 47 47 [.ref x0, .ref x1, .int x2, .int x3, .retAddr 0] [.int s3, .int s2, .int s1, .ref s0] h Q := by
  exact g80 (As := [.int s1, .int s2, .int s3]) (rest := []) c_47_47 rfl rfl (Nat.le_of_ble_eq_true rfl) (Nat.le_of_ble_eq_true rfl) t.1 t.2
set_option maxRecDepth 20000 in
theorem t_47_50 {d : Nat} {h : ab_H} {Q : Option Value → ab_H → Prop} {x0 : Nat} {x1 : Nat} {x2 : Int32} {x3 : Int32} (t : if x2 = 3 then (ab_ok h x1 107 = true ∧ ∃ j1 : Nat, ab_r h x1 0 = some j1 ∧ if (0 : Int32) = 0 then (ab_ok h j1 104 = true ∧ wm d 56 [.ref j1, .int x3, .int 4, .int 29] h (fun r9 h9 => wq (d + 1) 47 105 [.ref x0, .ref x1, .int x2, .int x3, .int 0] (r9.toList ++ []) h9 Q)) else (ab_ok h j1 104 = true ∧ wm d 56 [.ref j1, .int x3, .int 4, .int 30] h (fun r9 h9 => wq (d + 1) 47 105 [.ref x0, .ref x1, .int x2, .int x3, .int 0] (r9.toList ++ []) h9 Q))) else (ab_ok h x0 103 = true ∧ if (ab_i h x0 4) = 11 then (ab_ok h x1 107 = true ∧ ∃ j2 : Nat, ab_r h x1 0 = some j2 ∧ if (1 : Int32) = 0 then (ab_ok h j2 104 = true ∧ wm d 56 [.ref j2, .int x3, .int 4, .int 29] h (fun r9 h9 => wq (d + 1) 47 105 [.ref x0, .ref x1, .int x2, .int x3, .int 1] (r9.toList ++ []) h9 Q)) else (ab_ok h j2 104 = true ∧ wm d 56 [.ref j2, .int x3, .int 4, .int 30] h (fun r9 h9 => wq (d + 1) 47 105 [.ref x0, .ref x1, .int x2, .int x3, .int 1] (r9.toList ++ []) h9 Q))) else (ab_ok h x1 107 = true ∧ ∃ j3 : Nat, ab_r h x1 0 = some j3 ∧ if (0 : Int32) = 0 then (ab_ok h j3 104 = true ∧ wm d 56 [.ref j3, .int x3, .int 4, .int 29] h (fun r9 h9 => wq (d + 1) 47 105 [.ref x0, .ref x1, .int x2, .int x3, .int 0] (r9.toList ++ []) h9 Q)) else (ab_ok h j3 104 = true ∧ wm d 56 [.ref j3, .int x3, .int 4, .int 30] h (fun r9 h9 => wq (d + 1) 47 105 [.ref x0, .ref x1, .int x2, .int x3, .int 0] (r9.toList ++ []) h9 Q))))) : wq (d + 1) 47 50 [.ref x0, .ref x1, .int x2, .int x3, .retAddr 0] [] h Q := by
  refine g38 c_47_50 rfl ?_
  refine g3 c_47_63 rfl ?_
  refine g1 c_47_64 k_3 ?_
  refine gcm c_47_65 (gbr t rfl rfl (fun hc t => ?_) (fun hc t => ?_))
  · refine g1 c_47_81 k_0 ?_
    refine g6 (L' := [.ref x0, .ref x1, .int x2, .int x3, .int 0]) c_47_82 rfl ?_
    refine g5 c_47_84 rfl ?_
    obtain ⟨ho, j1, hr, t⟩ := t
    refine g45 c_47_85 ho hr ?_
    refine g3 c_47_88 rfl ?_
    refine g1 c_47_89 k_4 ?_
    refine g3 c_47_90 rfl ?_
    refine gif c_47_92 (gbr t rfl rfl (fun hc t => ?_) (fun hc t => ?_))
    · refine g1 c_47_100 k_29 ?_
      exact g80 (As := [.int x3, .int 4, .int 29]) (rest := []) c_47_102 rfl rfl (Nat.le_of_ble_eq_true rfl) (Nat.le_of_ble_eq_true rfl) t.1 t.2
    · refine g1 c_47_95 k_30 ?_
      refine g38 c_47_97 rfl ?_
      exact g80 (As := [.int x3, .int 4, .int 30]) (rest := []) c_47_102 rfl rfl (Nat.le_of_ble_eq_true rfl) (Nat.le_of_ble_eq_true rfl) t.1 t.2
  · refine g5 c_47_68 rfl ?_
    obtain ⟨ho, t⟩ := t
    refine g43 c_47_69 ho ?_
    refine g1 c_47_72 k_11 ?_
    refine gcm c_47_74 (gbn t (ab_c1 _ _) rfl (fun hc t => ?_) (fun hc t => ?_))
    · refine g1 c_47_77 k_1 ?_
      refine g38 c_47_78 rfl ?_
      refine g6 (L' := [.ref x0, .ref x1, .int x2, .int x3, .int 1]) c_47_82 rfl ?_
      refine g5 c_47_84 rfl ?_
      obtain ⟨ho, j2, hr, t⟩ := t
      refine g45 c_47_85 ho hr ?_
      refine g3 c_47_88 rfl ?_
      refine g1 c_47_89 k_4 ?_
      refine g3 c_47_90 rfl ?_
      refine gif c_47_92 (gbr t rfl rfl (fun hc t => ?_) (fun hc t => ?_))
      · refine g1 c_47_100 k_29 ?_
        exact g80 (As := [.int x3, .int 4, .int 29]) (rest := []) c_47_102 rfl rfl (Nat.le_of_ble_eq_true rfl) (Nat.le_of_ble_eq_true rfl) t.1 t.2
      · refine g1 c_47_95 k_30 ?_
        refine g38 c_47_97 rfl ?_
        exact g80 (As := [.int x3, .int 4, .int 30]) (rest := []) c_47_102 rfl rfl (Nat.le_of_ble_eq_true rfl) (Nat.le_of_ble_eq_true rfl) t.1 t.2
    · refine g1 c_47_81 k_0 ?_
      refine g6 (L' := [.ref x0, .ref x1, .int x2, .int x3, .int 0]) c_47_82 rfl ?_
      refine g5 c_47_84 rfl ?_
      obtain ⟨ho, j3, hr, t⟩ := t
      refine g45 c_47_85 ho hr ?_
      refine g3 c_47_88 rfl ?_
      refine g1 c_47_89 k_4 ?_
      refine g3 c_47_90 rfl ?_
      refine gif c_47_92 (gbr t rfl rfl (fun hc t => ?_) (fun hc t => ?_))
      · refine g1 c_47_100 k_29 ?_
        exact g80 (As := [.int x3, .int 4, .int 29]) (rest := []) c_47_102 rfl rfl (Nat.le_of_ble_eq_true rfl) (Nat.le_of_ble_eq_true rfl) t.1 t.2
      · refine g1 c_47_95 k_30 ?_
        refine g38 c_47_97 rfl ?_
        exact g80 (As := [.int x3, .int 4, .int 30]) (rest := []) c_47_102 rfl rfl (Nat.le_of_ble_eq_true rfl) (Nat.le_of_ble_eq_true rfl) t.1 t.2
set_option maxRecDepth 20000 in
theorem t_47_63 {d : Nat} {h : ab_H} {Q : Option Value → ab_H → Prop} {x0 : Nat} {x1 : Nat} {x2 : Int32} {x3 : Int32} (t : if x2 = 3 then (ab_ok h x1 107 = true ∧ ∃ j1 : Nat, ab_r h x1 0 = some j1 ∧ if (0 : Int32) = 0 then (ab_ok h j1 104 = true ∧ wm d 56 [.ref j1, .int x3, .int 4, .int 29] h (fun r9 h9 => wq (d + 1) 47 105 [.ref x0, .ref x1, .int x2, .int x3, .int 0] (r9.toList ++ []) h9 Q)) else (ab_ok h j1 104 = true ∧ wm d 56 [.ref j1, .int x3, .int 4, .int 30] h (fun r9 h9 => wq (d + 1) 47 105 [.ref x0, .ref x1, .int x2, .int x3, .int 0] (r9.toList ++ []) h9 Q))) else (ab_ok h x0 103 = true ∧ if (ab_i h x0 4) = 11 then (ab_ok h x1 107 = true ∧ ∃ j2 : Nat, ab_r h x1 0 = some j2 ∧ if (1 : Int32) = 0 then (ab_ok h j2 104 = true ∧ wm d 56 [.ref j2, .int x3, .int 4, .int 29] h (fun r9 h9 => wq (d + 1) 47 105 [.ref x0, .ref x1, .int x2, .int x3, .int 1] (r9.toList ++ []) h9 Q)) else (ab_ok h j2 104 = true ∧ wm d 56 [.ref j2, .int x3, .int 4, .int 30] h (fun r9 h9 => wq (d + 1) 47 105 [.ref x0, .ref x1, .int x2, .int x3, .int 1] (r9.toList ++ []) h9 Q))) else (ab_ok h x1 107 = true ∧ ∃ j3 : Nat, ab_r h x1 0 = some j3 ∧ if (0 : Int32) = 0 then (ab_ok h j3 104 = true ∧ wm d 56 [.ref j3, .int x3, .int 4, .int 29] h (fun r9 h9 => wq (d + 1) 47 105 [.ref x0, .ref x1, .int x2, .int x3, .int 0] (r9.toList ++ []) h9 Q)) else (ab_ok h j3 104 = true ∧ wm d 56 [.ref j3, .int x3, .int 4, .int 30] h (fun r9 h9 => wq (d + 1) 47 105 [.ref x0, .ref x1, .int x2, .int x3, .int 0] (r9.toList ++ []) h9 Q))))) : wq (d + 1) 47 63 [.ref x0, .ref x1, .int x2, .int x3, .retAddr 0] [] h Q := by
  refine g3 c_47_63 rfl ?_
  refine g1 c_47_64 k_3 ?_
  refine gcm c_47_65 (gbr t rfl rfl (fun hc t => ?_) (fun hc t => ?_))
  · refine g1 c_47_81 k_0 ?_
    refine g6 (L' := [.ref x0, .ref x1, .int x2, .int x3, .int 0]) c_47_82 rfl ?_
    refine g5 c_47_84 rfl ?_
    obtain ⟨ho, j1, hr, t⟩ := t
    refine g45 c_47_85 ho hr ?_
    refine g3 c_47_88 rfl ?_
    refine g1 c_47_89 k_4 ?_
    refine g3 c_47_90 rfl ?_
    refine gif c_47_92 (gbr t rfl rfl (fun hc t => ?_) (fun hc t => ?_))
    · refine g1 c_47_100 k_29 ?_
      exact g80 (As := [.int x3, .int 4, .int 29]) (rest := []) c_47_102 rfl rfl (Nat.le_of_ble_eq_true rfl) (Nat.le_of_ble_eq_true rfl) t.1 t.2
    · refine g1 c_47_95 k_30 ?_
      refine g38 c_47_97 rfl ?_
      exact g80 (As := [.int x3, .int 4, .int 30]) (rest := []) c_47_102 rfl rfl (Nat.le_of_ble_eq_true rfl) (Nat.le_of_ble_eq_true rfl) t.1 t.2
  · refine g5 c_47_68 rfl ?_
    obtain ⟨ho, t⟩ := t
    refine g43 c_47_69 ho ?_
    refine g1 c_47_72 k_11 ?_
    refine gcm c_47_74 (gbn t (ab_c1 _ _) rfl (fun hc t => ?_) (fun hc t => ?_))
    · refine g1 c_47_77 k_1 ?_
      refine g38 c_47_78 rfl ?_
      refine g6 (L' := [.ref x0, .ref x1, .int x2, .int x3, .int 1]) c_47_82 rfl ?_
      refine g5 c_47_84 rfl ?_
      obtain ⟨ho, j2, hr, t⟩ := t
      refine g45 c_47_85 ho hr ?_
      refine g3 c_47_88 rfl ?_
      refine g1 c_47_89 k_4 ?_
      refine g3 c_47_90 rfl ?_
      refine gif c_47_92 (gbr t rfl rfl (fun hc t => ?_) (fun hc t => ?_))
      · refine g1 c_47_100 k_29 ?_
        exact g80 (As := [.int x3, .int 4, .int 29]) (rest := []) c_47_102 rfl rfl (Nat.le_of_ble_eq_true rfl) (Nat.le_of_ble_eq_true rfl) t.1 t.2
      · refine g1 c_47_95 k_30 ?_
        refine g38 c_47_97 rfl ?_
        exact g80 (As := [.int x3, .int 4, .int 30]) (rest := []) c_47_102 rfl rfl (Nat.le_of_ble_eq_true rfl) (Nat.le_of_ble_eq_true rfl) t.1 t.2
    · refine g1 c_47_81 k_0 ?_
      refine g6 (L' := [.ref x0, .ref x1, .int x2, .int x3, .int 0]) c_47_82 rfl ?_
      refine g5 c_47_84 rfl ?_
      obtain ⟨ho, j3, hr, t⟩ := t
      refine g45 c_47_85 ho hr ?_
      refine g3 c_47_88 rfl ?_
      refine g1 c_47_89 k_4 ?_
      refine g3 c_47_90 rfl ?_
      refine gif c_47_92 (gbr t rfl rfl (fun hc t => ?_) (fun hc t => ?_))
      · refine g1 c_47_100 k_29 ?_
        exact g80 (As := [.int x3, .int 4, .int 29]) (rest := []) c_47_102 rfl rfl (Nat.le_of_ble_eq_true rfl) (Nat.le_of_ble_eq_true rfl) t.1 t.2
      · refine g1 c_47_95 k_30 ?_
        refine g38 c_47_97 rfl ?_
        exact g80 (As := [.int x3, .int 4, .int 30]) (rest := []) c_47_102 rfl rfl (Nat.le_of_ble_eq_true rfl) (Nat.le_of_ble_eq_true rfl) t.1 t.2
set_option maxRecDepth 20000 in
theorem t_47_105 {d : Nat} {h : ab_H} {Q : Option Value → ab_H → Prop} {x0 : Nat} {x1 : Nat} {x2 : Int32} {x3 : Int32} {x4 : Int32} (t : if x2 = 3 then (ab_ok h x1 107 = true ∧ ∃ j1 : Nat, ab_r h x1 0 = some j1 ∧ ab_ok h x1 107 = true ∧ ab_ok h j1 104 = true ∧ wm d 56 [.ref j1, .int x3, .int 6, .int (ab_i h x1 2)] h (fun r9 h9 => wq (d + 1) 47 140 [.ref x0, .ref x1, .int x2, .int x3, .int x4] (r9.toList ++ []) h9 Q)) else (if x4 = 0 then (ab_ok h x0 103 = true ∧ wm d 44 [.ref x0, .int 10] h (fun r9 h9 => wq (d + 1) 47 126 [.ref x0, .ref x1, .int x2, .int x3, .int x4] (r9.toList ++ []) h9 Q)) else (ab_ok h x0 103 = true ∧ wm d 44 [.ref x0, .int 11] h (fun r9 h9 => wq (d + 1) 47 126 [.ref x0, .ref x1, .int x2, .int x3, .int x4] (r9.toList ++ []) h9 Q)))) : wq (d + 1) 47 105 [.ref x0, .ref x1, .int x2, .int x3, .int x4] [] h Q := by
  refine g3 c_47_105 rfl ?_
  refine g1 c_47_106 k_3 ?_
  refine gcm c_47_107 (gbr t rfl rfl (fun hc t => ?_) (fun hc t => ?_))
  · refine g5 c_47_126 rfl ?_
    obtain ⟨ho, j1, hr, t⟩ := t
    refine g45 c_47_127 ho hr ?_
    refine g3 c_47_130 rfl ?_
    refine g1 c_47_131 k_6 ?_
    refine g5 c_47_133 rfl ?_
    obtain ⟨ho, t⟩ := t
    refine g43 c_47_134 ho ?_
    exact g80 (As := [.int x3, .int 6, .int (ab_i h x1 2)]) (rest := []) c_47_137 rfl rfl (Nat.le_of_ble_eq_true rfl) (Nat.le_of_ble_eq_true rfl) t.1 t.2
  · refine g5 c_47_110 rfl ?_
    refine g3 c_47_111 rfl ?_
    refine gif c_47_113 (gbr t rfl rfl (fun hc t => ?_) (fun hc t => ?_))
    · refine g1 c_47_121 k_10 ?_
      exact g80 (As := [.int 10]) (rest := []) c_47_123 rfl rfl (Nat.le_of_ble_eq_true rfl) (Nat.le_of_ble_eq_true rfl) t.1 t.2
    · refine g1 c_47_116 k_11 ?_
      refine g38 c_47_118 rfl ?_
      exact g80 (As := [.int 11]) (rest := []) c_47_123 rfl rfl (Nat.le_of_ble_eq_true rfl) (Nat.le_of_ble_eq_true rfl) t.1 t.2
set_option maxRecDepth 20000 in
theorem t_47_126 {d : Nat} {h : ab_H} {Q : Option Value → ab_H → Prop} {x0 : Nat} {x1 : Nat} {x2 : Int32} {x3 : Int32} {x4 : Int32} (t : ab_ok h x1 107 = true ∧ ∃ j1 : Nat, ab_r h x1 0 = some j1 ∧ ab_ok h x1 107 = true ∧ ab_ok h j1 104 = true ∧ wm d 56 [.ref j1, .int x3, .int 6, .int (ab_i h x1 2)] h (fun r9 h9 => wq (d + 1) 47 140 [.ref x0, .ref x1, .int x2, .int x3, .int x4] (r9.toList ++ []) h9 Q)) : wq (d + 1) 47 126 [.ref x0, .ref x1, .int x2, .int x3, .int x4] [] h Q := by
  refine g5 c_47_126 rfl ?_
  obtain ⟨ho, j1, hr, t⟩ := t
  refine g45 c_47_127 ho hr ?_
  refine g3 c_47_130 rfl ?_
  refine g1 c_47_131 k_6 ?_
  refine g5 c_47_133 rfl ?_
  obtain ⟨ho, t⟩ := t
  refine g43 c_47_134 ho ?_
  exact g80 (As := [.int x3, .int 6, .int (ab_i h x1 2)]) (rest := []) c_47_137 rfl rfl (Nat.le_of_ble_eq_true rfl) (Nat.le_of_ble_eq_true rfl) t.1 t.2
set_option maxRecDepth 20000 in
theorem t_47_140 {d : Nat} {h : ab_H} {Q : Option Value → ab_H → Prop} {x0 : Nat} {x1 : Nat} {x2 : Int32} {x3 : Int32} {x4 : Int32} (t : ab_ok h x0 103 = true ∧ wm d 50 [.ref x0, .ref x1, .int 0] h (fun r9 h9 => wq (d + 1) 47 146 [.ref x0, .ref x1, .int x2, .int x3, .int x4] (r9.toList ++ []) h9 Q)) : wq (d + 1) 47 140 [.ref x0, .ref x1, .int x2, .int x3, .int x4] [] h Q := by
  refine g5 c_47_140 rfl ?_
  refine g5 c_47_141 rfl ?_
  refine g1 c_47_142 k_0 ?_
  exact g80 (As := [.ref x1, .int 0]) (rest := []) c_47_143 rfl rfl (Nat.le_of_ble_eq_true rfl) (Nat.le_of_ble_eq_true rfl) t.1 t.2
set_option maxRecDepth 20000 in
theorem t_47_146 {d : Nat} {h : ab_H} {Q : Option Value → ab_H → Prop} {x0 : Nat} {x1 : Nat} {x2 : Int32} {x3 : Int32} {x4 : Int32} (t : ab_ok h x1 107 = true ∧ ∃ j1 : Nat, ab_r h x1 0 = some j1 ∧ ab_ok h x1 107 = true ∧ ab_ok h j1 104 = true ∧ wm d 56 [.ref j1, .int x3, .int 7, .int (ab_i h x1 2)] h (fun r9 h9 => wq (d + 1) 47 160 [.ref x0, .ref x1, .int x2, .int x3, .int x4] (r9.toList ++ []) h9 Q)) : wq (d + 1) 47 146 [.ref x0, .ref x1, .int x2, .int x3, .int x4] [] h Q := by
  refine g5 c_47_146 rfl ?_
  obtain ⟨ho, j1, hr, t⟩ := t
  refine g45 c_47_147 ho hr ?_
  refine g3 c_47_150 rfl ?_
  refine g1 c_47_151 k_7 ?_
  refine g5 c_47_153 rfl ?_
  obtain ⟨ho, t⟩ := t
  refine g43 c_47_154 ho ?_
  exact g80 (As := [.int x3, .int 7, .int (ab_i h x1 2)]) (rest := []) c_47_157 rfl rfl (Nat.le_of_ble_eq_true rfl) (Nat.le_of_ble_eq_true rfl) t.1 t.2
set_option maxRecDepth 20000 in
theorem t_47_160 {d : Nat} {h : ab_H} {Q : Option Value → ab_H → Prop} {x0 : Nat} {x1 : Nat} {x2 : Int32} {x3 : Int32} {x4 : Int32} (t : ab_ok h x0 103 = true ∧ wm d 44 [.ref x0, .int 36] h (fun r9 h9 => wq (d + 1) 47 166 [.ref x0, .ref x1, .int x2, .int x3, .int x4] (r9.toList ++ []) h9 Q)) : wq (d + 1) 47 160 [.ref x0, .ref x1, .int x2, .int x3, .int x4] [] h Q := by
  refine g5 c_47_160 rfl ?_
  refine g1 c_47_161 k_36 ?_
  exact g80 (As := [.int 36]) (rest := []) c_47_163 rfl rfl (Nat.le_of_ble_eq_true rfl) (Nat.le_of_ble_eq_true rfl) t.1 t.2
set_option maxRecDepth 20000 in
theorem t_47_166 {d : Nat} {h : ab_H} {Q : Option Value → ab_H → Prop} {x0 : Nat} {x1 : Nat} {x2 : Int32} {x3 : Int32} {x4 : Int32} (t : Q none h) : wq d 47 166 [.ref x0, .ref x1, .int x2, .int x3, .int x4] [] h Q := by
  exact g94 c_47_166 t
-- method 48: MillTown$Reader.readEither(LMillTown$Text;)V
theorem c_48_0 : pg_cd 48 0 = (1, 1, 0, 0, 0) := by decide +kernel
theorem c_48_1 : pg_cd 48 1 = (6, 1, 0, 2, 0) := by decide +kernel
theorem c_48_2 : pg_cd 48 2 = (1, 1, 0, 0, 0) := by decide +kernel
theorem c_48_3 : pg_cd 48 3 = (6, 1, 0, 3, 0) := by decide +kernel
theorem c_48_4 : pg_cd 48 4 = (1, 1, 0, 0, 0) := by decide +kernel
theorem c_48_5 : pg_cd 48 5 = (6, 2, 0, 4, 0) := by decide +kernel
theorem c_48_7 : pg_cd 48 7 = (3, 2, 0, 4, 0) := by decide +kernel
theorem c_48_9 : pg_cd 48 9 = (5, 1, 0, 0, 0) := by decide +kernel
theorem c_48_10 : pg_cd 48 10 = (45, 3, 9, 0, 0) := by decide +kernel
theorem c_48_13 : pg_cd 48 13 = (58, 0, 0, 0, 0) := by decide +kernel
theorem c_48_14 : pg_cd 48 14 = (37, 3, 0, 3, 102) := by decide +kernel
theorem c_48_17 : pg_cd 48 17 = (5, 1, 0, 0, 0) := by decide +kernel
theorem c_48_18 : pg_cd 48 18 = (43, 3, 21, 5, 0) := by decide +kernel
theorem c_48_21 : pg_cd 48 21 = (36, 3, 0, 1, 95) := by decide +kernel
theorem c_48_24 : pg_cd 48 24 = (5, 1, 0, 0, 0) := by decide +kernel
theorem c_48_25 : pg_cd 48 25 = (5, 1, 0, 1, 0) := by decide +kernel
theorem c_48_26 : pg_cd 48 26 = (80, 49, 124, 0, 0) := by decide +kernel
theorem c_48_29 : pg_cd 48 29 = (3, 1, 0, 2, 0) := by decide +kernel
theorem c_48_30 : pg_cd 48 30 = (36, 3, 0, 0, 10) := by decide +kernel
theorem c_48_33 : pg_cd 48 33 = (5, 1, 0, 1, 0) := by decide +kernel
theorem c_48_34 : pg_cd 48 34 = (1, 2, 0, 0, 15) := by decide +kernel
theorem c_48_36 : pg_cd 48 36 = (1, 1, 0, 0, 0) := by decide +kernel
theorem c_48_37 : pg_cd 48 37 = (80, 84, 127, 0, 0) := by decide +kernel
theorem c_48_40 : pg_cd 48 40 = (5, 1, 0, 0, 0) := by decide +kernel
theorem c_48_41 : pg_cd 48 41 = (43, 3, 46, 4, 0) := by decide +kernel
theorem c_48_44 : pg_cd 48 44 = (1, 2, 0, 0, 15) := by decide +kernel
theorem c_48_46 : pg_cd 48 46 = (37, 3, 0, 1, 7) := by decide +kernel
theorem c_48_49 : pg_cd 48 49 = (1, 1, 0, 0, 1) := by decide +kernel
theorem c_48_50 : pg_cd 48 50 = (38, 3, 0, 0, 4) := by decide +kernel
theorem c_48_53 : pg_cd 48 53 = (1, 1, 0, 0, 0) := by decide +kernel
theorem c_48_54 : pg_cd 48 54 = (6, 1, 0, 2, 0) := by decide +kernel
theorem c_48_55 : pg_cd 48 55 = (3, 1, 0, 2, 0) := by decide +kernel
theorem c_48_56 : pg_cd 48 56 = (36, 3, 0, 1, 14) := by decide +kernel
theorem c_48_59 : pg_cd 48 59 = (3, 1, 0, 3, 0) := by decide +kernel
theorem c_48_60 : pg_cd 48 60 = (36, 3, 0, 0, 10) := by decide +kernel
theorem c_48_63 : pg_cd 48 63 = (5, 1, 0, 1, 0) := by decide +kernel
theorem c_48_64 : pg_cd 48 64 = (1, 2, 0, 0, 14) := by decide +kernel
theorem c_48_66 : pg_cd 48 66 = (1, 1, 0, 0, 0) := by decide +kernel
theorem c_48_67 : pg_cd 48 67 = (80, 84, 127, 0, 0) := by decide +kernel
theorem c_48_70 : pg_cd 48 70 = (3, 1, 0, 2, 0) := by decide +kernel
theorem c_48_71 : pg_cd 48 71 = (36, 3, 0, 0, 7) := by decide +kernel
theorem c_48_74 : pg_cd 48 74 = (3, 1, 0, 3, 0) := by decide +kernel
theorem c_48_75 : pg_cd 48 75 = (38, 3, 0, 0, 17) := by decide +kernel
theorem c_48_78 : pg_cd 48 78 = (5, 1, 0, 0, 0) := by decide +kernel
theorem c_48_79 : pg_cd 48 79 = (43, 3, 46, 4, 0) := by decide +kernel
theorem c_48_82 : pg_cd 48 82 = (1, 2, 0, 0, 14) := by decide +kernel
theorem c_48_84 : pg_cd 48 84 = (37, 3, 0, 1, 7) := by decide +kernel
theorem c_48_87 : pg_cd 48 87 = (1, 1, 0, 0, 1) := by decide +kernel
theorem c_48_88 : pg_cd 48 88 = (38, 3, 0, 0, 4) := by decide +kernel
theorem c_48_91 : pg_cd 48 91 = (1, 1, 0, 0, 0) := by decide +kernel
theorem c_48_92 : pg_cd 48 92 = (6, 1, 0, 3, 0) := by decide +kernel
theorem c_48_93 : pg_cd 48 93 = (3, 1, 0, 2, 0) := by decide +kernel
theorem c_48_94 : pg_cd 48 94 = (36, 3, 0, 1, 8) := by decide +kernel
theorem c_48_97 : pg_cd 48 97 = (3, 1, 0, 3, 0) := by decide +kernel
theorem c_48_98 : pg_cd 48 98 = (36, 3, 0, 1, 4) := by decide +kernel
theorem c_48_101 : pg_cd 48 101 = (94, 0, 0, 0, 0) := by decide +kernel
theorem c_48_102 : pg_cd 48 102 = (5, 1, 0, 0, 0) := by decide +kernel
theorem c_48_103 : pg_cd 48 103 = (5, 1, 0, 0, 0) := by decide +kernel
theorem c_48_104 : pg_cd 48 104 = (43, 3, 46, 4, 0) := by decide +kernel
theorem c_48_107 : pg_cd 48 107 = (80, 44, 101, 0, 0) := by decide +kernel
theorem c_48_110 : pg_cd 48 110 = (9, 3, 0, 4, 1) := by decide +kernel
theorem c_48_113 : pg_cd 48 113 = (38, 3, 0, 0, (-106)) := by decide +kernel
theorem c_48_116 : pg_cd 48 116 = (94, 0, 0, 0, 0) := by decide +kernel
theorem mx_48 : pg_mx 48 = 5 := by decide +kernel
theorem m_48 {d : Nat} {h : ab_H} {Q : Option Value → ab_H → Prop} {x0 : Nat} {x1 : Nat} (t : wq d 48 0 [.ref x0, .ref x1, .retAddr 0, .retAddr 0, .retAddr 0] [] h Q) : wm d 48 [.ref x0, .ref x1] h Q := by
  unfold wm
  rw [mx_48]
  exact t
set_option maxRecDepth 20000 in
theorem t_48_0 {d : Nat} {h : ab_H} {Q : Option Value → ab_H → Prop} {x0 : Nat} {x1 : Nat} (t : wq d 48 7 [.ref x0, .ref x1, .int 0, .int 0, .int 0] [] h Q) : wq d 48 0 [.ref x0, .ref x1, .retAddr 0, .retAddr 0, .retAddr 0] [] h Q := by
  refine g1 c_48_0 k_0 ?_
  refine g6 (L' := [.ref x0, .ref x1, .int 0, .retAddr 0, .retAddr 0]) c_48_1 rfl ?_
  refine g1 c_48_2 k_0 ?_
  refine g6 (L' := [.ref x0, .ref x1, .int 0, .int 0, .retAddr 0]) c_48_3 rfl ?_
  refine g1 c_48_4 k_0 ?_
  refine g6 (L' := [.ref x0, .ref x1, .int 0, .int 0, .int 0]) c_48_5 rfl ?_
  exact t
set_option maxRecDepth 20000 in
theorem t_48_7 {d : Nat} {h : ab_H} {Q : Option Value → ab_H → Prop} {x0 : Nat} {x1 : Nat} {x2 : Int32} {x3 : Int32} {x4 : Int32} (t : ab_ok h x0 103 = true ∧ ∃ j1 : Nat, ab_r h x0 0 = some j1 ∧ ((j1 = 0 ∧ 0 = 0) ∨ ab_ok h j1 0 = true) ∧ if (Int32.ofNat (ab_s h j1).2) ≤ x4 then (wq (d + 1) 48 116 [.ref x0, .ref x1, .int x2, .int x3, .int x4] [] h Q) else (ab_ok h x0 103 = true ∧ if (ab_i h x0 5) = 0 then (ab_ok h x0 103 = true ∧ wm d 49 [.ref x0, .ref x1] h (fun r9 h9 => wq (d + 1) 48 29 [.ref x0, .ref x1, .int x2, .int x3, .int x4] (r9.toList ++ []) h9 Q)) else (wq (d + 1) 48 116 [.ref x0, .ref x1, .int x2, .int x3, .int x4] [] h Q))) : wq (d + 1) 48 7 [.ref x0, .ref x1, .int x2, .int x3, .int x4] [] h Q := by
  refine g3 c_48_7 rfl ?_
  refine g5 c_48_9 rfl ?_
  obtain ⟨ho, j1, hr, t⟩ := t
  refine g45 c_48_10 ho hr ?_
  obtain ⟨ho, t⟩ := t
  refine g58 c_48_13 ho ?_
  refine gcm c_48_14 (gbr t rfl rfl (fun hc t => ?_) (fun hc t => ?_))
  · exact t
  · refine g5 c_48_17 rfl ?_
    obtain ⟨ho, t⟩ := t
    refine g43 c_48_18 ho ?_
    refine gif c_48_21 (gbn t (ab_c1 _ _) rfl (fun hc t => ?_) (fun hc t => ?_))
    · refine g5 c_48_24 rfl ?_
      refine g5 c_48_25 rfl ?_
      exact g80 (As := [.ref x1]) (rest := []) c_48_26 rfl rfl (Nat.le_of_ble_eq_true rfl) (Nat.le_of_ble_eq_true rfl) t.1 t.2
    · exact t
set_option maxRecDepth 20000 in
theorem t_48_29 {d : Nat} {h : ab_H} {Q : Option Value → ab_H → Prop} {x0 : Nat} {x1 : Nat} {x2 : Int32} {x3 : Int32} {x4 : Int32} (t : if x2 = 0 then (ab_ok h x0 103 = true ∧ if (ab_i h x0 4) = 15 then (wq (d + 1) 48 54 [.ref x0, .ref x1, .int x2, .int x3, .int x4] [.int 1] h Q) else (wq (d + 1) 48 54 [.ref x0, .ref x1, .int x2, .int x3, .int x4] [.int 0] h Q)) else (ab_ok h x1 107 = true ∧ wm d 84 [.ref x1, .int 15, .int 0] h (fun r9 h9 => wq (d + 1) 48 40 [.ref x0, .ref x1, .int x2, .int x3, .int x4] (r9.toList ++ []) h9 Q))) : wq (d + 1) 48 29 [.ref x0, .ref x1, .int x2, .int x3, .int x4] [] h Q := by
  refine g3 c_48_29 rfl ?_
  refine gif c_48_30 (gbr t rfl rfl (fun hc t => ?_) (fun hc t => ?_))
  · refine g5 c_48_40 rfl ?_
    obtain ⟨ho, t⟩ := t
    refine g43 c_48_41 ho ?_
    refine g1 c_48_44 k_15 ?_
    refine gcm c_48_46 (gbn t (ab_c1 _ _) rfl (fun hc t => ?_) (fun hc t => ?_))
    · refine g1 c_48_49 k_1 ?_
      refine g38 c_48_50 rfl ?_
      exact t
    · refine g1 c_48_53 k_0 ?_
      exact t
  · refine g5 c_48_33 rfl ?_
    refine g1 c_48_34 k_15 ?_
    refine g1 c_48_36 k_0 ?_
    exact g80 (As := [.int 15, .int 0]) (rest := []) c_48_37 rfl rfl (Nat.le_of_ble_eq_true rfl) (Nat.le_of_ble_eq_true rfl) t.1 t.2
set_option maxRecDepth 20000 in
theorem t_48_40 {d : Nat} {h : ab_H} {Q : Option Value → ab_H → Prop} {x0 : Nat} {x1 : Nat} {x2 : Int32} {x3 : Int32} {x4 : Int32} (t : ab_ok h x0 103 = true ∧ if (ab_i h x0 4) = 15 then (wq d 48 54 [.ref x0, .ref x1, .int x2, .int x3, .int x4] [.int 1] h Q) else (wq d 48 54 [.ref x0, .ref x1, .int x2, .int x3, .int x4] [.int 0] h Q)) : wq d 48 40 [.ref x0, .ref x1, .int x2, .int x3, .int x4] [] h Q := by
  refine g5 c_48_40 rfl ?_
  obtain ⟨ho, t⟩ := t
  refine g43 c_48_41 ho ?_
  refine g1 c_48_44 k_15 ?_
  refine gcm c_48_46 (gbn t (ab_c1 _ _) rfl (fun hc t => ?_) (fun hc t => ?_))
  · refine g1 c_48_49 k_1 ?_
    refine g38 c_48_50 rfl ?_
    exact t
  · refine g1 c_48_53 k_0 ?_
    exact t
set_option maxRecDepth 20000 in
theorem t_48_54 {d : Nat} {h : ab_H} {Q : Option Value → ab_H → Prop} {x0 : Nat} {x1 : Nat} {x2 : Int32} {x3 : Int32} {x4 : Int32} {s0 : Int32} (t : if s0 = 0 then (if x3 = 0 then (wq (d + 1) 48 70 [.ref x0, .ref x1, .int s0, .int x3, .int x4] [] h Q) else (ab_ok h x1 107 = true ∧ wm d 84 [.ref x1, .int 14, .int 0] h (fun r9 h9 => wq (d + 1) 48 70 [.ref x0, .ref x1, .int s0, .int x3, .int x4] (r9.toList ++ []) h9 Q))) else (wq (d + 1) 48 70 [.ref x0, .ref x1, .int s0, .int x3, .int x4] [] h Q)) : wq (d + 1) 48 54 [.ref x0, .ref x1, .int x2, .int x3, .int x4] [.int s0] h Q := by
  refine g6 (L' := [.ref x0, .ref x1, .int s0, .int x3, .int x4]) c_48_54 rfl ?_
  refine g3 c_48_55 rfl ?_
  refine gif c_48_56 (gbn t (ab_c1 _ _) rfl (fun hc t => ?_) (fun hc t => ?_))
  · refine g3 c_48_59 rfl ?_
    refine gif c_48_60 (gbr t rfl rfl (fun hc t => ?_) (fun hc t => ?_))
    · exact t
    · refine g5 c_48_63 rfl ?_
      refine g1 c_48_64 k_14 ?_
      refine g1 c_48_66 k_0 ?_
      exact g80 (As := [.int 14, .int 0]) (rest := []) c_48_67 rfl rfl (Nat.le_of_ble_eq_true rfl) (Nat.le_of_ble_eq_true rfl) t.1 t.2
  · exact t
set_option maxRecDepth 20000 in
theorem t_48_70 {d : Nat} {h : ab_H} {Q : Option Value → ab_H → Prop} {x0 : Nat} {x1 : Nat} {x2 : Int32} {x3 : Int32} {x4 : Int32} (t : if x2 = 0 then (ab_ok h x0 103 = true ∧ if (ab_i h x0 4) = 14 then (wq d 48 92 [.ref x0, .ref x1, .int x2, .int x3, .int x4] [.int 1] h Q) else (wq d 48 92 [.ref x0, .ref x1, .int x2, .int x3, .int x4] [.int 0] h Q)) else (wq d 48 92 [.ref x0, .ref x1, .int x2, .int x3, .int x4] [.int x3] h Q)) : wq d 48 70 [.ref x0, .ref x1, .int x2, .int x3, .int x4] [] h Q := by
  refine g3 c_48_70 rfl ?_
  refine gif c_48_71 (gbr t rfl rfl (fun hc t => ?_) (fun hc t => ?_))
  · refine g5 c_48_78 rfl ?_
    obtain ⟨ho, t⟩ := t
    refine g43 c_48_79 ho ?_
    refine g1 c_48_82 k_14 ?_
    refine gcm c_48_84 (gbn t (ab_c1 _ _) rfl (fun hc t => ?_) (fun hc t => ?_))
    · refine g1 c_48_87 k_1 ?_
      refine g38 c_48_88 rfl ?_
      exact t
    · refine g1 c_48_91 k_0 ?_
      exact t
  · refine g3 c_48_74 rfl ?_
    refine g38 c_48_75 rfl ?_
    exact t
set_option maxRecDepth 20000 in
theorem t_48_92 {d : Nat} {h : ab_H} {Q : Option Value → ab_H → Prop} {x0 : Nat} {x1 : Nat} {x2 : Int32} {x3 : Int32} {x4 : Int32} {s0 : Int32} (t : if x2 = 0 then (if s0 = 0 then (Q none h) else (wq d 48 102 [.ref x0, .ref x1, .int x2, .int s0, .int x4] [] h Q)) else (wq d 48 102 [.ref x0, .ref x1, .int x2, .int s0, .int x4] [] h Q)) : wq d 48 92 [.ref x0, .ref x1, .int x2, .int x3, .int x4] [.int s0] h Q := by
  refine g6 (L' := [.ref x0, .ref x1, .int x2, .int s0, .int x4]) c_48_92 rfl ?_
  refine g3 c_48_93 rfl ?_
  refine gif c_48_94 (gbn t (ab_c1 _ _) rfl (fun hc t => ?_) (fun hc t => ?_))
  · refine g3 c_48_97 rfl ?_
    refine gif c_48_98 (gbn t (ab_c1 _ _) rfl (fun hc t => ?_) (fun hc t => ?_))
    · exact g94 c_48_101 t
    · exact t
  · exact t
set_option maxRecDepth 20000 in
theorem t_48_102 {d : Nat} {h : ab_H} {Q : Option Value → ab_H → Prop} {x0 : Nat} {x1 : Nat} {x2 : Int32} {x3 : Int32} {x4 : Int32} (t : ab_ok h x0 103 = true ∧ ab_ok h x0 103 = true ∧ wm d 44 [.ref x0, .int (ab_i h x0 4)] h (fun r9 h9 => wq (d + 1) 48 110 [.ref x0, .ref x1, .int x2, .int x3, .int x4] (r9.toList ++ []) h9 Q)) : wq (d + 1) 48 102 [.ref x0, .ref x1, .int x2, .int x3, .int x4] [] h Q := by
  refine g5 c_48_102 rfl ?_
  refine g5 c_48_103 rfl ?_
  obtain ⟨ho, t⟩ := t
  refine g43 c_48_104 ho ?_
  exact g80 (As := [.int (ab_i h x0 4)]) (rest := []) c_48_107 rfl rfl (Nat.le_of_ble_eq_true rfl) (Nat.le_of_ble_eq_true rfl) t.1 t.2
set_option maxRecDepth 20000 in
theorem t_48_110 {d : Nat} {h : ab_H} {Q : Option Value → ab_H → Prop} {x0 : Nat} {x1 : Nat} {x2 : Int32} {x3 : Int32} {x4 : Int32} (t : wq d 48 7 [.ref x0, .ref x1, .int x2, .int x3, .int (x4 + 1)] [] h Q) : wq d 48 110 [.ref x0, .ref x1, .int x2, .int x3, .int x4] [] h Q := by
  refine g9 (L' := [.ref x0, .ref x1, .int x2, .int x3, .int (x4 + 1)]) c_48_110 rfl k_1 rfl ?_
  refine g38 c_48_113 rfl ?_
  exact t
set_option maxRecDepth 20000 in
theorem t_48_116 {d : Nat} {h : ab_H} {Q : Option Value → ab_H → Prop} {x0 : Nat} {x1 : Nat} {x2 : Int32} {x3 : Int32} {x4 : Int32} (t : Q none h) : wq d 48 116 [.ref x0, .ref x1, .int x2, .int x3, .int x4] [] h Q := by
  exact g94 c_48_116 t
-- method 49: MillTown$Reader.readAsk(LMillTown$Text;)V
theorem c_49_0 : pg_cd 49 0 = (1, 1, 0, 0, 0) := by decide +kernel
theorem c_49_1 : pg_cd 49 1 = (6, 1, 0, 2, 0) := by decide +kernel
theorem c_49_2 : pg_cd 49 2 = (1, 1, 0, 0, 0) := by decide +kernel
theorem c_49_3 : pg_cd 49 3 = (6, 1, 0, 3, 0) := by decide +kernel
theorem c_49_4 : pg_cd 49 4 = (3, 1, 0, 3, 0) := by decide +kernel
theorem c_49_5 : pg_cd 49 5 = (1, 2, 0, 0, 8) := by decide +kernel
theorem c_49_7 : pg_cd 49 7 = (37, 3, 0, 4, 45) := by decide +kernel
theorem c_49_10 : pg_cd 49 10 = (5, 1, 0, 0, 0) := by decide +kernel
theorem c_49_11 : pg_cd 49 11 = (43, 3, 21, 5, 0) := by decide +kernel
theorem c_49_14 : pg_cd 49 14 = (36, 3, 0, 1, 38) := by decide +kernel
theorem c_49_17 : pg_cd 49 17 = (5, 1, 0, 0, 0) := by decide +kernel
theorem c_49_18 : pg_cd 49 18 = (43, 3, 46, 4, 0) := by decide +kernel
theorem c_49_21 : pg_cd 49 21 = (1, 2, 0, 0, 16) := by decide +kernel
theorem c_49_23 : pg_cd 49 23 = (37, 3, 0, 1, 29) := by decide +kernel
theorem c_49_26 : pg_cd 49 26 = (3, 1, 0, 2, 0) := by decide +kernel
theorem c_49_27 : pg_cd 49 27 = (1, 2, 0, 0, 8) := by decide +kernel
theorem c_49_29 : pg_cd 49 29 = (37, 3, 0, 1, 8) := by decide +kernel
theorem c_49_32 : pg_cd 49 32 = (5, 1, 0, 0, 0) := by decide +kernel
theorem c_49_33 : pg_cd 49 33 = (1, 1, 0, 0, 3) := by decide +kernel
theorem c_49_34 : pg_cd 49 34 = (80, 43, 49, 0, 0) := by decide +kernel
theorem c_49_37 : pg_cd 49 37 = (5, 1, 0, 0, 0) := by decide +kernel
theorem c_49_38 : pg_cd 49 38 = (1, 2, 0, 0, 16) := by decide +kernel
theorem c_49_40 : pg_cd 49 40 = (80, 44, 101, 0, 0) := by decide +kernel
theorem c_49_43 : pg_cd 49 43 = (9, 3, 0, 2, 1) := by decide +kernel
theorem c_49_46 : pg_cd 49 46 = (9, 3, 0, 3, 1) := by decide +kernel
theorem c_49_49 : pg_cd 49 49 = (38, 3, 0, 0, (-45)) := by decide +kernel
theorem c_49_52 : pg_cd 49 52 = (5, 1, 0, 0, 0) := by decide +kernel
theorem c_49_53 : pg_cd 49 53 = (5, 1, 0, 1, 0) := by decide +kernel
theorem c_49_54 : pg_cd 49 54 = (3, 1, 0, 2, 0) := by decide +kernel
theorem c_49_55 : pg_cd 49 55 = (80, 50, 120, 0, 0) := by decide +kernel
theorem c_49_58 : pg_cd 49 58 = (5, 1, 0, 0, 0) := by decide +kernel
theorem c_49_59 : pg_cd 49 59 = (43, 3, 46, 4, 0) := by decide +kernel
theorem c_49_62 : pg_cd 49 62 = (6, 1, 0, 3, 0) := by decide +kernel
theorem c_49_63 : pg_cd 49 63 = (3, 1, 0, 3, 0) := by decide +kernel
theorem c_49_64 : pg_cd 49 64 = (1, 2, 0, 0, 23) := by decide +kernel
theorem c_49_66 : pg_cd 49 66 = (37, 3, 0, 2, 9) := by decide +kernel
theorem c_49_69 : pg_cd 49 69 = (3, 1, 0, 3, 0) := by decide +kernel
theorem c_49_70 : pg_cd 49 70 = (1, 2, 0, 0, 28) := by decide +kernel
theorem c_49_72 : pg_cd 49 72 = (37, 3, 0, 5, 8) := by decide +kernel
theorem c_49_75 : pg_cd 49 75 = (5, 1, 0, 0, 0) := by decide +kernel
theorem c_49_76 : pg_cd 49 76 = (1, 1, 0, 0, 1) := by decide +kernel
theorem c_49_77 : pg_cd 49 77 = (80, 43, 49, 0, 0) := by decide +kernel
theorem c_49_80 : pg_cd 49 80 = (5, 1, 0, 0, 0) := by decide +kernel
theorem c_49_81 : pg_cd 49 81 = (3, 1, 0, 3, 0) := by decide +kernel
theorem c_49_82 : pg_cd 49 82 = (80, 44, 101, 0, 0) := by decide +kernel
theorem c_49_85 : pg_cd 49 85 = (5, 1, 0, 0, 0) := by decide +kernel
theorem c_49_86 : pg_cd 49 86 = (5, 1, 0, 1, 0) := by decide +kernel
theorem c_49_87 : pg_cd 49 87 = (3, 1, 0, 2, 0) := by decide +kernel
theorem c_49_88 : pg_cd 49 88 = (80, 50, 120, 0, 0) := by decide +kernel
theorem c_49_91 : pg_cd 49 91 = (5, 1, 0, 1, 0) := by decide +kernel
theorem c_49_92 : pg_cd 49 92 = (3, 1, 0, 3, 0) := by decide +kernel
theorem c_49_93 : pg_cd 49 93 = (1, 1, 0, 0, 0) := by decide +kernel
theorem c_49_94 : pg_cd 49 94 = (80, 84, 127, 0, 0) := by decide +kernel
theorem c_49_97 : pg_cd 49 97 = (1, 1, 0, 0, 0) := by decide +kernel
theorem c_49_98 : pg_cd 49 98 = (6, 2, 0, 4, 0) := by decide +kernel
theorem c_49_100 : pg_cd 49 100 = (3, 2, 0, 4, 0) := by decide +kernel
theorem c_49_102 : pg_cd 49 102 = (3, 1, 0, 2, 0) := by decide +kernel
theorem c_49_103 : pg_cd 49 103 = (37, 3, 0, 3, 16) := by decide +kernel
theorem c_49_106 : pg_cd 49 106 = (5, 1, 0, 1, 0) := by decide +kernel
theorem c_49_107 : pg_cd 49 107 = (1, 2, 0, 0, 16) := by decide +kernel
theorem c_49_109 : pg_cd 49 109 = (1, 1, 0, 0, 0) := by decide +kernel
theorem c_49_110 : pg_cd 49 110 = (80, 84, 127, 0, 0) := by decide +kernel
theorem c_49_113 : pg_cd 49 113 = (9, 3, 0, 4, 1) := by decide +kernel
theorem c_49_116 : pg_cd 49 116 = (38, 3, 0, 0, (-16)) := by decide +kernel
theorem c_49_119 : pg_cd 49 119 = (94, 0, 0, 0, 0) := by decide +kernel
theorem mx_49 : pg_mx 49 = 5 := by decide +kernel
theorem m_49 {d : Nat} {h : ab_H} {Q : Option Value → ab_H → Prop} {x0 : Nat} {x1 : Nat} (t : wq d 49 0 [.ref x0, .ref x1, .retAddr 0, .retAddr 0, .retAddr 0] [] h Q) : wm d 49 [.ref x0, .ref x1] h Q := by
  unfold wm
  rw [mx_49]
  exact t
set_option maxRecDepth 20000 in
theorem t_49_0 {d : Nat} {h : ab_H} {Q : Option Value → ab_H → Prop} {x0 : Nat} {x1 : Nat} (t : wq d 49 4 [.ref x0, .ref x1, .int 0, .int 0, .retAddr 0] [] h Q) : wq d 49 0 [.ref x0, .ref x1, .retAddr 0, .retAddr 0, .retAddr 0] [] h Q := by
  refine g1 c_49_0 k_0 ?_
  refine g6 (L' := [.ref x0, .ref x1, .int 0, .retAddr 0, .retAddr 0]) c_49_1 rfl ?_
  refine g1 c_49_2 k_0 ?_
  refine g6 (L' := [.ref x0, .ref x1, .int 0, .int 0, .retAddr 0]) c_49_3 rfl ?_
  exact t
set_option maxRecDepth 20000 in
theorem t_49_4 {d : Nat} {h : ab_H} {Q : Option Value → ab_H → Prop} {x0 : Nat} {x1 : Nat} {x2 : Int32} {x3 : Int32} (t : if 8 < x3 then (ab_ok h x0 103 = true ∧ wm d 50 [.ref x0, .ref x1, .int x2] h (fun r9 h9 => wq (d + 1) 49 58 [.ref x0, .ref x1, .int x2, .int x3, .retAddr 0] (r9.toList ++ []) h9 Q)) else (ab_ok h x0 103 = true ∧ if (ab_i h x0 5) = 0 then (ab_ok h x0 103 = true ∧ if (ab_i h x0 4) = 16 then (if x2 = 8 then (ab_ok h x0 103 = true ∧ wm d 43 [.ref x0, .int 3] h (fun r9 h9 => wq (d + 1) 49 37 [.ref x0, .ref x1, .int x2, .int x3, .retAddr 0] (r9.toList ++ []) h9 Q)) else (ab_ok h x0 103 = true ∧ wm d 44 [.ref x0, .int 16] h (fun r9 h9 => wq (d + 1) 49 43 [.ref x0, .ref x1, .int x2, .int x3, .retAddr 0] (r9.toList ++ []) h9 Q))) else (ab_ok h x0 103 = true ∧ wm d 50 [.ref x0, .ref x1, .int x2] h (fun r9 h9 => wq (d + 1) 49 58 [.ref x0, .ref x1, .int x2, .int x3, .retAddr 0] (r9.toList ++ []) h9 Q))) else (ab_ok h x0 103 = true ∧ wm d 50 [.ref x0, .ref x1, .int x2] h (fun r9 h9 => wq (d + 1) 49 58 [.ref x0, .ref x1, .int x2, .int x3, .retAddr 0] (r9.toList ++ []) h9 Q)))) : wq (d + 1) 49 4 [.ref x0, .ref x1, .int x2, .int x3, .retAddr 0] [] h Q := by
  refine g3 c_49_4 rfl ?_
  refine g1 c_49_5 k_8 ?_
  refine gcm c_49_7 (gbr t rfl rfl (fun hc t => ?_) (fun hc t => ?_))
  · refine g5 c_49_52 rfl ?_
    refine g5 c_49_53 rfl ?_
    refine g3 c_49_54 rfl ?_
    exact g80 (As := [.ref x1, .int x2]) (rest := []) c_49_55 rfl rfl (Nat.le_of_ble_eq_true rfl) (Nat.le_of_ble_eq_true rfl) t.1 t.2
  · refine g5 c_49_10 rfl ?_
    obtain ⟨ho, t⟩ := t
    refine g43 c_49_11 ho ?_
    refine gif c_49_14 (gbn t (ab_c1 _ _) rfl (fun hc t => ?_) (fun hc t => ?_))
    · refine g5 c_49_17 rfl ?_
      obtain ⟨ho, t⟩ := t
      refine g43 c_49_18 ho ?_
      refine g1 c_49_21 k_16 ?_
      refine gcm c_49_23 (gbn t (ab_c1 _ _) rfl (fun hc t => ?_) (fun hc t => ?_))
      · refine g3 c_49_26 rfl ?_
        refine g1 c_49_27 k_8 ?_
        refine gcm c_49_29 (gbn t (ab_c1 _ _) rfl (fun hc t => ?_) (fun hc t => ?_))
        · refine g5 c_49_32 rfl ?_
          refine g1 c_49_33 k_3 ?_
          exact g80 (As := [.int 3]) (rest := []) c_49_34 rfl rfl (Nat.le_of_ble_eq_true rfl) (Nat.le_of_ble_eq_true rfl) t.1 t.2
        · refine g5 c_49_37 rfl ?_
          refine g1 c_49_38 k_16 ?_
          exact g80 (As := [.int 16]) (rest := []) c_49_40 rfl rfl (Nat.le_of_ble_eq_true rfl) (Nat.le_of_ble_eq_true rfl) t.1 t.2
      · refine g5 c_49_52 rfl ?_
        refine g5 c_49_53 rfl ?_
        refine g3 c_49_54 rfl ?_
        exact g80 (As := [.ref x1, .int x2]) (rest := []) c_49_55 rfl rfl (Nat.le_of_ble_eq_true rfl) (Nat.le_of_ble_eq_true rfl) t.1 t.2
    · refine g5 c_49_52 rfl ?_
      refine g5 c_49_53 rfl ?_
      refine g3 c_49_54 rfl ?_
      exact g80 (As := [.ref x1, .int x2]) (rest := []) c_49_55 rfl rfl (Nat.le_of_ble_eq_true rfl) (Nat.le_of_ble_eq_true rfl) t.1 t.2
set_option maxRecDepth 20000 in
theorem t_49_37 {d : Nat} {h : ab_H} {Q : Option Value → ab_H → Prop} {x0 : Nat} {x1 : Nat} {x2 : Int32} {x3 : Int32} (t : ab_ok h x0 103 = true ∧ wm d 44 [.ref x0, .int 16] h (fun r9 h9 => wq (d + 1) 49 43 [.ref x0, .ref x1, .int x2, .int x3, .retAddr 0] (r9.toList ++ []) h9 Q)) : wq (d + 1) 49 37 [.ref x0, .ref x1, .int x2, .int x3, .retAddr 0] [] h Q := by
  refine g5 c_49_37 rfl ?_
  refine g1 c_49_38 k_16 ?_
  exact g80 (As := [.int 16]) (rest := []) c_49_40 rfl rfl (Nat.le_of_ble_eq_true rfl) (Nat.le_of_ble_eq_true rfl) t.1 t.2
set_option maxRecDepth 20000 in
theorem t_49_43 {d : Nat} {h : ab_H} {Q : Option Value → ab_H → Prop} {x0 : Nat} {x1 : Nat} {x2 : Int32} {x3 : Int32} (t : wq d 49 4 [.ref x0, .ref x1, .int (x2 + 1), .int (x3 + 1), .retAddr 0] [] h Q) : wq d 49 43 [.ref x0, .ref x1, .int x2, .int x3, .retAddr 0] [] h Q := by
  refine g9 (L' := [.ref x0, .ref x1, .int (x2 + 1), .int x3, .retAddr 0]) c_49_43 rfl k_1 rfl ?_
  refine g9 (L' := [.ref x0, .ref x1, .int (x2 + 1), .int (x3 + 1), .retAddr 0]) c_49_46 rfl k_1 rfl ?_
  refine g38 c_49_49 rfl ?_
  exact t
set_option maxRecDepth 20000 in
theorem t_49_58 {d : Nat} {h : ab_H} {Q : Option Value → ab_H → Prop} {x0 : Nat} {x1 : Nat} {x2 : Int32} {x3 : Int32} (t : ab_ok h x0 103 = true ∧ if (ab_i h x0 4) < 23 then (ab_ok h x0 103 = true ∧ wm d 43 [.ref x0, .int 1] h (fun r9 h9 => wq (d + 1) 49 80 [.ref x0, .ref x1, .int x2, .int (ab_i h x0 4), .retAddr 0] (r9.toList ++ []) h9 Q)) else (if (ab_i h x0 4) ≤ 28 then (ab_ok h x0 103 = true ∧ wm d 44 [.ref x0, .int (ab_i h x0 4)] h (fun r9 h9 => wq (d + 1) 49 85 [.ref x0, .ref x1, .int x2, .int (ab_i h x0 4), .retAddr 0] (r9.toList ++ []) h9 Q)) else (ab_ok h x0 103 = true ∧ wm d 43 [.ref x0, .int 1] h (fun r9 h9 => wq (d + 1) 49 80 [.ref x0, .ref x1, .int x2, .int (ab_i h x0 4), .retAddr 0] (r9.toList ++ []) h9 Q)))) : wq (d + 1) 49 58 [.ref x0, .ref x1, .int x2, .int x3, .retAddr 0] [] h Q := by
  refine g5 c_49_58 rfl ?_
  obtain ⟨ho, t⟩ := t
  refine g43 c_49_59 ho ?_
  refine g6 (L' := [.ref x0, .ref x1, .int x2, .int (ab_i h x0 4), .retAddr 0]) c_49_62 rfl ?_
  refine g3 c_49_63 rfl ?_
  refine g1 c_49_64 k_23 ?_
  refine gcm c_49_66 (gbr t rfl rfl (fun hc t => ?_) (fun hc t => ?_))
  · refine g5 c_49_75 rfl ?_
    refine g1 c_49_76 k_1 ?_
    exact g80 (As := [.int 1]) (rest := []) c_49_77 rfl rfl (Nat.le_of_ble_eq_true rfl) (Nat.le_of_ble_eq_true rfl) t.1 t.2
  · refine g3 c_49_69 rfl ?_
    refine g1 c_49_70 k_28 ?_
    refine gcm c_49_72 (gbr t rfl rfl (fun hc t => ?_) (fun hc t => ?_))
    · refine g5 c_49_80 rfl ?_
      refine g3 c_49_81 rfl ?_
      exact g80 (As := [.int (ab_i h x0 4)]) (rest := []) c_49_82 rfl rfl (Nat.le_of_ble_eq_true rfl) (Nat.le_of_ble_eq_true rfl) t.1 t.2
    · refine g5 c_49_75 rfl ?_
      refine g1 c_49_76 k_1 ?_
      exact g80 (As := [.int 1]) (rest := []) c_49_77 rfl rfl (Nat.le_of_ble_eq_true rfl) (Nat.le_of_ble_eq_true rfl) t.1 t.2
set_option maxRecDepth 20000 in
theorem t_49_80 {d : Nat} {h : ab_H} {Q : Option Value → ab_H → Prop} {x0 : Nat} {x1 : Nat} {x2 : Int32} {x3 : Int32} (t : ab_ok h x0 103 = true ∧ wm d 44 [.ref x0, .int x3] h (fun r9 h9 => wq (d + 1) 49 85 [.ref x0, .ref x1, .int x2, .int x3, .retAddr 0] (r9.toList ++ []) h9 Q)) : wq (d + 1) 49 80 [.ref x0, .ref x1, .int x2, .int x3, .retAddr 0] [] h Q := by
  refine g5 c_49_80 rfl ?_
  refine g3 c_49_81 rfl ?_
  exact g80 (As := [.int x3]) (rest := []) c_49_82 rfl rfl (Nat.le_of_ble_eq_true rfl) (Nat.le_of_ble_eq_true rfl) t.1 t.2
set_option maxRecDepth 20000 in
theorem t_49_85 {d : Nat} {h : ab_H} {Q : Option Value → ab_H → Prop} {x0 : Nat} {x1 : Nat} {x2 : Int32} {x3 : Int32} (t : ab_ok h x0 103 = true ∧ wm d 50 [.ref x0, .ref x1, .int x2] h (fun r9 h9 => wq (d + 1) 49 91 [.ref x0, .ref x1, .int x2, .int x3, .retAddr 0] (r9.toList ++ []) h9 Q)) : wq (d + 1) 49 85 [.ref x0, .ref x1, .int x2, .int x3, .retAddr 0] [] h Q := by
  refine g5 c_49_85 rfl ?_
  refine g5 c_49_86 rfl ?_
  refine g3 c_49_87 rfl ?_
  exact g80 (As := [.ref x1, .int x2]) (rest := []) c_49_88 rfl rfl (Nat.le_of_ble_eq_true rfl) (Nat.le_of_ble_eq_true rfl) t.1 t.2
set_option maxRecDepth 20000 in
theorem t_49_91 {d : Nat} {h : ab_H} {Q : Option Value → ab_H → Prop} {x0 : Nat} {x1 : Nat} {x2 : Int32} {x3 : Int32} (t : ab_ok h x1 107 = true ∧ wm d 84 [.ref x1, .int x3, .int 0] h (fun r9 h9 => wq (d + 1) 49 97 [.ref x0, .ref x1, .int x2, .int x3, .retAddr 0] (r9.toList ++ []) h9 Q)) : wq (d + 1) 49 91 [.ref x0, .ref x1, .int x2, .int x3, .retAddr 0] [] h Q := by
  refine g5 c_49_91 rfl ?_
  refine g3 c_49_92 rfl ?_
  refine g1 c_49_93 k_0 ?_
  exact g80 (As := [.int x3, .int 0]) (rest := []) c_49_94 rfl rfl (Nat.le_of_ble_eq_true rfl) (Nat.le_of_ble_eq_true rfl) t.1 t.2
set_option maxRecDepth 20000 in
theorem t_49_97 {d : Nat} {h : ab_H} {Q : Option Value → ab_H → Prop} {x0 : Nat} {x1 : Nat} {x2 : Int32} {x3 : Int32} (t : wq d 49 100 [.ref x0, .ref x1, .int x2, .int x3, .int 0] [] h Q) : wq d 49 97 [.ref x0, .ref x1, .int x2, .int x3, .retAddr 0] [] h Q := by
  refine g1 c_49_97 k_0 ?_
  refine g6 (L' := [.ref x0, .ref x1, .int x2, .int x3, .int 0]) c_49_98 rfl ?_
  exact t
set_option maxRecDepth 20000 in
theorem t_49_100 {d : Nat} {h : ab_H} {Q : Option Value → ab_H → Prop} {x0 : Nat} {x1 : Nat} {x2 : Int32} {x3 : Int32} {x4 : Int32} (t : if x2 ≤ x4 then (Q none h) else (ab_ok h x1 107 = true ∧ wm d 84 [.ref x1, .int 16, .int 0] h (fun r9 h9 => wq (d + 1) 49 113 [.ref x0, .ref x1, .int x2, .int x3, .int x4] (r9.toList ++ []) h9 Q))) : wq (d + 1) 49 100 [.ref x0, .ref x1, .int x2, .int x3, .int x4] [] h Q := by
  refine g3 c_49_100 rfl ?_
  refine g3 c_49_102 rfl ?_
  refine gcm c_49_103 (gbr t rfl rfl (fun hc t => ?_) (fun hc t => ?_))
  · exact g94 c_49_119 t
  · refine g5 c_49_106 rfl ?_
    refine g1 c_49_107 k_16 ?_
    refine g1 c_49_109 k_0 ?_
    exact g80 (As := [.int 16, .int 0]) (rest := []) c_49_110 rfl rfl (Nat.le_of_ble_eq_true rfl) (Nat.le_of_ble_eq_true rfl) t.1 t.2
set_option maxRecDepth 20000 in
theorem t_49_113 {d : Nat} {h : ab_H} {Q : Option Value → ab_H → Prop} {x0 : Nat} {x1 : Nat} {x2 : Int32} {x3 : Int32} {x4 : Int32} (t : wq d 49 100 [.ref x0, .ref x1, .int x2, .int x3, .int (x4 + 1)] [] h Q) : wq d 49 113 [.ref x0, .ref x1, .int x2, .int x3, .int x4] [] h Q := by
  refine g9 (L' := [.ref x0, .ref x1, .int x2, .int x3, .int (x4 + 1)]) c_49_113 rfl k_1 rfl ?_
  refine g38 c_49_116 rfl ?_
  exact t
-- method 50: MillTown$Reader.readSum(LMillTown$Text;I)V
theorem c_50_0 : pg_cd 50 0 = (1, 1, 0, 0, 0) := by decide +kernel
theorem c_50_1 : pg_cd 50 1 = (6, 1, 0, 3, 0) := by decide +kernel
theorem c_50_2 : pg_cd 50 2 = (1, 1, 0, 0, 0) := by decide +kernel
theorem c_50_3 : pg_cd 50 3 = (6, 2, 0, 4, 0) := by decide +kernel
theorem c_50_5 : pg_cd 50 5 = (3, 2, 0, 4, 0) := by decide +kernel
theorem c_50_7 : pg_cd 50 7 = (5, 1, 0, 0, 0) := by decide +kernel
theorem c_50_8 : pg_cd 50 8 = (45, 3, 9, 0, 0) := by decide +kernel
theorem c_50_11 : pg_cd 50 11 = (58, 0, 0, 0, 0) := by decide +kernel
theorem c_50_12 : pg_cd 50 12 = (37, 3, 0, 3, 124) := by decide +kernel
theorem c_50_15 : pg_cd 50 15 = (5, 1, 0, 0, 0) := by decide +kernel
theorem c_50_16 : pg_cd 50 16 = (43, 3, 21, 5, 0) := by decide +kernel
theorem c_50_19 : pg_cd 50 19 = (36, 3, 0, 1, 117) := by decide +kernel
theorem c_50_22 : pg_cd 50 22 = (5, 1, 0, 0, 0) := by decide +kernel
theorem c_50_23 : pg_cd 50 23 = (5, 1, 0, 1, 0) := by decide +kernel
theorem c_50_24 : pg_cd 50 24 = (3, 1, 0, 2, 0) := by decide +kernel
theorem c_50_25 : pg_cd 50 25 = (80, 51, 131, 0, 0) := by decide +kernel
theorem c_50_28 : pg_cd 50 28 = (1, 1, 0, 0, 0) := by decide +kernel
theorem c_50_29 : pg_cd 50 29 = (6, 2, 0, 5, 0) := by decide +kernel
theorem c_50_31 : pg_cd 50 31 = (3, 2, 0, 5, 0) := by decide +kernel
theorem c_50_33 : pg_cd 50 33 = (5, 1, 0, 0, 0) := by decide +kernel
theorem c_50_34 : pg_cd 50 34 = (45, 3, 9, 0, 0) := by decide +kernel
theorem c_50_37 : pg_cd 50 37 = (58, 0, 0, 0, 0) := by decide +kernel
theorem c_50_38 : pg_cd 50 38 = (37, 3, 0, 3, 59) := by decide +kernel
theorem c_50_41 : pg_cd 50 41 = (5, 1, 0, 0, 0) := by decide +kernel
theorem c_50_42 : pg_cd 50 42 = (43, 3, 21, 5, 0) := by decide +kernel
theorem c_50_45 : pg_cd 50 45 = (36, 3, 0, 1, 52) := by decide +kernel
theorem c_50_48 : pg_cd 50 48 = (5, 1, 0, 0, 0) := by decide +kernel
theorem c_50_49 : pg_cd 50 49 = (43, 3, 46, 4, 0) := by decide +kernel
theorem c_50_52 : pg_cd 50 52 = (1, 2, 0, 0, 31) := by decide +kernel
theorem c_50_54 : pg_cd 50 54 = (37, 3, 0, 0, 12) := by decide +kernel
theorem c_50_57 : pg_cd 50 57 = (5, 1, 0, 0, 0) := by decide +kernel
theorem c_50_58 : pg_cd 50 58 = (43, 3, 46, 4, 0) := by decide +kernel
theorem c_50_61 : pg_cd 50 61 = (1, 2, 0, 0, 32) := by decide +kernel
theorem c_50_63 : pg_cd 50 63 = (37, 3, 0, 1, 34) := by decide +kernel
theorem c_50_66 : pg_cd 50 66 = (5, 1, 0, 0, 0) := by decide +kernel
theorem c_50_67 : pg_cd 50 67 = (43, 3, 46, 4, 0) := by decide +kernel
theorem c_50_70 : pg_cd 50 70 = (6, 2, 0, 6, 0) := by decide +kernel
theorem c_50_72 : pg_cd 50 72 = (5, 1, 0, 0, 0) := by decide +kernel
theorem c_50_73 : pg_cd 50 73 = (3, 2, 0, 6, 0) := by decide +kernel
theorem c_50_75 : pg_cd 50 75 = (80, 44, 101, 0, 0) := by decide +kernel
theorem c_50_78 : pg_cd 50 78 = (5, 1, 0, 0, 0) := by decide +kernel
theorem c_50_79 : pg_cd 50 79 = (5, 1, 0, 1, 0) := by decide +kernel
theorem c_50_80 : pg_cd 50 80 = (3, 1, 0, 2, 0) := by decide +kernel
theorem c_50_81 : pg_cd 50 81 = (80, 51, 131, 0, 0) := by decide +kernel
theorem c_50_84 : pg_cd 50 84 = (5, 1, 0, 1, 0) := by decide +kernel
theorem c_50_85 : pg_cd 50 85 = (3, 2, 0, 6, 0) := by decide +kernel
theorem c_50_87 : pg_cd 50 87 = (1, 1, 0, 0, 0) := by decide +kernel
theorem c_50_88 : pg_cd 50 88 = (80, 84, 127, 0, 0) := by decide +kernel
theorem c_50_91 : pg_cd 50 91 = (9, 3, 0, 5, 1) := by decide +kernel
theorem c_50_94 : pg_cd 50 94 = (38, 3, 0, 0, (-63)) := by decide +kernel
theorem c_50_97 : pg_cd 50 97 = (3, 1, 0, 3, 0) := by decide +kernel
theorem c_50_98 : pg_cd 50 98 = (36, 3, 0, 0, 9) := by decide +kernel
theorem c_50_101 : pg_cd 50 101 = (5, 1, 0, 1, 0) := by decide +kernel
theorem c_50_102 : pg_cd 50 102 = (3, 1, 0, 3, 0) := by decide +kernel
theorem c_50_103 : pg_cd 50 103 = (1, 1, 0, 0, 0) := by decide +kernel
theorem c_50_104 : pg_cd 50 104 = (80, 84, 127, 0, 0) := by decide +kernel
theorem c_50_107 : pg_cd 50 107 = (5, 1, 0, 0, 0) := by decide +kernel
theorem c_50_108 : pg_cd 50 108 = (43, 3, 46, 4, 0) := by decide +kernel
theorem c_50_111 : pg_cd 50 111 = (6, 1, 0, 3, 0) := by decide +kernel
theorem c_50_112 : pg_cd 50 112 = (3, 1, 0, 3, 0) := by decide +kernel
theorem c_50_113 : pg_cd 50 113 = (1, 2, 0, 0, 29) := by decide +kernel
theorem c_50_115 : pg_cd 50 115 = (37, 3, 0, 0, 10) := by decide +kernel
theorem c_50_118 : pg_cd 50 118 = (3, 1, 0, 3, 0) := by decide +kernel
theorem c_50_119 : pg_cd 50 119 = (1, 2, 0, 0, 30) := by decide +kernel
theorem c_50_121 : pg_cd 50 121 = (37, 3, 0, 0, 4) := by decide +kernel
theorem c_50_124 : pg_cd 50 124 = (94, 0, 0, 0, 0) := by decide +kernel
theorem c_50_125 : pg_cd 50 125 = (5, 1, 0, 0, 0) := by decide +kernel
theorem c_50_126 : pg_cd 50 126 = (3, 1, 0, 3, 0) := by decide +kernel
theorem c_50_127 : pg_cd 50 127 = (80, 44, 101, 0, 0) := by decide +kernel
theorem c_50_130 : pg_cd 50 130 = (9, 3, 0, 4, 1) := by decide +kernel
theorem c_50_133 : pg_cd 50 133 = (38, 3, 0, 0, (-128)) := by decide +kernel
theorem c_50_136 : pg_cd 50 136 = (94, 0, 0, 0, 0) := by decide +kernel
theorem mx_50 : pg_mx 50 = 7 := by decide +kernel
theorem m_50 {d : Nat} {h : ab_H} {Q : Option Value → ab_H → Prop} {x0 : Nat} {x1 : Nat} {x2 : Int32} (t : wq d 50 0 [.ref x0, .ref x1, .int x2, .retAddr 0, .retAddr 0, .retAddr 0, .retAddr 0] [] h Q) : wm d 50 [.ref x0, .ref x1, .int x2] h Q := by
  unfold wm
  rw [mx_50]
  exact t
set_option maxRecDepth 20000 in
theorem t_50_0 {d : Nat} {h : ab_H} {Q : Option Value → ab_H → Prop} {x0 : Nat} {x1 : Nat} {x2 : Int32} (t : wq d 50 5 [.ref x0, .ref x1, .int x2, .int 0, .int 0, .retAddr 0, .retAddr 0] [] h Q) : wq d 50 0 [.ref x0, .ref x1, .int x2, .retAddr 0, .retAddr 0, .retAddr 0, .retAddr 0] [] h Q := by
  refine g1 c_50_0 k_0 ?_
  refine g6 (L' := [.ref x0, .ref x1, .int x2, .int 0, .retAddr 0, .retAddr 0, .retAddr 0]) c_50_1 rfl ?_
  refine g1 c_50_2 k_0 ?_
  refine g6 (L' := [.ref x0, .ref x1, .int x2, .int 0, .int 0, .retAddr 0, .retAddr 0]) c_50_3 rfl ?_
  exact t
set_option maxRecDepth 20000 in
theorem t_50_5 {d : Nat} {h : ab_H} {Q : Option Value → ab_H → Prop} {x0 : Nat} {x1 : Nat} {x2 : Int32} {x3 : Int32} {x4 : Int32} (t : ab_ok h x0 103 = true ∧ ∃ j1 : Nat, ab_r h x0 0 = some j1 ∧ ((j1 = 0 ∧ 0 = 0) ∨ ab_ok h j1 0 = true) ∧ if (Int32.ofNat (ab_s h j1).2) ≤ x4 then (Q none h) else (ab_ok h x0 103 = true ∧ if (ab_i h x0 5) = 0 then (ab_ok h x0 103 = true ∧ wm d 51 [.ref x0, .ref x1, .int x2] h (fun r9 h9 => wq (d + 1) 50 28 [.ref x0, .ref x1, .int x2, .int x3, .int x4, .retAddr 0, .retAddr 0] (r9.toList ++ []) h9 Q)) else (Q none h))) : wq (d + 1) 50 5 [.ref x0, .ref x1, .int x2, .int x3, .int x4, .retAddr 0, .retAddr 0] [] h Q := by
  refine g3 c_50_5 rfl ?_
  refine g5 c_50_7 rfl ?_
  obtain ⟨ho, j1, hr, t⟩ := t
  refine g45 c_50_8 ho hr ?_
  obtain ⟨ho, t⟩ := t
  refine g58 c_50_11 ho ?_
  refine gcm c_50_12 (gbr t rfl rfl (fun hc t => ?_) (fun hc t => ?_))
  · exact g94 c_50_136 t
  · refine g5 c_50_15 rfl ?_
    obtain ⟨ho, t⟩ := t
    refine g43 c_50_16 ho ?_
    refine gif c_50_19 (gbn t (ab_c1 _ _) rfl (fun hc t => ?_) (fun hc t => ?_))
    · refine g5 c_50_22 rfl ?_
      refine g5 c_50_23 rfl ?_
      refine g3 c_50_24 rfl ?_
      exact g80 (As := [.ref x1, .int x2]) (rest := []) c_50_25 rfl rfl (Nat.le_of_ble_eq_true rfl) (Nat.le_of_ble_eq_true rfl) t.1 t.2
    · exact g94 c_50_136 t
set_option maxRecDepth 20000 in
theorem t_50_28 {d : Nat} {h : ab_H} {Q : Option Value → ab_H → Prop} {x0 : Nat} {x1 : Nat} {x2 : Int32} {x3 : Int32} {x4 : Int32} (t : wq d 50 31 [.ref x0, .ref x1, .int x2, .int x3, .int x4, .int 0, .retAddr 0] [] h Q) : wq d 50 28 [.ref x0, .ref x1, .int x2, .int x3, .int x4, .retAddr 0, .retAddr 0] [] h Q := by
  refine g1 c_50_28 k_0 ?_
  refine g6 (L' := [.ref x0, .ref x1, .int x2, .int x3, .int x4, .int 0, .retAddr 0]) c_50_29 rfl ?_
  exact t
set_option maxRecDepth 20000 in
theorem t_50_31 {d : Nat} {h : ab_H} {Q : Option Value → ab_H → Prop} {x0 : Nat} {x1 : Nat} {x2 : Int32} {x3 : Int32} {x4 : Int32} {x5 : Int32} (t : ab_ok h x0 103 = true ∧ ∃ j1 : Nat, ab_r h x0 0 = some j1 ∧ ((j1 = 0 ∧ 0 = 0) ∨ ab_ok h j1 0 = true) ∧ if (Int32.ofNat (ab_s h j1).2) ≤ x5 then (if x3 = 0 then (ab_ok h x0 103 = true ∧ if (ab_i h x0 4) = 29 then (ab_ok h x0 103 = true ∧ wm d 44 [.ref x0, .int (ab_i h x0 4)] h (fun r9 h9 => wq (d + 1) 50 130 [.ref x0, .ref x1, .int x2, .int (ab_i h x0 4), .int x4, .int x5, .retAddr 0] (r9.toList ++ []) h9 Q)) else (if (ab_i h x0 4) = 30 then (ab_ok h x0 103 = true ∧ wm d 44 [.ref x0, .int (ab_i h x0 4)] h (fun r9 h9 => wq (d + 1) 50 130 [.ref x0, .ref x1, .int x2, .int (ab_i h x0 4), .int x4, .int x5, .retAddr 0] (r9.toList ++ []) h9 Q)) else (Q none h))) else (ab_ok h x1 107 = true ∧ wm d 84 [.ref x1, .int x3, .int 0] h (fun r9 h9 => wq (d + 1) 50 107 [.ref x0, .ref x1, .int x2, .int x3, .int x4, .int x5, .retAddr 0] (r9.toList ++ []) h9 Q))) else (ab_ok h x0 103 = true ∧ if (ab_i h x0 5) = 0 then (ab_ok h x0 103 = true ∧ if (ab_i h x0 4) = 31 then (ab_ok h x0 103 = true ∧ ab_ok h x0 103 = true ∧ wm d 44 [.ref x0, .int (ab_i h x0 4)] h (fun r9 h9 => wq (d + 1) 50 78 [.ref x0, .ref x1, .int x2, .int x3, .int x4, .int x5, .int (ab_i h x0 4)] (r9.toList ++ []) h9 Q)) else (ab_ok h x0 103 = true ∧ if (ab_i h x0 4) = 32 then (ab_ok h x0 103 = true ∧ ab_ok h x0 103 = true ∧ wm d 44 [.ref x0, .int (ab_i h x0 4)] h (fun r9 h9 => wq (d + 1) 50 78 [.ref x0, .ref x1, .int x2, .int x3, .int x4, .int x5, .int (ab_i h x0 4)] (r9.toList ++ []) h9 Q)) else (if x3 = 0 then (ab_ok h x0 103 = true ∧ if (ab_i h x0 4) = 29 then (ab_ok h x0 103 = true ∧ wm d 44 [.ref x0, .int (ab_i h x0 4)] h (fun r9 h9 => wq (d + 1) 50 130 [.ref x0, .ref x1, .int x2, .int (ab_i h x0 4), .int x4, .int x5, .retAddr 0] (r9.toList ++ []) h9 Q)) else (if (ab_i h x0 4) = 30 then (ab_ok h x0 103 = true ∧ wm d 44 [.ref x0, .int (ab_i h x0 4)] h (fun r9 h9 => wq (d + 1) 50 130 [.ref x0, .ref x1, .int x2, .int (ab_i h x0 4), .int x4, .int x5, .retAddr 0] (r9.toList ++ []) h9 Q)) else (Q none h))) else (ab_ok h x1 107 = true ∧ wm d 84 [.ref x1, .int x3, .int 0] h (fun r9 h9 => wq (d + 1) 50 107 [.ref x0, .ref x1, .int x2, .int x3, .int x4, .int x5, .retAddr 0] (r9.toList ++ []) h9 Q))))) else (if x3 = 0 then (ab_ok h x0 103 = true ∧ if (ab_i h x0 4) = 29 then (ab_ok h x0 103 = true ∧ wm d 44 [.ref x0, .int (ab_i h x0 4)] h (fun r9 h9 => wq (d + 1) 50 130 [.ref x0, .ref x1, .int x2, .int (ab_i h x0 4), .int x4, .int x5, .retAddr 0] (r9.toList ++ []) h9 Q)) else (if (ab_i h x0 4) = 30 then (ab_ok h x0 103 = true ∧ wm d 44 [.ref x0, .int (ab_i h x0 4)] h (fun r9 h9 => wq (d + 1) 50 130 [.ref x0, .ref x1, .int x2, .int (ab_i h x0 4), .int x4, .int x5, .retAddr 0] (r9.toList ++ []) h9 Q)) else (Q none h))) else (ab_ok h x1 107 = true ∧ wm d 84 [.ref x1, .int x3, .int 0] h (fun r9 h9 => wq (d + 1) 50 107 [.ref x0, .ref x1, .int x2, .int x3, .int x4, .int x5, .retAddr 0] (r9.toList ++ []) h9 Q))))) : wq (d + 1) 50 31 [.ref x0, .ref x1, .int x2, .int x3, .int x4, .int x5, .retAddr 0] [] h Q := by
  refine g3 c_50_31 rfl ?_
  refine g5 c_50_33 rfl ?_
  obtain ⟨ho, j1, hr, t⟩ := t
  refine g45 c_50_34 ho hr ?_
  obtain ⟨ho, t⟩ := t
  refine g58 c_50_37 ho ?_
  refine gcm c_50_38 (gbr t rfl rfl (fun hc t => ?_) (fun hc t => ?_))
  · refine g3 c_50_97 rfl ?_
    refine gif c_50_98 (gbr t rfl rfl (fun hc t => ?_) (fun hc t => ?_))
    · refine g5 c_50_107 rfl ?_
      obtain ⟨ho, t⟩ := t
      refine g43 c_50_108 ho ?_
      refine g6 (L' := [.ref x0, .ref x1, .int x2, .int (ab_i h x0 4), .int x4, .int x5, .retAddr 0]) c_50_111 rfl ?_
      refine g3 c_50_112 rfl ?_
      refine g1 c_50_113 k_29 ?_
      refine gcm c_50_115 (gbr t rfl rfl (fun hc t => ?_) (fun hc t => ?_))
      · refine g5 c_50_125 rfl ?_
        refine g3 c_50_126 rfl ?_
        exact g80 (As := [.int (ab_i h x0 4)]) (rest := []) c_50_127 rfl rfl (Nat.le_of_ble_eq_true rfl) (Nat.le_of_ble_eq_true rfl) t.1 t.2
      · refine g3 c_50_118 rfl ?_
        refine g1 c_50_119 k_30 ?_
        refine gcm c_50_121 (gbr t rfl rfl (fun hc t => ?_) (fun hc t => ?_))
        · refine g5 c_50_125 rfl ?_
          refine g3 c_50_126 rfl ?_
          exact g80 (As := [.int (ab_i h x0 4)]) (rest := []) c_50_127 rfl rfl (Nat.le_of_ble_eq_true rfl) (Nat.le_of_ble_eq_true rfl) t.1 t.2
        · exact g94 c_50_124 t
    · refine g5 c_50_101 rfl ?_
      refine g3 c_50_102 rfl ?_
      refine g1 c_50_103 k_0 ?_
      exact g80 (As := [.int x3, .int 0]) (rest := []) c_50_104 rfl rfl (Nat.le_of_ble_eq_true rfl) (Nat.le_of_ble_eq_true rfl) t.1 t.2
  · refine g5 c_50_41 rfl ?_
    obtain ⟨ho, t⟩ := t
    refine g43 c_50_42 ho ?_
    refine gif c_50_45 (gbn t (ab_c1 _ _) rfl (fun hc t => ?_) (fun hc t => ?_))
    · refine g5 c_50_48 rfl ?_
      obtain ⟨ho, t⟩ := t
      refine g43 c_50_49 ho ?_
      refine g1 c_50_52 k_31 ?_
      refine gcm c_50_54 (gbr t rfl rfl (fun hc t => ?_) (fun hc t => ?_))
      · refine g5 c_50_66 rfl ?_
        obtain ⟨ho, t⟩ := t
        refine g43 c_50_67 ho ?_
        refine g6 (L' := [.ref x0, .ref x1, .int x2, .int x3, .int x4, .int x5, .int (ab_i h x0 4)]) c_50_70 rfl ?_
        refine g5 c_50_72 rfl ?_
        refine g3 c_50_73 rfl ?_
        exact g80 (As := [.int (ab_i h x0 4)]) (rest := []) c_50_75 rfl rfl (Nat.le_of_ble_eq_true rfl) (Nat.le_of_ble_eq_true rfl) t.1 t.2
      · refine g5 c_50_57 rfl ?_
        obtain ⟨ho, t⟩ := t
        refine g43 c_50_58 ho ?_
        refine g1 c_50_61 k_32 ?_
        refine gcm c_50_63 (gbn t (ab_c1 _ _) rfl (fun hc t => ?_) (fun hc t => ?_))
        · refine g5 c_50_66 rfl ?_
          obtain ⟨ho, t⟩ := t
          refine g43 c_50_67 ho ?_
          refine g6 (L' := [.ref x0, .ref x1, .int x2, .int x3, .int x4, .int x5, .int (ab_i h x0 4)]) c_50_70 rfl ?_
          refine g5 c_50_72 rfl ?_
          refine g3 c_50_73 rfl ?_
          exact g80 (As := [.int (ab_i h x0 4)]) (rest := []) c_50_75 rfl rfl (Nat.le_of_ble_eq_true rfl) (Nat.le_of_ble_eq_true rfl) t.1 t.2
        · refine g3 c_50_97 rfl ?_
          refine gif c_50_98 (gbr t rfl rfl (fun hc t => ?_) (fun hc t => ?_))
          · refine g5 c_50_107 rfl ?_
            obtain ⟨ho, t⟩ := t
            refine g43 c_50_108 ho ?_
            refine g6 (L' := [.ref x0, .ref x1, .int x2, .int (ab_i h x0 4), .int x4, .int x5, .retAddr 0]) c_50_111 rfl ?_
            refine g3 c_50_112 rfl ?_
            refine g1 c_50_113 k_29 ?_
            refine gcm c_50_115 (gbr t rfl rfl (fun hc t => ?_) (fun hc t => ?_))
            · refine g5 c_50_125 rfl ?_
              refine g3 c_50_126 rfl ?_
              exact g80 (As := [.int (ab_i h x0 4)]) (rest := []) c_50_127 rfl rfl (Nat.le_of_ble_eq_true rfl) (Nat.le_of_ble_eq_true rfl) t.1 t.2
            · refine g3 c_50_118 rfl ?_
              refine g1 c_50_119 k_30 ?_
              refine gcm c_50_121 (gbr t rfl rfl (fun hc t => ?_) (fun hc t => ?_))
              · refine g5 c_50_125 rfl ?_
                refine g3 c_50_126 rfl ?_
                exact g80 (As := [.int (ab_i h x0 4)]) (rest := []) c_50_127 rfl rfl (Nat.le_of_ble_eq_true rfl) (Nat.le_of_ble_eq_true rfl) t.1 t.2
              · exact g94 c_50_124 t
          · refine g5 c_50_101 rfl ?_
            refine g3 c_50_102 rfl ?_
            refine g1 c_50_103 k_0 ?_
            exact g80 (As := [.int x3, .int 0]) (rest := []) c_50_104 rfl rfl (Nat.le_of_ble_eq_true rfl) (Nat.le_of_ble_eq_true rfl) t.1 t.2
    · refine g3 c_50_97 rfl ?_
      refine gif c_50_98 (gbr t rfl rfl (fun hc t => ?_) (fun hc t => ?_))
      · refine g5 c_50_107 rfl ?_
        obtain ⟨ho, t⟩ := t
        refine g43 c_50_108 ho ?_
        refine g6 (L' := [.ref x0, .ref x1, .int x2, .int (ab_i h x0 4), .int x4, .int x5, .retAddr 0]) c_50_111 rfl ?_
        refine g3 c_50_112 rfl ?_
        refine g1 c_50_113 k_29 ?_
        refine gcm c_50_115 (gbr t rfl rfl (fun hc t => ?_) (fun hc t => ?_))
        · refine g5 c_50_125 rfl ?_
          refine g3 c_50_126 rfl ?_
          exact g80 (As := [.int (ab_i h x0 4)]) (rest := []) c_50_127 rfl rfl (Nat.le_of_ble_eq_true rfl) (Nat.le_of_ble_eq_true rfl) t.1 t.2
        · refine g3 c_50_118 rfl ?_
          refine g1 c_50_119 k_30 ?_
          refine gcm c_50_121 (gbr t rfl rfl (fun hc t => ?_) (fun hc t => ?_))
          · refine g5 c_50_125 rfl ?_
            refine g3 c_50_126 rfl ?_
            exact g80 (As := [.int (ab_i h x0 4)]) (rest := []) c_50_127 rfl rfl (Nat.le_of_ble_eq_true rfl) (Nat.le_of_ble_eq_true rfl) t.1 t.2
          · exact g94 c_50_124 t
      · refine g5 c_50_101 rfl ?_
        refine g3 c_50_102 rfl ?_
        refine g1 c_50_103 k_0 ?_
        exact g80 (As := [.int x3, .int 0]) (rest := []) c_50_104 rfl rfl (Nat.le_of_ble_eq_true rfl) (Nat.le_of_ble_eq_true rfl) t.1 t.2
set_option maxRecDepth 20000 in
theorem t_50_78 {d : Nat} {h : ab_H} {Q : Option Value → ab_H → Prop} {x0 : Nat} {x1 : Nat} {x2 : Int32} {x3 : Int32} {x4 : Int32} {x5 : Int32} {x6 : Int32} (t : ab_ok h x0 103 = true ∧ wm d 51 [.ref x0, .ref x1, .int x2] h (fun r9 h9 => wq (d + 1) 50 84 [.ref x0, .ref x1, .int x2, .int x3, .int x4, .int x5, .int x6] (r9.toList ++ []) h9 Q)) : wq (d + 1) 50 78 [.ref x0, .ref x1, .int x2, .int x3, .int x4, .int x5, .int x6] [] h Q := by
  refine g5 c_50_78 rfl ?_
  refine g5 c_50_79 rfl ?_
  refine g3 c_50_80 rfl ?_
  exact g80 (As := [.ref x1, .int x2]) (rest := []) c_50_81 rfl rfl (Nat.le_of_ble_eq_true rfl) (Nat.le_of_ble_eq_true rfl) t.1 t.2
set_option maxRecDepth 20000 in
theorem t_50_84 {d : Nat} {h : ab_H} {Q : Option Value → ab_H → Prop} {x0 : Nat} {x1 : Nat} {x2 : Int32} {x3 : Int32} {x4 : Int32} {x5 : Int32} {x6 : Int32} (t : ab_ok h x1 107 = true ∧ wm d 84 [.ref x1, .int x6, .int 0] h (fun r9 h9 => wq (d + 1) 50 91 [.ref x0, .ref x1, .int x2, .int x3, .int x4, .int x5, .int x6] (r9.toList ++ []) h9 Q)) : wq (d + 1) 50 84 [.ref x0, .ref x1, .int x2, .int x3, .int x4, .int x5, .int x6] [] h Q := by
  refine g5 c_50_84 rfl ?_
  refine g3 c_50_85 rfl ?_
  refine g1 c_50_87 k_0 ?_
  exact g80 (As := [.int x6, .int 0]) (rest := []) c_50_88 rfl rfl (Nat.le_of_ble_eq_true rfl) (Nat.le_of_ble_eq_true rfl) t.1 t.2
set_option maxRecDepth 20000 in
theorem t_50_91 {d : Nat} {h : ab_H} {Q : Option Value → ab_H → Prop} {x0 : Nat} {x1 : Nat} {x2 : Int32} {x3 : Int32} {x4 : Int32} {x5 : Int32} {x6 : Int32} (t : wq d 50 31 [.ref x0, .ref x1, .int x2, .int x3, .int x4, .int (x5 + 1), .int x6] [] h Q) : wq d 50 91 [.ref x0, .ref x1, .int x2, .int x3, .int x4, .int x5, .int x6] [] h Q := by
  refine g9 (L' := [.ref x0, .ref x1, .int x2, .int x3, .int x4, .int (x5 + 1), .int x6]) c_50_91 rfl k_1 rfl ?_
  refine g38 c_50_94 rfl ?_
  exact t
set_option maxRecDepth 20000 in
theorem t_50_107 {d : Nat} {h : ab_H} {Q : Option Value → ab_H → Prop} {x0 : Nat} {x1 : Nat} {x2 : Int32} {x3 : Int32} {x4 : Int32} {x5 : Int32} (t : ab_ok h x0 103 = true ∧ if (ab_i h x0 4) = 29 then (ab_ok h x0 103 = true ∧ wm d 44 [.ref x0, .int (ab_i h x0 4)] h (fun r9 h9 => wq (d + 1) 50 130 [.ref x0, .ref x1, .int x2, .int (ab_i h x0 4), .int x4, .int x5, .retAddr 0] (r9.toList ++ []) h9 Q)) else (if (ab_i h x0 4) = 30 then (ab_ok h x0 103 = true ∧ wm d 44 [.ref x0, .int (ab_i h x0 4)] h (fun r9 h9 => wq (d + 1) 50 130 [.ref x0, .ref x1, .int x2, .int (ab_i h x0 4), .int x4, .int x5, .retAddr 0] (r9.toList ++ []) h9 Q)) else (Q none h))) : wq (d + 1) 50 107 [.ref x0, .ref x1, .int x2, .int x3, .int x4, .int x5, .retAddr 0] [] h Q := by
  refine g5 c_50_107 rfl ?_
  obtain ⟨ho, t⟩ := t
  refine g43 c_50_108 ho ?_
  refine g6 (L' := [.ref x0, .ref x1, .int x2, .int (ab_i h x0 4), .int x4, .int x5, .retAddr 0]) c_50_111 rfl ?_
  refine g3 c_50_112 rfl ?_
  refine g1 c_50_113 k_29 ?_
  refine gcm c_50_115 (gbr t rfl rfl (fun hc t => ?_) (fun hc t => ?_))
  · refine g5 c_50_125 rfl ?_
    refine g3 c_50_126 rfl ?_
    exact g80 (As := [.int (ab_i h x0 4)]) (rest := []) c_50_127 rfl rfl (Nat.le_of_ble_eq_true rfl) (Nat.le_of_ble_eq_true rfl) t.1 t.2
  · refine g3 c_50_118 rfl ?_
    refine g1 c_50_119 k_30 ?_
    refine gcm c_50_121 (gbr t rfl rfl (fun hc t => ?_) (fun hc t => ?_))
    · refine g5 c_50_125 rfl ?_
      refine g3 c_50_126 rfl ?_
      exact g80 (As := [.int (ab_i h x0 4)]) (rest := []) c_50_127 rfl rfl (Nat.le_of_ble_eq_true rfl) (Nat.le_of_ble_eq_true rfl) t.1 t.2
    · exact g94 c_50_124 t
set_option maxRecDepth 20000 in
theorem t_50_130 {d : Nat} {h : ab_H} {Q : Option Value → ab_H → Prop} {x0 : Nat} {x1 : Nat} {x2 : Int32} {x3 : Int32} {x4 : Int32} {x5 : Int32} (t : wq d 50 5 [.ref x0, .ref x1, .int x2, .int x3, .int (x4 + 1), .int x5, .retAddr 0] [] h Q) : wq d 50 130 [.ref x0, .ref x1, .int x2, .int x3, .int x4, .int x5, .retAddr 0] [] h Q := by
  refine g9 (L' := [.ref x0, .ref x1, .int x2, .int x3, .int (x4 + 1), .int x5, .retAddr 0]) c_50_130 rfl k_1 rfl ?_
  refine g38 c_50_133 rfl ?_
  exact t
-- method 51: MillTown$Reader.readOne(LMillTown$Text;I)V
theorem c_51_0 : pg_cd 51 0 = (5, 1, 0, 0, 0) := by decide +kernel
theorem c_51_1 : pg_cd 51 1 = (43, 3, 46, 4, 0) := by decide +kernel
theorem c_51_4 : pg_cd 51 4 = (6, 1, 0, 3, 0) := by decide +kernel
theorem c_51_5 : pg_cd 51 5 = (3, 1, 0, 3, 0) := by decide +kernel
theorem c_51_6 : pg_cd 51 6 = (1, 2, 0, 0, 21) := by decide +kernel
theorem c_51_8 : pg_cd 51 8 = (37, 3, 0, 0, 9) := by decide +kernel
theorem c_51_11 : pg_cd 51 11 = (3, 1, 0, 3, 0) := by decide +kernel
theorem c_51_12 : pg_cd 51 12 = (1, 2, 0, 0, 22) := by decide +kernel
theorem c_51_14 : pg_cd 51 14 = (37, 3, 0, 1, 7) := by decide +kernel
theorem c_51_17 : pg_cd 51 17 = (1, 1, 0, 0, 1) := by decide +kernel
theorem c_51_18 : pg_cd 51 18 = (38, 3, 0, 0, 4) := by decide +kernel
theorem c_51_21 : pg_cd 51 21 = (1, 1, 0, 0, 0) := by decide +kernel
theorem c_51_22 : pg_cd 51 22 = (6, 2, 0, 4, 0) := by decide +kernel
theorem c_51_24 : pg_cd 51 24 = (3, 1, 0, 3, 0) := by decide +kernel
theorem c_51_25 : pg_cd 51 25 = (1, 1, 0, 0, 2) := by decide +kernel
theorem c_51_26 : pg_cd 51 26 = (37, 3, 0, 1, 59) := by decide +kernel
theorem c_51_29 : pg_cd 51 29 = (5, 1, 0, 0, 0) := by decide +kernel
theorem c_51_30 : pg_cd 51 30 = (43, 3, 43, 3, 0) := by decide +kernel
theorem c_51_33 : pg_cd 51 33 = (5, 1, 0, 0, 0) := by decide +kernel
theorem c_51_34 : pg_cd 51 34 = (45, 3, 18, 2, 0) := by decide +kernel
theorem c_51_37 : pg_cd 51 37 = (58, 0, 0, 0, 0) := by decide +kernel
theorem c_51_38 : pg_cd 51 38 = (37, 3, 0, 3, 47) := by decide +kernel
theorem c_51_41 : pg_cd 51 41 = (5, 1, 0, 0, 0) := by decide +kernel
theorem c_51_42 : pg_cd 51 42 = (45, 3, 18, 2, 0) := by decide +kernel
theorem c_51_45 : pg_cd 51 45 = (5, 1, 0, 0, 0) := by decide +kernel
theorem c_51_46 : pg_cd 51 46 = (43, 3, 43, 3, 0) := by decide +kernel
theorem c_51_49 : pg_cd 51 49 = (50, 1, 0, 0, 0) := by decide +kernel
theorem c_51_50 : pg_cd 51 50 = (1, 3, 0, 0, 9999) := by decide +kernel
theorem c_51_53 : pg_cd 51 53 = (37, 3, 0, 5, 8) := by decide +kernel
theorem c_51_56 : pg_cd 51 56 = (5, 1, 0, 0, 0) := by decide +kernel
theorem c_51_57 : pg_cd 51 57 = (1, 1, 0, 0, 2) := by decide +kernel
theorem c_51_58 : pg_cd 51 58 = (80, 43, 49, 0, 0) := by decide +kernel
theorem c_51_61 : pg_cd 51 61 = (5, 1, 0, 1, 0) := by decide +kernel
theorem c_51_62 : pg_cd 51 62 = (1, 1, 0, 0, 2) := by decide +kernel
theorem c_51_63 : pg_cd 51 63 = (5, 1, 0, 0, 0) := by decide +kernel
theorem c_51_64 : pg_cd 51 64 = (45, 3, 18, 2, 0) := by decide +kernel
theorem c_51_67 : pg_cd 51 67 = (5, 1, 0, 0, 0) := by decide +kernel
theorem c_51_68 : pg_cd 51 68 = (43, 3, 43, 3, 0) := by decide +kernel
theorem c_51_71 : pg_cd 51 71 = (50, 1, 0, 0, 0) := by decide +kernel
theorem c_51_72 : pg_cd 51 72 = (1, 3, 0, 0, 10000) := by decide +kernel
theorem c_51_75 : pg_cd 51 75 = (17, 1, 0, 0, 0) := by decide +kernel
theorem c_51_76 : pg_cd 51 76 = (80, 84, 127, 0, 0) := by decide +kernel
theorem c_51_79 : pg_cd 51 79 = (5, 1, 0, 0, 0) := by decide +kernel
theorem c_51_80 : pg_cd 51 80 = (1, 1, 0, 0, 2) := by decide +kernel
theorem c_51_81 : pg_cd 51 81 = (80, 44, 101, 0, 0) := by decide +kernel
theorem c_51_84 : pg_cd 51 84 = (94, 0, 0, 0, 0) := by decide +kernel
theorem c_51_85 : pg_cd 51 85 = (3, 1, 0, 3, 0) := by decide +kernel
theorem c_51_86 : pg_cd 51 86 = (1, 2, 0, 0, 17) := by decide +kernel
theorem c_51_88 : pg_cd 51 88 = (37, 3, 0, 2, 21) := by decide +kernel
theorem c_51_91 : pg_cd 51 91 = (3, 1, 0, 3, 0) := by decide +kernel
theorem c_51_92 : pg_cd 51 92 = (1, 2, 0, 0, 20) := by decide +kernel
theorem c_51_94 : pg_cd 51 94 = (37, 3, 0, 4, 15) := by decide +kernel
theorem c_51_97 : pg_cd 51 97 = (5, 1, 0, 1, 0) := by decide +kernel
theorem c_51_98 : pg_cd 51 98 = (3, 1, 0, 3, 0) := by decide +kernel
theorem c_51_99 : pg_cd 51 99 = (1, 1, 0, 0, 0) := by decide +kernel
theorem c_51_100 : pg_cd 51 100 = (80, 84, 127, 0, 0) := by decide +kernel
theorem c_51_103 : pg_cd 51 103 = (5, 1, 0, 0, 0) := by decide +kernel
theorem c_51_104 : pg_cd 51 104 = (3, 1, 0, 3, 0) := by decide +kernel
theorem c_51_105 : pg_cd 51 105 = (80, 44, 101, 0, 0) := by decide +kernel
theorem c_51_108 : pg_cd 51 108 = (94, 0, 0, 0, 0) := by decide +kernel
theorem c_51_109 : pg_cd 51 109 = (3, 2, 0, 4, 0) := by decide +kernel
theorem c_51_111 : pg_cd 51 111 = (36, 3, 0, 0, 8) := by decide +kernel
theorem c_51_114 : pg_cd 51 114 = (5, 1, 0, 0, 0) := by decide +kernel
theorem c_51_115 : pg_cd 51 115 = (3, 1, 0, 3, 0) := by decide +kernel
theorem c_51_116 : pg_cd 51 116 = (80, 44, 101, 0, 0) := by decide +kernel
theorem c_51_119 : pg_cd 51 119 = (5, 1, 0, 0, 0) := by decide +kernel
theorem c_51_120 : pg_cd 51 120 = (43, 3, 46, 4, 0) := by decide +kernel
theorem c_51_123 : pg_cd 51 123 = (1, 2, 0, 0, 33) := by decide +kernel
theorem c_51_125 : pg_cd 51 125 = (37, 3, 0, 0, 25) := by decide +kernel
theorem c_51_128 : pg_cd 51 128 = (3, 2, 0, 4, 0) := by decide +kernel
theorem c_51_130 : pg_cd 51 130 = (36, 3, 0, 1, 12) := by decide +kernel
theorem c_51_133 : pg_cd 51 133 = (5, 1, 0, 0, 0) := by decide +kernel
theorem c_51_134 : pg_cd 51 134 = (43, 3, 46, 4, 0) := by decide +kernel
theorem c_51_137 : pg_cd 51 137 = (1, 2, 0, 0, 30) := by decide +kernel
theorem c_51_139 : pg_cd 51 139 = (37, 3, 0, 0, 11) := by decide +kernel
theorem c_51_142 : pg_cd 51 142 = (5, 1, 0, 0, 0) := by decide +kernel
theorem c_51_143 : pg_cd 51 143 = (1, 1, 0, 0, 1) := by decide +kernel
theorem c_51_144 : pg_cd 51 144 = (80, 43, 49, 0, 0) := by decide +kernel
theorem c_51_147 : pg_cd 51 147 = (38, 3, 0, 0, 95) := by decide +kernel
theorem c_51_150 : pg_cd 51 150 = (3, 1, 0, 2, 0) := by decide +kernel
theorem c_51_151 : pg_cd 51 151 = (1, 2, 0, 0, 8) := by decide +kernel
theorem c_51_153 : pg_cd 51 153 = (37, 3, 0, 2, 11) := by decide +kernel
theorem c_51_156 : pg_cd 51 156 = (5, 1, 0, 0, 0) := by decide +kernel
theorem c_51_157 : pg_cd 51 157 = (1, 1, 0, 0, 3) := by decide +kernel
theorem c_51_158 : pg_cd 51 158 = (80, 43, 49, 0, 0) := by decide +kernel
theorem c_51_161 : pg_cd 51 161 = (38, 3, 0, 0, 81) := by decide +kernel
theorem c_51_164 : pg_cd 51 164 = (5, 1, 0, 0, 0) := by decide +kernel
theorem c_51_165 : pg_cd 51 165 = (43, 3, 46, 4, 0) := by decide +kernel
theorem c_51_168 : pg_cd 51 168 = (1, 2, 0, 0, 30) := by decide +kernel
theorem c_51_170 : pg_cd 51 170 = (37, 3, 0, 1, 27) := by decide +kernel
theorem c_51_173 : pg_cd 51 173 = (5, 1, 0, 0, 0) := by decide +kernel
theorem c_51_174 : pg_cd 51 174 = (1, 2, 0, 0, 30) := by decide +kernel
theorem c_51_176 : pg_cd 51 176 = (80, 44, 101, 0, 0) := by decide +kernel
theorem c_51_179 : pg_cd 51 179 = (5, 1, 0, 0, 0) := by decide +kernel
theorem c_51_180 : pg_cd 51 180 = (5, 1, 0, 1, 0) := by decide +kernel
theorem c_51_181 : pg_cd 51 181 = (3, 1, 0, 2, 0) := by decide +kernel
theorem c_51_182 : pg_cd 51 182 = (1, 1, 0, 0, 1) := by decide +kernel
theorem c_51_183 : pg_cd 51 183 = (10, 1, 0, 0, 0) := by decide +kernel
theorem c_51_184 : pg_cd 51 184 = (80, 51, 131, 0, 0) := by decide +kernel
theorem c_51_187 : pg_cd 51 187 = (5, 1, 0, 1, 0) := by decide +kernel
theorem c_51_188 : pg_cd 51 188 = (1, 2, 0, 0, 37) := by decide +kernel
theorem c_51_190 : pg_cd 51 190 = (1, 1, 0, 0, 0) := by decide +kernel
theorem c_51_191 : pg_cd 51 191 = (80, 84, 127, 0, 0) := by decide +kernel
theorem c_51_194 : pg_cd 51 194 = (38, 3, 0, 0, 48) := by decide +kernel
theorem c_51_197 : pg_cd 51 197 = (5, 1, 0, 0, 0) := by decide +kernel
theorem c_51_198 : pg_cd 51 198 = (1, 2, 0, 0, 33) := by decide +kernel
theorem c_51_200 : pg_cd 51 200 = (80, 44, 101, 0, 0) := by decide +kernel
theorem c_51_203 : pg_cd 51 203 = (5, 1, 0, 0, 0) := by decide +kernel
theorem c_51_204 : pg_cd 51 204 = (5, 1, 0, 1, 0) := by decide +kernel
theorem c_51_205 : pg_cd 51 205 = (3, 1, 0, 2, 0) := by decide +kernel
theorem c_51_206 : pg_cd 51 206 = (1, 1, 0, 0, 1) := by decide +kernel
theorem c_51_207 : pg_cd 51 207 = (10, 1, 0, 0, 0) := by decide +kernel
theorem c_51_208 : pg_cd 51 208 = (80, 50, 120, 0, 0) := by decide +kernel
theorem c_51_211 : pg_cd 51 211 = (3, 2, 0, 4, 0) := by decide +kernel
theorem c_51_213 : pg_cd 51 213 = (36, 3, 0, 0, 23) := by decide +kernel
theorem c_51_216 : pg_cd 51 216 = (5, 1, 0, 0, 0) := by decide +kernel
theorem c_51_217 : pg_cd 51 217 = (1, 2, 0, 0, 35) := by decide +kernel
theorem c_51_219 : pg_cd 51 219 = (80, 44, 101, 0, 0) := by decide +kernel
theorem c_51_222 : pg_cd 51 222 = (5, 1, 0, 0, 0) := by decide +kernel
theorem c_51_223 : pg_cd 51 223 = (5, 1, 0, 1, 0) := by decide +kernel
theorem c_51_224 : pg_cd 51 224 = (3, 1, 0, 2, 0) := by decide +kernel
theorem c_51_225 : pg_cd 51 225 = (1, 1, 0, 0, 1) := by decide +kernel
theorem c_51_226 : pg_cd 51 226 = (10, 1, 0, 0, 0) := by decide +kernel
theorem c_51_227 : pg_cd 51 227 = (80, 50, 120, 0, 0) := by decide +kernel
theorem c_51_230 : pg_cd 51 230 = (5, 1, 0, 1, 0) := by decide +kernel
theorem c_51_231 : pg_cd 51 231 = (3, 1, 0, 3, 0) := by decide +kernel
theorem c_51_232 : pg_cd 51 232 = (1, 1, 0, 0, 0) := by decide +kernel
theorem c_51_233 : pg_cd 51 233 = (80, 84, 127, 0, 0) := by decide +kernel
theorem c_51_236 : pg_cd 51 236 = (5, 1, 0, 0, 0) := by decide +kernel
theorem c_51_237 : pg_cd 51 237 = (1, 2, 0, 0, 34) := by decide +kernel
theorem c_51_239 : pg_cd 51 239 = (80, 44, 101, 0, 0) := by decide +kernel
theorem c_51_242 : pg_cd 51 242 = (94, 0, 0, 0, 0) := by decide +kernel
theorem mx_51 : pg_mx 51 = 5 := by decide +kernel
theorem m_51 {d : Nat} {h : ab_H} {Q : Option Value → ab_H → Prop} {x0 : Nat} {x1 : Nat} {x2 : Int32} (t : wq d 51 0 [.ref x0, .ref x1, .int x2, .retAddr 0, .retAddr 0] [] h Q) : wm d 51 [.ref x0, .ref x1, .int x2] h Q := by
  unfold wm
  rw [mx_51]
  exact t
set_option maxRecDepth 20000 in
theorem t_51_0 {d : Nat} {h : ab_H} {Q : Option Value → ab_H → Prop} {x0 : Nat} {x1 : Nat} {x2 : Int32} (t : ab_ok h x0 103 = true ∧ if (ab_i h x0 4) = 21 then (wq d 51 17 [.ref x0, .ref x1, .int x2, .int (ab_i h x0 4), .retAddr 0] [] h Q) else (if (ab_i h x0 4) = 22 then (wq d 51 17 [.ref x0, .ref x1, .int x2, .int (ab_i h x0 4), .retAddr 0] [] h Q) else (wq d 51 22 [.ref x0, .ref x1, .int x2, .int (ab_i h x0 4), .retAddr 0] [.int 0] h Q))) : wq d 51 0 [.ref x0, .ref x1, .int x2, .retAddr 0, .retAddr 0] [] h Q := by
  refine g5 c_51_0 rfl ?_
  obtain ⟨ho, t⟩ := t
  refine g43 c_51_1 ho ?_
  refine g6 (L' := [.ref x0, .ref x1, .int x2, .int (ab_i h x0 4), .retAddr 0]) c_51_4 rfl ?_
  refine g3 c_51_5 rfl ?_
  refine g1 c_51_6 k_21 ?_
  refine gcm c_51_8 (gbr t rfl rfl (fun hc t => ?_) (fun hc t => ?_))
  · exact t
  · refine g3 c_51_11 rfl ?_
    refine g1 c_51_12 k_22 ?_
    refine gcm c_51_14 (gbn t (ab_c1 _ _) rfl (fun hc t => ?_) (fun hc t => ?_))
    · exact t
    · refine g1 c_51_21 k_0 ?_
      exact t
set_option maxRecDepth 20000 in
theorem t_51_17 {d : Nat} {h : ab_H} {Q : Option Value → ab_H → Prop} {x0 : Nat} {x1 : Nat} {x2 : Int32} {x3 : Int32} (t : wq d 51 22 [.ref x0, .ref x1, .int x2, .int x3, .retAddr 0] [.int 1] h Q) : wq d 51 17 [.ref x0, .ref x1, .int x2, .int x3, .retAddr 0] [] h Q := by
  refine g1 c_51_17 k_1 ?_
  refine g38 c_51_18 rfl ?_
  exact t
set_option maxRecDepth 20000 in
theorem t_51_22 {d : Nat} {h : ab_H} {Q : Option Value → ab_H → Prop} {x0 : Nat} {x1 : Nat} {x2 : Int32} {x3 : Int32} {s0 : Int32} (t : if x3 = 2 then (ab_ok h x0 103 = true ∧ ab_ok h x0 103 = true ∧ ∃ j1 : Nat, ab_r h x0 2 = some j1 ∧ ((j1 = 0 ∧ 0 = 0) ∨ ab_ok h j1 0 = true) ∧ if (Int32.ofNat (ab_s h j1).2) ≤ (ab_i h x0 3) then (wq (d + 1) 51 85 [.ref x0, .ref x1, .int x2, .int x3, .int s0] [] h Q) else (ab_ok h x0 103 = true ∧ ∃ j2 : Nat, ab_r h x0 2 = some j2 ∧ ab_ok h x0 103 = true ∧ ((j2 = 0 ∨ ab_ok h j2 0 = true) ∧ ab_in (ab_i h x0 3) (ab_s h j2).2 = true) ∧ if (ab_i h j2 (Int32.toNatClampNeg (ab_i h x0 3))) ≤ 9999 then (ab_ok h x0 103 = true ∧ ∃ j3 : Nat, ab_r h x0 2 = some j3 ∧ ab_ok h x0 103 = true ∧ ((j3 = 0 ∨ ab_ok h j3 0 = true) ∧ ab_in (ab_i h x0 3) (ab_s h j3).2 = true) ∧ ¬ (10000 : Int32) = 0 ∧ ab_ok h x1 107 = true ∧ wm d 84 [.ref x1, .int 2, .int ((ab_i h j3 (Int32.toNatClampNeg (ab_i h x0 3))) - (ab_i h j3 (Int32.toNatClampNeg (ab_i h x0 3))) / 10000 * 10000)] h (fun r9 h9 => wq (d + 1) 51 79 [.ref x0, .ref x1, .int x2, .int x3, .int s0] (r9.toList ++ []) h9 Q)) else (ab_ok h x0 103 = true ∧ wm d 43 [.ref x0, .int 2] h (fun r9 h9 => wq (d + 1) 51 61 [.ref x0, .ref x1, .int x2, .int x3, .int s0] (r9.toList ++ []) h9 Q)))) else (wq (d + 1) 51 85 [.ref x0, .ref x1, .int x2, .int x3, .int s0] [] h Q)) : wq (d + 1) 51 22 [.ref x0, .ref x1, .int x2, .int x3, .retAddr 0] [.int s0] h Q := by
  refine g6 (L' := [.ref x0, .ref x1, .int x2, .int x3, .int s0]) c_51_22 rfl ?_
  refine g3 c_51_24 rfl ?_
  refine g1 c_51_25 k_2 ?_
  refine gcm c_51_26 (gbn t (ab_c1 _ _) rfl (fun hc t => ?_) (fun hc t => ?_))
  · refine g5 c_51_29 rfl ?_
    obtain ⟨ho, t⟩ := t
    refine g43 c_51_30 ho ?_
    refine g5 c_51_33 rfl ?_
    obtain ⟨ho, j1, hr, t⟩ := t
    refine g45 c_51_34 ho hr ?_
    obtain ⟨ho, t⟩ := t
    refine g58 c_51_37 ho ?_
    refine gcm c_51_38 (gbr t rfl rfl (fun hc t => ?_) (fun hc t => ?_))
    · exact t
    · refine g5 c_51_41 rfl ?_
      obtain ⟨ho, j2, hr, t⟩ := t
      refine g45 c_51_42 ho hr ?_
      refine g5 c_51_45 rfl ?_
      obtain ⟨ho, t⟩ := t
      refine g43 c_51_46 ho ?_
      obtain ⟨ho, t⟩ := t
      refine g50 c_51_49 ho ?_
      refine g1 c_51_50 k_9999 ?_
      refine gcm c_51_53 (gbr t rfl rfl (fun hc t => ?_) (fun hc t => ?_))
      · refine g5 c_51_61 rfl ?_
        refine g1 c_51_62 k_2 ?_
        refine g5 c_51_63 rfl ?_
        obtain ⟨ho, j3, hr, t⟩ := t
        refine g45 c_51_64 ho hr ?_
        refine g5 c_51_67 rfl ?_
        obtain ⟨ho, t⟩ := t
        refine g43 c_51_68 ho ?_
        obtain ⟨ho, t⟩ := t
        refine g50 c_51_71 ho ?_
        refine g1 c_51_72 k_10000 ?_
        obtain ⟨hy, t⟩ := t
        refine g17 c_51_75 hy ?_
        exact g80 (As := [.int 2, .int ((ab_i h j3 (Int32.toNatClampNeg (ab_i h x0 3))) - (ab_i h j3 (Int32.toNatClampNeg (ab_i h x0 3))) / 10000 * 10000)]) (rest := []) c_51_76 rfl rfl (Nat.le_of_ble_eq_true rfl) (Nat.le_of_ble_eq_true rfl) t.1 t.2
      · refine g5 c_51_56 rfl ?_
        refine g1 c_51_57 k_2 ?_
        exact g80 (As := [.int 2]) (rest := []) c_51_58 rfl rfl (Nat.le_of_ble_eq_true rfl) (Nat.le_of_ble_eq_true rfl) t.1 t.2
  · exact t
set_option maxRecDepth 20000 in
theorem t_51_61 {d : Nat} {h : ab_H} {Q : Option Value → ab_H → Prop} {x0 : Nat} {x1 : Nat} {x2 : Int32} {x3 : Int32} {x4 : Int32} (t : ab_ok h x0 103 = true ∧ ∃ j1 : Nat, ab_r h x0 2 = some j1 ∧ ab_ok h x0 103 = true ∧ ((j1 = 0 ∨ ab_ok h j1 0 = true) ∧ ab_in (ab_i h x0 3) (ab_s h j1).2 = true) ∧ ¬ (10000 : Int32) = 0 ∧ ab_ok h x1 107 = true ∧ wm d 84 [.ref x1, .int 2, .int ((ab_i h j1 (Int32.toNatClampNeg (ab_i h x0 3))) - (ab_i h j1 (Int32.toNatClampNeg (ab_i h x0 3))) / 10000 * 10000)] h (fun r9 h9 => wq (d + 1) 51 79 [.ref x0, .ref x1, .int x2, .int x3, .int x4] (r9.toList ++ []) h9 Q)) : wq (d + 1) 51 61 [.ref x0, .ref x1, .int x2, .int x3, .int x4] [] h Q := by
  refine g5 c_51_61 rfl ?_
  refine g1 c_51_62 k_2 ?_
  refine g5 c_51_63 rfl ?_
  obtain ⟨ho, j1, hr, t⟩ := t
  refine g45 c_51_64 ho hr ?_
  refine g5 c_51_67 rfl ?_
  obtain ⟨ho, t⟩ := t
  refine g43 c_51_68 ho ?_
  obtain ⟨ho, t⟩ := t
  refine g50 c_51_71 ho ?_
  refine g1 c_51_72 k_10000 ?_
  obtain ⟨hy, t⟩ := t
  refine g17 c_51_75 hy ?_
  exact g80 (As := [.int 2, .int ((ab_i h j1 (Int32.toNatClampNeg (ab_i h x0 3))) - (ab_i h j1 (Int32.toNatClampNeg (ab_i h x0 3))) / 10000 * 10000)]) (rest := []) c_51_76 rfl rfl (Nat.le_of_ble_eq_true rfl) (Nat.le_of_ble_eq_true rfl) t.1 t.2
set_option maxRecDepth 20000 in
theorem t_51_79 {d : Nat} {h : ab_H} {Q : Option Value → ab_H → Prop} {x0 : Nat} {x1 : Nat} {x2 : Int32} {x3 : Int32} {x4 : Int32} (t : ab_ok h x0 103 = true ∧ wm d 44 [.ref x0, .int 2] h (fun r9 h9 => wq (d + 1) 51 84 [.ref x0, .ref x1, .int x2, .int x3, .int x4] (r9.toList ++ []) h9 Q)) : wq (d + 1) 51 79 [.ref x0, .ref x1, .int x2, .int x3, .int x4] [] h Q := by
  refine g5 c_51_79 rfl ?_
  refine g1 c_51_80 k_2 ?_
  exact g80 (As := [.int 2]) (rest := []) c_51_81 rfl rfl (Nat.le_of_ble_eq_true rfl) (Nat.le_of_ble_eq_true rfl) t.1 t.2
set_option maxRecDepth 20000 in
theorem t_51_84 {d : Nat} {h : ab_H} {Q : Option Value → ab_H → Prop} {x0 : Nat} {x1 : Nat} {x2 : Int32} {x3 : Int32} {x4 : Int32} (t : Q none h) : wq d 51 84 [.ref x0, .ref x1, .int x2, .int x3, .int x4] [] h Q := by
  exact g94 c_51_84 t
set_option maxRecDepth 20000 in
theorem t_51_85 {d : Nat} {h : ab_H} {Q : Option Value → ab_H → Prop} {x0 : Nat} {x1 : Nat} {x2 : Int32} {x3 : Int32} {x4 : Int32} (t : if x3 < 17 then (wq (d + 1) 51 109 [.ref x0, .ref x1, .int x2, .int x3, .int x4] [] h Q) else (if 20 < x3 then (wq (d + 1) 51 109 [.ref x0, .ref x1, .int x2, .int x3, .int x4] [] h Q) else (ab_ok h x1 107 = true ∧ wm d 84 [.ref x1, .int x3, .int 0] h (fun r9 h9 => wq (d + 1) 51 103 [.ref x0, .ref x1, .int x2, .int x3, .int x4] (r9.toList ++ []) h9 Q)))) : wq (d + 1) 51 85 [.ref x0, .ref x1, .int x2, .int x3, .int x4] [] h Q := by
  refine g3 c_51_85 rfl ?_
  refine g1 c_51_86 k_17 ?_
  refine gcm c_51_88 (gbr t rfl rfl (fun hc t => ?_) (fun hc t => ?_))
  · exact t
  · refine g3 c_51_91 rfl ?_
    refine g1 c_51_92 k_20 ?_
    refine gcm c_51_94 (gbr t rfl rfl (fun hc t => ?_) (fun hc t => ?_))
    · exact t
    · refine g5 c_51_97 rfl ?_
      refine g3 c_51_98 rfl ?_
      refine g1 c_51_99 k_0 ?_
      exact g80 (As := [.int x3, .int 0]) (rest := []) c_51_100 rfl rfl (Nat.le_of_ble_eq_true rfl) (Nat.le_of_ble_eq_true rfl) t.1 t.2
set_option maxRecDepth 20000 in
theorem t_51_103 {d : Nat} {h : ab_H} {Q : Option Value → ab_H → Prop} {x0 : Nat} {x1 : Nat} {x2 : Int32} {x3 : Int32} {x4 : Int32} (t : ab_ok h x0 103 = true ∧ wm d 44 [.ref x0, .int x3] h (fun r9 h9 => wq (d + 1) 51 108 [.ref x0, .ref x1, .int x2, .int x3, .int x4] (r9.toList ++ []) h9 Q)) : wq (d + 1) 51 103 [.ref x0, .ref x1, .int x2, .int x3, .int x4] [] h Q := by
  refine g5 c_51_103 rfl ?_
  refine g3 c_51_104 rfl ?_
  exact g80 (As := [.int x3]) (rest := []) c_51_105 rfl rfl (Nat.le_of_ble_eq_true rfl) (Nat.le_of_ble_eq_true rfl) t.1 t.2
set_option maxRecDepth 20000 in
theorem t_51_108 {d : Nat} {h : ab_H} {Q : Option Value → ab_H → Prop} {x0 : Nat} {x1 : Nat} {x2 : Int32} {x3 : Int32} {x4 : Int32} (t : Q none h) : wq d 51 108 [.ref x0, .ref x1, .int x2, .int x3, .int x4] [] h Q := by
  exact g94 c_51_108 t
set_option maxRecDepth 20000 in
theorem t_51_109 {d : Nat} {h : ab_H} {Q : Option Value → ab_H → Prop} {x0 : Nat} {x1 : Nat} {x2 : Int32} {x3 : Int32} {x4 : Int32} (t : if x4 = 0 then (ab_ok h x0 103 = true ∧ if (ab_i h x0 4) = 33 then (wq (d + 1) 51 150 [.ref x0, .ref x1, .int x2, .int x3, .int x4] [] h Q) else (if x4 = 0 then (ab_ok h x0 103 = true ∧ if (ab_i h x0 4) = 30 then (wq (d + 1) 51 150 [.ref x0, .ref x1, .int x2, .int x3, .int x4] [] h Q) else (wq (d + 1) 51 142 [.ref x0, .ref x1, .int x2, .int x3, .int x4] [] h Q)) else (wq (d + 1) 51 142 [.ref x0, .ref x1, .int x2, .int x3, .int x4] [] h Q))) else (ab_ok h x0 103 = true ∧ wm d 44 [.ref x0, .int x3] h (fun r9 h9 => wq (d + 1) 51 119 [.ref x0, .ref x1, .int x2, .int x3, .int x4] (r9.toList ++ []) h9 Q))) : wq (d + 1) 51 109 [.ref x0, .ref x1, .int x2, .int x3, .int x4] [] h Q := by
  refine g3 c_51_109 rfl ?_
  refine gif c_51_111 (gbr t rfl rfl (fun hc t => ?_) (fun hc t => ?_))
  · refine g5 c_51_119 rfl ?_
    obtain ⟨ho, t⟩ := t
    refine g43 c_51_120 ho ?_
    refine g1 c_51_123 k_33 ?_
    refine gcm c_51_125 (gbr t rfl rfl (fun hc t => ?_) (fun hc t => ?_))
    · exact t
    · refine g3 c_51_128 rfl ?_
      refine gif c_51_130 (gbn t (ab_c1 _ _) rfl (fun hc t => ?_) (fun hc t => ?_))
      · refine g5 c_51_133 rfl ?_
        obtain ⟨ho, t⟩ := t
        refine g43 c_51_134 ho ?_
        refine g1 c_51_137 k_30 ?_
        refine gcm c_51_139 (gbr t rfl rfl (fun hc t => ?_) (fun hc t => ?_))
        · exact t
        · exact t
      · exact t
  · refine g5 c_51_114 rfl ?_
    refine g3 c_51_115 rfl ?_
    exact g80 (As := [.int x3]) (rest := []) c_51_116 rfl rfl (Nat.le_of_ble_eq_true rfl) (Nat.le_of_ble_eq_true rfl) t.1 t.2
set_option maxRecDepth 20000 in
theorem t_51_119 {d : Nat} {h : ab_H} {Q : Option Value → ab_H → Prop} {x0 : Nat} {x1 : Nat} {x2 : Int32} {x3 : Int32} {x4 : Int32} (t : ab_ok h x0 103 = true ∧ if (ab_i h x0 4) = 33 then (wq d 51 150 [.ref x0, .ref x1, .int x2, .int x3, .int x4] [] h Q) else (if x4 = 0 then (ab_ok h x0 103 = true ∧ if (ab_i h x0 4) = 30 then (wq d 51 150 [.ref x0, .ref x1, .int x2, .int x3, .int x4] [] h Q) else (wq d 51 142 [.ref x0, .ref x1, .int x2, .int x3, .int x4] [] h Q)) else (wq d 51 142 [.ref x0, .ref x1, .int x2, .int x3, .int x4] [] h Q))) : wq d 51 119 [.ref x0, .ref x1, .int x2, .int x3, .int x4] [] h Q := by
  refine g5 c_51_119 rfl ?_
  obtain ⟨ho, t⟩ := t
  refine g43 c_51_120 ho ?_
  refine g1 c_51_123 k_33 ?_
  refine gcm c_51_125 (gbr t rfl rfl (fun hc t => ?_) (fun hc t => ?_))
  · exact t
  · refine g3 c_51_128 rfl ?_
    refine gif c_51_130 (gbn t (ab_c1 _ _) rfl (fun hc t => ?_) (fun hc t => ?_))
    · refine g5 c_51_133 rfl ?_
      obtain ⟨ho, t⟩ := t
      refine g43 c_51_134 ho ?_
      refine g1 c_51_137 k_30 ?_
      refine gcm c_51_139 (gbr t rfl rfl (fun hc t => ?_) (fun hc t => ?_))
      · exact t
      · exact t
    · exact t
set_option maxRecDepth 20000 in
theorem t_51_142 {d : Nat} {h : ab_H} {Q : Option Value → ab_H → Prop} {x0 : Nat} {x1 : Nat} {x2 : Int32} {x3 : Int32} {x4 : Int32} (t : ab_ok h x0 103 = true ∧ wm d 43 [.ref x0, .int 1] h (fun r9 h9 => wq (d + 1) 51 147 [.ref x0, .ref x1, .int x2, .int x3, .int x4] (r9.toList ++ []) h9 Q)) : wq (d + 1) 51 142 [.ref x0, .ref x1, .int x2, .int x3, .int x4] [] h Q := by
  refine g5 c_51_142 rfl ?_
  refine g1 c_51_143 k_1 ?_
  exact g80 (As := [.int 1]) (rest := []) c_51_144 rfl rfl (Nat.le_of_ble_eq_true rfl) (Nat.le_of_ble_eq_true rfl) t.1 t.2
set_option maxRecDepth 20000 in
theorem t_51_147 {d : Nat} {h : ab_H} {Q : Option Value → ab_H → Prop} {x0 : Nat} {x1 : Nat} {x2 : Int32} {x3 : Int32} {x4 : Int32} (t : wq d 51 242 [.ref x0, .ref x1, .int x2, .int x3, .int x4] [] h Q) : wq d 51 147 [.ref x0, .ref x1, .int x2, .int x3, .int x4] [] h Q := by
  refine g38 c_51_147 rfl ?_
  exact t
set_option maxRecDepth 20000 in
theorem t_51_150 {d : Nat} {h : ab_H} {Q : Option Value → ab_H → Prop} {x0 : Nat} {x1 : Nat} {x2 : Int32} {x3 : Int32} {x4 : Int32} (t : if x2 < 8 then (ab_ok h x0 103 = true ∧ if (ab_i h x0 4) = 30 then (ab_ok h x0 103 = true ∧ wm d 44 [.ref x0, .int 30] h (fun r9 h9 => wq (d + 1) 51 179 [.ref x0, .ref x1, .int x2, .int x3, .int x4] (r9.toList ++ []) h9 Q)) else (ab_ok h x0 103 = true ∧ wm d 44 [.ref x0, .int 33] h (fun r9 h9 => wq (d + 1) 51 203 [.ref x0, .ref x1, .int x2, .int x3, .int x4] (r9.toList ++ []) h9 Q))) else (ab_ok h x0 103 = true ∧ wm d 43 [.ref x0, .int 3] h (fun r9 h9 => wq (d + 1) 51 161 [.ref x0, .ref x1, .int x2, .int x3, .int x4] (r9.toList ++ []) h9 Q))) : wq (d + 1) 51 150 [.ref x0, .ref x1, .int x2, .int x3, .int x4] [] h Q := by
  refine g3 c_51_150 rfl ?_
  refine g1 c_51_151 k_8 ?_
  refine gcm c_51_153 (gbr t rfl rfl (fun hc t => ?_) (fun hc t => ?_))
  · refine g5 c_51_164 rfl ?_
    obtain ⟨ho, t⟩ := t
    refine g43 c_51_165 ho ?_
    refine g1 c_51_168 k_30 ?_
    refine gcm c_51_170 (gbn t (ab_c1 _ _) rfl (fun hc t => ?_) (fun hc t => ?_))
    · refine g5 c_51_173 rfl ?_
      refine g1 c_51_174 k_30 ?_
      exact g80 (As := [.int 30]) (rest := []) c_51_176 rfl rfl (Nat.le_of_ble_eq_true rfl) (Nat.le_of_ble_eq_true rfl) t.1 t.2
    · refine g5 c_51_197 rfl ?_
      refine g1 c_51_198 k_33 ?_
      exact g80 (As := [.int 33]) (rest := []) c_51_200 rfl rfl (Nat.le_of_ble_eq_true rfl) (Nat.le_of_ble_eq_true rfl) t.1 t.2
  · refine g5 c_51_156 rfl ?_
    refine g1 c_51_157 k_3 ?_
    exact g80 (As := [.int 3]) (rest := []) c_51_158 rfl rfl (Nat.le_of_ble_eq_true rfl) (Nat.le_of_ble_eq_true rfl) t.1 t.2
set_option maxRecDepth 20000 in
theorem t_51_161 {d : Nat} {h : ab_H} {Q : Option Value → ab_H → Prop} {x0 : Nat} {x1 : Nat} {x2 : Int32} {x3 : Int32} {x4 : Int32} (t : wq d 51 242 [.ref x0, .ref x1, .int x2, .int x3, .int x4] [] h Q) : wq d 51 161 [.ref x0, .ref x1, .int x2, .int x3, .int x4] [] h Q := by
  refine g38 c_51_161 rfl ?_
  exact t
set_option maxRecDepth 20000 in
theorem t_51_179 {d : Nat} {h : ab_H} {Q : Option Value → ab_H → Prop} {x0 : Nat} {x1 : Nat} {x2 : Int32} {x3 : Int32} {x4 : Int32} (t : ab_ok h x0 103 = true ∧ wm d 51 [.ref x0, .ref x1, .int (x2 + 1)] h (fun r9 h9 => wq (d + 1) 51 187 [.ref x0, .ref x1, .int x2, .int x3, .int x4] (r9.toList ++ []) h9 Q)) : wq (d + 1) 51 179 [.ref x0, .ref x1, .int x2, .int x3, .int x4] [] h Q := by
  refine g5 c_51_179 rfl ?_
  refine g5 c_51_180 rfl ?_
  refine g3 c_51_181 rfl ?_
  refine g1 c_51_182 k_1 ?_
  refine g10 c_51_183 ?_
  exact g80 (As := [.ref x1, .int (x2 + 1)]) (rest := []) c_51_184 rfl rfl (Nat.le_of_ble_eq_true rfl) (Nat.le_of_ble_eq_true rfl) t.1 t.2
set_option maxRecDepth 20000 in
theorem t_51_187 {d : Nat} {h : ab_H} {Q : Option Value → ab_H → Prop} {x0 : Nat} {x1 : Nat} {x2 : Int32} {x3 : Int32} {x4 : Int32} (t : ab_ok h x1 107 = true ∧ wm d 84 [.ref x1, .int 37, .int 0] h (fun r9 h9 => wq (d + 1) 51 194 [.ref x0, .ref x1, .int x2, .int x3, .int x4] (r9.toList ++ []) h9 Q)) : wq (d + 1) 51 187 [.ref x0, .ref x1, .int x2, .int x3, .int x4] [] h Q := by
  refine g5 c_51_187 rfl ?_
  refine g1 c_51_188 k_37 ?_
  refine g1 c_51_190 k_0 ?_
  exact g80 (As := [.int 37, .int 0]) (rest := []) c_51_191 rfl rfl (Nat.le_of_ble_eq_true rfl) (Nat.le_of_ble_eq_true rfl) t.1 t.2
set_option maxRecDepth 20000 in
theorem t_51_194 {d : Nat} {h : ab_H} {Q : Option Value → ab_H → Prop} {x0 : Nat} {x1 : Nat} {x2 : Int32} {x3 : Int32} {x4 : Int32} (t : wq d 51 242 [.ref x0, .ref x1, .int x2, .int x3, .int x4] [] h Q) : wq d 51 194 [.ref x0, .ref x1, .int x2, .int x3, .int x4] [] h Q := by
  refine g38 c_51_194 rfl ?_
  exact t
set_option maxRecDepth 20000 in
theorem t_51_203 {d : Nat} {h : ab_H} {Q : Option Value → ab_H → Prop} {x0 : Nat} {x1 : Nat} {x2 : Int32} {x3 : Int32} {x4 : Int32} (t : ab_ok h x0 103 = true ∧ wm d 50 [.ref x0, .ref x1, .int (x2 + 1)] h (fun r9 h9 => wq (d + 1) 51 211 [.ref x0, .ref x1, .int x2, .int x3, .int x4] (r9.toList ++ []) h9 Q)) : wq (d + 1) 51 203 [.ref x0, .ref x1, .int x2, .int x3, .int x4] [] h Q := by
  refine g5 c_51_203 rfl ?_
  refine g5 c_51_204 rfl ?_
  refine g3 c_51_205 rfl ?_
  refine g1 c_51_206 k_1 ?_
  refine g10 c_51_207 ?_
  exact g80 (As := [.ref x1, .int (x2 + 1)]) (rest := []) c_51_208 rfl rfl (Nat.le_of_ble_eq_true rfl) (Nat.le_of_ble_eq_true rfl) t.1 t.2
set_option maxRecDepth 20000 in
theorem t_51_211 {d : Nat} {h : ab_H} {Q : Option Value → ab_H → Prop} {x0 : Nat} {x1 : Nat} {x2 : Int32} {x3 : Int32} {x4 : Int32} (t : if x4 = 0 then (ab_ok h x0 103 = true ∧ wm d 44 [.ref x0, .int 34] h (fun r9 h9 => wq (d + 1) 51 242 [.ref x0, .ref x1, .int x2, .int x3, .int x4] (r9.toList ++ []) h9 Q)) else (ab_ok h x0 103 = true ∧ wm d 44 [.ref x0, .int 35] h (fun r9 h9 => wq (d + 1) 51 222 [.ref x0, .ref x1, .int x2, .int x3, .int x4] (r9.toList ++ []) h9 Q))) : wq (d + 1) 51 211 [.ref x0, .ref x1, .int x2, .int x3, .int x4] [] h Q := by
  refine g3 c_51_211 rfl ?_
  refine gif c_51_213 (gbr t rfl rfl (fun hc t => ?_) (fun hc t => ?_))
  · refine g5 c_51_236 rfl ?_
    refine g1 c_51_237 k_34 ?_
    exact g80 (As := [.int 34]) (rest := []) c_51_239 rfl rfl (Nat.le_of_ble_eq_true rfl) (Nat.le_of_ble_eq_true rfl) t.1 t.2
  · refine g5 c_51_216 rfl ?_
    refine g1 c_51_217 k_35 ?_
    exact g80 (As := [.int 35]) (rest := []) c_51_219 rfl rfl (Nat.le_of_ble_eq_true rfl) (Nat.le_of_ble_eq_true rfl) t.1 t.2
set_option maxRecDepth 20000 in
theorem t_51_222 {d : Nat} {h : ab_H} {Q : Option Value → ab_H → Prop} {x0 : Nat} {x1 : Nat} {x2 : Int32} {x3 : Int32} {x4 : Int32} (t : ab_ok h x0 103 = true ∧ wm d 50 [.ref x0, .ref x1, .int (x2 + 1)] h (fun r9 h9 => wq (d + 1) 51 230 [.ref x0, .ref x1, .int x2, .int x3, .int x4] (r9.toList ++ []) h9 Q)) : wq (d + 1) 51 222 [.ref x0, .ref x1, .int x2, .int x3, .int x4] [] h Q := by
  refine g5 c_51_222 rfl ?_
  refine g5 c_51_223 rfl ?_
  refine g3 c_51_224 rfl ?_
  refine g1 c_51_225 k_1 ?_
  refine g10 c_51_226 ?_
  exact g80 (As := [.ref x1, .int (x2 + 1)]) (rest := []) c_51_227 rfl rfl (Nat.le_of_ble_eq_true rfl) (Nat.le_of_ble_eq_true rfl) t.1 t.2
set_option maxRecDepth 20000 in
theorem t_51_230 {d : Nat} {h : ab_H} {Q : Option Value → ab_H → Prop} {x0 : Nat} {x1 : Nat} {x2 : Int32} {x3 : Int32} {x4 : Int32} (t : ab_ok h x1 107 = true ∧ wm d 84 [.ref x1, .int x3, .int 0] h (fun r9 h9 => wq (d + 1) 51 236 [.ref x0, .ref x1, .int x2, .int x3, .int x4] (r9.toList ++ []) h9 Q)) : wq (d + 1) 51 230 [.ref x0, .ref x1, .int x2, .int x3, .int x4] [] h Q := by
  refine g5 c_51_230 rfl ?_
  refine g3 c_51_231 rfl ?_
  refine g1 c_51_232 k_0 ?_
  exact g80 (As := [.int x3, .int 0]) (rest := []) c_51_233 rfl rfl (Nat.le_of_ble_eq_true rfl) (Nat.le_of_ble_eq_true rfl) t.1 t.2
set_option maxRecDepth 20000 in
theorem t_51_236 {d : Nat} {h : ab_H} {Q : Option Value → ab_H → Prop} {x0 : Nat} {x1 : Nat} {x2 : Int32} {x3 : Int32} {x4 : Int32} (t : ab_ok h x0 103 = true ∧ wm d 44 [.ref x0, .int 34] h (fun r9 h9 => wq (d + 1) 51 242 [.ref x0, .ref x1, .int x2, .int x3, .int x4] (r9.toList ++ []) h9 Q)) : wq (d + 1) 51 236 [.ref x0, .ref x1, .int x2, .int x3, .int x4] [] h Q := by
  refine g5 c_51_236 rfl ?_
  refine g1 c_51_237 k_34 ?_
  exact g80 (As := [.int 34]) (rest := []) c_51_239 rfl rfl (Nat.le_of_ble_eq_true rfl) (Nat.le_of_ble_eq_true rfl) t.1 t.2
set_option maxRecDepth 20000 in
theorem t_51_242 {d : Nat} {h : ab_H} {Q : Option Value → ab_H → Prop} {x0 : Nat} {x1 : Nat} {x2 : Int32} {x3 : Int32} {x4 : Int32} (t : Q none h) : wq d 51 242 [.ref x0, .ref x1, .int x2, .int x3, .int x4] [] h Q := by
  exact g94 c_51_242 t
