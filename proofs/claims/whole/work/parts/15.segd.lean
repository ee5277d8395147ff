/-! the segments of the program, printed by wip/whole/segs.py -/
-- method 61: MillTown$Sharing.<init>()V
theorem c_61_0 : pg_cd 61 0 = (5, 1, 0, 0, 0) := by decide +kernel
theorem c_61_1 : pg_cd 61 1 = (61, 0, 3, 0, 0) := by decide +kernel
theorem c_61_4 : pg_cd 61 4 = (5, 1, 0, 0, 0) := by decide +kernel
theorem c_61_5 : pg_cd 61 5 = (1, 3, 0, 0, 576) := by decide +kernel
theorem c_61_8 : pg_cd 61 8 = (59, 2, 0, 1, 0) := by decide +kernel
theorem c_61_10 : pg_cd 61 10 = (49, 5, 11, 0, 0) := by decide +kernel
theorem c_61_13 : pg_cd 61 13 = (5, 1, 0, 0, 0) := by decide +kernel
theorem c_61_14 : pg_cd 61 14 = (1, 2, 0, 0, 24) := by decide +kernel
theorem c_61_16 : pg_cd 61 16 = (59, 2, 0, 0, 0) := by decide +kernel
theorem c_61_18 : pg_cd 61 18 = (49, 5, 15, 1, 0) := by decide +kernel
theorem c_61_21 : pg_cd 61 21 = (5, 1, 0, 0, 0) := by decide +kernel
theorem c_61_22 : pg_cd 61 22 = (1, 3, 0, 0, 216) := by decide +kernel
theorem c_61_25 : pg_cd 61 25 = (59, 2, 0, 1, 0) := by decide +kernel
theorem c_61_27 : pg_cd 61 27 = (49, 5, 19, 2, 0) := by decide +kernel
theorem c_61_30 : pg_cd 61 30 = (5, 1, 0, 0, 0) := by decide +kernel
theorem c_61_31 : pg_cd 61 31 = (1, 3, 0, 0, 216) := by decide +kernel
theorem c_61_34 : pg_cd 61 34 = (59, 2, 0, 1, 0) := by decide +kernel
theorem c_61_36 : pg_cd 61 36 = (49, 5, 22, 3, 0) := by decide +kernel
theorem c_61_39 : pg_cd 61 39 = (5, 1, 0, 0, 0) := by decide +kernel
theorem c_61_40 : pg_cd 61 40 = (1, 2, 0, 0, 9) := by decide +kernel
theorem c_61_42 : pg_cd 61 42 = (59, 2, 0, 0, 0) := by decide +kernel
theorem c_61_44 : pg_cd 61 44 = (49, 5, 25, 4, 0) := by decide +kernel
theorem c_61_47 : pg_cd 61 47 = (5, 1, 0, 0, 0) := by decide +kernel
theorem c_61_48 : pg_cd 61 48 = (1, 2, 0, 0, 8) := by decide +kernel
theorem c_61_50 : pg_cd 61 50 = (59, 2, 0, 0, 0) := by decide +kernel
theorem c_61_52 : pg_cd 61 52 = (49, 5, 28, 5, 0) := by decide +kernel
theorem c_61_55 : pg_cd 61 55 = (5, 1, 0, 0, 0) := by decide +kernel
theorem c_61_56 : pg_cd 61 56 = (1, 2, 0, 0, 8) := by decide +kernel
theorem c_61_58 : pg_cd 61 58 = (59, 2, 0, 0, 0) := by decide +kernel
theorem c_61_60 : pg_cd 61 60 = (49, 5, 31, 6, 0) := by decide +kernel
theorem c_61_63 : pg_cd 61 63 = (5, 1, 0, 0, 0) := by decide +kernel
theorem c_61_64 : pg_cd 61 64 = (1, 2, 0, 0, 8) := by decide +kernel
theorem c_61_66 : pg_cd 61 66 = (59, 2, 0, 0, 0) := by decide +kernel
theorem c_61_68 : pg_cd 61 68 = (49, 5, 34, 7, 0) := by decide +kernel
theorem c_61_71 : pg_cd 61 71 = (5, 1, 0, 0, 0) := by decide +kernel
theorem c_61_72 : pg_cd 61 72 = (1, 2, 0, 0, 24) := by decide +kernel
theorem c_61_74 : pg_cd 61 74 = (59, 2, 0, 1, 0) := by decide +kernel
theorem c_61_76 : pg_cd 61 76 = (49, 5, 37, 8, 0) := by decide +kernel
theorem c_61_79 : pg_cd 61 79 = (94, 0, 0, 0, 0) := by decide +kernel
theorem mx_61 : pg_mx 61 = 1 := by decide +kernel
theorem m_61 {d : Nat} {h : ab_H} {Q : Option Value → ab_H → Prop} {x0 : Nat} (t : wq d 61 0 [.ref x0] [] h Q) : wm d 61 [.ref x0] h Q := by
  unfold wm
  rw [mx_61]
  exact t
set_option maxRecDepth 20000 in
theorem t_61_0 {d : Nat} {h : ab_H} {Q : Option Value → ab_H → Prop} {x0 : Nat} (t : (¬ (576 : Int32) < 0 ∧ Int32.toNatClampNeg (576 : Int32) ≤ 1000000) ∧ ∀ h1 : ab_H, h1 = ab_new h 1 (Int32.toNatClampNeg (576 : Int32)) (Int32.toNatClampNeg (576 : Int32)) → ab_ok h1 x0 105 = true ∧ ∀ h2 : ab_H, h2 = ab_pr h1 x0 0 (some (ab_n h)) → (¬ (24 : Int32) < 0 ∧ Int32.toNatClampNeg (24 : Int32) ≤ 1000000) ∧ ∀ h3 : ab_H, h3 = ab_new h2 0 (Int32.toNatClampNeg (24 : Int32)) (Int32.toNatClampNeg (24 : Int32)) → ab_ok h3 x0 105 = true ∧ ∀ h4 : ab_H, h4 = ab_pr h3 x0 1 (some (ab_n h2)) → (¬ (216 : Int32) < 0 ∧ Int32.toNatClampNeg (216 : Int32) ≤ 1000000) ∧ ∀ h5 : ab_H, h5 = ab_new h4 1 (Int32.toNatClampNeg (216 : Int32)) (Int32.toNatClampNeg (216 : Int32)) → ab_ok h5 x0 105 = true ∧ ∀ h6 : ab_H, h6 = ab_pr h5 x0 2 (some (ab_n h4)) → (¬ (216 : Int32) < 0 ∧ Int32.toNatClampNeg (216 : Int32) ≤ 1000000) ∧ ∀ h7 : ab_H, h7 = ab_new h6 1 (Int32.toNatClampNeg (216 : Int32)) (Int32.toNatClampNeg (216 : Int32)) → ab_ok h7 x0 105 = true ∧ ∀ h8 : ab_H, h8 = ab_pr h7 x0 3 (some (ab_n h6)) → (¬ (9 : Int32) < 0 ∧ Int32.toNatClampNeg (9 : Int32) ≤ 1000000) ∧ ∀ h9 : ab_H, h9 = ab_new h8 0 (Int32.toNatClampNeg (9 : Int32)) (Int32.toNatClampNeg (9 : Int32)) → ab_ok h9 x0 105 = true ∧ ∀ h10 : ab_H, h10 = ab_pr h9 x0 4 (some (ab_n h8)) → (¬ (8 : Int32) < 0 ∧ Int32.toNatClampNeg (8 : Int32) ≤ 1000000) ∧ ∀ h11 : ab_H, h11 = ab_new h10 0 (Int32.toNatClampNeg (8 : Int32)) (Int32.toNatClampNeg (8 : Int32)) → ab_ok h11 x0 105 = true ∧ ∀ h12 : ab_H, h12 = ab_pr h11 x0 5 (some (ab_n h10)) → (¬ (8 : Int32) < 0 ∧ Int32.toNatClampNeg (8 : Int32) ≤ 1000000) ∧ ∀ h13 : ab_H, h13 = ab_new h12 0 (Int32.toNatClampNeg (8 : Int32)) (Int32.toNatClampNeg (8 : Int32)) → ab_ok h13 x0 105 = true ∧ ∀ h14 : ab_H, h14 = ab_pr h13 x0 6 (some (ab_n h12)) → (¬ (8 : Int32) < 0 ∧ Int32.toNatClampNeg (8 : Int32) ≤ 1000000) ∧ ∀ h15 : ab_H, h15 = ab_new h14 0 (Int32.toNatClampNeg (8 : Int32)) (Int32.toNatClampNeg (8 : Int32)) → ab_ok h15 x0 105 = true ∧ ∀ h16 : ab_H, h16 = ab_pr h15 x0 7 (some (ab_n h14)) → (¬ (24 : Int32) < 0 ∧ Int32.toNatClampNeg (24 : Int32) ≤ 1000000) ∧ ∀ h17 : ab_H, h17 = ab_new h16 1 (Int32.toNatClampNeg (24 : Int32)) (Int32.toNatClampNeg (24 : Int32)) → ab_ok h17 x0 105 = true ∧ ∀ h18 : ab_H, h18 = ab_pr h17 x0 8 (some (ab_n h16)) → Q none h18) : wq d 61 0 [.ref x0] [] h Q := by
  refine g5 c_61_0 rfl ?_
  refine g61 c_61_1 (Nat.le_of_ble_eq_true rfl) ?_
  refine g5 c_61_4 rfl ?_
  refine g1 c_61_5 k_576 ?_
  obtain ⟨ho, t⟩ := t
  refine g59 c_61_8 ho (fun h1 eh1 => ?_)
  have t := t h1 eh1
  obtain ⟨ho, t⟩ := t
  refine g49 c_61_10 ho (fun h2 eh2 => ?_)
  have t := t h2 eh2
  refine g5 c_61_13 rfl ?_
  refine g1 c_61_14 k_24 ?_
  obtain ⟨ho, t⟩ := t
  refine g59 c_61_16 ho (fun h3 eh3 => ?_)
  have t := t h3 eh3
  obtain ⟨ho, t⟩ := t
  refine g49 c_61_18 ho (fun h4 eh4 => ?_)
  have t := t h4 eh4
  refine g5 c_61_21 rfl ?_
  refine g1 c_61_22 k_216 ?_
  obtain ⟨ho, t⟩ := t
  refine g59 c_61_25 ho (fun h5 eh5 => ?_)
  have t := t h5 eh5
  obtain ⟨ho, t⟩ := t
  refine g49 c_61_27 ho (fun h6 eh6 => ?_)
  have t := t h6 eh6
  refine g5 c_61_30 rfl ?_
  refine g1 c_61_31 k_216 ?_
  obtain ⟨ho, t⟩ := t
  refine g59 c_61_34 ho (fun h7 eh7 => ?_)
  have t := t h7 eh7
  obtain ⟨ho, t⟩ := t
  refine g49 c_61_36 ho (fun h8 eh8 => ?_)
  have t := t h8 eh8
  refine g5 c_61_39 rfl ?_
  refine g1 c_61_40 k_9 ?_
  obtain ⟨ho, t⟩ := t
  refine g59 c_61_42 ho (fun h9 eh9 => ?_)
  have t := t h9 eh9
  obtain ⟨ho, t⟩ := t
  refine g49 c_61_44 ho (fun h10 eh10 => ?_)
  have t := t h10 eh10
  refine g5 c_61_47 rfl ?_
  refine g1 c_61_48 k_8 ?_
  obtain ⟨ho, t⟩ := t
  refine g59 c_61_50 ho (fun h11 eh11 => ?_)
  have t := t h11 eh11
  obtain ⟨ho, t⟩ := t
  refine g49 c_61_52 ho (fun h12 eh12 => ?_)
  have t := t h12 eh12
  refine g5 c_61_55 rfl ?_
  refine g1 c_61_56 k_8 ?_
  obtain ⟨ho, t⟩ := t
  refine g59 c_61_58 ho (fun h13 eh13 => ?_)
  have t := t h13 eh13
  obtain ⟨ho, t⟩ := t
  refine g49 c_61_60 ho (fun h14 eh14 => ?_)
  have t := t h14 eh14
  refine g5 c_61_63 rfl ?_
  refine g1 c_61_64 k_8 ?_
  obtain ⟨ho, t⟩ := t
  refine g59 c_61_66 ho (fun h15 eh15 => ?_)
  have t := t h15 eh15
  obtain ⟨ho, t⟩ := t
  refine g49 c_61_68 ho (fun h16 eh16 => ?_)
  have t := t h16 eh16
  refine g5 c_61_71 rfl ?_
  refine g1 c_61_72 k_24 ?_
  obtain ⟨ho, t⟩ := t
  refine g59 c_61_74 ho (fun h17 eh17 => ?_)
  have t := t h17 eh17
  obtain ⟨ho, t⟩ := t
  refine g49 c_61_76 ho (fun h18 eh18 => ?_)
  have t := t h18 eh18
  exact g94 c_61_79 t
-- method 62: MillTown$Sharing.bestRun(I)I
theorem c_62_0 : pg_cd 62 0 = (3, 1, 0, 1, 0) := by decide +kernel
theorem c_62_1 : pg_cd 62 1 = (36, 3, 0, 2, 18) := by decide +kernel
theorem c_62_4 : pg_cd 62 4 = (3, 1, 0, 1, 0) := by decide +kernel
theorem c_62_5 : pg_cd 62 5 = (1, 2, 0, 0, 8) := by decide +kernel
theorem c_62_7 : pg_cd 62 7 = (37, 3, 0, 3, 12) := by decide +kernel
theorem c_62_10 : pg_cd 62 10 = (5, 1, 0, 0, 0) := by decide +kernel
theorem c_62_11 : pg_cd 62 11 = (45, 5, 34, 7, 0) := by decide +kernel
theorem c_62_14 : pg_cd 62 14 = (3, 1, 0, 1, 0) := by decide +kernel
theorem c_62_15 : pg_cd 62 15 = (50, 1, 0, 0, 0) := by decide +kernel
theorem c_62_16 : pg_cd 62 16 = (38, 3, 0, 0, 4) := by decide +kernel
theorem c_62_19 : pg_cd 62 19 = (1, 1, 0, 0, (-1)) := by decide +kernel
theorem c_62_20 : pg_cd 62 20 = (90, 0, 0, 0, 0) := by decide +kernel
theorem mx_62 : pg_mx 62 = 2 := by decide +kernel
theorem m_62 {d : Nat} {h : ab_H} {Q : Option Value → ab_H → Prop} {x0 : Nat} {x1 : Int32} (t : wq d 62 0 [.ref x0, .int x1] [] h Q) : wm d 62 [.ref x0, .int x1] h Q := by
  unfold wm
  rw [mx_62]
  exact t
set_option maxRecDepth 20000 in
theorem t_62_0 {d : Nat} {h : ab_H} {Q : Option Value → ab_H → Prop} {x0 : Nat} {x1 : Int32} (t : if x1 < 0 then (Q (some (.int (-1))) h) else (if 8 ≤ x1 then (Q (some (.int (-1))) h) else (ab_ok h x0 105 = true ∧ ∃ j1 : Nat, ab_r h x0 7 = some j1 ∧ ((j1 = 0 ∨ ab_ok h j1 0 = true) ∧ ab_in x1 (ab_s h j1).2 = true) ∧ Q (some (.int (ab_i h j1 (Int32.toNatClampNeg x1)))) h))) : wq d 62 0 [.ref x0, .int x1] [] h Q := by
  refine g3 c_62_0 rfl ?_
  refine gif c_62_1 (gbr t rfl rfl (fun hc t => ?_) (fun hc t => ?_))
  · refine g1 c_62_19 k_m1 ?_
    exact g90 c_62_20 t
  · refine g3 c_62_4 rfl ?_
    refine g1 c_62_5 k_8 ?_
    refine gcm c_62_7 (gbr t rfl rfl (fun hc t => ?_) (fun hc t => ?_))
    · refine g1 c_62_19 k_m1 ?_
      exact g90 c_62_20 t
    · refine g5 c_62_10 rfl ?_
      obtain ⟨ho, j1, hr, t⟩ := t
      refine g45 c_62_11 ho hr ?_
      refine g3 c_62_14 rfl ?_
      obtain ⟨ho, t⟩ := t
      refine g50 c_62_15 ho ?_
      refine g38 c_62_16 rfl ?_
      exact g90 c_62_20 t
-- method 63: MillTown$Sharing.plan(LMillTown$Town;LMillTown$Law;I)V
theorem c_63_0 : pg_cd 63 0 = (5, 1, 0, 0, 0) := by decide +kernel
theorem c_63_1 : pg_cd 63 1 = (3, 1, 0, 3, 0) := by decide +kernel
theorem c_63_2 : pg_cd 63 2 = (46, 5, 40, 9, 0) := by decide +kernel
theorem c_63_5 : pg_cd 63 5 = (5, 1, 0, 0, 0) := by decide +kernel
theorem c_63_6 : pg_cd 63 6 = (1, 2, 0, 0, 25) := by decide +kernel
theorem c_63_8 : pg_cd 63 8 = (46, 5, 44, 10, 0) := by decide +kernel
theorem c_63_11 : pg_cd 63 11 = (5, 1, 0, 0, 0) := by decide +kernel
theorem c_63_12 : pg_cd 63 12 = (1, 1, 0, 0, (-1)) := by decide +kernel
theorem c_63_13 : pg_cd 63 13 = (46, 5, 47, 11, 0) := by decide +kernel
theorem c_63_16 : pg_cd 63 16 = (5, 1, 0, 0, 0) := by decide +kernel
theorem c_63_17 : pg_cd 63 17 = (5, 1, 0, 1, 0) := by decide +kernel
theorem c_63_18 : pg_cd 63 18 = (80, 64, 50, 0, 0) := by decide +kernel
theorem c_63_21 : pg_cd 63 21 = (5, 1, 0, 0, 0) := by decide +kernel
theorem c_63_22 : pg_cd 63 22 = (5, 1, 0, 1, 0) := by decide +kernel
theorem c_63_23 : pg_cd 63 23 = (5, 1, 0, 2, 0) := by decide +kernel
theorem c_63_24 : pg_cd 63 24 = (80, 65, 54, 0, 0) := by decide +kernel
theorem c_63_27 : pg_cd 63 27 = (5, 1, 0, 0, 0) := by decide +kernel
theorem c_63_28 : pg_cd 63 28 = (45, 5, 11, 0, 0) := by decide +kernel
theorem c_63_31 : pg_cd 63 31 = (2, 1, 0, 0, 0) := by decide +kernel
theorem c_63_32 : pg_cd 63 32 = (81, 328, 58, 0, 0) := by decide +kernel
theorem c_63_35 : pg_cd 63 35 = (5, 1, 0, 0, 0) := by decide +kernel
theorem c_63_36 : pg_cd 63 36 = (45, 5, 15, 1, 0) := by decide +kernel
theorem c_63_39 : pg_cd 63 39 = (1, 1, 0, 0, 0) := by decide +kernel
theorem c_63_40 : pg_cd 63 40 = (81, 329, 64, 0, 0) := by decide +kernel
theorem c_63_43 : pg_cd 63 43 = (1, 1, 0, 0, 0) := by decide +kernel
theorem c_63_44 : pg_cd 63 44 = (6, 2, 0, 4, 0) := by decide +kernel
theorem c_63_46 : pg_cd 63 46 = (3, 2, 0, 4, 0) := by decide +kernel
theorem c_63_48 : pg_cd 63 48 = (5, 1, 0, 1, 0) := by decide +kernel
theorem c_63_49 : pg_cd 63 49 = (45, 8, 67, 5, 0) := by decide +kernel
theorem c_63_52 : pg_cd 63 52 = (43, 4, 73, 2, 0) := by decide +kernel
theorem c_63_55 : pg_cd 63 55 = (37, 3, 0, 3, 50) := by decide +kernel
theorem c_63_58 : pg_cd 63 58 = (5, 1, 0, 1, 0) := by decide +kernel
theorem c_63_59 : pg_cd 63 59 = (45, 8, 67, 5, 0) := by decide +kernel
theorem c_63_62 : pg_cd 63 62 = (3, 2, 0, 4, 0) := by decide +kernel
theorem c_63_64 : pg_cd 63 64 = (1, 1, 0, 0, 4) := by decide +kernel
theorem c_63_65 : pg_cd 63 65 = (80, 55, 78, 0, 0) := by decide +kernel
theorem c_63_68 : pg_cd 63 68 = (6, 2, 0, 5, 0) := by decide +kernel
theorem c_63_70 : pg_cd 63 70 = (3, 2, 0, 5, 0) := by decide +kernel
theorem c_63_72 : pg_cd 63 72 = (1, 1, 0, 0, (-1)) := by decide +kernel
theorem c_63_73 : pg_cd 63 73 = (37, 3, 0, 0, 26) := by decide +kernel
theorem c_63_76 : pg_cd 63 76 = (5, 1, 0, 1, 0) := by decide +kernel
theorem c_63_77 : pg_cd 63 77 = (45, 8, 82, 2, 0) := by decide +kernel
theorem c_63_80 : pg_cd 63 80 = (3, 2, 0, 5, 0) := by decide +kernel
theorem c_63_82 : pg_cd 63 82 = (1, 1, 0, 0, 4) := by decide +kernel
theorem c_63_83 : pg_cd 63 83 = (80, 55, 78, 0, 0) := by decide +kernel
theorem c_63_86 : pg_cd 63 86 = (36, 3, 0, 1, 13) := by decide +kernel
theorem c_63_89 : pg_cd 63 89 = (5, 1, 0, 0, 0) := by decide +kernel
theorem c_63_90 : pg_cd 63 90 = (5, 1, 0, 1, 0) := by decide +kernel
theorem c_63_91 : pg_cd 63 91 = (5, 1, 0, 2, 0) := by decide +kernel
theorem c_63_92 : pg_cd 63 92 = (3, 2, 0, 4, 0) := by decide +kernel
theorem c_63_94 : pg_cd 63 94 = (3, 2, 0, 5, 0) := by decide +kernel
theorem c_63_96 : pg_cd 63 96 = (80, 66, 85, 0, 0) := by decide +kernel
theorem c_63_99 : pg_cd 63 99 = (9, 3, 0, 4, 1) := by decide +kernel
theorem c_63_102 : pg_cd 63 102 = (38, 3, 0, 0, (-56)) := by decide +kernel
theorem c_63_105 : pg_cd 63 105 = (5, 1, 0, 0, 0) := by decide +kernel
theorem c_63_106 : pg_cd 63 106 = (5, 1, 0, 1, 0) := by decide +kernel
theorem c_63_107 : pg_cd 63 107 = (45, 8, 82, 2, 0) := by decide +kernel
theorem c_63_110 : pg_cd 63 110 = (43, 4, 73, 2, 0) := by decide +kernel
theorem c_63_113 : pg_cd 63 113 = (80, 69, 89, 0, 0) := by decide +kernel
theorem c_63_116 : pg_cd 63 116 = (5, 1, 0, 0, 0) := by decide +kernel
theorem c_63_117 : pg_cd 63 117 = (45, 5, 19, 2, 0) := by decide +kernel
theorem c_63_120 : pg_cd 63 120 = (2, 1, 0, 0, 0) := by decide +kernel
theorem c_63_121 : pg_cd 63 121 = (81, 328, 58, 0, 0) := by decide +kernel
theorem c_63_124 : pg_cd 63 124 = (5, 1, 0, 0, 0) := by decide +kernel
theorem c_63_125 : pg_cd 63 125 = (5, 1, 0, 1, 0) := by decide +kernel
theorem c_63_126 : pg_cd 63 126 = (45, 8, 82, 2, 0) := by decide +kernel
theorem c_63_129 : pg_cd 63 129 = (1, 1, 0, 0, 0) := by decide +kernel
theorem c_63_130 : pg_cd 63 130 = (1, 1, 0, 0, 0) := by decide +kernel
theorem c_63_131 : pg_cd 63 131 = (80, 71, 93, 0, 0) := by decide +kernel
theorem c_63_134 : pg_cd 63 134 = (94, 0, 0, 0, 0) := by decide +kernel
theorem mx_63 : pg_mx 63 = 6 := by decide +kernel
theorem m_63 {d : Nat} {h : ab_H} {Q : Option Value → ab_H → Prop} {x0 : Nat} {x1 : Nat} {x2 : Nat} {x3 : Int32} (t : wq d 63 0 [.ref x0, .ref x1, .ref x2, .int x3, .retAddr 0, .retAddr 0] [] h Q) : wm d 63 [.ref x0, .ref x1, .ref x2, .int x3] h Q := by
  unfold wm
  rw [mx_63]
  exact t
set_option maxRecDepth 20000 in
theorem t_63_0 {d : Nat} {h : ab_H} {Q : Option Value → ab_H → Prop} {x0 : Nat} {x1 : Nat} {x2 : Nat} {x3 : Int32} (t : ab_ok h x0 105 = true ∧ ∀ h1 : ab_H, h1 = ab_pi h x0 9 x3 → ab_ok h1 x0 105 = true ∧ ∀ h2 : ab_H, h2 = ab_pi h1 x0 10 25 → ab_ok h2 x0 105 = true ∧ ∀ h3 : ab_H, h3 = ab_pi h2 x0 11 (-1) → ab_ok h3 x0 105 = true ∧ wm d 64 [.ref x0, .ref x1] h3 (fun r9 h9 => wq (d + 1) 63 21 [.ref x0, .ref x1, .ref x2, .int x3, .retAddr 0, .retAddr 0] (r9.toList ++ []) h9 Q)) : wq (d + 1) 63 0 [.ref x0, .ref x1, .ref x2, .int x3, .retAddr 0, .retAddr 0] [] h Q := by
  refine g5 c_63_0 rfl ?_
  refine g3 c_63_1 rfl ?_
  obtain ⟨ho, t⟩ := t
  refine g46 c_63_2 ho (fun h1 eh1 => ?_)
  have t := t h1 eh1
  refine g5 c_63_5 rfl ?_
  refine g1 c_63_6 k_25 ?_
  obtain ⟨ho, t⟩ := t
  refine g46 c_63_8 ho (fun h2 eh2 => ?_)
  have t := t h2 eh2
  refine g5 c_63_11 rfl ?_
  refine g1 c_63_12 k_m1 ?_
  obtain ⟨ho, t⟩ := t
  refine g46 c_63_13 ho (fun h3 eh3 => ?_)
  have t := t h3 eh3
  refine g5 c_63_16 rfl ?_
  refine g5 c_63_17 rfl ?_
  exact g80 (As := [.ref x1]) (rest := []) c_63_18 rfl rfl (Nat.le_of_ble_eq_true rfl) (Nat.le_of_ble_eq_true rfl) t.1 t.2
set_option maxRecDepth 20000 in
theorem t_63_21 {d : Nat} {h : ab_H} {Q : Option Value → ab_H → Prop} {x0 : Nat} {x1 : Nat} {x2 : Nat} {x3 : Int32} (t : ab_ok h x0 105 = true ∧ wm d 65 [.ref x0, .ref x1, .ref x2] h (fun r9 h9 => wq (d + 1) 63 27 [.ref x0, .ref x1, .ref x2, .int x3, .retAddr 0, .retAddr 0] (r9.toList ++ []) h9 Q)) : wq (d + 1) 63 21 [.ref x0, .ref x1, .ref x2, .int x3, .retAddr 0, .retAddr 0] [] h Q := by
  refine g5 c_63_21 rfl ?_
  refine g5 c_63_22 rfl ?_
  refine g5 c_63_23 rfl ?_
  exact g80 (As := [.ref x1, .ref x2]) (rest := []) c_63_24 rfl rfl (Nat.le_of_ble_eq_true rfl) (Nat.le_of_ble_eq_true rfl) t.1 t.2
set_option maxRecDepth 20000 in
theorem t_63_27 {d : Nat} {h : ab_H} {Q : Option Value → ab_H → Prop} {x0 : Nat} {x1 : Nat} {x2 : Nat} {x3 : Int32} (t : ab_ok h x0 105 = true ∧ ∃ j1 : Nat, ab_r h x0 0 = some j1 ∧ wm d 328 [.ref j1, .long 0] h (fun r9 h9 => wq (d + 1) 63 35 [.ref x0, .ref x1, .ref x2, .int x3, .retAddr 0, .retAddr 0] (r9.toList ++ []) h9 Q)) : wq (d + 1) 63 27 [.ref x0, .ref x1, .ref x2, .int x3, .retAddr 0, .retAddr 0] [] h Q := by
  refine g5 c_63_27 rfl ?_
  obtain ⟨ho, j1, hr, t⟩ := t
  refine g45 c_63_28 ho hr ?_
  refine g2 c_63_31 kl_0 ?_
  exact g81 (As := [.ref j1, .long 0]) (rest := []) c_63_32 rfl rfl (Nat.le_of_ble_eq_true rfl) (Nat.le_of_ble_eq_true rfl) t
set_option maxRecDepth 20000 in
theorem t_63_35 {d : Nat} {h : ab_H} {Q : Option Value → ab_H → Prop} {x0 : Nat} {x1 : Nat} {x2 : Nat} {x3 : Int32} (t : ab_ok h x0 105 = true ∧ ∃ j1 : Nat, ab_r h x0 1 = some j1 ∧ wm d 329 [.ref j1, .int 0] h (fun r9 h9 => wq (d + 1) 63 43 [.ref x0, .ref x1, .ref x2, .int x3, .retAddr 0, .retAddr 0] (r9.toList ++ []) h9 Q)) : wq (d + 1) 63 35 [.ref x0, .ref x1, .ref x2, .int x3, .retAddr 0, .retAddr 0] [] h Q := by
  refine g5 c_63_35 rfl ?_
  obtain ⟨ho, j1, hr, t⟩ := t
  refine g45 c_63_36 ho hr ?_
  refine g1 c_63_39 k_0 ?_
  exact g81 (As := [.ref j1, .int 0]) (rest := []) c_63_40 rfl rfl (Nat.le_of_ble_eq_true rfl) (Nat.le_of_ble_eq_true rfl) t
set_option maxRecDepth 20000 in
theorem t_63_43 {d : Nat} {h : ab_H} {Q : Option Value → ab_H → Prop} {x0 : Nat} {x1 : Nat} {x2 : Nat} {x3 : Int32} (t : wq d 63 46 [.ref x0, .ref x1, .ref x2, .int x3, .int 0, .retAddr 0] [] h Q) : wq d 63 43 [.ref x0, .ref x1, .ref x2, .int x3, .retAddr 0, .retAddr 0] [] h Q := by
  refine g1 c_63_43 k_0 ?_
  refine g6 (L' := [.ref x0, .ref x1, .ref x2, .int x3, .int 0, .retAddr 0]) c_63_44 rfl ?_
  exact t
set_option maxRecDepth 20000 in
theorem t_63_46 {d : Nat} {h : ab_H} {Q : Option Value → ab_H → Prop} {x0 : Nat} {x1 : Nat} {x2 : Nat} {x3 : Int32} {x4 : Int32} (t : ab_ok h x1 108 = true ∧ ∃ j1 : Nat, ab_r h x1 5 = some j1 ∧ ab_ok h j1 104 = true ∧ if (ab_i h j1 2) ≤ x4 then (ab_ok h x1 108 = true ∧ ∃ j2 : Nat, ab_r h x1 2 = some j2 ∧ ab_ok h j2 104 = true ∧ ab_ok h x0 105 = true ∧ wm d 69 [.ref x0, .int (ab_i h j2 2)] h (fun r9 h9 => wq (d + 1) 63 116 [.ref x0, .ref x1, .ref x2, .int x3, .int x4, .retAddr 0] (r9.toList ++ []) h9 Q)) else (ab_ok h x1 108 = true ∧ ∃ j3 : Nat, ab_r h x1 5 = some j3 ∧ ab_ok h j3 104 = true ∧ wm d 55 [.ref j3, .int x4, .int 4] h (fun r9 h9 => wq (d + 1) 63 68 [.ref x0, .ref x1, .ref x2, .int x3, .int x4, .retAddr 0] (r9.toList ++ []) h9 Q))) : wq (d + 1) 63 46 [.ref x0, .ref x1, .ref x2, .int x3, .int x4, .retAddr 0] [] h Q := by
  refine g3 c_63_46 rfl ?_
  refine g5 c_63_48 rfl ?_
  obtain ⟨ho, j1, hr, t⟩ := t
  refine g45 c_63_49 ho hr ?_
  obtain ⟨ho, t⟩ := t
  refine g43 c_63_52 ho ?_
  refine gcm c_63_55 (gbr t rfl rfl (fun hc t => ?_) (fun hc t => ?_))
  · refine g5 c_63_105 rfl ?_
    refine g5 c_63_106 rfl ?_
    obtain ⟨ho, j2, hr, t⟩ := t
    refine g45 c_63_107 ho hr ?_
    obtain ⟨ho, t⟩ := t
    refine g43 c_63_110 ho ?_
    exact g80 (As := [.int (ab_i h j2 2)]) (rest := []) c_63_113 rfl rfl (Nat.le_of_ble_eq_true rfl) (Nat.le_of_ble_eq_true rfl) t.1 t.2
  · refine g5 c_63_58 rfl ?_
    obtain ⟨ho, j3, hr, t⟩ := t
    refine g45 c_63_59 ho hr ?_
    refine g3 c_63_62 rfl ?_
    refine g1 c_63_64 k_4 ?_
    exact g80 (As := [.int x4, .int 4]) (rest := []) c_63_65 rfl rfl (Nat.le_of_ble_eq_true rfl) (Nat.le_of_ble_eq_true rfl) t.1 t.2
set_option maxRecDepth 20000 in
theorem t_63_68 {d : Nat} {h : ab_H} {Q : Option Value → ab_H → Prop} {x0 : Nat} {x1 : Nat} {x2 : Nat} {x3 : Int32} {x4 : Int32} {s0 : Int32} (t : if s0 = (-1) then (wq (d + 1) 63 46 [.ref x0, .ref x1, .ref x2, .int x3, .int (x4 + 1), .int s0] [] h Q) else (ab_ok h x1 108 = true ∧ ∃ j1 : Nat, ab_r h x1 2 = some j1 ∧ ab_ok h j1 104 = true ∧ wm d 55 [.ref j1, .int s0, .int 4] h (fun r9 h9 => wq (d + 1) 63 86 [.ref x0, .ref x1, .ref x2, .int x3, .int x4, .int s0] (r9.toList ++ []) h9 Q))) : wq (d + 1) 63 68 [.ref x0, .ref x1, .ref x2, .int x3, .int x4, .retAddr 0] [.int s0] h Q := by
  refine g6 (L' := [.ref x0, .ref x1, .ref x2, .int x3, .int x4, .int s0]) c_63_68 rfl ?_
  refine g3 c_63_70 rfl ?_
  refine g1 c_63_72 k_m1 ?_
  refine gcm c_63_73 (gbr t rfl rfl (fun hc t => ?_) (fun hc t => ?_))
  · refine g9 (L' := [.ref x0, .ref x1, .ref x2, .int x3, .int (x4 + 1), .int s0]) c_63_99 rfl k_1 rfl ?_
    refine g38 c_63_102 rfl ?_
    exact t
  · refine g5 c_63_76 rfl ?_
    obtain ⟨ho, j1, hr, t⟩ := t
    refine g45 c_63_77 ho hr ?_
    refine g3 c_63_80 rfl ?_
    refine g1 c_63_82 k_4 ?_
    exact g80 (As := [.int s0, .int 4]) (rest := []) c_63_83 rfl rfl (Nat.le_of_ble_eq_true rfl) (Nat.le_of_ble_eq_true rfl) t.1 t.2
set_option maxRecDepth 20000 in
theorem t_63_86 {d : Nat} {h : ab_H} {Q : Option Value → ab_H → Prop} {x0 : Nat} {x1 : Nat} {x2 : Nat} {x3 : Int32} {x4 : Int32} {x5 : Int32} {s0 : Int32} (t : if s0 = 0 then (ab_ok h x0 105 = true ∧ wm d 66 [.ref x0, .ref x1, .ref x2, .int x4, .int x5] h (fun r9 h9 => wq (d + 1) 63 99 [.ref x0, .ref x1, .ref x2, .int x3, .int x4, .int x5] (r9.toList ++ []) h9 Q)) else (wq (d + 1) 63 46 [.ref x0, .ref x1, .ref x2, .int x3, .int (x4 + 1), .int x5] [] h Q)) : wq (d + 1) 63 86 [.ref x0, .ref x1, .ref x2, .int x3, .int x4, .int x5] [.int s0] h Q := by
  refine gif c_63_86 (gbn t (ab_c1 _ _) rfl (fun hc t => ?_) (fun hc t => ?_))
  · refine g5 c_63_89 rfl ?_
    refine g5 c_63_90 rfl ?_
    refine g5 c_63_91 rfl ?_
    refine g3 c_63_92 rfl ?_
    refine g3 c_63_94 rfl ?_
    exact g80 (As := [.ref x1, .ref x2, .int x4, .int x5]) (rest := []) c_63_96 rfl rfl (Nat.le_of_ble_eq_true rfl) (Nat.le_of_ble_eq_true rfl) t.1 t.2
  · refine g9 (L' := [.ref x0, .ref x1, .ref x2, .int x3, .int (x4 + 1), .int x5]) c_63_99 rfl k_1 rfl ?_
    refine g38 c_63_102 rfl ?_
    exact t
set_option maxRecDepth 20000 in
theorem t_63_99 {d : Nat} {h : ab_H} {Q : Option Value → ab_H → Prop} {x0 : Nat} {x1 : Nat} {x2 : Nat} {x3 : Int32} {x4 : Int32} {x5 : Int32} (t : wq d 63 46 [.ref x0, .ref x1, .ref x2, .int x3, .int (x4 + 1), .int x5] [] h Q) : wq d 63 99 [.ref x0, .ref x1, .ref x2, .int x3, .int x4, .int x5] [] h Q := by
  refine g9 (L' := [.ref x0, .ref x1, .ref x2, .int x3, .int (x4 + 1), .int x5]) c_63_99 rfl k_1 rfl ?_
  refine g38 c_63_102 rfl ?_
  exact t
set_option maxRecDepth 20000 in
theorem t_63_116 {d : Nat} {h : ab_H} {Q : Option Value → ab_H → Prop} {x0 : Nat} {x1 : Nat} {x2 : Nat} {x3 : Int32} {x4 : Int32} (t : ab_ok h x0 105 = true ∧ ∃ j1 : Nat, ab_r h x0 2 = some j1 ∧ wm d 328 [.ref j1, .long 0] h (fun r9 h9 => wq (d + 1) 63 124 [.ref x0, .ref x1, .ref x2, .int x3, .int x4, .retAddr 0] (r9.toList ++ []) h9 Q)) : wq (d + 1) 63 116 [.ref x0, .ref x1, .ref x2, .int x3, .int x4, .retAddr 0] [] h Q := by
  refine g5 c_63_116 rfl ?_
  obtain ⟨ho, j1, hr, t⟩ := t
  refine g45 c_63_117 ho hr ?_
  refine g2 c_63_120 kl_0 ?_
  exact g81 (As := [.ref j1, .long 0]) (rest := []) c_63_121 rfl rfl (Nat.le_of_ble_eq_true rfl) (Nat.le_of_ble_eq_true rfl) t
set_option maxRecDepth 20000 in
theorem t_63_124 {d : Nat} {h : ab_H} {Q : Option Value → ab_H → Prop} {x0 : Nat} {x1 : Nat} {x2 : Nat} {x3 : Int32} {x4 : Int32} (t : ab_ok h x1 108 = true ∧ ∃ j1 : Nat, ab_r h x1 2 = some j1 ∧ ab_ok h x0 105 = true ∧ wm d 71 [.ref x0, .ref j1, .int 0, .int 0] h (fun r9 h9 => wq (d + 1) 63 134 [.ref x0, .ref x1, .ref x2, .int x3, .int x4, .retAddr 0] (r9.toList ++ []) h9 Q)) : wq (d + 1) 63 124 [.ref x0, .ref x1, .ref x2, .int x3, .int x4, .retAddr 0] [] h Q := by
  refine g5 c_63_124 rfl ?_
  refine g5 c_63_125 rfl ?_
  obtain ⟨ho, j1, hr, t⟩ := t
  refine g45 c_63_126 ho hr ?_
  refine g1 c_63_129 k_0 ?_
  refine g1 c_63_130 k_0 ?_
  exact g80 (As := [.ref j1, .int 0, .int 0]) (rest := []) c_63_131 rfl rfl (Nat.le_of_ble_eq_true rfl) (Nat.le_of_ble_eq_true rfl) t.1 t.2
set_option maxRecDepth 20000 in
theorem t_63_134 {d : Nat} {h : ab_H} {Q : Option Value → ab_H → Prop} {x0 : Nat} {x1 : Nat} {x2 : Nat} {x3 : Int32} {x4 : Int32} (t : Q none h) : wq d 63 134 [.ref x0, .ref x1, .ref x2, .int x3, .int x4, .retAddr 0] [] h Q := by
  exact g94 c_63_134 t
-- method 64: MillTown$Sharing.fillNeeds(LMillTown$Town;)V
theorem c_64_0 : pg_cd 64 0 = (5, 1, 0, 1, 0) := by decide +kernel
theorem c_64_1 : pg_cd 64 1 = (1, 1, 0, 0, 1) := by decide +kernel
theorem c_64_2 : pg_cd 64 2 = (5, 1, 0, 1, 0) := by decide +kernel
theorem c_64_3 : pg_cd 64 3 = (43, 8, 97, 8, 0) := by decide +kernel
theorem c_64_6 : pg_cd 64 6 = (80, 90, 100, 0, 0) := by decide +kernel
theorem c_64_9 : pg_cd 64 9 = (6, 1, 0, 2, 0) := by decide +kernel
theorem c_64_10 : pg_cd 64 10 = (5, 1, 0, 0, 0) := by decide +kernel
theorem c_64_11 : pg_cd 64 11 = (45, 5, 37, 8, 0) := by decide +kernel
theorem c_64_14 : pg_cd 64 14 = (2, 1, 0, 0, 0) := by decide +kernel
theorem c_64_15 : pg_cd 64 15 = (81, 328, 58, 0, 0) := by decide +kernel
theorem c_64_18 : pg_cd 64 18 = (1, 1, 0, 0, 0) := by decide +kernel
theorem c_64_19 : pg_cd 64 19 = (6, 1, 0, 3, 0) := by decide +kernel
theorem c_64_20 : pg_cd 64 20 = (3, 1, 0, 3, 0) := by decide +kernel
theorem c_64_21 : pg_cd 64 21 = (5, 1, 0, 1, 0) := by decide +kernel
theorem c_64_22 : pg_cd 64 22 = (45, 8, 103, 4, 0) := by decide +kernel
theorem c_64_25 : pg_cd 64 25 = (43, 4, 73, 2, 0) := by decide +kernel
theorem c_64_28 : pg_cd 64 28 = (37, 3, 0, 3, 46) := by decide +kernel
theorem c_64_31 : pg_cd 64 31 = (3, 1, 0, 3, 0) := by decide +kernel
theorem c_64_32 : pg_cd 64 32 = (1, 2, 0, 0, 24) := by decide +kernel
theorem c_64_34 : pg_cd 64 34 = (37, 3, 0, 3, 40) := by decide +kernel
theorem c_64_37 : pg_cd 64 37 = (5, 1, 0, 1, 0) := by decide +kernel
theorem c_64_38 : pg_cd 64 38 = (45, 8, 103, 4, 0) := by decide +kernel
theorem c_64_41 : pg_cd 64 41 = (3, 1, 0, 3, 0) := by decide +kernel
theorem c_64_42 : pg_cd 64 42 = (1, 1, 0, 0, 2) := by decide +kernel
theorem c_64_43 : pg_cd 64 43 = (80, 55, 78, 0, 0) := by decide +kernel
theorem c_64_46 : pg_cd 64 46 = (36, 3, 0, 1, 22) := by decide +kernel
theorem c_64_49 : pg_cd 64 49 = (5, 1, 0, 0, 0) := by decide +kernel
theorem c_64_50 : pg_cd 64 50 = (45, 5, 37, 8, 0) := by decide +kernel
theorem c_64_53 : pg_cd 64 53 = (3, 1, 0, 3, 0) := by decide +kernel
theorem c_64_54 : pg_cd 64 54 = (5, 1, 0, 1, 0) := by decide +kernel
theorem c_64_55 : pg_cd 64 55 = (45, 8, 103, 4, 0) := by decide +kernel
theorem c_64_58 : pg_cd 64 58 = (3, 1, 0, 3, 0) := by decide +kernel
theorem c_64_59 : pg_cd 64 59 = (1, 1, 0, 0, 3) := by decide +kernel
theorem c_64_60 : pg_cd 64 60 = (80, 55, 78, 0, 0) := by decide +kernel
theorem c_64_63 : pg_cd 64 63 = (31, 1, 0, 0, 0) := by decide +kernel
theorem c_64_64 : pg_cd 64 64 = (3, 1, 0, 2, 0) := by decide +kernel
theorem c_64_65 : pg_cd 64 65 = (31, 1, 0, 0, 0) := by decide +kernel
theorem c_64_66 : pg_cd 64 66 = (24, 1, 0, 0, 0) := by decide +kernel
theorem c_64_67 : pg_cd 64 67 = (56, 1, 0, 0, 0) := by decide +kernel
theorem c_64_68 : pg_cd 64 68 = (9, 3, 0, 3, 1) := by decide +kernel
theorem c_64_71 : pg_cd 64 71 = (38, 3, 0, 0, (-51)) := by decide +kernel
theorem c_64_74 : pg_cd 64 74 = (94, 0, 0, 0, 0) := by decide +kernel
theorem mx_64 : pg_mx 64 = 4 := by decide +kernel
theorem m_64 {d : Nat} {h : ab_H} {Q : Option Value → ab_H → Prop} {x0 : Nat} {x1 : Nat} (t : wq d 64 0 [.ref x0, .ref x1, .retAddr 0, .retAddr 0] [] h Q) : wm d 64 [.ref x0, .ref x1] h Q := by
  unfold wm
  rw [mx_64]
  exact t
set_option maxRecDepth 20000 in
theorem t_64_0 {d : Nat} {h : ab_H} {Q : Option Value → ab_H → Prop} {x0 : Nat} {x1 : Nat} (t : ab_ok h x1 108 = true ∧ ab_ok h x1 108 = true ∧ wm d 90 [.ref x1, .int 1, .int (ab_i h x1 8)] h (fun r9 h9 => wq (d + 1) 64 9 [.ref x0, .ref x1, .retAddr 0, .retAddr 0] (r9.toList ++ []) h9 Q)) : wq (d + 1) 64 0 [.ref x0, .ref x1, .retAddr 0, .retAddr 0] [] h Q := by
  refine g5 c_64_0 rfl ?_
  refine g1 c_64_1 k_1 ?_
  refine g5 c_64_2 rfl ?_
  obtain ⟨ho, t⟩ := t
  refine g43 c_64_3 ho ?_
  exact g80 (As := [.int 1, .int (ab_i h x1 8)]) (rest := []) c_64_6 rfl rfl (Nat.le_of_ble_eq_true rfl) (Nat.le_of_ble_eq_true rfl) t.1 t.2
set_option maxRecDepth 20000 in
theorem t_64_9 {d : Nat} {h : ab_H} {Q : Option Value → ab_H → Prop} {x0 : Nat} {x1 : Nat} {s0 : Int32} (t : ab_ok h x0 105 = true ∧ ∃ j1 : Nat, ab_r h x0 8 = some j1 ∧ wm d 328 [.ref j1, .long 0] h (fun r9 h9 => wq (d + 1) 64 18 [.ref x0, .ref x1, .int s0, .retAddr 0] (r9.toList ++ []) h9 Q)) : wq (d + 1) 64 9 [.ref x0, .ref x1, .retAddr 0, .retAddr 0] [.int s0] h Q := by
  refine g6 (L' := [.ref x0, .ref x1, .int s0, .retAddr 0]) c_64_9 rfl ?_
  refine g5 c_64_10 rfl ?_
  obtain ⟨ho, j1, hr, t⟩ := t
  refine g45 c_64_11 ho hr ?_
  refine g2 c_64_14 kl_0 ?_
  exact g81 (As := [.ref j1, .long 0]) (rest := []) c_64_15 rfl rfl (Nat.le_of_ble_eq_true rfl) (Nat.le_of_ble_eq_true rfl) t
set_option maxRecDepth 20000 in
theorem t_64_18 {d : Nat} {h : ab_H} {Q : Option Value → ab_H → Prop} {x0 : Nat} {x1 : Nat} {x2 : Int32} (t : wq d 64 20 [.ref x0, .ref x1, .int x2, .int 0] [] h Q) : wq d 64 18 [.ref x0, .ref x1, .int x2, .retAddr 0] [] h Q := by
  refine g1 c_64_18 k_0 ?_
  refine g6 (L' := [.ref x0, .ref x1, .int x2, .int 0]) c_64_19 rfl ?_
  exact t
set_option maxRecDepth 20000 in
theorem t_64_20 {d : Nat} {h : ab_H} {Q : Option Value → ab_H → Prop} {x0 : Nat} {x1 : Nat} {x2 : Int32} {x3 : Int32} (t : ab_ok h x1 108 = true ∧ ∃ j1 : Nat, ab_r h x1 4 = some j1 ∧ ab_ok h j1 104 = true ∧ if (ab_i h j1 2) ≤ x3 then (Q none h) else (if 24 ≤ x3 then (Q none h) else (ab_ok h x1 108 = true ∧ ∃ j2 : Nat, ab_r h x1 4 = some j2 ∧ ab_ok h j2 104 = true ∧ wm d 55 [.ref j2, .int x3, .int 2] h (fun r9 h9 => wq (d + 1) 64 46 [.ref x0, .ref x1, .int x2, .int x3] (r9.toList ++ []) h9 Q)))) : wq (d + 1) 64 20 [.ref x0, .ref x1, .int x2, .int x3] [] h Q := by
  refine g3 c_64_20 rfl ?_
  refine g5 c_64_21 rfl ?_
  obtain ⟨ho, j1, hr, t⟩ := t
  refine g45 c_64_22 ho hr ?_
  obtain ⟨ho, t⟩ := t
  refine g43 c_64_25 ho ?_
  refine gcm c_64_28 (gbr t rfl rfl (fun hc t => ?_) (fun hc t => ?_))
  · exact g94 c_64_74 t
  · refine g3 c_64_31 rfl ?_
    refine g1 c_64_32 k_24 ?_
    refine gcm c_64_34 (gbr t rfl rfl (fun hc t => ?_) (fun hc t => ?_))
    · exact g94 c_64_74 t
    · refine g5 c_64_37 rfl ?_
      obtain ⟨ho, j2, hr, t⟩ := t
      refine g45 c_64_38 ho hr ?_
      refine g3 c_64_41 rfl ?_
      refine g1 c_64_42 k_2 ?_
      exact g80 (As := [.int x3, .int 2]) (rest := []) c_64_43 rfl rfl (Nat.le_of_ble_eq_true rfl) (Nat.le_of_ble_eq_true rfl) t.1 t.2
set_option maxRecDepth 20000 in
theorem t_64_46 {d : Nat} {h : ab_H} {Q : Option Value → ab_H → Prop} {x0 : Nat} {x1 : Nat} {x2 : Int32} {x3 : Int32} {s0 : Int32} (t : if s0 = 0 then (ab_ok h x0 105 = true ∧ ∃ j1 : Nat, ab_r h x0 8 = some j1 ∧ ab_ok h x1 108 = true ∧ ∃ j2 : Nat, ab_r h x1 4 = some j2 ∧ ab_ok h j2 104 = true ∧ wm d 55 [.ref j2, .int x3, .int 3] h (fun r9 h9 => wq (d + 1) 64 63 [.ref x0, .ref x1, .int x2, .int x3] (r9.toList ++ [.int x3, .ref j1]) h9 Q)) else (wq (d + 1) 64 20 [.ref x0, .ref x1, .int x2, .int (x3 + 1)] [] h Q)) : wq (d + 1) 64 46 [.ref x0, .ref x1, .int x2, .int x3] [.int s0] h Q := by
  refine gif c_64_46 (gbn t (ab_c1 _ _) rfl (fun hc t => ?_) (fun hc t => ?_))
  · refine g5 c_64_49 rfl ?_
    obtain ⟨ho, j1, hr, t⟩ := t
    refine g45 c_64_50 ho hr ?_
    refine g3 c_64_53 rfl ?_
    refine g5 c_64_54 rfl ?_
    obtain ⟨ho, j2, hr, t⟩ := t
    refine g45 c_64_55 ho hr ?_
    refine g3 c_64_58 rfl ?_
    refine g1 c_64_59 k_3 ?_
    exact g80 (As := [.int x3, .int 3]) (rest := [.int x3, .ref j1]) c_64_60 rfl rfl (Nat.le_of_ble_eq_true rfl) (Nat.le_of_ble_eq_true rfl) t.1 t.2
  · refine g9 (L' := [.ref x0, .ref x1, .int x2, .int (x3 + 1)]) c_64_68 rfl k_1 rfl ?_
    refine g38 c_64_71 rfl ?_
    exact t
set_option maxRecDepth 20000 in
theorem t_64_63 {d : Nat} {h : ab_H} {Q : Option Value → ab_H → Prop} {x0 : Nat} {x1 : Nat} {x2 : Int32} {x3 : Int32} {s0 : Nat} {s1 : Int32} {s2 : Int32} (t : (ab_ok h s0 1 = true ∧ ab_in s1 (ab_s h s0).2 = true) ∧ ∀ h1 : ab_H, h1 = ab_pl h s0 (Int32.toNatClampNeg s1) ((Int32.toInt64 s2) * (Int32.toInt64 x2)) → wq d 64 20 [.ref x0, .ref x1, .int x2, .int (x3 + 1)] [] h1 Q) : wq d 64 63 [.ref x0, .ref x1, .int x2, .int x3] [.int s2, .int s1, .ref s0] h Q := by
  refine g31 c_64_63 ?_
  refine g3 c_64_64 rfl ?_
  refine g31 c_64_65 ?_
  refine g24 c_64_66 ?_
  obtain ⟨ho, t⟩ := t
  refine g56 c_64_67 ho (fun h1 eh1 => ?_)
  have t := t h1 eh1
  refine g9 (L' := [.ref x0, .ref x1, .int x2, .int (x3 + 1)]) c_64_68 rfl k_1 rfl ?_
  refine g38 c_64_71 rfl ?_
  exact t
-- method 65: MillTown$Sharing.fillPays(LMillTown$Town;LMillTown$Law;)V
theorem c_65_0 : pg_cd 65 0 = (1, 1, 0, 0, 0) := by decide +kernel
theorem c_65_1 : pg_cd 65 1 = (6, 1, 0, 3, 0) := by decide +kernel
theorem c_65_2 : pg_cd 65 2 = (3, 1, 0, 3, 0) := by decide +kernel
theorem c_65_3 : pg_cd 65 3 = (5, 1, 0, 1, 0) := by decide +kernel
theorem c_65_4 : pg_cd 65 4 = (45, 8, 82, 2, 0) := by decide +kernel
theorem c_65_7 : pg_cd 65 7 = (43, 4, 73, 2, 0) := by decide +kernel
theorem c_65_10 : pg_cd 65 10 = (37, 3, 0, 3, 59) := by decide +kernel
theorem c_65_13 : pg_cd 65 13 = (3, 1, 0, 3, 0) := by decide +kernel
theorem c_65_14 : pg_cd 65 14 = (1, 2, 0, 0, 8) := by decide +kernel
theorem c_65_16 : pg_cd 65 16 = (37, 3, 0, 3, 53) := by decide +kernel
theorem c_65_19 : pg_cd 65 19 = (5, 1, 0, 1, 0) := by decide +kernel
theorem c_65_20 : pg_cd 65 20 = (45, 8, 82, 2, 0) := by decide +kernel
theorem c_65_23 : pg_cd 65 23 = (3, 1, 0, 3, 0) := by decide +kernel
theorem c_65_24 : pg_cd 65 24 = (1, 2, 0, 0, 6) := by decide +kernel
theorem c_65_26 : pg_cd 65 26 = (80, 55, 78, 0, 0) := by decide +kernel
theorem c_65_29 : pg_cd 65 29 = (6, 2, 0, 4, 0) := by decide +kernel
theorem c_65_31 : pg_cd 65 31 = (5, 1, 0, 0, 0) := by decide +kernel
theorem c_65_32 : pg_cd 65 32 = (45, 5, 28, 5, 0) := by decide +kernel
theorem c_65_35 : pg_cd 65 35 = (3, 1, 0, 3, 0) := by decide +kernel
theorem c_65_36 : pg_cd 65 36 = (3, 2, 0, 4, 0) := by decide +kernel
theorem c_65_38 : pg_cd 65 38 = (1, 1, 0, 0, (-1)) := by decide +kernel
theorem c_65_39 : pg_cd 65 39 = (37, 3, 0, 1, 7) := by decide +kernel
theorem c_65_42 : pg_cd 65 42 = (1, 1, 0, 0, 0) := by decide +kernel
theorem c_65_43 : pg_cd 65 43 = (38, 3, 0, 0, 19) := by decide +kernel
theorem c_65_46 : pg_cd 65 46 = (5, 1, 0, 2, 0) := by decide +kernel
theorem c_65_47 : pg_cd 65 47 = (5, 1, 0, 1, 0) := by decide +kernel
theorem c_65_48 : pg_cd 65 48 = (3, 2, 0, 4, 0) := by decide +kernel
theorem c_65_50 : pg_cd 65 50 = (3, 1, 0, 3, 0) := by decide +kernel
theorem c_65_51 : pg_cd 65 51 = (5, 1, 0, 1, 0) := by decide +kernel
theorem c_65_52 : pg_cd 65 52 = (43, 8, 97, 8, 0) := by decide +kernel
theorem c_65_55 : pg_cd 65 55 = (5, 1, 0, 1, 0) := by decide +kernel
theorem c_65_56 : pg_cd 65 56 = (43, 8, 97, 8, 0) := by decide +kernel
theorem c_65_59 : pg_cd 65 59 = (80, 19, 106, 0, 0) := by decide +kernel
theorem c_65_62 : pg_cd 65 62 = (54, 1, 0, 0, 0) := by decide +kernel
theorem c_65_63 : pg_cd 65 63 = (9, 3, 0, 3, 1) := by decide +kernel
theorem c_65_66 : pg_cd 65 66 = (38, 3, 0, 0, (-64)) := by decide +kernel
theorem c_65_69 : pg_cd 65 69 = (94, 0, 0, 0, 0) := by decide +kernel
theorem mx_65 : pg_mx 65 = 5 := by decide +kernel
theorem m_65 {d : Nat} {h : ab_H} {Q : Option Value → ab_H → Prop} {x0 : Nat} {x1 : Nat} {x2 : Nat} (t : wq d 65 0 [.ref x0, .ref x1, .ref x2, .retAddr 0, .retAddr 0] [] h Q) : wm d 65 [.ref x0, .ref x1, .ref x2] h Q := by
  unfold wm
  rw [mx_65]
  exact t
set_option maxRecDepth 20000 in
theorem t_65_0 {d : Nat} {h : ab_H} {Q : Option Value → ab_H → Prop} {x0 : Nat} {x1 : Nat} {x2 : Nat} (t : wq d 65 2 [.ref x0, .ref x1, .ref x2, .int 0, .retAddr 0] [] h Q) : wq d 65 0 [.ref x0, .ref x1, .ref x2, .retAddr 0, .retAddr 0] [] h Q := by
  refine g1 c_65_0 k_0 ?_
  refine g6 (L' := [.ref x0, .ref x1, .ref x2, .int 0, .retAddr 0]) c_65_1 rfl ?_
  exact t
set_option maxRecDepth 20000 in
theorem t_65_2 {d : Nat} {h : ab_H} {Q : Option Value → ab_H → Prop} {x0 : Nat} {x1 : Nat} {x2 : Nat} {x3 : Int32} (t : ab_ok h x1 108 = true ∧ ∃ j1 : Nat, ab_r h x1 2 = some j1 ∧ ab_ok h j1 104 = true ∧ if (ab_i h j1 2) ≤ x3 then (Q none h) else (if 8 ≤ x3 then (Q none h) else (ab_ok h x1 108 = true ∧ ∃ j2 : Nat, ab_r h x1 2 = some j2 ∧ ab_ok h j2 104 = true ∧ wm d 55 [.ref j2, .int x3, .int 6] h (fun r9 h9 => wq (d + 1) 65 29 [.ref x0, .ref x1, .ref x2, .int x3, .retAddr 0] (r9.toList ++ []) h9 Q)))) : wq (d + 1) 65 2 [.ref x0, .ref x1, .ref x2, .int x3, .retAddr 0] [] h Q := by
  refine g3 c_65_2 rfl ?_
  refine g5 c_65_3 rfl ?_
  obtain ⟨ho, j1, hr, t⟩ := t
  refine g45 c_65_4 ho hr ?_
  obtain ⟨ho, t⟩ := t
  refine g43 c_65_7 ho ?_
  refine gcm c_65_10 (gbr t rfl rfl (fun hc t => ?_) (fun hc t => ?_))
  · exact g94 c_65_69 t
  · refine g3 c_65_13 rfl ?_
    refine g1 c_65_14 k_8 ?_
    refine gcm c_65_16 (gbr t rfl rfl (fun hc t => ?_) (fun hc t => ?_))
    · exact g94 c_65_69 t
    · refine g5 c_65_19 rfl ?_
      obtain ⟨ho, j2, hr, t⟩ := t
      refine g45 c_65_20 ho hr ?_
      refine g3 c_65_23 rfl ?_
      refine g1 c_65_24 k_6 ?_
      exact g80 (As := [.int x3, .int 6]) (rest := []) c_65_26 rfl rfl (Nat.le_of_ble_eq_true rfl) (Nat.le_of_ble_eq_true rfl) t.1 t.2
set_option maxRecDepth 20000 in
theorem t_65_29 {d : Nat} {h : ab_H} {Q : Option Value → ab_H → Prop} {x0 : Nat} {x1 : Nat} {x2 : Nat} {x3 : Int32} {s0 : Int32} (t : ab_ok h x0 105 = true ∧ ∃ j1 : Nat, ab_r h x0 5 = some j1 ∧ if s0 = (-1) then ((ab_ok h j1 0 = true ∧ ab_in x3 (ab_s h j1).2 = true) ∧ ∀ h2 : ab_H, h2 = ab_pi h j1 (Int32.toNatClampNeg x3) 0 → wq (d + 1) 65 2 [.ref x0, .ref x1, .ref x2, .int (x3 + 1), .int s0] [] h2 Q) else (ab_ok h x1 108 = true ∧ ab_ok h x1 108 = true ∧ ab_ok h x2 101 = true ∧ wm d 19 [.ref x2, .ref x1, .int s0, .int x3, .int (ab_i h x1 8), .int (ab_i h x1 8)] h (fun r9 h9 => wq (d + 1) 65 62 [.ref x0, .ref x1, .ref x2, .int x3, .int s0] (r9.toList ++ [.int x3, .ref j1]) h9 Q))) : wq (d + 1) 65 29 [.ref x0, .ref x1, .ref x2, .int x3, .retAddr 0] [.int s0] h Q := by
  refine g6 (L' := [.ref x0, .ref x1, .ref x2, .int x3, .int s0]) c_65_29 rfl ?_
  refine g5 c_65_31 rfl ?_
  obtain ⟨ho, j1, hr, t⟩ := t
  refine g45 c_65_32 ho hr ?_
  refine g3 c_65_35 rfl ?_
  refine g3 c_65_36 rfl ?_
  refine g1 c_65_38 k_m1 ?_
  refine gcm c_65_39 (gbn t (ab_c1 _ _) rfl (fun hc t => ?_) (fun hc t => ?_))
  · refine g1 c_65_42 k_0 ?_
    refine g38 c_65_43 rfl ?_
    obtain ⟨ho, t⟩ := t
    refine g54 c_65_62 ho (fun h2 eh2 => ?_)
    have t := t h2 eh2
    refine g9 (L' := [.ref x0, .ref x1, .ref x2, .int (x3 + 1), .int s0]) c_65_63 rfl k_1 rfl ?_
    refine g38 c_65_66 rfl ?_
    exact t
  · refine g5 c_65_46 rfl ?_
    refine g5 c_65_47 rfl ?_
    refine g3 c_65_48 rfl ?_
    refine g3 c_65_50 rfl ?_
    refine g5 c_65_51 rfl ?_
    obtain ⟨ho, t⟩ := t
    refine g43 c_65_52 ho ?_
    refine g5 c_65_55 rfl ?_
    obtain ⟨ho, t⟩ := t
    refine g43 c_65_56 ho ?_
    exact g80 (As := [.ref x1, .int s0, .int x3, .int (ab_i h x1 8), .int (ab_i h x1 8)]) (rest := [.int x3, .ref j1]) c_65_59 rfl rfl (Nat.le_of_ble_eq_true rfl) (Nat.le_of_ble_eq_true rfl) t.1 t.2
set_option maxRecDepth 20000 in
theorem t_65_62 {d : Nat} {h : ab_H} {Q : Option Value → ab_H → Prop} {x0 : Nat} {x1 : Nat} {x2 : Nat} {x3 : Int32} {x4 : Int32} {s0 : Nat} {s1 : Int32} {s2 : Int32} (t : (ab_ok h s0 0 = true ∧ ab_in s1 (ab_s h s0).2 = true) ∧ ∀ h1 : ab_H, h1 = ab_pi h s0 (Int32.toNatClampNeg s1) s2 → wq d 65 2 [.ref x0, .ref x1, .ref x2, .int (x3 + 1), .int x4] [] h1 Q) : wq d 65 62 [.ref x0, .ref x1, .ref x2, .int x3, .int x4] [.int s2, .int s1, .ref s0] h Q := by
  obtain ⟨ho, t⟩ := t
  refine g54 c_65_62 ho (fun h1 eh1 => ?_)
  have t := t h1 eh1
  refine g9 (L' := [.ref x0, .ref x1, .ref x2, .int (x3 + 1), .int x4]) c_65_63 rfl k_1 rfl ?_
  refine g38 c_65_66 rfl ?_
  exact t
-- method 66: MillTown$Sharing.addEarnings(LMillTown$Town;LMillTown$Law;II)V
theorem c_66_0 : pg_cd 66 0 = (5, 1, 0, 1, 0) := by decide +kernel
theorem c_66_1 : pg_cd 66 1 = (45, 8, 82, 2, 0) := by decide +kernel
theorem c_66_4 : pg_cd 66 4 = (3, 2, 0, 4, 0) := by decide +kernel
theorem c_66_6 : pg_cd 66 6 = (1, 2, 0, 0, 6) := by decide +kernel
theorem c_66_8 : pg_cd 66 8 = (80, 55, 78, 0, 0) := by decide +kernel
theorem c_66_11 : pg_cd 66 11 = (6, 2, 0, 5, 0) := by decide +kernel
theorem c_66_13 : pg_cd 66 13 = (5, 1, 0, 2, 0) := by decide +kernel
theorem c_66_14 : pg_cd 66 14 = (5, 1, 0, 1, 0) := by decide +kernel
theorem c_66_15 : pg_cd 66 15 = (5, 1, 0, 1, 0) := by decide +kernel
theorem c_66_16 : pg_cd 66 16 = (45, 8, 67, 5, 0) := by decide +kernel
theorem c_66_19 : pg_cd 66 19 = (3, 1, 0, 3, 0) := by decide +kernel
theorem c_66_20 : pg_cd 66 20 = (1, 1, 0, 0, 1) := by decide +kernel
theorem c_66_21 : pg_cd 66 21 = (80, 55, 78, 0, 0) := by decide +kernel
theorem c_66_24 : pg_cd 66 24 = (3, 2, 0, 4, 0) := by decide +kernel
theorem c_66_26 : pg_cd 66 26 = (5, 1, 0, 1, 0) := by decide +kernel
theorem c_66_27 : pg_cd 66 27 = (43, 8, 97, 8, 0) := by decide +kernel
theorem c_66_30 : pg_cd 66 30 = (5, 1, 0, 1, 0) := by decide +kernel
theorem c_66_31 : pg_cd 66 31 = (43, 8, 97, 8, 0) := by decide +kernel
theorem c_66_34 : pg_cd 66 34 = (80, 14, 112, 0, 0) := by decide +kernel
theorem c_66_37 : pg_cd 66 37 = (6, 2, 0, 6, 0) := by decide +kernel
theorem c_66_39 : pg_cd 66 39 = (5, 1, 0, 1, 0) := by decide +kernel
theorem c_66_40 : pg_cd 66 40 = (45, 8, 67, 5, 0) := by decide +kernel
theorem c_66_43 : pg_cd 66 43 = (3, 1, 0, 3, 0) := by decide +kernel
theorem c_66_44 : pg_cd 66 44 = (1, 1, 0, 0, 0) := by decide +kernel
theorem c_66_45 : pg_cd 66 45 = (80, 55, 78, 0, 0) := by decide +kernel
theorem c_66_48 : pg_cd 66 48 = (6, 2, 0, 7, 0) := by decide +kernel
theorem c_66_50 : pg_cd 66 50 = (1, 1, 0, 0, 1) := by decide +kernel
theorem c_66_51 : pg_cd 66 51 = (6, 2, 0, 8, 0) := by decide +kernel
theorem c_66_53 : pg_cd 66 53 = (3, 2, 0, 8, 0) := by decide +kernel
theorem c_66_55 : pg_cd 66 55 = (1, 1, 0, 0, 2) := by decide +kernel
theorem c_66_56 : pg_cd 66 56 = (37, 3, 0, 4, 84) := by decide +kernel
theorem c_66_59 : pg_cd 66 59 = (3, 2, 0, 8, 0) := by decide +kernel
theorem c_66_61 : pg_cd 66 61 = (1, 1, 0, 0, 2) := by decide +kernel
theorem c_66_62 : pg_cd 66 62 = (37, 3, 0, 1, 8) := by decide +kernel
theorem c_66_65 : pg_cd 66 65 = (3, 2, 0, 6, 0) := by decide +kernel
theorem c_66_67 : pg_cd 66 67 = (38, 3, 0, 0, 7) := by decide +kernel
theorem c_66_70 : pg_cd 66 70 = (3, 2, 0, 6, 0) := by decide +kernel
theorem c_66_72 : pg_cd 66 72 = (1, 1, 0, 0, 2) := by decide +kernel
theorem c_66_73 : pg_cd 66 73 = (16, 1, 0, 0, 0) := by decide +kernel
theorem c_66_74 : pg_cd 66 74 = (6, 2, 0, 9, 0) := by decide +kernel
theorem c_66_76 : pg_cd 66 76 = (5, 1, 0, 1, 0) := by decide +kernel
theorem c_66_77 : pg_cd 66 77 = (3, 1, 0, 3, 0) := by decide +kernel
theorem c_66_78 : pg_cd 66 78 = (80, 97, 115, 0, 0) := by decide +kernel
theorem c_66_81 : pg_cd 66 81 = (36, 3, 0, 1, 30) := by decide +kernel
theorem c_66_84 : pg_cd 66 84 = (5, 1, 0, 0, 0) := by decide +kernel
theorem c_66_85 : pg_cd 66 85 = (3, 2, 0, 4, 0) := by decide +kernel
theorem c_66_87 : pg_cd 66 87 = (3, 2, 0, 8, 0) := by decide +kernel
theorem c_66_89 : pg_cd 66 89 = (3, 2, 0, 7, 0) := by decide +kernel
theorem c_66_91 : pg_cd 66 91 = (3, 2, 0, 9, 0) := by decide +kernel
theorem c_66_93 : pg_cd 66 93 = (31, 1, 0, 0, 0) := by decide +kernel
theorem c_66_94 : pg_cd 66 94 = (5, 1, 0, 1, 0) := by decide +kernel
theorem c_66_95 : pg_cd 66 95 = (45, 8, 67, 5, 0) := by decide +kernel
theorem c_66_98 : pg_cd 66 98 = (3, 1, 0, 3, 0) := by decide +kernel
theorem c_66_99 : pg_cd 66 99 = (1, 1, 0, 0, 5) := by decide +kernel
theorem c_66_100 : pg_cd 66 100 = (80, 55, 78, 0, 0) := by decide +kernel
theorem c_66_103 : pg_cd 66 103 = (31, 1, 0, 0, 0) := by decide +kernel
theorem c_66_104 : pg_cd 66 104 = (24, 1, 0, 0, 0) := by decide +kernel
theorem c_66_105 : pg_cd 66 105 = (80, 68, 119, 0, 0) := by decide +kernel
theorem c_66_108 : pg_cd 66 108 = (38, 3, 0, 0, 26) := by decide +kernel
theorem c_66_111 : pg_cd 66 111 = (3, 2, 0, 5, 0) := by decide +kernel
theorem c_66_113 : pg_cd 66 113 = (1, 1, 0, 0, (-1)) := by decide +kernel
theorem c_66_114 : pg_cd 66 114 = (37, 3, 0, 0, 20) := by decide +kernel
theorem c_66_117 : pg_cd 66 117 = (5, 1, 0, 0, 0) := by decide +kernel
theorem c_66_118 : pg_cd 66 118 = (5, 1, 0, 1, 0) := by decide +kernel
theorem c_66_119 : pg_cd 66 119 = (3, 1, 0, 3, 0) := by decide +kernel
theorem c_66_120 : pg_cd 66 120 = (3, 2, 0, 8, 0) := by decide +kernel
theorem c_66_122 : pg_cd 66 122 = (5, 1, 0, 1, 0) := by decide +kernel
theorem c_66_123 : pg_cd 66 123 = (3, 1, 0, 3, 0) := by decide +kernel
theorem c_66_124 : pg_cd 66 124 = (3, 2, 0, 9, 0) := by decide +kernel
theorem c_66_126 : pg_cd 66 126 = (3, 2, 0, 5, 0) := by decide +kernel
theorem c_66_128 : pg_cd 66 128 = (80, 106, 123, 0, 0) := by decide +kernel
theorem c_66_131 : pg_cd 66 131 = (80, 67, 127, 0, 0) := by decide +kernel
theorem c_66_134 : pg_cd 66 134 = (9, 3, 0, 8, 1) := by decide +kernel
theorem c_66_137 : pg_cd 66 137 = (38, 3, 0, 0, (-84)) := by decide +kernel
theorem c_66_140 : pg_cd 66 140 = (94, 0, 0, 0, 0) := by decide +kernel
theorem mx_66 : pg_mx 66 = 10 := by decide +kernel
theorem m_66 {d : Nat} {h : ab_H} {Q : Option Value → ab_H → Prop} {x0 : Nat} {x1 : Nat} {x2 : Nat} {x3 : Int32} {x4 : Int32} (t : wq d 66 0 [.ref x0, .ref x1, .ref x2, .int x3, .int x4, .retAddr 0, .retAddr 0, .retAddr 0, .retAddr 0, .retAddr 0] [] h Q) : wm d 66 [.ref x0, .ref x1, .ref x2, .int x3, .int x4] h Q := by
  unfold wm
  rw [mx_66]
  exact t
set_option maxRecDepth 20000 in
theorem t_66_0 {d : Nat} {h : ab_H} {Q : Option Value → ab_H → Prop} {x0 : Nat} {x1 : Nat} {x2 : Nat} {x3 : Int32} {x4 : Int32} (t : ab_ok h x1 108 = true ∧ ∃ j1 : Nat, ab_r h x1 2 = some j1 ∧ ab_ok h j1 104 = true ∧ wm d 55 [.ref j1, .int x4, .int 6] h (fun r9 h9 => wq (d + 1) 66 11 [.ref x0, .ref x1, .ref x2, .int x3, .int x4, .retAddr 0, .retAddr 0, .retAddr 0, .retAddr 0, .retAddr 0] (r9.toList ++ []) h9 Q)) : wq (d + 1) 66 0 [.ref x0, .ref x1, .ref x2, .int x3, .int x4, .retAddr 0, .retAddr 0, .retAddr 0, .retAddr 0, .retAddr 0] [] h Q := by
  refine g5 c_66_0 rfl ?_
  obtain ⟨ho, j1, hr, t⟩ := t
  refine g45 c_66_1 ho hr ?_
  refine g3 c_66_4 rfl ?_
  refine g1 c_66_6 k_6 ?_
  exact g80 (As := [.int x4, .int 6]) (rest := []) c_66_8 rfl rfl (Nat.le_of_ble_eq_true rfl) (Nat.le_of_ble_eq_true rfl) t.1 t.2
set_option maxRecDepth 20000 in
theorem t_66_11 {d : Nat} {h : ab_H} {Q : Option Value → ab_H → Prop} {x0 : Nat} {x1 : Nat} {x2 : Nat} {x3 : Int32} {x4 : Int32} {s0 : Int32} (t : ab_ok h x1 108 = true ∧ ∃ j1 : Nat, ab_r h x1 5 = some j1 ∧ ab_ok h j1 104 = true ∧ wm d 55 [.ref j1, .int x3, .int 1] h (fun r9 h9 => wq (d + 1) 66 24 [.ref x0, .ref x1, .ref x2, .int x3, .int x4, .int s0, .retAddr 0, .retAddr 0, .retAddr 0, .retAddr 0] (r9.toList ++ [.ref x1, .ref x2]) h9 Q)) : wq (d + 1) 66 11 [.ref x0, .ref x1, .ref x2, .int x3, .int x4, .retAddr 0, .retAddr 0, .retAddr 0, .retAddr 0, .retAddr 0] [.int s0] h Q := by
  refine g6 (L' := [.ref x0, .ref x1, .ref x2, .int x3, .int x4, .int s0, .retAddr 0, .retAddr 0, .retAddr 0, .retAddr 0]) c_66_11 rfl ?_
  refine g5 c_66_13 rfl ?_
  refine g5 c_66_14 rfl ?_
  refine g5 c_66_15 rfl ?_
  obtain ⟨ho, j1, hr, t⟩ := t
  refine g45 c_66_16 ho hr ?_
  refine g3 c_66_19 rfl ?_
  refine g1 c_66_20 k_1 ?_
  exact g80 (As := [.int x3, .int 1]) (rest := [.ref x1, .ref x2]) c_66_21 rfl rfl (Nat.le_of_ble_eq_true rfl) (Nat.le_of_ble_eq_true rfl) t.1 t.2
set_option maxRecDepth 20000 in
theorem t_66_24 {d : Nat} {h : ab_H} {Q : Option Value → ab_H → Prop} {x0 : Nat} {x1 : Nat} {x2 : Nat} {x3 : Int32} {x4 : Int32} {x5 : Int32} {s0 : Nat} {s1 : Nat} {s2 : Int32} (t : ab_ok h x1 108 = true ∧ ab_ok h x1 108 = true ∧ ab_ok h s0 101 = true ∧ wm d 14 [.ref s0, .ref s1, .int s2, .int x4, .int (ab_i h x1 8), .int (ab_i h x1 8)] h (fun r9 h9 => wq (d + 1) 66 37 [.ref x0, .ref x1, .ref x2, .int x3, .int x4, .int x5, .retAddr 0, .retAddr 0, .retAddr 0, .retAddr 0] (r9.toList ++ []) h9 Q)) : wq (d + 1) 66 24 [.ref x0, .ref x1, .ref x2, .int x3, .int x4, .int x5, .retAddr 0, .retAddr 0, .retAddr 0, .retAddr 0] [.int s2, .ref s1, .ref s0] h Q := by
  refine g3 c_66_24 rfl ?_
  refine g5 c_66_26 rfl ?_
  obtain ⟨ho, t⟩ := t
  refine g43 c_66_27 ho ?_
  refine g5 c_66_30 rfl ?_
  obtain ⟨ho, t⟩ := t
  refine g43 c_66_31 ho ?_
  exact g80 (As := [.ref s1, .int s2, .int x4, .int (ab_i h x1 8), .int (ab_i h x1 8)]) (rest := []) c_66_34 rfl rfl (Nat.le_of_ble_eq_true rfl) (Nat.le_of_ble_eq_true rfl) t.1 t.2
set_option maxRecDepth 20000 in
theorem t_66_37 {d : Nat} {h : ab_H} {Q : Option Value → ab_H → Prop} {x0 : Nat} {x1 : Nat} {x2 : Nat} {x3 : Int32} {x4 : Int32} {x5 : Int32} {s0 : Int32} (t : ab_ok h x1 108 = true ∧ ∃ j1 : Nat, ab_r h x1 5 = some j1 ∧ ab_ok h j1 104 = true ∧ wm d 55 [.ref j1, .int x3, .int 0] h (fun r9 h9 => wq (d + 1) 66 48 [.ref x0, .ref x1, .ref x2, .int x3, .int x4, .int x5, .int s0, .retAddr 0, .retAddr 0, .retAddr 0] (r9.toList ++ []) h9 Q)) : wq (d + 1) 66 37 [.ref x0, .ref x1, .ref x2, .int x3, .int x4, .int x5, .retAddr 0, .retAddr 0, .retAddr 0, .retAddr 0] [.int s0] h Q := by
  refine g6 (L' := [.ref x0, .ref x1, .ref x2, .int x3, .int x4, .int x5, .int s0, .retAddr 0, .retAddr 0, .retAddr 0]) c_66_37 rfl ?_
  refine g5 c_66_39 rfl ?_
  obtain ⟨ho, j1, hr, t⟩ := t
  refine g45 c_66_40 ho hr ?_
  refine g3 c_66_43 rfl ?_
  refine g1 c_66_44 k_0 ?_
  exact g80 (As := [.int x3, .int 0]) (rest := []) c_66_45 rfl rfl (Nat.le_of_ble_eq_true rfl) (Nat.le_of_ble_eq_true rfl) t.1 t.2
set_option maxRecDepth 20000 in
theorem t_66_48 {d : Nat} {h : ab_H} {Q : Option Value → ab_H → Prop} {x0 : Nat} {x1 : Nat} {x2 : Nat} {x3 : Int32} {x4 : Int32} {x5 : Int32} {x6 : Int32} {s0 : Int32} (t : wq d 66 53 [.ref x0, .ref x1, .ref x2, .int x3, .int x4, .int x5, .int x6, .int s0, .int 1, .retAddr 0] [] h Q) : wq d 66 48 [.ref x0, .ref x1, .ref x2, .int x3, .int x4, .int x5, .int x6, .retAddr 0, .retAddr 0, .retAddr 0] [.int s0] h Q := by
  refine g6 (L' := [.ref x0, .ref x1, .ref x2, .int x3, .int x4, .int x5, .int x6, .int s0, .retAddr 0, .retAddr 0]) c_66_48 rfl ?_
  refine g1 c_66_50 k_1 ?_
  refine g6 (L' := [.ref x0, .ref x1, .ref x2, .int x3, .int x4, .int x5, .int x6, .int s0, .int 1, .retAddr 0]) c_66_51 rfl ?_
  exact t
set_option maxRecDepth 20000 in
theorem t_66_53 {d : Nat} {h : ab_H} {Q : Option Value → ab_H → Prop} {x0 : Nat} {x1 : Nat} {x2 : Nat} {x3 : Int32} {x4 : Int32} {x5 : Int32} {x6 : Int32} {x7 : Int32} {x8 : Int32} (t : if 2 < x8 then (Q none h) else (if x8 = 2 then (ab_ok h x1 108 = true ∧ wm d 97 [.ref x1, .int x3] h (fun r9 h9 => wq (d + 1) 66 81 [.ref x0, .ref x1, .ref x2, .int x3, .int x4, .int x5, .int x6, .int x7, .int x8, .int x6] (r9.toList ++ []) h9 Q)) else (¬ (2 : Int32) = 0 ∧ ab_ok h x1 108 = true ∧ wm d 97 [.ref x1, .int x3] h (fun r9 h9 => wq (d + 1) 66 81 [.ref x0, .ref x1, .ref x2, .int x3, .int x4, .int x5, .int x6, .int x7, .int x8, .int (x6 / 2)] (r9.toList ++ []) h9 Q)))) : wq (d + 1) 66 53 [.ref x0, .ref x1, .ref x2, .int x3, .int x4, .int x5, .int x6, .int x7, .int x8, .retAddr 0] [] h Q := by
  refine g3 c_66_53 rfl ?_
  refine g1 c_66_55 k_2 ?_
  refine gcm c_66_56 (gbr t rfl rfl (fun hc t => ?_) (fun hc t => ?_))
  · exact g94 c_66_140 t
  · refine g3 c_66_59 rfl ?_
    refine g1 c_66_61 k_2 ?_
    refine gcm c_66_62 (gbn t (ab_c1 _ _) rfl (fun hc t => ?_) (fun hc t => ?_))
    · refine g3 c_66_65 rfl ?_
      refine g38 c_66_67 rfl ?_
      refine g6 (L' := [.ref x0, .ref x1, .ref x2, .int x3, .int x4, .int x5, .int x6, .int x7, .int x8, .int x6]) c_66_74 rfl ?_
      refine g5 c_66_76 rfl ?_
      refine g3 c_66_77 rfl ?_
      exact g80 (As := [.int x3]) (rest := []) c_66_78 rfl rfl (Nat.le_of_ble_eq_true rfl) (Nat.le_of_ble_eq_true rfl) t.1 t.2
    · refine g3 c_66_70 rfl ?_
      refine g1 c_66_72 k_2 ?_
      obtain ⟨hy, t⟩ := t
      refine g16 c_66_73 hy ?_
      refine g6 (L' := [.ref x0, .ref x1, .ref x2, .int x3, .int x4, .int x5, .int x6, .int x7, .int x8, .int (x6 / 2)]) c_66_74 rfl ?_
      refine g5 c_66_76 rfl ?_
      refine g3 c_66_77 rfl ?_
      exact g80 (As := [.int x3]) (rest := []) c_66_78 rfl rfl (Nat.le_of_ble_eq_true rfl) (Nat.le_of_ble_eq_true rfl) t.1 t.2
set_option maxRecDepth 20000 in
theorem t_66_81 {d : Nat} {h : ab_H} {Q : Option Value → ab_H → Prop} {x0 : Nat} {x1 : Nat} {x2 : Nat} {x3 : Int32} {x4 : Int32} {x5 : Int32} {x6 : Int32} {x7 : Int32} {x8 : Int32} {x9 : Int32} {s0 : Int32} (t : if s0 = 0 then (ab_ok h x1 108 = true ∧ ∃ j1 : Nat, ab_r h x1 5 = some j1 ∧ ab_ok h j1 104 = true ∧ wm d 55 [.ref j1, .int x3, .int 5] h (fun r9 h9 => wq (d + 1) 66 103 [.ref x0, .ref x1, .ref x2, .int x3, .int x4, .int x5, .int x6, .int x7, .int x8, .int x9] (r9.toList ++ [.long (Int32.toInt64 x9), .int x7, .int x8, .int x4, .ref x0]) h9 Q)) else (if x5 = (-1) then (wq (d + 1) 66 53 [.ref x0, .ref x1, .ref x2, .int x3, .int x4, .int x5, .int x6, .int x7, .int (x8 + 1), .int x9] [] h Q) else (ab_ok h x1 108 = true ∧ wm d 106 [.ref x1, .int x3, .int x9, .int x5] h (fun r9 h9 => wq (d + 1) 66 131 [.ref x0, .ref x1, .ref x2, .int x3, .int x4, .int x5, .int x6, .int x7, .int x8, .int x9] (r9.toList ++ [.int x8, .int x3, .ref x1, .ref x0]) h9 Q)))) : wq (d + 1) 66 81 [.ref x0, .ref x1, .ref x2, .int x3, .int x4, .int x5, .int x6, .int x7, .int x8, .int x9] [.int s0] h Q := by
  refine gif c_66_81 (gbn t (ab_c1 _ _) rfl (fun hc t => ?_) (fun hc t => ?_))
  · refine g5 c_66_84 rfl ?_
    refine g3 c_66_85 rfl ?_
    refine g3 c_66_87 rfl ?_
    refine g3 c_66_89 rfl ?_
    refine g3 c_66_91 rfl ?_
    refine g31 c_66_93 ?_
    refine g5 c_66_94 rfl ?_
    obtain ⟨ho, j1, hr, t⟩ := t
    refine g45 c_66_95 ho hr ?_
    refine g3 c_66_98 rfl ?_
    refine g1 c_66_99 k_5 ?_
    exact g80 (As := [.int x3, .int 5]) (rest := [.long (Int32.toInt64 x9), .int x7, .int x8, .int x4, .ref x0]) c_66_100 rfl rfl (Nat.le_of_ble_eq_true rfl) (Nat.le_of_ble_eq_true rfl) t.1 t.2
  · refine g3 c_66_111 rfl ?_
    refine g1 c_66_113 k_m1 ?_
    refine gcm c_66_114 (gbr t rfl rfl (fun hc t => ?_) (fun hc t => ?_))
    · refine g9 (L' := [.ref x0, .ref x1, .ref x2, .int x3, .int x4, .int x5, .int x6, .int x7, .int (x8 + 1), .int x9]) c_66_134 rfl k_1 rfl ?_
      refine g38 c_66_137 rfl ?_
      exact t
    · refine g5 c_66_117 rfl ?_
      refine g5 c_66_118 rfl ?_
      refine g3 c_66_119 rfl ?_
      refine g3 c_66_120 rfl ?_
      refine g5 c_66_122 rfl ?_
      refine g3 c_66_123 rfl ?_
      refine g3 c_66_124 rfl ?_
      refine g3 c_66_126 rfl ?_
      exact g80 (As := [.int x3, .int x9, .int x5]) (rest := [.int x8, .int x3, .ref x1, .ref x0]) c_66_128 rfl rfl (Nat.le_of_ble_eq_true rfl) (Nat.le_of_ble_eq_true rfl) t.1 t.2
set_option maxRecDepth 20000 in
theorem t_66_103 {d : Nat} {h : ab_H} {Q : Option Value → ab_H → Prop} {x0 : Nat} {x1 : Nat} {x2 : Nat} {x3 : Int32} {x4 : Int32} {x5 : Int32} {x6 : Int32} {x7 : Int32} {x8 : Int32} {x9 : Int32} {s0 : Nat} {s1 : Int32} {s2 : Int32} {s3 : Int32} {s4 : Int64} {s5 : Int32} (t : ab_ok h s0 105 = true ∧ wm d 68 [.ref s0, .int s1, .int s2, .int s3, .long (s4 * (Int32.toInt64 s5))] h (fun r9 h9 => wq (d + 1) 66 108 [.ref x0, .ref x1, .ref x2, .int x3, .int x4, .int x5, .int x6, .int x7, .int x8, .int x9] (r9.toList ++ []) h9 Q)) : wq (d + 1) 66 103 [.ref x0, .ref x1, .ref x2, .int x3, .int x4, .int x5, .int x6, .int x7, .int x8, .int x9] [.int s5, .long s4, .int s3, .int s2, .int s1, .ref s0] h Q := by
  refine g31 c_66_103 ?_
  refine g24 c_66_104 ?_
  exact g80 (As := [.int s1, .int s2, .int s3, .long (s4 * (Int32.toInt64 s5))]) (rest := []) c_66_105 rfl rfl (Nat.le_of_ble_eq_true rfl) (Nat.le_of_ble_eq_true rfl) t.1 t.2
set_option maxRecDepth 20000 in
theorem t_66_108 {d : Nat} {h : ab_H} {Q : Option Value → ab_H → Prop} {x0 : Nat} {x1 : Nat} {x2 : Nat} {x3 : Int32} {x4 : Int32} {x5 : Int32} {x6 : Int32} {x7 : Int32} {x8 : Int32} {x9 : Int32} (t : wq d 66 53 [.ref x0, .ref x1, .ref x2, .int x3, .int x4, .int x5, .int x6, .int x7, .int (x8 + 1), .int x9] [] h Q) : wq d 66 108 [.ref x0, .ref x1, .ref x2, .int x3, .int x4, .int x5, .int x6, .int x7, .int x8, .int x9] [] h Q := by
  refine g38 c_66_108 rfl ?_
  refine g9 (L' := [.ref x0, .ref x1, .ref x2, .int x3, .int x4, .int x5, .int x6, .int x7, .int (x8 + 1), .int x9]) c_66_134 rfl k_1 rfl ?_
  refine g38 c_66_137 rfl ?_
  exact t
set_option maxRecDepth 20000 in
theorem t_66_131 {d : Nat} {h : ab_H} {Q : Option Value → ab_H → Prop} {x0 : Nat} {x1 : Nat} {x2 : Nat} {x3 : Int32} {x4 : Int32} {x5 : Int32} {x6 : Int32} {x7 : Int32} {x8 : Int32} {x9 : Int32} {s0 : Nat} {s1 : Nat} {s2 : Int32} {s3 : Int32} {s4 : Int32} (t : ab_ok h s0 105 = true ∧ wm d 67 [.ref s0, .ref s1, .int s2, .int s3, .int s4] h (fun r9 h9 => wq (d + 1) 66 134 [.ref x0, .ref x1, .ref x2, .int x3, .int x4, .int x5, .int x6, .int x7, .int x8, .int x9] (r9.toList ++ []) h9 Q)) : wq (d + 1) 66 131 [.ref x0, .ref x1, .ref x2, .int x3, .int x4, .int x5, .int x6, .int x7, .int x8, .int x9] [.int s4, .int s3, .int s2, .ref s1, .ref s0] h Q := by
  exact g80 (As := [.ref s1, .int s2, .int s3, .int s4]) (rest := []) c_66_131 rfl rfl (Nat.le_of_ble_eq_true rfl) (Nat.le_of_ble_eq_true rfl) t.1 t.2
set_option maxRecDepth 20000 in
theorem t_66_134 {d : Nat} {h : ab_H} {Q : Option Value → ab_H → Prop} {x0 : Nat} {x1 : Nat} {x2 : Nat} {x3 : Int32} {x4 : Int32} {x5 : Int32} {x6 : Int32} {x7 : Int32} {x8 : Int32} {x9 : Int32} (t : wq d 66 53 [.ref x0, .ref x1, .ref x2, .int x3, .int x4, .int x5, .int x6, .int x7, .int (x8 + 1), .int x9] [] h Q) : wq d 66 134 [.ref x0, .ref x1, .ref x2, .int x3, .int x4, .int x5, .int x6, .int x7, .int x8, .int x9] [] h Q := by
  refine g9 (L' := [.ref x0, .ref x1, .ref x2, .int x3, .int x4, .int x5, .int x6, .int x7, .int (x8 + 1), .int x9]) c_66_134 rfl k_1 rfl ?_
  refine g38 c_66_137 rfl ?_
  exact t
-- method 67: MillTown$Sharing.addPieces(LMillTown$Town;III)V
theorem c_67_0 : pg_cd 67 0 = (5, 1, 0, 1, 0) := by decide +kernel
theorem c_67_1 : pg_cd 67 1 = (45, 8, 67, 5, 0) := by decide +kernel
theorem c_67_4 : pg_cd 67 4 = (3, 1, 0, 2, 0) := by decide +kernel
theorem c_67_5 : pg_cd 67 5 = (1, 1, 0, 0, 4) := by decide +kernel
theorem c_67_6 : pg_cd 67 6 = (80, 55, 78, 0, 0) := by decide +kernel
theorem c_67_9 : pg_cd 67 9 = (6, 2, 0, 5, 0) := by decide +kernel
theorem c_67_11 : pg_cd 67 11 = (5, 1, 0, 1, 0) := by decide +kernel
theorem c_67_12 : pg_cd 67 12 = (45, 8, 67, 5, 0) := by decide +kernel
theorem c_67_15 : pg_cd 67 15 = (3, 1, 0, 2, 0) := by decide +kernel
theorem c_67_16 : pg_cd 67 16 = (1, 2, 0, 0, 6) := by decide +kernel
theorem c_67_18 : pg_cd 67 18 = (80, 55, 78, 0, 0) := by decide +kernel
theorem c_67_21 : pg_cd 67 21 = (6, 2, 0, 6, 0) := by decide +kernel
theorem c_67_23 : pg_cd 67 23 = (3, 2, 0, 5, 0) := by decide +kernel
theorem c_67_25 : pg_cd 67 25 = (36, 3, 0, 2, 10) := by decide +kernel
theorem c_67_28 : pg_cd 67 28 = (3, 2, 0, 5, 0) := by decide +kernel
theorem c_67_30 : pg_cd 67 30 = (1, 2, 0, 0, 8) := by decide +kernel
theorem c_67_32 : pg_cd 67 32 = (37, 3, 0, 2, 4) := by decide +kernel
theorem c_67_35 : pg_cd 67 35 = (94, 0, 0, 0, 0) := by decide +kernel
theorem c_67_36 : pg_cd 67 36 = (3, 2, 0, 4, 0) := by decide +kernel
theorem c_67_38 : pg_cd 67 38 = (31, 1, 0, 0, 0) := by decide +kernel
theorem c_67_39 : pg_cd 67 39 = (5, 1, 0, 0, 0) := by decide +kernel
theorem c_67_40 : pg_cd 67 40 = (45, 5, 28, 5, 0) := by decide +kernel
theorem c_67_43 : pg_cd 67 43 = (3, 2, 0, 5, 0) := by decide +kernel
theorem c_67_45 : pg_cd 67 45 = (50, 1, 0, 0, 0) := by decide +kernel
theorem c_67_46 : pg_cd 67 46 = (31, 1, 0, 0, 0) := by decide +kernel
theorem c_67_47 : pg_cd 67 47 = (24, 1, 0, 0, 0) := by decide +kernel
theorem c_67_48 : pg_cd 67 48 = (7, 2, 0, 7, 0) := by decide +kernel
theorem c_67_50 : pg_cd 67 50 = (3, 2, 0, 6, 0) := by decide +kernel
theorem c_67_52 : pg_cd 67 52 = (1, 1, 0, 0, (-1)) := by decide +kernel
theorem c_67_53 : pg_cd 67 53 = (37, 3, 0, 1, 8) := by decide +kernel
theorem c_67_56 : pg_cd 67 56 = (4, 2, 0, 7, 0) := by decide +kernel
theorem c_67_58 : pg_cd 67 58 = (38, 3, 0, 0, 9) := by decide +kernel
theorem c_67_61 : pg_cd 67 61 = (4, 2, 0, 7, 0) := by decide +kernel
theorem c_67_63 : pg_cd 67 63 = (2, 3, 131, 0, 3) := by decide +kernel
theorem c_67_66 : pg_cd 67 66 = (26, 1, 0, 0, 0) := by decide +kernel
theorem c_67_67 : pg_cd 67 67 = (7, 2, 0, 9, 0) := by decide +kernel
theorem c_67_69 : pg_cd 67 69 = (5, 1, 0, 0, 0) := by decide +kernel
theorem c_67_70 : pg_cd 67 70 = (3, 2, 0, 5, 0) := by decide +kernel
theorem c_67_72 : pg_cd 67 72 = (3, 1, 0, 3, 0) := by decide +kernel
theorem c_67_73 : pg_cd 67 73 = (5, 1, 0, 1, 0) := by decide +kernel
theorem c_67_74 : pg_cd 67 74 = (45, 8, 67, 5, 0) := by decide +kernel
theorem c_67_77 : pg_cd 67 77 = (3, 1, 0, 2, 0) := by decide +kernel
theorem c_67_78 : pg_cd 67 78 = (1, 1, 0, 0, 0) := by decide +kernel
theorem c_67_79 : pg_cd 67 79 = (80, 55, 78, 0, 0) := by decide +kernel
theorem c_67_82 : pg_cd 67 82 = (4, 2, 0, 9, 0) := by decide +kernel
theorem c_67_84 : pg_cd 67 84 = (80, 68, 119, 0, 0) := by decide +kernel
theorem c_67_87 : pg_cd 67 87 = (5, 1, 0, 0, 0) := by decide +kernel
theorem c_67_88 : pg_cd 67 88 = (3, 2, 0, 5, 0) := by decide +kernel
theorem c_67_90 : pg_cd 67 90 = (3, 1, 0, 3, 0) := by decide +kernel
theorem c_67_91 : pg_cd 67 91 = (5, 1, 0, 1, 0) := by decide +kernel
theorem c_67_92 : pg_cd 67 92 = (45, 8, 67, 5, 0) := by decide +kernel
theorem c_67_95 : pg_cd 67 95 = (3, 2, 0, 6, 0) := by decide +kernel
theorem c_67_97 : pg_cd 67 97 = (1, 1, 0, 0, 0) := by decide +kernel
theorem c_67_98 : pg_cd 67 98 = (80, 55, 78, 0, 0) := by decide +kernel
theorem c_67_101 : pg_cd 67 101 = (4, 2, 0, 7, 0) := by decide +kernel
theorem c_67_103 : pg_cd 67 103 = (4, 2, 0, 9, 0) := by decide +kernel
theorem c_67_105 : pg_cd 67 105 = (23, 1, 0, 0, 0) := by decide +kernel
theorem c_67_106 : pg_cd 67 106 = (80, 68, 119, 0, 0) := by decide +kernel
theorem c_67_109 : pg_cd 67 109 = (3, 1, 0, 3, 0) := by decide +kernel
theorem c_67_110 : pg_cd 67 110 = (1, 1, 0, 0, 2) := by decide +kernel
theorem c_67_111 : pg_cd 67 111 = (37, 3, 0, 1, 43) := by decide +kernel
theorem c_67_114 : pg_cd 67 114 = (5, 1, 0, 0, 0) := by decide +kernel
theorem c_67_115 : pg_cd 67 115 = (45, 5, 15, 1, 0) := by decide +kernel
theorem c_67_118 : pg_cd 67 118 = (3, 2, 0, 5, 0) := by decide +kernel
theorem c_67_120 : pg_cd 67 120 = (1, 1, 0, 0, 3) := by decide +kernel
theorem c_67_121 : pg_cd 67 121 = (12, 1, 0, 0, 0) := by decide +kernel
theorem c_67_122 : pg_cd 67 122 = (1, 1, 0, 0, 2) := by decide +kernel
theorem c_67_123 : pg_cd 67 123 = (10, 1, 0, 0, 0) := by decide +kernel
theorem c_67_124 : pg_cd 67 124 = (34, 1, 0, 0, 0) := by decide +kernel
theorem c_67_125 : pg_cd 67 125 = (50, 1, 0, 0, 0) := by decide +kernel
theorem c_67_126 : pg_cd 67 126 = (3, 2, 0, 4, 0) := by decide +kernel
theorem c_67_128 : pg_cd 67 128 = (10, 1, 0, 0, 0) := by decide +kernel
theorem c_67_129 : pg_cd 67 129 = (54, 1, 0, 0, 0) := by decide +kernel
theorem c_67_130 : pg_cd 67 130 = (5, 1, 0, 0, 0) := by decide +kernel
theorem c_67_131 : pg_cd 67 131 = (45, 5, 15, 1, 0) := by decide +kernel
theorem c_67_134 : pg_cd 67 134 = (3, 2, 0, 5, 0) := by decide +kernel
theorem c_67_136 : pg_cd 67 136 = (1, 1, 0, 0, 3) := by decide +kernel
theorem c_67_137 : pg_cd 67 137 = (12, 1, 0, 0, 0) := by decide +kernel
theorem c_67_138 : pg_cd 67 138 = (1, 1, 0, 0, 1) := by decide +kernel
theorem c_67_139 : pg_cd 67 139 = (10, 1, 0, 0, 0) := by decide +kernel
theorem c_67_140 : pg_cd 67 140 = (5, 1, 0, 0, 0) := by decide +kernel
theorem c_67_141 : pg_cd 67 141 = (45, 5, 15, 1, 0) := by decide +kernel
theorem c_67_144 : pg_cd 67 144 = (3, 2, 0, 5, 0) := by decide +kernel
theorem c_67_146 : pg_cd 67 146 = (1, 1, 0, 0, 3) := by decide +kernel
theorem c_67_147 : pg_cd 67 147 = (12, 1, 0, 0, 0) := by decide +kernel
theorem c_67_148 : pg_cd 67 148 = (1, 1, 0, 0, 2) := by decide +kernel
theorem c_67_149 : pg_cd 67 149 = (10, 1, 0, 0, 0) := by decide +kernel
theorem c_67_150 : pg_cd 67 150 = (50, 1, 0, 0, 0) := by decide +kernel
theorem c_67_151 : pg_cd 67 151 = (1, 1, 0, 0, 2) := by decide +kernel
theorem c_67_152 : pg_cd 67 152 = (16, 1, 0, 0, 0) := by decide +kernel
theorem c_67_153 : pg_cd 67 153 = (54, 1, 0, 0, 0) := by decide +kernel
theorem c_67_154 : pg_cd 67 154 = (94, 0, 0, 0, 0) := by decide +kernel
theorem mx_67 : pg_mx 67 = 11 := by decide +kernel
theorem m_67 {d : Nat} {h : ab_H} {Q : Option Value → ab_H → Prop} {x0 : Nat} {x1 : Nat} {x2 : Int32} {x3 : Int32} {x4 : Int32} (t : wq d 67 0 [.ref x0, .ref x1, .int x2, .int x3, .int x4, .retAddr 0, .retAddr 0, .retAddr 0, .retAddr 0, .retAddr 0, .retAddr 0] [] h Q) : wm d 67 [.ref x0, .ref x1, .int x2, .int x3, .int x4] h Q := by
  unfold wm
  rw [mx_67]
  exact t
set_option maxRecDepth 20000 in
theorem t_67_0 {d : Nat} {h : ab_H} {Q : Option Value → ab_H → Prop} {x0 : Nat} {x1 : Nat} {x2 : Int32} {x3 : Int32} {x4 : Int32} (t : ab_ok h x1 108 = true ∧ ∃ j1 : Nat, ab_r h x1 5 = some j1 ∧ ab_ok h j1 104 = true ∧ wm d 55 [.ref j1, .int x2, .int 4] h (fun r9 h9 => wq (d + 1) 67 9 [.ref x0, .ref x1, .int x2, .int x3, .int x4, .retAddr 0, .retAddr 0, .retAddr 0, .retAddr 0, .retAddr 0, .retAddr 0] (r9.toList ++ []) h9 Q)) : wq (d + 1) 67 0 [.ref x0, .ref x1, .int x2, .int x3, .int x4, .retAddr 0, .retAddr 0, .retAddr 0, .retAddr 0, .retAddr 0, .retAddr 0] [] h Q := by
  refine g5 c_67_0 rfl ?_
  obtain ⟨ho, j1, hr, t⟩ := t
  refine g45 c_67_1 ho hr ?_
  refine g3 c_67_4 rfl ?_
  refine g1 c_67_5 k_4 ?_
  exact g80 (As := [.int x2, .int 4]) (rest := []) c_67_6 rfl rfl (Nat.le_of_ble_eq_true rfl) (Nat.le_of_ble_eq_true rfl) t.1 t.2
set_option maxRecDepth 20000 in
theorem t_67_9 {d : Nat} {h : ab_H} {Q : Option Value → ab_H → Prop} {x0 : Nat} {x1 : Nat} {x2 : Int32} {x3 : Int32} {x4 : Int32} {s0 : Int32} (t : ab_ok h x1 108 = true ∧ ∃ j1 : Nat, ab_r h x1 5 = some j1 ∧ ab_ok h j1 104 = true ∧ wm d 55 [.ref j1, .int x2, .int 6] h (fun r9 h9 => wq (d + 1) 67 21 [.ref x0, .ref x1, .int x2, .int x3, .int x4, .int s0, .retAddr 0, .retAddr 0, .retAddr 0, .retAddr 0, .retAddr 0] (r9.toList ++ []) h9 Q)) : wq (d + 1) 67 9 [.ref x0, .ref x1, .int x2, .int x3, .int x4, .retAddr 0, .retAddr 0, .retAddr 0, .retAddr 0, .retAddr 0, .retAddr 0] [.int s0] h Q := by
  refine g6 (L' := [.ref x0, .ref x1, .int x2, .int x3, .int x4, .int s0, .retAddr 0, .retAddr 0, .retAddr 0, .retAddr 0, .retAddr 0]) c_67_9 rfl ?_
  refine g5 c_67_11 rfl ?_
  obtain ⟨ho, j1, hr, t⟩ := t
  refine g45 c_67_12 ho hr ?_
  refine g3 c_67_15 rfl ?_
  refine g1 c_67_16 k_6 ?_
  exact g80 (As := [.int x2, .int 6]) (rest := []) c_67_18 rfl rfl (Nat.le_of_ble_eq_true rfl) (Nat.le_of_ble_eq_true rfl) t.1 t.2
set_option maxRecDepth 20000 in
theorem t_67_21 {d : Nat} {h : ab_H} {Q : Option Value → ab_H → Prop} {x0 : Nat} {x1 : Nat} {x2 : Int32} {x3 : Int32} {x4 : Int32} {x5 : Int32} {s0 : Int32} (t : if x5 < 0 then (Q none h) else (if x5 < 8 then (ab_ok h x0 105 = true ∧ ∃ j1 : Nat, ab_r h x0 5 = some j1 ∧ ((j1 = 0 ∨ ab_ok h j1 0 = true) ∧ ab_in x5 (ab_s h j1).2 = true) ∧ ∀ y2 : Int64, y2 = ((Int32.toInt64 x4) * (Int32.toInt64 (ab_i h j1 (Int32.toNatClampNeg x5)))) → if s0 = (-1) then (ab_ok h x1 108 = true ∧ ∃ j3 : Nat, ab_r h x1 5 = some j3 ∧ ab_ok h j3 104 = true ∧ wm d 55 [.ref j3, .int x2, .int 0] h (fun r9 h9 => wq (d + 1) 67 82 [.ref x0, .ref x1, .int x2, .int x3, .int x4, .int x5, .int s0, .long y2, .retAddr 0, .long y2, .retAddr 0] (r9.toList ++ [.int x3, .int x5, .ref x0]) h9 Q)) else (¬ (3 : Int64) = 0 ∧ ab_ok h x1 108 = true ∧ ∃ j4 : Nat, ab_r h x1 5 = some j4 ∧ ab_ok h j4 104 = true ∧ wm d 55 [.ref j4, .int x2, .int 0] h (fun r9 h9 => wq (d + 1) 67 82 [.ref x0, .ref x1, .int x2, .int x3, .int x4, .int x5, .int s0, .long y2, .retAddr 0, .long (y2 / 3), .retAddr 0] (r9.toList ++ [.int x3, .int x5, .ref x0]) h9 Q))) else (Q none h))) : wq (d + 1) 67 21 [.ref x0, .ref x1, .int x2, .int x3, .int x4, .int x5, .retAddr 0, .retAddr 0, .retAddr 0, .retAddr 0, .retAddr 0] [.int s0] h Q := by
  refine g6 (L' := [.ref x0, .ref x1, .int x2, .int x3, .int x4, .int x5, .int s0, .retAddr 0, .retAddr 0, .retAddr 0, .retAddr 0]) c_67_21 rfl ?_
  refine g3 c_67_23 rfl ?_
  refine gif c_67_25 (gbr t rfl rfl (fun hc t => ?_) (fun hc t => ?_))
  · exact g94 c_67_35 t
  · refine g3 c_67_28 rfl ?_
    refine g1 c_67_30 k_8 ?_
    refine gcm c_67_32 (gbr t rfl rfl (fun hc t => ?_) (fun hc t => ?_))
    · refine g3 c_67_36 rfl ?_
      refine g31 c_67_38 ?_
      refine g5 c_67_39 rfl ?_
      obtain ⟨ho, j1, hr, t⟩ := t
      refine g45 c_67_40 ho hr ?_
      refine g3 c_67_43 rfl ?_
      obtain ⟨ho, t⟩ := t
      refine g50 c_67_45 ho ?_
      refine g31 c_67_46 ?_
      refine g24 c_67_47 ?_
      refine g7y (Lf := fun y2 => [.ref x0, .ref x1, .int x2, .int x3, .int x4, .int x5, .int s0, .long y2, .retAddr 0, .retAddr 0, .retAddr 0]) c_67_48 (fun _ => rfl) (fun y2 ey2 => ?_)
      have t := t y2 ey2
      refine g3 c_67_50 rfl ?_
      refine g1 c_67_52 k_m1 ?_
      refine gcm c_67_53 (gbn t (ab_c1 _ _) rfl (fun hc t => ?_) (fun hc t => ?_))
      · refine g4 c_67_56 rfl ?_
        refine g38 c_67_58 rfl ?_
        refine g7 (L' := [.ref x0, .ref x1, .int x2, .int x3, .int x4, .int x5, .int s0, .long y2, .retAddr 0, .long y2, .retAddr 0]) c_67_67 rfl ?_
        refine g5 c_67_69 rfl ?_
        refine g3 c_67_70 rfl ?_
        refine g3 c_67_72 rfl ?_
        refine g5 c_67_73 rfl ?_
        obtain ⟨ho, j3, hr, t⟩ := t
        refine g45 c_67_74 ho hr ?_
        refine g3 c_67_77 rfl ?_
        refine g1 c_67_78 k_0 ?_
        exact g80 (As := [.int x2, .int 0]) (rest := [.int x3, .int x5, .ref x0]) c_67_79 rfl rfl (Nat.le_of_ble_eq_true rfl) (Nat.le_of_ble_eq_true rfl) t.1 t.2
      · refine g4 c_67_61 rfl ?_
        refine g2 c_67_63 kl_3 ?_
        obtain ⟨hy, t⟩ := t
        refine g26 c_67_66 hy ?_
        refine g7 (L' := [.ref x0, .ref x1, .int x2, .int x3, .int x4, .int x5, .int s0, .long y2, .retAddr 0, .long (y2 / 3), .retAddr 0]) c_67_67 rfl ?_
        refine g5 c_67_69 rfl ?_
        refine g3 c_67_70 rfl ?_
        refine g3 c_67_72 rfl ?_
        refine g5 c_67_73 rfl ?_
        obtain ⟨ho, j4, hr, t⟩ := t
        refine g45 c_67_74 ho hr ?_
        refine g3 c_67_77 rfl ?_
        refine g1 c_67_78 k_0 ?_
        exact g80 (As := [.int x2, .int 0]) (rest := [.int x3, .int x5, .ref x0]) c_67_79 rfl rfl (Nat.le_of_ble_eq_true rfl) (Nat.le_of_ble_eq_true rfl) t.1 t.2
    · exact g94 c_67_35 t
set_option maxRecDepth 20000 in
theorem t_67_82 {d : Nat} {h : ab_H} {Q : Option Value → ab_H → Prop} {x0 : Nat} {x1 : Nat} {x2 : Int32} {x3 : Int32} {x4 : Int32} {x5 : Int32} {x6 : Int32} {x7 : Int64} {x9 : Int64} {s0 : Nat} {s1 : Int32} {s2 : Int32} {s3 : Int32} (t : ab_ok h s0 105 = true ∧ wm d 68 [.ref s0, .int s1, .int s2, .int s3, .long x9] h (fun r9 h9 => wq (d + 1) 67 87 [.ref x0, .ref x1, .int x2, .int x3, .int x4, .int x5, .int x6, .long x7, .retAddr 0, .long x9, .retAddr 0] (r9.toList ++ []) h9 Q)) : wq (d + 1) 67 82 [.ref x0, .ref x1, .int x2, .int x3, .int x4, .int x5, .int x6, .long x7, .retAddr 0, .long x9, .retAddr 0] [.int s3, .int s2, .int s1, .ref s0] h Q := by
  refine g4 c_67_82 rfl ?_
  exact g80 (As := [.int s1, .int s2, .int s3, .long x9]) (rest := []) c_67_84 rfl rfl (Nat.le_of_ble_eq_true rfl) (Nat.le_of_ble_eq_true rfl) t.1 t.2
set_option maxRecDepth 20000 in
theorem t_67_87 {d : Nat} {h : ab_H} {Q : Option Value → ab_H → Prop} {x0 : Nat} {x1 : Nat} {x2 : Int32} {x3 : Int32} {x4 : Int32} {x5 : Int32} {x6 : Int32} {x7 : Int64} {x9 : Int64} (t : ab_ok h x1 108 = true ∧ ∃ j1 : Nat, ab_r h x1 5 = some j1 ∧ ab_ok h j1 104 = true ∧ wm d 55 [.ref j1, .int x6, .int 0] h (fun r9 h9 => wq (d + 1) 67 101 [.ref x0, .ref x1, .int x2, .int x3, .int x4, .int x5, .int x6, .long x7, .retAddr 0, .long x9, .retAddr 0] (r9.toList ++ [.int x3, .int x5, .ref x0]) h9 Q)) : wq (d + 1) 67 87 [.ref x0, .ref x1, .int x2, .int x3, .int x4, .int x5, .int x6, .long x7, .retAddr 0, .long x9, .retAddr 0] [] h Q := by
  refine g5 c_67_87 rfl ?_
  refine g3 c_67_88 rfl ?_
  refine g3 c_67_90 rfl ?_
  refine g5 c_67_91 rfl ?_
  obtain ⟨ho, j1, hr, t⟩ := t
  refine g45 c_67_92 ho hr ?_
  refine g3 c_67_95 rfl ?_
  refine g1 c_67_97 k_0 ?_
  exact g80 (As := [.int x6, .int 0]) (rest := [.int x3, .int x5, .ref x0]) c_67_98 rfl rfl (Nat.le_of_ble_eq_true rfl) (Nat.le_of_ble_eq_true rfl) t.1 t.2
set_option maxRecDepth 20000 in
theorem t_67_101 {d : Nat} {h : ab_H} {Q : Option Value → ab_H → Prop} {x0 : Nat} {x1 : Nat} {x2 : Int32} {x3 : Int32} {x4 : Int32} {x5 : Int32} {x6 : Int32} {x7 : Int64} {x9 : Int64} {s0 : Nat} {s1 : Int32} {s2 : Int32} {s3 : Int32} (t : ab_ok h s0 105 = true ∧ wm d 68 [.ref s0, .int s1, .int s2, .int s3, .long (x7 - x9)] h (fun r9 h9 => wq (d + 1) 67 109 [.ref x0, .ref x1, .int x2, .int x3, .int x4, .int x5, .int x6, .long x7, .retAddr 0, .long x9, .retAddr 0] (r9.toList ++ []) h9 Q)) : wq (d + 1) 67 101 [.ref x0, .ref x1, .int x2, .int x3, .int x4, .int x5, .int x6, .long x7, .retAddr 0, .long x9, .retAddr 0] [.int s3, .int s2, .int s1, .ref s0] h Q := by
  refine g4 c_67_101 rfl ?_
  refine g4 c_67_103 rfl ?_
  refine g23 c_67_105 ?_
  exact g80 (As := [.int s1, .int s2, .int s3, .long (x7 - x9)]) (rest := []) c_67_106 rfl rfl (Nat.le_of_ble_eq_true rfl) (Nat.le_of_ble_eq_true rfl) t.1 t.2
set_option maxRecDepth 20000 in
theorem t_67_109 {d : Nat} {h : ab_H} {Q : Option Value → ab_H → Prop} {x0 : Nat} {x1 : Nat} {x2 : Int32} {x3 : Int32} {x4 : Int32} {x5 : Int32} {x6 : Int32} {x7 : Int64} {x9 : Int64} (t : if x3 = 2 then (ab_ok h x0 105 = true ∧ ∃ j1 : Nat, ab_r h x0 1 = some j1 ∧ ((j1 = 0 ∨ ab_ok h j1 0 = true) ∧ ab_in ((x5 * 3) + 2) (ab_s h j1).2 = true) ∧ (ab_ok h j1 0 = true ∧ ab_in ((x5 * 3) + 2) (ab_s h j1).2 = true) ∧ ∀ h2 : ab_H, h2 = ab_pi h j1 (Int32.toNatClampNeg ((x5 * 3) + 2)) ((ab_i h j1 (Int32.toNatClampNeg ((x5 * 3) + 2))) + x4) → ab_ok h2 x0 105 = true ∧ ∃ j3 : Nat, ab_r h2 x0 1 = some j3 ∧ ab_ok h2 x0 105 = true ∧ ∃ j4 : Nat, ab_r h2 x0 1 = some j4 ∧ ((j4 = 0 ∨ ab_ok h2 j4 0 = true) ∧ ab_in ((x5 * 3) + 2) (ab_s h2 j4).2 = true) ∧ ¬ (2 : Int32) = 0 ∧ (ab_ok h2 j3 0 = true ∧ ab_in ((x5 * 3) + 1) (ab_s h2 j3).2 = true) ∧ ∀ h5 : ab_H, h5 = ab_pi h2 j3 (Int32.toNatClampNeg ((x5 * 3) + 1)) ((ab_i h2 j4 (Int32.toNatClampNeg ((x5 * 3) + 2))) / 2) → Q none h5) else (Q none h)) : wq d 67 109 [.ref x0, .ref x1, .int x2, .int x3, .int x4, .int x5, .int x6, .long x7, .retAddr 0, .long x9, .retAddr 0] [] h Q := by
  refine g3 c_67_109 rfl ?_
  refine g1 c_67_110 k_2 ?_
  refine gcm c_67_111 (gbn t (ab_c1 _ _) rfl (fun hc t => ?_) (fun hc t => ?_))
  · refine g5 c_67_114 rfl ?_
    obtain ⟨ho, j1, hr, t⟩ := t
    refine g45 c_67_115 ho hr ?_
    refine g3 c_67_118 rfl ?_
    refine g1 c_67_120 k_3 ?_
    refine g12 c_67_121 ?_
    refine g1 c_67_122 k_2 ?_
    refine g10 c_67_123 ?_
    refine g34a c_67_124 ?_
    obtain ⟨ho, t⟩ := t
    refine g50 c_67_125 ho ?_
    refine g3 c_67_126 rfl ?_
    refine g10 c_67_128 ?_
    obtain ⟨ho, t⟩ := t
    refine g54 c_67_129 ho (fun h2 eh2 => ?_)
    have t := t h2 eh2
    refine g5 c_67_130 rfl ?_
    obtain ⟨ho, j3, hr, t⟩ := t
    refine g45 c_67_131 ho hr ?_
    refine g3 c_67_134 rfl ?_
    refine g1 c_67_136 k_3 ?_
    refine g12 c_67_137 ?_
    refine g1 c_67_138 k_1 ?_
    refine g10 c_67_139 ?_
    refine g5 c_67_140 rfl ?_
    obtain ⟨ho, j4, hr, t⟩ := t
    refine g45 c_67_141 ho hr ?_
    refine g3 c_67_144 rfl ?_
    refine g1 c_67_146 k_3 ?_
    refine g12 c_67_147 ?_
    refine g1 c_67_148 k_2 ?_
    refine g10 c_67_149 ?_
    obtain ⟨ho, t⟩ := t
    refine g50 c_67_150 ho ?_
    refine g1 c_67_151 k_2 ?_
    obtain ⟨hy, t⟩ := t
    refine g16 c_67_152 hy ?_
    obtain ⟨ho, t⟩ := t
    refine g54 c_67_153 ho (fun h5 eh5 => ?_)
    have t := t h5 eh5
    exact g94 c_67_154 t
  · exact g94 c_67_154 t
-- method 68: MillTown$Sharing.earn(IIIJ)V
theorem c_68_0 : pg_cd 68 0 = (3, 1, 0, 1, 0) := by decide +kernel
theorem c_68_1 : pg_cd 68 1 = (1, 1, 0, 0, 3) := by decide +kernel
theorem c_68_2 : pg_cd 68 2 = (12, 1, 0, 0, 0) := by decide +kernel
theorem c_68_3 : pg_cd 68 3 = (3, 1, 0, 2, 0) := by decide +kernel
theorem c_68_4 : pg_cd 68 4 = (10, 1, 0, 0, 0) := by decide +kernel
theorem c_68_5 : pg_cd 68 5 = (1, 2, 0, 0, 24) := by decide +kernel
theorem c_68_7 : pg_cd 68 7 = (12, 1, 0, 0, 0) := by decide +kernel
theorem c_68_8 : pg_cd 68 8 = (3, 1, 0, 3, 0) := by decide +kernel
theorem c_68_9 : pg_cd 68 9 = (10, 1, 0, 0, 0) := by decide +kernel
theorem c_68_10 : pg_cd 68 10 = (6, 2, 0, 6, 0) := by decide +kernel
theorem c_68_12 : pg_cd 68 12 = (3, 1, 0, 3, 0) := by decide +kernel
theorem c_68_13 : pg_cd 68 13 = (36, 3, 0, 2, 30) := by decide +kernel
theorem c_68_16 : pg_cd 68 16 = (3, 2, 0, 6, 0) := by decide +kernel
theorem c_68_18 : pg_cd 68 18 = (36, 3, 0, 2, 25) := by decide +kernel
theorem c_68_21 : pg_cd 68 21 = (3, 2, 0, 6, 0) := by decide +kernel
theorem c_68_23 : pg_cd 68 23 = (5, 1, 0, 0, 0) := by decide +kernel
theorem c_68_24 : pg_cd 68 24 = (45, 5, 11, 0, 0) := by decide +kernel
theorem c_68_27 : pg_cd 68 27 = (58, 1, 0, 0, 0) := by decide +kernel
theorem c_68_28 : pg_cd 68 28 = (37, 3, 0, 3, 15) := by decide +kernel
theorem c_68_31 : pg_cd 68 31 = (5, 1, 0, 0, 0) := by decide +kernel
theorem c_68_32 : pg_cd 68 32 = (45, 5, 11, 0, 0) := by decide +kernel
theorem c_68_35 : pg_cd 68 35 = (3, 2, 0, 6, 0) := by decide +kernel
theorem c_68_37 : pg_cd 68 37 = (34, 1, 0, 0, 0) := by decide +kernel
theorem c_68_38 : pg_cd 68 38 = (52, 1, 0, 0, 0) := by decide +kernel
theorem c_68_39 : pg_cd 68 39 = (4, 2, 0, 4, 0) := by decide +kernel
theorem c_68_41 : pg_cd 68 41 = (22, 1, 0, 0, 0) := by decide +kernel
theorem c_68_42 : pg_cd 68 42 = (56, 1, 0, 0, 0) := by decide +kernel
theorem c_68_43 : pg_cd 68 43 = (94, 0, 0, 0, 0) := by decide +kernel
theorem mx_68 : pg_mx 68 = 7 := by decide +kernel
theorem m_68 {d : Nat} {h : ab_H} {Q : Option Value → ab_H → Prop} {x0 : Nat} {x1 : Int32} {x2 : Int32} {x3 : Int32} {x4 : Int64} (t : wq d 68 0 [.ref x0, .int x1, .int x2, .int x3, .long x4, .retAddr 0, .retAddr 0] [] h Q) : wm d 68 [.ref x0, .int x1, .int x2, .int x3, .long x4] h Q := by
  unfold wm
  rw [mx_68]
  exact t
set_option maxRecDepth 20000 in
theorem t_68_0 {d : Nat} {h : ab_H} {Q : Option Value → ab_H → Prop} {x0 : Nat} {x1 : Int32} {x2 : Int32} {x3 : Int32} {x4 : Int64} (t : if x3 < 0 then (Q none h) else (if ((((x1 * 3) + x2) * 24) + x3) < 0 then (Q none h) else (ab_ok h x0 105 = true ∧ ∃ j1 : Nat, ab_r h x0 0 = some j1 ∧ ((j1 = 0 ∧ 1 = 0) ∨ ab_ok h j1 1 = true) ∧ if (Int32.ofNat (ab_s h j1).2) ≤ ((((x1 * 3) + x2) * 24) + x3) then (Q none h) else (ab_ok h x0 105 = true ∧ ∃ j2 : Nat, ab_r h x0 0 = some j2 ∧ (ab_ok h j2 1 = true ∧ ab_in ((((x1 * 3) + x2) * 24) + x3) (ab_s h j2).2 = true) ∧ (ab_ok h j2 1 = true ∧ ab_in ((((x1 * 3) + x2) * 24) + x3) (ab_s h j2).2 = true) ∧ ∀ h3 : ab_H, h3 = ab_pl h j2 (Int32.toNatClampNeg ((((x1 * 3) + x2) * 24) + x3)) ((ab_l h j2 (Int32.toNatClampNeg ((((x1 * 3) + x2) * 24) + x3))) + x4) → Q none h3)))) : wq d 68 0 [.ref x0, .int x1, .int x2, .int x3, .long x4, .retAddr 0, .retAddr 0] [] h Q := by
  refine g3 c_68_0 rfl ?_
  refine g1 c_68_1 k_3 ?_
  refine g12 c_68_2 ?_
  refine g3 c_68_3 rfl ?_
  refine g10 c_68_4 ?_
  refine g1 c_68_5 k_24 ?_
  refine g12 c_68_7 ?_
  refine g3 c_68_8 rfl ?_
  refine g10 c_68_9 ?_
  refine g6 (L' := [.ref x0, .int x1, .int x2, .int x3, .long x4, .retAddr 0, .int ((((x1 * 3) + x2) * 24) + x3)]) c_68_10 rfl ?_
  refine g3 c_68_12 rfl ?_
  refine gif c_68_13 (gbr t rfl rfl (fun hc t => ?_) (fun hc t => ?_))
  · exact g94 c_68_43 t
  · refine g3 c_68_16 rfl ?_
    refine gif c_68_18 (gbr t rfl rfl (fun hc t => ?_) (fun hc t => ?_))
    · exact g94 c_68_43 t
    · refine g3 c_68_21 rfl ?_
      refine g5 c_68_23 rfl ?_
      obtain ⟨ho, j1, hr, t⟩ := t
      refine g45 c_68_24 ho hr ?_
      obtain ⟨ho, t⟩ := t
      refine g58 c_68_27 ho ?_
      refine gcm c_68_28 (gbr t rfl rfl (fun hc t => ?_) (fun hc t => ?_))
      · exact g94 c_68_43 t
      · refine g5 c_68_31 rfl ?_
        obtain ⟨ho, j2, hr, t⟩ := t
        refine g45 c_68_32 ho hr ?_
        refine g3 c_68_35 rfl ?_
        refine g34a c_68_37 ?_
        obtain ⟨ho, t⟩ := t
        refine g52 c_68_38 ho ?_
        refine g4 c_68_39 rfl ?_
        refine g22 c_68_41 ?_
        obtain ⟨ho, t⟩ := t
        refine g56 c_68_42 ho (fun h3 eh3 => ?_)
        have t := t h3 eh3
        exact g94 c_68_43 t
-- method 69: MillTown$Sharing.fillRests(I)V
theorem c_69_0 : pg_cd 69 0 = (5, 1, 0, 0, 0) := by decide +kernel
theorem c_69_1 : pg_cd 69 1 = (45, 5, 22, 3, 0) := by decide +kernel
theorem c_69_4 : pg_cd 69 4 = (2, 1, 0, 0, 0) := by decide +kernel
theorem c_69_5 : pg_cd 69 5 = (81, 328, 58, 0, 0) := by decide +kernel
theorem c_69_8 : pg_cd 69 8 = (5, 1, 0, 0, 0) := by decide +kernel
theorem c_69_9 : pg_cd 69 9 = (45, 5, 25, 4, 0) := by decide +kernel
theorem c_69_12 : pg_cd 69 12 = (1, 1, 0, 0, 0) := by decide +kernel
theorem c_69_13 : pg_cd 69 13 = (81, 329, 64, 0, 0) := by decide +kernel
theorem c_69_16 : pg_cd 69 16 = (3, 1, 0, 1, 0) := by decide +kernel
theorem c_69_17 : pg_cd 69 17 = (1, 2, 0, 0, 8) := by decide +kernel
theorem c_69_19 : pg_cd 69 19 = (74, 0, 133, 0, 0) := by decide +kernel
theorem c_69_22 : pg_cd 69 22 = (1, 1, 0, 0, 1) := by decide +kernel
theorem c_69_23 : pg_cd 69 23 = (11, 1, 0, 0, 0) := by decide +kernel
theorem c_69_24 : pg_cd 69 24 = (6, 1, 0, 2, 0) := by decide +kernel
theorem c_69_25 : pg_cd 69 25 = (3, 1, 0, 2, 0) := by decide +kernel
theorem c_69_26 : pg_cd 69 26 = (36, 3, 0, 2, 88) := by decide +kernel
theorem c_69_29 : pg_cd 69 29 = (5, 1, 0, 0, 0) := by decide +kernel
theorem c_69_30 : pg_cd 69 30 = (45, 5, 25, 4, 0) := by decide +kernel
theorem c_69_33 : pg_cd 69 33 = (3, 1, 0, 2, 0) := by decide +kernel
theorem c_69_34 : pg_cd 69 34 = (5, 1, 0, 0, 0) := by decide +kernel
theorem c_69_35 : pg_cd 69 35 = (45, 5, 25, 4, 0) := by decide +kernel
theorem c_69_38 : pg_cd 69 38 = (3, 1, 0, 2, 0) := by decide +kernel
theorem c_69_39 : pg_cd 69 39 = (1, 1, 0, 0, 1) := by decide +kernel
theorem c_69_40 : pg_cd 69 40 = (10, 1, 0, 0, 0) := by decide +kernel
theorem c_69_41 : pg_cd 69 41 = (50, 1, 0, 0, 0) := by decide +kernel
theorem c_69_42 : pg_cd 69 42 = (5, 1, 0, 0, 0) := by decide +kernel
theorem c_69_43 : pg_cd 69 43 = (45, 5, 15, 1, 0) := by decide +kernel
theorem c_69_46 : pg_cd 69 46 = (3, 1, 0, 2, 0) := by decide +kernel
theorem c_69_47 : pg_cd 69 47 = (1, 1, 0, 0, 3) := by decide +kernel
theorem c_69_48 : pg_cd 69 48 = (12, 1, 0, 0, 0) := by decide +kernel
theorem c_69_49 : pg_cd 69 49 = (1, 1, 0, 0, 2) := by decide +kernel
theorem c_69_50 : pg_cd 69 50 = (10, 1, 0, 0, 0) := by decide +kernel
theorem c_69_51 : pg_cd 69 51 = (50, 1, 0, 0, 0) := by decide +kernel
theorem c_69_52 : pg_cd 69 52 = (10, 1, 0, 0, 0) := by decide +kernel
theorem c_69_53 : pg_cd 69 53 = (54, 1, 0, 0, 0) := by decide +kernel
theorem c_69_54 : pg_cd 69 54 = (1, 1, 0, 0, 0) := by decide +kernel
theorem c_69_55 : pg_cd 69 55 = (6, 1, 0, 3, 0) := by decide +kernel
theorem c_69_56 : pg_cd 69 56 = (3, 1, 0, 3, 0) := by decide +kernel
theorem c_69_57 : pg_cd 69 57 = (1, 2, 0, 0, 24) := by decide +kernel
theorem c_69_59 : pg_cd 69 59 = (37, 3, 0, 3, 49) := by decide +kernel
theorem c_69_62 : pg_cd 69 62 = (5, 1, 0, 0, 0) := by decide +kernel
theorem c_69_63 : pg_cd 69 63 = (45, 5, 22, 3, 0) := by decide +kernel
theorem c_69_66 : pg_cd 69 66 = (3, 1, 0, 2, 0) := by decide +kernel
theorem c_69_67 : pg_cd 69 67 = (1, 2, 0, 0, 24) := by decide +kernel
theorem c_69_69 : pg_cd 69 69 = (12, 1, 0, 0, 0) := by decide +kernel
theorem c_69_70 : pg_cd 69 70 = (3, 1, 0, 3, 0) := by decide +kernel
theorem c_69_71 : pg_cd 69 71 = (10, 1, 0, 0, 0) := by decide +kernel
theorem c_69_72 : pg_cd 69 72 = (5, 1, 0, 0, 0) := by decide +kernel
theorem c_69_73 : pg_cd 69 73 = (45, 5, 22, 3, 0) := by decide +kernel
theorem c_69_76 : pg_cd 69 76 = (3, 1, 0, 2, 0) := by decide +kernel
theorem c_69_77 : pg_cd 69 77 = (1, 1, 0, 0, 1) := by decide +kernel
theorem c_69_78 : pg_cd 69 78 = (10, 1, 0, 0, 0) := by decide +kernel
theorem c_69_79 : pg_cd 69 79 = (1, 2, 0, 0, 24) := by decide +kernel
theorem c_69_81 : pg_cd 69 81 = (12, 1, 0, 0, 0) := by decide +kernel
theorem c_69_82 : pg_cd 69 82 = (3, 1, 0, 3, 0) := by decide +kernel
theorem c_69_83 : pg_cd 69 83 = (10, 1, 0, 0, 0) := by decide +kernel
theorem c_69_84 : pg_cd 69 84 = (52, 1, 0, 0, 0) := by decide +kernel
theorem c_69_85 : pg_cd 69 85 = (5, 1, 0, 0, 0) := by decide +kernel
theorem c_69_86 : pg_cd 69 86 = (45, 5, 11, 0, 0) := by decide +kernel
theorem c_69_89 : pg_cd 69 89 = (3, 1, 0, 2, 0) := by decide +kernel
theorem c_69_90 : pg_cd 69 90 = (1, 1, 0, 0, 3) := by decide +kernel
theorem c_69_91 : pg_cd 69 91 = (12, 1, 0, 0, 0) := by decide +kernel
theorem c_69_92 : pg_cd 69 92 = (1, 1, 0, 0, 2) := by decide +kernel
theorem c_69_93 : pg_cd 69 93 = (10, 1, 0, 0, 0) := by decide +kernel
theorem c_69_94 : pg_cd 69 94 = (1, 2, 0, 0, 24) := by decide +kernel
theorem c_69_96 : pg_cd 69 96 = (12, 1, 0, 0, 0) := by decide +kernel
theorem c_69_97 : pg_cd 69 97 = (3, 1, 0, 3, 0) := by decide +kernel
theorem c_69_98 : pg_cd 69 98 = (10, 1, 0, 0, 0) := by decide +kernel
theorem c_69_99 : pg_cd 69 99 = (52, 1, 0, 0, 0) := by decide +kernel
theorem c_69_100 : pg_cd 69 100 = (22, 1, 0, 0, 0) := by decide +kernel
theorem c_69_101 : pg_cd 69 101 = (56, 1, 0, 0, 0) := by decide +kernel
theorem c_69_102 : pg_cd 69 102 = (9, 3, 0, 3, 1) := by decide +kernel
theorem c_69_105 : pg_cd 69 105 = (38, 3, 0, 0, (-49)) := by decide +kernel
theorem c_69_108 : pg_cd 69 108 = (9, 3, 0, 2, (-1)) := by decide +kernel
theorem c_69_111 : pg_cd 69 111 = (38, 3, 0, 0, (-86)) := by decide +kernel
theorem c_69_114 : pg_cd 69 114 = (94, 0, 0, 0, 0) := by decide +kernel
theorem mx_69 : pg_mx 69 = 4 := by decide +kernel
theorem m_69 {d : Nat} {h : ab_H} {Q : Option Value → ab_H → Prop} {x0 : Nat} {x1 : Int32} (t : wq d 69 0 [.ref x0, .int x1, .retAddr 0, .retAddr 0] [] h Q) : wm d 69 [.ref x0, .int x1] h Q := by
  unfold wm
  rw [mx_69]
  exact t
set_option maxRecDepth 20000 in
theorem t_69_0 {d : Nat} {h : ab_H} {Q : Option Value → ab_H → Prop} {x0 : Nat} {x1 : Int32} (t : ab_ok h x0 105 = true ∧ ∃ j1 : Nat, ab_r h x0 3 = some j1 ∧ wm d 328 [.ref j1, .long 0] h (fun r9 h9 => wq (d + 1) 69 8 [.ref x0, .int x1, .retAddr 0, .retAddr 0] (r9.toList ++ []) h9 Q)) : wq (d + 1) 69 0 [.ref x0, .int x1, .retAddr 0, .retAddr 0] [] h Q := by
  refine g5 c_69_0 rfl ?_
  obtain ⟨ho, j1, hr, t⟩ := t
  refine g45 c_69_1 ho hr ?_
  refine g2 c_69_4 kl_0 ?_
  exact g81 (As := [.ref j1, .long 0]) (rest := []) c_69_5 rfl rfl (Nat.le_of_ble_eq_true rfl) (Nat.le_of_ble_eq_true rfl) t
set_option maxRecDepth 20000 in
theorem t_69_8 {d : Nat} {h : ab_H} {Q : Option Value → ab_H → Prop} {x0 : Nat} {x1 : Int32} (t : ab_ok h x0 105 = true ∧ ∃ j1 : Nat, ab_r h x0 4 = some j1 ∧ wm d 329 [.ref j1, .int 0] h (fun r9 h9 => wq (d + 1) 69 16 [.ref x0, .int x1, .retAddr 0, .retAddr 0] (r9.toList ++ []) h9 Q)) : wq (d + 1) 69 8 [.ref x0, .int x1, .retAddr 0, .retAddr 0] [] h Q := by
  refine g5 c_69_8 rfl ?_
  obtain ⟨ho, j1, hr, t⟩ := t
  refine g45 c_69_9 ho hr ?_
  refine g1 c_69_12 k_0 ?_
  exact g81 (As := [.ref j1, .int 0]) (rest := []) c_69_13 rfl rfl (Nat.le_of_ble_eq_true rfl) (Nat.le_of_ble_eq_true rfl) t
set_option maxRecDepth 20000 in
theorem t_69_16 {d : Nat} {h : ab_H} {Q : Option Value → ab_H → Prop} {x0 : Nat} {x1 : Int32} (t : 7 ≤ d ∧ wq d 69 25 [.ref x0, .int x1, .int ((if (8 : Int32) < x1 then 8 else x1) - 1), .retAddr 0] [] h Q) : wq d 69 16 [.ref x0, .int x1, .retAddr 0, .retAddr 0] [] h Q := by
  refine g3 c_69_16 rfl ?_
  refine g1 c_69_17 k_8 ?_
  obtain ⟨h7, t⟩ := t
  refine g74 c_69_19 (Nat.le_of_ble_eq_true rfl) h7 ?_
  refine g1 c_69_22 k_1 ?_
  refine g11 c_69_23 ?_
  refine g6 (L' := [.ref x0, .int x1, .int ((if (8 : Int32) < x1 then 8 else x1) - 1), .retAddr 0]) c_69_24 rfl ?_
  exact t
set_option maxRecDepth 20000 in
theorem t_69_25 {d : Nat} {h : ab_H} {Q : Option Value → ab_H → Prop} {x0 : Nat} {x1 : Int32} {x2 : Int32} (t : if x2 < 0 then (Q none h) else (ab_ok h x0 105 = true ∧ ∃ j1 : Nat, ab_r h x0 4 = some j1 ∧ ab_ok h x0 105 = true ∧ ∃ j2 : Nat, ab_r h x0 4 = some j2 ∧ ((j2 = 0 ∨ ab_ok h j2 0 = true) ∧ ab_in (x2 + 1) (ab_s h j2).2 = true) ∧ ab_ok h x0 105 = true ∧ ∃ j3 : Nat, ab_r h x0 1 = some j3 ∧ ((j3 = 0 ∨ ab_ok h j3 0 = true) ∧ ab_in ((x2 * 3) + 2) (ab_s h j3).2 = true) ∧ (ab_ok h j1 0 = true ∧ ab_in x2 (ab_s h j1).2 = true) ∧ ∀ h4 : ab_H, h4 = ab_pi h j1 (Int32.toNatClampNeg x2) ((ab_i h j2 (Int32.toNatClampNeg (x2 + 1))) + (ab_i h j3 (Int32.toNatClampNeg ((x2 * 3) + 2)))) → wq d 69 56 [.ref x0, .int x1, .int x2, .int 0] [] h4 Q)) : wq d 69 25 [.ref x0, .int x1, .int x2, .retAddr 0] [] h Q := by
  refine g3 c_69_25 rfl ?_
  refine gif c_69_26 (gbr t rfl rfl (fun hc t => ?_) (fun hc t => ?_))
  · exact g94 c_69_114 t
  · refine g5 c_69_29 rfl ?_
    obtain ⟨ho, j1, hr, t⟩ := t
    refine g45 c_69_30 ho hr ?_
    refine g3 c_69_33 rfl ?_
    refine g5 c_69_34 rfl ?_
    obtain ⟨ho, j2, hr, t⟩ := t
    refine g45 c_69_35 ho hr ?_
    refine g3 c_69_38 rfl ?_
    refine g1 c_69_39 k_1 ?_
    refine g10 c_69_40 ?_
    obtain ⟨ho, t⟩ := t
    refine g50 c_69_41 ho ?_
    refine g5 c_69_42 rfl ?_
    obtain ⟨ho, j3, hr, t⟩ := t
    refine g45 c_69_43 ho hr ?_
    refine g3 c_69_46 rfl ?_
    refine g1 c_69_47 k_3 ?_
    refine g12 c_69_48 ?_
    refine g1 c_69_49 k_2 ?_
    refine g10 c_69_50 ?_
    obtain ⟨ho, t⟩ := t
    refine g50 c_69_51 ho ?_
    refine g10 c_69_52 ?_
    obtain ⟨ho, t⟩ := t
    refine g54 c_69_53 ho (fun h4 eh4 => ?_)
    have t := t h4 eh4
    refine g1 c_69_54 k_0 ?_
    refine g6 (L' := [.ref x0, .int x1, .int x2, .int 0]) c_69_55 rfl ?_
    exact t
set_option maxRecDepth 20000 in
theorem t_69_56 {d : Nat} {h : ab_H} {Q : Option Value → ab_H → Prop} {x0 : Nat} {x1 : Int32} {x2 : Int32} {x3 : Int32} (t : if 24 ≤ x3 then (wq d 69 25 [.ref x0, .int x1, .int (x2 + (-1)), .int x3] [] h Q) else (ab_ok h x0 105 = true ∧ ∃ j1 : Nat, ab_r h x0 3 = some j1 ∧ ab_ok h x0 105 = true ∧ ∃ j2 : Nat, ab_r h x0 3 = some j2 ∧ (ab_ok h j2 1 = true ∧ ab_in (((x2 + 1) * 24) + x3) (ab_s h j2).2 = true) ∧ ab_ok h x0 105 = true ∧ ∃ j3 : Nat, ab_r h x0 0 = some j3 ∧ (ab_ok h j3 1 = true ∧ ab_in ((((x2 * 3) + 2) * 24) + x3) (ab_s h j3).2 = true) ∧ (ab_ok h j1 1 = true ∧ ab_in ((x2 * 24) + x3) (ab_s h j1).2 = true) ∧ ∀ h4 : ab_H, h4 = ab_pl h j1 (Int32.toNatClampNeg ((x2 * 24) + x3)) ((ab_l h j2 (Int32.toNatClampNeg (((x2 + 1) * 24) + x3))) + (ab_l h j3 (Int32.toNatClampNeg ((((x2 * 3) + 2) * 24) + x3)))) → wq d 69 56 [.ref x0, .int x1, .int x2, .int (x3 + 1)] [] h4 Q)) : wq d 69 56 [.ref x0, .int x1, .int x2, .int x3] [] h Q := by
  refine g3 c_69_56 rfl ?_
  refine g1 c_69_57 k_24 ?_
  refine gcm c_69_59 (gbr t rfl rfl (fun hc t => ?_) (fun hc t => ?_))
  · refine g9 (L' := [.ref x0, .int x1, .int (x2 + (-1)), .int x3]) c_69_108 rfl k_m1 rfl ?_
    refine g38 c_69_111 rfl ?_
    exact t
  · refine g5 c_69_62 rfl ?_
    obtain ⟨ho, j1, hr, t⟩ := t
    refine g45 c_69_63 ho hr ?_
    refine g3 c_69_66 rfl ?_
    refine g1 c_69_67 k_24 ?_
    refine g12 c_69_69 ?_
    refine g3 c_69_70 rfl ?_
    refine g10 c_69_71 ?_
    refine g5 c_69_72 rfl ?_
    obtain ⟨ho, j2, hr, t⟩ := t
    refine g45 c_69_73 ho hr ?_
    refine g3 c_69_76 rfl ?_
    refine g1 c_69_77 k_1 ?_
    refine g10 c_69_78 ?_
    refine g1 c_69_79 k_24 ?_
    refine g12 c_69_81 ?_
    refine g3 c_69_82 rfl ?_
    refine g10 c_69_83 ?_
    obtain ⟨ho, t⟩ := t
    refine g52 c_69_84 ho ?_
    refine g5 c_69_85 rfl ?_
    obtain ⟨ho, j3, hr, t⟩ := t
    refine g45 c_69_86 ho hr ?_
    refine g3 c_69_89 rfl ?_
    refine g1 c_69_90 k_3 ?_
    refine g12 c_69_91 ?_
    refine g1 c_69_92 k_2 ?_
    refine g10 c_69_93 ?_
    refine g1 c_69_94 k_24 ?_
    refine g12 c_69_96 ?_
    refine g3 c_69_97 rfl ?_
    refine g10 c_69_98 ?_
    obtain ⟨ho, t⟩ := t
    refine g52 c_69_99 ho ?_
    refine g22 c_69_100 ?_
    obtain ⟨ho, t⟩ := t
    refine g56 c_69_101 ho (fun h4 eh4 => ?_)
    have t := t h4 eh4
    refine g9 (L' := [.ref x0, .int x1, .int x2, .int (x3 + 1)]) c_69_102 rfl k_1 rfl ?_
    refine g38 c_69_105 rfl ?_
    exact t
-- method 70: MillTown$Sharing.surelyHungry(I)I
theorem c_70_0 : pg_cd 70 0 = (1, 1, 0, 0, 0) := by decide +kernel
theorem c_70_1 : pg_cd 70 1 = (6, 1, 0, 2, 0) := by decide +kernel
theorem c_70_2 : pg_cd 70 2 = (1, 1, 0, 0, 0) := by decide +kernel
theorem c_70_3 : pg_cd 70 3 = (6, 1, 0, 3, 0) := by decide +kernel
theorem c_70_4 : pg_cd 70 4 = (3, 1, 0, 3, 0) := by decide +kernel
theorem c_70_5 : pg_cd 70 5 = (1, 2, 0, 0, 24) := by decide +kernel
theorem c_70_7 : pg_cd 70 7 = (37, 3, 0, 3, 45) := by decide +kernel
theorem c_70_10 : pg_cd 70 10 = (5, 1, 0, 0, 0) := by decide +kernel
theorem c_70_11 : pg_cd 70 11 = (45, 5, 19, 2, 0) := by decide +kernel
theorem c_70_14 : pg_cd 70 14 = (3, 1, 0, 1, 0) := by decide +kernel
theorem c_70_15 : pg_cd 70 15 = (1, 2, 0, 0, 24) := by decide +kernel
theorem c_70_17 : pg_cd 70 17 = (12, 1, 0, 0, 0) := by decide +kernel
theorem c_70_18 : pg_cd 70 18 = (3, 1, 0, 3, 0) := by decide +kernel
theorem c_70_19 : pg_cd 70 19 = (10, 1, 0, 0, 0) := by decide +kernel
theorem c_70_20 : pg_cd 70 20 = (52, 1, 0, 0, 0) := by decide +kernel
theorem c_70_21 : pg_cd 70 21 = (5, 1, 0, 0, 0) := by decide +kernel
theorem c_70_22 : pg_cd 70 22 = (45, 5, 22, 3, 0) := by decide +kernel
theorem c_70_25 : pg_cd 70 25 = (3, 1, 0, 1, 0) := by decide +kernel
theorem c_70_26 : pg_cd 70 26 = (1, 2, 0, 0, 24) := by decide +kernel
theorem c_70_28 : pg_cd 70 28 = (12, 1, 0, 0, 0) := by decide +kernel
theorem c_70_29 : pg_cd 70 29 = (3, 1, 0, 3, 0) := by decide +kernel
theorem c_70_30 : pg_cd 70 30 = (10, 1, 0, 0, 0) := by decide +kernel
theorem c_70_31 : pg_cd 70 31 = (52, 1, 0, 0, 0) := by decide +kernel
theorem c_70_32 : pg_cd 70 32 = (22, 1, 0, 0, 0) := by decide +kernel
theorem c_70_33 : pg_cd 70 33 = (5, 1, 0, 0, 0) := by decide +kernel
theorem c_70_34 : pg_cd 70 34 = (45, 5, 37, 8, 0) := by decide +kernel
theorem c_70_37 : pg_cd 70 37 = (3, 1, 0, 3, 0) := by decide +kernel
theorem c_70_38 : pg_cd 70 38 = (52, 1, 0, 0, 0) := by decide +kernel
theorem c_70_39 : pg_cd 70 39 = (28, 1, 0, 0, 0) := by decide +kernel
theorem c_70_40 : pg_cd 70 40 = (36, 3, 0, 3, 6) := by decide +kernel
theorem c_70_43 : pg_cd 70 43 = (9, 3, 0, 2, 1) := by decide +kernel
theorem c_70_46 : pg_cd 70 46 = (9, 3, 0, 3, 1) := by decide +kernel
theorem c_70_49 : pg_cd 70 49 = (38, 3, 0, 0, (-45)) := by decide +kernel
theorem c_70_52 : pg_cd 70 52 = (3, 1, 0, 2, 0) := by decide +kernel
theorem c_70_53 : pg_cd 70 53 = (90, 0, 0, 0, 0) := by decide +kernel
theorem mx_70 : pg_mx 70 = 4 := by decide +kernel
theorem m_70 {d : Nat} {h : ab_H} {Q : Option Value → ab_H → Prop} {x0 : Nat} {x1 : Int32} (t : wq d 70 0 [.ref x0, .int x1, .retAddr 0, .retAddr 0] [] h Q) : wm d 70 [.ref x0, .int x1] h Q := by
  unfold wm
  rw [mx_70]
  exact t
set_option maxRecDepth 20000 in
theorem t_70_0 {d : Nat} {h : ab_H} {Q : Option Value → ab_H → Prop} {x0 : Nat} {x1 : Int32} (t : wq d 70 4 [.ref x0, .int x1, .int 0, .int 0] [] h Q) : wq d 70 0 [.ref x0, .int x1, .retAddr 0, .retAddr 0] [] h Q := by
  refine g1 c_70_0 k_0 ?_
  refine g6 (L' := [.ref x0, .int x1, .int 0, .retAddr 0]) c_70_1 rfl ?_
  refine g1 c_70_2 k_0 ?_
  refine g6 (L' := [.ref x0, .int x1, .int 0, .int 0]) c_70_3 rfl ?_
  exact t
set_option maxRecDepth 20000 in
theorem t_70_4 {d : Nat} {h : ab_H} {Q : Option Value → ab_H → Prop} {x0 : Nat} {x1 : Int32} {x2 : Int32} {x3 : Int32} (t : if 24 ≤ x3 then (Q (some (.int x2)) h) else (ab_ok h x0 105 = true ∧ ∃ j1 : Nat, ab_r h x0 2 = some j1 ∧ (ab_ok h j1 1 = true ∧ ab_in ((x1 * 24) + x3) (ab_s h j1).2 = true) ∧ ab_ok h x0 105 = true ∧ ∃ j2 : Nat, ab_r h x0 3 = some j2 ∧ (ab_ok h j2 1 = true ∧ ab_in ((x1 * 24) + x3) (ab_s h j2).2 = true) ∧ ab_ok h x0 105 = true ∧ ∃ j3 : Nat, ab_r h x0 8 = some j3 ∧ (ab_ok h j3 1 = true ∧ ab_in x3 (ab_s h j3).2 = true) ∧ if 0 ≤ (lg_cmp ((ab_l h j1 (Int32.toNatClampNeg ((x1 * 24) + x3))) + (ab_l h j2 (Int32.toNatClampNeg ((x1 * 24) + x3)))) (ab_l h j3 (Int32.toNatClampNeg x3))) then (wq d 70 4 [.ref x0, .int x1, .int x2, .int (x3 + 1)] [] h Q) else (wq d 70 4 [.ref x0, .int x1, .int (x2 + 1), .int (x3 + 1)] [] h Q))) : wq d 70 4 [.ref x0, .int x1, .int x2, .int x3] [] h Q := by
  refine g3 c_70_4 rfl ?_
  refine g1 c_70_5 k_24 ?_
  refine gcm c_70_7 (gbr t rfl rfl (fun hc t => ?_) (fun hc t => ?_))
  · refine g3 c_70_52 rfl ?_
    exact g90 c_70_53 t
  · refine g5 c_70_10 rfl ?_
    obtain ⟨ho, j1, hr, t⟩ := t
    refine g45 c_70_11 ho hr ?_
    refine g3 c_70_14 rfl ?_
    refine g1 c_70_15 k_24 ?_
    refine g12 c_70_17 ?_
    refine g3 c_70_18 rfl ?_
    refine g10 c_70_19 ?_
    obtain ⟨ho, t⟩ := t
    refine g52 c_70_20 ho ?_
    refine g5 c_70_21 rfl ?_
    obtain ⟨ho, j2, hr, t⟩ := t
    refine g45 c_70_22 ho hr ?_
    refine g3 c_70_25 rfl ?_
    refine g1 c_70_26 k_24 ?_
    refine g12 c_70_28 ?_
    refine g3 c_70_29 rfl ?_
    refine g10 c_70_30 ?_
    obtain ⟨ho, t⟩ := t
    refine g52 c_70_31 ho ?_
    refine g22 c_70_32 ?_
    refine g5 c_70_33 rfl ?_
    obtain ⟨ho, j3, hr, t⟩ := t
    refine g45 c_70_34 ho hr ?_
    refine g3 c_70_37 rfl ?_
    obtain ⟨ho, t⟩ := t
    refine g52 c_70_38 ho ?_
    refine g28 c_70_39 ?_
    refine gif c_70_40 (gbr t rfl rfl (fun hc t => ?_) (fun hc t => ?_))
    · refine g9 (L' := [.ref x0, .int x1, .int x2, .int (x3 + 1)]) c_70_46 rfl k_1 rfl ?_
      refine g38 c_70_49 rfl ?_
      exact t
    · refine g9 (L' := [.ref x0, .int x1, .int (x2 + 1), .int x3]) c_70_43 rfl k_1 rfl ?_
      refine g9 (L' := [.ref x0, .int x1, .int (x2 + 1), .int (x3 + 1)]) c_70_46 rfl k_1 rfl ?_
      refine g38 c_70_49 rfl ?_
      exact t
-- method 71: MillTown$Sharing.search(LMillTown$Rows;II)V
theorem c_71_0 : pg_cd 71 0 = (3, 1, 0, 2, 0) := by decide +kernel
theorem c_71_1 : pg_cd 71 1 = (36, 3, 0, 2, 9) := by decide +kernel
theorem c_71_4 : pg_cd 71 4 = (3, 1, 0, 2, 0) := by decide +kernel
theorem c_71_5 : pg_cd 71 5 = (1, 2, 0, 0, 8) := by decide +kernel
theorem c_71_7 : pg_cd 71 7 = (37, 3, 0, 5, 4) := by decide +kernel
theorem c_71_10 : pg_cd 71 10 = (94, 0, 0, 0, 0) := by decide +kernel
theorem c_71_11 : pg_cd 71 11 = (5, 1, 0, 0, 0) := by decide +kernel
theorem c_71_12 : pg_cd 71 12 = (3, 1, 0, 2, 0) := by decide +kernel
theorem c_71_13 : pg_cd 71 13 = (80, 70, 138, 0, 0) := by decide +kernel
theorem c_71_16 : pg_cd 71 16 = (6, 2, 0, 4, 0) := by decide +kernel
theorem c_71_18 : pg_cd 71 18 = (5, 1, 0, 0, 0) := by decide +kernel
theorem c_71_19 : pg_cd 71 19 = (43, 5, 40, 9, 0) := by decide +kernel
theorem c_71_22 : pg_cd 71 22 = (3, 1, 0, 3, 0) := by decide +kernel
theorem c_71_23 : pg_cd 71 23 = (5, 1, 0, 0, 0) := by decide +kernel
theorem c_71_24 : pg_cd 71 24 = (45, 5, 25, 4, 0) := by decide +kernel
theorem c_71_27 : pg_cd 71 27 = (3, 1, 0, 2, 0) := by decide +kernel
theorem c_71_28 : pg_cd 71 28 = (50, 1, 0, 0, 0) := by decide +kernel
theorem c_71_29 : pg_cd 71 29 = (10, 1, 0, 0, 0) := by decide +kernel
theorem c_71_30 : pg_cd 71 30 = (74, 0, 133, 0, 0) := by decide +kernel
theorem c_71_33 : pg_cd 71 33 = (6, 2, 0, 5, 0) := by decide +kernel
theorem c_71_35 : pg_cd 71 35 = (3, 2, 0, 4, 0) := by decide +kernel
theorem c_71_37 : pg_cd 71 37 = (5, 1, 0, 0, 0) := by decide +kernel
theorem c_71_38 : pg_cd 71 38 = (43, 5, 44, 10, 0) := by decide +kernel
theorem c_71_41 : pg_cd 71 41 = (37, 3, 0, 4, 21) := by decide +kernel
theorem c_71_44 : pg_cd 71 44 = (3, 2, 0, 4, 0) := by decide +kernel
theorem c_71_46 : pg_cd 71 46 = (5, 1, 0, 0, 0) := by decide +kernel
theorem c_71_47 : pg_cd 71 47 = (43, 5, 44, 10, 0) := by decide +kernel
theorem c_71_50 : pg_cd 71 50 = (37, 3, 0, 1, 13) := by decide +kernel
theorem c_71_53 : pg_cd 71 53 = (3, 2, 0, 5, 0) := by decide +kernel
theorem c_71_55 : pg_cd 71 55 = (5, 1, 0, 0, 0) := by decide +kernel
theorem c_71_56 : pg_cd 71 56 = (43, 5, 47, 11, 0) := by decide +kernel
theorem c_71_59 : pg_cd 71 59 = (37, 3, 0, 4, 4) := by decide +kernel
theorem c_71_62 : pg_cd 71 62 = (94, 0, 0, 0, 0) := by decide +kernel
theorem c_71_63 : pg_cd 71 63 = (3, 1, 0, 2, 0) := by decide +kernel
theorem c_71_64 : pg_cd 71 64 = (5, 1, 0, 1, 0) := by decide +kernel
theorem c_71_65 : pg_cd 71 65 = (43, 4, 73, 2, 0) := by decide +kernel
theorem c_71_68 : pg_cd 71 68 = (37, 3, 0, 3, 9) := by decide +kernel
theorem c_71_71 : pg_cd 71 71 = (3, 1, 0, 2, 0) := by decide +kernel
theorem c_71_72 : pg_cd 71 72 = (1, 2, 0, 0, 8) := by decide +kernel
theorem c_71_74 : pg_cd 71 74 = (37, 3, 0, 2, 30) := by decide +kernel
theorem c_71_77 : pg_cd 71 77 = (5, 1, 0, 0, 0) := by decide +kernel
theorem c_71_78 : pg_cd 71 78 = (3, 2, 0, 4, 0) := by decide +kernel
theorem c_71_80 : pg_cd 71 80 = (46, 5, 44, 10, 0) := by decide +kernel
theorem c_71_83 : pg_cd 71 83 = (5, 1, 0, 0, 0) := by decide +kernel
theorem c_71_84 : pg_cd 71 84 = (3, 1, 0, 3, 0) := by decide +kernel
theorem c_71_85 : pg_cd 71 85 = (46, 5, 47, 11, 0) := by decide +kernel
theorem c_71_88 : pg_cd 71 88 = (5, 1, 0, 0, 0) := by decide +kernel
theorem c_71_89 : pg_cd 71 89 = (45, 5, 31, 6, 0) := by decide +kernel
theorem c_71_92 : pg_cd 71 92 = (1, 1, 0, 0, 0) := by decide +kernel
theorem c_71_93 : pg_cd 71 93 = (5, 1, 0, 0, 0) := by decide +kernel
theorem c_71_94 : pg_cd 71 94 = (45, 5, 34, 7, 0) := by decide +kernel
theorem c_71_97 : pg_cd 71 97 = (1, 1, 0, 0, 0) := by decide +kernel
theorem c_71_98 : pg_cd 71 98 = (1, 2, 0, 0, 8) := by decide +kernel
theorem c_71_100 : pg_cd 71 100 = (62, 0, 142, 0, 0) := by decide +kernel
theorem c_71_103 : pg_cd 71 103 = (94, 0, 0, 0, 0) := by decide +kernel
theorem c_71_104 : pg_cd 71 104 = (5, 1, 0, 1, 0) := by decide +kernel
theorem c_71_105 : pg_cd 71 105 = (3, 1, 0, 2, 0) := by decide +kernel
theorem c_71_106 : pg_cd 71 106 = (1, 1, 0, 0, 4) := by decide +kernel
theorem c_71_107 : pg_cd 71 107 = (80, 55, 78, 0, 0) := by decide +kernel
theorem c_71_110 : pg_cd 71 110 = (36, 3, 0, 1, 7) := by decide +kernel
theorem c_71_113 : pg_cd 71 113 = (1, 1, 0, 0, 2) := by decide +kernel
theorem c_71_114 : pg_cd 71 114 = (38, 3, 0, 0, 4) := by decide +kernel
theorem c_71_117 : pg_cd 71 117 = (1, 1, 0, 0, 0) := by decide +kernel
theorem c_71_118 : pg_cd 71 118 = (6, 2, 0, 6, 0) := by decide +kernel
theorem c_71_120 : pg_cd 71 120 = (3, 2, 0, 6, 0) := by decide +kernel
theorem c_71_122 : pg_cd 71 122 = (6, 2, 0, 7, 0) := by decide +kernel
theorem c_71_124 : pg_cd 71 124 = (3, 2, 0, 7, 0) := by decide +kernel
theorem c_71_126 : pg_cd 71 126 = (36, 3, 0, 2, 58) := by decide +kernel
theorem c_71_129 : pg_cd 71 129 = (3, 1, 0, 3, 0) := by decide +kernel
theorem c_71_130 : pg_cd 71 130 = (5, 1, 0, 0, 0) := by decide +kernel
theorem c_71_131 : pg_cd 71 131 = (45, 5, 15, 1, 0) := by decide +kernel
theorem c_71_134 : pg_cd 71 134 = (3, 1, 0, 2, 0) := by decide +kernel
theorem c_71_135 : pg_cd 71 135 = (1, 1, 0, 0, 3) := by decide +kernel
theorem c_71_136 : pg_cd 71 136 = (12, 1, 0, 0, 0) := by decide +kernel
theorem c_71_137 : pg_cd 71 137 = (3, 2, 0, 7, 0) := by decide +kernel
theorem c_71_139 : pg_cd 71 139 = (10, 1, 0, 0, 0) := by decide +kernel
theorem c_71_140 : pg_cd 71 140 = (50, 1, 0, 0, 0) := by decide +kernel
theorem c_71_141 : pg_cd 71 141 = (10, 1, 0, 0, 0) := by decide +kernel
theorem c_71_142 : pg_cd 71 142 = (6, 2, 0, 8, 0) := by decide +kernel
theorem c_71_144 : pg_cd 71 144 = (3, 2, 0, 8, 0) := by decide +kernel
theorem c_71_146 : pg_cd 71 146 = (5, 1, 0, 0, 0) := by decide +kernel
theorem c_71_147 : pg_cd 71 147 = (43, 5, 40, 9, 0) := by decide +kernel
theorem c_71_150 : pg_cd 71 150 = (37, 3, 0, 4, 28) := by decide +kernel
theorem c_71_153 : pg_cd 71 153 = (5, 1, 0, 0, 0) := by decide +kernel
theorem c_71_154 : pg_cd 71 154 = (45, 5, 31, 6, 0) := by decide +kernel
theorem c_71_157 : pg_cd 71 157 = (3, 1, 0, 2, 0) := by decide +kernel
theorem c_71_158 : pg_cd 71 158 = (3, 2, 0, 7, 0) := by decide +kernel
theorem c_71_160 : pg_cd 71 160 = (54, 1, 0, 0, 0) := by decide +kernel
theorem c_71_161 : pg_cd 71 161 = (5, 1, 0, 0, 0) := by decide +kernel
theorem c_71_162 : pg_cd 71 162 = (3, 1, 0, 2, 0) := by decide +kernel
theorem c_71_163 : pg_cd 71 163 = (3, 2, 0, 7, 0) := by decide +kernel
theorem c_71_165 : pg_cd 71 165 = (80, 72, 148, 0, 0) := by decide +kernel
theorem c_71_168 : pg_cd 71 168 = (5, 1, 0, 0, 0) := by decide +kernel
theorem c_71_169 : pg_cd 71 169 = (5, 1, 0, 1, 0) := by decide +kernel
theorem c_71_170 : pg_cd 71 170 = (3, 1, 0, 2, 0) := by decide +kernel
theorem c_71_171 : pg_cd 71 171 = (1, 1, 0, 0, 1) := by decide +kernel
theorem c_71_172 : pg_cd 71 172 = (10, 1, 0, 0, 0) := by decide +kernel
theorem c_71_173 : pg_cd 71 173 = (3, 2, 0, 8, 0) := by decide +kernel
theorem c_71_175 : pg_cd 71 175 = (80, 71, 93, 0, 0) := by decide +kernel
theorem c_71_178 : pg_cd 71 178 = (9, 3, 0, 7, (-1)) := by decide +kernel
theorem c_71_181 : pg_cd 71 181 = (38, 3, 0, 0, (-57)) := by decide +kernel
theorem c_71_184 : pg_cd 71 184 = (94, 0, 0, 0, 0) := by decide +kernel
theorem mx_71 : pg_mx 71 = 9 := by decide +kernel
theorem m_71 {d : Nat} {h : ab_H} {Q : Option Value → ab_H → Prop} {x0 : Nat} {x1 : Nat} {x2 : Int32} {x3 : Int32} (t : wq d 71 0 [.ref x0, .ref x1, .int x2, .int x3, .retAddr 0, .retAddr 0, .retAddr 0, .retAddr 0, .retAddr 0] [] h Q) : wm d 71 [.ref x0, .ref x1, .int x2, .int x3] h Q := by
  unfold wm
  rw [mx_71]
  exact t
set_option maxRecDepth 20000 in
theorem t_71_0 {d : Nat} {h : ab_H} {Q : Option Value → ab_H → Prop} {x0 : Nat} {x1 : Nat} {x2 : Int32} {x3 : Int32} (t : if x2 < 0 then (Q none h) else (if x2 ≤ 8 then (ab_ok h x0 105 = true ∧ wm d 70 [.ref x0, .int x2] h (fun r9 h9 => wq (d + 1) 71 16 [.ref x0, .ref x1, .int x2, .int x3, .retAddr 0, .retAddr 0, .retAddr 0, .retAddr 0, .retAddr 0] (r9.toList ++ []) h9 Q)) else (Q none h))) : wq (d + 1) 71 0 [.ref x0, .ref x1, .int x2, .int x3, .retAddr 0, .retAddr 0, .retAddr 0, .retAddr 0, .retAddr 0] [] h Q := by
  refine g3 c_71_0 rfl ?_
  refine gif c_71_1 (gbr t rfl rfl (fun hc t => ?_) (fun hc t => ?_))
  · exact g94 c_71_10 t
  · refine g3 c_71_4 rfl ?_
    refine g1 c_71_5 k_8 ?_
    refine gcm c_71_7 (gbr t rfl rfl (fun hc t => ?_) (fun hc t => ?_))
    · refine g5 c_71_11 rfl ?_
      refine g3 c_71_12 rfl ?_
      exact g80 (As := [.int x2]) (rest := []) c_71_13 rfl rfl (Nat.le_of_ble_eq_true rfl) (Nat.le_of_ble_eq_true rfl) t.1 t.2
    · exact g94 c_71_10 t
set_option maxRecDepth 20000 in
theorem t_71_16 {d : Nat} {h : ab_H} {Q : Option Value → ab_H → Prop} {x0 : Nat} {x1 : Nat} {x2 : Int32} {x3 : Int32} {s0 : Int32} (t : ab_ok h x0 105 = true ∧ ab_ok h x0 105 = true ∧ ∃ j1 : Nat, ab_r h x0 4 = some j1 ∧ ((j1 = 0 ∨ ab_ok h j1 0 = true) ∧ ab_in x2 (ab_s h j1).2 = true) ∧ 7 ≤ (d + 1) ∧ ∀ y2 : Int32, y2 = (if (x3 + (ab_i h j1 (Int32.toNatClampNeg x2))) < (ab_i h x0 9) then (x3 + (ab_i h j1 (Int32.toNatClampNeg x2))) else (ab_i h x0 9)) → ab_ok h x0 105 = true ∧ if (ab_i h x0 10) < s0 then (Q none h) else (ab_ok h x0 105 = true ∧ if s0 = (ab_i h x0 10) then (ab_ok h x0 105 = true ∧ if (ab_i h x0 11) < y2 then (ab_ok h x1 104 = true ∧ if (ab_i h x1 2) ≤ x2 then (ab_ok h x0 105 = true ∧ ∀ h3 : ab_H, h3 = ab_pi h x0 10 s0 → ab_ok h3 x0 105 = true ∧ ∀ h4 : ab_H, h4 = ab_pi h3 x0 11 x3 → ab_ok h4 x0 105 = true ∧ ∃ j5 : Nat, ab_r h4 x0 6 = some j5 ∧ ab_ok h4 x0 105 = true ∧ ∃ j6 : Nat, ab_r h4 x0 7 = some j6 ∧ ((ab_ok h4 j5 0 = true ∧ ab_ok h4 j6 0 = true) ∧ (¬ (0 : Int32) < 0 ∧ ¬ (0 : Int32) < 0 ∧ ¬ (8 : Int32) < 0) ∧ Int32.toNatClampNeg (0 : Int32) + Int32.toNatClampNeg (8 : Int32) ≤ (ab_s h4 j5).2 ∧ Int32.toNatClampNeg (0 : Int32) + Int32.toNatClampNeg (8 : Int32) ≤ (ab_s h4 j6).2) ∧ ∀ h7 : ab_H, h7 = ab_row h4 j6 (va_cpy (ab_i h4 j5) (ab_i h4 j6) (Int32.toNatClampNeg (0 : Int32)) (Int32.toNatClampNeg (0 : Int32)) (Int32.toNatClampNeg (8 : Int32))) → Q none h7) else (if x2 < 8 then (ab_ok h x1 104 = true ∧ wm d 55 [.ref x1, .int x2, .int 4] h (fun r9 h9 => wq (d + 1) 71 110 [.ref x0, .ref x1, .int x2, .int x3, .int s0, .int y2, .retAddr 0, .retAddr 0, .retAddr 0] (r9.toList ++ []) h9 Q)) else (ab_ok h x0 105 = true ∧ ∀ h8 : ab_H, h8 = ab_pi h x0 10 s0 → ab_ok h8 x0 105 = true ∧ ∀ h9 : ab_H, h9 = ab_pi h8 x0 11 x3 → ab_ok h9 x0 105 = true ∧ ∃ j10 : Nat, ab_r h9 x0 6 = some j10 ∧ ab_ok h9 x0 105 = true ∧ ∃ j11 : Nat, ab_r h9 x0 7 = some j11 ∧ ((ab_ok h9 j10 0 = true ∧ ab_ok h9 j11 0 = true) ∧ (¬ (0 : Int32) < 0 ∧ ¬ (0 : Int32) < 0 ∧ ¬ (8 : Int32) < 0) ∧ Int32.toNatClampNeg (0 : Int32) + Int32.toNatClampNeg (8 : Int32) ≤ (ab_s h9 j10).2 ∧ Int32.toNatClampNeg (0 : Int32) + Int32.toNatClampNeg (8 : Int32) ≤ (ab_s h9 j11).2) ∧ ∀ h12 : ab_H, h12 = ab_row h9 j11 (va_cpy (ab_i h9 j10) (ab_i h9 j11) (Int32.toNatClampNeg (0 : Int32)) (Int32.toNatClampNeg (0 : Int32)) (Int32.toNatClampNeg (8 : Int32))) → Q none h12))) else (Q none h)) else (ab_ok h x1 104 = true ∧ if (ab_i h x1 2) ≤ x2 then (ab_ok h x0 105 = true ∧ ∀ h13 : ab_H, h13 = ab_pi h x0 10 s0 → ab_ok h13 x0 105 = true ∧ ∀ h14 : ab_H, h14 = ab_pi h13 x0 11 x3 → ab_ok h14 x0 105 = true ∧ ∃ j15 : Nat, ab_r h14 x0 6 = some j15 ∧ ab_ok h14 x0 105 = true ∧ ∃ j16 : Nat, ab_r h14 x0 7 = some j16 ∧ ((ab_ok h14 j15 0 = true ∧ ab_ok h14 j16 0 = true) ∧ (¬ (0 : Int32) < 0 ∧ ¬ (0 : Int32) < 0 ∧ ¬ (8 : Int32) < 0) ∧ Int32.toNatClampNeg (0 : Int32) + Int32.toNatClampNeg (8 : Int32) ≤ (ab_s h14 j15).2 ∧ Int32.toNatClampNeg (0 : Int32) + Int32.toNatClampNeg (8 : Int32) ≤ (ab_s h14 j16).2) ∧ ∀ h17 : ab_H, h17 = ab_row h14 j16 (va_cpy (ab_i h14 j15) (ab_i h14 j16) (Int32.toNatClampNeg (0 : Int32)) (Int32.toNatClampNeg (0 : Int32)) (Int32.toNatClampNeg (8 : Int32))) → Q none h17) else (if x2 < 8 then (ab_ok h x1 104 = true ∧ wm d 55 [.ref x1, .int x2, .int 4] h (fun r9 h9 => wq (d + 1) 71 110 [.ref x0, .ref x1, .int x2, .int x3, .int s0, .int y2, .retAddr 0, .retAddr 0, .retAddr 0] (r9.toList ++ []) h9 Q)) else (ab_ok h x0 105 = true ∧ ∀ h18 : ab_H, h18 = ab_pi h x0 10 s0 → ab_ok h18 x0 105 = true ∧ ∀ h19 : ab_H, h19 = ab_pi h18 x0 11 x3 → ab_ok h19 x0 105 = true ∧ ∃ j20 : Nat, ab_r h19 x0 6 = some j20 ∧ ab_ok h19 x0 105 = true ∧ ∃ j21 : Nat, ab_r h19 x0 7 = some j21 ∧ ((ab_ok h19 j20 0 = true ∧ ab_ok h19 j21 0 = true) ∧ (¬ (0 : Int32) < 0 ∧ ¬ (0 : Int32) < 0 ∧ ¬ (8 : Int32) < 0) ∧ Int32.toNatClampNeg (0 : Int32) + Int32.toNatClampNeg (8 : Int32) ≤ (ab_s h19 j20).2 ∧ Int32.toNatClampNeg (0 : Int32) + Int32.toNatClampNeg (8 : Int32) ≤ (ab_s h19 j21).2) ∧ ∀ h22 : ab_H, h22 = ab_row h19 j21 (va_cpy (ab_i h19 j20) (ab_i h19 j21) (Int32.toNatClampNeg (0 : Int32)) (Int32.toNatClampNeg (0 : Int32)) (Int32.toNatClampNeg (8 : Int32))) → Q none h22))))) : wq (d + 1) 71 16 [.ref x0, .ref x1, .int x2, .int x3, .retAddr 0, .retAddr 0, .retAddr 0, .retAddr 0, .retAddr 0] [.int s0] h Q := by
  refine g6 (L' := [.ref x0, .ref x1, .int x2, .int x3, .int s0, .retAddr 0, .retAddr 0, .retAddr 0, .retAddr 0]) c_71_16 rfl ?_
  refine g5 c_71_18 rfl ?_
  obtain ⟨ho, t⟩ := t
  refine g43 c_71_19 ho ?_
  refine g3 c_71_22 rfl ?_
  refine g5 c_71_23 rfl ?_
  obtain ⟨ho, j1, hr, t⟩ := t
  refine g45 c_71_24 ho hr ?_
  refine g3 c_71_27 rfl ?_
  obtain ⟨ho, t⟩ := t
  refine g50 c_71_28 ho ?_
  refine g10 c_71_29 ?_
  obtain ⟨h7, t⟩ := t
  refine g74 c_71_30 (Nat.le_of_ble_eq_true rfl) h7 ?_
  refine g6y (Lf := fun y2 => [.ref x0, .ref x1, .int x2, .int x3, .int s0, .int y2, .retAddr 0, .retAddr 0, .retAddr 0]) c_71_33 (fun _ => rfl) (fun y2 ey2 => ?_)
  have t := t y2 ey2
  refine g3 c_71_35 rfl ?_
  refine g5 c_71_37 rfl ?_
  obtain ⟨ho, t⟩ := t
  refine g43 c_71_38 ho ?_
  refine gcm c_71_41 (gbr t rfl rfl (fun hc t => ?_) (fun hc t => ?_))
  · exact g94 c_71_62 t
  · refine g3 c_71_44 rfl ?_
    refine g5 c_71_46 rfl ?_
    obtain ⟨ho, t⟩ := t
    refine g43 c_71_47 ho ?_
    refine gcm c_71_50 (gbn t (ab_c1 _ _) rfl (fun hc t => ?_) (fun hc t => ?_))
    · refine g3 c_71_53 rfl ?_
      refine g5 c_71_55 rfl ?_
      obtain ⟨ho, t⟩ := t
      refine g43 c_71_56 ho ?_
      refine gcm c_71_59 (gbr t rfl rfl (fun hc t => ?_) (fun hc t => ?_))
      · refine g3 c_71_63 rfl ?_
        refine g5 c_71_64 rfl ?_
        obtain ⟨ho, t⟩ := t
        refine g43 c_71_65 ho ?_
        refine gcm c_71_68 (gbr t rfl rfl (fun hc t => ?_) (fun hc t => ?_))
        · refine g5 c_71_77 rfl ?_
          refine g3 c_71_78 rfl ?_
          obtain ⟨ho, t⟩ := t
          refine g46 c_71_80 ho (fun h3 eh3 => ?_)
          have t := t h3 eh3
          refine g5 c_71_83 rfl ?_
          refine g3 c_71_84 rfl ?_
          obtain ⟨ho, t⟩ := t
          refine g46 c_71_85 ho (fun h4 eh4 => ?_)
          have t := t h4 eh4
          refine g5 c_71_88 rfl ?_
          obtain ⟨ho, j5, hr, t⟩ := t
          refine g45 c_71_89 ho hr ?_
          refine g1 c_71_92 k_0 ?_
          refine g5 c_71_93 rfl ?_
          obtain ⟨ho, j6, hr, t⟩ := t
          refine g45 c_71_94 ho hr ?_
          refine g1 c_71_97 k_0 ?_
          refine g1 c_71_98 k_8 ?_
          obtain ⟨ho, t⟩ := t
          refine g62 c_71_100 ⟨ho.1, ho.2.1, ho.2.2.1, ho.2.2.2, Nat.le_of_ble_eq_true rfl⟩ (fun h7 eh7 => ?_)
          have t := t h7 eh7
          exact g94 c_71_103 t
        · refine g3 c_71_71 rfl ?_
          refine g1 c_71_72 k_8 ?_
          refine gcm c_71_74 (gbr t rfl rfl (fun hc t => ?_) (fun hc t => ?_))
          · refine g5 c_71_104 rfl ?_
            refine g3 c_71_105 rfl ?_
            refine g1 c_71_106 k_4 ?_
            exact g80 (As := [.int x2, .int 4]) (rest := []) c_71_107 rfl rfl (Nat.le_of_ble_eq_true rfl) (Nat.le_of_ble_eq_true rfl) t.1 t.2
          · refine g5 c_71_77 rfl ?_
            refine g3 c_71_78 rfl ?_
            obtain ⟨ho, t⟩ := t
            refine g46 c_71_80 ho (fun h8 eh8 => ?_)
            have t := t h8 eh8
            refine g5 c_71_83 rfl ?_
            refine g3 c_71_84 rfl ?_
            obtain ⟨ho, t⟩ := t
            refine g46 c_71_85 ho (fun h9 eh9 => ?_)
            have t := t h9 eh9
            refine g5 c_71_88 rfl ?_
            obtain ⟨ho, j10, hr, t⟩ := t
            refine g45 c_71_89 ho hr ?_
            refine g1 c_71_92 k_0 ?_
            refine g5 c_71_93 rfl ?_
            obtain ⟨ho, j11, hr, t⟩ := t
            refine g45 c_71_94 ho hr ?_
            refine g1 c_71_97 k_0 ?_
            refine g1 c_71_98 k_8 ?_
            obtain ⟨ho, t⟩ := t
            refine g62 c_71_100 ⟨ho.1, ho.2.1, ho.2.2.1, ho.2.2.2, Nat.le_of_ble_eq_true rfl⟩ (fun h12 eh12 => ?_)
            have t := t h12 eh12
            exact g94 c_71_103 t
      · exact g94 c_71_62 t
    · refine g3 c_71_63 rfl ?_
      refine g5 c_71_64 rfl ?_
      obtain ⟨ho, t⟩ := t
      refine g43 c_71_65 ho ?_
      refine gcm c_71_68 (gbr t rfl rfl (fun hc t => ?_) (fun hc t => ?_))
      · refine g5 c_71_77 rfl ?_
        refine g3 c_71_78 rfl ?_
        obtain ⟨ho, t⟩ := t
        refine g46 c_71_80 ho (fun h13 eh13 => ?_)
        have t := t h13 eh13
        refine g5 c_71_83 rfl ?_
        refine g3 c_71_84 rfl ?_
        obtain ⟨ho, t⟩ := t
        refine g46 c_71_85 ho (fun h14 eh14 => ?_)
        have t := t h14 eh14
        refine g5 c_71_88 rfl ?_
        obtain ⟨ho, j15, hr, t⟩ := t
        refine g45 c_71_89 ho hr ?_
        refine g1 c_71_92 k_0 ?_
        refine g5 c_71_93 rfl ?_
        obtain ⟨ho, j16, hr, t⟩ := t
        refine g45 c_71_94 ho hr ?_
        refine g1 c_71_97 k_0 ?_
        refine g1 c_71_98 k_8 ?_
        obtain ⟨ho, t⟩ := t
        refine g62 c_71_100 ⟨ho.1, ho.2.1, ho.2.2.1, ho.2.2.2, Nat.le_of_ble_eq_true rfl⟩ (fun h17 eh17 => ?_)
        have t := t h17 eh17
        exact g94 c_71_103 t
      · refine g3 c_71_71 rfl ?_
        refine g1 c_71_72 k_8 ?_
        refine gcm c_71_74 (gbr t rfl rfl (fun hc t => ?_) (fun hc t => ?_))
        · refine g5 c_71_104 rfl ?_
          refine g3 c_71_105 rfl ?_
          refine g1 c_71_106 k_4 ?_
          exact g80 (As := [.int x2, .int 4]) (rest := []) c_71_107 rfl rfl (Nat.le_of_ble_eq_true rfl) (Nat.le_of_ble_eq_true rfl) t.1 t.2
        · refine g5 c_71_77 rfl ?_
          refine g3 c_71_78 rfl ?_
          obtain ⟨ho, t⟩ := t
          refine g46 c_71_80 ho (fun h18 eh18 => ?_)
          have t := t h18 eh18
          refine g5 c_71_83 rfl ?_
          refine g3 c_71_84 rfl ?_
          obtain ⟨ho, t⟩ := t
          refine g46 c_71_85 ho (fun h19 eh19 => ?_)
          have t := t h19 eh19
          refine g5 c_71_88 rfl ?_
          obtain ⟨ho, j20, hr, t⟩ := t
          refine g45 c_71_89 ho hr ?_
          refine g1 c_71_92 k_0 ?_
          refine g5 c_71_93 rfl ?_
          obtain ⟨ho, j21, hr, t⟩ := t
          refine g45 c_71_94 ho hr ?_
          refine g1 c_71_97 k_0 ?_
          refine g1 c_71_98 k_8 ?_
          obtain ⟨ho, t⟩ := t
          refine g62 c_71_100 ⟨ho.1, ho.2.1, ho.2.2.1, ho.2.2.2, Nat.le_of_ble_eq_true rfl⟩ (fun h22 eh22 => ?_)
          have t := t h22 eh22
          exact g94 c_71_103 t
set_option maxRecDepth 20000 in
theorem t_71_110 {d : Nat} {h : ab_H} {Q : Option Value → ab_H → Prop} {x0 : Nat} {x1 : Nat} {x2 : Int32} {x3 : Int32} {x4 : Int32} {x5 : Int32} {s0 : Int32} (t : if s0 = 0 then (wq d 71 124 [.ref x0, .ref x1, .int x2, .int x3, .int x4, .int x5, .int 2, .int 2, .retAddr 0] [] h Q) else (wq d 71 124 [.ref x0, .ref x1, .int x2, .int x3, .int x4, .int x5, .int 0, .int 0, .retAddr 0] [] h Q)) : wq d 71 110 [.ref x0, .ref x1, .int x2, .int x3, .int x4, .int x5, .retAddr 0, .retAddr 0, .retAddr 0] [.int s0] h Q := by
  refine gif c_71_110 (gbn t (ab_c1 _ _) rfl (fun hc t => ?_) (fun hc t => ?_))
  · refine g1 c_71_113 k_2 ?_
    refine g38 c_71_114 rfl ?_
    refine g6 (L' := [.ref x0, .ref x1, .int x2, .int x3, .int x4, .int x5, .int 2, .retAddr 0, .retAddr 0]) c_71_118 rfl ?_
    refine g3 c_71_120 rfl ?_
    refine g6 (L' := [.ref x0, .ref x1, .int x2, .int x3, .int x4, .int x5, .int 2, .int 2, .retAddr 0]) c_71_122 rfl ?_
    exact t
  · refine g1 c_71_117 k_0 ?_
    refine g6 (L' := [.ref x0, .ref x1, .int x2, .int x3, .int x4, .int x5, .int 0, .retAddr 0, .retAddr 0]) c_71_118 rfl ?_
    refine g3 c_71_120 rfl ?_
    refine g6 (L' := [.ref x0, .ref x1, .int x2, .int x3, .int x4, .int x5, .int 0, .int 0, .retAddr 0]) c_71_122 rfl ?_
    exact t
set_option maxRecDepth 20000 in
theorem t_71_124 {d : Nat} {h : ab_H} {Q : Option Value → ab_H → Prop} {x0 : Nat} {x1 : Nat} {x2 : Int32} {x3 : Int32} {x4 : Int32} {x5 : Int32} {x6 : Int32} {x7 : Int32} (t : if x7 < 0 then (Q none h) else (ab_ok h x0 105 = true ∧ ∃ j1 : Nat, ab_r h x0 1 = some j1 ∧ ((j1 = 0 ∨ ab_ok h j1 0 = true) ∧ ab_in ((x2 * 3) + x7) (ab_s h j1).2 = true) ∧ ∀ y2 : Int32, y2 = (x3 + (ab_i h j1 (Int32.toNatClampNeg ((x2 * 3) + x7)))) → ab_ok h x0 105 = true ∧ if (ab_i h x0 9) < y2 then (wq (d + 1) 71 124 [.ref x0, .ref x1, .int x2, .int x3, .int x4, .int x5, .int x6, .int (x7 + (-1)), .int y2] [] h Q) else (ab_ok h x0 105 = true ∧ ∃ j3 : Nat, ab_r h x0 6 = some j3 ∧ (ab_ok h j3 0 = true ∧ ab_in x2 (ab_s h j3).2 = true) ∧ ∀ h4 : ab_H, h4 = ab_pi h j3 (Int32.toNatClampNeg x2) x7 → ab_ok h4 x0 105 = true ∧ wm d 72 [.ref x0, .int x2, .int x7] h4 (fun r9 h9 => wq (d + 1) 71 168 [.ref x0, .ref x1, .int x2, .int x3, .int x4, .int x5, .int x6, .int x7, .int y2] (r9.toList ++ []) h9 Q)))) : wq (d + 1) 71 124 [.ref x0, .ref x1, .int x2, .int x3, .int x4, .int x5, .int x6, .int x7, .retAddr 0] [] h Q := by
  refine g3 c_71_124 rfl ?_
  refine gif c_71_126 (gbr t rfl rfl (fun hc t => ?_) (fun hc t => ?_))
  · exact g94 c_71_184 t
  · refine g3 c_71_129 rfl ?_
    refine g5 c_71_130 rfl ?_
    obtain ⟨ho, j1, hr, t⟩ := t
    refine g45 c_71_131 ho hr ?_
    refine g3 c_71_134 rfl ?_
    refine g1 c_71_135 k_3 ?_
    refine g12 c_71_136 ?_
    refine g3 c_71_137 rfl ?_
    refine g10 c_71_139 ?_
    obtain ⟨ho, t⟩ := t
    refine g50 c_71_140 ho ?_
    refine g10 c_71_141 ?_
    refine g6y (Lf := fun y2 => [.ref x0, .ref x1, .int x2, .int x3, .int x4, .int x5, .int x6, .int x7, .int y2]) c_71_142 (fun _ => rfl) (fun y2 ey2 => ?_)
    have t := t y2 ey2
    refine g3 c_71_144 rfl ?_
    refine g5 c_71_146 rfl ?_
    obtain ⟨ho, t⟩ := t
    refine g43 c_71_147 ho ?_
    refine gcm c_71_150 (gbr t rfl rfl (fun hc t => ?_) (fun hc t => ?_))
    · refine g9 (L' := [.ref x0, .ref x1, .int x2, .int x3, .int x4, .int x5, .int x6, .int (x7 + (-1)), .int y2]) c_71_178 rfl k_m1 rfl ?_
      refine g38 c_71_181 rfl ?_
      exact t
    · refine g5 c_71_153 rfl ?_
      obtain ⟨ho, j3, hr, t⟩ := t
      refine g45 c_71_154 ho hr ?_
      refine g3 c_71_157 rfl ?_
      refine g3 c_71_158 rfl ?_
      obtain ⟨ho, t⟩ := t
      refine g54 c_71_160 ho (fun h4 eh4 => ?_)
      have t := t h4 eh4
      refine g5 c_71_161 rfl ?_
      refine g3 c_71_162 rfl ?_
      refine g3 c_71_163 rfl ?_
      exact g80 (As := [.int x2, .int x7]) (rest := []) c_71_165 rfl rfl (Nat.le_of_ble_eq_true rfl) (Nat.le_of_ble_eq_true rfl) t.1 t.2
set_option maxRecDepth 20000 in
theorem t_71_168 {d : Nat} {h : ab_H} {Q : Option Value → ab_H → Prop} {x0 : Nat} {x1 : Nat} {x2 : Int32} {x3 : Int32} {x4 : Int32} {x5 : Int32} {x6 : Int32} {x7 : Int32} {x8 : Int32} (t : ab_ok h x0 105 = true ∧ wm d 71 [.ref x0, .ref x1, .int (x2 + 1), .int x8] h (fun r9 h9 => wq (d + 1) 71 178 [.ref x0, .ref x1, .int x2, .int x3, .int x4, .int x5, .int x6, .int x7, .int x8] (r9.toList ++ []) h9 Q)) : wq (d + 1) 71 168 [.ref x0, .ref x1, .int x2, .int x3, .int x4, .int x5, .int x6, .int x7, .int x8] [] h Q := by
  refine g5 c_71_168 rfl ?_
  refine g5 c_71_169 rfl ?_
  refine g3 c_71_170 rfl ?_
  refine g1 c_71_171 k_1 ?_
  refine g10 c_71_172 ?_
  refine g3 c_71_173 rfl ?_
  exact g80 (As := [.ref x1, .int (x2 + 1), .int x8]) (rest := []) c_71_175 rfl rfl (Nat.le_of_ble_eq_true rfl) (Nat.le_of_ble_eq_true rfl) t.1 t.2
set_option maxRecDepth 20000 in
theorem t_71_178 {d : Nat} {h : ab_H} {Q : Option Value → ab_H → Prop} {x0 : Nat} {x1 : Nat} {x2 : Int32} {x3 : Int32} {x4 : Int32} {x5 : Int32} {x6 : Int32} {x7 : Int32} {x8 : Int32} (t : wq d 71 124 [.ref x0, .ref x1, .int x2, .int x3, .int x4, .int x5, .int x6, .int (x7 + (-1)), .int x8] [] h Q) : wq d 71 178 [.ref x0, .ref x1, .int x2, .int x3, .int x4, .int x5, .int x6, .int x7, .int x8] [] h Q := by
  refine g9 (L' := [.ref x0, .ref x1, .int x2, .int x3, .int x4, .int x5, .int x6, .int (x7 + (-1)), .int x8]) c_71_178 rfl k_m1 rfl ?_
  refine g38 c_71_181 rfl ?_
  exact t
-- method 72: MillTown$Sharing.addRun(II)V
theorem c_72_0 : pg_cd 72 0 = (1, 1, 0, 0, 0) := by decide +kernel
theorem c_72_1 : pg_cd 72 1 = (6, 1, 0, 3, 0) := by decide +kernel
theorem c_72_2 : pg_cd 72 2 = (3, 1, 0, 3, 0) := by decide +kernel
theorem c_72_3 : pg_cd 72 3 = (1, 2, 0, 0, 24) := by decide +kernel
theorem c_72_5 : pg_cd 72 5 = (37, 3, 0, 3, 49) := by decide +kernel
theorem c_72_8 : pg_cd 72 8 = (5, 1, 0, 0, 0) := by decide +kernel
theorem c_72_9 : pg_cd 72 9 = (45, 5, 19, 2, 0) := by decide +kernel
theorem c_72_12 : pg_cd 72 12 = (3, 1, 0, 1, 0) := by decide +kernel
theorem c_72_13 : pg_cd 72 13 = (1, 1, 0, 0, 1) := by decide +kernel
theorem c_72_14 : pg_cd 72 14 = (10, 1, 0, 0, 0) := by decide +kernel
theorem c_72_15 : pg_cd 72 15 = (1, 2, 0, 0, 24) := by decide +kernel
theorem c_72_17 : pg_cd 72 17 = (12, 1, 0, 0, 0) := by decide +kernel
theorem c_72_18 : pg_cd 72 18 = (3, 1, 0, 3, 0) := by decide +kernel
theorem c_72_19 : pg_cd 72 19 = (10, 1, 0, 0, 0) := by decide +kernel
theorem c_72_20 : pg_cd 72 20 = (5, 1, 0, 0, 0) := by decide +kernel
theorem c_72_21 : pg_cd 72 21 = (45, 5, 19, 2, 0) := by decide +kernel
theorem c_72_24 : pg_cd 72 24 = (3, 1, 0, 1, 0) := by decide +kernel
theorem c_72_25 : pg_cd 72 25 = (1, 2, 0, 0, 24) := by decide +kernel
theorem c_72_27 : pg_cd 72 27 = (12, 1, 0, 0, 0) := by decide +kernel
theorem c_72_28 : pg_cd 72 28 = (3, 1, 0, 3, 0) := by decide +kernel
theorem c_72_29 : pg_cd 72 29 = (10, 1, 0, 0, 0) := by decide +kernel
theorem c_72_30 : pg_cd 72 30 = (52, 1, 0, 0, 0) := by decide +kernel
theorem c_72_31 : pg_cd 72 31 = (5, 1, 0, 0, 0) := by decide +kernel
theorem c_72_32 : pg_cd 72 32 = (45, 5, 11, 0, 0) := by decide +kernel
theorem c_72_35 : pg_cd 72 35 = (3, 1, 0, 1, 0) := by decide +kernel
theorem c_72_36 : pg_cd 72 36 = (1, 1, 0, 0, 3) := by decide +kernel
theorem c_72_37 : pg_cd 72 37 = (12, 1, 0, 0, 0) := by decide +kernel
theorem c_72_38 : pg_cd 72 38 = (3, 1, 0, 2, 0) := by decide +kernel
theorem c_72_39 : pg_cd 72 39 = (10, 1, 0, 0, 0) := by decide +kernel
theorem c_72_40 : pg_cd 72 40 = (1, 2, 0, 0, 24) := by decide +kernel
theorem c_72_42 : pg_cd 72 42 = (12, 1, 0, 0, 0) := by decide +kernel
theorem c_72_43 : pg_cd 72 43 = (3, 1, 0, 3, 0) := by decide +kernel
theorem c_72_44 : pg_cd 72 44 = (10, 1, 0, 0, 0) := by decide +kernel
theorem c_72_45 : pg_cd 72 45 = (52, 1, 0, 0, 0) := by decide +kernel
theorem c_72_46 : pg_cd 72 46 = (22, 1, 0, 0, 0) := by decide +kernel
theorem c_72_47 : pg_cd 72 47 = (56, 1, 0, 0, 0) := by decide +kernel
theorem c_72_48 : pg_cd 72 48 = (9, 3, 0, 3, 1) := by decide +kernel
theorem c_72_51 : pg_cd 72 51 = (38, 3, 0, 0, (-49)) := by decide +kernel
theorem c_72_54 : pg_cd 72 54 = (94, 0, 0, 0, 0) := by decide +kernel
theorem mx_72 : pg_mx 72 = 4 := by decide +kernel
theorem m_72 {d : Nat} {h : ab_H} {Q : Option Value → ab_H → Prop} {x0 : Nat} {x1 : Int32} {x2 : Int32} (t : wq d 72 0 [.ref x0, .int x1, .int x2, .retAddr 0] [] h Q) : wm d 72 [.ref x0, .int x1, .int x2] h Q := by
  unfold wm
  rw [mx_72]
  exact t
set_option maxRecDepth 20000 in
theorem t_72_0 {d : Nat} {h : ab_H} {Q : Option Value → ab_H → Prop} {x0 : Nat} {x1 : Int32} {x2 : Int32} (t : wq d 72 2 [.ref x0, .int x1, .int x2, .int 0] [] h Q) : wq d 72 0 [.ref x0, .int x1, .int x2, .retAddr 0] [] h Q := by
  refine g1 c_72_0 k_0 ?_
  refine g6 (L' := [.ref x0, .int x1, .int x2, .int 0]) c_72_1 rfl ?_
  exact t
set_option maxRecDepth 20000 in
theorem t_72_2 {d : Nat} {h : ab_H} {Q : Option Value → ab_H → Prop} {x0 : Nat} {x1 : Int32} {x2 : Int32} {x3 : Int32} (t : if 24 ≤ x3 then (Q none h) else (ab_ok h x0 105 = true ∧ ∃ j1 : Nat, ab_r h x0 2 = some j1 ∧ ab_ok h x0 105 = true ∧ ∃ j2 : Nat, ab_r h x0 2 = some j2 ∧ (ab_ok h j2 1 = true ∧ ab_in ((x1 * 24) + x3) (ab_s h j2).2 = true) ∧ ab_ok h x0 105 = true ∧ ∃ j3 : Nat, ab_r h x0 0 = some j3 ∧ (ab_ok h j3 1 = true ∧ ab_in ((((x1 * 3) + x2) * 24) + x3) (ab_s h j3).2 = true) ∧ (ab_ok h j1 1 = true ∧ ab_in (((x1 + 1) * 24) + x3) (ab_s h j1).2 = true) ∧ ∀ h4 : ab_H, h4 = ab_pl h j1 (Int32.toNatClampNeg (((x1 + 1) * 24) + x3)) ((ab_l h j2 (Int32.toNatClampNeg ((x1 * 24) + x3))) + (ab_l h j3 (Int32.toNatClampNeg ((((x1 * 3) + x2) * 24) + x3)))) → wq d 72 2 [.ref x0, .int x1, .int x2, .int (x3 + 1)] [] h4 Q)) : wq d 72 2 [.ref x0, .int x1, .int x2, .int x3] [] h Q := by
  refine g3 c_72_2 rfl ?_
  refine g1 c_72_3 k_24 ?_
  refine gcm c_72_5 (gbr t rfl rfl (fun hc t => ?_) (fun hc t => ?_))
  · exact g94 c_72_54 t
  · refine g5 c_72_8 rfl ?_
    obtain ⟨ho, j1, hr, t⟩ := t
    refine g45 c_72_9 ho hr ?_
    refine g3 c_72_12 rfl ?_
    refine g1 c_72_13 k_1 ?_
    refine g10 c_72_14 ?_
    refine g1 c_72_15 k_24 ?_
    refine g12 c_72_17 ?_
    refine g3 c_72_18 rfl ?_
    refine g10 c_72_19 ?_
    refine g5 c_72_20 rfl ?_
    obtain ⟨ho, j2, hr, t⟩ := t
    refine g45 c_72_21 ho hr ?_
    refine g3 c_72_24 rfl ?_
    refine g1 c_72_25 k_24 ?_
    refine g12 c_72_27 ?_
    refine g3 c_72_28 rfl ?_
    refine g10 c_72_29 ?_
    obtain ⟨ho, t⟩ := t
    refine g52 c_72_30 ho ?_
    refine g5 c_72_31 rfl ?_
    obtain ⟨ho, j3, hr, t⟩ := t
    refine g45 c_72_32 ho hr ?_
    refine g3 c_72_35 rfl ?_
    refine g1 c_72_36 k_3 ?_
    refine g12 c_72_37 ?_
    refine g3 c_72_38 rfl ?_
    refine g10 c_72_39 ?_
    refine g1 c_72_40 k_24 ?_
    refine g12 c_72_42 ?_
    refine g3 c_72_43 rfl ?_
    refine g10 c_72_44 ?_
    obtain ⟨ho, t⟩ := t
    refine g52 c_72_45 ho ?_
    refine g22 c_72_46 ?_
    obtain ⟨ho, t⟩ := t
    refine g56 c_72_47 ho (fun h4 eh4 => ?_)
    have t := t h4 eh4
    refine g9 (L' := [.ref x0, .int x1, .int x2, .int (x3 + 1)]) c_72_48 rfl k_1 rfl ?_
    refine g38 c_72_51 rfl ?_
    exact t
-- method 107: MillTown$Week.<init>()V
theorem c_107_0 : pg_cd 107 0 = (5, 1, 0, 0, 0) := by decide +kernel
theorem c_107_1 : pg_cd 107 1 = (61, 0, 3, 0, 0) := by decide +kernel
theorem c_107_4 : pg_cd 107 4 = (5, 1, 0, 0, 0) := by decide +kernel
theorem c_107_5 : pg_cd 107 5 = (60, 1, 9, 6, 0) := by decide +kernel
theorem c_107_8 : pg_cd 107 8 = (33, 1, 0, 0, 0) := by decide +kernel
theorem c_107_9 : pg_cd 107 9 = (80, 8, 11, 0, 0) := by decide +kernel
theorem c_107_12 : pg_cd 107 12 = (49, 9, 12, 0, 0) := by decide +kernel
theorem c_107_15 : pg_cd 107 15 = (5, 1, 0, 0, 0) := by decide +kernel
theorem c_107_16 : pg_cd 107 16 = (60, 0, 18, 1, 0) := by decide +kernel
theorem c_107_19 : pg_cd 107 19 = (33, 1, 0, 0, 0) := by decide +kernel
theorem c_107_20 : pg_cd 107 20 = (80, 0, 20, 0, 0) := by decide +kernel
theorem c_107_23 : pg_cd 107 23 = (49, 9, 21, 1, 0) := by decide +kernel
theorem c_107_26 : pg_cd 107 26 = (5, 1, 0, 0, 0) := by decide +kernel
theorem c_107_27 : pg_cd 107 27 = (1, 2, 0, 0, 60) := by decide +kernel
theorem c_107_29 : pg_cd 107 29 = (59, 2, 0, 0, 0) := by decide +kernel
theorem c_107_31 : pg_cd 107 31 = (49, 9, 25, 2, 0) := by decide +kernel
theorem c_107_34 : pg_cd 107 34 = (5, 1, 0, 0, 0) := by decide +kernel
theorem c_107_35 : pg_cd 107 35 = (1, 2, 0, 0, 60) := by decide +kernel
theorem c_107_37 : pg_cd 107 37 = (59, 2, 0, 0, 0) := by decide +kernel
theorem c_107_39 : pg_cd 107 39 = (49, 9, 29, 3, 0) := by decide +kernel
theorem c_107_42 : pg_cd 107 42 = (5, 1, 0, 0, 0) := by decide +kernel
theorem c_107_43 : pg_cd 107 43 = (1, 2, 0, 0, 48) := by decide +kernel
theorem c_107_45 : pg_cd 107 45 = (59, 2, 0, 0, 0) := by decide +kernel
theorem c_107_47 : pg_cd 107 47 = (49, 9, 32, 4, 0) := by decide +kernel
theorem c_107_50 : pg_cd 107 50 = (94, 0, 0, 0, 0) := by decide +kernel
theorem mx_107 : pg_mx 107 = 1 := by decide +kernel
theorem m_107 {d : Nat} {h : ab_H} {Q : Option Value → ab_H → Prop} {x0 : Nat} (t : wq d 107 0 [.ref x0] [] h Q) : wm d 107 [.ref x0] h Q := by
  unfold wm
  rw [mx_107]
  exact t
set_option maxRecDepth 20000 in
theorem t_107_0 {d : Nat} {h : ab_H} {Q : Option Value → ab_H → Prop} {x0 : Nat} (t : ∀ h1 : ab_H, h1 = ab_new h 101 0 6 → ab_ok h1 (ab_n h) 101 = true ∧ wm d 8 [.ref ((ab_n h))] h1 (fun r9 h9 => wq (d + 1) 107 12 [.ref x0] (r9.toList ++ [.ref (ab_n h), .ref x0]) h9 Q)) : wq (d + 1) 107 0 [.ref x0] [] h Q := by
  refine g5 c_107_0 rfl ?_
  refine g61 c_107_1 (Nat.le_of_ble_eq_true rfl) ?_
  refine g5 c_107_4 rfl ?_
  refine g60 c_107_5 (fun h1 eh1 => ?_)
  have t := t h1 eh1
  refine g33a c_107_8 ?_
  exact g80 (As := []) (rest := [.ref (ab_n h), .ref x0]) c_107_9 rfl rfl (Nat.le_of_ble_eq_true rfl) (Nat.le_of_ble_eq_true rfl) t.1 t.2
set_option maxRecDepth 20000 in
theorem t_107_12 {d : Nat} {h : ab_H} {Q : Option Value → ab_H → Prop} {x0 : Nat} {s0 : Nat} {s1 : Nat} (t : ab_ok h s0 109 = true ∧ ∀ h1 : ab_H, h1 = ab_pr h s0 0 (some s1) → ∀ h2 : ab_H, h2 = ab_new h1 100 0 1 → ab_ok h2 (ab_n h1) 100 = true ∧ wm d 0 [.ref ((ab_n h1))] h2 (fun r9 h9 => wq (d + 1) 107 23 [.ref x0] (r9.toList ++ [.ref (ab_n h1), .ref x0]) h9 Q)) : wq (d + 1) 107 12 [.ref x0] [.ref s1, .ref s0] h Q := by
  obtain ⟨ho, t⟩ := t
  refine g49 c_107_12 ho (fun h1 eh1 => ?_)
  have t := t h1 eh1
  refine g5 c_107_15 rfl ?_
  refine g60 c_107_16 (fun h2 eh2 => ?_)
  have t := t h2 eh2
  refine g33a c_107_19 ?_
  exact g80 (As := []) (rest := [.ref (ab_n h1), .ref x0]) c_107_20 rfl rfl (Nat.le_of_ble_eq_true rfl) (Nat.le_of_ble_eq_true rfl) t.1 t.2
set_option maxRecDepth 20000 in
theorem t_107_23 {d : Nat} {h : ab_H} {Q : Option Value → ab_H → Prop} {x0 : Nat} {s0 : Nat} {s1 : Nat} (t : ab_ok h s0 109 = true ∧ ∀ h1 : ab_H, h1 = ab_pr h s0 1 (some s1) → (¬ (60 : Int32) < 0 ∧ Int32.toNatClampNeg (60 : Int32) ≤ 1000000) ∧ ∀ h2 : ab_H, h2 = ab_new h1 0 (Int32.toNatClampNeg (60 : Int32)) (Int32.toNatClampNeg (60 : Int32)) → ab_ok h2 x0 109 = true ∧ ∀ h3 : ab_H, h3 = ab_pr h2 x0 2 (some (ab_n h1)) → (¬ (60 : Int32) < 0 ∧ Int32.toNatClampNeg (60 : Int32) ≤ 1000000) ∧ ∀ h4 : ab_H, h4 = ab_new h3 0 (Int32.toNatClampNeg (60 : Int32)) (Int32.toNatClampNeg (60 : Int32)) → ab_ok h4 x0 109 = true ∧ ∀ h5 : ab_H, h5 = ab_pr h4 x0 3 (some (ab_n h3)) → (¬ (48 : Int32) < 0 ∧ Int32.toNatClampNeg (48 : Int32) ≤ 1000000) ∧ ∀ h6 : ab_H, h6 = ab_new h5 0 (Int32.toNatClampNeg (48 : Int32)) (Int32.toNatClampNeg (48 : Int32)) → ab_ok h6 x0 109 = true ∧ ∀ h7 : ab_H, h7 = ab_pr h6 x0 4 (some (ab_n h5)) → Q none h7) : wq d 107 23 [.ref x0] [.ref s1, .ref s0] h Q := by
  obtain ⟨ho, t⟩ := t
  refine g49 c_107_23 ho (fun h1 eh1 => ?_)
  have t := t h1 eh1
  refine g5 c_107_26 rfl ?_
  refine g1 c_107_27 k_60 ?_
  obtain ⟨ho, t⟩ := t
  refine g59 c_107_29 ho (fun h2 eh2 => ?_)
  have t := t h2 eh2
  obtain ⟨ho, t⟩ := t
  refine g49 c_107_31 ho (fun h3 eh3 => ?_)
  have t := t h3 eh3
  refine g5 c_107_34 rfl ?_
  refine g1 c_107_35 k_60 ?_
  obtain ⟨ho, t⟩ := t
  refine g59 c_107_37 ho (fun h4 eh4 => ?_)
  have t := t h4 eh4
  obtain ⟨ho, t⟩ := t
  refine g49 c_107_39 ho (fun h5 eh5 => ?_)
  have t := t h5 eh5
  refine g5 c_107_42 rfl ?_
  refine g1 c_107_43 k_48 ?_
  obtain ⟨ho, t⟩ := t
  refine g59 c_107_45 ho (fun h6 eh6 => ?_)
  have t := t h6 eh6
  obtain ⟨ho, t⟩ := t
  refine g49 c_107_47 ho (fun h7 eh7 => ?_)
  have t := t h7 eh7
  exact g94 c_107_50 t
-- method 108: MillTown$Week.clearTotals()V
theorem c_108_0 : pg_cd 108 0 = (5, 1, 0, 0, 0) := by decide +kernel
theorem c_108_1 : pg_cd 108 1 = (1, 1, 0, 0, 0) := by decide +kernel
theorem c_108_2 : pg_cd 108 2 = (46, 9, 35, 6, 0) := by decide +kernel
theorem c_108_5 : pg_cd 108 5 = (5, 1, 0, 0, 0) := by decide +kernel
theorem c_108_6 : pg_cd 108 6 = (1, 1, 0, 0, 0) := by decide +kernel
theorem c_108_7 : pg_cd 108 7 = (46, 9, 39, 7, 0) := by decide +kernel
theorem c_108_10 : pg_cd 108 10 = (5, 1, 0, 0, 0) := by decide +kernel
theorem c_108_11 : pg_cd 108 11 = (1, 1, 0, 0, 0) := by decide +kernel
theorem c_108_12 : pg_cd 108 12 = (46, 9, 42, 8, 0) := by decide +kernel
theorem c_108_15 : pg_cd 108 15 = (5, 1, 0, 0, 0) := by decide +kernel
theorem c_108_16 : pg_cd 108 16 = (1, 1, 0, 0, 0) := by decide +kernel
theorem c_108_17 : pg_cd 108 17 = (46, 9, 45, 9, 0) := by decide +kernel
theorem c_108_20 : pg_cd 108 20 = (94, 0, 0, 0, 0) := by decide +kernel
theorem mx_108 : pg_mx 108 = 1 := by decide +kernel
theorem m_108 {d : Nat} {h : ab_H} {Q : Option Value → ab_H → Prop} {x0 : Nat} (t : wq d 108 0 [.ref x0] [] h Q) : wm d 108 [.ref x0] h Q := by
  unfold wm
  rw [mx_108]
  exact t
set_option maxRecDepth 20000 in
theorem t_108_0 {d : Nat} {h : ab_H} {Q : Option Value → ab_H → Prop} {x0 : Nat} (t : ab_ok h x0 109 = true ∧ ∀ h1 : ab_H, h1 = ab_pi h x0 6 0 → ab_ok h1 x0 109 = true ∧ ∀ h2 : ab_H, h2 = ab_pi h1 x0 7 0 → ab_ok h2 x0 109 = true ∧ ∀ h3 : ab_H, h3 = ab_pi h2 x0 8 0 → ab_ok h3 x0 109 = true ∧ ∀ h4 : ab_H, h4 = ab_pi h3 x0 9 0 → Q none h4) : wq d 108 0 [.ref x0] [] h Q := by
  refine g5 c_108_0 rfl ?_
  refine g1 c_108_1 k_0 ?_
  obtain ⟨ho, t⟩ := t
  refine g46 c_108_2 ho (fun h1 eh1 => ?_)
  have t := t h1 eh1
  refine g5 c_108_5 rfl ?_
  refine g1 c_108_6 k_0 ?_
  obtain ⟨ho, t⟩ := t
  refine g46 c_108_7 ho (fun h2 eh2 => ?_)
  have t := t h2 eh2
  refine g5 c_108_10 rfl ?_
  refine g1 c_108_11 k_0 ?_
  obtain ⟨ho, t⟩ := t
  refine g46 c_108_12 ho (fun h3 eh3 => ?_)
  have t := t h3 eh3
  refine g5 c_108_15 rfl ?_
  refine g1 c_108_16 k_0 ?_
  obtain ⟨ho, t⟩ := t
  refine g46 c_108_17 ho (fun h4 eh4 => ?_)
  have t := t h4 eh4
  exact g94 c_108_20 t
-- method 109: MillTown$Week.pass(LMillTown$Town;)V
theorem c_109_0 : pg_cd 109 0 = (5, 1, 0, 0, 0) := by decide +kernel
theorem c_109_1 : pg_cd 109 1 = (45, 9, 21, 1, 0) := by decide +kernel
theorem c_109_4 : pg_cd 109 4 = (5, 1, 0, 1, 0) := by decide +kernel
theorem c_109_5 : pg_cd 109 5 = (43, 8, 48, 8, 0) := by decide +kernel
theorem c_109_8 : pg_cd 109 8 = (80, 2, 53, 0, 0) := by decide +kernel
theorem c_109_11 : pg_cd 109 11 = (8, 1, 0, 2, 0) := by decide +kernel
theorem c_109_12 : pg_cd 109 12 = (5, 1, 0, 2, 0) := by decide +kernel
theorem c_109_13 : pg_cd 109 13 = (40, 3, 0, 0, 4) := by decide +kernel
theorem c_109_16 : pg_cd 109 16 = (94, 0, 0, 0, 0) := by decide +kernel
theorem c_109_17 : pg_cd 109 17 = (5, 1, 0, 0, 0) := by decide +kernel
theorem c_109_18 : pg_cd 109 18 = (5, 1, 0, 1, 0) := by decide +kernel
theorem c_109_19 : pg_cd 109 19 = (80, 110, 57, 0, 0) := by decide +kernel
theorem c_109_22 : pg_cd 109 22 = (5, 1, 0, 0, 0) := by decide +kernel
theorem c_109_23 : pg_cd 109 23 = (5, 1, 0, 1, 0) := by decide +kernel
theorem c_109_24 : pg_cd 109 24 = (80, 113, 61, 0, 0) := by decide +kernel
theorem c_109_27 : pg_cd 109 27 = (5, 1, 0, 0, 0) := by decide +kernel
theorem c_109_28 : pg_cd 109 28 = (5, 1, 0, 1, 0) := by decide +kernel
theorem c_109_29 : pg_cd 109 29 = (80, 115, 64, 0, 0) := by decide +kernel
theorem c_109_32 : pg_cd 109 32 = (5, 1, 0, 0, 0) := by decide +kernel
theorem c_109_33 : pg_cd 109 33 = (5, 1, 0, 1, 0) := by decide +kernel
theorem c_109_34 : pg_cd 109 34 = (80, 116, 67, 0, 0) := by decide +kernel
theorem c_109_37 : pg_cd 109 37 = (5, 1, 0, 0, 0) := by decide +kernel
theorem c_109_38 : pg_cd 109 38 = (5, 1, 0, 1, 0) := by decide +kernel
theorem c_109_39 : pg_cd 109 39 = (80, 122, 70, 0, 0) := by decide +kernel
theorem c_109_42 : pg_cd 109 42 = (5, 1, 0, 0, 0) := by decide +kernel
theorem c_109_43 : pg_cd 109 43 = (5, 1, 0, 1, 0) := by decide +kernel
theorem c_109_44 : pg_cd 109 44 = (80, 127, 73, 0, 0) := by decide +kernel
theorem c_109_47 : pg_cd 109 47 = (5, 1, 0, 0, 0) := by decide +kernel
theorem c_109_48 : pg_cd 109 48 = (5, 1, 0, 1, 0) := by decide +kernel
theorem c_109_49 : pg_cd 109 49 = (80, 128, 76, 0, 0) := by decide +kernel
theorem c_109_52 : pg_cd 109 52 = (5, 1, 0, 0, 0) := by decide +kernel
theorem c_109_53 : pg_cd 109 53 = (5, 1, 0, 1, 0) := by decide +kernel
theorem c_109_54 : pg_cd 109 54 = (5, 1, 0, 2, 0) := by decide +kernel
theorem c_109_55 : pg_cd 109 55 = (80, 129, 79, 0, 0) := by decide +kernel
theorem c_109_58 : pg_cd 109 58 = (5, 1, 0, 0, 0) := by decide +kernel
theorem c_109_59 : pg_cd 109 59 = (5, 1, 0, 1, 0) := by decide +kernel
theorem c_109_60 : pg_cd 109 60 = (5, 1, 0, 2, 0) := by decide +kernel
theorem c_109_61 : pg_cd 109 61 = (80, 130, 83, 0, 0) := by decide +kernel
theorem c_109_64 : pg_cd 109 64 = (5, 1, 0, 1, 0) := by decide +kernel
theorem c_109_65 : pg_cd 109 65 = (81, 134, 86, 0, 0) := by decide +kernel
theorem c_109_68 : pg_cd 109 68 = (5, 1, 0, 0, 0) := by decide +kernel
theorem c_109_69 : pg_cd 109 69 = (5, 1, 0, 1, 0) := by decide +kernel
theorem c_109_70 : pg_cd 109 70 = (5, 1, 0, 2, 0) := by decide +kernel
theorem c_109_71 : pg_cd 109 71 = (80, 135, 89, 0, 0) := by decide +kernel
theorem c_109_74 : pg_cd 109 74 = (5, 1, 0, 1, 0) := by decide +kernel
theorem c_109_75 : pg_cd 109 75 = (33, 1, 0, 0, 0) := by decide +kernel
theorem c_109_76 : pg_cd 109 76 = (43, 8, 48, 8, 0) := by decide +kernel
theorem c_109_79 : pg_cd 109 79 = (1, 1, 0, 0, 1) := by decide +kernel
theorem c_109_80 : pg_cd 109 80 = (10, 1, 0, 0, 0) := by decide +kernel
theorem c_109_81 : pg_cd 109 81 = (46, 8, 48, 8, 0) := by decide +kernel
theorem c_109_84 : pg_cd 109 84 = (94, 0, 0, 0, 0) := by decide +kernel
theorem mx_109 : pg_mx 109 = 3 := by decide +kernel
theorem m_109 {d : Nat} {h : ab_H} {Q : Option Value → ab_H → Prop} {x0 : Nat} {x1 : Nat} (t : wq d 109 0 [.ref x0, .ref x1, .retAddr 0] [] h Q) : wm d 109 [.ref x0, .ref x1] h Q := by
  unfold wm
  rw [mx_109]
  exact t
set_option maxRecDepth 20000 in
theorem t_109_0 {d : Nat} {h : ab_H} {Q : Option Value → ab_H → Prop} {x0 : Nat} {x1 : Nat} (t : ab_ok h x0 109 = true ∧ ∃ j1 : Nat, ab_r h x0 1 = some j1 ∧ ab_ok h x1 108 = true ∧ ab_ok h j1 100 = true ∧ wm d 2 [.ref j1, .int (ab_i h x1 8)] h (fun r9 h9 => wq (d + 1) 109 11 [.ref x0, .ref x1, .retAddr 0] (r9.toList ++ []) h9 Q)) : wq (d + 1) 109 0 [.ref x0, .ref x1, .retAddr 0] [] h Q := by
  refine g5 c_109_0 rfl ?_
  obtain ⟨ho, j1, hr, t⟩ := t
  refine g45 c_109_1 ho hr ?_
  refine g5 c_109_4 rfl ?_
  obtain ⟨ho, t⟩ := t
  refine g43 c_109_5 ho ?_
  exact g80 (As := [.int (ab_i h x1 8)]) (rest := []) c_109_8 rfl rfl (Nat.le_of_ble_eq_true rfl) (Nat.le_of_ble_eq_true rfl) t.1 t.2
set_option maxRecDepth 20000 in
theorem t_109_11 {d : Nat} {h : ab_H} {Q : Option Value → ab_H → Prop} {x0 : Nat} {x1 : Nat} {s0 : Nat} (t : ab_ok h x0 109 = true ∧ wm d 110 [.ref x0, .ref x1] h (fun r9 h9 => wq (d + 1) 109 22 [.ref x0, .ref x1, .ref s0] (r9.toList ++ []) h9 Q)) : wq (d + 1) 109 11 [.ref x0, .ref x1, .retAddr 0] [.ref s0] h Q := by
  refine g8 (L' := [.ref x0, .ref x1, .ref s0]) c_109_11 rfl ?_
  refine g5 c_109_12 rfl ?_
  refine g40a c_109_13 rfl ?_
  refine g5 c_109_17 rfl ?_
  refine g5 c_109_18 rfl ?_
  exact g80 (As := [.ref x1]) (rest := []) c_109_19 rfl rfl (Nat.le_of_ble_eq_true rfl) (Nat.le_of_ble_eq_true rfl) t.1 t.2
set_option maxRecDepth 20000 in
theorem t_109_22 {d : Nat} {h : ab_H} {Q : Option Value → ab_H → Prop} {x0 : Nat} {x1 : Nat} {x2 : Nat} (t : ab_ok h x0 109 = true ∧ wm d 113 [.ref x0, .ref x1] h (fun r9 h9 => wq (d + 1) 109 27 [.ref x0, .ref x1, .ref x2] (r9.toList ++ []) h9 Q)) : wq (d + 1) 109 22 [.ref x0, .ref x1, .ref x2] [] h Q := by
  refine g5 c_109_22 rfl ?_
  refine g5 c_109_23 rfl ?_
  exact g80 (As := [.ref x1]) (rest := []) c_109_24 rfl rfl (Nat.le_of_ble_eq_true rfl) (Nat.le_of_ble_eq_true rfl) t.1 t.2
set_option maxRecDepth 20000 in
theorem t_109_27 {d : Nat} {h : ab_H} {Q : Option Value → ab_H → Prop} {x0 : Nat} {x1 : Nat} {x2 : Nat} (t : ab_ok h x0 109 = true ∧ wm d 115 [.ref x0, .ref x1] h (fun r9 h9 => wq (d + 1) 109 32 [.ref x0, .ref x1, .ref x2] (r9.toList ++ []) h9 Q)) : wq (d + 1) 109 27 [.ref x0, .ref x1, .ref x2] [] h Q := by
  refine g5 c_109_27 rfl ?_
  refine g5 c_109_28 rfl ?_
  exact g80 (As := [.ref x1]) (rest := []) c_109_29 rfl rfl (Nat.le_of_ble_eq_true rfl) (Nat.le_of_ble_eq_true rfl) t.1 t.2
set_option maxRecDepth 20000 in
theorem t_109_32 {d : Nat} {h : ab_H} {Q : Option Value → ab_H → Prop} {x0 : Nat} {x1 : Nat} {x2 : Nat} (t : ab_ok h x0 109 = true ∧ wm d 116 [.ref x0, .ref x1] h (fun r9 h9 => wq (d + 1) 109 37 [.ref x0, .ref x1, .ref x2] (r9.toList ++ []) h9 Q)) : wq (d + 1) 109 32 [.ref x0, .ref x1, .ref x2] [] h Q := by
  refine g5 c_109_32 rfl ?_
  refine g5 c_109_33 rfl ?_
  exact g80 (As := [.ref x1]) (rest := []) c_109_34 rfl rfl (Nat.le_of_ble_eq_true rfl) (Nat.le_of_ble_eq_true rfl) t.1 t.2
set_option maxRecDepth 20000 in
theorem t_109_37 {d : Nat} {h : ab_H} {Q : Option Value → ab_H → Prop} {x0 : Nat} {x1 : Nat} {x2 : Nat} (t : ab_ok h x0 109 = true ∧ wm d 122 [.ref x0, .ref x1] h (fun r9 h9 => wq (d + 1) 109 42 [.ref x0, .ref x1, .ref x2] (r9.toList ++ []) h9 Q)) : wq (d + 1) 109 37 [.ref x0, .ref x1, .ref x2] [] h Q := by
  refine g5 c_109_37 rfl ?_
  refine g5 c_109_38 rfl ?_
  exact g80 (As := [.ref x1]) (rest := []) c_109_39 rfl rfl (Nat.le_of_ble_eq_true rfl) (Nat.le_of_ble_eq_true rfl) t.1 t.2
set_option maxRecDepth 20000 in
theorem t_109_42 {d : Nat} {h : ab_H} {Q : Option Value → ab_H → Prop} {x0 : Nat} {x1 : Nat} {x2 : Nat} (t : ab_ok h x0 109 = true ∧ wm d 127 [.ref x0, .ref x1] h (fun r9 h9 => wq (d + 1) 109 47 [.ref x0, .ref x1, .ref x2] (r9.toList ++ []) h9 Q)) : wq (d + 1) 109 42 [.ref x0, .ref x1, .ref x2] [] h Q := by
  refine g5 c_109_42 rfl ?_
  refine g5 c_109_43 rfl ?_
  exact g80 (As := [.ref x1]) (rest := []) c_109_44 rfl rfl (Nat.le_of_ble_eq_true rfl) (Nat.le_of_ble_eq_true rfl) t.1 t.2
set_option maxRecDepth 20000 in
theorem t_109_47 {d : Nat} {h : ab_H} {Q : Option Value → ab_H → Prop} {x0 : Nat} {x1 : Nat} {x2 : Nat} (t : ab_ok h x0 109 = true ∧ wm d 128 [.ref x0, .ref x1] h (fun r9 h9 => wq (d + 1) 109 52 [.ref x0, .ref x1, .ref x2] (r9.toList ++ []) h9 Q)) : wq (d + 1) 109 47 [.ref x0, .ref x1, .ref x2] [] h Q := by
  refine g5 c_109_47 rfl ?_
  refine g5 c_109_48 rfl ?_
  exact g80 (As := [.ref x1]) (rest := []) c_109_49 rfl rfl (Nat.le_of_ble_eq_true rfl) (Nat.le_of_ble_eq_true rfl) t.1 t.2
set_option maxRecDepth 20000 in
theorem t_109_52 {d : Nat} {h : ab_H} {Q : Option Value → ab_H → Prop} {x0 : Nat} {x1 : Nat} {x2 : Nat} (t : ab_ok h x0 109 = true ∧ wm d 129 [.ref x0, .ref x1, .ref x2] h (fun r9 h9 => wq (d + 1) 109 58 [.ref x0, .ref x1, .ref x2] (r9.toList ++ []) h9 Q)) : wq (d + 1) 109 52 [.ref x0, .ref x1, .ref x2] [] h Q := by
  refine g5 c_109_52 rfl ?_
  refine g5 c_109_53 rfl ?_
  refine g5 c_109_54 rfl ?_
  exact g80 (As := [.ref x1, .ref x2]) (rest := []) c_109_55 rfl rfl (Nat.le_of_ble_eq_true rfl) (Nat.le_of_ble_eq_true rfl) t.1 t.2
set_option maxRecDepth 20000 in
theorem t_109_58 {d : Nat} {h : ab_H} {Q : Option Value → ab_H → Prop} {x0 : Nat} {x1 : Nat} {x2 : Nat} (t : ab_ok h x0 109 = true ∧ wm d 130 [.ref x0, .ref x1, .ref x2] h (fun r9 h9 => wq (d + 1) 109 64 [.ref x0, .ref x1, .ref x2] (r9.toList ++ []) h9 Q)) : wq (d + 1) 109 58 [.ref x0, .ref x1, .ref x2] [] h Q := by
  refine g5 c_109_58 rfl ?_
  refine g5 c_109_59 rfl ?_
  refine g5 c_109_60 rfl ?_
  exact g80 (As := [.ref x1, .ref x2]) (rest := []) c_109_61 rfl rfl (Nat.le_of_ble_eq_true rfl) (Nat.le_of_ble_eq_true rfl) t.1 t.2
set_option maxRecDepth 20000 in
theorem t_109_64 {d : Nat} {h : ab_H} {Q : Option Value → ab_H → Prop} {x0 : Nat} {x1 : Nat} {x2 : Nat} (t : wm d 134 [.ref x1] h (fun r9 h9 => wq (d + 1) 109 68 [.ref x0, .ref x1, .ref x2] (r9.toList ++ []) h9 Q)) : wq (d + 1) 109 64 [.ref x0, .ref x1, .ref x2] [] h Q := by
  refine g5 c_109_64 rfl ?_
  exact g81 (As := [.ref x1]) (rest := []) c_109_65 rfl rfl (Nat.le_of_ble_eq_true rfl) (Nat.le_of_ble_eq_true rfl) t
set_option maxRecDepth 20000 in
theorem t_109_68 {d : Nat} {h : ab_H} {Q : Option Value → ab_H → Prop} {x0 : Nat} {x1 : Nat} {x2 : Nat} (t : ab_ok h x0 109 = true ∧ wm d 135 [.ref x0, .ref x1, .ref x2] h (fun r9 h9 => wq (d + 1) 109 74 [.ref x0, .ref x1, .ref x2] (r9.toList ++ []) h9 Q)) : wq (d + 1) 109 68 [.ref x0, .ref x1, .ref x2] [] h Q := by
  refine g5 c_109_68 rfl ?_
  refine g5 c_109_69 rfl ?_
  refine g5 c_109_70 rfl ?_
  exact g80 (As := [.ref x1, .ref x2]) (rest := []) c_109_71 rfl rfl (Nat.le_of_ble_eq_true rfl) (Nat.le_of_ble_eq_true rfl) t.1 t.2
set_option maxRecDepth 20000 in
theorem t_109_74 {d : Nat} {h : ab_H} {Q : Option Value → ab_H → Prop} {x0 : Nat} {x1 : Nat} {x2 : Nat} (t : ab_ok h x1 108 = true ∧ ab_ok h x1 108 = true ∧ ∀ h1 : ab_H, h1 = ab_pi h x1 8 ((ab_i h x1 8) + 1) → Q none h1) : wq d 109 74 [.ref x0, .ref x1, .ref x2] [] h Q := by
  refine g5 c_109_74 rfl ?_
  refine g33a c_109_75 ?_
  obtain ⟨ho, t⟩ := t
  refine g43 c_109_76 ho ?_
  refine g1 c_109_79 k_1 ?_
  refine g10 c_109_80 ?_
  obtain ⟨ho, t⟩ := t
  refine g46 c_109_81 ho (fun h1 eh1 => ?_)
  have t := t h1 eh1
  exact g94 c_109_84 t
-- method 110: MillTown$Week.begin(LMillTown$Town;)V
theorem c_110_0 : pg_cd 110 0 = (5, 1, 0, 0, 0) := by decide +kernel
theorem c_110_1 : pg_cd 110 1 = (5, 1, 0, 1, 0) := by decide +kernel
theorem c_110_2 : pg_cd 110 2 = (1, 1, 0, 0, 0) := by decide +kernel
theorem c_110_3 : pg_cd 110 3 = (5, 1, 0, 1, 0) := by decide +kernel
theorem c_110_4 : pg_cd 110 4 = (43, 8, 48, 8, 0) := by decide +kernel
theorem c_110_7 : pg_cd 110 7 = (80, 90, 92, 0, 0) := by decide +kernel
theorem c_110_10 : pg_cd 110 10 = (46, 9, 96, 5, 0) := by decide +kernel
theorem c_110_13 : pg_cd 110 13 = (5, 1, 0, 0, 0) := by decide +kernel
theorem c_110_14 : pg_cd 110 14 = (45, 9, 25, 2, 0) := by decide +kernel
theorem c_110_17 : pg_cd 110 17 = (1, 1, 0, 0, 0) := by decide +kernel
theorem c_110_18 : pg_cd 110 18 = (81, 329, 99, 0, 0) := by decide +kernel
theorem c_110_21 : pg_cd 110 21 = (5, 1, 0, 0, 0) := by decide +kernel
theorem c_110_22 : pg_cd 110 22 = (45, 9, 29, 3, 0) := by decide +kernel
theorem c_110_25 : pg_cd 110 25 = (1, 1, 0, 0, 0) := by decide +kernel
theorem c_110_26 : pg_cd 110 26 = (81, 329, 99, 0, 0) := by decide +kernel
theorem c_110_29 : pg_cd 110 29 = (5, 1, 0, 0, 0) := by decide +kernel
theorem c_110_30 : pg_cd 110 30 = (45, 9, 32, 4, 0) := by decide +kernel
theorem c_110_33 : pg_cd 110 33 = (1, 1, 0, 0, (-1)) := by decide +kernel
theorem c_110_34 : pg_cd 110 34 = (81, 329, 99, 0, 0) := by decide +kernel
theorem c_110_37 : pg_cd 110 37 = (5, 1, 0, 1, 0) := by decide +kernel
theorem c_110_38 : pg_cd 110 38 = (45, 8, 105, 6, 0) := by decide +kernel
theorem c_110_41 : pg_cd 110 41 = (1, 1, 0, 0, 5) := by decide +kernel
theorem c_110_42 : pg_cd 110 42 = (1, 1, 0, 0, 0) := by decide +kernel
theorem c_110_43 : pg_cd 110 43 = (80, 59, 109, 0, 0) := by decide +kernel
theorem c_110_46 : pg_cd 110 46 = (5, 1, 0, 1, 0) := by decide +kernel
theorem c_110_47 : pg_cd 110 47 = (45, 8, 115, 2, 0) := by decide +kernel
theorem c_110_50 : pg_cd 110 50 = (1, 2, 0, 0, 7) := by decide +kernel
theorem c_110_52 : pg_cd 110 52 = (1, 1, 0, 0, 0) := by decide +kernel
theorem c_110_53 : pg_cd 110 53 = (80, 59, 109, 0, 0) := by decide +kernel
theorem c_110_56 : pg_cd 110 56 = (5, 1, 0, 1, 0) := by decide +kernel
theorem c_110_57 : pg_cd 110 57 = (45, 8, 115, 2, 0) := by decide +kernel
theorem c_110_60 : pg_cd 110 60 = (1, 2, 0, 0, 8) := by decide +kernel
theorem c_110_62 : pg_cd 110 62 = (1, 1, 0, 0, (-1)) := by decide +kernel
theorem c_110_63 : pg_cd 110 63 = (80, 59, 109, 0, 0) := by decide +kernel
theorem c_110_66 : pg_cd 110 66 = (5, 1, 0, 1, 0) := by decide +kernel
theorem c_110_67 : pg_cd 110 67 = (45, 8, 115, 2, 0) := by decide +kernel
theorem c_110_70 : pg_cd 110 70 = (1, 2, 0, 0, 9) := by decide +kernel
theorem c_110_72 : pg_cd 110 72 = (1, 1, 0, 0, 0) := by decide +kernel
theorem c_110_73 : pg_cd 110 73 = (80, 59, 109, 0, 0) := by decide +kernel
theorem c_110_76 : pg_cd 110 76 = (5, 1, 0, 1, 0) := by decide +kernel
theorem c_110_77 : pg_cd 110 77 = (45, 8, 115, 2, 0) := by decide +kernel
theorem c_110_80 : pg_cd 110 80 = (1, 2, 0, 0, 12) := by decide +kernel
theorem c_110_82 : pg_cd 110 82 = (1, 1, 0, 0, 0) := by decide +kernel
theorem c_110_83 : pg_cd 110 83 = (80, 59, 109, 0, 0) := by decide +kernel
theorem c_110_86 : pg_cd 110 86 = (94, 0, 0, 0, 0) := by decide +kernel
theorem mx_110 : pg_mx 110 = 2 := by decide +kernel
theorem m_110 {d : Nat} {h : ab_H} {Q : Option Value → ab_H → Prop} {x0 : Nat} {x1 : Nat} (t : wq d 110 0 [.ref x0, .ref x1] [] h Q) : wm d 110 [.ref x0, .ref x1] h Q := by
  unfold wm
  rw [mx_110]
  exact t
set_option maxRecDepth 20000 in
theorem t_110_0 {d : Nat} {h : ab_H} {Q : Option Value → ab_H → Prop} {x0 : Nat} {x1 : Nat} (t : ab_ok h x1 108 = true ∧ ab_ok h x1 108 = true ∧ wm d 90 [.ref x1, .int 0, .int (ab_i h x1 8)] h (fun r9 h9 => wq (d + 1) 110 10 [.ref x0, .ref x1] (r9.toList ++ [.ref x0]) h9 Q)) : wq (d + 1) 110 0 [.ref x0, .ref x1] [] h Q := by
  refine g5 c_110_0 rfl ?_
  refine g5 c_110_1 rfl ?_
  refine g1 c_110_2 k_0 ?_
  refine g5 c_110_3 rfl ?_
  obtain ⟨ho, t⟩ := t
  refine g43 c_110_4 ho ?_
  exact g80 (As := [.int 0, .int (ab_i h x1 8)]) (rest := [.ref x0]) c_110_7 rfl rfl (Nat.le_of_ble_eq_true rfl) (Nat.le_of_ble_eq_true rfl) t.1 t.2
set_option maxRecDepth 20000 in
theorem t_110_10 {d : Nat} {h : ab_H} {Q : Option Value → ab_H → Prop} {x0 : Nat} {x1 : Nat} {s0 : Nat} {s1 : Int32} (t : ab_ok h s0 109 = true ∧ ∀ h1 : ab_H, h1 = ab_pi h s0 5 s1 → ab_ok h1 x0 109 = true ∧ ∃ j2 : Nat, ab_r h1 x0 2 = some j2 ∧ wm d 329 [.ref j2, .int 0] h1 (fun r9 h9 => wq (d + 1) 110 21 [.ref x0, .ref x1] (r9.toList ++ []) h9 Q)) : wq (d + 1) 110 10 [.ref x0, .ref x1] [.int s1, .ref s0] h Q := by
  obtain ⟨ho, t⟩ := t
  refine g46 c_110_10 ho (fun h1 eh1 => ?_)
  have t := t h1 eh1
  refine g5 c_110_13 rfl ?_
  obtain ⟨ho, j2, hr, t⟩ := t
  refine g45 c_110_14 ho hr ?_
  refine g1 c_110_17 k_0 ?_
  exact g81 (As := [.ref j2, .int 0]) (rest := []) c_110_18 rfl rfl (Nat.le_of_ble_eq_true rfl) (Nat.le_of_ble_eq_true rfl) t
set_option maxRecDepth 20000 in
theorem t_110_21 {d : Nat} {h : ab_H} {Q : Option Value → ab_H → Prop} {x0 : Nat} {x1 : Nat} (t : ab_ok h x0 109 = true ∧ ∃ j1 : Nat, ab_r h x0 3 = some j1 ∧ wm d 329 [.ref j1, .int 0] h (fun r9 h9 => wq (d + 1) 110 29 [.ref x0, .ref x1] (r9.toList ++ []) h9 Q)) : wq (d + 1) 110 21 [.ref x0, .ref x1] [] h Q := by
  refine g5 c_110_21 rfl ?_
  obtain ⟨ho, j1, hr, t⟩ := t
  refine g45 c_110_22 ho hr ?_
  refine g1 c_110_25 k_0 ?_
  exact g81 (As := [.ref j1, .int 0]) (rest := []) c_110_26 rfl rfl (Nat.le_of_ble_eq_true rfl) (Nat.le_of_ble_eq_true rfl) t
set_option maxRecDepth 20000 in
theorem t_110_29 {d : Nat} {h : ab_H} {Q : Option Value → ab_H → Prop} {x0 : Nat} {x1 : Nat} (t : ab_ok h x0 109 = true ∧ ∃ j1 : Nat, ab_r h x0 4 = some j1 ∧ wm d 329 [.ref j1, .int (-1)] h (fun r9 h9 => wq (d + 1) 110 37 [.ref x0, .ref x1] (r9.toList ++ []) h9 Q)) : wq (d + 1) 110 29 [.ref x0, .ref x1] [] h Q := by
  refine g5 c_110_29 rfl ?_
  obtain ⟨ho, j1, hr, t⟩ := t
  refine g45 c_110_30 ho hr ?_
  refine g1 c_110_33 k_m1 ?_
  exact g81 (As := [.ref j1, .int (-1)]) (rest := []) c_110_34 rfl rfl (Nat.le_of_ble_eq_true rfl) (Nat.le_of_ble_eq_true rfl) t
set_option maxRecDepth 20000 in
theorem t_110_37 {d : Nat} {h : ab_H} {Q : Option Value → ab_H → Prop} {x0 : Nat} {x1 : Nat} (t : ab_ok h x1 108 = true ∧ ∃ j1 : Nat, ab_r h x1 6 = some j1 ∧ ab_ok h j1 104 = true ∧ wm d 59 [.ref j1, .int 5, .int 0] h (fun r9 h9 => wq (d + 1) 110 46 [.ref x0, .ref x1] (r9.toList ++ []) h9 Q)) : wq (d + 1) 110 37 [.ref x0, .ref x1] [] h Q := by
  refine g5 c_110_37 rfl ?_
  obtain ⟨ho, j1, hr, t⟩ := t
  refine g45 c_110_38 ho hr ?_
  refine g1 c_110_41 k_5 ?_
  refine g1 c_110_42 k_0 ?_
  exact g80 (As := [.int 5, .int 0]) (rest := []) c_110_43 rfl rfl (Nat.le_of_ble_eq_true rfl) (Nat.le_of_ble_eq_true rfl) t.1 t.2
set_option maxRecDepth 20000 in
theorem t_110_46 {d : Nat} {h : ab_H} {Q : Option Value → ab_H → Prop} {x0 : Nat} {x1 : Nat} (t : ab_ok h x1 108 = true ∧ ∃ j1 : Nat, ab_r h x1 2 = some j1 ∧ ab_ok h j1 104 = true ∧ wm d 59 [.ref j1, .int 7, .int 0] h (fun r9 h9 => wq (d + 1) 110 56 [.ref x0, .ref x1] (r9.toList ++ []) h9 Q)) : wq (d + 1) 110 46 [.ref x0, .ref x1] [] h Q := by
  refine g5 c_110_46 rfl ?_
  obtain ⟨ho, j1, hr, t⟩ := t
  refine g45 c_110_47 ho hr ?_
  refine g1 c_110_50 k_7 ?_
  refine g1 c_110_52 k_0 ?_
  exact g80 (As := [.int 7, .int 0]) (rest := []) c_110_53 rfl rfl (Nat.le_of_ble_eq_true rfl) (Nat.le_of_ble_eq_true rfl) t.1 t.2
set_option maxRecDepth 20000 in
theorem t_110_56 {d : Nat} {h : ab_H} {Q : Option Value → ab_H → Prop} {x0 : Nat} {x1 : Nat} (t : ab_ok h x1 108 = true ∧ ∃ j1 : Nat, ab_r h x1 2 = some j1 ∧ ab_ok h j1 104 = true ∧ wm d 59 [.ref j1, .int 8, .int (-1)] h (fun r9 h9 => wq (d + 1) 110 66 [.ref x0, .ref x1] (r9.toList ++ []) h9 Q)) : wq (d + 1) 110 56 [.ref x0, .ref x1] [] h Q := by
  refine g5 c_110_56 rfl ?_
  obtain ⟨ho, j1, hr, t⟩ := t
  refine g45 c_110_57 ho hr ?_
  refine g1 c_110_60 k_8 ?_
  refine g1 c_110_62 k_m1 ?_
  exact g80 (As := [.int 8, .int (-1)]) (rest := []) c_110_63 rfl rfl (Nat.le_of_ble_eq_true rfl) (Nat.le_of_ble_eq_true rfl) t.1 t.2
set_option maxRecDepth 20000 in
theorem t_110_66 {d : Nat} {h : ab_H} {Q : Option Value → ab_H → Prop} {x0 : Nat} {x1 : Nat} (t : ab_ok h x1 108 = true ∧ ∃ j1 : Nat, ab_r h x1 2 = some j1 ∧ ab_ok h j1 104 = true ∧ wm d 59 [.ref j1, .int 9, .int 0] h (fun r9 h9 => wq (d + 1) 110 76 [.ref x0, .ref x1] (r9.toList ++ []) h9 Q)) : wq (d + 1) 110 66 [.ref x0, .ref x1] [] h Q := by
  refine g5 c_110_66 rfl ?_
  obtain ⟨ho, j1, hr, t⟩ := t
  refine g45 c_110_67 ho hr ?_
  refine g1 c_110_70 k_9 ?_
  refine g1 c_110_72 k_0 ?_
  exact g80 (As := [.int 9, .int 0]) (rest := []) c_110_73 rfl rfl (Nat.le_of_ble_eq_true rfl) (Nat.le_of_ble_eq_true rfl) t.1 t.2
set_option maxRecDepth 20000 in
theorem t_110_76 {d : Nat} {h : ab_H} {Q : Option Value → ab_H → Prop} {x0 : Nat} {x1 : Nat} (t : ab_ok h x1 108 = true ∧ ∃ j1 : Nat, ab_r h x1 2 = some j1 ∧ ab_ok h j1 104 = true ∧ wm d 59 [.ref j1, .int 12, .int 0] h (fun r9 h9 => wq (d + 1) 110 86 [.ref x0, .ref x1] (r9.toList ++ []) h9 Q)) : wq (d + 1) 110 76 [.ref x0, .ref x1] [] h Q := by
  refine g5 c_110_76 rfl ?_
  obtain ⟨ho, j1, hr, t⟩ := t
  refine g45 c_110_77 ho hr ?_
  refine g1 c_110_80 k_12 ?_
  refine g1 c_110_82 k_0 ?_
  exact g80 (As := [.int 12, .int 0]) (rest := []) c_110_83 rfl rfl (Nat.le_of_ble_eq_true rfl) (Nat.le_of_ble_eq_true rfl) t.1 t.2
set_option maxRecDepth 20000 in
theorem t_110_86 {d : Nat} {h : ab_H} {Q : Option Value → ab_H → Prop} {x0 : Nat} {x1 : Nat} (t : Q none h) : wq d 110 86 [.ref x0, .ref x1] [] h Q := by
  exact g94 c_110_86 t
-- method 111: MillTown$Week.canRun(LMillTown$Town;I)Z
theorem c_111_0 : pg_cd 111 0 = (5, 1, 0, 0, 0) := by decide +kernel
theorem c_111_1 : pg_cd 111 1 = (45, 8, 115, 2, 0) := by decide +kernel
theorem c_111_4 : pg_cd 111 4 = (3, 1, 0, 1, 0) := by decide +kernel
theorem c_111_5 : pg_cd 111 5 = (1, 1, 0, 0, 4) := by decide +kernel
theorem c_111_6 : pg_cd 111 6 = (80, 55, 118, 0, 0) := by decide +kernel
theorem c_111_9 : pg_cd 111 9 = (36, 3, 0, 1, 19) := by decide +kernel
theorem c_111_12 : pg_cd 111 12 = (5, 1, 0, 0, 0) := by decide +kernel
theorem c_111_13 : pg_cd 111 13 = (45, 8, 115, 2, 0) := by decide +kernel
theorem c_111_16 : pg_cd 111 16 = (3, 1, 0, 1, 0) := by decide +kernel
theorem c_111_17 : pg_cd 111 17 = (1, 1, 0, 0, 5) := by decide +kernel
theorem c_111_18 : pg_cd 111 18 = (80, 55, 118, 0, 0) := by decide +kernel
theorem c_111_21 : pg_cd 111 21 = (36, 3, 0, 1, 7) := by decide +kernel
theorem c_111_24 : pg_cd 111 24 = (1, 1, 0, 0, 1) := by decide +kernel
theorem c_111_25 : pg_cd 111 25 = (38, 3, 0, 0, 4) := by decide +kernel
theorem c_111_28 : pg_cd 111 28 = (1, 1, 0, 0, 0) := by decide +kernel
theorem c_111_29 : pg_cd 111 29 = (91, 0, 0, 0, 0) := by decide +kernel
theorem mx_111 : pg_mx 111 = 2 := by decide +kernel
theorem m_111 {d : Nat} {h : ab_H} {Q : Option Value → ab_H → Prop} {x0 : Nat} {x1 : Int32} (t : wq d 111 0 [.ref x0, .int x1] [] h Q) : wm d 111 [.ref x0, .int x1] h Q := by
  unfold wm
  rw [mx_111]
  exact t
set_option maxRecDepth 20000 in
theorem t_111_0 {d : Nat} {h : ab_H} {Q : Option Value → ab_H → Prop} {x0 : Nat} {x1 : Int32} (t : ab_ok h x0 108 = true ∧ ∃ j1 : Nat, ab_r h x0 2 = some j1 ∧ ab_ok h j1 104 = true ∧ wm d 55 [.ref j1, .int x1, .int 4] h (fun r9 h9 => wq (d + 1) 111 9 [.ref x0, .int x1] (r9.toList ++ []) h9 Q)) : wq (d + 1) 111 0 [.ref x0, .int x1] [] h Q := by
  refine g5 c_111_0 rfl ?_
  obtain ⟨ho, j1, hr, t⟩ := t
  refine g45 c_111_1 ho hr ?_
  refine g3 c_111_4 rfl ?_
  refine g1 c_111_5 k_4 ?_
  exact g80 (As := [.int x1, .int 4]) (rest := []) c_111_6 rfl rfl (Nat.le_of_ble_eq_true rfl) (Nat.le_of_ble_eq_true rfl) t.1 t.2
set_option maxRecDepth 20000 in
theorem t_111_9 {d : Nat} {h : ab_H} {Q : Option Value → ab_H → Prop} {x0 : Nat} {x1 : Int32} {s0 : Int32} (t : if s0 = 0 then (ab_ok h x0 108 = true ∧ ∃ j1 : Nat, ab_r h x0 2 = some j1 ∧ ab_ok h j1 104 = true ∧ wm d 55 [.ref j1, .int x1, .int 5] h (fun r9 h9 => wq (d + 1) 111 21 [.ref x0, .int x1] (r9.toList ++ []) h9 Q)) else (Q (some (.int 0)) h)) : wq (d + 1) 111 9 [.ref x0, .int x1] [.int s0] h Q := by
  refine gif c_111_9 (gbn t (ab_c1 _ _) rfl (fun hc t => ?_) (fun hc t => ?_))
  · refine g5 c_111_12 rfl ?_
    obtain ⟨ho, j1, hr, t⟩ := t
    refine g45 c_111_13 ho hr ?_
    refine g3 c_111_16 rfl ?_
    refine g1 c_111_17 k_5 ?_
    exact g80 (As := [.int x1, .int 5]) (rest := []) c_111_18 rfl rfl (Nat.le_of_ble_eq_true rfl) (Nat.le_of_ble_eq_true rfl) t.1 t.2
  · refine g1 c_111_28 k_0 ?_
    exact g91 c_111_29 ⟨by decide, t⟩
set_option maxRecDepth 20000 in
theorem t_111_21 {d : Nat} {h : ab_H} {Q : Option Value → ab_H → Prop} {x0 : Nat} {x1 : Int32} {s0 : Int32} (t : if s0 = 0 then (Q (some (.int 1)) h) else (Q (some (.int 0)) h)) : wq d 111 21 [.ref x0, .int x1] [.int s0] h Q := by
  refine gif c_111_21 (gbn t (ab_c1 _ _) rfl (fun hc t => ?_) (fun hc t => ?_))
  · refine g1 c_111_24 k_1 ?_
    refine g38 c_111_25 rfl ?_
    exact g91 c_111_29 ⟨by decide, t⟩
  · refine g1 c_111_28 k_0 ?_
    exact g91 c_111_29 ⟨by decide, t⟩
-- method 112: MillTown$Week.isOpenOrder(LMillTown$Town;I)Z
theorem c_112_0 : pg_cd 112 0 = (5, 1, 0, 0, 0) := by decide +kernel
theorem c_112_1 : pg_cd 112 1 = (45, 8, 105, 6, 0) := by decide +kernel
theorem c_112_4 : pg_cd 112 4 = (8, 1, 0, 2, 0) := by decide +kernel
theorem c_112_5 : pg_cd 112 5 = (5, 1, 0, 2, 0) := by decide +kernel
theorem c_112_6 : pg_cd 112 6 = (3, 1, 0, 1, 0) := by decide +kernel
theorem c_112_7 : pg_cd 112 7 = (1, 1, 0, 0, 3) := by decide +kernel
theorem c_112_8 : pg_cd 112 8 = (80, 55, 118, 0, 0) := by decide +kernel
theorem c_112_11 : pg_cd 112 11 = (5, 1, 0, 0, 0) := by decide +kernel
theorem c_112_12 : pg_cd 112 12 = (43, 8, 48, 8, 0) := by decide +kernel
theorem c_112_15 : pg_cd 112 15 = (37, 3, 0, 4, 35) := by decide +kernel
theorem c_112_18 : pg_cd 112 18 = (5, 1, 0, 0, 0) := by decide +kernel
theorem c_112_19 : pg_cd 112 19 = (43, 8, 48, 8, 0) := by decide +kernel
theorem c_112_22 : pg_cd 112 22 = (5, 1, 0, 2, 0) := by decide +kernel
theorem c_112_23 : pg_cd 112 23 = (3, 1, 0, 1, 0) := by decide +kernel
theorem c_112_24 : pg_cd 112 24 = (1, 1, 0, 0, 4) := by decide +kernel
theorem c_112_25 : pg_cd 112 25 = (80, 55, 118, 0, 0) := by decide +kernel
theorem c_112_28 : pg_cd 112 28 = (37, 3, 0, 4, 22) := by decide +kernel
theorem c_112_31 : pg_cd 112 31 = (5, 1, 0, 2, 0) := by decide +kernel
theorem c_112_32 : pg_cd 112 32 = (3, 1, 0, 1, 0) := by decide +kernel
theorem c_112_33 : pg_cd 112 33 = (1, 1, 0, 0, 1) := by decide +kernel
theorem c_112_34 : pg_cd 112 34 = (80, 55, 118, 0, 0) := by decide +kernel
theorem c_112_37 : pg_cd 112 37 = (5, 1, 0, 2, 0) := by decide +kernel
theorem c_112_38 : pg_cd 112 38 = (3, 1, 0, 1, 0) := by decide +kernel
theorem c_112_39 : pg_cd 112 39 = (1, 1, 0, 0, 5) := by decide +kernel
theorem c_112_40 : pg_cd 112 40 = (80, 55, 118, 0, 0) := by decide +kernel
theorem c_112_43 : pg_cd 112 43 = (37, 3, 0, 5, 7) := by decide +kernel
theorem c_112_46 : pg_cd 112 46 = (1, 1, 0, 0, 1) := by decide +kernel
theorem c_112_47 : pg_cd 112 47 = (38, 3, 0, 0, 4) := by decide +kernel
theorem c_112_50 : pg_cd 112 50 = (1, 1, 0, 0, 0) := by decide +kernel
theorem c_112_51 : pg_cd 112 51 = (91, 0, 0, 0, 0) := by decide +kernel
theorem mx_112 : pg_mx 112 = 3 := by decide +kernel
theorem m_112 {d : Nat} {h : ab_H} {Q : Option Value → ab_H → Prop} {x0 : Nat} {x1 : Int32} (t : wq d 112 0 [.ref x0, .int x1, .retAddr 0] [] h Q) : wm d 112 [.ref x0, .int x1] h Q := by
  unfold wm
  rw [mx_112]
  exact t
set_option maxRecDepth 20000 in
theorem t_112_0 {d : Nat} {h : ab_H} {Q : Option Value → ab_H → Prop} {x0 : Nat} {x1 : Int32} (t : ab_ok h x0 108 = true ∧ ∃ j1 : Nat, ab_r h x0 6 = some j1 ∧ ab_ok h j1 104 = true ∧ wm d 55 [.ref j1, .int x1, .int 3] h (fun r9 h9 => wq (d + 1) 112 11 [.ref x0, .int x1, .ref j1] (r9.toList ++ []) h9 Q)) : wq (d + 1) 112 0 [.ref x0, .int x1, .retAddr 0] [] h Q := by
  refine g5 c_112_0 rfl ?_
  obtain ⟨ho, j1, hr, t⟩ := t
  refine g45 c_112_1 ho hr ?_
  refine g8 (L' := [.ref x0, .int x1, .ref j1]) c_112_4 rfl ?_
  refine g5 c_112_5 rfl ?_
  refine g3 c_112_6 rfl ?_
  refine g1 c_112_7 k_3 ?_
  exact g80 (As := [.int x1, .int 3]) (rest := []) c_112_8 rfl rfl (Nat.le_of_ble_eq_true rfl) (Nat.le_of_ble_eq_true rfl) t.1 t.2
set_option maxRecDepth 20000 in
theorem t_112_11 {d : Nat} {h : ab_H} {Q : Option Value → ab_H → Prop} {x0 : Nat} {x1 : Int32} {x2 : Nat} {s0 : Int32} (t : ab_ok h x0 108 = true ∧ if (ab_i h x0 8) < s0 then (Q (some (.int 0)) h) else (ab_ok h x0 108 = true ∧ ab_ok h x2 104 = true ∧ wm d 55 [.ref x2, .int x1, .int 4] h (fun r9 h9 => wq (d + 1) 112 28 [.ref x0, .int x1, .ref x2] (r9.toList ++ [.int (ab_i h x0 8)]) h9 Q))) : wq (d + 1) 112 11 [.ref x0, .int x1, .ref x2] [.int s0] h Q := by
  refine g5 c_112_11 rfl ?_
  obtain ⟨ho, t⟩ := t
  refine g43 c_112_12 ho ?_
  refine gcm c_112_15 (gbr t rfl rfl (fun hc t => ?_) (fun hc t => ?_))
  · refine g1 c_112_50 k_0 ?_
    exact g91 c_112_51 ⟨by decide, t⟩
  · refine g5 c_112_18 rfl ?_
    obtain ⟨ho, t⟩ := t
    refine g43 c_112_19 ho ?_
    refine g5 c_112_22 rfl ?_
    refine g3 c_112_23 rfl ?_
    refine g1 c_112_24 k_4 ?_
    exact g80 (As := [.int x1, .int 4]) (rest := [.int (ab_i h x0 8)]) c_112_25 rfl rfl (Nat.le_of_ble_eq_true rfl) (Nat.le_of_ble_eq_true rfl) t.1 t.2
set_option maxRecDepth 20000 in
theorem t_112_28 {d : Nat} {h : ab_H} {Q : Option Value → ab_H → Prop} {x0 : Nat} {x1 : Int32} {x2 : Nat} {s0 : Int32} {s1 : Int32} (t : if s1 < s0 then (Q (some (.int 0)) h) else (ab_ok h x2 104 = true ∧ wm d 55 [.ref x2, .int x1, .int 1] h (fun r9 h9 => wq (d + 1) 112 37 [.ref x0, .int x1, .ref x2] (r9.toList ++ []) h9 Q))) : wq (d + 1) 112 28 [.ref x0, .int x1, .ref x2] [.int s1, .int s0] h Q := by
  refine gcm c_112_28 (gbr t rfl rfl (fun hc t => ?_) (fun hc t => ?_))
  · refine g1 c_112_50 k_0 ?_
    exact g91 c_112_51 ⟨by decide, t⟩
  · refine g5 c_112_31 rfl ?_
    refine g3 c_112_32 rfl ?_
    refine g1 c_112_33 k_1 ?_
    exact g80 (As := [.int x1, .int 1]) (rest := []) c_112_34 rfl rfl (Nat.le_of_ble_eq_true rfl) (Nat.le_of_ble_eq_true rfl) t.1 t.2
set_option maxRecDepth 20000 in
theorem t_112_37 {d : Nat} {h : ab_H} {Q : Option Value → ab_H → Prop} {x0 : Nat} {x1 : Int32} {x2 : Nat} {s0 : Int32} (t : ab_ok h x2 104 = true ∧ wm d 55 [.ref x2, .int x1, .int 5] h (fun r9 h9 => wq (d + 1) 112 43 [.ref x0, .int x1, .ref x2] (r9.toList ++ [.int s0]) h9 Q)) : wq (d + 1) 112 37 [.ref x0, .int x1, .ref x2] [.int s0] h Q := by
  refine g5 c_112_37 rfl ?_
  refine g3 c_112_38 rfl ?_
  refine g1 c_112_39 k_5 ?_
  exact g80 (As := [.int x1, .int 5]) (rest := [.int s0]) c_112_40 rfl rfl (Nat.le_of_ble_eq_true rfl) (Nat.le_of_ble_eq_true rfl) t.1 t.2
set_option maxRecDepth 20000 in
theorem t_112_43 {d : Nat} {h : ab_H} {Q : Option Value → ab_H → Prop} {x0 : Nat} {x1 : Int32} {x2 : Nat} {s0 : Int32} {s1 : Int32} (t : if s0 ≤ s1 then (Q (some (.int 0)) h) else (Q (some (.int 1)) h)) : wq d 112 43 [.ref x0, .int x1, .ref x2] [.int s1, .int s0] h Q := by
  refine gcm c_112_43 (gbr t rfl rfl (fun hc t => ?_) (fun hc t => ?_))
  · refine g1 c_112_50 k_0 ?_
    exact g91 c_112_51 ⟨by decide, t⟩
  · refine g1 c_112_46 k_1 ?_
    refine g38 c_112_47 rfl ?_
    exact g91 c_112_51 ⟨by decide, t⟩
-- method 113: MillTown$Week.fillPays(LMillTown$Town;)V
theorem c_113_0 : pg_cd 113 0 = (1, 1, 0, 0, 0) := by decide +kernel
theorem c_113_1 : pg_cd 113 1 = (6, 1, 0, 2, 0) := by decide +kernel
theorem c_113_2 : pg_cd 113 2 = (3, 1, 0, 2, 0) := by decide +kernel
theorem c_113_3 : pg_cd 113 3 = (5, 1, 0, 1, 0) := by decide +kernel
theorem c_113_4 : pg_cd 113 4 = (45, 8, 105, 6, 0) := by decide +kernel
theorem c_113_7 : pg_cd 113 7 = (43, 4, 121, 2, 0) := by decide +kernel
theorem c_113_10 : pg_cd 113 10 = (37, 3, 0, 3, 118) := by decide +kernel
theorem c_113_13 : pg_cd 113 13 = (5, 1, 0, 1, 0) := by decide +kernel
theorem c_113_14 : pg_cd 113 14 = (45, 8, 105, 6, 0) := by decide +kernel
theorem c_113_17 : pg_cd 113 17 = (3, 1, 0, 2, 0) := by decide +kernel
theorem c_113_18 : pg_cd 113 18 = (1, 1, 0, 0, 0) := by decide +kernel
theorem c_113_19 : pg_cd 113 19 = (80, 55, 118, 0, 0) := by decide +kernel
theorem c_113_22 : pg_cd 113 22 = (6, 1, 0, 3, 0) := by decide +kernel
theorem c_113_23 : pg_cd 113 23 = (1, 1, 0, 0, 0) := by decide +kernel
theorem c_113_24 : pg_cd 113 24 = (6, 2, 0, 4, 0) := by decide +kernel
theorem c_113_26 : pg_cd 113 26 = (5, 1, 0, 1, 0) := by decide +kernel
theorem c_113_27 : pg_cd 113 27 = (3, 1, 0, 2, 0) := by decide +kernel
theorem c_113_28 : pg_cd 113 28 = (81, 112, 124, 0, 0) := by decide +kernel
theorem c_113_31 : pg_cd 113 31 = (36, 3, 0, 0, 91) := by decide +kernel
theorem c_113_34 : pg_cd 113 34 = (3, 2, 0, 4, 0) := by decide +kernel
theorem c_113_36 : pg_cd 113 36 = (5, 1, 0, 1, 0) := by decide +kernel
theorem c_113_37 : pg_cd 113 37 = (45, 8, 115, 2, 0) := by decide +kernel
theorem c_113_40 : pg_cd 113 40 = (43, 4, 121, 2, 0) := by decide +kernel
theorem c_113_43 : pg_cd 113 43 = (37, 3, 0, 3, 79) := by decide +kernel
theorem c_113_46 : pg_cd 113 46 = (3, 2, 0, 4, 0) := by decide +kernel
theorem c_113_48 : pg_cd 113 48 = (1, 2, 0, 0, 6) := by decide +kernel
theorem c_113_50 : pg_cd 113 50 = (12, 1, 0, 0, 0) := by decide +kernel
theorem c_113_51 : pg_cd 113 51 = (3, 1, 0, 3, 0) := by decide +kernel
theorem c_113_52 : pg_cd 113 52 = (10, 1, 0, 0, 0) := by decide +kernel
theorem c_113_53 : pg_cd 113 53 = (6, 2, 0, 5, 0) := by decide +kernel
theorem c_113_55 : pg_cd 113 55 = (3, 2, 0, 5, 0) := by decide +kernel
theorem c_113_57 : pg_cd 113 57 = (36, 3, 0, 2, 59) := by decide +kernel
theorem c_113_60 : pg_cd 113 60 = (3, 2, 0, 5, 0) := by decide +kernel
theorem c_113_62 : pg_cd 113 62 = (5, 1, 0, 0, 0) := by decide +kernel
theorem c_113_63 : pg_cd 113 63 = (45, 9, 32, 4, 0) := by decide +kernel
theorem c_113_66 : pg_cd 113 66 = (58, 0, 0, 0, 0) := by decide +kernel
theorem c_113_67 : pg_cd 113 67 = (37, 3, 0, 3, 49) := by decide +kernel
theorem c_113_70 : pg_cd 113 70 = (5, 1, 0, 0, 0) := by decide +kernel
theorem c_113_71 : pg_cd 113 71 = (45, 9, 32, 4, 0) := by decide +kernel
theorem c_113_74 : pg_cd 113 74 = (3, 2, 0, 5, 0) := by decide +kernel
theorem c_113_76 : pg_cd 113 76 = (50, 1, 0, 0, 0) := by decide +kernel
theorem c_113_77 : pg_cd 113 77 = (1, 1, 0, 0, (-1)) := by decide +kernel
theorem c_113_78 : pg_cd 113 78 = (37, 3, 0, 1, 38) := by decide +kernel
theorem c_113_81 : pg_cd 113 81 = (5, 1, 0, 1, 0) := by decide +kernel
theorem c_113_82 : pg_cd 113 82 = (3, 2, 0, 4, 0) := by decide +kernel
theorem c_113_84 : pg_cd 113 84 = (81, 111, 128, 0, 0) := by decide +kernel
theorem c_113_87 : pg_cd 113 87 = (36, 3, 0, 0, 29) := by decide +kernel
theorem c_113_90 : pg_cd 113 90 = (5, 1, 0, 0, 0) := by decide +kernel
theorem c_113_91 : pg_cd 113 91 = (45, 9, 32, 4, 0) := by decide +kernel
theorem c_113_94 : pg_cd 113 94 = (3, 2, 0, 5, 0) := by decide +kernel
theorem c_113_96 : pg_cd 113 96 = (5, 1, 0, 0, 0) := by decide +kernel
theorem c_113_97 : pg_cd 113 97 = (45, 9, 12, 0, 0) := by decide +kernel
theorem c_113_100 : pg_cd 113 100 = (5, 1, 0, 1, 0) := by decide +kernel
theorem c_113_101 : pg_cd 113 101 = (3, 1, 0, 3, 0) := by decide +kernel
theorem c_113_102 : pg_cd 113 102 = (3, 2, 0, 4, 0) := by decide +kernel
theorem c_113_104 : pg_cd 113 104 = (5, 1, 0, 1, 0) := by decide +kernel
theorem c_113_105 : pg_cd 113 105 = (43, 8, 48, 8, 0) := by decide +kernel
theorem c_113_108 : pg_cd 113 108 = (5, 1, 0, 1, 0) := by decide +kernel
theorem c_113_109 : pg_cd 113 109 = (43, 8, 48, 8, 0) := by decide +kernel
theorem c_113_112 : pg_cd 113 112 = (80, 19, 131, 0, 0) := by decide +kernel
theorem c_113_115 : pg_cd 113 115 = (54, 1, 0, 0, 0) := by decide +kernel
theorem c_113_116 : pg_cd 113 116 = (9, 3, 0, 4, 1) := by decide +kernel
theorem c_113_119 : pg_cd 113 119 = (38, 3, 0, 0, (-93)) := by decide +kernel
theorem c_113_122 : pg_cd 113 122 = (9, 3, 0, 2, 1) := by decide +kernel
theorem c_113_125 : pg_cd 113 125 = (38, 3, 0, 0, (-123)) := by decide +kernel
theorem c_113_128 : pg_cd 113 128 = (94, 0, 0, 0, 0) := by decide +kernel
theorem mx_113 : pg_mx 113 = 6 := by decide +kernel
theorem m_113 {d : Nat} {h : ab_H} {Q : Option Value → ab_H → Prop} {x0 : Nat} {x1 : Nat} (t : wq d 113 0 [.ref x0, .ref x1, .retAddr 0, .retAddr 0, .retAddr 0, .retAddr 0] [] h Q) : wm d 113 [.ref x0, .ref x1] h Q := by
  unfold wm
  rw [mx_113]
  exact t
set_option maxRecDepth 20000 in
theorem t_113_0 {d : Nat} {h : ab_H} {Q : Option Value → ab_H → Prop} {x0 : Nat} {x1 : Nat} (t : wq d 113 2 [.ref x0, .ref x1, .int 0, .retAddr 0, .retAddr 0, .retAddr 0] [] h Q) : wq d 113 0 [.ref x0, .ref x1, .retAddr 0, .retAddr 0, .retAddr 0, .retAddr 0] [] h Q := by
  refine g1 c_113_0 k_0 ?_
  refine g6 (L' := [.ref x0, .ref x1, .int 0, .retAddr 0, .retAddr 0, .retAddr 0]) c_113_1 rfl ?_
  exact t
set_option maxRecDepth 20000 in
theorem t_113_2 {d : Nat} {h : ab_H} {Q : Option Value → ab_H → Prop} {x0 : Nat} {x1 : Nat} {x2 : Int32} (t : ab_ok h x1 108 = true ∧ ∃ j1 : Nat, ab_r h x1 6 = some j1 ∧ ab_ok h j1 104 = true ∧ if (ab_i h j1 2) ≤ x2 then (Q none h) else (ab_ok h x1 108 = true ∧ ∃ j2 : Nat, ab_r h x1 6 = some j2 ∧ ab_ok h j2 104 = true ∧ wm d 55 [.ref j2, .int x2, .int 0] h (fun r9 h9 => wq (d + 1) 113 22 [.ref x0, .ref x1, .int x2, .retAddr 0, .retAddr 0, .retAddr 0] (r9.toList ++ []) h9 Q))) : wq (d + 1) 113 2 [.ref x0, .ref x1, .int x2, .retAddr 0, .retAddr 0, .retAddr 0] [] h Q := by
  refine g3 c_113_2 rfl ?_
  refine g5 c_113_3 rfl ?_
  obtain ⟨ho, j1, hr, t⟩ := t
  refine g45 c_113_4 ho hr ?_
  obtain ⟨ho, t⟩ := t
  refine g43 c_113_7 ho ?_
  refine gcm c_113_10 (gbr t rfl rfl (fun hc t => ?_) (fun hc t => ?_))
  · exact g94 c_113_128 t
  · refine g5 c_113_13 rfl ?_
    obtain ⟨ho, j2, hr, t⟩ := t
    refine g45 c_113_14 ho hr ?_
    refine g3 c_113_17 rfl ?_
    refine g1 c_113_18 k_0 ?_
    exact g80 (As := [.int x2, .int 0]) (rest := []) c_113_19 rfl rfl (Nat.le_of_ble_eq_true rfl) (Nat.le_of_ble_eq_true rfl) t.1 t.2
set_option maxRecDepth 20000 in
theorem t_113_22 {d : Nat} {h : ab_H} {Q : Option Value → ab_H → Prop} {x0 : Nat} {x1 : Nat} {x2 : Int32} {s0 : Int32} (t : wq d 113 26 [.ref x0, .ref x1, .int x2, .int s0, .int 0, .retAddr 0] [] h Q) : wq d 113 22 [.ref x0, .ref x1, .int x2, .retAddr 0, .retAddr 0, .retAddr 0] [.int s0] h Q := by
  refine g6 (L' := [.ref x0, .ref x1, .int x2, .int s0, .retAddr 0, .retAddr 0]) c_113_22 rfl ?_
  refine g1 c_113_23 k_0 ?_
  refine g6 (L' := [.ref x0, .ref x1, .int x2, .int s0, .int 0, .retAddr 0]) c_113_24 rfl ?_
  exact t
set_option maxRecDepth 20000 in
theorem t_113_26 {d : Nat} {h : ab_H} {Q : Option Value → ab_H → Prop} {x0 : Nat} {x1 : Nat} {x2 : Int32} {x3 : Int32} {x4 : Int32} (t : wm d 112 [.ref x1, .int x2] h (fun r9 h9 => wq (d + 1) 113 31 [.ref x0, .ref x1, .int x2, .int x3, .int x4, .retAddr 0] (r9.toList ++ []) h9 Q)) : wq (d + 1) 113 26 [.ref x0, .ref x1, .int x2, .int x3, .int x4, .retAddr 0] [] h Q := by
  refine g5 c_113_26 rfl ?_
  refine g3 c_113_27 rfl ?_
  exact g81 (As := [.ref x1, .int x2]) (rest := []) c_113_28 rfl rfl (Nat.le_of_ble_eq_true rfl) (Nat.le_of_ble_eq_true rfl) t
set_option maxRecDepth 20000 in
theorem t_113_31 {d : Nat} {h : ab_H} {Q : Option Value → ab_H → Prop} {x0 : Nat} {x1 : Nat} {x2 : Int32} {x3 : Int32} {x4 : Int32} {s0 : Int32} (t : if s0 = 0 then (wq (d + 1) 113 2 [.ref x0, .ref x1, .int (x2 + 1), .int x3, .int x4, .retAddr 0] [] h Q) else (ab_ok h x1 108 = true ∧ ∃ j1 : Nat, ab_r h x1 2 = some j1 ∧ ab_ok h j1 104 = true ∧ if (ab_i h j1 2) ≤ x4 then (wq (d + 1) 113 2 [.ref x0, .ref x1, .int (x2 + 1), .int x3, .int x4, .retAddr 0] [] h Q) else (if ((x4 * 6) + x3) < 0 then (wq (d + 1) 113 26 [.ref x0, .ref x1, .int x2, .int x3, .int (x4 + 1), .int ((x4 * 6) + x3)] [] h Q) else (ab_ok h x0 109 = true ∧ ∃ j2 : Nat, ab_r h x0 4 = some j2 ∧ ((j2 = 0 ∧ 0 = 0) ∨ ab_ok h j2 0 = true) ∧ if (Int32.ofNat (ab_s h j2).2) ≤ ((x4 * 6) + x3) then (wq (d + 1) 113 26 [.ref x0, .ref x1, .int x2, .int x3, .int (x4 + 1), .int ((x4 * 6) + x3)] [] h Q) else (ab_ok h x0 109 = true ∧ ∃ j3 : Nat, ab_r h x0 4 = some j3 ∧ ((j3 = 0 ∨ ab_ok h j3 0 = true) ∧ ab_in ((x4 * 6) + x3) (ab_s h j3).2 = true) ∧ if (ab_i h j3 (Int32.toNatClampNeg ((x4 * 6) + x3))) = (-1) then (wm d 111 [.ref x1, .int x4] h (fun r9 h9 => wq (d + 1) 113 87 [.ref x0, .ref x1, .int x2, .int x3, .int x4, .int ((x4 * 6) + x3)] (r9.toList ++ []) h9 Q)) else (wq (d + 1) 113 26 [.ref x0, .ref x1, .int x2, .int x3, .int (x4 + 1), .int ((x4 * 6) + x3)] [] h Q)))))) : wq (d + 1) 113 31 [.ref x0, .ref x1, .int x2, .int x3, .int x4, .retAddr 0] [.int s0] h Q := by
  refine gif c_113_31 (gbr t rfl rfl (fun hc t => ?_) (fun hc t => ?_))
  · refine g9 (L' := [.ref x0, .ref x1, .int (x2 + 1), .int x3, .int x4, .retAddr 0]) c_113_122 rfl k_1 rfl ?_
    refine g38 c_113_125 rfl ?_
    exact t
  · refine g3 c_113_34 rfl ?_
    refine g5 c_113_36 rfl ?_
    obtain ⟨ho, j1, hr, t⟩ := t
    refine g45 c_113_37 ho hr ?_
    obtain ⟨ho, t⟩ := t
    refine g43 c_113_40 ho ?_
    refine gcm c_113_43 (gbr t rfl rfl (fun hc t => ?_) (fun hc t => ?_))
    · refine g9 (L' := [.ref x0, .ref x1, .int (x2 + 1), .int x3, .int x4, .retAddr 0]) c_113_122 rfl k_1 rfl ?_
      refine g38 c_113_125 rfl ?_
      exact t
    · refine g3 c_113_46 rfl ?_
      refine g1 c_113_48 k_6 ?_
      refine g12 c_113_50 ?_
      refine g3 c_113_51 rfl ?_
      refine g10 c_113_52 ?_
      refine g6 (L' := [.ref x0, .ref x1, .int x2, .int x3, .int x4, .int ((x4 * 6) + x3)]) c_113_53 rfl ?_
      refine g3 c_113_55 rfl ?_
      refine gif c_113_57 (gbr t rfl rfl (fun hc t => ?_) (fun hc t => ?_))
      · refine g9 (L' := [.ref x0, .ref x1, .int x2, .int x3, .int (x4 + 1), .int ((x4 * 6) + x3)]) c_113_116 rfl k_1 rfl ?_
        refine g38 c_113_119 rfl ?_
        exact t
      · refine g3 c_113_60 rfl ?_
        refine g5 c_113_62 rfl ?_
        obtain ⟨ho, j2, hr, t⟩ := t
        refine g45 c_113_63 ho hr ?_
        obtain ⟨ho, t⟩ := t
        refine g58 c_113_66 ho ?_
        refine gcm c_113_67 (gbr t rfl rfl (fun hc t => ?_) (fun hc t => ?_))
        · refine g9 (L' := [.ref x0, .ref x1, .int x2, .int x3, .int (x4 + 1), .int ((x4 * 6) + x3)]) c_113_116 rfl k_1 rfl ?_
          refine g38 c_113_119 rfl ?_
          exact t
        · refine g5 c_113_70 rfl ?_
          obtain ⟨ho, j3, hr, t⟩ := t
          refine g45 c_113_71 ho hr ?_
          refine g3 c_113_74 rfl ?_
          obtain ⟨ho, t⟩ := t
          refine g50 c_113_76 ho ?_
          refine g1 c_113_77 k_m1 ?_
          refine gcm c_113_78 (gbn t (ab_c1 _ _) rfl (fun hc t => ?_) (fun hc t => ?_))
          · refine g5 c_113_81 rfl ?_
            refine g3 c_113_82 rfl ?_
            exact g81 (As := [.ref x1, .int x4]) (rest := []) c_113_84 rfl rfl (Nat.le_of_ble_eq_true rfl) (Nat.le_of_ble_eq_true rfl) t
          · refine g9 (L' := [.ref x0, .ref x1, .int x2, .int x3, .int (x4 + 1), .int ((x4 * 6) + x3)]) c_113_116 rfl k_1 rfl ?_
            refine g38 c_113_119 rfl ?_
            exact t
set_option maxRecDepth 20000 in
theorem t_113_87 {d : Nat} {h : ab_H} {Q : Option Value → ab_H → Prop} {x0 : Nat} {x1 : Nat} {x2 : Int32} {x3 : Int32} {x4 : Int32} {x5 : Int32} {s0 : Int32} (t : if s0 = 0 then (wq (d + 1) 113 26 [.ref x0, .ref x1, .int x2, .int x3, .int (x4 + 1), .int x5] [] h Q) else (ab_ok h x0 109 = true ∧ ∃ j1 : Nat, ab_r h x0 4 = some j1 ∧ ab_ok h x0 109 = true ∧ ∃ j2 : Nat, ab_r h x0 0 = some j2 ∧ ab_ok h x1 108 = true ∧ ab_ok h x1 108 = true ∧ ab_ok h j2 101 = true ∧ wm d 19 [.ref j2, .ref x1, .int x3, .int x4, .int (ab_i h x1 8), .int (ab_i h x1 8)] h (fun r9 h9 => wq (d + 1) 113 115 [.ref x0, .ref x1, .int x2, .int x3, .int x4, .int x5] (r9.toList ++ [.int x5, .ref j1]) h9 Q))) : wq (d + 1) 113 87 [.ref x0, .ref x1, .int x2, .int x3, .int x4, .int x5] [.int s0] h Q := by
  refine gif c_113_87 (gbr t rfl rfl (fun hc t => ?_) (fun hc t => ?_))
  · refine g9 (L' := [.ref x0, .ref x1, .int x2, .int x3, .int (x4 + 1), .int x5]) c_113_116 rfl k_1 rfl ?_
    refine g38 c_113_119 rfl ?_
    exact t
  · refine g5 c_113_90 rfl ?_
    obtain ⟨ho, j1, hr, t⟩ := t
    refine g45 c_113_91 ho hr ?_
    refine g3 c_113_94 rfl ?_
    refine g5 c_113_96 rfl ?_
    obtain ⟨ho, j2, hr, t⟩ := t
    refine g45 c_113_97 ho hr ?_
    refine g5 c_113_100 rfl ?_
    refine g3 c_113_101 rfl ?_
    refine g3 c_113_102 rfl ?_
    refine g5 c_113_104 rfl ?_
    obtain ⟨ho, t⟩ := t
    refine g43 c_113_105 ho ?_
    refine g5 c_113_108 rfl ?_
    obtain ⟨ho, t⟩ := t
    refine g43 c_113_109 ho ?_
    exact g80 (As := [.ref x1, .int x3, .int x4, .int (ab_i h x1 8), .int (ab_i h x1 8)]) (rest := [.int x5, .ref j1]) c_113_112 rfl rfl (Nat.le_of_ble_eq_true rfl) (Nat.le_of_ble_eq_true rfl) t.1 t.2
set_option maxRecDepth 20000 in
theorem t_113_115 {d : Nat} {h : ab_H} {Q : Option Value → ab_H → Prop} {x0 : Nat} {x1 : Nat} {x2 : Int32} {x3 : Int32} {x4 : Int32} {x5 : Int32} {s0 : Nat} {s1 : Int32} {s2 : Int32} (t : (ab_ok h s0 0 = true ∧ ab_in s1 (ab_s h s0).2 = true) ∧ ∀ h1 : ab_H, h1 = ab_pi h s0 (Int32.toNatClampNeg s1) s2 → wq d 113 26 [.ref x0, .ref x1, .int x2, .int x3, .int (x4 + 1), .int x5] [] h1 Q) : wq d 113 115 [.ref x0, .ref x1, .int x2, .int x3, .int x4, .int x5] [.int s2, .int s1, .ref s0] h Q := by
  obtain ⟨ho, t⟩ := t
  refine g54 c_113_115 ho (fun h1 eh1 => ?_)
  have t := t h1 eh1
  refine g9 (L' := [.ref x0, .ref x1, .int x2, .int x3, .int (x4 + 1), .int x5]) c_113_116 rfl k_1 rfl ?_
  refine g38 c_113_119 rfl ?_
  exact t
-- method 114: MillTown$Week.payFor(II)I
theorem c_114_0 : pg_cd 114 0 = (3, 1, 0, 1, 0) := by decide +kernel
theorem c_114_1 : pg_cd 114 1 = (1, 2, 0, 0, 6) := by decide +kernel
theorem c_114_3 : pg_cd 114 3 = (12, 1, 0, 0, 0) := by decide +kernel
theorem c_114_4 : pg_cd 114 4 = (3, 1, 0, 2, 0) := by decide +kernel
theorem c_114_5 : pg_cd 114 5 = (10, 1, 0, 0, 0) := by decide +kernel
theorem c_114_6 : pg_cd 114 6 = (6, 1, 0, 3, 0) := by decide +kernel
theorem c_114_7 : pg_cd 114 7 = (3, 1, 0, 3, 0) := by decide +kernel
theorem c_114_8 : pg_cd 114 8 = (36, 3, 0, 2, 21) := by decide +kernel
theorem c_114_11 : pg_cd 114 11 = (3, 1, 0, 3, 0) := by decide +kernel
theorem c_114_12 : pg_cd 114 12 = (5, 1, 0, 0, 0) := by decide +kernel
theorem c_114_13 : pg_cd 114 13 = (45, 9, 32, 4, 0) := by decide +kernel
theorem c_114_16 : pg_cd 114 16 = (58, 0, 0, 0, 0) := by decide +kernel
theorem c_114_17 : pg_cd 114 17 = (37, 3, 0, 3, 12) := by decide +kernel
theorem c_114_20 : pg_cd 114 20 = (5, 1, 0, 0, 0) := by decide +kernel
theorem c_114_21 : pg_cd 114 21 = (45, 9, 32, 4, 0) := by decide +kernel
theorem c_114_24 : pg_cd 114 24 = (3, 1, 0, 3, 0) := by decide +kernel
theorem c_114_25 : pg_cd 114 25 = (50, 1, 0, 0, 0) := by decide +kernel
theorem c_114_26 : pg_cd 114 26 = (38, 3, 0, 0, 4) := by decide +kernel
theorem c_114_29 : pg_cd 114 29 = (1, 1, 0, 0, 0) := by decide +kernel
theorem c_114_30 : pg_cd 114 30 = (90, 0, 0, 0, 0) := by decide +kernel
theorem mx_114 : pg_mx 114 = 4 := by decide +kernel
theorem m_114 {d : Nat} {h : ab_H} {Q : Option Value → ab_H → Prop} {x0 : Nat} {x1 : Int32} {x2 : Int32} (t : wq d 114 0 [.ref x0, .int x1, .int x2, .retAddr 0] [] h Q) : wm d 114 [.ref x0, .int x1, .int x2] h Q := by
  unfold wm
  rw [mx_114]
  exact t
set_option maxRecDepth 20000 in
theorem t_114_0 {d : Nat} {h : ab_H} {Q : Option Value → ab_H → Prop} {x0 : Nat} {x1 : Int32} {x2 : Int32} (t : if ((x1 * 6) + x2) < 0 then (Q (some (.int 0)) h) else (ab_ok h x0 109 = true ∧ ∃ j1 : Nat, ab_r h x0 4 = some j1 ∧ ((j1 = 0 ∧ 0 = 0) ∨ ab_ok h j1 0 = true) ∧ if (Int32.ofNat (ab_s h j1).2) ≤ ((x1 * 6) + x2) then (Q (some (.int 0)) h) else (ab_ok h x0 109 = true ∧ ∃ j2 : Nat, ab_r h x0 4 = some j2 ∧ ((j2 = 0 ∨ ab_ok h j2 0 = true) ∧ ab_in ((x1 * 6) + x2) (ab_s h j2).2 = true) ∧ Q (some (.int (ab_i h j2 (Int32.toNatClampNeg ((x1 * 6) + x2))))) h))) : wq d 114 0 [.ref x0, .int x1, .int x2, .retAddr 0] [] h Q := by
  refine g3 c_114_0 rfl ?_
  refine g1 c_114_1 k_6 ?_
  refine g12 c_114_3 ?_
  refine g3 c_114_4 rfl ?_
  refine g10 c_114_5 ?_
  refine g6 (L' := [.ref x0, .int x1, .int x2, .int ((x1 * 6) + x2)]) c_114_6 rfl ?_
  refine g3 c_114_7 rfl ?_
  refine gif c_114_8 (gbr t rfl rfl (fun hc t => ?_) (fun hc t => ?_))
  · refine g1 c_114_29 k_0 ?_
    exact g90 c_114_30 t
  · refine g3 c_114_11 rfl ?_
    refine g5 c_114_12 rfl ?_
    obtain ⟨ho, j1, hr, t⟩ := t
    refine g45 c_114_13 ho hr ?_
    obtain ⟨ho, t⟩ := t
    refine g58 c_114_16 ho ?_
    refine gcm c_114_17 (gbr t rfl rfl (fun hc t => ?_) (fun hc t => ?_))
    · refine g1 c_114_29 k_0 ?_
      exact g90 c_114_30 t
    · refine g5 c_114_20 rfl ?_
      obtain ⟨ho, j2, hr, t⟩ := t
      refine g45 c_114_21 ho hr ?_
      refine g3 c_114_24 rfl ?_
      obtain ⟨ho, t⟩ := t
      refine g50 c_114_25 ho ?_
      refine g38 c_114_26 rfl ?_
      exact g90 c_114_30 t
-- method 115: MillTown$Week.fillHours(LMillTown$Town;)V
theorem c_115_0 : pg_cd 115 0 = (1, 1, 0, 0, 0) := by decide +kernel
theorem c_115_1 : pg_cd 115 1 = (6, 1, 0, 2, 0) := by decide +kernel
theorem c_115_2 : pg_cd 115 2 = (3, 1, 0, 2, 0) := by decide +kernel
theorem c_115_3 : pg_cd 115 3 = (5, 1, 0, 1, 0) := by decide +kernel
theorem c_115_4 : pg_cd 115 4 = (45, 8, 115, 2, 0) := by decide +kernel
theorem c_115_7 : pg_cd 115 7 = (43, 4, 121, 2, 0) := by decide +kernel
theorem c_115_10 : pg_cd 115 10 = (37, 3, 0, 3, 113) := by decide +kernel
theorem c_115_13 : pg_cd 115 13 = (5, 1, 0, 0, 0) := by decide +kernel
theorem c_115_14 : pg_cd 115 14 = (45, 9, 12, 0, 0) := by decide +kernel
theorem c_115_17 : pg_cd 115 17 = (5, 1, 0, 1, 0) := by decide +kernel
theorem c_115_18 : pg_cd 115 18 = (1, 2, 0, 0, 7) := by decide +kernel
theorem c_115_20 : pg_cd 115 20 = (3, 1, 0, 2, 0) := by decide +kernel
theorem c_115_21 : pg_cd 115 21 = (5, 1, 0, 1, 0) := by decide +kernel
theorem c_115_22 : pg_cd 115 22 = (43, 8, 48, 8, 0) := by decide +kernel
theorem c_115_25 : pg_cd 115 25 = (5, 1, 0, 1, 0) := by decide +kernel
theorem c_115_26 : pg_cd 115 26 = (43, 8, 48, 8, 0) := by decide +kernel
theorem c_115_29 : pg_cd 115 29 = (80, 13, 135, 0, 0) := by decide +kernel
theorem c_115_32 : pg_cd 115 32 = (8, 1, 0, 3, 0) := by decide +kernel
theorem c_115_33 : pg_cd 115 33 = (5, 1, 0, 0, 0) := by decide +kernel
theorem c_115_34 : pg_cd 115 34 = (45, 9, 12, 0, 0) := by decide +kernel
theorem c_115_37 : pg_cd 115 37 = (5, 1, 0, 1, 0) := by decide +kernel
theorem c_115_38 : pg_cd 115 38 = (3, 1, 0, 2, 0) := by decide +kernel
theorem c_115_39 : pg_cd 115 39 = (5, 1, 0, 1, 0) := by decide +kernel
theorem c_115_40 : pg_cd 115 40 = (43, 8, 48, 8, 0) := by decide +kernel
theorem c_115_43 : pg_cd 115 43 = (5, 1, 0, 1, 0) := by decide +kernel
theorem c_115_44 : pg_cd 115 44 = (43, 8, 48, 8, 0) := by decide +kernel
theorem c_115_47 : pg_cd 115 47 = (80, 15, 139, 0, 0) := by decide +kernel
theorem c_115_50 : pg_cd 115 50 = (6, 2, 0, 4, 0) := by decide +kernel
theorem c_115_52 : pg_cd 115 52 = (1, 1, 0, 0, 0) := by decide +kernel
theorem c_115_53 : pg_cd 115 53 = (6, 2, 0, 5, 0) := by decide +kernel
theorem c_115_55 : pg_cd 115 55 = (3, 2, 0, 5, 0) := by decide +kernel
theorem c_115_57 : pg_cd 115 57 = (5, 1, 0, 1, 0) := by decide +kernel
theorem c_115_58 : pg_cd 115 58 = (45, 8, 143, 5, 0) := by decide +kernel
theorem c_115_61 : pg_cd 115 61 = (43, 4, 121, 2, 0) := by decide +kernel
theorem c_115_64 : pg_cd 115 64 = (37, 3, 0, 3, 53) := by decide +kernel
theorem c_115_67 : pg_cd 115 67 = (3, 2, 0, 5, 0) := by decide +kernel
theorem c_115_69 : pg_cd 115 69 = (1, 2, 0, 0, 60) := by decide +kernel
theorem c_115_71 : pg_cd 115 71 = (37, 3, 0, 3, 46) := by decide +kernel
theorem c_115_74 : pg_cd 115 74 = (5, 1, 0, 1, 0) := by decide +kernel
theorem c_115_75 : pg_cd 115 75 = (45, 8, 143, 5, 0) := by decide +kernel
theorem c_115_78 : pg_cd 115 78 = (3, 2, 0, 5, 0) := by decide +kernel
theorem c_115_80 : pg_cd 115 80 = (1, 1, 0, 0, 4) := by decide +kernel
theorem c_115_81 : pg_cd 115 81 = (80, 55, 118, 0, 0) := by decide +kernel
theorem c_115_84 : pg_cd 115 84 = (3, 1, 0, 2, 0) := by decide +kernel
theorem c_115_85 : pg_cd 115 85 = (37, 3, 0, 1, 26) := by decide +kernel
theorem c_115_88 : pg_cd 115 88 = (5, 1, 0, 0, 0) := by decide +kernel
theorem c_115_89 : pg_cd 115 89 = (45, 9, 25, 2, 0) := by decide +kernel
theorem c_115_92 : pg_cd 115 92 = (3, 2, 0, 5, 0) := by decide +kernel
theorem c_115_94 : pg_cd 115 94 = (5, 1, 0, 3, 0) := by decide +kernel
theorem c_115_95 : pg_cd 115 95 = (3, 2, 0, 4, 0) := by decide +kernel
theorem c_115_97 : pg_cd 115 97 = (5, 1, 0, 1, 0) := by decide +kernel
theorem c_115_98 : pg_cd 115 98 = (45, 8, 143, 5, 0) := by decide +kernel
theorem c_115_101 : pg_cd 115 101 = (3, 2, 0, 5, 0) := by decide +kernel
theorem c_115_103 : pg_cd 115 103 = (1, 1, 0, 0, 1) := by decide +kernel
theorem c_115_104 : pg_cd 115 104 = (80, 55, 118, 0, 0) := by decide +kernel
theorem c_115_107 : pg_cd 115 107 = (81, 16, 146, 0, 0) := by decide +kernel
theorem c_115_110 : pg_cd 115 110 = (54, 1, 0, 0, 0) := by decide +kernel
theorem c_115_111 : pg_cd 115 111 = (9, 3, 0, 5, 1) := by decide +kernel
theorem c_115_114 : pg_cd 115 114 = (38, 3, 0, 0, (-59)) := by decide +kernel
theorem c_115_117 : pg_cd 115 117 = (9, 3, 0, 2, 1) := by decide +kernel
theorem c_115_120 : pg_cd 115 120 = (38, 3, 0, 0, (-118)) := by decide +kernel
theorem c_115_123 : pg_cd 115 123 = (94, 0, 0, 0, 0) := by decide +kernel
theorem mx_115 : pg_mx 115 = 6 := by decide +kernel
theorem m_115 {d : Nat} {h : ab_H} {Q : Option Value → ab_H → Prop} {x0 : Nat} {x1 : Nat} (t : wq d 115 0 [.ref x0, .ref x1, .retAddr 0, .retAddr 0, .retAddr 0, .retAddr 0] [] h Q) : wm d 115 [.ref x0, .ref x1] h Q := by
  unfold wm
  rw [mx_115]
  exact t
set_option maxRecDepth 20000 in
theorem t_115_0 {d : Nat} {h : ab_H} {Q : Option Value → ab_H → Prop} {x0 : Nat} {x1 : Nat} (t : wq d 115 2 [.ref x0, .ref x1, .int 0, .retAddr 0, .retAddr 0, .retAddr 0] [] h Q) : wq d 115 0 [.ref x0, .ref x1, .retAddr 0, .retAddr 0, .retAddr 0, .retAddr 0] [] h Q := by
  refine g1 c_115_0 k_0 ?_
  refine g6 (L' := [.ref x0, .ref x1, .int 0, .retAddr 0, .retAddr 0, .retAddr 0]) c_115_1 rfl ?_
  exact t
set_option maxRecDepth 20000 in
theorem t_115_2 {d : Nat} {h : ab_H} {Q : Option Value → ab_H → Prop} {x0 : Nat} {x1 : Nat} {x2 : Int32} (t : ab_ok h x1 108 = true ∧ ∃ j1 : Nat, ab_r h x1 2 = some j1 ∧ ab_ok h j1 104 = true ∧ if (ab_i h j1 2) ≤ x2 then (Q none h) else (ab_ok h x0 109 = true ∧ ∃ j2 : Nat, ab_r h x0 0 = some j2 ∧ ab_ok h x1 108 = true ∧ ab_ok h x1 108 = true ∧ ab_ok h j2 101 = true ∧ wm d 13 [.ref j2, .ref x1, .int 7, .int x2, .int (ab_i h x1 8), .int (ab_i h x1 8)] h (fun r9 h9 => wq (d + 1) 115 32 [.ref x0, .ref x1, .int x2, .retAddr 0, .retAddr 0, .retAddr 0] (r9.toList ++ []) h9 Q))) : wq (d + 1) 115 2 [.ref x0, .ref x1, .int x2, .retAddr 0, .retAddr 0, .retAddr 0] [] h Q := by
  refine g3 c_115_2 rfl ?_
  refine g5 c_115_3 rfl ?_
  obtain ⟨ho, j1, hr, t⟩ := t
  refine g45 c_115_4 ho hr ?_
  obtain ⟨ho, t⟩ := t
  refine g43 c_115_7 ho ?_
  refine gcm c_115_10 (gbr t rfl rfl (fun hc t => ?_) (fun hc t => ?_))
  · exact g94 c_115_123 t
  · refine g5 c_115_13 rfl ?_
    obtain ⟨ho, j2, hr, t⟩ := t
    refine g45 c_115_14 ho hr ?_
    refine g5 c_115_17 rfl ?_
    refine g1 c_115_18 k_7 ?_
    refine g3 c_115_20 rfl ?_
    refine g5 c_115_21 rfl ?_
    obtain ⟨ho, t⟩ := t
    refine g43 c_115_22 ho ?_
    refine g5 c_115_25 rfl ?_
    obtain ⟨ho, t⟩ := t
    refine g43 c_115_26 ho ?_
    exact g80 (As := [.ref x1, .int 7, .int x2, .int (ab_i h x1 8), .int (ab_i h x1 8)]) (rest := []) c_115_29 rfl rfl (Nat.le_of_ble_eq_true rfl) (Nat.le_of_ble_eq_true rfl) t.1 t.2
set_option maxRecDepth 20000 in
theorem t_115_32 {d : Nat} {h : ab_H} {Q : Option Value → ab_H → Prop} {x0 : Nat} {x1 : Nat} {x2 : Int32} {s0 : Nat} (t : ab_ok h x0 109 = true ∧ ∃ j1 : Nat, ab_r h x0 0 = some j1 ∧ ab_ok h x1 108 = true ∧ ab_ok h x1 108 = true ∧ ab_ok h j1 101 = true ∧ wm d 15 [.ref j1, .ref x1, .int x2, .int (ab_i h x1 8), .int (ab_i h x1 8)] h (fun r9 h9 => wq (d + 1) 115 50 [.ref x0, .ref x1, .int x2, .ref s0, .retAddr 0, .retAddr 0] (r9.toList ++ []) h9 Q)) : wq (d + 1) 115 32 [.ref x0, .ref x1, .int x2, .retAddr 0, .retAddr 0, .retAddr 0] [.ref s0] h Q := by
  refine g8 (L' := [.ref x0, .ref x1, .int x2, .ref s0, .retAddr 0, .retAddr 0]) c_115_32 rfl ?_
  refine g5 c_115_33 rfl ?_
  obtain ⟨ho, j1, hr, t⟩ := t
  refine g45 c_115_34 ho hr ?_
  refine g5 c_115_37 rfl ?_
  refine g3 c_115_38 rfl ?_
  refine g5 c_115_39 rfl ?_
  obtain ⟨ho, t⟩ := t
  refine g43 c_115_40 ho ?_
  refine g5 c_115_43 rfl ?_
  obtain ⟨ho, t⟩ := t
  refine g43 c_115_44 ho ?_
  exact g80 (As := [.ref x1, .int x2, .int (ab_i h x1 8), .int (ab_i h x1 8)]) (rest := []) c_115_47 rfl rfl (Nat.le_of_ble_eq_true rfl) (Nat.le_of_ble_eq_true rfl) t.1 t.2
set_option maxRecDepth 20000 in
theorem t_115_50 {d : Nat} {h : ab_H} {Q : Option Value → ab_H → Prop} {x0 : Nat} {x1 : Nat} {x2 : Int32} {x3 : Nat} {s0 : Int32} (t : wq d 115 55 [.ref x0, .ref x1, .int x2, .ref x3, .int s0, .int 0] [] h Q) : wq d 115 50 [.ref x0, .ref x1, .int x2, .ref x3, .retAddr 0, .retAddr 0] [.int s0] h Q := by
  refine g6 (L' := [.ref x0, .ref x1, .int x2, .ref x3, .int s0, .retAddr 0]) c_115_50 rfl ?_
  refine g1 c_115_52 k_0 ?_
  refine g6 (L' := [.ref x0, .ref x1, .int x2, .ref x3, .int s0, .int 0]) c_115_53 rfl ?_
  exact t
set_option maxRecDepth 20000 in
theorem t_115_55 {d : Nat} {h : ab_H} {Q : Option Value → ab_H → Prop} {x0 : Nat} {x1 : Nat} {x2 : Int32} {x3 : Nat} {x4 : Int32} {x5 : Int32} (t : ab_ok h x1 108 = true ∧ ∃ j1 : Nat, ab_r h x1 5 = some j1 ∧ ab_ok h j1 104 = true ∧ if (ab_i h j1 2) ≤ x5 then (wq (d + 1) 115 2 [.ref x0, .ref x1, .int (x2 + 1), .ref x3, .int x4, .int x5] [] h Q) else (if 60 ≤ x5 then (wq (d + 1) 115 2 [.ref x0, .ref x1, .int (x2 + 1), .ref x3, .int x4, .int x5] [] h Q) else (ab_ok h x1 108 = true ∧ ∃ j2 : Nat, ab_r h x1 5 = some j2 ∧ ab_ok h j2 104 = true ∧ wm d 55 [.ref j2, .int x5, .int 4] h (fun r9 h9 => wq (d + 1) 115 84 [.ref x0, .ref x1, .int x2, .ref x3, .int x4, .int x5] (r9.toList ++ []) h9 Q)))) : wq (d + 1) 115 55 [.ref x0, .ref x1, .int x2, .ref x3, .int x4, .int x5] [] h Q := by
  refine g3 c_115_55 rfl ?_
  refine g5 c_115_57 rfl ?_
  obtain ⟨ho, j1, hr, t⟩ := t
  refine g45 c_115_58 ho hr ?_
  obtain ⟨ho, t⟩ := t
  refine g43 c_115_61 ho ?_
  refine gcm c_115_64 (gbr t rfl rfl (fun hc t => ?_) (fun hc t => ?_))
  · refine g9 (L' := [.ref x0, .ref x1, .int (x2 + 1), .ref x3, .int x4, .int x5]) c_115_117 rfl k_1 rfl ?_
    refine g38 c_115_120 rfl ?_
    exact t
  · refine g3 c_115_67 rfl ?_
    refine g1 c_115_69 k_60 ?_
    refine gcm c_115_71 (gbr t rfl rfl (fun hc t => ?_) (fun hc t => ?_))
    · refine g9 (L' := [.ref x0, .ref x1, .int (x2 + 1), .ref x3, .int x4, .int x5]) c_115_117 rfl k_1 rfl ?_
      refine g38 c_115_120 rfl ?_
      exact t
    · refine g5 c_115_74 rfl ?_
      obtain ⟨ho, j2, hr, t⟩ := t
      refine g45 c_115_75 ho hr ?_
      refine g3 c_115_78 rfl ?_
      refine g1 c_115_80 k_4 ?_
      exact g80 (As := [.int x5, .int 4]) (rest := []) c_115_81 rfl rfl (Nat.le_of_ble_eq_true rfl) (Nat.le_of_ble_eq_true rfl) t.1 t.2
set_option maxRecDepth 20000 in
theorem t_115_84 {d : Nat} {h : ab_H} {Q : Option Value → ab_H → Prop} {x0 : Nat} {x1 : Nat} {x2 : Int32} {x3 : Nat} {x4 : Int32} {x5 : Int32} {s0 : Int32} (t : if s0 = x2 then (ab_ok h x0 109 = true ∧ ∃ j1 : Nat, ab_r h x0 2 = some j1 ∧ ab_ok h x1 108 = true ∧ ∃ j2 : Nat, ab_r h x1 5 = some j2 ∧ ab_ok h j2 104 = true ∧ wm d 55 [.ref j2, .int x5, .int 1] h (fun r9 h9 => wq (d + 1) 115 107 [.ref x0, .ref x1, .int x2, .ref x3, .int x4, .int x5] (r9.toList ++ [.int x4, .ref x3, .int x5, .ref j1]) h9 Q)) else (wq (d + 1) 115 55 [.ref x0, .ref x1, .int x2, .ref x3, .int x4, .int (x5 + 1)] [] h Q)) : wq (d + 1) 115 84 [.ref x0, .ref x1, .int x2, .ref x3, .int x4, .int x5] [.int s0] h Q := by
  refine g3 c_115_84 rfl ?_
  refine gcm c_115_85 (gbn t (ab_c1 _ _) rfl (fun hc t => ?_) (fun hc t => ?_))
  · refine g5 c_115_88 rfl ?_
    obtain ⟨ho, j1, hr, t⟩ := t
    refine g45 c_115_89 ho hr ?_
    refine g3 c_115_92 rfl ?_
    refine g5 c_115_94 rfl ?_
    refine g3 c_115_95 rfl ?_
    refine g5 c_115_97 rfl ?_
    obtain ⟨ho, j2, hr, t⟩ := t
    refine g45 c_115_98 ho hr ?_
    refine g3 c_115_101 rfl ?_
    refine g1 c_115_103 k_1 ?_
    exact g80 (As := [.int x5, .int 1]) (rest := [.int x4, .ref x3, .int x5, .ref j1]) c_115_104 rfl rfl (Nat.le_of_ble_eq_true rfl) (Nat.le_of_ble_eq_true rfl) t.1 t.2
  · refine g9 (L' := [.ref x0, .ref x1, .int x2, .ref x3, .int x4, .int (x5 + 1)]) c_115_111 rfl k_1 rfl ?_
    refine g38 c_115_114 rfl ?_
    exact t
set_option maxRecDepth 20000 in
theorem t_115_107 {d : Nat} {h : ab_H} {Q : Option Value → ab_H → Prop} {x0 : Nat} {x1 : Nat} {x2 : Int32} {x3 : Nat} {x4 : Int32} {x5 : Int32} {s0 : Nat} {s1 : Int32} {s2 : Nat} {s3 : Int32} {s4 : Int32} (t : wm d 16 [.ref s2, .int s3, .int s4] h (fun r9 h9 => wq (d + 1) 115 110 [.ref x0, .ref x1, .int x2, .ref x3, .int x4, .int x5] (r9.toList ++ [.int s1, .ref s0]) h9 Q)) : wq (d + 1) 115 107 [.ref x0, .ref x1, .int x2, .ref x3, .int x4, .int x5] [.int s4, .int s3, .ref s2, .int s1, .ref s0] h Q := by
  exact g81 (As := [.ref s2, .int s3, .int s4]) (rest := [.int s1, .ref s0]) c_115_107 rfl rfl (Nat.le_of_ble_eq_true rfl) (Nat.le_of_ble_eq_true rfl) t
set_option maxRecDepth 20000 in
theorem t_115_110 {d : Nat} {h : ab_H} {Q : Option Value → ab_H → Prop} {x0 : Nat} {x1 : Nat} {x2 : Int32} {x3 : Nat} {x4 : Int32} {x5 : Int32} {s0 : Nat} {s1 : Int32} {s2 : Int32} (t : (ab_ok h s0 0 = true ∧ ab_in s1 (ab_s h s0).2 = true) ∧ ∀ h1 : ab_H, h1 = ab_pi h s0 (Int32.toNatClampNeg s1) s2 → wq d 115 55 [.ref x0, .ref x1, .int x2, .ref x3, .int x4, .int (x5 + 1)] [] h1 Q) : wq d 115 110 [.ref x0, .ref x1, .int x2, .ref x3, .int x4, .int x5] [.int s2, .int s1, .ref s0] h Q := by
  obtain ⟨ho, t⟩ := t
  refine g54 c_115_110 ho (fun h1 eh1 => ?_)
  have t := t h1 eh1
  refine g9 (L' := [.ref x0, .ref x1, .int x2, .ref x3, .int x4, .int (x5 + 1)]) c_115_111 rfl k_1 rfl ?_
  refine g38 c_115_114 rfl ?_
  exact t
-- method 116: MillTown$Week.takeOrders(LMillTown$Town;)V
theorem c_116_0 : pg_cd 116 0 = (1, 1, 0, 0, 0) := by decide +kernel
theorem c_116_1 : pg_cd 116 1 = (6, 1, 0, 2, 0) := by decide +kernel
theorem c_116_2 : pg_cd 116 2 = (3, 1, 0, 2, 0) := by decide +kernel
theorem c_116_3 : pg_cd 116 3 = (5, 1, 0, 1, 0) := by decide +kernel
theorem c_116_4 : pg_cd 116 4 = (45, 8, 115, 2, 0) := by decide +kernel
theorem c_116_7 : pg_cd 116 7 = (43, 4, 121, 2, 0) := by decide +kernel
theorem c_116_10 : pg_cd 116 10 = (37, 3, 0, 3, 40) := by decide +kernel
theorem c_116_13 : pg_cd 116 13 = (5, 1, 0, 1, 0) := by decide +kernel
theorem c_116_14 : pg_cd 116 14 = (3, 1, 0, 2, 0) := by decide +kernel
theorem c_116_15 : pg_cd 116 15 = (81, 111, 128, 0, 0) := by decide +kernel
theorem c_116_18 : pg_cd 116 18 = (36, 3, 0, 0, 12) := by decide +kernel
theorem c_116_21 : pg_cd 116 21 = (5, 1, 0, 0, 0) := by decide +kernel
theorem c_116_22 : pg_cd 116 22 = (5, 1, 0, 1, 0) := by decide +kernel
theorem c_116_23 : pg_cd 116 23 = (3, 1, 0, 2, 0) := by decide +kernel
theorem c_116_24 : pg_cd 116 24 = (80, 118, 150, 0, 0) := by decide +kernel
theorem c_116_27 : pg_cd 116 27 = (38, 3, 0, 0, 4) := by decide +kernel
theorem c_116_30 : pg_cd 116 30 = (1, 1, 0, 0, (-1)) := by decide +kernel
theorem c_116_31 : pg_cd 116 31 = (6, 1, 0, 3, 0) := by decide +kernel
theorem c_116_32 : pg_cd 116 32 = (3, 1, 0, 3, 0) := by decide +kernel
theorem c_116_33 : pg_cd 116 33 = (1, 1, 0, 0, (-1)) := by decide +kernel
theorem c_116_34 : pg_cd 116 34 = (37, 3, 0, 0, 10) := by decide +kernel
theorem c_116_37 : pg_cd 116 37 = (5, 1, 0, 0, 0) := by decide +kernel
theorem c_116_38 : pg_cd 116 38 = (5, 1, 0, 1, 0) := by decide +kernel
theorem c_116_39 : pg_cd 116 39 = (3, 1, 0, 2, 0) := by decide +kernel
theorem c_116_40 : pg_cd 116 40 = (3, 1, 0, 3, 0) := by decide +kernel
theorem c_116_41 : pg_cd 116 41 = (80, 119, 154, 0, 0) := by decide +kernel
theorem c_116_44 : pg_cd 116 44 = (9, 3, 0, 2, 1) := by decide +kernel
theorem c_116_47 : pg_cd 116 47 = (38, 3, 0, 0, (-45)) := by decide +kernel
theorem c_116_50 : pg_cd 116 50 = (94, 0, 0, 0, 0) := by decide +kernel
theorem mx_116 : pg_mx 116 = 4 := by decide +kernel
theorem m_116 {d : Nat} {h : ab_H} {Q : Option Value → ab_H → Prop} {x0 : Nat} {x1 : Nat} (t : wq d 116 0 [.ref x0, .ref x1, .retAddr 0, .retAddr 0] [] h Q) : wm d 116 [.ref x0, .ref x1] h Q := by
  unfold wm
  rw [mx_116]
  exact t
set_option maxRecDepth 20000 in
theorem t_116_0 {d : Nat} {h : ab_H} {Q : Option Value → ab_H → Prop} {x0 : Nat} {x1 : Nat} (t : wq d 116 2 [.ref x0, .ref x1, .int 0, .retAddr 0] [] h Q) : wq d 116 0 [.ref x0, .ref x1, .retAddr 0, .retAddr 0] [] h Q := by
  refine g1 c_116_0 k_0 ?_
  refine g6 (L' := [.ref x0, .ref x1, .int 0, .retAddr 0]) c_116_1 rfl ?_
  exact t
set_option maxRecDepth 20000 in
theorem t_116_2 {d : Nat} {h : ab_H} {Q : Option Value → ab_H → Prop} {x0 : Nat} {x1 : Nat} {x2 : Int32} (t : ab_ok h x1 108 = true ∧ ∃ j1 : Nat, ab_r h x1 2 = some j1 ∧ ab_ok h j1 104 = true ∧ if (ab_i h j1 2) ≤ x2 then (Q none h) else (wm d 111 [.ref x1, .int x2] h (fun r9 h9 => wq (d + 1) 116 18 [.ref x0, .ref x1, .int x2, .retAddr 0] (r9.toList ++ []) h9 Q))) : wq (d + 1) 116 2 [.ref x0, .ref x1, .int x2, .retAddr 0] [] h Q := by
  refine g3 c_116_2 rfl ?_
  refine g5 c_116_3 rfl ?_
  obtain ⟨ho, j1, hr, t⟩ := t
  refine g45 c_116_4 ho hr ?_
  obtain ⟨ho, t⟩ := t
  refine g43 c_116_7 ho ?_
  refine gcm c_116_10 (gbr t rfl rfl (fun hc t => ?_) (fun hc t => ?_))
  · exact g94 c_116_50 t
  · refine g5 c_116_13 rfl ?_
    refine g3 c_116_14 rfl ?_
    exact g81 (As := [.ref x1, .int x2]) (rest := []) c_116_15 rfl rfl (Nat.le_of_ble_eq_true rfl) (Nat.le_of_ble_eq_true rfl) t
set_option maxRecDepth 20000 in
theorem t_116_18 {d : Nat} {h : ab_H} {Q : Option Value → ab_H → Prop} {x0 : Nat} {x1 : Nat} {x2 : Int32} {s0 : Int32} (t : if s0 = 0 then (if (-1 : Int32) = (-1) then (wq (d + 1) 116 2 [.ref x0, .ref x1, .int (x2 + 1), .int (-1)] [] h Q) else (ab_ok h x0 109 = true ∧ wm d 119 [.ref x0, .ref x1, .int x2, .int (-1)] h (fun r9 h9 => wq (d + 1) 116 44 [.ref x0, .ref x1, .int x2, .int (-1)] (r9.toList ++ []) h9 Q))) else (ab_ok h x0 109 = true ∧ wm d 118 [.ref x0, .ref x1, .int x2] h (fun r9 h9 => wq (d + 1) 116 27 [.ref x0, .ref x1, .int x2, .retAddr 0] (r9.toList ++ []) h9 Q))) : wq (d + 1) 116 18 [.ref x0, .ref x1, .int x2, .retAddr 0] [.int s0] h Q := by
  refine gif c_116_18 (gbr t rfl rfl (fun hc t => ?_) (fun hc t => ?_))
  · refine g1 c_116_30 k_m1 ?_
    refine g6 (L' := [.ref x0, .ref x1, .int x2, .int (-1)]) c_116_31 rfl ?_
    refine g3 c_116_32 rfl ?_
    refine g1 c_116_33 k_m1 ?_
    refine gcm c_116_34 (gbr t rfl rfl (fun hc t => ?_) (fun hc t => ?_))
    · refine g9 (L' := [.ref x0, .ref x1, .int (x2 + 1), .int (-1)]) c_116_44 rfl k_1 rfl ?_
      refine g38 c_116_47 rfl ?_
      exact t
    · refine g5 c_116_37 rfl ?_
      refine g5 c_116_38 rfl ?_
      refine g3 c_116_39 rfl ?_
      refine g3 c_116_40 rfl ?_
      exact g80 (As := [.ref x1, .int x2, .int (-1)]) (rest := []) c_116_41 rfl rfl (Nat.le_of_ble_eq_true rfl) (Nat.le_of_ble_eq_true rfl) t.1 t.2
  · refine g5 c_116_21 rfl ?_
    refine g5 c_116_22 rfl ?_
    refine g3 c_116_23 rfl ?_
    exact g80 (As := [.ref x1, .int x2]) (rest := []) c_116_24 rfl rfl (Nat.le_of_ble_eq_true rfl) (Nat.le_of_ble_eq_true rfl) t.1 t.2
set_option maxRecDepth 20000 in
theorem t_116_27 {d : Nat} {h : ab_H} {Q : Option Value → ab_H → Prop} {x0 : Nat} {x1 : Nat} {x2 : Int32} {s0 : Int32} (t : if s0 = (-1) then (wq (d + 1) 116 2 [.ref x0, .ref x1, .int (x2 + 1), .int s0] [] h Q) else (ab_ok h x0 109 = true ∧ wm d 119 [.ref x0, .ref x1, .int x2, .int s0] h (fun r9 h9 => wq (d + 1) 116 44 [.ref x0, .ref x1, .int x2, .int s0] (r9.toList ++ []) h9 Q))) : wq (d + 1) 116 27 [.ref x0, .ref x1, .int x2, .retAddr 0] [.int s0] h Q := by
  refine g38 c_116_27 rfl ?_
  refine g6 (L' := [.ref x0, .ref x1, .int x2, .int s0]) c_116_31 rfl ?_
  refine g3 c_116_32 rfl ?_
  refine g1 c_116_33 k_m1 ?_
  refine gcm c_116_34 (gbr t rfl rfl (fun hc t => ?_) (fun hc t => ?_))
  · refine g9 (L' := [.ref x0, .ref x1, .int (x2 + 1), .int s0]) c_116_44 rfl k_1 rfl ?_
    refine g38 c_116_47 rfl ?_
    exact t
  · refine g5 c_116_37 rfl ?_
    refine g5 c_116_38 rfl ?_
    refine g3 c_116_39 rfl ?_
    refine g3 c_116_40 rfl ?_
    exact g80 (As := [.ref x1, .int x2, .int s0]) (rest := []) c_116_41 rfl rfl (Nat.le_of_ble_eq_true rfl) (Nat.le_of_ble_eq_true rfl) t.1 t.2
set_option maxRecDepth 20000 in
theorem t_116_44 {d : Nat} {h : ab_H} {Q : Option Value → ab_H → Prop} {x0 : Nat} {x1 : Nat} {x2 : Int32} {x3 : Int32} (t : wq d 116 2 [.ref x0, .ref x1, .int (x2 + 1), .int x3] [] h Q) : wq d 116 44 [.ref x0, .ref x1, .int x2, .int x3] [] h Q := by
  refine g9 (L' := [.ref x0, .ref x1, .int (x2 + 1), .int x3]) c_116_44 rfl k_1 rfl ?_
  refine g38 c_116_47 rfl ?_
  exact t
-- method 117: MillTown$Week.gainOf(LMillTown$Town;II)I
theorem c_117_0 : pg_cd 117 0 = (5, 1, 0, 1, 0) := by decide +kernel
theorem c_117_1 : pg_cd 117 1 = (45, 8, 105, 6, 0) := by decide +kernel
theorem c_117_4 : pg_cd 117 4 = (3, 1, 0, 3, 0) := by decide +kernel
theorem c_117_5 : pg_cd 117 5 = (1, 1, 0, 0, 0) := by decide +kernel
theorem c_117_6 : pg_cd 117 6 = (80, 55, 118, 0, 0) := by decide +kernel
theorem c_117_9 : pg_cd 117 9 = (6, 2, 0, 4, 0) := by decide +kernel
theorem c_117_11 : pg_cd 117 11 = (5, 1, 0, 1, 0) := by decide +kernel
theorem c_117_12 : pg_cd 117 12 = (45, 8, 105, 6, 0) := by decide +kernel
theorem c_117_15 : pg_cd 117 15 = (3, 1, 0, 3, 0) := by decide +kernel
theorem c_117_16 : pg_cd 117 16 = (1, 1, 0, 0, 2) := by decide +kernel
theorem c_117_17 : pg_cd 117 17 = (80, 55, 118, 0, 0) := by decide +kernel
theorem c_117_20 : pg_cd 117 20 = (5, 1, 0, 1, 0) := by decide +kernel
theorem c_117_21 : pg_cd 117 21 = (43, 8, 158, 11, 0) := by decide +kernel
theorem c_117_24 : pg_cd 117 24 = (11, 1, 0, 0, 0) := by decide +kernel
theorem c_117_25 : pg_cd 117 25 = (5, 1, 0, 0, 0) := by decide +kernel
theorem c_117_26 : pg_cd 117 26 = (3, 1, 0, 2, 0) := by decide +kernel
theorem c_117_27 : pg_cd 117 27 = (3, 2, 0, 4, 0) := by decide +kernel
theorem c_117_29 : pg_cd 117 29 = (80, 114, 161, 0, 0) := by decide +kernel
theorem c_117_32 : pg_cd 117 32 = (11, 1, 0, 0, 0) := by decide +kernel
theorem c_117_33 : pg_cd 117 33 = (5, 1, 0, 1, 0) := by decide +kernel
theorem c_117_34 : pg_cd 117 34 = (45, 8, 164, 0, 0) := by decide +kernel
theorem c_117_37 : pg_cd 117 37 = (3, 2, 0, 4, 0) := by decide +kernel
theorem c_117_39 : pg_cd 117 39 = (1, 1, 0, 0, 2) := by decide +kernel
theorem c_117_40 : pg_cd 117 40 = (80, 55, 118, 0, 0) := by decide +kernel
theorem c_117_43 : pg_cd 117 43 = (5, 1, 0, 0, 0) := by decide +kernel
theorem c_117_44 : pg_cd 117 44 = (43, 9, 96, 5, 0) := by decide +kernel
theorem c_117_47 : pg_cd 117 47 = (12, 1, 0, 0, 0) := by decide +kernel
theorem c_117_48 : pg_cd 117 48 = (1, 3, 0, 0, 400) := by decide +kernel
theorem c_117_51 : pg_cd 117 51 = (16, 1, 0, 0, 0) := by decide +kernel
theorem c_117_52 : pg_cd 117 52 = (11, 1, 0, 0, 0) := by decide +kernel
theorem c_117_53 : pg_cd 117 53 = (90, 0, 0, 0, 0) := by decide +kernel
theorem mx_117 : pg_mx 117 = 5 := by decide +kernel
theorem m_117 {d : Nat} {h : ab_H} {Q : Option Value → ab_H → Prop} {x0 : Nat} {x1 : Nat} {x2 : Int32} {x3 : Int32} (t : wq d 117 0 [.ref x0, .ref x1, .int x2, .int x3, .retAddr 0] [] h Q) : wm d 117 [.ref x0, .ref x1, .int x2, .int x3] h Q := by
  unfold wm
  rw [mx_117]
  exact t
set_option maxRecDepth 20000 in
theorem t_117_0 {d : Nat} {h : ab_H} {Q : Option Value → ab_H → Prop} {x0 : Nat} {x1 : Nat} {x2 : Int32} {x3 : Int32} (t : ab_ok h x1 108 = true ∧ ∃ j1 : Nat, ab_r h x1 6 = some j1 ∧ ab_ok h j1 104 = true ∧ wm d 55 [.ref j1, .int x3, .int 0] h (fun r9 h9 => wq (d + 1) 117 9 [.ref x0, .ref x1, .int x2, .int x3, .retAddr 0] (r9.toList ++ []) h9 Q)) : wq (d + 1) 117 0 [.ref x0, .ref x1, .int x2, .int x3, .retAddr 0] [] h Q := by
  refine g5 c_117_0 rfl ?_
  obtain ⟨ho, j1, hr, t⟩ := t
  refine g45 c_117_1 ho hr ?_
  refine g3 c_117_4 rfl ?_
  refine g1 c_117_5 k_0 ?_
  exact g80 (As := [.int x3, .int 0]) (rest := []) c_117_6 rfl rfl (Nat.le_of_ble_eq_true rfl) (Nat.le_of_ble_eq_true rfl) t.1 t.2
set_option maxRecDepth 20000 in
theorem t_117_9 {d : Nat} {h : ab_H} {Q : Option Value → ab_H → Prop} {x0 : Nat} {x1 : Nat} {x2 : Int32} {x3 : Int32} {s0 : Int32} (t : ab_ok h x1 108 = true ∧ ∃ j1 : Nat, ab_r h x1 6 = some j1 ∧ ab_ok h j1 104 = true ∧ wm d 55 [.ref j1, .int x3, .int 2] h (fun r9 h9 => wq (d + 1) 117 20 [.ref x0, .ref x1, .int x2, .int x3, .int s0] (r9.toList ++ []) h9 Q)) : wq (d + 1) 117 9 [.ref x0, .ref x1, .int x2, .int x3, .retAddr 0] [.int s0] h Q := by
  refine g6 (L' := [.ref x0, .ref x1, .int x2, .int x3, .int s0]) c_117_9 rfl ?_
  refine g5 c_117_11 rfl ?_
  obtain ⟨ho, j1, hr, t⟩ := t
  refine g45 c_117_12 ho hr ?_
  refine g3 c_117_15 rfl ?_
  refine g1 c_117_16 k_2 ?_
  exact g80 (As := [.int x3, .int 2]) (rest := []) c_117_17 rfl rfl (Nat.le_of_ble_eq_true rfl) (Nat.le_of_ble_eq_true rfl) t.1 t.2
set_option maxRecDepth 20000 in
theorem t_117_20 {d : Nat} {h : ab_H} {Q : Option Value → ab_H → Prop} {x0 : Nat} {x1 : Nat} {x2 : Int32} {x3 : Int32} {x4 : Int32} {s0 : Int32} (t : ab_ok h x1 108 = true ∧ ab_ok h x0 109 = true ∧ wm d 114 [.ref x0, .int x2, .int x4] h (fun r9 h9 => wq (d + 1) 117 32 [.ref x0, .ref x1, .int x2, .int x3, .int x4] (r9.toList ++ [.int (s0 - (ab_i h x1 11))]) h9 Q)) : wq (d + 1) 117 20 [.ref x0, .ref x1, .int x2, .int x3, .int x4] [.int s0] h Q := by
  refine g5 c_117_20 rfl ?_
  obtain ⟨ho, t⟩ := t
  refine g43 c_117_21 ho ?_
  refine g11 c_117_24 ?_
  refine g5 c_117_25 rfl ?_
  refine g3 c_117_26 rfl ?_
  refine g3 c_117_27 rfl ?_
  exact g80 (As := [.int x2, .int x4]) (rest := [.int (s0 - (ab_i h x1 11))]) c_117_29 rfl rfl (Nat.le_of_ble_eq_true rfl) (Nat.le_of_ble_eq_true rfl) t.1 t.2
set_option maxRecDepth 20000 in
theorem t_117_32 {d : Nat} {h : ab_H} {Q : Option Value → ab_H → Prop} {x0 : Nat} {x1 : Nat} {x2 : Int32} {x3 : Int32} {x4 : Int32} {s0 : Int32} {s1 : Int32} (t : ab_ok h x1 108 = true ∧ ∃ j1 : Nat, ab_r h x1 0 = some j1 ∧ ab_ok h j1 104 = true ∧ wm d 55 [.ref j1, .int x4, .int 2] h (fun r9 h9 => wq (d + 1) 117 43 [.ref x0, .ref x1, .int x2, .int x3, .int x4] (r9.toList ++ [.int (s0 - s1)]) h9 Q)) : wq (d + 1) 117 32 [.ref x0, .ref x1, .int x2, .int x3, .int x4] [.int s1, .int s0] h Q := by
  refine g11 c_117_32 ?_
  refine g5 c_117_33 rfl ?_
  obtain ⟨ho, j1, hr, t⟩ := t
  refine g45 c_117_34 ho hr ?_
  refine g3 c_117_37 rfl ?_
  refine g1 c_117_39 k_2 ?_
  exact g80 (As := [.int x4, .int 2]) (rest := [.int (s0 - s1)]) c_117_40 rfl rfl (Nat.le_of_ble_eq_true rfl) (Nat.le_of_ble_eq_true rfl) t.1 t.2
set_option maxRecDepth 20000 in
theorem t_117_43 {d : Nat} {h : ab_H} {Q : Option Value → ab_H → Prop} {x0 : Nat} {x1 : Nat} {x2 : Int32} {x3 : Int32} {x4 : Int32} {s0 : Int32} {s1 : Int32} (t : ab_ok h x0 109 = true ∧ ¬ (400 : Int32) = 0 ∧ Q (some (.int (s0 - ((s1 * (ab_i h x0 5)) / 400)))) h) : wq d 117 43 [.ref x0, .ref x1, .int x2, .int x3, .int x4] [.int s1, .int s0] h Q := by
  refine g5 c_117_43 rfl ?_
  obtain ⟨ho, t⟩ := t
  refine g43 c_117_44 ho ?_
  refine g12 c_117_47 ?_
  refine g1 c_117_48 k_400 ?_
  obtain ⟨hy, t⟩ := t
  refine g16 c_117_51 hy ?_
  refine g11 c_117_52 ?_
  exact g90 c_117_53 t
-- method 118: MillTown$Week.bestOrder(LMillTown$Town;I)I
theorem c_118_0 : pg_cd 118 0 = (1, 1, 0, 0, (-1)) := by decide +kernel
theorem c_118_1 : pg_cd 118 1 = (6, 1, 0, 3, 0) := by decide +kernel
theorem c_118_2 : pg_cd 118 2 = (1, 1, 0, 0, 0) := by decide +kernel
theorem c_118_3 : pg_cd 118 3 = (6, 2, 0, 4, 0) := by decide +kernel
theorem c_118_5 : pg_cd 118 5 = (1, 1, 0, 0, 0) := by decide +kernel
theorem c_118_6 : pg_cd 118 6 = (6, 2, 0, 5, 0) := by decide +kernel
theorem c_118_8 : pg_cd 118 8 = (3, 2, 0, 5, 0) := by decide +kernel
theorem c_118_10 : pg_cd 118 10 = (5, 1, 0, 1, 0) := by decide +kernel
theorem c_118_11 : pg_cd 118 11 = (45, 8, 105, 6, 0) := by decide +kernel
theorem c_118_14 : pg_cd 118 14 = (43, 4, 121, 2, 0) := by decide +kernel
theorem c_118_17 : pg_cd 118 17 = (37, 3, 0, 3, 103) := by decide +kernel
theorem c_118_20 : pg_cd 118 20 = (5, 1, 0, 1, 0) := by decide +kernel
theorem c_118_21 : pg_cd 118 21 = (3, 2, 0, 5, 0) := by decide +kernel
theorem c_118_23 : pg_cd 118 23 = (81, 112, 124, 0, 0) := by decide +kernel
theorem c_118_26 : pg_cd 118 26 = (36, 3, 0, 0, 88) := by decide +kernel
theorem c_118_29 : pg_cd 118 29 = (5, 1, 0, 0, 0) := by decide +kernel
theorem c_118_30 : pg_cd 118 30 = (5, 1, 0, 1, 0) := by decide +kernel
theorem c_118_31 : pg_cd 118 31 = (3, 1, 0, 2, 0) := by decide +kernel
theorem c_118_32 : pg_cd 118 32 = (3, 2, 0, 5, 0) := by decide +kernel
theorem c_118_34 : pg_cd 118 34 = (80, 117, 167, 0, 0) := by decide +kernel
theorem c_118_37 : pg_cd 118 37 = (6, 2, 0, 6, 0) := by decide +kernel
theorem c_118_39 : pg_cd 118 39 = (5, 1, 0, 1, 0) := by decide +kernel
theorem c_118_40 : pg_cd 118 40 = (45, 8, 105, 6, 0) := by decide +kernel
theorem c_118_43 : pg_cd 118 43 = (3, 2, 0, 5, 0) := by decide +kernel
theorem c_118_45 : pg_cd 118 45 = (1, 1, 0, 0, 4) := by decide +kernel
theorem c_118_46 : pg_cd 118 46 = (80, 55, 118, 0, 0) := by decide +kernel
theorem c_118_49 : pg_cd 118 49 = (5, 1, 0, 1, 0) := by decide +kernel
theorem c_118_50 : pg_cd 118 50 = (45, 8, 105, 6, 0) := by decide +kernel
theorem c_118_53 : pg_cd 118 53 = (3, 1, 0, 3, 0) := by decide +kernel
theorem c_118_54 : pg_cd 118 54 = (1, 1, 0, 0, 4) := by decide +kernel
theorem c_118_55 : pg_cd 118 55 = (80, 55, 118, 0, 0) := by decide +kernel
theorem c_118_58 : pg_cd 118 58 = (37, 3, 0, 3, 7) := by decide +kernel
theorem c_118_61 : pg_cd 118 61 = (1, 1, 0, 0, 1) := by decide +kernel
theorem c_118_62 : pg_cd 118 62 = (38, 3, 0, 0, 4) := by decide +kernel
theorem c_118_65 : pg_cd 118 65 = (1, 1, 0, 0, 0) := by decide +kernel
theorem c_118_66 : pg_cd 118 66 = (6, 2, 0, 7, 0) := by decide +kernel
theorem c_118_68 : pg_cd 118 68 = (3, 2, 0, 6, 0) := by decide +kernel
theorem c_118_70 : pg_cd 118 70 = (5, 1, 0, 1, 0) := by decide +kernel
theorem c_118_71 : pg_cd 118 71 = (45, 8, 115, 2, 0) := by decide +kernel
theorem c_118_74 : pg_cd 118 74 = (3, 1, 0, 2, 0) := by decide +kernel
theorem c_118_75 : pg_cd 118 75 = (1, 2, 0, 0, 11) := by decide +kernel
theorem c_118_77 : pg_cd 118 77 = (80, 55, 118, 0, 0) := by decide +kernel
theorem c_118_80 : pg_cd 118 80 = (37, 3, 0, 2, 34) := by decide +kernel
theorem c_118_83 : pg_cd 118 83 = (3, 1, 0, 3, 0) := by decide +kernel
theorem c_118_84 : pg_cd 118 84 = (1, 1, 0, 0, (-1)) := by decide +kernel
theorem c_118_85 : pg_cd 118 85 = (37, 3, 0, 0, 22) := by decide +kernel
theorem c_118_88 : pg_cd 118 88 = (3, 2, 0, 6, 0) := by decide +kernel
theorem c_118_90 : pg_cd 118 90 = (3, 2, 0, 4, 0) := by decide +kernel
theorem c_118_92 : pg_cd 118 92 = (37, 3, 0, 4, 15) := by decide +kernel
theorem c_118_95 : pg_cd 118 95 = (3, 2, 0, 6, 0) := by decide +kernel
theorem c_118_97 : pg_cd 118 97 = (3, 2, 0, 4, 0) := by decide +kernel
theorem c_118_99 : pg_cd 118 99 = (37, 3, 0, 1, 15) := by decide +kernel
theorem c_118_102 : pg_cd 118 102 = (3, 2, 0, 7, 0) := by decide +kernel
theorem c_118_104 : pg_cd 118 104 = (36, 3, 0, 0, 10) := by decide +kernel
theorem c_118_107 : pg_cd 118 107 = (3, 2, 0, 5, 0) := by decide +kernel
theorem c_118_109 : pg_cd 118 109 = (6, 1, 0, 3, 0) := by decide +kernel
theorem c_118_110 : pg_cd 118 110 = (3, 2, 0, 6, 0) := by decide +kernel
theorem c_118_112 : pg_cd 118 112 = (6, 2, 0, 4, 0) := by decide +kernel
theorem c_118_114 : pg_cd 118 114 = (9, 3, 0, 5, 1) := by decide +kernel
theorem c_118_117 : pg_cd 118 117 = (38, 3, 0, 0, (-109)) := by decide +kernel
theorem c_118_120 : pg_cd 118 120 = (3, 1, 0, 3, 0) := by decide +kernel
theorem c_118_121 : pg_cd 118 121 = (90, 0, 0, 0, 0) := by decide +kernel
theorem mx_118 : pg_mx 118 = 8 := by decide +kernel
theorem m_118 {d : Nat} {h : ab_H} {Q : Option Value → ab_H → Prop} {x0 : Nat} {x1 : Nat} {x2 : Int32} (t : wq d 118 0 [.ref x0, .ref x1, .int x2, .retAddr 0, .retAddr 0, .retAddr 0, .retAddr 0, .retAddr 0] [] h Q) : wm d 118 [.ref x0, .ref x1, .int x2] h Q := by
  unfold wm
  rw [mx_118]
  exact t
set_option maxRecDepth 20000 in
theorem t_118_0 {d : Nat} {h : ab_H} {Q : Option Value → ab_H → Prop} {x0 : Nat} {x1 : Nat} {x2 : Int32} (t : wq d 118 8 [.ref x0, .ref x1, .int x2, .int (-1), .int 0, .int 0, .retAddr 0, .retAddr 0] [] h Q) : wq d 118 0 [.ref x0, .ref x1, .int x2, .retAddr 0, .retAddr 0, .retAddr 0, .retAddr 0, .retAddr 0] [] h Q := by
  refine g1 c_118_0 k_m1 ?_
  refine g6 (L' := [.ref x0, .ref x1, .int x2, .int (-1), .retAddr 0, .retAddr 0, .retAddr 0, .retAddr 0]) c_118_1 rfl ?_
  refine g1 c_118_2 k_0 ?_
  refine g6 (L' := [.ref x0, .ref x1, .int x2, .int (-1), .int 0, .retAddr 0, .retAddr 0, .retAddr 0]) c_118_3 rfl ?_
  refine g1 c_118_5 k_0 ?_
  refine g6 (L' := [.ref x0, .ref x1, .int x2, .int (-1), .int 0, .int 0, .retAddr 0, .retAddr 0]) c_118_6 rfl ?_
  exact t
set_option maxRecDepth 20000 in
theorem t_118_8 {d : Nat} {h : ab_H} {Q : Option Value → ab_H → Prop} {x0 : Nat} {x1 : Nat} {x2 : Int32} {x3 : Int32} {x4 : Int32} {x5 : Int32} (t : ab_ok h x1 108 = true ∧ ∃ j1 : Nat, ab_r h x1 6 = some j1 ∧ ab_ok h j1 104 = true ∧ if (ab_i h j1 2) ≤ x5 then (Q (some (.int x3)) h) else (wm d 112 [.ref x1, .int x5] h (fun r9 h9 => wq (d + 1) 118 26 [.ref x0, .ref x1, .int x2, .int x3, .int x4, .int x5, .retAddr 0, .retAddr 0] (r9.toList ++ []) h9 Q))) : wq (d + 1) 118 8 [.ref x0, .ref x1, .int x2, .int x3, .int x4, .int x5, .retAddr 0, .retAddr 0] [] h Q := by
  refine g3 c_118_8 rfl ?_
  refine g5 c_118_10 rfl ?_
  obtain ⟨ho, j1, hr, t⟩ := t
  refine g45 c_118_11 ho hr ?_
  obtain ⟨ho, t⟩ := t
  refine g43 c_118_14 ho ?_
  refine gcm c_118_17 (gbr t rfl rfl (fun hc t => ?_) (fun hc t => ?_))
  · refine g3 c_118_120 rfl ?_
    exact g90 c_118_121 t
  · refine g5 c_118_20 rfl ?_
    refine g3 c_118_21 rfl ?_
    exact g81 (As := [.ref x1, .int x5]) (rest := []) c_118_23 rfl rfl (Nat.le_of_ble_eq_true rfl) (Nat.le_of_ble_eq_true rfl) t
set_option maxRecDepth 20000 in
theorem t_118_26 {d : Nat} {h : ab_H} {Q : Option Value → ab_H → Prop} {x0 : Nat} {x1 : Nat} {x2 : Int32} {x3 : Int32} {x4 : Int32} {x5 : Int32} {s0 : Int32} (t : if s0 = 0 then (wq (d + 1) 118 8 [.ref x0, .ref x1, .int x2, .int x3, .int x4, .int (x5 + 1), .retAddr 0, .retAddr 0] [] h Q) else (ab_ok h x0 109 = true ∧ wm d 117 [.ref x0, .ref x1, .int x2, .int x5] h (fun r9 h9 => wq (d + 1) 118 37 [.ref x0, .ref x1, .int x2, .int x3, .int x4, .int x5, .retAddr 0, .retAddr 0] (r9.toList ++ []) h9 Q))) : wq (d + 1) 118 26 [.ref x0, .ref x1, .int x2, .int x3, .int x4, .int x5, .retAddr 0, .retAddr 0] [.int s0] h Q := by
  refine gif c_118_26 (gbr t rfl rfl (fun hc t => ?_) (fun hc t => ?_))
  · refine g9 (L' := [.ref x0, .ref x1, .int x2, .int x3, .int x4, .int (x5 + 1), .retAddr 0, .retAddr 0]) c_118_114 rfl k_1 rfl ?_
    refine g38 c_118_117 rfl ?_
    exact t
  · refine g5 c_118_29 rfl ?_
    refine g5 c_118_30 rfl ?_
    refine g3 c_118_31 rfl ?_
    refine g3 c_118_32 rfl ?_
    exact g80 (As := [.ref x1, .int x2, .int x5]) (rest := []) c_118_34 rfl rfl (Nat.le_of_ble_eq_true rfl) (Nat.le_of_ble_eq_true rfl) t.1 t.2
set_option maxRecDepth 20000 in
theorem t_118_37 {d : Nat} {h : ab_H} {Q : Option Value → ab_H → Prop} {x0 : Nat} {x1 : Nat} {x2 : Int32} {x3 : Int32} {x4 : Int32} {x5 : Int32} {s0 : Int32} (t : ab_ok h x1 108 = true ∧ ∃ j1 : Nat, ab_r h x1 6 = some j1 ∧ ab_ok h j1 104 = true ∧ wm d 55 [.ref j1, .int x5, .int 4] h (fun r9 h9 => wq (d + 1) 118 49 [.ref x0, .ref x1, .int x2, .int x3, .int x4, .int x5, .int s0, .retAddr 0] (r9.toList ++ []) h9 Q)) : wq (d + 1) 118 37 [.ref x0, .ref x1, .int x2, .int x3, .int x4, .int x5, .retAddr 0, .retAddr 0] [.int s0] h Q := by
  refine g6 (L' := [.ref x0, .ref x1, .int x2, .int x3, .int x4, .int x5, .int s0, .retAddr 0]) c_118_37 rfl ?_
  refine g5 c_118_39 rfl ?_
  obtain ⟨ho, j1, hr, t⟩ := t
  refine g45 c_118_40 ho hr ?_
  refine g3 c_118_43 rfl ?_
  refine g1 c_118_45 k_4 ?_
  exact g80 (As := [.int x5, .int 4]) (rest := []) c_118_46 rfl rfl (Nat.le_of_ble_eq_true rfl) (Nat.le_of_ble_eq_true rfl) t.1 t.2
set_option maxRecDepth 20000 in
theorem t_118_49 {d : Nat} {h : ab_H} {Q : Option Value → ab_H → Prop} {x0 : Nat} {x1 : Nat} {x2 : Int32} {x3 : Int32} {x4 : Int32} {x5 : Int32} {x6 : Int32} {s0 : Int32} (t : ab_ok h x1 108 = true ∧ ∃ j1 : Nat, ab_r h x1 6 = some j1 ∧ ab_ok h j1 104 = true ∧ wm d 55 [.ref j1, .int x3, .int 4] h (fun r9 h9 => wq (d + 1) 118 58 [.ref x0, .ref x1, .int x2, .int x3, .int x4, .int x5, .int x6, .retAddr 0] (r9.toList ++ [.int s0]) h9 Q)) : wq (d + 1) 118 49 [.ref x0, .ref x1, .int x2, .int x3, .int x4, .int x5, .int x6, .retAddr 0] [.int s0] h Q := by
  refine g5 c_118_49 rfl ?_
  obtain ⟨ho, j1, hr, t⟩ := t
  refine g45 c_118_50 ho hr ?_
  refine g3 c_118_53 rfl ?_
  refine g1 c_118_54 k_4 ?_
  exact g80 (As := [.int x3, .int 4]) (rest := [.int s0]) c_118_55 rfl rfl (Nat.le_of_ble_eq_true rfl) (Nat.le_of_ble_eq_true rfl) t.1 t.2
set_option maxRecDepth 20000 in
theorem t_118_58 {d : Nat} {h : ab_H} {Q : Option Value → ab_H → Prop} {x0 : Nat} {x1 : Nat} {x2 : Int32} {x3 : Int32} {x4 : Int32} {x5 : Int32} {x6 : Int32} {s0 : Int32} {s1 : Int32} (t : if s1 ≤ s0 then (ab_ok h x1 108 = true ∧ ∃ j1 : Nat, ab_r h x1 2 = some j1 ∧ ab_ok h j1 104 = true ∧ wm d 55 [.ref j1, .int x2, .int 11] h (fun r9 h9 => wq (d + 1) 118 80 [.ref x0, .ref x1, .int x2, .int x3, .int x4, .int x5, .int x6, .int 0] (r9.toList ++ [.int x6]) h9 Q)) else (ab_ok h x1 108 = true ∧ ∃ j2 : Nat, ab_r h x1 2 = some j2 ∧ ab_ok h j2 104 = true ∧ wm d 55 [.ref j2, .int x2, .int 11] h (fun r9 h9 => wq (d + 1) 118 80 [.ref x0, .ref x1, .int x2, .int x3, .int x4, .int x5, .int x6, .int 1] (r9.toList ++ [.int x6]) h9 Q))) : wq (d + 1) 118 58 [.ref x0, .ref x1, .int x2, .int x3, .int x4, .int x5, .int x6, .retAddr 0] [.int s1, .int s0] h Q := by
  refine gcm c_118_58 (gbr t rfl rfl (fun hc t => ?_) (fun hc t => ?_))
  · refine g1 c_118_65 k_0 ?_
    refine g6 (L' := [.ref x0, .ref x1, .int x2, .int x3, .int x4, .int x5, .int x6, .int 0]) c_118_66 rfl ?_
    refine g3 c_118_68 rfl ?_
    refine g5 c_118_70 rfl ?_
    obtain ⟨ho, j1, hr, t⟩ := t
    refine g45 c_118_71 ho hr ?_
    refine g3 c_118_74 rfl ?_
    refine g1 c_118_75 k_11 ?_
    exact g80 (As := [.int x2, .int 11]) (rest := [.int x6]) c_118_77 rfl rfl (Nat.le_of_ble_eq_true rfl) (Nat.le_of_ble_eq_true rfl) t.1 t.2
  · refine g1 c_118_61 k_1 ?_
    refine g38 c_118_62 rfl ?_
    refine g6 (L' := [.ref x0, .ref x1, .int x2, .int x3, .int x4, .int x5, .int x6, .int 1]) c_118_66 rfl ?_
    refine g3 c_118_68 rfl ?_
    refine g5 c_118_70 rfl ?_
    obtain ⟨ho, j2, hr, t⟩ := t
    refine g45 c_118_71 ho hr ?_
    refine g3 c_118_74 rfl ?_
    refine g1 c_118_75 k_11 ?_
    exact g80 (As := [.int x2, .int 11]) (rest := [.int x6]) c_118_77 rfl rfl (Nat.le_of_ble_eq_true rfl) (Nat.le_of_ble_eq_true rfl) t.1 t.2
set_option maxRecDepth 20000 in
theorem t_118_80 {d : Nat} {h : ab_H} {Q : Option Value → ab_H → Prop} {x0 : Nat} {x1 : Nat} {x2 : Int32} {x3 : Int32} {x4 : Int32} {x5 : Int32} {x6 : Int32} {x7 : Int32} {s0 : Int32} {s1 : Int32} (t : if s0 < s1 then (wq d 118 8 [.ref x0, .ref x1, .int x2, .int x3, .int x4, .int (x5 + 1), .int x6, .int x7] [] h Q) else (if x3 = (-1) then (wq d 118 8 [.ref x0, .ref x1, .int x2, .int x5, .int x6, .int (x5 + 1), .int x6, .int x7] [] h Q) else (if x4 < x6 then (wq d 118 8 [.ref x0, .ref x1, .int x2, .int x5, .int x6, .int (x5 + 1), .int x6, .int x7] [] h Q) else (if x6 = x4 then (if x7 = 0 then (wq d 118 8 [.ref x0, .ref x1, .int x2, .int x3, .int x4, .int (x5 + 1), .int x6, .int x7] [] h Q) else (wq d 118 8 [.ref x0, .ref x1, .int x2, .int x5, .int x6, .int (x5 + 1), .int x6, .int x7] [] h Q)) else (wq d 118 8 [.ref x0, .ref x1, .int x2, .int x3, .int x4, .int (x5 + 1), .int x6, .int x7] [] h Q))))) : wq d 118 80 [.ref x0, .ref x1, .int x2, .int x3, .int x4, .int x5, .int x6, .int x7] [.int s1, .int s0] h Q := by
  refine gcm c_118_80 (gbr t rfl rfl (fun hc t => ?_) (fun hc t => ?_))
  · refine g9 (L' := [.ref x0, .ref x1, .int x2, .int x3, .int x4, .int (x5 + 1), .int x6, .int x7]) c_118_114 rfl k_1 rfl ?_
    refine g38 c_118_117 rfl ?_
    exact t
  · refine g3 c_118_83 rfl ?_
    refine g1 c_118_84 k_m1 ?_
    refine gcm c_118_85 (gbr t rfl rfl (fun hc t => ?_) (fun hc t => ?_))
    · refine g3 c_118_107 rfl ?_
      refine g6 (L' := [.ref x0, .ref x1, .int x2, .int x5, .int x4, .int x5, .int x6, .int x7]) c_118_109 rfl ?_
      refine g3 c_118_110 rfl ?_
      refine g6 (L' := [.ref x0, .ref x1, .int x2, .int x5, .int x6, .int x5, .int x6, .int x7]) c_118_112 rfl ?_
      refine g9 (L' := [.ref x0, .ref x1, .int x2, .int x5, .int x6, .int (x5 + 1), .int x6, .int x7]) c_118_114 rfl k_1 rfl ?_
      refine g38 c_118_117 rfl ?_
      exact t
    · refine g3 c_118_88 rfl ?_
      refine g3 c_118_90 rfl ?_
      refine gcm c_118_92 (gbr t rfl rfl (fun hc t => ?_) (fun hc t => ?_))
      · refine g3 c_118_107 rfl ?_
        refine g6 (L' := [.ref x0, .ref x1, .int x2, .int x5, .int x4, .int x5, .int x6, .int x7]) c_118_109 rfl ?_
        refine g3 c_118_110 rfl ?_
        refine g6 (L' := [.ref x0, .ref x1, .int x2, .int x5, .int x6, .int x5, .int x6, .int x7]) c_118_112 rfl ?_
        refine g9 (L' := [.ref x0, .ref x1, .int x2, .int x5, .int x6, .int (x5 + 1), .int x6, .int x7]) c_118_114 rfl k_1 rfl ?_
        refine g38 c_118_117 rfl ?_
        exact t
      · refine g3 c_118_95 rfl ?_
        refine g3 c_118_97 rfl ?_
        refine gcm c_118_99 (gbn t (ab_c1 _ _) rfl (fun hc t => ?_) (fun hc t => ?_))
        · refine g3 c_118_102 rfl ?_
          refine gif c_118_104 (gbr t rfl rfl (fun hc t => ?_) (fun hc t => ?_))
          · refine g9 (L' := [.ref x0, .ref x1, .int x2, .int x3, .int x4, .int (x5 + 1), .int x6, .int x7]) c_118_114 rfl k_1 rfl ?_
            refine g38 c_118_117 rfl ?_
            exact t
          · refine g3 c_118_107 rfl ?_
            refine g6 (L' := [.ref x0, .ref x1, .int x2, .int x5, .int x4, .int x5, .int x6, .int x7]) c_118_109 rfl ?_
            refine g3 c_118_110 rfl ?_
            refine g6 (L' := [.ref x0, .ref x1, .int x2, .int x5, .int x6, .int x5, .int x6, .int x7]) c_118_112 rfl ?_
            refine g9 (L' := [.ref x0, .ref x1, .int x2, .int x5, .int x6, .int (x5 + 1), .int x6, .int x7]) c_118_114 rfl k_1 rfl ?_
            refine g38 c_118_117 rfl ?_
            exact t
        · refine g9 (L' := [.ref x0, .ref x1, .int x2, .int x3, .int x4, .int (x5 + 1), .int x6, .int x7]) c_118_114 rfl k_1 rfl ?_
          refine g38 c_118_117 rfl ?_
          exact t
-- method 119: MillTown$Week.take(LMillTown$Town;II)V
theorem c_119_0 : pg_cd 119 0 = (5, 1, 0, 1, 0) := by decide +kernel
theorem c_119_1 : pg_cd 119 1 = (45, 8, 105, 6, 0) := by decide +kernel
theorem c_119_4 : pg_cd 119 4 = (3, 1, 0, 3, 0) := by decide +kernel
theorem c_119_5 : pg_cd 119 5 = (1, 1, 0, 0, 0) := by decide +kernel
theorem c_119_6 : pg_cd 119 6 = (80, 55, 118, 0, 0) := by decide +kernel
theorem c_119_9 : pg_cd 119 9 = (6, 2, 0, 4, 0) := by decide +kernel
theorem c_119_11 : pg_cd 119 11 = (5, 1, 0, 1, 0) := by decide +kernel
theorem c_119_12 : pg_cd 119 12 = (45, 8, 115, 2, 0) := by decide +kernel
theorem c_119_15 : pg_cd 119 15 = (3, 1, 0, 2, 0) := by decide +kernel
theorem c_119_16 : pg_cd 119 16 = (1, 2, 0, 0, 6) := by decide +kernel
theorem c_119_18 : pg_cd 119 18 = (80, 55, 118, 0, 0) := by decide +kernel
theorem c_119_21 : pg_cd 119 21 = (3, 2, 0, 4, 0) := by decide +kernel
theorem c_119_23 : pg_cd 119 23 = (37, 3, 0, 0, 20) := by decide +kernel
theorem c_119_26 : pg_cd 119 26 = (5, 1, 0, 1, 0) := by decide +kernel
theorem c_119_27 : pg_cd 119 27 = (45, 8, 115, 2, 0) := by decide +kernel
theorem c_119_30 : pg_cd 119 30 = (3, 1, 0, 2, 0) := by decide +kernel
theorem c_119_31 : pg_cd 119 31 = (1, 2, 0, 0, 6) := by decide +kernel
theorem c_119_33 : pg_cd 119 33 = (3, 2, 0, 4, 0) := by decide +kernel
theorem c_119_35 : pg_cd 119 35 = (80, 56, 171, 0, 0) := by decide +kernel
theorem c_119_38 : pg_cd 119 38 = (5, 1, 0, 1, 0) := by decide +kernel
theorem c_119_39 : pg_cd 119 39 = (3, 1, 0, 2, 0) := by decide +kernel
theorem c_119_40 : pg_cd 119 40 = (81, 120, 175, 0, 0) := by decide +kernel
theorem c_119_43 : pg_cd 119 43 = (5, 1, 0, 0, 0) := by decide +kernel
theorem c_119_44 : pg_cd 119 44 = (5, 1, 0, 1, 0) := by decide +kernel
theorem c_119_45 : pg_cd 119 45 = (3, 1, 0, 2, 0) := by decide +kernel
theorem c_119_46 : pg_cd 119 46 = (3, 2, 0, 4, 0) := by decide +kernel
theorem c_119_48 : pg_cd 119 48 = (80, 121, 179, 0, 0) := by decide +kernel
theorem c_119_51 : pg_cd 119 51 = (6, 2, 0, 5, 0) := by decide +kernel
theorem c_119_53 : pg_cd 119 53 = (3, 2, 0, 5, 0) := by decide +kernel
theorem c_119_55 : pg_cd 119 55 = (36, 3, 0, 4, 4) := by decide +kernel
theorem c_119_58 : pg_cd 119 58 = (94, 0, 0, 0, 0) := by decide +kernel
theorem c_119_59 : pg_cd 119 59 = (5, 1, 0, 1, 0) := by decide +kernel
theorem c_119_60 : pg_cd 119 60 = (45, 8, 105, 6, 0) := by decide +kernel
theorem c_119_63 : pg_cd 119 63 = (3, 1, 0, 3, 0) := by decide +kernel
theorem c_119_64 : pg_cd 119 64 = (1, 1, 0, 0, 1) := by decide +kernel
theorem c_119_65 : pg_cd 119 65 = (80, 55, 118, 0, 0) := by decide +kernel
theorem c_119_68 : pg_cd 119 68 = (5, 1, 0, 1, 0) := by decide +kernel
theorem c_119_69 : pg_cd 119 69 = (45, 8, 105, 6, 0) := by decide +kernel
theorem c_119_72 : pg_cd 119 72 = (3, 1, 0, 3, 0) := by decide +kernel
theorem c_119_73 : pg_cd 119 73 = (1, 1, 0, 0, 5) := by decide +kernel
theorem c_119_74 : pg_cd 119 74 = (80, 55, 118, 0, 0) := by decide +kernel
theorem c_119_77 : pg_cd 119 77 = (11, 1, 0, 0, 0) := by decide +kernel
theorem c_119_78 : pg_cd 119 78 = (6, 2, 0, 6, 0) := by decide +kernel
theorem c_119_80 : pg_cd 119 80 = (3, 2, 0, 5, 0) := by decide +kernel
theorem c_119_82 : pg_cd 119 82 = (3, 2, 0, 6, 0) := by decide +kernel
theorem c_119_84 : pg_cd 119 84 = (74, 0, 182, 0, 0) := by decide +kernel
theorem c_119_87 : pg_cd 119 87 = (6, 2, 0, 7, 0) := by decide +kernel
theorem c_119_89 : pg_cd 119 89 = (1, 1, 0, 0, 2) := by decide +kernel
theorem c_119_90 : pg_cd 119 90 = (3, 2, 0, 7, 0) := by decide +kernel
theorem c_119_92 : pg_cd 119 92 = (12, 1, 0, 0, 0) := by decide +kernel
theorem c_119_93 : pg_cd 119 93 = (3, 2, 0, 5, 0) := by decide +kernel
theorem c_119_95 : pg_cd 119 95 = (37, 3, 0, 2, 18) := by decide +kernel
theorem c_119_98 : pg_cd 119 98 = (5, 1, 0, 0, 0) := by decide +kernel
theorem c_119_99 : pg_cd 119 99 = (43, 9, 96, 5, 0) := by decide +kernel
theorem c_119_102 : pg_cd 119 102 = (5, 1, 0, 1, 0) := by decide +kernel
theorem c_119_103 : pg_cd 119 103 = (43, 8, 187, 12, 0) := by decide +kernel
theorem c_119_106 : pg_cd 119 106 = (37, 3, 0, 4, 7) := by decide +kernel
theorem c_119_109 : pg_cd 119 109 = (1, 1, 0, 0, 1) := by decide +kernel
theorem c_119_110 : pg_cd 119 110 = (38, 3, 0, 0, 4) := by decide +kernel
theorem c_119_113 : pg_cd 119 113 = (1, 1, 0, 0, 0) := by decide +kernel
theorem c_119_114 : pg_cd 119 114 = (6, 2, 0, 8, 0) := by decide +kernel
theorem c_119_116 : pg_cd 119 116 = (5, 1, 0, 1, 0) := by decide +kernel
theorem c_119_117 : pg_cd 119 117 = (45, 8, 105, 6, 0) := by decide +kernel
theorem c_119_120 : pg_cd 119 120 = (3, 1, 0, 3, 0) := by decide +kernel
theorem c_119_121 : pg_cd 119 121 = (1, 1, 0, 0, 5) := by decide +kernel
theorem c_119_122 : pg_cd 119 122 = (3, 2, 0, 7, 0) := by decide +kernel
theorem c_119_124 : pg_cd 119 124 = (80, 57, 190, 0, 0) := by decide +kernel
theorem c_119_127 : pg_cd 119 127 = (5, 1, 0, 1, 0) := by decide +kernel
theorem c_119_128 : pg_cd 119 128 = (45, 8, 115, 2, 0) := by decide +kernel
theorem c_119_131 : pg_cd 119 131 = (3, 1, 0, 2, 0) := by decide +kernel
theorem c_119_132 : pg_cd 119 132 = (1, 2, 0, 0, 12) := by decide +kernel
theorem c_119_134 : pg_cd 119 134 = (3, 2, 0, 7, 0) := by decide +kernel
theorem c_119_136 : pg_cd 119 136 = (80, 56, 171, 0, 0) := by decide +kernel
theorem c_119_139 : pg_cd 119 139 = (5, 1, 0, 1, 0) := by decide +kernel
theorem c_119_140 : pg_cd 119 140 = (45, 8, 115, 2, 0) := by decide +kernel
theorem c_119_143 : pg_cd 119 143 = (3, 1, 0, 2, 0) := by decide +kernel
theorem c_119_144 : pg_cd 119 144 = (1, 2, 0, 0, 8) := by decide +kernel
theorem c_119_146 : pg_cd 119 146 = (3, 1, 0, 3, 0) := by decide +kernel
theorem c_119_147 : pg_cd 119 147 = (80, 56, 171, 0, 0) := by decide +kernel
theorem c_119_150 : pg_cd 119 150 = (5, 1, 0, 1, 0) := by decide +kernel
theorem c_119_151 : pg_cd 119 151 = (45, 8, 115, 2, 0) := by decide +kernel
theorem c_119_154 : pg_cd 119 154 = (3, 1, 0, 2, 0) := by decide +kernel
theorem c_119_155 : pg_cd 119 155 = (1, 2, 0, 0, 7) := by decide +kernel
theorem c_119_157 : pg_cd 119 157 = (3, 2, 0, 8, 0) := by decide +kernel
theorem c_119_159 : pg_cd 119 159 = (36, 3, 0, 0, 7) := by decide +kernel
theorem c_119_162 : pg_cd 119 162 = (1, 1, 0, 0, 2) := by decide +kernel
theorem c_119_163 : pg_cd 119 163 = (38, 3, 0, 0, 4) := by decide +kernel
theorem c_119_166 : pg_cd 119 166 = (1, 1, 0, 0, 1) := by decide +kernel
theorem c_119_167 : pg_cd 119 167 = (80, 56, 171, 0, 0) := by decide +kernel
theorem c_119_170 : pg_cd 119 170 = (94, 0, 0, 0, 0) := by decide +kernel
theorem mx_119 : pg_mx 119 = 9 := by decide +kernel
theorem m_119 {d : Nat} {h : ab_H} {Q : Option Value → ab_H → Prop} {x0 : Nat} {x1 : Nat} {x2 : Int32} {x3 : Int32} (t : wq d 119 0 [.ref x0, .ref x1, .int x2, .int x3, .retAddr 0, .retAddr 0, .retAddr 0, .retAddr 0, .retAddr 0] [] h Q) : wm d 119 [.ref x0, .ref x1, .int x2, .int x3] h Q := by
  unfold wm
  rw [mx_119]
  exact t
set_option maxRecDepth 20000 in
theorem t_119_0 {d : Nat} {h : ab_H} {Q : Option Value → ab_H → Prop} {x0 : Nat} {x1 : Nat} {x2 : Int32} {x3 : Int32} (t : ab_ok h x1 108 = true ∧ ∃ j1 : Nat, ab_r h x1 6 = some j1 ∧ ab_ok h j1 104 = true ∧ wm d 55 [.ref j1, .int x3, .int 0] h (fun r9 h9 => wq (d + 1) 119 9 [.ref x0, .ref x1, .int x2, .int x3, .retAddr 0, .retAddr 0, .retAddr 0, .retAddr 0, .retAddr 0] (r9.toList ++ []) h9 Q)) : wq (d + 1) 119 0 [.ref x0, .ref x1, .int x2, .int x3, .retAddr 0, .retAddr 0, .retAddr 0, .retAddr 0, .retAddr 0] [] h Q := by
  refine g5 c_119_0 rfl ?_
  obtain ⟨ho, j1, hr, t⟩ := t
  refine g45 c_119_1 ho hr ?_
  refine g3 c_119_4 rfl ?_
  refine g1 c_119_5 k_0 ?_
  exact g80 (As := [.int x3, .int 0]) (rest := []) c_119_6 rfl rfl (Nat.le_of_ble_eq_true rfl) (Nat.le_of_ble_eq_true rfl) t.1 t.2
set_option maxRecDepth 20000 in
theorem t_119_9 {d : Nat} {h : ab_H} {Q : Option Value → ab_H → Prop} {x0 : Nat} {x1 : Nat} {x2 : Int32} {x3 : Int32} {s0 : Int32} (t : ab_ok h x1 108 = true ∧ ∃ j1 : Nat, ab_r h x1 2 = some j1 ∧ ab_ok h j1 104 = true ∧ wm d 55 [.ref j1, .int x2, .int 6] h (fun r9 h9 => wq (d + 1) 119 21 [.ref x0, .ref x1, .int x2, .int x3, .int s0, .retAddr 0, .retAddr 0, .retAddr 0, .retAddr 0] (r9.toList ++ []) h9 Q)) : wq (d + 1) 119 9 [.ref x0, .ref x1, .int x2, .int x3, .retAddr 0, .retAddr 0, .retAddr 0, .retAddr 0, .retAddr 0] [.int s0] h Q := by
  refine g6 (L' := [.ref x0, .ref x1, .int x2, .int x3, .int s0, .retAddr 0, .retAddr 0, .retAddr 0, .retAddr 0]) c_119_9 rfl ?_
  refine g5 c_119_11 rfl ?_
  obtain ⟨ho, j1, hr, t⟩ := t
  refine g45 c_119_12 ho hr ?_
  refine g3 c_119_15 rfl ?_
  refine g1 c_119_16 k_6 ?_
  exact g80 (As := [.int x2, .int 6]) (rest := []) c_119_18 rfl rfl (Nat.le_of_ble_eq_true rfl) (Nat.le_of_ble_eq_true rfl) t.1 t.2
set_option maxRecDepth 20000 in
theorem t_119_21 {d : Nat} {h : ab_H} {Q : Option Value → ab_H → Prop} {x0 : Nat} {x1 : Nat} {x2 : Int32} {x3 : Int32} {x4 : Int32} {s0 : Int32} (t : if s0 = x4 then (ab_ok h x0 109 = true ∧ wm d 121 [.ref x0, .ref x1, .int x2, .int x4] h (fun r9 h9 => wq (d + 1) 119 51 [.ref x0, .ref x1, .int x2, .int x3, .int x4, .retAddr 0, .retAddr 0, .retAddr 0, .retAddr 0] (r9.toList ++ []) h9 Q)) else (ab_ok h x1 108 = true ∧ ∃ j1 : Nat, ab_r h x1 2 = some j1 ∧ ab_ok h j1 104 = true ∧ wm d 56 [.ref j1, .int x2, .int 6, .int x4] h (fun r9 h9 => wq (d + 1) 119 38 [.ref x0, .ref x1, .int x2, .int x3, .int x4, .retAddr 0, .retAddr 0, .retAddr 0, .retAddr 0] (r9.toList ++ []) h9 Q))) : wq (d + 1) 119 21 [.ref x0, .ref x1, .int x2, .int x3, .int x4, .retAddr 0, .retAddr 0, .retAddr 0, .retAddr 0] [.int s0] h Q := by
  refine g3 c_119_21 rfl ?_
  refine gcm c_119_23 (gbr t rfl rfl (fun hc t => ?_) (fun hc t => ?_))
  · refine g5 c_119_43 rfl ?_
    refine g5 c_119_44 rfl ?_
    refine g3 c_119_45 rfl ?_
    refine g3 c_119_46 rfl ?_
    exact g80 (As := [.ref x1, .int x2, .int x4]) (rest := []) c_119_48 rfl rfl (Nat.le_of_ble_eq_true rfl) (Nat.le_of_ble_eq_true rfl) t.1 t.2
  · refine g5 c_119_26 rfl ?_
    obtain ⟨ho, j1, hr, t⟩ := t
    refine g45 c_119_27 ho hr ?_
    refine g3 c_119_30 rfl ?_
    refine g1 c_119_31 k_6 ?_
    refine g3 c_119_33 rfl ?_
    exact g80 (As := [.int x2, .int 6, .int x4]) (rest := []) c_119_35 rfl rfl (Nat.le_of_ble_eq_true rfl) (Nat.le_of_ble_eq_true rfl) t.1 t.2
set_option maxRecDepth 20000 in
theorem t_119_38 {d : Nat} {h : ab_H} {Q : Option Value → ab_H → Prop} {x0 : Nat} {x1 : Nat} {x2 : Int32} {x3 : Int32} {x4 : Int32} (t : wm d 120 [.ref x1, .int x2] h (fun r9 h9 => wq (d + 1) 119 43 [.ref x0, .ref x1, .int x2, .int x3, .int x4, .retAddr 0, .retAddr 0, .retAddr 0, .retAddr 0] (r9.toList ++ []) h9 Q)) : wq (d + 1) 119 38 [.ref x0, .ref x1, .int x2, .int x3, .int x4, .retAddr 0, .retAddr 0, .retAddr 0, .retAddr 0] [] h Q := by
  refine g5 c_119_38 rfl ?_
  refine g3 c_119_39 rfl ?_
  exact g81 (As := [.ref x1, .int x2]) (rest := []) c_119_40 rfl rfl (Nat.le_of_ble_eq_true rfl) (Nat.le_of_ble_eq_true rfl) t
set_option maxRecDepth 20000 in
theorem t_119_43 {d : Nat} {h : ab_H} {Q : Option Value → ab_H → Prop} {x0 : Nat} {x1 : Nat} {x2 : Int32} {x3 : Int32} {x4 : Int32} (t : ab_ok h x0 109 = true ∧ wm d 121 [.ref x0, .ref x1, .int x2, .int x4] h (fun r9 h9 => wq (d + 1) 119 51 [.ref x0, .ref x1, .int x2, .int x3, .int x4, .retAddr 0, .retAddr 0, .retAddr 0, .retAddr 0] (r9.toList ++ []) h9 Q)) : wq (d + 1) 119 43 [.ref x0, .ref x1, .int x2, .int x3, .int x4, .retAddr 0, .retAddr 0, .retAddr 0, .retAddr 0] [] h Q := by
  refine g5 c_119_43 rfl ?_
  refine g5 c_119_44 rfl ?_
  refine g3 c_119_45 rfl ?_
  refine g3 c_119_46 rfl ?_
  exact g80 (As := [.ref x1, .int x2, .int x4]) (rest := []) c_119_48 rfl rfl (Nat.le_of_ble_eq_true rfl) (Nat.le_of_ble_eq_true rfl) t.1 t.2
set_option maxRecDepth 20000 in
theorem t_119_51 {d : Nat} {h : ab_H} {Q : Option Value → ab_H → Prop} {x0 : Nat} {x1 : Nat} {x2 : Int32} {x3 : Int32} {x4 : Int32} {s0 : Int32} (t : if 0 < s0 then (ab_ok h x1 108 = true ∧ ∃ j1 : Nat, ab_r h x1 6 = some j1 ∧ ab_ok h j1 104 = true ∧ wm d 55 [.ref j1, .int x3, .int 1] h (fun r9 h9 => wq (d + 1) 119 68 [.ref x0, .ref x1, .int x2, .int x3, .int x4, .int s0, .retAddr 0, .retAddr 0, .retAddr 0] (r9.toList ++ []) h9 Q)) else (Q none h)) : wq (d + 1) 119 51 [.ref x0, .ref x1, .int x2, .int x3, .int x4, .retAddr 0, .retAddr 0, .retAddr 0, .retAddr 0] [.int s0] h Q := by
  refine g6 (L' := [.ref x0, .ref x1, .int x2, .int x3, .int x4, .int s0, .retAddr 0, .retAddr 0, .retAddr 0]) c_119_51 rfl ?_
  refine g3 c_119_53 rfl ?_
  refine gif c_119_55 (gbr t rfl rfl (fun hc t => ?_) (fun hc t => ?_))
  · refine g5 c_119_59 rfl ?_
    obtain ⟨ho, j1, hr, t⟩ := t
    refine g45 c_119_60 ho hr ?_
    refine g3 c_119_63 rfl ?_
    refine g1 c_119_64 k_1 ?_
    exact g80 (As := [.int x3, .int 1]) (rest := []) c_119_65 rfl rfl (Nat.le_of_ble_eq_true rfl) (Nat.le_of_ble_eq_true rfl) t.1 t.2
  · exact g94 c_119_58 t
set_option maxRecDepth 20000 in
theorem t_119_68 {d : Nat} {h : ab_H} {Q : Option Value → ab_H → Prop} {x0 : Nat} {x1 : Nat} {x2 : Int32} {x3 : Int32} {x4 : Int32} {x5 : Int32} {s0 : Int32} (t : ab_ok h x1 108 = true ∧ ∃ j1 : Nat, ab_r h x1 6 = some j1 ∧ ab_ok h j1 104 = true ∧ wm d 55 [.ref j1, .int x3, .int 5] h (fun r9 h9 => wq (d + 1) 119 77 [.ref x0, .ref x1, .int x2, .int x3, .int x4, .int x5, .retAddr 0, .retAddr 0, .retAddr 0] (r9.toList ++ [.int s0]) h9 Q)) : wq (d + 1) 119 68 [.ref x0, .ref x1, .int x2, .int x3, .int x4, .int x5, .retAddr 0, .retAddr 0, .retAddr 0] [.int s0] h Q := by
  refine g5 c_119_68 rfl ?_
  obtain ⟨ho, j1, hr, t⟩ := t
  refine g45 c_119_69 ho hr ?_
  refine g3 c_119_72 rfl ?_
  refine g1 c_119_73 k_5 ?_
  exact g80 (As := [.int x3, .int 5]) (rest := [.int s0]) c_119_74 rfl rfl (Nat.le_of_ble_eq_true rfl) (Nat.le_of_ble_eq_true rfl) t.1 t.2
set_option maxRecDepth 20000 in
theorem t_119_77 {d : Nat} {h : ab_H} {Q : Option Value → ab_H → Prop} {x0 : Nat} {x1 : Nat} {x2 : Int32} {x3 : Int32} {x4 : Int32} {x5 : Int32} {s0 : Int32} {s1 : Int32} (t : 7 ≤ (d + 1) ∧ if (2 * (if (s0 - s1) < x5 then (s0 - s1) else x5)) < x5 then (ab_ok h x1 108 = true ∧ ∃ j1 : Nat, ab_r h x1 6 = some j1 ∧ ab_ok h j1 104 = true ∧ wm d 57 [.ref j1, .int x3, .int 5, .int (if (s0 - s1) < x5 then (s0 - s1) else x5)] h (fun r9 h9 => wq (d + 1) 119 127 [.ref x0, .ref x1, .int x2, .int x3, .int x4, .int x5, .int (s0 - s1), .int (if (s0 - s1) < x5 then (s0 - s1) else x5), .int 0] (r9.toList ++ []) h9 Q)) else (ab_ok h x0 109 = true ∧ ab_ok h x1 108 = true ∧ if (ab_i h x1 12) < (ab_i h x0 5) then (ab_ok h x1 108 = true ∧ ∃ j2 : Nat, ab_r h x1 6 = some j2 ∧ ab_ok h j2 104 = true ∧ wm d 57 [.ref j2, .int x3, .int 5, .int (if (s0 - s1) < x5 then (s0 - s1) else x5)] h (fun r9 h9 => wq (d + 1) 119 127 [.ref x0, .ref x1, .int x2, .int x3, .int x4, .int x5, .int (s0 - s1), .int (if (s0 - s1) < x5 then (s0 - s1) else x5), .int 0] (r9.toList ++ []) h9 Q)) else (ab_ok h x1 108 = true ∧ ∃ j3 : Nat, ab_r h x1 6 = some j3 ∧ ab_ok h j3 104 = true ∧ wm d 57 [.ref j3, .int x3, .int 5, .int (if (s0 - s1) < x5 then (s0 - s1) else x5)] h (fun r9 h9 => wq (d + 1) 119 127 [.ref x0, .ref x1, .int x2, .int x3, .int x4, .int x5, .int (s0 - s1), .int (if (s0 - s1) < x5 then (s0 - s1) else x5), .int 1] (r9.toList ++ []) h9 Q)))) : wq (d + 1) 119 77 [.ref x0, .ref x1, .int x2, .int x3, .int x4, .int x5, .retAddr 0, .retAddr 0, .retAddr 0] [.int s1, .int s0] h Q := by
  refine g11 c_119_77 ?_
  refine g6 (L' := [.ref x0, .ref x1, .int x2, .int x3, .int x4, .int x5, .int (s0 - s1), .retAddr 0, .retAddr 0]) c_119_78 rfl ?_
  refine g3 c_119_80 rfl ?_
  refine g3 c_119_82 rfl ?_
  obtain ⟨h7, t⟩ := t
  refine g74 c_119_84 (Nat.le_of_ble_eq_true rfl) h7 ?_
  refine g6 (L' := [.ref x0, .ref x1, .int x2, .int x3, .int x4, .int x5, .int (s0 - s1), .int (if (s0 - s1) < x5 then (s0 - s1) else x5), .retAddr 0]) c_119_87 rfl ?_
  refine g1 c_119_89 k_2 ?_
  refine g3 c_119_90 rfl ?_
  refine g12 c_119_92 ?_
  refine g3 c_119_93 rfl ?_
  refine gcm c_119_95 (gbr t rfl rfl (fun hc t => ?_) (fun hc t => ?_))
  · refine g1 c_119_113 k_0 ?_
    refine g6 (L' := [.ref x0, .ref x1, .int x2, .int x3, .int x4, .int x5, .int (s0 - s1), .int (if (s0 - s1) < x5 then (s0 - s1) else x5), .int 0]) c_119_114 rfl ?_
    refine g5 c_119_116 rfl ?_
    obtain ⟨ho, j1, hr, t⟩ := t
    refine g45 c_119_117 ho hr ?_
    refine g3 c_119_120 rfl ?_
    refine g1 c_119_121 k_5 ?_
    refine g3 c_119_122 rfl ?_
    exact g80 (As := [.int x3, .int 5, .int (if (s0 - s1) < x5 then (s0 - s1) else x5)]) (rest := []) c_119_124 rfl rfl (Nat.le_of_ble_eq_true rfl) (Nat.le_of_ble_eq_true rfl) t.1 t.2
  · refine g5 c_119_98 rfl ?_
    obtain ⟨ho, t⟩ := t
    refine g43 c_119_99 ho ?_
    refine g5 c_119_102 rfl ?_
    obtain ⟨ho, t⟩ := t
    refine g43 c_119_103 ho ?_
    refine gcm c_119_106 (gbr t rfl rfl (fun hc t => ?_) (fun hc t => ?_))
    · refine g1 c_119_113 k_0 ?_
      refine g6 (L' := [.ref x0, .ref x1, .int x2, .int x3, .int x4, .int x5, .int (s0 - s1), .int (if (s0 - s1) < x5 then (s0 - s1) else x5), .int 0]) c_119_114 rfl ?_
      refine g5 c_119_116 rfl ?_
      obtain ⟨ho, j2, hr, t⟩ := t
      refine g45 c_119_117 ho hr ?_
      refine g3 c_119_120 rfl ?_
      refine g1 c_119_121 k_5 ?_
      refine g3 c_119_122 rfl ?_
      exact g80 (As := [.int x3, .int 5, .int (if (s0 - s1) < x5 then (s0 - s1) else x5)]) (rest := []) c_119_124 rfl rfl (Nat.le_of_ble_eq_true rfl) (Nat.le_of_ble_eq_true rfl) t.1 t.2
    · refine g1 c_119_109 k_1 ?_
      refine g38 c_119_110 rfl ?_
      refine g6 (L' := [.ref x0, .ref x1, .int x2, .int x3, .int x4, .int x5, .int (s0 - s1), .int (if (s0 - s1) < x5 then (s0 - s1) else x5), .int 1]) c_119_114 rfl ?_
      refine g5 c_119_116 rfl ?_
      obtain ⟨ho, j3, hr, t⟩ := t
      refine g45 c_119_117 ho hr ?_
      refine g3 c_119_120 rfl ?_
      refine g1 c_119_121 k_5 ?_
      refine g3 c_119_122 rfl ?_
      exact g80 (As := [.int x3, .int 5, .int (if (s0 - s1) < x5 then (s0 - s1) else x5)]) (rest := []) c_119_124 rfl rfl (Nat.le_of_ble_eq_true rfl) (Nat.le_of_ble_eq_true rfl) t.1 t.2
set_option maxRecDepth 20000 in
theorem t_119_127 {d : Nat} {h : ab_H} {Q : Option Value → ab_H → Prop} {x0 : Nat} {x1 : Nat} {x2 : Int32} {x3 : Int32} {x4 : Int32} {x5 : Int32} {x6 : Int32} {x7 : Int32} {x8 : Int32} (t : ab_ok h x1 108 = true ∧ ∃ j1 : Nat, ab_r h x1 2 = some j1 ∧ ab_ok h j1 104 = true ∧ wm d 56 [.ref j1, .int x2, .int 12, .int x7] h (fun r9 h9 => wq (d + 1) 119 139 [.ref x0, .ref x1, .int x2, .int x3, .int x4, .int x5, .int x6, .int x7, .int x8] (r9.toList ++ []) h9 Q)) : wq (d + 1) 119 127 [.ref x0, .ref x1, .int x2, .int x3, .int x4, .int x5, .int x6, .int x7, .int x8] [] h Q := by
  refine g5 c_119_127 rfl ?_
  obtain ⟨ho, j1, hr, t⟩ := t
  refine g45 c_119_128 ho hr ?_
  refine g3 c_119_131 rfl ?_
  refine g1 c_119_132 k_12 ?_
  refine g3 c_119_134 rfl ?_
  exact g80 (As := [.int x2, .int 12, .int x7]) (rest := []) c_119_136 rfl rfl (Nat.le_of_ble_eq_true rfl) (Nat.le_of_ble_eq_true rfl) t.1 t.2
set_option maxRecDepth 20000 in
theorem t_119_139 {d : Nat} {h : ab_H} {Q : Option Value → ab_H → Prop} {x0 : Nat} {x1 : Nat} {x2 : Int32} {x3 : Int32} {x4 : Int32} {x5 : Int32} {x6 : Int32} {x7 : Int32} {x8 : Int32} (t : ab_ok h x1 108 = true ∧ ∃ j1 : Nat, ab_r h x1 2 = some j1 ∧ ab_ok h j1 104 = true ∧ wm d 56 [.ref j1, .int x2, .int 8, .int x3] h (fun r9 h9 => wq (d + 1) 119 150 [.ref x0, .ref x1, .int x2, .int x3, .int x4, .int x5, .int x6, .int x7, .int x8] (r9.toList ++ []) h9 Q)) : wq (d + 1) 119 139 [.ref x0, .ref x1, .int x2, .int x3, .int x4, .int x5, .int x6, .int x7, .int x8] [] h Q := by
  refine g5 c_119_139 rfl ?_
  obtain ⟨ho, j1, hr, t⟩ := t
  refine g45 c_119_140 ho hr ?_
  refine g3 c_119_143 rfl ?_
  refine g1 c_119_144 k_8 ?_
  refine g3 c_119_146 rfl ?_
  exact g80 (As := [.int x2, .int 8, .int x3]) (rest := []) c_119_147 rfl rfl (Nat.le_of_ble_eq_true rfl) (Nat.le_of_ble_eq_true rfl) t.1 t.2
set_option maxRecDepth 20000 in
theorem t_119_150 {d : Nat} {h : ab_H} {Q : Option Value → ab_H → Prop} {x0 : Nat} {x1 : Nat} {x2 : Int32} {x3 : Int32} {x4 : Int32} {x5 : Int32} {x6 : Int32} {x7 : Int32} {x8 : Int32} (t : ab_ok h x1 108 = true ∧ ∃ j1 : Nat, ab_r h x1 2 = some j1 ∧ if x8 = 0 then (ab_ok h j1 104 = true ∧ wm d 56 [.ref j1, .int x2, .int 7, .int 1] h (fun r9 h9 => wq (d + 1) 119 170 [.ref x0, .ref x1, .int x2, .int x3, .int x4, .int x5, .int x6, .int x7, .int x8] (r9.toList ++ []) h9 Q)) else (ab_ok h j1 104 = true ∧ wm d 56 [.ref j1, .int x2, .int 7, .int 2] h (fun r9 h9 => wq (d + 1) 119 170 [.ref x0, .ref x1, .int x2, .int x3, .int x4, .int x5, .int x6, .int x7, .int x8] (r9.toList ++ []) h9 Q))) : wq (d + 1) 119 150 [.ref x0, .ref x1, .int x2, .int x3, .int x4, .int x5, .int x6, .int x7, .int x8] [] h Q := by
  refine g5 c_119_150 rfl ?_
  obtain ⟨ho, j1, hr, t⟩ := t
  refine g45 c_119_151 ho hr ?_
  refine g3 c_119_154 rfl ?_
  refine g1 c_119_155 k_7 ?_
  refine g3 c_119_157 rfl ?_
  refine gif c_119_159 (gbr t rfl rfl (fun hc t => ?_) (fun hc t => ?_))
  · refine g1 c_119_166 k_1 ?_
    exact g80 (As := [.int x2, .int 7, .int 1]) (rest := []) c_119_167 rfl rfl (Nat.le_of_ble_eq_true rfl) (Nat.le_of_ble_eq_true rfl) t.1 t.2
  · refine g1 c_119_162 k_2 ?_
    refine g38 c_119_163 rfl ?_
    exact g80 (As := [.int x2, .int 7, .int 2]) (rest := []) c_119_167 rfl rfl (Nat.le_of_ble_eq_true rfl) (Nat.le_of_ble_eq_true rfl) t.1 t.2
set_option maxRecDepth 20000 in
theorem t_119_170 {d : Nat} {h : ab_H} {Q : Option Value → ab_H → Prop} {x0 : Nat} {x1 : Nat} {x2 : Int32} {x3 : Int32} {x4 : Int32} {x5 : Int32} {x6 : Int32} {x7 : Int32} {x8 : Int32} (t : Q none h) : wq d 119 170 [.ref x0, .ref x1, .int x2, .int x3, .int x4, .int x5, .int x6, .int x7, .int x8] [] h Q := by
  exact g94 c_119_170 t
-- method 120: MillTown$Week.clearRests(LMillTown$Town;I)V
theorem c_120_0 : pg_cd 120 0 = (1, 1, 0, 0, 0) := by decide +kernel
theorem c_120_1 : pg_cd 120 1 = (6, 1, 0, 2, 0) := by decide +kernel
theorem c_120_2 : pg_cd 120 2 = (3, 1, 0, 2, 0) := by decide +kernel
theorem c_120_3 : pg_cd 120 3 = (5, 1, 0, 0, 0) := by decide +kernel
theorem c_120_4 : pg_cd 120 4 = (45, 8, 143, 5, 0) := by decide +kernel
theorem c_120_7 : pg_cd 120 7 = (43, 4, 121, 2, 0) := by decide +kernel
theorem c_120_10 : pg_cd 120 10 = (37, 3, 0, 3, 33) := by decide +kernel
theorem c_120_13 : pg_cd 120 13 = (5, 1, 0, 0, 0) := by decide +kernel
theorem c_120_14 : pg_cd 120 14 = (45, 8, 143, 5, 0) := by decide +kernel
theorem c_120_17 : pg_cd 120 17 = (3, 1, 0, 2, 0) := by decide +kernel
theorem c_120_18 : pg_cd 120 18 = (1, 1, 0, 0, 4) := by decide +kernel
theorem c_120_19 : pg_cd 120 19 = (80, 55, 118, 0, 0) := by decide +kernel
theorem c_120_22 : pg_cd 120 22 = (3, 1, 0, 1, 0) := by decide +kernel
theorem c_120_23 : pg_cd 120 23 = (37, 3, 0, 1, 14) := by decide +kernel
theorem c_120_26 : pg_cd 120 26 = (5, 1, 0, 0, 0) := by decide +kernel
theorem c_120_27 : pg_cd 120 27 = (45, 8, 143, 5, 0) := by decide +kernel
theorem c_120_30 : pg_cd 120 30 = (3, 1, 0, 2, 0) := by decide +kernel
theorem c_120_31 : pg_cd 120 31 = (1, 2, 0, 0, 7) := by decide +kernel
theorem c_120_33 : pg_cd 120 33 = (1, 1, 0, 0, 0) := by decide +kernel
theorem c_120_34 : pg_cd 120 34 = (80, 56, 171, 0, 0) := by decide +kernel
theorem c_120_37 : pg_cd 120 37 = (9, 3, 0, 2, 1) := by decide +kernel
theorem c_120_40 : pg_cd 120 40 = (38, 3, 0, 0, (-38)) := by decide +kernel
theorem c_120_43 : pg_cd 120 43 = (94, 0, 0, 0, 0) := by decide +kernel
theorem mx_120 : pg_mx 120 = 3 := by decide +kernel
theorem m_120 {d : Nat} {h : ab_H} {Q : Option Value → ab_H → Prop} {x0 : Nat} {x1 : Int32} (t : wq d 120 0 [.ref x0, .int x1, .retAddr 0] [] h Q) : wm d 120 [.ref x0, .int x1] h Q := by
  unfold wm
  rw [mx_120]
  exact t
set_option maxRecDepth 20000 in
theorem t_120_0 {d : Nat} {h : ab_H} {Q : Option Value → ab_H → Prop} {x0 : Nat} {x1 : Int32} (t : wq d 120 2 [.ref x0, .int x1, .int 0] [] h Q) : wq d 120 0 [.ref x0, .int x1, .retAddr 0] [] h Q := by
  refine g1 c_120_0 k_0 ?_
  refine g6 (L' := [.ref x0, .int x1, .int 0]) c_120_1 rfl ?_
  exact t
set_option maxRecDepth 20000 in
theorem t_120_2 {d : Nat} {h : ab_H} {Q : Option Value → ab_H → Prop} {x0 : Nat} {x1 : Int32} {x2 : Int32} (t : ab_ok h x0 108 = true ∧ ∃ j1 : Nat, ab_r h x0 5 = some j1 ∧ ab_ok h j1 104 = true ∧ if (ab_i h j1 2) ≤ x2 then (Q none h) else (ab_ok h x0 108 = true ∧ ∃ j2 : Nat, ab_r h x0 5 = some j2 ∧ ab_ok h j2 104 = true ∧ wm d 55 [.ref j2, .int x2, .int 4] h (fun r9 h9 => wq (d + 1) 120 22 [.ref x0, .int x1, .int x2] (r9.toList ++ []) h9 Q))) : wq (d + 1) 120 2 [.ref x0, .int x1, .int x2] [] h Q := by
  refine g3 c_120_2 rfl ?_
  refine g5 c_120_3 rfl ?_
  obtain ⟨ho, j1, hr, t⟩ := t
  refine g45 c_120_4 ho hr ?_
  obtain ⟨ho, t⟩ := t
  refine g43 c_120_7 ho ?_
  refine gcm c_120_10 (gbr t rfl rfl (fun hc t => ?_) (fun hc t => ?_))
  · exact g94 c_120_43 t
  · refine g5 c_120_13 rfl ?_
    obtain ⟨ho, j2, hr, t⟩ := t
    refine g45 c_120_14 ho hr ?_
    refine g3 c_120_17 rfl ?_
    refine g1 c_120_18 k_4 ?_
    exact g80 (As := [.int x2, .int 4]) (rest := []) c_120_19 rfl rfl (Nat.le_of_ble_eq_true rfl) (Nat.le_of_ble_eq_true rfl) t.1 t.2
set_option maxRecDepth 20000 in
theorem t_120_22 {d : Nat} {h : ab_H} {Q : Option Value → ab_H → Prop} {x0 : Nat} {x1 : Int32} {x2 : Int32} {s0 : Int32} (t : if s0 = x1 then (ab_ok h x0 108 = true ∧ ∃ j1 : Nat, ab_r h x0 5 = some j1 ∧ ab_ok h j1 104 = true ∧ wm d 56 [.ref j1, .int x2, .int 7, .int 0] h (fun r9 h9 => wq (d + 1) 120 37 [.ref x0, .int x1, .int x2] (r9.toList ++ []) h9 Q)) else (wq (d + 1) 120 2 [.ref x0, .int x1, .int (x2 + 1)] [] h Q)) : wq (d + 1) 120 22 [.ref x0, .int x1, .int x2] [.int s0] h Q := by
  refine g3 c_120_22 rfl ?_
  refine gcm c_120_23 (gbn t (ab_c1 _ _) rfl (fun hc t => ?_) (fun hc t => ?_))
  · refine g5 c_120_26 rfl ?_
    obtain ⟨ho, j1, hr, t⟩ := t
    refine g45 c_120_27 ho hr ?_
    refine g3 c_120_30 rfl ?_
    refine g1 c_120_31 k_7 ?_
    refine g1 c_120_33 k_0 ?_
    exact g80 (As := [.int x2, .int 7, .int 0]) (rest := []) c_120_34 rfl rfl (Nat.le_of_ble_eq_true rfl) (Nat.le_of_ble_eq_true rfl) t.1 t.2
  · refine g9 (L' := [.ref x0, .int x1, .int (x2 + 1)]) c_120_37 rfl k_1 rfl ?_
    refine g38 c_120_40 rfl ?_
    exact t
set_option maxRecDepth 20000 in
theorem t_120_37 {d : Nat} {h : ab_H} {Q : Option Value → ab_H → Prop} {x0 : Nat} {x1 : Int32} {x2 : Int32} (t : wq d 120 2 [.ref x0, .int x1, .int (x2 + 1)] [] h Q) : wq d 120 37 [.ref x0, .int x1, .int x2] [] h Q := by
  refine g9 (L' := [.ref x0, .int x1, .int (x2 + 1)]) c_120_37 rfl k_1 rfl ?_
  refine g38 c_120_40 rfl ?_
  exact t
-- method 121: MillTown$Week.canMake(LMillTown$Town;II)I
theorem c_121_0 : pg_cd 121 0 = (1, 1, 0, 0, 0) := by decide +kernel
theorem c_121_1 : pg_cd 121 1 = (6, 2, 0, 4, 0) := by decide +kernel
theorem c_121_3 : pg_cd 121 3 = (1, 1, 0, 0, 0) := by decide +kernel
theorem c_121_4 : pg_cd 121 4 = (6, 2, 0, 5, 0) := by decide +kernel
theorem c_121_6 : pg_cd 121 6 = (3, 2, 0, 5, 0) := by decide +kernel
theorem c_121_8 : pg_cd 121 8 = (5, 1, 0, 1, 0) := by decide +kernel
theorem c_121_9 : pg_cd 121 9 = (45, 8, 143, 5, 0) := by decide +kernel
theorem c_121_12 : pg_cd 121 12 = (43, 4, 121, 2, 0) := by decide +kernel
theorem c_121_15 : pg_cd 121 15 = (37, 3, 0, 3, 58) := by decide +kernel
theorem c_121_18 : pg_cd 121 18 = (3, 2, 0, 5, 0) := by decide +kernel
theorem c_121_20 : pg_cd 121 20 = (1, 2, 0, 0, 60) := by decide +kernel
theorem c_121_22 : pg_cd 121 22 = (37, 3, 0, 3, 51) := by decide +kernel
theorem c_121_25 : pg_cd 121 25 = (5, 1, 0, 1, 0) := by decide +kernel
theorem c_121_26 : pg_cd 121 26 = (45, 8, 143, 5, 0) := by decide +kernel
theorem c_121_29 : pg_cd 121 29 = (3, 2, 0, 5, 0) := by decide +kernel
theorem c_121_31 : pg_cd 121 31 = (1, 1, 0, 0, 4) := by decide +kernel
theorem c_121_32 : pg_cd 121 32 = (80, 55, 118, 0, 0) := by decide +kernel
theorem c_121_35 : pg_cd 121 35 = (3, 1, 0, 2, 0) := by decide +kernel
theorem c_121_36 : pg_cd 121 36 = (37, 3, 0, 1, 31) := by decide +kernel
theorem c_121_39 : pg_cd 121 39 = (5, 1, 0, 1, 0) := by decide +kernel
theorem c_121_40 : pg_cd 121 40 = (3, 2, 0, 5, 0) := by decide +kernel
theorem c_121_42 : pg_cd 121 42 = (80, 97, 193, 0, 0) := by decide +kernel
theorem c_121_45 : pg_cd 121 45 = (36, 3, 0, 0, 22) := by decide +kernel
theorem c_121_48 : pg_cd 121 48 = (3, 2, 0, 4, 0) := by decide +kernel
theorem c_121_50 : pg_cd 121 50 = (5, 1, 0, 1, 0) := by decide +kernel
theorem c_121_51 : pg_cd 121 51 = (3, 2, 0, 5, 0) := by decide +kernel
theorem c_121_53 : pg_cd 121 53 = (5, 1, 0, 0, 0) := by decide +kernel
theorem c_121_54 : pg_cd 121 54 = (45, 9, 25, 2, 0) := by decide +kernel
theorem c_121_57 : pg_cd 121 57 = (3, 2, 0, 5, 0) := by decide +kernel
theorem c_121_59 : pg_cd 121 59 = (50, 1, 0, 0, 0) := by decide +kernel
theorem c_121_60 : pg_cd 121 60 = (3, 1, 0, 3, 0) := by decide +kernel
theorem c_121_61 : pg_cd 121 61 = (80, 106, 197, 0, 0) := by decide +kernel
theorem c_121_64 : pg_cd 121 64 = (10, 1, 0, 0, 0) := by decide +kernel
theorem c_121_65 : pg_cd 121 65 = (6, 2, 0, 4, 0) := by decide +kernel
theorem c_121_67 : pg_cd 121 67 = (9, 3, 0, 5, 1) := by decide +kernel
theorem c_121_70 : pg_cd 121 70 = (38, 3, 0, 0, (-64)) := by decide +kernel
theorem c_121_73 : pg_cd 121 73 = (3, 2, 0, 4, 0) := by decide +kernel
theorem c_121_75 : pg_cd 121 75 = (90, 0, 0, 0, 0) := by decide +kernel
theorem mx_121 : pg_mx 121 = 6 := by decide +kernel
theorem m_121 {d : Nat} {h : ab_H} {Q : Option Value → ab_H → Prop} {x0 : Nat} {x1 : Nat} {x2 : Int32} {x3 : Int32} (t : wq d 121 0 [.ref x0, .ref x1, .int x2, .int x3, .retAddr 0, .retAddr 0] [] h Q) : wm d 121 [.ref x0, .ref x1, .int x2, .int x3] h Q := by
  unfold wm
  rw [mx_121]
  exact t
set_option maxRecDepth 20000 in
theorem t_121_0 {d : Nat} {h : ab_H} {Q : Option Value → ab_H → Prop} {x0 : Nat} {x1 : Nat} {x2 : Int32} {x3 : Int32} (t : wq d 121 6 [.ref x0, .ref x1, .int x2, .int x3, .int 0, .int 0] [] h Q) : wq d 121 0 [.ref x0, .ref x1, .int x2, .int x3, .retAddr 0, .retAddr 0] [] h Q := by
  refine g1 c_121_0 k_0 ?_
  refine g6 (L' := [.ref x0, .ref x1, .int x2, .int x3, .int 0, .retAddr 0]) c_121_1 rfl ?_
  refine g1 c_121_3 k_0 ?_
  refine g6 (L' := [.ref x0, .ref x1, .int x2, .int x3, .int 0, .int 0]) c_121_4 rfl ?_
  exact t
set_option maxRecDepth 20000 in
theorem t_121_6 {d : Nat} {h : ab_H} {Q : Option Value → ab_H → Prop} {x0 : Nat} {x1 : Nat} {x2 : Int32} {x3 : Int32} {x4 : Int32} {x5 : Int32} (t : ab_ok h x1 108 = true ∧ ∃ j1 : Nat, ab_r h x1 5 = some j1 ∧ ab_ok h j1 104 = true ∧ if (ab_i h j1 2) ≤ x5 then (Q (some (.int x4)) h) else (if 60 ≤ x5 then (Q (some (.int x4)) h) else (ab_ok h x1 108 = true ∧ ∃ j2 : Nat, ab_r h x1 5 = some j2 ∧ ab_ok h j2 104 = true ∧ wm d 55 [.ref j2, .int x5, .int 4] h (fun r9 h9 => wq (d + 1) 121 35 [.ref x0, .ref x1, .int x2, .int x3, .int x4, .int x5] (r9.toList ++ []) h9 Q)))) : wq (d + 1) 121 6 [.ref x0, .ref x1, .int x2, .int x3, .int x4, .int x5] [] h Q := by
  refine g3 c_121_6 rfl ?_
  refine g5 c_121_8 rfl ?_
  obtain ⟨ho, j1, hr, t⟩ := t
  refine g45 c_121_9 ho hr ?_
  obtain ⟨ho, t⟩ := t
  refine g43 c_121_12 ho ?_
  refine gcm c_121_15 (gbr t rfl rfl (fun hc t => ?_) (fun hc t => ?_))
  · refine g3 c_121_73 rfl ?_
    exact g90 c_121_75 t
  · refine g3 c_121_18 rfl ?_
    refine g1 c_121_20 k_60 ?_
    refine gcm c_121_22 (gbr t rfl rfl (fun hc t => ?_) (fun hc t => ?_))
    · refine g3 c_121_73 rfl ?_
      exact g90 c_121_75 t
    · refine g5 c_121_25 rfl ?_
      obtain ⟨ho, j2, hr, t⟩ := t
      refine g45 c_121_26 ho hr ?_
      refine g3 c_121_29 rfl ?_
      refine g1 c_121_31 k_4 ?_
      exact g80 (As := [.int x5, .int 4]) (rest := []) c_121_32 rfl rfl (Nat.le_of_ble_eq_true rfl) (Nat.le_of_ble_eq_true rfl) t.1 t.2
set_option maxRecDepth 20000 in
theorem t_121_35 {d : Nat} {h : ab_H} {Q : Option Value → ab_H → Prop} {x0 : Nat} {x1 : Nat} {x2 : Int32} {x3 : Int32} {x4 : Int32} {x5 : Int32} {s0 : Int32} (t : if s0 = x2 then (ab_ok h x1 108 = true ∧ wm d 97 [.ref x1, .int x5] h (fun r9 h9 => wq (d + 1) 121 45 [.ref x0, .ref x1, .int x2, .int x3, .int x4, .int x5] (r9.toList ++ []) h9 Q)) else (wq (d + 1) 121 6 [.ref x0, .ref x1, .int x2, .int x3, .int x4, .int (x5 + 1)] [] h Q)) : wq (d + 1) 121 35 [.ref x0, .ref x1, .int x2, .int x3, .int x4, .int x5] [.int s0] h Q := by
  refine g3 c_121_35 rfl ?_
  refine gcm c_121_36 (gbn t (ab_c1 _ _) rfl (fun hc t => ?_) (fun hc t => ?_))
  · refine g5 c_121_39 rfl ?_
    refine g3 c_121_40 rfl ?_
    exact g80 (As := [.int x5]) (rest := []) c_121_42 rfl rfl (Nat.le_of_ble_eq_true rfl) (Nat.le_of_ble_eq_true rfl) t.1 t.2
  · refine g9 (L' := [.ref x0, .ref x1, .int x2, .int x3, .int x4, .int (x5 + 1)]) c_121_67 rfl k_1 rfl ?_
    refine g38 c_121_70 rfl ?_
    exact t
set_option maxRecDepth 20000 in
theorem t_121_45 {d : Nat} {h : ab_H} {Q : Option Value → ab_H → Prop} {x0 : Nat} {x1 : Nat} {x2 : Int32} {x3 : Int32} {x4 : Int32} {x5 : Int32} {s0 : Int32} (t : if s0 = 0 then (wq (d + 1) 121 6 [.ref x0, .ref x1, .int x2, .int x3, .int x4, .int (x5 + 1)] [] h Q) else (ab_ok h x0 109 = true ∧ ∃ j1 : Nat, ab_r h x0 2 = some j1 ∧ ((j1 = 0 ∨ ab_ok h j1 0 = true) ∧ ab_in x5 (ab_s h j1).2 = true) ∧ ab_ok h x1 108 = true ∧ wm d 106 [.ref x1, .int x5, .int (ab_i h j1 (Int32.toNatClampNeg x5)), .int x3] h (fun r9 h9 => wq (d + 1) 121 64 [.ref x0, .ref x1, .int x2, .int x3, .int x4, .int x5] (r9.toList ++ [.int x4]) h9 Q))) : wq (d + 1) 121 45 [.ref x0, .ref x1, .int x2, .int x3, .int x4, .int x5] [.int s0] h Q := by
  refine gif c_121_45 (gbr t rfl rfl (fun hc t => ?_) (fun hc t => ?_))
  · refine g9 (L' := [.ref x0, .ref x1, .int x2, .int x3, .int x4, .int (x5 + 1)]) c_121_67 rfl k_1 rfl ?_
    refine g38 c_121_70 rfl ?_
    exact t
  · refine g3 c_121_48 rfl ?_
    refine g5 c_121_50 rfl ?_
    refine g3 c_121_51 rfl ?_
    refine g5 c_121_53 rfl ?_
    obtain ⟨ho, j1, hr, t⟩ := t
    refine g45 c_121_54 ho hr ?_
    refine g3 c_121_57 rfl ?_
    obtain ⟨ho, t⟩ := t
    refine g50 c_121_59 ho ?_
    refine g3 c_121_60 rfl ?_
    exact g80 (As := [.int x5, .int (ab_i h j1 (Int32.toNatClampNeg x5)), .int x3]) (rest := [.int x4]) c_121_61 rfl rfl (Nat.le_of_ble_eq_true rfl) (Nat.le_of_ble_eq_true rfl) t.1 t.2
set_option maxRecDepth 20000 in
theorem t_121_64 {d : Nat} {h : ab_H} {Q : Option Value → ab_H → Prop} {x0 : Nat} {x1 : Nat} {x2 : Int32} {x3 : Int32} {x4 : Int32} {x5 : Int32} {s0 : Int32} {s1 : Int32} (t : wq d 121 6 [.ref x0, .ref x1, .int x2, .int x3, .int (s0 + s1), .int (x5 + 1)] [] h Q) : wq d 121 64 [.ref x0, .ref x1, .int x2, .int x3, .int x4, .int x5] [.int s1, .int s0] h Q := by
  refine g10 c_121_64 ?_
  refine g6 (L' := [.ref x0, .ref x1, .int x2, .int x3, .int (s0 + s1), .int x5]) c_121_65 rfl ?_
  refine g9 (L' := [.ref x0, .ref x1, .int x2, .int x3, .int (s0 + s1), .int (x5 + 1)]) c_121_67 rfl k_1 rfl ?_
  refine g38 c_121_70 rfl ?_
  exact t
-- method 122: MillTown$Week.runMills(LMillTown$Town;)V
theorem c_122_0 : pg_cd 122 0 = (1, 1, 0, 0, 0) := by decide +kernel
theorem c_122_1 : pg_cd 122 1 = (6, 1, 0, 2, 0) := by decide +kernel
theorem c_122_2 : pg_cd 122 2 = (3, 1, 0, 2, 0) := by decide +kernel
theorem c_122_3 : pg_cd 122 3 = (5, 1, 0, 1, 0) := by decide +kernel
theorem c_122_4 : pg_cd 122 4 = (45, 8, 143, 5, 0) := by decide +kernel
theorem c_122_7 : pg_cd 122 7 = (43, 4, 121, 2, 0) := by decide +kernel
theorem c_122_10 : pg_cd 122 10 = (37, 3, 0, 3, 122) := by decide +kernel
theorem c_122_13 : pg_cd 122 13 = (3, 1, 0, 2, 0) := by decide +kernel
theorem c_122_14 : pg_cd 122 14 = (1, 2, 0, 0, 60) := by decide +kernel
theorem c_122_16 : pg_cd 122 16 = (37, 3, 0, 3, 116) := by decide +kernel
theorem c_122_19 : pg_cd 122 19 = (5, 1, 0, 1, 0) := by decide +kernel
theorem c_122_20 : pg_cd 122 20 = (45, 8, 143, 5, 0) := by decide +kernel
theorem c_122_23 : pg_cd 122 23 = (3, 1, 0, 2, 0) := by decide +kernel
theorem c_122_24 : pg_cd 122 24 = (1, 1, 0, 0, 4) := by decide +kernel
theorem c_122_25 : pg_cd 122 25 = (80, 55, 118, 0, 0) := by decide +kernel
theorem c_122_28 : pg_cd 122 28 = (6, 1, 0, 3, 0) := by decide +kernel
theorem c_122_29 : pg_cd 122 29 = (3, 1, 0, 3, 0) := by decide +kernel
theorem c_122_30 : pg_cd 122 30 = (1, 1, 0, 0, (-1)) := by decide +kernel
theorem c_122_31 : pg_cd 122 31 = (37, 3, 0, 1, 7) := by decide +kernel
theorem c_122_34 : pg_cd 122 34 = (1, 1, 0, 0, 0) := by decide +kernel
theorem c_122_35 : pg_cd 122 35 = (38, 3, 0, 0, 13) := by decide +kernel
theorem c_122_38 : pg_cd 122 38 = (5, 1, 0, 1, 0) := by decide +kernel
theorem c_122_39 : pg_cd 122 39 = (45, 8, 115, 2, 0) := by decide +kernel
theorem c_122_42 : pg_cd 122 42 = (3, 1, 0, 3, 0) := by decide +kernel
theorem c_122_43 : pg_cd 122 43 = (1, 2, 0, 0, 7) := by decide +kernel
theorem c_122_45 : pg_cd 122 45 = (80, 55, 118, 0, 0) := by decide +kernel
theorem c_122_48 : pg_cd 122 48 = (6, 2, 0, 4, 0) := by decide +kernel
theorem c_122_50 : pg_cd 122 50 = (3, 2, 0, 4, 0) := by decide +kernel
theorem c_122_52 : pg_cd 122 52 = (36, 3, 0, 0, 74) := by decide +kernel
theorem c_122_55 : pg_cd 122 55 = (3, 2, 0, 4, 0) := by decide +kernel
theorem c_122_57 : pg_cd 122 57 = (1, 1, 0, 0, 2) := by decide +kernel
theorem c_122_58 : pg_cd 122 58 = (37, 3, 0, 1, 12) := by decide +kernel
theorem c_122_61 : pg_cd 122 61 = (5, 1, 0, 0, 0) := by decide +kernel
theorem c_122_62 : pg_cd 122 62 = (45, 9, 25, 2, 0) := by decide +kernel
theorem c_122_65 : pg_cd 122 65 = (3, 1, 0, 2, 0) := by decide +kernel
theorem c_122_66 : pg_cd 122 66 = (50, 1, 0, 0, 0) := by decide +kernel
theorem c_122_67 : pg_cd 122 67 = (38, 3, 0, 0, 11) := by decide +kernel
theorem c_122_70 : pg_cd 122 70 = (5, 1, 0, 0, 0) := by decide +kernel
theorem c_122_71 : pg_cd 122 71 = (45, 9, 25, 2, 0) := by decide +kernel
theorem c_122_74 : pg_cd 122 74 = (3, 1, 0, 2, 0) := by decide +kernel
theorem c_122_75 : pg_cd 122 75 = (50, 1, 0, 0, 0) := by decide +kernel
theorem c_122_76 : pg_cd 122 76 = (1, 1, 0, 0, 2) := by decide +kernel
theorem c_122_77 : pg_cd 122 77 = (16, 1, 0, 0, 0) := by decide +kernel
theorem c_122_78 : pg_cd 122 78 = (6, 2, 0, 5, 0) := by decide +kernel
theorem c_122_80 : pg_cd 122 80 = (5, 1, 0, 1, 0) := by decide +kernel
theorem c_122_81 : pg_cd 122 81 = (3, 1, 0, 2, 0) := by decide +kernel
theorem c_122_82 : pg_cd 122 82 = (80, 97, 193, 0, 0) := by decide +kernel
theorem c_122_85 : pg_cd 122 85 = (36, 3, 0, 0, 20) := by decide +kernel
theorem c_122_88 : pg_cd 122 88 = (5, 1, 0, 0, 0) := by decide +kernel
theorem c_122_89 : pg_cd 122 89 = (5, 1, 0, 1, 0) := by decide +kernel
theorem c_122_90 : pg_cd 122 90 = (3, 1, 0, 2, 0) := by decide +kernel
theorem c_122_91 : pg_cd 122 91 = (5, 1, 0, 0, 0) := by decide +kernel
theorem c_122_92 : pg_cd 122 92 = (5, 1, 0, 1, 0) := by decide +kernel
theorem c_122_93 : pg_cd 122 93 = (3, 1, 0, 2, 0) := by decide +kernel
theorem c_122_94 : pg_cd 122 94 = (3, 2, 0, 5, 0) := by decide +kernel
theorem c_122_96 : pg_cd 122 96 = (80, 123, 201, 0, 0) := by decide +kernel
theorem c_122_99 : pg_cd 122 99 = (80, 125, 204, 0, 0) := by decide +kernel
theorem c_122_102 : pg_cd 122 102 = (38, 3, 0, 0, 24) := by decide +kernel
theorem c_122_105 : pg_cd 122 105 = (5, 1, 0, 0, 0) := by decide +kernel
theorem c_122_106 : pg_cd 122 106 = (45, 9, 29, 3, 0) := by decide +kernel
theorem c_122_109 : pg_cd 122 109 = (3, 1, 0, 2, 0) := by decide +kernel
theorem c_122_110 : pg_cd 122 110 = (34, 1, 0, 0, 0) := by decide +kernel
theorem c_122_111 : pg_cd 122 111 = (50, 1, 0, 0, 0) := by decide +kernel
theorem c_122_112 : pg_cd 122 112 = (3, 2, 0, 5, 0) := by decide +kernel
theorem c_122_114 : pg_cd 122 114 = (5, 1, 0, 1, 0) := by decide +kernel
theorem c_122_115 : pg_cd 122 115 = (45, 8, 143, 5, 0) := by decide +kernel
theorem c_122_118 : pg_cd 122 118 = (3, 1, 0, 2, 0) := by decide +kernel
theorem c_122_119 : pg_cd 122 119 = (1, 1, 0, 0, 5) := by decide +kernel
theorem c_122_120 : pg_cd 122 120 = (80, 55, 118, 0, 0) := by decide +kernel
theorem c_122_123 : pg_cd 122 123 = (12, 1, 0, 0, 0) := by decide +kernel
theorem c_122_124 : pg_cd 122 124 = (10, 1, 0, 0, 0) := by decide +kernel
theorem c_122_125 : pg_cd 122 125 = (54, 1, 0, 0, 0) := by decide +kernel
theorem c_122_126 : pg_cd 122 126 = (9, 3, 0, 2, 1) := by decide +kernel
theorem c_122_129 : pg_cd 122 129 = (38, 3, 0, 0, (-127)) := by decide +kernel
theorem c_122_132 : pg_cd 122 132 = (94, 0, 0, 0, 0) := by decide +kernel
theorem mx_122 : pg_mx 122 = 6 := by decide +kernel
theorem m_122 {d : Nat} {h : ab_H} {Q : Option Value → ab_H → Prop} {x0 : Nat} {x1 : Nat} (t : wq d 122 0 [.ref x0, .ref x1, .retAddr 0, .retAddr 0, .retAddr 0, .retAddr 0] [] h Q) : wm d 122 [.ref x0, .ref x1] h Q := by
  unfold wm
  rw [mx_122]
  exact t
set_option maxRecDepth 20000 in
theorem t_122_0 {d : Nat} {h : ab_H} {Q : Option Value → ab_H → Prop} {x0 : Nat} {x1 : Nat} (t : wq d 122 2 [.ref x0, .ref x1, .int 0, .retAddr 0, .retAddr 0, .retAddr 0] [] h Q) : wq d 122 0 [.ref x0, .ref x1, .retAddr 0, .retAddr 0, .retAddr 0, .retAddr 0] [] h Q := by
  refine g1 c_122_0 k_0 ?_
  refine g6 (L' := [.ref x0, .ref x1, .int 0, .retAddr 0, .retAddr 0, .retAddr 0]) c_122_1 rfl ?_
  exact t
set_option maxRecDepth 20000 in
theorem t_122_2 {d : Nat} {h : ab_H} {Q : Option Value → ab_H → Prop} {x0 : Nat} {x1 : Nat} {x2 : Int32} (t : ab_ok h x1 108 = true ∧ ∃ j1 : Nat, ab_r h x1 5 = some j1 ∧ ab_ok h j1 104 = true ∧ if (ab_i h j1 2) ≤ x2 then (Q none h) else (if 60 ≤ x2 then (Q none h) else (ab_ok h x1 108 = true ∧ ∃ j2 : Nat, ab_r h x1 5 = some j2 ∧ ab_ok h j2 104 = true ∧ wm d 55 [.ref j2, .int x2, .int 4] h (fun r9 h9 => wq (d + 1) 122 28 [.ref x0, .ref x1, .int x2, .retAddr 0, .retAddr 0, .retAddr 0] (r9.toList ++ []) h9 Q)))) : wq (d + 1) 122 2 [.ref x0, .ref x1, .int x2, .retAddr 0, .retAddr 0, .retAddr 0] [] h Q := by
  refine g3 c_122_2 rfl ?_
  refine g5 c_122_3 rfl ?_
  obtain ⟨ho, j1, hr, t⟩ := t
  refine g45 c_122_4 ho hr ?_
  obtain ⟨ho, t⟩ := t
  refine g43 c_122_7 ho ?_
  refine gcm c_122_10 (gbr t rfl rfl (fun hc t => ?_) (fun hc t => ?_))
  · exact g94 c_122_132 t
  · refine g3 c_122_13 rfl ?_
    refine g1 c_122_14 k_60 ?_
    refine gcm c_122_16 (gbr t rfl rfl (fun hc t => ?_) (fun hc t => ?_))
    · exact g94 c_122_132 t
    · refine g5 c_122_19 rfl ?_
      obtain ⟨ho, j2, hr, t⟩ := t
      refine g45 c_122_20 ho hr ?_
      refine g3 c_122_23 rfl ?_
      refine g1 c_122_24 k_4 ?_
      exact g80 (As := [.int x2, .int 4]) (rest := []) c_122_25 rfl rfl (Nat.le_of_ble_eq_true rfl) (Nat.le_of_ble_eq_true rfl) t.1 t.2
set_option maxRecDepth 20000 in
theorem t_122_28 {d : Nat} {h : ab_H} {Q : Option Value → ab_H → Prop} {x0 : Nat} {x1 : Nat} {x2 : Int32} {s0 : Int32} (t : if s0 = (-1) then (if (0 : Int32) = 0 then (wq (d + 1) 122 2 [.ref x0, .ref x1, .int (x2 + 1), .int s0, .int 0, .retAddr 0] [] h Q) else (if (0 : Int32) = 2 then (ab_ok h x0 109 = true ∧ ∃ j1 : Nat, ab_r h x0 2 = some j1 ∧ ((j1 = 0 ∨ ab_ok h j1 0 = true) ∧ ab_in x2 (ab_s h j1).2 = true) ∧ ab_ok h x1 108 = true ∧ wm d 97 [.ref x1, .int x2] h (fun r9 h9 => wq (d + 1) 122 85 [.ref x0, .ref x1, .int x2, .int s0, .int 0, .int (ab_i h j1 (Int32.toNatClampNeg x2))] (r9.toList ++ []) h9 Q)) else (ab_ok h x0 109 = true ∧ ∃ j2 : Nat, ab_r h x0 2 = some j2 ∧ ((j2 = 0 ∨ ab_ok h j2 0 = true) ∧ ab_in x2 (ab_s h j2).2 = true) ∧ ¬ (2 : Int32) = 0 ∧ ab_ok h x1 108 = true ∧ wm d 97 [.ref x1, .int x2] h (fun r9 h9 => wq (d + 1) 122 85 [.ref x0, .ref x1, .int x2, .int s0, .int 0, .int ((ab_i h j2 (Int32.toNatClampNeg x2)) / 2)] (r9.toList ++ []) h9 Q)))) else (ab_ok h x1 108 = true ∧ ∃ j3 : Nat, ab_r h x1 2 = some j3 ∧ ab_ok h j3 104 = true ∧ wm d 55 [.ref j3, .int s0, .int 7] h (fun r9 h9 => wq (d + 1) 122 48 [.ref x0, .ref x1, .int x2, .int s0, .retAddr 0, .retAddr 0] (r9.toList ++ []) h9 Q))) : wq (d + 1) 122 28 [.ref x0, .ref x1, .int x2, .retAddr 0, .retAddr 0, .retAddr 0] [.int s0] h Q := by
  refine g6 (L' := [.ref x0, .ref x1, .int x2, .int s0, .retAddr 0, .retAddr 0]) c_122_28 rfl ?_
  refine g3 c_122_29 rfl ?_
  refine g1 c_122_30 k_m1 ?_
  refine gcm c_122_31 (gbn t (ab_c1 _ _) rfl (fun hc t => ?_) (fun hc t => ?_))
  · refine g1 c_122_34 k_0 ?_
    refine g38 c_122_35 rfl ?_
    refine g6 (L' := [.ref x0, .ref x1, .int x2, .int s0, .int 0, .retAddr 0]) c_122_48 rfl ?_
    refine g3 c_122_50 rfl ?_
    refine gif c_122_52 (gbr t rfl rfl (fun hc t => ?_) (fun hc t => ?_))
    · refine g9 (L' := [.ref x0, .ref x1, .int (x2 + 1), .int s0, .int 0, .retAddr 0]) c_122_126 rfl k_1 rfl ?_
      refine g38 c_122_129 rfl ?_
      exact t
    · refine g3 c_122_55 rfl ?_
      refine g1 c_122_57 k_2 ?_
      refine gcm c_122_58 (gbn t (ab_c1 _ _) rfl (fun hc t => ?_) (fun hc t => ?_))
      · refine g5 c_122_61 rfl ?_
        obtain ⟨ho, j1, hr, t⟩ := t
        refine g45 c_122_62 ho hr ?_
        refine g3 c_122_65 rfl ?_
        obtain ⟨ho, t⟩ := t
        refine g50 c_122_66 ho ?_
        refine g38 c_122_67 rfl ?_
        refine g6 (L' := [.ref x0, .ref x1, .int x2, .int s0, .int 0, .int (ab_i h j1 (Int32.toNatClampNeg x2))]) c_122_78 rfl ?_
        refine g5 c_122_80 rfl ?_
        refine g3 c_122_81 rfl ?_
        exact g80 (As := [.int x2]) (rest := []) c_122_82 rfl rfl (Nat.le_of_ble_eq_true rfl) (Nat.le_of_ble_eq_true rfl) t.1 t.2
      · refine g5 c_122_70 rfl ?_
        obtain ⟨ho, j2, hr, t⟩ := t
        refine g45 c_122_71 ho hr ?_
        refine g3 c_122_74 rfl ?_
        obtain ⟨ho, t⟩ := t
        refine g50 c_122_75 ho ?_
        refine g1 c_122_76 k_2 ?_
        obtain ⟨hy, t⟩ := t
        refine g16 c_122_77 hy ?_
        refine g6 (L' := [.ref x0, .ref x1, .int x2, .int s0, .int 0, .int ((ab_i h j2 (Int32.toNatClampNeg x2)) / 2)]) c_122_78 rfl ?_
        refine g5 c_122_80 rfl ?_
        refine g3 c_122_81 rfl ?_
        exact g80 (As := [.int x2]) (rest := []) c_122_82 rfl rfl (Nat.le_of_ble_eq_true rfl) (Nat.le_of_ble_eq_true rfl) t.1 t.2
  · refine g5 c_122_38 rfl ?_
    obtain ⟨ho, j3, hr, t⟩ := t
    refine g45 c_122_39 ho hr ?_
    refine g3 c_122_42 rfl ?_
    refine g1 c_122_43 k_7 ?_
    exact g80 (As := [.int s0, .int 7]) (rest := []) c_122_45 rfl rfl (Nat.le_of_ble_eq_true rfl) (Nat.le_of_ble_eq_true rfl) t.1 t.2
set_option maxRecDepth 20000 in
theorem t_122_48 {d : Nat} {h : ab_H} {Q : Option Value → ab_H → Prop} {x0 : Nat} {x1 : Nat} {x2 : Int32} {x3 : Int32} {s0 : Int32} (t : if s0 = 0 then (wq (d + 1) 122 2 [.ref x0, .ref x1, .int (x2 + 1), .int x3, .int s0, .retAddr 0] [] h Q) else (if s0 = 2 then (ab_ok h x0 109 = true ∧ ∃ j1 : Nat, ab_r h x0 2 = some j1 ∧ ((j1 = 0 ∨ ab_ok h j1 0 = true) ∧ ab_in x2 (ab_s h j1).2 = true) ∧ ab_ok h x1 108 = true ∧ wm d 97 [.ref x1, .int x2] h (fun r9 h9 => wq (d + 1) 122 85 [.ref x0, .ref x1, .int x2, .int x3, .int s0, .int (ab_i h j1 (Int32.toNatClampNeg x2))] (r9.toList ++ []) h9 Q)) else (ab_ok h x0 109 = true ∧ ∃ j2 : Nat, ab_r h x0 2 = some j2 ∧ ((j2 = 0 ∨ ab_ok h j2 0 = true) ∧ ab_in x2 (ab_s h j2).2 = true) ∧ ¬ (2 : Int32) = 0 ∧ ab_ok h x1 108 = true ∧ wm d 97 [.ref x1, .int x2] h (fun r9 h9 => wq (d + 1) 122 85 [.ref x0, .ref x1, .int x2, .int x3, .int s0, .int ((ab_i h j2 (Int32.toNatClampNeg x2)) / 2)] (r9.toList ++ []) h9 Q)))) : wq (d + 1) 122 48 [.ref x0, .ref x1, .int x2, .int x3, .retAddr 0, .retAddr 0] [.int s0] h Q := by
  refine g6 (L' := [.ref x0, .ref x1, .int x2, .int x3, .int s0, .retAddr 0]) c_122_48 rfl ?_
  refine g3 c_122_50 rfl ?_
  refine gif c_122_52 (gbr t rfl rfl (fun hc t => ?_) (fun hc t => ?_))
  · refine g9 (L' := [.ref x0, .ref x1, .int (x2 + 1), .int x3, .int s0, .retAddr 0]) c_122_126 rfl k_1 rfl ?_
    refine g38 c_122_129 rfl ?_
    exact t
  · refine g3 c_122_55 rfl ?_
    refine g1 c_122_57 k_2 ?_
    refine gcm c_122_58 (gbn t (ab_c1 _ _) rfl (fun hc t => ?_) (fun hc t => ?_))
    · refine g5 c_122_61 rfl ?_
      obtain ⟨ho, j1, hr, t⟩ := t
      refine g45 c_122_62 ho hr ?_
      refine g3 c_122_65 rfl ?_
      obtain ⟨ho, t⟩ := t
      refine g50 c_122_66 ho ?_
      refine g38 c_122_67 rfl ?_
      refine g6 (L' := [.ref x0, .ref x1, .int x2, .int x3, .int s0, .int (ab_i h j1 (Int32.toNatClampNeg x2))]) c_122_78 rfl ?_
      refine g5 c_122_80 rfl ?_
      refine g3 c_122_81 rfl ?_
      exact g80 (As := [.int x2]) (rest := []) c_122_82 rfl rfl (Nat.le_of_ble_eq_true rfl) (Nat.le_of_ble_eq_true rfl) t.1 t.2
    · refine g5 c_122_70 rfl ?_
      obtain ⟨ho, j2, hr, t⟩ := t
      refine g45 c_122_71 ho hr ?_
      refine g3 c_122_74 rfl ?_
      obtain ⟨ho, t⟩ := t
      refine g50 c_122_75 ho ?_
      refine g1 c_122_76 k_2 ?_
      obtain ⟨hy, t⟩ := t
      refine g16 c_122_77 hy ?_
      refine g6 (L' := [.ref x0, .ref x1, .int x2, .int x3, .int s0, .int ((ab_i h j2 (Int32.toNatClampNeg x2)) / 2)]) c_122_78 rfl ?_
      refine g5 c_122_80 rfl ?_
      refine g3 c_122_81 rfl ?_
      exact g80 (As := [.int x2]) (rest := []) c_122_82 rfl rfl (Nat.le_of_ble_eq_true rfl) (Nat.le_of_ble_eq_true rfl) t.1 t.2
set_option maxRecDepth 20000 in
theorem t_122_85 {d : Nat} {h : ab_H} {Q : Option Value → ab_H → Prop} {x0 : Nat} {x1 : Nat} {x2 : Int32} {x3 : Int32} {x4 : Int32} {x5 : Int32} {s0 : Int32} (t : if s0 = 0 then (ab_ok h x0 109 = true ∧ ∃ j1 : Nat, ab_r h x0 3 = some j1 ∧ ((j1 = 0 ∨ ab_ok h j1 0 = true) ∧ ab_in x2 (ab_s h j1).2 = true) ∧ ab_ok h x1 108 = true ∧ ∃ j2 : Nat, ab_r h x1 5 = some j2 ∧ ab_ok h j2 104 = true ∧ wm d 55 [.ref j2, .int x2, .int 5] h (fun r9 h9 => wq (d + 1) 122 123 [.ref x0, .ref x1, .int x2, .int x3, .int x4, .int x5] (r9.toList ++ [.int x5, .int (ab_i h j1 (Int32.toNatClampNeg x2)), .int x2, .ref j1]) h9 Q)) else (ab_ok h x0 109 = true ∧ wm d 123 [.ref x0, .ref x1, .int x2, .int x5] h (fun r9 h9 => wq (d + 1) 122 99 [.ref x0, .ref x1, .int x2, .int x3, .int x4, .int x5] (r9.toList ++ [.int x2, .ref x1, .ref x0]) h9 Q))) : wq (d + 1) 122 85 [.ref x0, .ref x1, .int x2, .int x3, .int x4, .int x5] [.int s0] h Q := by
  refine gif c_122_85 (gbr t rfl rfl (fun hc t => ?_) (fun hc t => ?_))
  · refine g5 c_122_105 rfl ?_
    obtain ⟨ho, j1, hr, t⟩ := t
    refine g45 c_122_106 ho hr ?_
    refine g3 c_122_109 rfl ?_
    refine g34a c_122_110 ?_
    obtain ⟨ho, t⟩ := t
    refine g50 c_122_111 ho ?_
    refine g3 c_122_112 rfl ?_
    refine g5 c_122_114 rfl ?_
    obtain ⟨ho, j2, hr, t⟩ := t
    refine g45 c_122_115 ho hr ?_
    refine g3 c_122_118 rfl ?_
    refine g1 c_122_119 k_5 ?_
    exact g80 (As := [.int x2, .int 5]) (rest := [.int x5, .int (ab_i h j1 (Int32.toNatClampNeg x2)), .int x2, .ref j1]) c_122_120 rfl rfl (Nat.le_of_ble_eq_true rfl) (Nat.le_of_ble_eq_true rfl) t.1 t.2
  · refine g5 c_122_88 rfl ?_
    refine g5 c_122_89 rfl ?_
    refine g3 c_122_90 rfl ?_
    refine g5 c_122_91 rfl ?_
    refine g5 c_122_92 rfl ?_
    refine g3 c_122_93 rfl ?_
    refine g3 c_122_94 rfl ?_
    exact g80 (As := [.ref x1, .int x2, .int x5]) (rest := [.int x2, .ref x1, .ref x0]) c_122_96 rfl rfl (Nat.le_of_ble_eq_true rfl) (Nat.le_of_ble_eq_true rfl) t.1 t.2
set_option maxRecDepth 20000 in
theorem t_122_99 {d : Nat} {h : ab_H} {Q : Option Value → ab_H → Prop} {x0 : Nat} {x1 : Nat} {x2 : Int32} {x3 : Int32} {x4 : Int32} {x5 : Int32} {s0 : Nat} {s1 : Nat} {s2 : Int32} {s3 : Int32} (t : ab_ok h s0 109 = true ∧ wm d 125 [.ref s0, .ref s1, .int s2, .int s3] h (fun r9 h9 => wq (d + 1) 122 102 [.ref x0, .ref x1, .int x2, .int x3, .int x4, .int x5] (r9.toList ++ []) h9 Q)) : wq (d + 1) 122 99 [.ref x0, .ref x1, .int x2, .int x3, .int x4, .int x5] [.int s3, .int s2, .ref s1, .ref s0] h Q := by
  exact g80 (As := [.ref s1, .int s2, .int s3]) (rest := []) c_122_99 rfl rfl (Nat.le_of_ble_eq_true rfl) (Nat.le_of_ble_eq_true rfl) t.1 t.2
set_option maxRecDepth 20000 in
theorem t_122_102 {d : Nat} {h : ab_H} {Q : Option Value → ab_H → Prop} {x0 : Nat} {x1 : Nat} {x2 : Int32} {x3 : Int32} {x4 : Int32} {x5 : Int32} (t : wq d 122 2 [.ref x0, .ref x1, .int (x2 + 1), .int x3, .int x4, .int x5] [] h Q) : wq d 122 102 [.ref x0, .ref x1, .int x2, .int x3, .int x4, .int x5] [] h Q := by
  refine g38 c_122_102 rfl ?_
  refine g9 (L' := [.ref x0, .ref x1, .int (x2 + 1), .int x3, .int x4, .int x5]) c_122_126 rfl k_1 rfl ?_
  refine g38 c_122_129 rfl ?_
  exact t
set_option maxRecDepth 20000 in
theorem t_122_123 {d : Nat} {h : ab_H} {Q : Option Value → ab_H → Prop} {x0 : Nat} {x1 : Nat} {x2 : Int32} {x3 : Int32} {x4 : Int32} {x5 : Int32} {s0 : Nat} {s1 : Int32} {s2 : Int32} {s3 : Int32} {s4 : Int32} (t : (ab_ok h s0 0 = true ∧ ab_in s1 (ab_s h s0).2 = true) ∧ ∀ h1 : ab_H, h1 = ab_pi h s0 (Int32.toNatClampNeg s1) (s2 + (s3 * s4)) → wq d 122 2 [.ref x0, .ref x1, .int (x2 + 1), .int x3, .int x4, .int x5] [] h1 Q) : wq d 122 123 [.ref x0, .ref x1, .int x2, .int x3, .int x4, .int x5] [.int s4, .int s3, .int s2, .int s1, .ref s0] h Q := by
  refine g12 c_122_123 ?_
  refine g10 c_122_124 ?_
  obtain ⟨ho, t⟩ := t
  refine g54 c_122_125 ho (fun h1 eh1 => ?_)
  have t := t h1 eh1
  refine g9 (L' := [.ref x0, .ref x1, .int (x2 + 1), .int x3, .int x4, .int x5]) c_122_126 rfl k_1 rfl ?_
  refine g38 c_122_129 rfl ?_
  exact t
-- method 123: MillTown$Week.weave(LMillTown$Town;II)I
theorem c_123_0 : pg_cd 123 0 = (5, 1, 0, 1, 0) := by decide +kernel
theorem c_123_1 : pg_cd 123 1 = (45, 8, 143, 5, 0) := by decide +kernel
theorem c_123_4 : pg_cd 123 4 = (3, 1, 0, 2, 0) := by decide +kernel
theorem c_123_5 : pg_cd 123 5 = (1, 1, 0, 0, 4) := by decide +kernel
theorem c_123_6 : pg_cd 123 6 = (80, 55, 118, 0, 0) := by decide +kernel
theorem c_123_9 : pg_cd 123 9 = (6, 2, 0, 4, 0) := by decide +kernel
theorem c_123_11 : pg_cd 123 11 = (5, 1, 0, 1, 0) := by decide +kernel
theorem c_123_12 : pg_cd 123 12 = (45, 8, 115, 2, 0) := by decide +kernel
theorem c_123_15 : pg_cd 123 15 = (3, 2, 0, 4, 0) := by decide +kernel
theorem c_123_17 : pg_cd 123 17 = (1, 2, 0, 0, 6) := by decide +kernel
theorem c_123_19 : pg_cd 123 19 = (80, 55, 118, 0, 0) := by decide +kernel
theorem c_123_22 : pg_cd 123 22 = (6, 2, 0, 5, 0) := by decide +kernel
theorem c_123_24 : pg_cd 123 24 = (5, 1, 0, 1, 0) := by decide +kernel
theorem c_123_25 : pg_cd 123 25 = (3, 2, 0, 5, 0) := by decide +kernel
theorem c_123_27 : pg_cd 123 27 = (80, 104, 207, 0, 0) := by decide +kernel
theorem c_123_30 : pg_cd 123 30 = (6, 2, 0, 6, 0) := by decide +kernel
theorem c_123_32 : pg_cd 123 32 = (5, 1, 0, 1, 0) := by decide +kernel
theorem c_123_33 : pg_cd 123 33 = (3, 1, 0, 2, 0) := by decide +kernel
theorem c_123_34 : pg_cd 123 34 = (3, 1, 0, 3, 0) := by decide +kernel
theorem c_123_35 : pg_cd 123 35 = (3, 2, 0, 5, 0) := by decide +kernel
theorem c_123_37 : pg_cd 123 37 = (80, 106, 197, 0, 0) := by decide +kernel
theorem c_123_40 : pg_cd 123 40 = (5, 1, 0, 1, 0) := by decide +kernel
theorem c_123_41 : pg_cd 123 41 = (45, 8, 115, 2, 0) := by decide +kernel
theorem c_123_44 : pg_cd 123 44 = (3, 2, 0, 4, 0) := by decide +kernel
theorem c_123_46 : pg_cd 123 46 = (1, 2, 0, 0, 12) := by decide +kernel
theorem c_123_48 : pg_cd 123 48 = (80, 55, 118, 0, 0) := by decide +kernel
theorem c_123_51 : pg_cd 123 51 = (74, 0, 182, 0, 0) := by decide +kernel
theorem c_123_54 : pg_cd 123 54 = (6, 2, 0, 7, 0) := by decide +kernel
theorem c_123_56 : pg_cd 123 56 = (5, 1, 0, 0, 0) := by decide +kernel
theorem c_123_57 : pg_cd 123 57 = (5, 1, 0, 1, 0) := by decide +kernel
theorem c_123_58 : pg_cd 123 58 = (3, 2, 0, 4, 0) := by decide +kernel
theorem c_123_60 : pg_cd 123 60 = (3, 2, 0, 7, 0) := by decide +kernel
theorem c_123_62 : pg_cd 123 62 = (5, 1, 0, 1, 0) := by decide +kernel
theorem c_123_63 : pg_cd 123 63 = (45, 8, 164, 0, 0) := by decide +kernel
theorem c_123_66 : pg_cd 123 66 = (3, 2, 0, 5, 0) := by decide +kernel
theorem c_123_68 : pg_cd 123 68 = (1, 1, 0, 0, 2) := by decide +kernel
theorem c_123_69 : pg_cd 123 69 = (80, 55, 118, 0, 0) := by decide +kernel
theorem c_123_72 : pg_cd 123 72 = (80, 124, 211, 0, 0) := by decide +kernel
theorem c_123_75 : pg_cd 123 75 = (6, 2, 0, 8, 0) := by decide +kernel
theorem c_123_77 : pg_cd 123 77 = (5, 1, 0, 1, 0) := by decide +kernel
theorem c_123_78 : pg_cd 123 78 = (45, 8, 143, 5, 0) := by decide +kernel
theorem c_123_81 : pg_cd 123 81 = (3, 1, 0, 2, 0) := by decide +kernel
theorem c_123_82 : pg_cd 123 82 = (1, 2, 0, 0, 7) := by decide +kernel
theorem c_123_84 : pg_cd 123 84 = (80, 55, 118, 0, 0) := by decide +kernel
theorem c_123_87 : pg_cd 123 87 = (5, 1, 0, 1, 0) := by decide +kernel
theorem c_123_88 : pg_cd 123 88 = (3, 1, 0, 2, 0) := by decide +kernel
theorem c_123_89 : pg_cd 123 89 = (3, 1, 0, 3, 0) := by decide +kernel
theorem c_123_90 : pg_cd 123 90 = (80, 105, 214, 0, 0) := by decide +kernel
theorem c_123_93 : pg_cd 123 93 = (10, 1, 0, 0, 0) := by decide +kernel
theorem c_123_94 : pg_cd 123 94 = (3, 2, 0, 8, 0) := by decide +kernel
theorem c_123_96 : pg_cd 123 96 = (3, 2, 0, 6, 0) := by decide +kernel
theorem c_123_98 : pg_cd 123 98 = (12, 1, 0, 0, 0) := by decide +kernel
theorem c_123_99 : pg_cd 123 99 = (11, 1, 0, 0, 0) := by decide +kernel
theorem c_123_100 : pg_cd 123 100 = (6, 2, 0, 9, 0) := by decide +kernel
theorem c_123_102 : pg_cd 123 102 = (5, 1, 0, 1, 0) := by decide +kernel
theorem c_123_103 : pg_cd 123 103 = (45, 8, 143, 5, 0) := by decide +kernel
theorem c_123_106 : pg_cd 123 106 = (3, 1, 0, 2, 0) := by decide +kernel
theorem c_123_107 : pg_cd 123 107 = (1, 2, 0, 0, 7) := by decide +kernel
theorem c_123_109 : pg_cd 123 109 = (3, 2, 0, 9, 0) := by decide +kernel
theorem c_123_111 : pg_cd 123 111 = (3, 2, 0, 6, 0) := by decide +kernel
theorem c_123_113 : pg_cd 123 113 = (1, 1, 0, 0, 1) := by decide +kernel
theorem c_123_114 : pg_cd 123 114 = (11, 1, 0, 0, 0) := by decide +kernel
theorem c_123_115 : pg_cd 123 115 = (74, 0, 182, 0, 0) := by decide +kernel
theorem c_123_118 : pg_cd 123 118 = (80, 56, 171, 0, 0) := by decide +kernel
theorem c_123_121 : pg_cd 123 121 = (5, 1, 0, 1, 0) := by decide +kernel
theorem c_123_122 : pg_cd 123 122 = (45, 8, 115, 2, 0) := by decide +kernel
theorem c_123_125 : pg_cd 123 125 = (3, 2, 0, 4, 0) := by decide +kernel
theorem c_123_127 : pg_cd 123 127 = (1, 2, 0, 0, 12) := by decide +kernel
theorem c_123_129 : pg_cd 123 129 = (3, 2, 0, 8, 0) := by decide +kernel
theorem c_123_131 : pg_cd 123 131 = (21, 1, 0, 0, 0) := by decide +kernel
theorem c_123_132 : pg_cd 123 132 = (80, 57, 190, 0, 0) := by decide +kernel
theorem c_123_135 : pg_cd 123 135 = (5, 1, 0, 1, 0) := by decide +kernel
theorem c_123_136 : pg_cd 123 136 = (45, 8, 115, 2, 0) := by decide +kernel
theorem c_123_139 : pg_cd 123 139 = (3, 2, 0, 4, 0) := by decide +kernel
theorem c_123_141 : pg_cd 123 141 = (1, 2, 0, 0, 9) := by decide +kernel
theorem c_123_143 : pg_cd 123 143 = (3, 2, 0, 8, 0) := by decide +kernel
theorem c_123_145 : pg_cd 123 145 = (80, 57, 190, 0, 0) := by decide +kernel
theorem c_123_148 : pg_cd 123 148 = (3, 2, 0, 8, 0) := by decide +kernel
theorem c_123_150 : pg_cd 123 150 = (90, 0, 0, 0, 0) := by decide +kernel
theorem mx_123 : pg_mx 123 = 10 := by decide +kernel
theorem m_123 {d : Nat} {h : ab_H} {Q : Option Value → ab_H → Prop} {x0 : Nat} {x1 : Nat} {x2 : Int32} {x3 : Int32} (t : wq d 123 0 [.ref x0, .ref x1, .int x2, .int x3, .retAddr 0, .retAddr 0, .retAddr 0, .retAddr 0, .retAddr 0, .retAddr 0] [] h Q) : wm d 123 [.ref x0, .ref x1, .int x2, .int x3] h Q := by
  unfold wm
  rw [mx_123]
  exact t
set_option maxRecDepth 20000 in
theorem t_123_0 {d : Nat} {h : ab_H} {Q : Option Value → ab_H → Prop} {x0 : Nat} {x1 : Nat} {x2 : Int32} {x3 : Int32} (t : ab_ok h x1 108 = true ∧ ∃ j1 : Nat, ab_r h x1 5 = some j1 ∧ ab_ok h j1 104 = true ∧ wm d 55 [.ref j1, .int x2, .int 4] h (fun r9 h9 => wq (d + 1) 123 9 [.ref x0, .ref x1, .int x2, .int x3, .retAddr 0, .retAddr 0, .retAddr 0, .retAddr 0, .retAddr 0, .retAddr 0] (r9.toList ++ []) h9 Q)) : wq (d + 1) 123 0 [.ref x0, .ref x1, .int x2, .int x3, .retAddr 0, .retAddr 0, .retAddr 0, .retAddr 0, .retAddr 0, .retAddr 0] [] h Q := by
  refine g5 c_123_0 rfl ?_
  obtain ⟨ho, j1, hr, t⟩ := t
  refine g45 c_123_1 ho hr ?_
  refine g3 c_123_4 rfl ?_
  refine g1 c_123_5 k_4 ?_
  exact g80 (As := [.int x2, .int 4]) (rest := []) c_123_6 rfl rfl (Nat.le_of_ble_eq_true rfl) (Nat.le_of_ble_eq_true rfl) t.1 t.2
set_option maxRecDepth 20000 in
theorem t_123_9 {d : Nat} {h : ab_H} {Q : Option Value → ab_H → Prop} {x0 : Nat} {x1 : Nat} {x2 : Int32} {x3 : Int32} {s0 : Int32} (t : ab_ok h x1 108 = true ∧ ∃ j1 : Nat, ab_r h x1 2 = some j1 ∧ ab_ok h j1 104 = true ∧ wm d 55 [.ref j1, .int s0, .int 6] h (fun r9 h9 => wq (d + 1) 123 22 [.ref x0, .ref x1, .int x2, .int x3, .int s0, .retAddr 0, .retAddr 0, .retAddr 0, .retAddr 0, .retAddr 0] (r9.toList ++ []) h9 Q)) : wq (d + 1) 123 9 [.ref x0, .ref x1, .int x2, .int x3, .retAddr 0, .retAddr 0, .retAddr 0, .retAddr 0, .retAddr 0, .retAddr 0] [.int s0] h Q := by
  refine g6 (L' := [.ref x0, .ref x1, .int x2, .int x3, .int s0, .retAddr 0, .retAddr 0, .retAddr 0, .retAddr 0, .retAddr 0]) c_123_9 rfl ?_
  refine g5 c_123_11 rfl ?_
  obtain ⟨ho, j1, hr, t⟩ := t
  refine g45 c_123_12 ho hr ?_
  refine g3 c_123_15 rfl ?_
  refine g1 c_123_17 k_6 ?_
  exact g80 (As := [.int s0, .int 6]) (rest := []) c_123_19 rfl rfl (Nat.le_of_ble_eq_true rfl) (Nat.le_of_ble_eq_true rfl) t.1 t.2
set_option maxRecDepth 20000 in
theorem t_123_22 {d : Nat} {h : ab_H} {Q : Option Value → ab_H → Prop} {x0 : Nat} {x1 : Nat} {x2 : Int32} {x3 : Int32} {x4 : Int32} {s0 : Int32} (t : ab_ok h x1 108 = true ∧ wm d 104 [.ref x1, .int s0] h (fun r9 h9 => wq (d + 1) 123 30 [.ref x0, .ref x1, .int x2, .int x3, .int x4, .int s0, .retAddr 0, .retAddr 0, .retAddr 0, .retAddr 0] (r9.toList ++ []) h9 Q)) : wq (d + 1) 123 22 [.ref x0, .ref x1, .int x2, .int x3, .int x4, .retAddr 0, .retAddr 0, .retAddr 0, .retAddr 0, .retAddr 0] [.int s0] h Q := by
  refine g6 (L' := [.ref x0, .ref x1, .int x2, .int x3, .int x4, .int s0, .retAddr 0, .retAddr 0, .retAddr 0, .retAddr 0]) c_123_22 rfl ?_
  refine g5 c_123_24 rfl ?_
  refine g3 c_123_25 rfl ?_
  exact g80 (As := [.int s0]) (rest := []) c_123_27 rfl rfl (Nat.le_of_ble_eq_true rfl) (Nat.le_of_ble_eq_true rfl) t.1 t.2
set_option maxRecDepth 20000 in
theorem t_123_30 {d : Nat} {h : ab_H} {Q : Option Value → ab_H → Prop} {x0 : Nat} {x1 : Nat} {x2 : Int32} {x3 : Int32} {x4 : Int32} {x5 : Int32} {s0 : Int32} (t : ab_ok h x1 108 = true ∧ wm d 106 [.ref x1, .int x2, .int x3, .int x5] h (fun r9 h9 => wq (d + 1) 123 40 [.ref x0, .ref x1, .int x2, .int x3, .int x4, .int x5, .int s0, .retAddr 0, .retAddr 0, .retAddr 0] (r9.toList ++ []) h9 Q)) : wq (d + 1) 123 30 [.ref x0, .ref x1, .int x2, .int x3, .int x4, .int x5, .retAddr 0, .retAddr 0, .retAddr 0, .retAddr 0] [.int s0] h Q := by
  refine g6 (L' := [.ref x0, .ref x1, .int x2, .int x3, .int x4, .int x5, .int s0, .retAddr 0, .retAddr 0, .retAddr 0]) c_123_30 rfl ?_
  refine g5 c_123_32 rfl ?_
  refine g3 c_123_33 rfl ?_
  refine g3 c_123_34 rfl ?_
  refine g3 c_123_35 rfl ?_
  exact g80 (As := [.int x2, .int x3, .int x5]) (rest := []) c_123_37 rfl rfl (Nat.le_of_ble_eq_true rfl) (Nat.le_of_ble_eq_true rfl) t.1 t.2
set_option maxRecDepth 20000 in
theorem t_123_40 {d : Nat} {h : ab_H} {Q : Option Value → ab_H → Prop} {x0 : Nat} {x1 : Nat} {x2 : Int32} {x3 : Int32} {x4 : Int32} {x5 : Int32} {x6 : Int32} {s0 : Int32} (t : ab_ok h x1 108 = true ∧ ∃ j1 : Nat, ab_r h x1 2 = some j1 ∧ ab_ok h j1 104 = true ∧ wm d 55 [.ref j1, .int x4, .int 12] h (fun r9 h9 => wq (d + 1) 123 51 [.ref x0, .ref x1, .int x2, .int x3, .int x4, .int x5, .int x6, .retAddr 0, .retAddr 0, .retAddr 0] (r9.toList ++ [.int s0]) h9 Q)) : wq (d + 1) 123 40 [.ref x0, .ref x1, .int x2, .int x3, .int x4, .int x5, .int x6, .retAddr 0, .retAddr 0, .retAddr 0] [.int s0] h Q := by
  refine g5 c_123_40 rfl ?_
  obtain ⟨ho, j1, hr, t⟩ := t
  refine g45 c_123_41 ho hr ?_
  refine g3 c_123_44 rfl ?_
  refine g1 c_123_46 k_12 ?_
  exact g80 (As := [.int x4, .int 12]) (rest := [.int s0]) c_123_48 rfl rfl (Nat.le_of_ble_eq_true rfl) (Nat.le_of_ble_eq_true rfl) t.1 t.2
set_option maxRecDepth 20000 in
theorem t_123_51 {d : Nat} {h : ab_H} {Q : Option Value → ab_H → Prop} {x0 : Nat} {x1 : Nat} {x2 : Int32} {x3 : Int32} {x4 : Int32} {x5 : Int32} {x6 : Int32} {s0 : Int32} {s1 : Int32} (t : 7 ≤ (d + 1) ∧ ab_ok h x1 108 = true ∧ ∃ j1 : Nat, ab_r h x1 0 = some j1 ∧ ab_ok h j1 104 = true ∧ wm d 55 [.ref j1, .int x5, .int 2] h (fun r9 h9 => wq (d + 1) 123 72 [.ref x0, .ref x1, .int x2, .int x3, .int x4, .int x5, .int x6, .int (if s1 < s0 then s1 else s0), .retAddr 0, .retAddr 0] (r9.toList ++ [.int (if s1 < s0 then s1 else s0), .int x4, .ref x1, .ref x0]) h9 Q)) : wq (d + 1) 123 51 [.ref x0, .ref x1, .int x2, .int x3, .int x4, .int x5, .int x6, .retAddr 0, .retAddr 0, .retAddr 0] [.int s1, .int s0] h Q := by
  obtain ⟨h7, t⟩ := t
  refine g74 c_123_51 (Nat.le_of_ble_eq_true rfl) h7 ?_
  refine g6 (L' := [.ref x0, .ref x1, .int x2, .int x3, .int x4, .int x5, .int x6, .int (if s1 < s0 then s1 else s0), .retAddr 0, .retAddr 0]) c_123_54 rfl ?_
  refine g5 c_123_56 rfl ?_
  refine g5 c_123_57 rfl ?_
  refine g3 c_123_58 rfl ?_
  refine g3 c_123_60 rfl ?_
  refine g5 c_123_62 rfl ?_
  obtain ⟨ho, j1, hr, t⟩ := t
  refine g45 c_123_63 ho hr ?_
  refine g3 c_123_66 rfl ?_
  refine g1 c_123_68 k_2 ?_
  exact g80 (As := [.int x5, .int 2]) (rest := [.int (if s1 < s0 then s1 else s0), .int x4, .ref x1, .ref x0]) c_123_69 rfl rfl (Nat.le_of_ble_eq_true rfl) (Nat.le_of_ble_eq_true rfl) t.1 t.2
set_option maxRecDepth 20000 in
theorem t_123_72 {d : Nat} {h : ab_H} {Q : Option Value → ab_H → Prop} {x0 : Nat} {x1 : Nat} {x2 : Int32} {x3 : Int32} {x4 : Int32} {x5 : Int32} {x6 : Int32} {x7 : Int32} {s0 : Nat} {s1 : Nat} {s2 : Int32} {s3 : Int32} {s4 : Int32} (t : ab_ok h s0 109 = true ∧ wm d 124 [.ref s0, .ref s1, .int s2, .int s3, .int s4] h (fun r9 h9 => wq (d + 1) 123 75 [.ref x0, .ref x1, .int x2, .int x3, .int x4, .int x5, .int x6, .int x7, .retAddr 0, .retAddr 0] (r9.toList ++ []) h9 Q)) : wq (d + 1) 123 72 [.ref x0, .ref x1, .int x2, .int x3, .int x4, .int x5, .int x6, .int x7, .retAddr 0, .retAddr 0] [.int s4, .int s3, .int s2, .ref s1, .ref s0] h Q := by
  exact g80 (As := [.ref s1, .int s2, .int s3, .int s4]) (rest := []) c_123_72 rfl rfl (Nat.le_of_ble_eq_true rfl) (Nat.le_of_ble_eq_true rfl) t.1 t.2
set_option maxRecDepth 20000 in
theorem t_123_75 {d : Nat} {h : ab_H} {Q : Option Value → ab_H → Prop} {x0 : Nat} {x1 : Nat} {x2 : Int32} {x3 : Int32} {x4 : Int32} {x5 : Int32} {x6 : Int32} {x7 : Int32} {s0 : Int32} (t : ab_ok h x1 108 = true ∧ ∃ j1 : Nat, ab_r h x1 5 = some j1 ∧ ab_ok h j1 104 = true ∧ wm d 55 [.ref j1, .int x2, .int 7] h (fun r9 h9 => wq (d + 1) 123 87 [.ref x0, .ref x1, .int x2, .int x3, .int x4, .int x5, .int x6, .int x7, .int s0, .retAddr 0] (r9.toList ++ []) h9 Q)) : wq (d + 1) 123 75 [.ref x0, .ref x1, .int x2, .int x3, .int x4, .int x5, .int x6, .int x7, .retAddr 0, .retAddr 0] [.int s0] h Q := by
  refine g6 (L' := [.ref x0, .ref x1, .int x2, .int x3, .int x4, .int x5, .int x6, .int x7, .int s0, .retAddr 0]) c_123_75 rfl ?_
  refine g5 c_123_77 rfl ?_
  obtain ⟨ho, j1, hr, t⟩ := t
  refine g45 c_123_78 ho hr ?_
  refine g3 c_123_81 rfl ?_
  refine g1 c_123_82 k_7 ?_
  exact g80 (As := [.int x2, .int 7]) (rest := []) c_123_84 rfl rfl (Nat.le_of_ble_eq_true rfl) (Nat.le_of_ble_eq_true rfl) t.1 t.2
set_option maxRecDepth 20000 in
theorem t_123_87 {d : Nat} {h : ab_H} {Q : Option Value → ab_H → Prop} {x0 : Nat} {x1 : Nat} {x2 : Int32} {x3 : Int32} {x4 : Int32} {x5 : Int32} {x6 : Int32} {x7 : Int32} {x8 : Int32} {s0 : Int32} (t : ab_ok h x1 108 = true ∧ wm d 105 [.ref x1, .int x2, .int x3] h (fun r9 h9 => wq (d + 1) 123 93 [.ref x0, .ref x1, .int x2, .int x3, .int x4, .int x5, .int x6, .int x7, .int x8, .retAddr 0] (r9.toList ++ [.int s0]) h9 Q)) : wq (d + 1) 123 87 [.ref x0, .ref x1, .int x2, .int x3, .int x4, .int x5, .int x6, .int x7, .int x8, .retAddr 0] [.int s0] h Q := by
  refine g5 c_123_87 rfl ?_
  refine g3 c_123_88 rfl ?_
  refine g3 c_123_89 rfl ?_
  exact g80 (As := [.int x2, .int x3]) (rest := [.int s0]) c_123_90 rfl rfl (Nat.le_of_ble_eq_true rfl) (Nat.le_of_ble_eq_true rfl) t.1 t.2
set_option maxRecDepth 20000 in
theorem t_123_93 {d : Nat} {h : ab_H} {Q : Option Value → ab_H → Prop} {x0 : Nat} {x1 : Nat} {x2 : Int32} {x3 : Int32} {x4 : Int32} {x5 : Int32} {x6 : Int32} {x7 : Int32} {x8 : Int32} {s0 : Int32} {s1 : Int32} (t : ab_ok h x1 108 = true ∧ ∃ j1 : Nat, ab_r h x1 5 = some j1 ∧ 7 ≤ (d + 1) ∧ ab_ok h j1 104 = true ∧ wm d 56 [.ref j1, .int x2, .int 7, .int (if (x6 - 1) < ((s0 + s1) - (x8 * x6)) then (x6 - 1) else ((s0 + s1) - (x8 * x6)))] h (fun r9 h9 => wq (d + 1) 123 121 [.ref x0, .ref x1, .int x2, .int x3, .int x4, .int x5, .int x6, .int x7, .int x8, .int ((s0 + s1) - (x8 * x6))] (r9.toList ++ []) h9 Q)) : wq (d + 1) 123 93 [.ref x0, .ref x1, .int x2, .int x3, .int x4, .int x5, .int x6, .int x7, .int x8, .retAddr 0] [.int s1, .int s0] h Q := by
  refine g10 c_123_93 ?_
  refine g3 c_123_94 rfl ?_
  refine g3 c_123_96 rfl ?_
  refine g12 c_123_98 ?_
  refine g11 c_123_99 ?_
  refine g6 (L' := [.ref x0, .ref x1, .int x2, .int x3, .int x4, .int x5, .int x6, .int x7, .int x8, .int ((s0 + s1) - (x8 * x6))]) c_123_100 rfl ?_
  refine g5 c_123_102 rfl ?_
  obtain ⟨ho, j1, hr, t⟩ := t
  refine g45 c_123_103 ho hr ?_
  refine g3 c_123_106 rfl ?_
  refine g1 c_123_107 k_7 ?_
  refine g3 c_123_109 rfl ?_
  refine g3 c_123_111 rfl ?_
  refine g1 c_123_113 k_1 ?_
  refine g11 c_123_114 ?_
  obtain ⟨h7, t⟩ := t
  refine g74 c_123_115 (Nat.le_of_ble_eq_true rfl) h7 ?_
  exact g80 (As := [.int x2, .int 7, .int (if (x6 - 1) < ((s0 + s1) - (x8 * x6)) then (x6 - 1) else ((s0 + s1) - (x8 * x6)))]) (rest := []) c_123_118 rfl rfl (Nat.le_of_ble_eq_true rfl) (Nat.le_of_ble_eq_true rfl) t.1 t.2
set_option maxRecDepth 20000 in
theorem t_123_121 {d : Nat} {h : ab_H} {Q : Option Value → ab_H → Prop} {x0 : Nat} {x1 : Nat} {x2 : Int32} {x3 : Int32} {x4 : Int32} {x5 : Int32} {x6 : Int32} {x7 : Int32} {x8 : Int32} {x9 : Int32} (t : ab_ok h x1 108 = true ∧ ∃ j1 : Nat, ab_r h x1 2 = some j1 ∧ ab_ok h j1 104 = true ∧ wm d 57 [.ref j1, .int x4, .int 12, .int (-x8)] h (fun r9 h9 => wq (d + 1) 123 135 [.ref x0, .ref x1, .int x2, .int x3, .int x4, .int x5, .int x6, .int x7, .int x8, .int x9] (r9.toList ++ []) h9 Q)) : wq (d + 1) 123 121 [.ref x0, .ref x1, .int x2, .int x3, .int x4, .int x5, .int x6, .int x7, .int x8, .int x9] [] h Q := by
  refine g5 c_123_121 rfl ?_
  obtain ⟨ho, j1, hr, t⟩ := t
  refine g45 c_123_122 ho hr ?_
  refine g3 c_123_125 rfl ?_
  refine g1 c_123_127 k_12 ?_
  refine g3 c_123_129 rfl ?_
  refine g21 c_123_131 ?_
  exact g80 (As := [.int x4, .int 12, .int (-x8)]) (rest := []) c_123_132 rfl rfl (Nat.le_of_ble_eq_true rfl) (Nat.le_of_ble_eq_true rfl) t.1 t.2
set_option maxRecDepth 20000 in
theorem t_123_135 {d : Nat} {h : ab_H} {Q : Option Value → ab_H → Prop} {x0 : Nat} {x1 : Nat} {x2 : Int32} {x3 : Int32} {x4 : Int32} {x5 : Int32} {x6 : Int32} {x7 : Int32} {x8 : Int32} {x9 : Int32} (t : ab_ok h x1 108 = true ∧ ∃ j1 : Nat, ab_r h x1 2 = some j1 ∧ ab_ok h j1 104 = true ∧ wm d 57 [.ref j1, .int x4, .int 9, .int x8] h (fun r9 h9 => wq (d + 1) 123 148 [.ref x0, .ref x1, .int x2, .int x3, .int x4, .int x5, .int x6, .int x7, .int x8, .int x9] (r9.toList ++ []) h9 Q)) : wq (d + 1) 123 135 [.ref x0, .ref x1, .int x2, .int x3, .int x4, .int x5, .int x6, .int x7, .int x8, .int x9] [] h Q := by
  refine g5 c_123_135 rfl ?_
  obtain ⟨ho, j1, hr, t⟩ := t
  refine g45 c_123_136 ho hr ?_
  refine g3 c_123_139 rfl ?_
  refine g1 c_123_141 k_9 ?_
  refine g3 c_123_143 rfl ?_
  exact g80 (As := [.int x4, .int 9, .int x8]) (rest := []) c_123_145 rfl rfl (Nat.le_of_ble_eq_true rfl) (Nat.le_of_ble_eq_true rfl) t.1 t.2
set_option maxRecDepth 20000 in
theorem t_123_148 {d : Nat} {h : ab_H} {Q : Option Value → ab_H → Prop} {x0 : Nat} {x1 : Nat} {x2 : Int32} {x3 : Int32} {x4 : Int32} {x5 : Int32} {x6 : Int32} {x7 : Int32} {x8 : Int32} {x9 : Int32} (t : Q (some (.int x8)) h) : wq d 123 148 [.ref x0, .ref x1, .int x2, .int x3, .int x4, .int x5, .int x6, .int x7, .int x8, .int x9] [] h Q := by
  refine g3 c_123_148 rfl ?_
  exact g90 c_123_150 t
-- method 124: MillTown$Week.spin(LMillTown$Town;III)I
theorem c_124_0 : pg_cd 124 0 = (3, 1, 0, 3, 0) := by decide +kernel
theorem c_124_1 : pg_cd 124 1 = (3, 2, 0, 4, 0) := by decide +kernel
theorem c_124_3 : pg_cd 124 3 = (12, 1, 0, 0, 0) := by decide +kernel
theorem c_124_4 : pg_cd 124 4 = (5, 1, 0, 1, 0) := by decide +kernel
theorem c_124_5 : pg_cd 124 5 = (45, 8, 115, 2, 0) := by decide +kernel
theorem c_124_8 : pg_cd 124 8 = (3, 1, 0, 2, 0) := by decide +kernel
theorem c_124_9 : pg_cd 124 9 = (1, 1, 0, 0, 3) := by decide +kernel
theorem c_124_10 : pg_cd 124 10 = (80, 55, 118, 0, 0) := by decide +kernel
theorem c_124_13 : pg_cd 124 13 = (11, 1, 0, 0, 0) := by decide +kernel
theorem c_124_14 : pg_cd 124 14 = (6, 2, 0, 5, 0) := by decide +kernel
theorem c_124_16 : pg_cd 124 16 = (3, 2, 0, 5, 0) := by decide +kernel
theorem c_124_18 : pg_cd 124 18 = (36, 3, 0, 5, 18) := by decide +kernel
theorem c_124_21 : pg_cd 124 21 = (3, 2, 0, 5, 0) := by decide +kernel
theorem c_124_23 : pg_cd 124 23 = (1, 3, 0, 0, 360) := by decide +kernel
theorem c_124_26 : pg_cd 124 26 = (10, 1, 0, 0, 0) := by decide +kernel
theorem c_124_27 : pg_cd 124 27 = (1, 1, 0, 0, 1) := by decide +kernel
theorem c_124_28 : pg_cd 124 28 = (11, 1, 0, 0, 0) := by decide +kernel
theorem c_124_29 : pg_cd 124 29 = (1, 3, 0, 0, 360) := by decide +kernel
theorem c_124_32 : pg_cd 124 32 = (16, 1, 0, 0, 0) := by decide +kernel
theorem c_124_33 : pg_cd 124 33 = (38, 3, 0, 0, 4) := by decide +kernel
theorem c_124_36 : pg_cd 124 36 = (1, 1, 0, 0, 0) := by decide +kernel
theorem c_124_37 : pg_cd 124 37 = (6, 2, 0, 6, 0) := by decide +kernel
theorem c_124_39 : pg_cd 124 39 = (5, 1, 0, 0, 0) := by decide +kernel
theorem c_124_40 : pg_cd 124 40 = (43, 9, 96, 5, 0) := by decide +kernel
theorem c_124_43 : pg_cd 124 43 = (36, 3, 0, 5, 20) := by decide +kernel
theorem c_124_46 : pg_cd 124 46 = (5, 1, 0, 1, 0) := by decide +kernel
theorem c_124_47 : pg_cd 124 47 = (45, 8, 115, 2, 0) := by decide +kernel
theorem c_124_50 : pg_cd 124 50 = (3, 1, 0, 2, 0) := by decide +kernel
theorem c_124_51 : pg_cd 124 51 = (1, 1, 0, 0, 2) := by decide +kernel
theorem c_124_52 : pg_cd 124 52 = (80, 55, 118, 0, 0) := by decide +kernel
theorem c_124_55 : pg_cd 124 55 = (5, 1, 0, 0, 0) := by decide +kernel
theorem c_124_56 : pg_cd 124 56 = (43, 9, 96, 5, 0) := by decide +kernel
theorem c_124_59 : pg_cd 124 59 = (16, 1, 0, 0, 0) := by decide +kernel
theorem c_124_60 : pg_cd 124 60 = (38, 3, 0, 0, 4) := by decide +kernel
theorem c_124_63 : pg_cd 124 63 = (1, 1, 0, 0, 0) := by decide +kernel
theorem c_124_64 : pg_cd 124 64 = (6, 2, 0, 7, 0) := by decide +kernel
theorem c_124_66 : pg_cd 124 66 = (1, 1, 0, 0, 0) := by decide +kernel
theorem c_124_67 : pg_cd 124 67 = (3, 2, 0, 6, 0) := by decide +kernel
theorem c_124_69 : pg_cd 124 69 = (3, 2, 0, 7, 0) := by decide +kernel
theorem c_124_71 : pg_cd 124 71 = (74, 0, 182, 0, 0) := by decide +kernel
theorem c_124_74 : pg_cd 124 74 = (73, 0, 217, 0, 0) := by decide +kernel
theorem c_124_77 : pg_cd 124 77 = (6, 2, 0, 8, 0) := by decide +kernel
theorem c_124_79 : pg_cd 124 79 = (5, 1, 0, 1, 0) := by decide +kernel
theorem c_124_80 : pg_cd 124 80 = (45, 8, 115, 2, 0) := by decide +kernel
theorem c_124_83 : pg_cd 124 83 = (3, 1, 0, 2, 0) := by decide +kernel
theorem c_124_84 : pg_cd 124 84 = (1, 1, 0, 0, 2) := by decide +kernel
theorem c_124_85 : pg_cd 124 85 = (3, 2, 0, 8, 0) := by decide +kernel
theorem c_124_87 : pg_cd 124 87 = (21, 1, 0, 0, 0) := by decide +kernel
theorem c_124_88 : pg_cd 124 88 = (5, 1, 0, 0, 0) := by decide +kernel
theorem c_124_89 : pg_cd 124 89 = (43, 9, 96, 5, 0) := by decide +kernel
theorem c_124_92 : pg_cd 124 92 = (12, 1, 0, 0, 0) := by decide +kernel
theorem c_124_93 : pg_cd 124 93 = (80, 57, 190, 0, 0) := by decide +kernel
theorem c_124_96 : pg_cd 124 96 = (5, 1, 0, 1, 0) := by decide +kernel
theorem c_124_97 : pg_cd 124 97 = (45, 8, 115, 2, 0) := by decide +kernel
theorem c_124_100 : pg_cd 124 100 = (3, 1, 0, 2, 0) := by decide +kernel
theorem c_124_101 : pg_cd 124 101 = (1, 1, 0, 0, 3) := by decide +kernel
theorem c_124_102 : pg_cd 124 102 = (3, 2, 0, 8, 0) := by decide +kernel
theorem c_124_104 : pg_cd 124 104 = (1, 3, 0, 0, 360) := by decide +kernel
theorem c_124_107 : pg_cd 124 107 = (12, 1, 0, 0, 0) := by decide +kernel
theorem c_124_108 : pg_cd 124 108 = (80, 57, 190, 0, 0) := by decide +kernel
theorem c_124_111 : pg_cd 124 111 = (3, 2, 0, 4, 0) := by decide +kernel
theorem c_124_113 : pg_cd 124 113 = (36, 3, 0, 5, 22) := by decide +kernel
theorem c_124_116 : pg_cd 124 116 = (3, 1, 0, 3, 0) := by decide +kernel
theorem c_124_117 : pg_cd 124 117 = (5, 1, 0, 1, 0) := by decide +kernel
theorem c_124_118 : pg_cd 124 118 = (45, 8, 115, 2, 0) := by decide +kernel
theorem c_124_121 : pg_cd 124 121 = (3, 1, 0, 2, 0) := by decide +kernel
theorem c_124_122 : pg_cd 124 122 = (1, 1, 0, 0, 3) := by decide +kernel
theorem c_124_123 : pg_cd 124 123 = (80, 55, 118, 0, 0) := by decide +kernel
theorem c_124_126 : pg_cd 124 126 = (3, 2, 0, 4, 0) := by decide +kernel
theorem c_124_128 : pg_cd 124 128 = (16, 1, 0, 0, 0) := by decide +kernel
theorem c_124_129 : pg_cd 124 129 = (74, 0, 182, 0, 0) := by decide +kernel
theorem c_124_132 : pg_cd 124 132 = (38, 3, 0, 0, 4) := by decide +kernel
theorem c_124_135 : pg_cd 124 135 = (1, 1, 0, 0, 0) := by decide +kernel
theorem c_124_136 : pg_cd 124 136 = (6, 2, 0, 9, 0) := by decide +kernel
theorem c_124_138 : pg_cd 124 138 = (5, 1, 0, 1, 0) := by decide +kernel
theorem c_124_139 : pg_cd 124 139 = (45, 8, 115, 2, 0) := by decide +kernel
theorem c_124_142 : pg_cd 124 142 = (3, 1, 0, 2, 0) := by decide +kernel
theorem c_124_143 : pg_cd 124 143 = (1, 1, 0, 0, 3) := by decide +kernel
theorem c_124_144 : pg_cd 124 144 = (3, 2, 0, 9, 0) := by decide +kernel
theorem c_124_146 : pg_cd 124 146 = (21, 1, 0, 0, 0) := by decide +kernel
theorem c_124_147 : pg_cd 124 147 = (3, 2, 0, 4, 0) := by decide +kernel
theorem c_124_149 : pg_cd 124 149 = (12, 1, 0, 0, 0) := by decide +kernel
theorem c_124_150 : pg_cd 124 150 = (80, 57, 190, 0, 0) := by decide +kernel
theorem c_124_153 : pg_cd 124 153 = (3, 2, 0, 9, 0) := by decide +kernel
theorem c_124_155 : pg_cd 124 155 = (90, 0, 0, 0, 0) := by decide +kernel
theorem mx_124 : pg_mx 124 = 10 := by decide +kernel
theorem m_124 {d : Nat} {h : ab_H} {Q : Option Value → ab_H → Prop} {x0 : Nat} {x1 : Nat} {x2 : Int32} {x3 : Int32} {x4 : Int32} (t : wq d 124 0 [.ref x0, .ref x1, .int x2, .int x3, .int x4, .retAddr 0, .retAddr 0, .retAddr 0, .retAddr 0, .retAddr 0] [] h Q) : wm d 124 [.ref x0, .ref x1, .int x2, .int x3, .int x4] h Q := by
  unfold wm
  rw [mx_124]
  exact t
set_option maxRecDepth 20000 in
theorem t_124_0 {d : Nat} {h : ab_H} {Q : Option Value → ab_H → Prop} {x0 : Nat} {x1 : Nat} {x2 : Int32} {x3 : Int32} {x4 : Int32} (t : ab_ok h x1 108 = true ∧ ∃ j1 : Nat, ab_r h x1 2 = some j1 ∧ ab_ok h j1 104 = true ∧ wm d 55 [.ref j1, .int x2, .int 3] h (fun r9 h9 => wq (d + 1) 124 13 [.ref x0, .ref x1, .int x2, .int x3, .int x4, .retAddr 0, .retAddr 0, .retAddr 0, .retAddr 0, .retAddr 0] (r9.toList ++ [.int (x3 * x4)]) h9 Q)) : wq (d + 1) 124 0 [.ref x0, .ref x1, .int x2, .int x3, .int x4, .retAddr 0, .retAddr 0, .retAddr 0, .retAddr 0, .retAddr 0] [] h Q := by
  refine g3 c_124_0 rfl ?_
  refine g3 c_124_1 rfl ?_
  refine g12 c_124_3 ?_
  refine g5 c_124_4 rfl ?_
  obtain ⟨ho, j1, hr, t⟩ := t
  refine g45 c_124_5 ho hr ?_
  refine g3 c_124_8 rfl ?_
  refine g1 c_124_9 k_3 ?_
  exact g80 (As := [.int x2, .int 3]) (rest := [.int (x3 * x4)]) c_124_10 rfl rfl (Nat.le_of_ble_eq_true rfl) (Nat.le_of_ble_eq_true rfl) t.1 t.2
set_option maxRecDepth 20000 in
theorem t_124_13 {d : Nat} {h : ab_H} {Q : Option Value → ab_H → Prop} {x0 : Nat} {x1 : Nat} {x2 : Int32} {x3 : Int32} {x4 : Int32} {s0 : Int32} {s1 : Int32} (t : if (s0 - s1) ≤ 0 then (ab_ok h x0 109 = true ∧ if (ab_i h x0 5) ≤ 0 then (7 ≤ (d + 1) ∧ 7 ≤ (d + 1) ∧ ∀ y1 : Int32, y1 = (if (0 : Int32) < (if (0 : Int32) < (0 : Int32) then 0 else 0) then (if (0 : Int32) < (0 : Int32) then 0 else 0) else 0) → ab_ok h x1 108 = true ∧ ∃ j2 : Nat, ab_r h x1 2 = some j2 ∧ ab_ok h x0 109 = true ∧ ab_ok h j2 104 = true ∧ wm d 57 [.ref j2, .int x2, .int 2, .int ((-y1) * (ab_i h x0 5))] h (fun r9 h9 => wq (d + 1) 124 96 [.ref x0, .ref x1, .int x2, .int x3, .int x4, .int (s0 - s1), .int 0, .int 0, .int y1, .retAddr 0] (r9.toList ++ []) h9 Q)) else (ab_ok h x1 108 = true ∧ ∃ j3 : Nat, ab_r h x1 2 = some j3 ∧ ab_ok h j3 104 = true ∧ wm d 55 [.ref j3, .int x2, .int 2] h (fun r9 h9 => wq (d + 1) 124 55 [.ref x0, .ref x1, .int x2, .int x3, .int x4, .int (s0 - s1), .int 0, .retAddr 0, .retAddr 0, .retAddr 0] (r9.toList ++ []) h9 Q))) else (¬ (360 : Int32) = 0 ∧ ab_ok h x0 109 = true ∧ if (ab_i h x0 5) ≤ 0 then (7 ≤ (d + 1) ∧ 7 ≤ (d + 1) ∧ ∀ y4 : Int32, y4 = (if (0 : Int32) < (if (0 : Int32) < ((((s0 - s1) + 360) - 1) / 360) then 0 else ((((s0 - s1) + 360) - 1) / 360)) then (if (0 : Int32) < ((((s0 - s1) + 360) - 1) / 360) then 0 else ((((s0 - s1) + 360) - 1) / 360)) else 0) → ab_ok h x1 108 = true ∧ ∃ j5 : Nat, ab_r h x1 2 = some j5 ∧ ab_ok h x0 109 = true ∧ ab_ok h j5 104 = true ∧ wm d 57 [.ref j5, .int x2, .int 2, .int ((-y4) * (ab_i h x0 5))] h (fun r9 h9 => wq (d + 1) 124 96 [.ref x0, .ref x1, .int x2, .int x3, .int x4, .int (s0 - s1), .int ((((s0 - s1) + 360) - 1) / 360), .int 0, .int y4, .retAddr 0] (r9.toList ++ []) h9 Q)) else (ab_ok h x1 108 = true ∧ ∃ j6 : Nat, ab_r h x1 2 = some j6 ∧ ab_ok h j6 104 = true ∧ wm d 55 [.ref j6, .int x2, .int 2] h (fun r9 h9 => wq (d + 1) 124 55 [.ref x0, .ref x1, .int x2, .int x3, .int x4, .int (s0 - s1), .int ((((s0 - s1) + 360) - 1) / 360), .retAddr 0, .retAddr 0, .retAddr 0] (r9.toList ++ []) h9 Q)))) : wq (d + 1) 124 13 [.ref x0, .ref x1, .int x2, .int x3, .int x4, .retAddr 0, .retAddr 0, .retAddr 0, .retAddr 0, .retAddr 0] [.int s1, .int s0] h Q := by
  refine g11 c_124_13 ?_
  refine g6 (L' := [.ref x0, .ref x1, .int x2, .int x3, .int x4, .int (s0 - s1), .retAddr 0, .retAddr 0, .retAddr 0, .retAddr 0]) c_124_14 rfl ?_
  refine g3 c_124_16 rfl ?_
  refine gif c_124_18 (gbr t rfl rfl (fun hc t => ?_) (fun hc t => ?_))
  · refine g1 c_124_36 k_0 ?_
    refine g6 (L' := [.ref x0, .ref x1, .int x2, .int x3, .int x4, .int (s0 - s1), .int 0, .retAddr 0, .retAddr 0, .retAddr 0]) c_124_37 rfl ?_
    refine g5 c_124_39 rfl ?_
    obtain ⟨ho, t⟩ := t
    refine g43 c_124_40 ho ?_
    refine gif c_124_43 (gbr t rfl rfl (fun hc t => ?_) (fun hc t => ?_))
    · refine g1 c_124_63 k_0 ?_
      refine g6 (L' := [.ref x0, .ref x1, .int x2, .int x3, .int x4, .int (s0 - s1), .int 0, .int 0, .retAddr 0, .retAddr 0]) c_124_64 rfl ?_
      refine g1 c_124_66 k_0 ?_
      refine g3 c_124_67 rfl ?_
      refine g3 c_124_69 rfl ?_
      obtain ⟨h7, t⟩ := t
      refine g74 c_124_71 (Nat.le_of_ble_eq_true rfl) h7 ?_
      obtain ⟨h7, t⟩ := t
      refine g73 c_124_74 (Nat.le_of_ble_eq_true rfl) h7 ?_
      refine g6y (Lf := fun y1 => [.ref x0, .ref x1, .int x2, .int x3, .int x4, .int (s0 - s1), .int 0, .int 0, .int y1, .retAddr 0]) c_124_77 (fun _ => rfl) (fun y1 ey1 => ?_)
      have t := t y1 ey1
      refine g5 c_124_79 rfl ?_
      obtain ⟨ho, j2, hr, t⟩ := t
      refine g45 c_124_80 ho hr ?_
      refine g3 c_124_83 rfl ?_
      refine g1 c_124_84 k_2 ?_
      refine g3 c_124_85 rfl ?_
      refine g21 c_124_87 ?_
      refine g5 c_124_88 rfl ?_
      obtain ⟨ho, t⟩ := t
      refine g43 c_124_89 ho ?_
      refine g12 c_124_92 ?_
      exact g80 (As := [.int x2, .int 2, .int ((-y1) * (ab_i h x0 5))]) (rest := []) c_124_93 rfl rfl (Nat.le_of_ble_eq_true rfl) (Nat.le_of_ble_eq_true rfl) t.1 t.2
    · refine g5 c_124_46 rfl ?_
      obtain ⟨ho, j3, hr, t⟩ := t
      refine g45 c_124_47 ho hr ?_
      refine g3 c_124_50 rfl ?_
      refine g1 c_124_51 k_2 ?_
      exact g80 (As := [.int x2, .int 2]) (rest := []) c_124_52 rfl rfl (Nat.le_of_ble_eq_true rfl) (Nat.le_of_ble_eq_true rfl) t.1 t.2
  · refine g3 c_124_21 rfl ?_
    refine g1 c_124_23 k_360 ?_
    refine g10 c_124_26 ?_
    refine g1 c_124_27 k_1 ?_
    refine g11 c_124_28 ?_
    refine g1 c_124_29 k_360 ?_
    obtain ⟨hy, t⟩ := t
    refine g16 c_124_32 hy ?_
    refine g38 c_124_33 rfl ?_
    refine g6 (L' := [.ref x0, .ref x1, .int x2, .int x3, .int x4, .int (s0 - s1), .int ((((s0 - s1) + 360) - 1) / 360), .retAddr 0, .retAddr 0, .retAddr 0]) c_124_37 rfl ?_
    refine g5 c_124_39 rfl ?_
    obtain ⟨ho, t⟩ := t
    refine g43 c_124_40 ho ?_
    refine gif c_124_43 (gbr t rfl rfl (fun hc t => ?_) (fun hc t => ?_))
    · refine g1 c_124_63 k_0 ?_
      refine g6 (L' := [.ref x0, .ref x1, .int x2, .int x3, .int x4, .int (s0 - s1), .int ((((s0 - s1) + 360) - 1) / 360), .int 0, .retAddr 0, .retAddr 0]) c_124_64 rfl ?_
      refine g1 c_124_66 k_0 ?_
      refine g3 c_124_67 rfl ?_
      refine g3 c_124_69 rfl ?_
      obtain ⟨h7, t⟩ := t
      refine g74 c_124_71 (Nat.le_of_ble_eq_true rfl) h7 ?_
      obtain ⟨h7, t⟩ := t
      refine g73 c_124_74 (Nat.le_of_ble_eq_true rfl) h7 ?_
      refine g6y (Lf := fun y4 => [.ref x0, .ref x1, .int x2, .int x3, .int x4, .int (s0 - s1), .int ((((s0 - s1) + 360) - 1) / 360), .int 0, .int y4, .retAddr 0]) c_124_77 (fun _ => rfl) (fun y4 ey4 => ?_)
      have t := t y4 ey4
      refine g5 c_124_79 rfl ?_
      obtain ⟨ho, j5, hr, t⟩ := t
      refine g45 c_124_80 ho hr ?_
      refine g3 c_124_83 rfl ?_
      refine g1 c_124_84 k_2 ?_
      refine g3 c_124_85 rfl ?_
      refine g21 c_124_87 ?_
      refine g5 c_124_88 rfl ?_
      obtain ⟨ho, t⟩ := t
      refine g43 c_124_89 ho ?_
      refine g12 c_124_92 ?_
      exact g80 (As := [.int x2, .int 2, .int ((-y4) * (ab_i h x0 5))]) (rest := []) c_124_93 rfl rfl (Nat.le_of_ble_eq_true rfl) (Nat.le_of_ble_eq_true rfl) t.1 t.2
    · refine g5 c_124_46 rfl ?_
      obtain ⟨ho, j6, hr, t⟩ := t
      refine g45 c_124_47 ho hr ?_
      refine g3 c_124_50 rfl ?_
      refine g1 c_124_51 k_2 ?_
      exact g80 (As := [.int x2, .int 2]) (rest := []) c_124_52 rfl rfl (Nat.le_of_ble_eq_true rfl) (Nat.le_of_ble_eq_true rfl) t.1 t.2
set_option maxRecDepth 20000 in
theorem t_124_55 {d : Nat} {h : ab_H} {Q : Option Value → ab_H → Prop} {x0 : Nat} {x1 : Nat} {x2 : Int32} {x3 : Int32} {x4 : Int32} {x5 : Int32} {x6 : Int32} {s0 : Int32} (t : ab_ok h x0 109 = true ∧ ¬ (ab_i h x0 5 : Int32) = 0 ∧ 7 ≤ (d + 1) ∧ 7 ≤ (d + 1) ∧ ∀ y1 : Int32, y1 = (if (0 : Int32) < (if (s0 / (ab_i h x0 5)) < x6 then (s0 / (ab_i h x0 5)) else x6) then (if (s0 / (ab_i h x0 5)) < x6 then (s0 / (ab_i h x0 5)) else x6) else 0) → ab_ok h x1 108 = true ∧ ∃ j2 : Nat, ab_r h x1 2 = some j2 ∧ ab_ok h x0 109 = true ∧ ab_ok h j2 104 = true ∧ wm d 57 [.ref j2, .int x2, .int 2, .int ((-y1) * (ab_i h x0 5))] h (fun r9 h9 => wq (d + 1) 124 96 [.ref x0, .ref x1, .int x2, .int x3, .int x4, .int x5, .int x6, .int (s0 / (ab_i h x0 5)), .int y1, .retAddr 0] (r9.toList ++ []) h9 Q)) : wq (d + 1) 124 55 [.ref x0, .ref x1, .int x2, .int x3, .int x4, .int x5, .int x6, .retAddr 0, .retAddr 0, .retAddr 0] [.int s0] h Q := by
  refine g5 c_124_55 rfl ?_
  obtain ⟨ho, t⟩ := t
  refine g43 c_124_56 ho ?_
  obtain ⟨hy, t⟩ := t
  refine g16 c_124_59 hy ?_
  refine g38 c_124_60 rfl ?_
  refine g6 (L' := [.ref x0, .ref x1, .int x2, .int x3, .int x4, .int x5, .int x6, .int (s0 / (ab_i h x0 5)), .retAddr 0, .retAddr 0]) c_124_64 rfl ?_
  refine g1 c_124_66 k_0 ?_
  refine g3 c_124_67 rfl ?_
  refine g3 c_124_69 rfl ?_
  obtain ⟨h7, t⟩ := t
  refine g74 c_124_71 (Nat.le_of_ble_eq_true rfl) h7 ?_
  obtain ⟨h7, t⟩ := t
  refine g73 c_124_74 (Nat.le_of_ble_eq_true rfl) h7 ?_
  refine g6y (Lf := fun y1 => [.ref x0, .ref x1, .int x2, .int x3, .int x4, .int x5, .int x6, .int (s0 / (ab_i h x0 5)), .int y1, .retAddr 0]) c_124_77 (fun _ => rfl) (fun y1 ey1 => ?_)
  have t := t y1 ey1
  refine g5 c_124_79 rfl ?_
  obtain ⟨ho, j2, hr, t⟩ := t
  refine g45 c_124_80 ho hr ?_
  refine g3 c_124_83 rfl ?_
  refine g1 c_124_84 k_2 ?_
  refine g3 c_124_85 rfl ?_
  refine g21 c_124_87 ?_
  refine g5 c_124_88 rfl ?_
  obtain ⟨ho, t⟩ := t
  refine g43 c_124_89 ho ?_
  refine g12 c_124_92 ?_
  exact g80 (As := [.int x2, .int 2, .int ((-y1) * (ab_i h x0 5))]) (rest := []) c_124_93 rfl rfl (Nat.le_of_ble_eq_true rfl) (Nat.le_of_ble_eq_true rfl) t.1 t.2
set_option maxRecDepth 20000 in
theorem t_124_96 {d : Nat} {h : ab_H} {Q : Option Value → ab_H → Prop} {x0 : Nat} {x1 : Nat} {x2 : Int32} {x3 : Int32} {x4 : Int32} {x5 : Int32} {x6 : Int32} {x7 : Int32} {x8 : Int32} (t : ab_ok h x1 108 = true ∧ ∃ j1 : Nat, ab_r h x1 2 = some j1 ∧ ab_ok h j1 104 = true ∧ wm d 57 [.ref j1, .int x2, .int 3, .int (x8 * 360)] h (fun r9 h9 => wq (d + 1) 124 111 [.ref x0, .ref x1, .int x2, .int x3, .int x4, .int x5, .int x6, .int x7, .int x8, .retAddr 0] (r9.toList ++ []) h9 Q)) : wq (d + 1) 124 96 [.ref x0, .ref x1, .int x2, .int x3, .int x4, .int x5, .int x6, .int x7, .int x8, .retAddr 0] [] h Q := by
  refine g5 c_124_96 rfl ?_
  obtain ⟨ho, j1, hr, t⟩ := t
  refine g45 c_124_97 ho hr ?_
  refine g3 c_124_100 rfl ?_
  refine g1 c_124_101 k_3 ?_
  refine g3 c_124_102 rfl ?_
  refine g1 c_124_104 k_360 ?_
  refine g12 c_124_107 ?_
  exact g80 (As := [.int x2, .int 3, .int (x8 * 360)]) (rest := []) c_124_108 rfl rfl (Nat.le_of_ble_eq_true rfl) (Nat.le_of_ble_eq_true rfl) t.1 t.2
set_option maxRecDepth 20000 in
theorem t_124_111 {d : Nat} {h : ab_H} {Q : Option Value → ab_H → Prop} {x0 : Nat} {x1 : Nat} {x2 : Int32} {x3 : Int32} {x4 : Int32} {x5 : Int32} {x6 : Int32} {x7 : Int32} {x8 : Int32} (t : if x4 ≤ 0 then (ab_ok h x1 108 = true ∧ ∃ j1 : Nat, ab_r h x1 2 = some j1 ∧ ab_ok h j1 104 = true ∧ wm d 57 [.ref j1, .int x2, .int 3, .int ((-0) * x4)] h (fun r9 h9 => wq (d + 1) 124 153 [.ref x0, .ref x1, .int x2, .int x3, .int x4, .int x5, .int x6, .int x7, .int x8, .int 0] (r9.toList ++ []) h9 Q)) else (ab_ok h x1 108 = true ∧ ∃ j2 : Nat, ab_r h x1 2 = some j2 ∧ ab_ok h j2 104 = true ∧ wm d 55 [.ref j2, .int x2, .int 3] h (fun r9 h9 => wq (d + 1) 124 126 [.ref x0, .ref x1, .int x2, .int x3, .int x4, .int x5, .int x6, .int x7, .int x8, .retAddr 0] (r9.toList ++ [.int x3]) h9 Q))) : wq (d + 1) 124 111 [.ref x0, .ref x1, .int x2, .int x3, .int x4, .int x5, .int x6, .int x7, .int x8, .retAddr 0] [] h Q := by
  refine g3 c_124_111 rfl ?_
  refine gif c_124_113 (gbr t rfl rfl (fun hc t => ?_) (fun hc t => ?_))
  · refine g1 c_124_135 k_0 ?_
    refine g6 (L' := [.ref x0, .ref x1, .int x2, .int x3, .int x4, .int x5, .int x6, .int x7, .int x8, .int 0]) c_124_136 rfl ?_
    refine g5 c_124_138 rfl ?_
    obtain ⟨ho, j1, hr, t⟩ := t
    refine g45 c_124_139 ho hr ?_
    refine g3 c_124_142 rfl ?_
    refine g1 c_124_143 k_3 ?_
    refine g3 c_124_144 rfl ?_
    refine g21 c_124_146 ?_
    refine g3 c_124_147 rfl ?_
    refine g12 c_124_149 ?_
    exact g80 (As := [.int x2, .int 3, .int ((-0) * x4)]) (rest := []) c_124_150 rfl rfl (Nat.le_of_ble_eq_true rfl) (Nat.le_of_ble_eq_true rfl) t.1 t.2
  · refine g3 c_124_116 rfl ?_
    refine g5 c_124_117 rfl ?_
    obtain ⟨ho, j2, hr, t⟩ := t
    refine g45 c_124_118 ho hr ?_
    refine g3 c_124_121 rfl ?_
    refine g1 c_124_122 k_3 ?_
    exact g80 (As := [.int x2, .int 3]) (rest := [.int x3]) c_124_123 rfl rfl (Nat.le_of_ble_eq_true rfl) (Nat.le_of_ble_eq_true rfl) t.1 t.2
set_option maxRecDepth 20000 in
theorem t_124_126 {d : Nat} {h : ab_H} {Q : Option Value → ab_H → Prop} {x0 : Nat} {x1 : Nat} {x2 : Int32} {x3 : Int32} {x4 : Int32} {x5 : Int32} {x6 : Int32} {x7 : Int32} {x8 : Int32} {s0 : Int32} {s1 : Int32} (t : ¬ (x4 : Int32) = 0 ∧ 7 ≤ (d + 1) ∧ ab_ok h x1 108 = true ∧ ∃ j1 : Nat, ab_r h x1 2 = some j1 ∧ ab_ok h j1 104 = true ∧ wm d 57 [.ref j1, .int x2, .int 3, .int ((-(if (s1 / x4) < s0 then (s1 / x4) else s0)) * x4)] h (fun r9 h9 => wq (d + 1) 124 153 [.ref x0, .ref x1, .int x2, .int x3, .int x4, .int x5, .int x6, .int x7, .int x8, .int (if (s1 / x4) < s0 then (s1 / x4) else s0)] (r9.toList ++ []) h9 Q)) : wq (d + 1) 124 126 [.ref x0, .ref x1, .int x2, .int x3, .int x4, .int x5, .int x6, .int x7, .int x8, .retAddr 0] [.int s1, .int s0] h Q := by
  refine g3 c_124_126 rfl ?_
  obtain ⟨hy, t⟩ := t
  refine g16 c_124_128 hy ?_
  obtain ⟨h7, t⟩ := t
  refine g74 c_124_129 (Nat.le_of_ble_eq_true rfl) h7 ?_
  refine g38 c_124_132 rfl ?_
  refine g6 (L' := [.ref x0, .ref x1, .int x2, .int x3, .int x4, .int x5, .int x6, .int x7, .int x8, .int (if (s1 / x4) < s0 then (s1 / x4) else s0)]) c_124_136 rfl ?_
  refine g5 c_124_138 rfl ?_
  obtain ⟨ho, j1, hr, t⟩ := t
  refine g45 c_124_139 ho hr ?_
  refine g3 c_124_142 rfl ?_
  refine g1 c_124_143 k_3 ?_
  refine g3 c_124_144 rfl ?_
  refine g21 c_124_146 ?_
  refine g3 c_124_147 rfl ?_
  refine g12 c_124_149 ?_
  exact g80 (As := [.int x2, .int 3, .int ((-(if (s1 / x4) < s0 then (s1 / x4) else s0)) * x4)]) (rest := []) c_124_150 rfl rfl (Nat.le_of_ble_eq_true rfl) (Nat.le_of_ble_eq_true rfl) t.1 t.2
set_option maxRecDepth 20000 in
theorem t_124_153 {d : Nat} {h : ab_H} {Q : Option Value → ab_H → Prop} {x0 : Nat} {x1 : Nat} {x2 : Int32} {x3 : Int32} {x4 : Int32} {x5 : Int32} {x6 : Int32} {x7 : Int32} {x8 : Int32} {x9 : Int32} (t : Q (some (.int x9)) h) : wq d 124 153 [.ref x0, .ref x1, .int x2, .int x3, .int x4, .int x5, .int x6, .int x7, .int x8, .int x9] [] h Q := by
  refine g3 c_124_153 rfl ?_
  exact g90 c_124_155 t
-- method 125: MillTown$Week.earnPieces(LMillTown$Town;II)V
theorem c_125_0 : pg_cd 125 0 = (5, 1, 0, 1, 0) := by decide +kernel
theorem c_125_1 : pg_cd 125 1 = (45, 8, 143, 5, 0) := by decide +kernel
theorem c_125_4 : pg_cd 125 4 = (3, 1, 0, 2, 0) := by decide +kernel
theorem c_125_5 : pg_cd 125 5 = (1, 1, 0, 0, 4) := by decide +kernel
theorem c_125_6 : pg_cd 125 6 = (80, 55, 118, 0, 0) := by decide +kernel
theorem c_125_9 : pg_cd 125 9 = (6, 2, 0, 4, 0) := by decide +kernel
theorem c_125_11 : pg_cd 125 11 = (3, 1, 0, 3, 0) := by decide +kernel
theorem c_125_12 : pg_cd 125 12 = (5, 1, 0, 0, 0) := by decide +kernel
theorem c_125_13 : pg_cd 125 13 = (3, 2, 0, 4, 0) := by decide +kernel
theorem c_125_15 : pg_cd 125 15 = (5, 1, 0, 1, 0) := by decide +kernel
theorem c_125_16 : pg_cd 125 16 = (45, 8, 115, 2, 0) := by decide +kernel
theorem c_125_19 : pg_cd 125 19 = (3, 2, 0, 4, 0) := by decide +kernel
theorem c_125_21 : pg_cd 125 21 = (1, 2, 0, 0, 6) := by decide +kernel
theorem c_125_23 : pg_cd 125 23 = (80, 55, 118, 0, 0) := by decide +kernel
theorem c_125_26 : pg_cd 125 26 = (80, 114, 161, 0, 0) := by decide +kernel
theorem c_125_29 : pg_cd 125 29 = (12, 1, 0, 0, 0) := by decide +kernel
theorem c_125_30 : pg_cd 125 30 = (6, 2, 0, 5, 0) := by decide +kernel
theorem c_125_32 : pg_cd 125 32 = (5, 1, 0, 1, 0) := by decide +kernel
theorem c_125_33 : pg_cd 125 33 = (45, 8, 143, 5, 0) := by decide +kernel
theorem c_125_36 : pg_cd 125 36 = (3, 1, 0, 2, 0) := by decide +kernel
theorem c_125_37 : pg_cd 125 37 = (1, 2, 0, 0, 6) := by decide +kernel
theorem c_125_39 : pg_cd 125 39 = (80, 55, 118, 0, 0) := by decide +kernel
theorem c_125_42 : pg_cd 125 42 = (6, 2, 0, 6, 0) := by decide +kernel
theorem c_125_44 : pg_cd 125 44 = (3, 2, 0, 6, 0) := by decide +kernel
theorem c_125_46 : pg_cd 125 46 = (1, 1, 0, 0, (-1)) := by decide +kernel
theorem c_125_47 : pg_cd 125 47 = (37, 3, 0, 1, 8) := by decide +kernel
theorem c_125_50 : pg_cd 125 50 = (3, 2, 0, 5, 0) := by decide +kernel
theorem c_125_52 : pg_cd 125 52 = (38, 3, 0, 0, 7) := by decide +kernel
theorem c_125_55 : pg_cd 125 55 = (3, 2, 0, 5, 0) := by decide +kernel
theorem c_125_57 : pg_cd 125 57 = (1, 1, 0, 0, 3) := by decide +kernel
theorem c_125_58 : pg_cd 125 58 = (16, 1, 0, 0, 0) := by decide +kernel
theorem c_125_59 : pg_cd 125 59 = (6, 2, 0, 7, 0) := by decide +kernel
theorem c_125_61 : pg_cd 125 61 = (5, 1, 0, 0, 0) := by decide +kernel
theorem c_125_62 : pg_cd 125 62 = (3, 1, 0, 2, 0) := by decide +kernel
theorem c_125_63 : pg_cd 125 63 = (3, 2, 0, 7, 0) := by decide +kernel
theorem c_125_65 : pg_cd 125 65 = (80, 126, 220, 0, 0) := by decide +kernel
theorem c_125_68 : pg_cd 125 68 = (5, 1, 0, 0, 0) := by decide +kernel
theorem c_125_69 : pg_cd 125 69 = (3, 2, 0, 6, 0) := by decide +kernel
theorem c_125_71 : pg_cd 125 71 = (3, 2, 0, 5, 0) := by decide +kernel
theorem c_125_73 : pg_cd 125 73 = (3, 2, 0, 7, 0) := by decide +kernel
theorem c_125_75 : pg_cd 125 75 = (11, 1, 0, 0, 0) := by decide +kernel
theorem c_125_76 : pg_cd 125 76 = (80, 126, 220, 0, 0) := by decide +kernel
theorem c_125_79 : pg_cd 125 79 = (94, 0, 0, 0, 0) := by decide +kernel
theorem mx_125 : pg_mx 125 = 8 := by decide +kernel
theorem m_125 {d : Nat} {h : ab_H} {Q : Option Value → ab_H → Prop} {x0 : Nat} {x1 : Nat} {x2 : Int32} {x3 : Int32} (t : wq d 125 0 [.ref x0, .ref x1, .int x2, .int x3, .retAddr 0, .retAddr 0, .retAddr 0, .retAddr 0] [] h Q) : wm d 125 [.ref x0, .ref x1, .int x2, .int x3] h Q := by
  unfold wm
  rw [mx_125]
  exact t
set_option maxRecDepth 20000 in
theorem t_125_0 {d : Nat} {h : ab_H} {Q : Option Value → ab_H → Prop} {x0 : Nat} {x1 : Nat} {x2 : Int32} {x3 : Int32} (t : ab_ok h x1 108 = true ∧ ∃ j1 : Nat, ab_r h x1 5 = some j1 ∧ ab_ok h j1 104 = true ∧ wm d 55 [.ref j1, .int x2, .int 4] h (fun r9 h9 => wq (d + 1) 125 9 [.ref x0, .ref x1, .int x2, .int x3, .retAddr 0, .retAddr 0, .retAddr 0, .retAddr 0] (r9.toList ++ []) h9 Q)) : wq (d + 1) 125 0 [.ref x0, .ref x1, .int x2, .int x3, .retAddr 0, .retAddr 0, .retAddr 0, .retAddr 0] [] h Q := by
  refine g5 c_125_0 rfl ?_
  obtain ⟨ho, j1, hr, t⟩ := t
  refine g45 c_125_1 ho hr ?_
  refine g3 c_125_4 rfl ?_
  refine g1 c_125_5 k_4 ?_
  exact g80 (As := [.int x2, .int 4]) (rest := []) c_125_6 rfl rfl (Nat.le_of_ble_eq_true rfl) (Nat.le_of_ble_eq_true rfl) t.1 t.2
set_option maxRecDepth 20000 in
theorem t_125_9 {d : Nat} {h : ab_H} {Q : Option Value → ab_H → Prop} {x0 : Nat} {x1 : Nat} {x2 : Int32} {x3 : Int32} {s0 : Int32} (t : ab_ok h x1 108 = true ∧ ∃ j1 : Nat, ab_r h x1 2 = some j1 ∧ ab_ok h j1 104 = true ∧ wm d 55 [.ref j1, .int s0, .int 6] h (fun r9 h9 => wq (d + 1) 125 26 [.ref x0, .ref x1, .int x2, .int x3, .int s0, .retAddr 0, .retAddr 0, .retAddr 0] (r9.toList ++ [.int s0, .ref x0, .int x3]) h9 Q)) : wq (d + 1) 125 9 [.ref x0, .ref x1, .int x2, .int x3, .retAddr 0, .retAddr 0, .retAddr 0, .retAddr 0] [.int s0] h Q := by
  refine g6 (L' := [.ref x0, .ref x1, .int x2, .int x3, .int s0, .retAddr 0, .retAddr 0, .retAddr 0]) c_125_9 rfl ?_
  refine g3 c_125_11 rfl ?_
  refine g5 c_125_12 rfl ?_
  refine g3 c_125_13 rfl ?_
  refine g5 c_125_15 rfl ?_
  obtain ⟨ho, j1, hr, t⟩ := t
  refine g45 c_125_16 ho hr ?_
  refine g3 c_125_19 rfl ?_
  refine g1 c_125_21 k_6 ?_
  exact g80 (As := [.int s0, .int 6]) (rest := [.int s0, .ref x0, .int x3]) c_125_23 rfl rfl (Nat.le_of_ble_eq_true rfl) (Nat.le_of_ble_eq_true rfl) t.1 t.2
set_option maxRecDepth 20000 in
theorem t_125_26 {d : Nat} {h : ab_H} {Q : Option Value → ab_H → Prop} {x0 : Nat} {x1 : Nat} {x2 : Int32} {x3 : Int32} {x4 : Int32} {s0 : Int32} {s1 : Nat} {s2 : Int32} {s3 : Int32} (t : ab_ok h s1 109 = true ∧ wm d 114 [.ref s1, .int s2, .int s3] h (fun r9 h9 => wq (d + 1) 125 29 [.ref x0, .ref x1, .int x2, .int x3, .int x4, .retAddr 0, .retAddr 0, .retAddr 0] (r9.toList ++ [.int s0]) h9 Q)) : wq (d + 1) 125 26 [.ref x0, .ref x1, .int x2, .int x3, .int x4, .retAddr 0, .retAddr 0, .retAddr 0] [.int s3, .int s2, .ref s1, .int s0] h Q := by
  exact g80 (As := [.int s2, .int s3]) (rest := [.int s0]) c_125_26 rfl rfl (Nat.le_of_ble_eq_true rfl) (Nat.le_of_ble_eq_true rfl) t.1 t.2
set_option maxRecDepth 20000 in
theorem t_125_29 {d : Nat} {h : ab_H} {Q : Option Value → ab_H → Prop} {x0 : Nat} {x1 : Nat} {x2 : Int32} {x3 : Int32} {x4 : Int32} {s0 : Int32} {s1 : Int32} (t : ab_ok h x1 108 = true ∧ ∃ j1 : Nat, ab_r h x1 5 = some j1 ∧ ab_ok h j1 104 = true ∧ wm d 55 [.ref j1, .int x2, .int 6] h (fun r9 h9 => wq (d + 1) 125 42 [.ref x0, .ref x1, .int x2, .int x3, .int x4, .int (s0 * s1), .retAddr 0, .retAddr 0] (r9.toList ++ []) h9 Q)) : wq (d + 1) 125 29 [.ref x0, .ref x1, .int x2, .int x3, .int x4, .retAddr 0, .retAddr 0, .retAddr 0] [.int s1, .int s0] h Q := by
  refine g12 c_125_29 ?_
  refine g6 (L' := [.ref x0, .ref x1, .int x2, .int x3, .int x4, .int (s0 * s1), .retAddr 0, .retAddr 0]) c_125_30 rfl ?_
  refine g5 c_125_32 rfl ?_
  obtain ⟨ho, j1, hr, t⟩ := t
  refine g45 c_125_33 ho hr ?_
  refine g3 c_125_36 rfl ?_
  refine g1 c_125_37 k_6 ?_
  exact g80 (As := [.int x2, .int 6]) (rest := []) c_125_39 rfl rfl (Nat.le_of_ble_eq_true rfl) (Nat.le_of_ble_eq_true rfl) t.1 t.2
set_option maxRecDepth 20000 in
theorem t_125_42 {d : Nat} {h : ab_H} {Q : Option Value → ab_H → Prop} {x0 : Nat} {x1 : Nat} {x2 : Int32} {x3 : Int32} {x4 : Int32} {x5 : Int32} {s0 : Int32} (t : if s0 = (-1) then (ab_ok h x0 109 = true ∧ wm d 126 [.ref x0, .int x2, .int x5] h (fun r9 h9 => wq (d + 1) 125 68 [.ref x0, .ref x1, .int x2, .int x3, .int x4, .int x5, .int s0, .int x5] (r9.toList ++ []) h9 Q)) else (¬ (3 : Int32) = 0 ∧ ab_ok h x0 109 = true ∧ wm d 126 [.ref x0, .int x2, .int (x5 / 3)] h (fun r9 h9 => wq (d + 1) 125 68 [.ref x0, .ref x1, .int x2, .int x3, .int x4, .int x5, .int s0, .int (x5 / 3)] (r9.toList ++ []) h9 Q))) : wq (d + 1) 125 42 [.ref x0, .ref x1, .int x2, .int x3, .int x4, .int x5, .retAddr 0, .retAddr 0] [.int s0] h Q := by
  refine g6 (L' := [.ref x0, .ref x1, .int x2, .int x3, .int x4, .int x5, .int s0, .retAddr 0]) c_125_42 rfl ?_
  refine g3 c_125_44 rfl ?_
  refine g1 c_125_46 k_m1 ?_
  refine gcm c_125_47 (gbn t (ab_c1 _ _) rfl (fun hc t => ?_) (fun hc t => ?_))
  · refine g3 c_125_50 rfl ?_
    refine g38 c_125_52 rfl ?_
    refine g6 (L' := [.ref x0, .ref x1, .int x2, .int x3, .int x4, .int x5, .int s0, .int x5]) c_125_59 rfl ?_
    refine g5 c_125_61 rfl ?_
    refine g3 c_125_62 rfl ?_
    refine g3 c_125_63 rfl ?_
    exact g80 (As := [.int x2, .int x5]) (rest := []) c_125_65 rfl rfl (Nat.le_of_ble_eq_true rfl) (Nat.le_of_ble_eq_true rfl) t.1 t.2
  · refine g3 c_125_55 rfl ?_
    refine g1 c_125_57 k_3 ?_
    obtain ⟨hy, t⟩ := t
    refine g16 c_125_58 hy ?_
    refine g6 (L' := [.ref x0, .ref x1, .int x2, .int x3, .int x4, .int x5, .int s0, .int (x5 / 3)]) c_125_59 rfl ?_
    refine g5 c_125_61 rfl ?_
    refine g3 c_125_62 rfl ?_
    refine g3 c_125_63 rfl ?_
    exact g80 (As := [.int x2, .int (x5 / 3)]) (rest := []) c_125_65 rfl rfl (Nat.le_of_ble_eq_true rfl) (Nat.le_of_ble_eq_true rfl) t.1 t.2
set_option maxRecDepth 20000 in
theorem t_125_68 {d : Nat} {h : ab_H} {Q : Option Value → ab_H → Prop} {x0 : Nat} {x1 : Nat} {x2 : Int32} {x3 : Int32} {x4 : Int32} {x5 : Int32} {x6 : Int32} {x7 : Int32} (t : ab_ok h x0 109 = true ∧ wm d 126 [.ref x0, .int x6, .int (x5 - x7)] h (fun r9 h9 => wq (d + 1) 125 79 [.ref x0, .ref x1, .int x2, .int x3, .int x4, .int x5, .int x6, .int x7] (r9.toList ++ []) h9 Q)) : wq (d + 1) 125 68 [.ref x0, .ref x1, .int x2, .int x3, .int x4, .int x5, .int x6, .int x7] [] h Q := by
  refine g5 c_125_68 rfl ?_
  refine g3 c_125_69 rfl ?_
  refine g3 c_125_71 rfl ?_
  refine g3 c_125_73 rfl ?_
  refine g11 c_125_75 ?_
  exact g80 (As := [.int x6, .int (x5 - x7)]) (rest := []) c_125_76 rfl rfl (Nat.le_of_ble_eq_true rfl) (Nat.le_of_ble_eq_true rfl) t.1 t.2
set_option maxRecDepth 20000 in
theorem t_125_79 {d : Nat} {h : ab_H} {Q : Option Value → ab_H → Prop} {x0 : Nat} {x1 : Nat} {x2 : Int32} {x3 : Int32} {x4 : Int32} {x5 : Int32} {x6 : Int32} {x7 : Int32} (t : Q none h) : wq d 125 79 [.ref x0, .ref x1, .int x2, .int x3, .int x4, .int x5, .int x6, .int x7] [] h Q := by
  exact g94 c_125_79 t
-- method 126: MillTown$Week.addWages(II)V
theorem c_126_0 : pg_cd 126 0 = (3, 1, 0, 1, 0) := by decide +kernel
theorem c_126_1 : pg_cd 126 1 = (36, 3, 0, 2, 19) := by decide +kernel
theorem c_126_4 : pg_cd 126 4 = (3, 1, 0, 1, 0) := by decide +kernel
theorem c_126_5 : pg_cd 126 5 = (1, 2, 0, 0, 60) := by decide +kernel
theorem c_126_7 : pg_cd 126 7 = (37, 3, 0, 3, 13) := by decide +kernel
theorem c_126_10 : pg_cd 126 10 = (5, 1, 0, 0, 0) := by decide +kernel
theorem c_126_11 : pg_cd 126 11 = (45, 9, 29, 3, 0) := by decide +kernel
theorem c_126_14 : pg_cd 126 14 = (3, 1, 0, 1, 0) := by decide +kernel
theorem c_126_15 : pg_cd 126 15 = (34, 1, 0, 0, 0) := by decide +kernel
theorem c_126_16 : pg_cd 126 16 = (50, 1, 0, 0, 0) := by decide +kernel
theorem c_126_17 : pg_cd 126 17 = (3, 1, 0, 2, 0) := by decide +kernel
theorem c_126_18 : pg_cd 126 18 = (10, 1, 0, 0, 0) := by decide +kernel
theorem c_126_19 : pg_cd 126 19 = (54, 1, 0, 0, 0) := by decide +kernel
theorem c_126_20 : pg_cd 126 20 = (94, 0, 0, 0, 0) := by decide +kernel
theorem mx_126 : pg_mx 126 = 3 := by decide +kernel
theorem m_126 {d : Nat} {h : ab_H} {Q : Option Value → ab_H → Prop} {x0 : Nat} {x1 : Int32} {x2 : Int32} (t : wq d 126 0 [.ref x0, .int x1, .int x2] [] h Q) : wm d 126 [.ref x0, .int x1, .int x2] h Q := by
  unfold wm
  rw [mx_126]
  exact t
set_option maxRecDepth 20000 in
theorem t_126_0 {d : Nat} {h : ab_H} {Q : Option Value → ab_H → Prop} {x0 : Nat} {x1 : Int32} {x2 : Int32} (t : if x1 < 0 then (Q none h) else (if 60 ≤ x1 then (Q none h) else (ab_ok h x0 109 = true ∧ ∃ j1 : Nat, ab_r h x0 3 = some j1 ∧ ((j1 = 0 ∨ ab_ok h j1 0 = true) ∧ ab_in x1 (ab_s h j1).2 = true) ∧ (ab_ok h j1 0 = true ∧ ab_in x1 (ab_s h j1).2 = true) ∧ ∀ h2 : ab_H, h2 = ab_pi h j1 (Int32.toNatClampNeg x1) ((ab_i h j1 (Int32.toNatClampNeg x1)) + x2) → Q none h2))) : wq d 126 0 [.ref x0, .int x1, .int x2] [] h Q := by
  refine g3 c_126_0 rfl ?_
  refine gif c_126_1 (gbr t rfl rfl (fun hc t => ?_) (fun hc t => ?_))
  · exact g94 c_126_20 t
  · refine g3 c_126_4 rfl ?_
    refine g1 c_126_5 k_60 ?_
    refine gcm c_126_7 (gbr t rfl rfl (fun hc t => ?_) (fun hc t => ?_))
    · exact g94 c_126_20 t
    · refine g5 c_126_10 rfl ?_
      obtain ⟨ho, j1, hr, t⟩ := t
      refine g45 c_126_11 ho hr ?_
      refine g3 c_126_14 rfl ?_
      refine g34a c_126_15 ?_
      obtain ⟨ho, t⟩ := t
      refine g50 c_126_16 ho ?_
      refine g3 c_126_17 rfl ?_
      refine g10 c_126_18 ?_
      obtain ⟨ho, t⟩ := t
      refine g54 c_126_19 ho (fun h2 eh2 => ?_)
      have t := t h2 eh2
      exact g94 c_126_20 t
-- method 127: MillTown$Week.settleMills(LMillTown$Town;)V
theorem c_127_0 : pg_cd 127 0 = (1, 1, 0, 0, 0) := by decide +kernel
theorem c_127_1 : pg_cd 127 1 = (6, 1, 0, 2, 0) := by decide +kernel
theorem c_127_2 : pg_cd 127 2 = (3, 1, 0, 2, 0) := by decide +kernel
theorem c_127_3 : pg_cd 127 3 = (5, 1, 0, 1, 0) := by decide +kernel
theorem c_127_4 : pg_cd 127 4 = (45, 8, 143, 5, 0) := by decide +kernel
theorem c_127_7 : pg_cd 127 7 = (43, 4, 121, 2, 0) := by decide +kernel
theorem c_127_10 : pg_cd 127 10 = (37, 3, 0, 3, 54) := by decide +kernel
theorem c_127_13 : pg_cd 127 13 = (3, 1, 0, 2, 0) := by decide +kernel
theorem c_127_14 : pg_cd 127 14 = (1, 2, 0, 0, 60) := by decide +kernel
theorem c_127_16 : pg_cd 127 16 = (37, 3, 0, 3, 48) := by decide +kernel
theorem c_127_19 : pg_cd 127 19 = (5, 1, 0, 1, 0) := by decide +kernel
theorem c_127_20 : pg_cd 127 20 = (45, 8, 115, 2, 0) := by decide +kernel
theorem c_127_23 : pg_cd 127 23 = (5, 1, 0, 1, 0) := by decide +kernel
theorem c_127_24 : pg_cd 127 24 = (45, 8, 143, 5, 0) := by decide +kernel
theorem c_127_27 : pg_cd 127 27 = (3, 1, 0, 2, 0) := by decide +kernel
theorem c_127_28 : pg_cd 127 28 = (1, 1, 0, 0, 4) := by decide +kernel
theorem c_127_29 : pg_cd 127 29 = (80, 55, 118, 0, 0) := by decide +kernel
theorem c_127_32 : pg_cd 127 32 = (1, 1, 0, 0, 2) := by decide +kernel
theorem c_127_33 : pg_cd 127 33 = (5, 1, 0, 0, 0) := by decide +kernel
theorem c_127_34 : pg_cd 127 34 = (45, 9, 29, 3, 0) := by decide +kernel
theorem c_127_37 : pg_cd 127 37 = (3, 1, 0, 2, 0) := by decide +kernel
theorem c_127_38 : pg_cd 127 38 = (50, 1, 0, 0, 0) := by decide +kernel
theorem c_127_39 : pg_cd 127 39 = (21, 1, 0, 0, 0) := by decide +kernel
theorem c_127_40 : pg_cd 127 40 = (80, 57, 190, 0, 0) := by decide +kernel
theorem c_127_43 : pg_cd 127 43 = (5, 1, 0, 0, 0) := by decide +kernel
theorem c_127_44 : pg_cd 127 44 = (33, 1, 0, 0, 0) := by decide +kernel
theorem c_127_45 : pg_cd 127 45 = (43, 9, 45, 9, 0) := by decide +kernel
theorem c_127_48 : pg_cd 127 48 = (5, 1, 0, 0, 0) := by decide +kernel
theorem c_127_49 : pg_cd 127 49 = (45, 9, 29, 3, 0) := by decide +kernel
theorem c_127_52 : pg_cd 127 52 = (3, 1, 0, 2, 0) := by decide +kernel
theorem c_127_53 : pg_cd 127 53 = (50, 1, 0, 0, 0) := by decide +kernel
theorem c_127_54 : pg_cd 127 54 = (10, 1, 0, 0, 0) := by decide +kernel
theorem c_127_55 : pg_cd 127 55 = (46, 9, 45, 9, 0) := by decide +kernel
theorem c_127_58 : pg_cd 127 58 = (9, 3, 0, 2, 1) := by decide +kernel
theorem c_127_61 : pg_cd 127 61 = (38, 3, 0, 0, (-59)) := by decide +kernel
theorem c_127_64 : pg_cd 127 64 = (1, 1, 0, 0, 0) := by decide +kernel
theorem c_127_65 : pg_cd 127 65 = (6, 1, 0, 2, 0) := by decide +kernel
theorem c_127_66 : pg_cd 127 66 = (3, 1, 0, 2, 0) := by decide +kernel
theorem c_127_67 : pg_cd 127 67 = (5, 1, 0, 1, 0) := by decide +kernel
theorem c_127_68 : pg_cd 127 68 = (45, 8, 115, 2, 0) := by decide +kernel
theorem c_127_71 : pg_cd 127 71 = (43, 4, 121, 2, 0) := by decide +kernel
theorem c_127_74 : pg_cd 127 74 = (37, 3, 0, 3, 102) := by decide +kernel
theorem c_127_77 : pg_cd 127 77 = (5, 1, 0, 1, 0) := by decide +kernel
theorem c_127_78 : pg_cd 127 78 = (45, 8, 115, 2, 0) := by decide +kernel
theorem c_127_81 : pg_cd 127 81 = (3, 1, 0, 2, 0) := by decide +kernel
theorem c_127_82 : pg_cd 127 82 = (1, 2, 0, 0, 9) := by decide +kernel
theorem c_127_84 : pg_cd 127 84 = (80, 55, 118, 0, 0) := by decide +kernel
theorem c_127_87 : pg_cd 127 87 = (6, 1, 0, 3, 0) := by decide +kernel
theorem c_127_88 : pg_cd 127 88 = (5, 1, 0, 1, 0) := by decide +kernel
theorem c_127_89 : pg_cd 127 89 = (45, 8, 115, 2, 0) := by decide +kernel
theorem c_127_92 : pg_cd 127 92 = (3, 1, 0, 2, 0) := by decide +kernel
theorem c_127_93 : pg_cd 127 93 = (1, 2, 0, 0, 8) := by decide +kernel
theorem c_127_95 : pg_cd 127 95 = (80, 55, 118, 0, 0) := by decide +kernel
theorem c_127_98 : pg_cd 127 98 = (6, 2, 0, 4, 0) := by decide +kernel
theorem c_127_100 : pg_cd 127 100 = (5, 1, 0, 1, 0) := by decide +kernel
theorem c_127_101 : pg_cd 127 101 = (45, 8, 115, 2, 0) := by decide +kernel
theorem c_127_104 : pg_cd 127 104 = (3, 1, 0, 2, 0) := by decide +kernel
theorem c_127_105 : pg_cd 127 105 = (1, 1, 0, 0, 2) := by decide +kernel
theorem c_127_106 : pg_cd 127 106 = (3, 1, 0, 3, 0) := by decide +kernel
theorem c_127_107 : pg_cd 127 107 = (5, 1, 0, 1, 0) := by decide +kernel
theorem c_127_108 : pg_cd 127 108 = (45, 8, 105, 6, 0) := by decide +kernel
theorem c_127_111 : pg_cd 127 111 = (3, 2, 0, 4, 0) := by decide +kernel
theorem c_127_113 : pg_cd 127 113 = (1, 1, 0, 0, 2) := by decide +kernel
theorem c_127_114 : pg_cd 127 114 = (80, 55, 118, 0, 0) := by decide +kernel
theorem c_127_117 : pg_cd 127 117 = (5, 1, 0, 1, 0) := by decide +kernel
theorem c_127_118 : pg_cd 127 118 = (43, 8, 158, 11, 0) := by decide +kernel
theorem c_127_121 : pg_cd 127 121 = (11, 1, 0, 0, 0) := by decide +kernel
theorem c_127_122 : pg_cd 127 122 = (12, 1, 0, 0, 0) := by decide +kernel
theorem c_127_123 : pg_cd 127 123 = (80, 57, 190, 0, 0) := by decide +kernel
theorem c_127_126 : pg_cd 127 126 = (5, 1, 0, 1, 0) := by decide +kernel
theorem c_127_127 : pg_cd 127 127 = (45, 8, 105, 6, 0) := by decide +kernel
theorem c_127_130 : pg_cd 127 130 = (3, 2, 0, 4, 0) := by decide +kernel
theorem c_127_132 : pg_cd 127 132 = (1, 1, 0, 0, 1) := by decide +kernel
theorem c_127_133 : pg_cd 127 133 = (3, 1, 0, 3, 0) := by decide +kernel
theorem c_127_134 : pg_cd 127 134 = (21, 1, 0, 0, 0) := by decide +kernel
theorem c_127_135 : pg_cd 127 135 = (80, 57, 190, 0, 0) := by decide +kernel
theorem c_127_138 : pg_cd 127 138 = (5, 1, 0, 0, 0) := by decide +kernel
theorem c_127_139 : pg_cd 127 139 = (33, 1, 0, 0, 0) := by decide +kernel
theorem c_127_140 : pg_cd 127 140 = (43, 9, 42, 8, 0) := by decide +kernel
theorem c_127_143 : pg_cd 127 143 = (3, 1, 0, 3, 0) := by decide +kernel
theorem c_127_144 : pg_cd 127 144 = (10, 1, 0, 0, 0) := by decide +kernel
theorem c_127_145 : pg_cd 127 145 = (46, 9, 42, 8, 0) := by decide +kernel
theorem c_127_148 : pg_cd 127 148 = (5, 1, 0, 1, 0) := by decide +kernel
theorem c_127_149 : pg_cd 127 149 = (45, 8, 115, 2, 0) := by decide +kernel
theorem c_127_152 : pg_cd 127 152 = (3, 1, 0, 2, 0) := by decide +kernel
theorem c_127_153 : pg_cd 127 153 = (1, 1, 0, 0, 2) := by decide +kernel
theorem c_127_154 : pg_cd 127 154 = (80, 55, 118, 0, 0) := by decide +kernel
theorem c_127_157 : pg_cd 127 157 = (36, 3, 0, 3, 13) := by decide +kernel
theorem c_127_160 : pg_cd 127 160 = (5, 1, 0, 1, 0) := by decide +kernel
theorem c_127_161 : pg_cd 127 161 = (45, 8, 115, 2, 0) := by decide +kernel
theorem c_127_164 : pg_cd 127 164 = (3, 1, 0, 2, 0) := by decide +kernel
theorem c_127_165 : pg_cd 127 165 = (1, 1, 0, 0, 4) := by decide +kernel
theorem c_127_166 : pg_cd 127 166 = (1, 1, 0, 0, 1) := by decide +kernel
theorem c_127_167 : pg_cd 127 167 = (80, 56, 171, 0, 0) := by decide +kernel
theorem c_127_170 : pg_cd 127 170 = (9, 3, 0, 2, 1) := by decide +kernel
theorem c_127_173 : pg_cd 127 173 = (38, 3, 0, 0, (-107)) := by decide +kernel
theorem c_127_176 : pg_cd 127 176 = (94, 0, 0, 0, 0) := by decide +kernel
theorem mx_127 : pg_mx 127 = 5 := by decide +kernel
theorem m_127 {d : Nat} {h : ab_H} {Q : Option Value → ab_H → Prop} {x0 : Nat} {x1 : Nat} (t : wq d 127 0 [.ref x0, .ref x1, .retAddr 0, .retAddr 0, .retAddr 0] [] h Q) : wm d 127 [.ref x0, .ref x1] h Q := by
  unfold wm
  rw [mx_127]
  exact t
set_option maxRecDepth 20000 in
theorem t_127_0 {d : Nat} {h : ab_H} {Q : Option Value → ab_H → Prop} {x0 : Nat} {x1 : Nat} (t : wq d 127 2 [.ref x0, .ref x1, .int 0, .retAddr 0, .retAddr 0] [] h Q) : wq d 127 0 [.ref x0, .ref x1, .retAddr 0, .retAddr 0, .retAddr 0] [] h Q := by
  refine g1 c_127_0 k_0 ?_
  refine g6 (L' := [.ref x0, .ref x1, .int 0, .retAddr 0, .retAddr 0]) c_127_1 rfl ?_
  exact t
set_option maxRecDepth 20000 in
theorem t_127_2 {d : Nat} {h : ab_H} {Q : Option Value → ab_H → Prop} {x0 : Nat} {x1 : Nat} {x2 : Int32} (t : ab_ok h x1 108 = true ∧ ∃ j1 : Nat, ab_r h x1 5 = some j1 ∧ ab_ok h j1 104 = true ∧ if (ab_i h j1 2) ≤ x2 then (wq (d + 1) 127 66 [.ref x0, .ref x1, .int 0, .retAddr 0, .retAddr 0] [] h Q) else (if 60 ≤ x2 then (wq (d + 1) 127 66 [.ref x0, .ref x1, .int 0, .retAddr 0, .retAddr 0] [] h Q) else (ab_ok h x1 108 = true ∧ ∃ j2 : Nat, ab_r h x1 2 = some j2 ∧ ab_ok h x1 108 = true ∧ ∃ j3 : Nat, ab_r h x1 5 = some j3 ∧ ab_ok h j3 104 = true ∧ wm d 55 [.ref j3, .int x2, .int 4] h (fun r9 h9 => wq (d + 1) 127 32 [.ref x0, .ref x1, .int x2, .retAddr 0, .retAddr 0] (r9.toList ++ [.ref j2]) h9 Q)))) : wq (d + 1) 127 2 [.ref x0, .ref x1, .int x2, .retAddr 0, .retAddr 0] [] h Q := by
  refine g3 c_127_2 rfl ?_
  refine g5 c_127_3 rfl ?_
  obtain ⟨ho, j1, hr, t⟩ := t
  refine g45 c_127_4 ho hr ?_
  obtain ⟨ho, t⟩ := t
  refine g43 c_127_7 ho ?_
  refine gcm c_127_10 (gbr t rfl rfl (fun hc t => ?_) (fun hc t => ?_))
  · refine g1 c_127_64 k_0 ?_
    refine g6 (L' := [.ref x0, .ref x1, .int 0, .retAddr 0, .retAddr 0]) c_127_65 rfl ?_
    exact t
  · refine g3 c_127_13 rfl ?_
    refine g1 c_127_14 k_60 ?_
    refine gcm c_127_16 (gbr t rfl rfl (fun hc t => ?_) (fun hc t => ?_))
    · refine g1 c_127_64 k_0 ?_
      refine g6 (L' := [.ref x0, .ref x1, .int 0, .retAddr 0, .retAddr 0]) c_127_65 rfl ?_
      exact t
    · refine g5 c_127_19 rfl ?_
      obtain ⟨ho, j2, hr, t⟩ := t
      refine g45 c_127_20 ho hr ?_
      refine g5 c_127_23 rfl ?_
      obtain ⟨ho, j3, hr, t⟩ := t
      refine g45 c_127_24 ho hr ?_
      refine g3 c_127_27 rfl ?_
      refine g1 c_127_28 k_4 ?_
      exact g80 (As := [.int x2, .int 4]) (rest := [.ref j2]) c_127_29 rfl rfl (Nat.le_of_ble_eq_true rfl) (Nat.le_of_ble_eq_true rfl) t.1 t.2
set_option maxRecDepth 20000 in
theorem t_127_32 {d : Nat} {h : ab_H} {Q : Option Value → ab_H → Prop} {x0 : Nat} {x1 : Nat} {x2 : Int32} {s0 : Nat} {s1 : Int32} (t : ab_ok h x0 109 = true ∧ ∃ j1 : Nat, ab_r h x0 3 = some j1 ∧ ((j1 = 0 ∨ ab_ok h j1 0 = true) ∧ ab_in x2 (ab_s h j1).2 = true) ∧ ab_ok h s0 104 = true ∧ wm d 57 [.ref s0, .int s1, .int 2, .int (-(ab_i h j1 (Int32.toNatClampNeg x2)))] h (fun r9 h9 => wq (d + 1) 127 43 [.ref x0, .ref x1, .int x2, .retAddr 0, .retAddr 0] (r9.toList ++ []) h9 Q)) : wq (d + 1) 127 32 [.ref x0, .ref x1, .int x2, .retAddr 0, .retAddr 0] [.int s1, .ref s0] h Q := by
  refine g1 c_127_32 k_2 ?_
  refine g5 c_127_33 rfl ?_
  obtain ⟨ho, j1, hr, t⟩ := t
  refine g45 c_127_34 ho hr ?_
  refine g3 c_127_37 rfl ?_
  obtain ⟨ho, t⟩ := t
  refine g50 c_127_38 ho ?_
  refine g21 c_127_39 ?_
  exact g80 (As := [.int s1, .int 2, .int (-(ab_i h j1 (Int32.toNatClampNeg x2)))]) (rest := []) c_127_40 rfl rfl (Nat.le_of_ble_eq_true rfl) (Nat.le_of_ble_eq_true rfl) t.1 t.2
set_option maxRecDepth 20000 in
theorem t_127_43 {d : Nat} {h : ab_H} {Q : Option Value → ab_H → Prop} {x0 : Nat} {x1 : Nat} {x2 : Int32} (t : ab_ok h x0 109 = true ∧ ab_ok h x0 109 = true ∧ ∃ j1 : Nat, ab_r h x0 3 = some j1 ∧ ((j1 = 0 ∨ ab_ok h j1 0 = true) ∧ ab_in x2 (ab_s h j1).2 = true) ∧ ab_ok h x0 109 = true ∧ ∀ h2 : ab_H, h2 = ab_pi h x0 9 ((ab_i h x0 9) + (ab_i h j1 (Int32.toNatClampNeg x2))) → wq d 127 2 [.ref x0, .ref x1, .int (x2 + 1), .retAddr 0, .retAddr 0] [] h2 Q) : wq d 127 43 [.ref x0, .ref x1, .int x2, .retAddr 0, .retAddr 0] [] h Q := by
  refine g5 c_127_43 rfl ?_
  refine g33a c_127_44 ?_
  obtain ⟨ho, t⟩ := t
  refine g43 c_127_45 ho ?_
  refine g5 c_127_48 rfl ?_
  obtain ⟨ho, j1, hr, t⟩ := t
  refine g45 c_127_49 ho hr ?_
  refine g3 c_127_52 rfl ?_
  obtain ⟨ho, t⟩ := t
  refine g50 c_127_53 ho ?_
  refine g10 c_127_54 ?_
  obtain ⟨ho, t⟩ := t
  refine g46 c_127_55 ho (fun h2 eh2 => ?_)
  have t := t h2 eh2
  refine g9 (L' := [.ref x0, .ref x1, .int (x2 + 1), .retAddr 0, .retAddr 0]) c_127_58 rfl k_1 rfl ?_
  refine g38 c_127_61 rfl ?_
  exact t
set_option maxRecDepth 20000 in
theorem t_127_66 {d : Nat} {h : ab_H} {Q : Option Value → ab_H → Prop} {x0 : Nat} {x1 : Nat} {x2 : Int32} (t : ab_ok h x1 108 = true ∧ ∃ j1 : Nat, ab_r h x1 2 = some j1 ∧ ab_ok h j1 104 = true ∧ if (ab_i h j1 2) ≤ x2 then (Q none h) else (ab_ok h x1 108 = true ∧ ∃ j2 : Nat, ab_r h x1 2 = some j2 ∧ ab_ok h j2 104 = true ∧ wm d 55 [.ref j2, .int x2, .int 9] h (fun r9 h9 => wq (d + 1) 127 87 [.ref x0, .ref x1, .int x2, .retAddr 0, .retAddr 0] (r9.toList ++ []) h9 Q))) : wq (d + 1) 127 66 [.ref x0, .ref x1, .int x2, .retAddr 0, .retAddr 0] [] h Q := by
  refine g3 c_127_66 rfl ?_
  refine g5 c_127_67 rfl ?_
  obtain ⟨ho, j1, hr, t⟩ := t
  refine g45 c_127_68 ho hr ?_
  obtain ⟨ho, t⟩ := t
  refine g43 c_127_71 ho ?_
  refine gcm c_127_74 (gbr t rfl rfl (fun hc t => ?_) (fun hc t => ?_))
  · exact g94 c_127_176 t
  · refine g5 c_127_77 rfl ?_
    obtain ⟨ho, j2, hr, t⟩ := t
    refine g45 c_127_78 ho hr ?_
    refine g3 c_127_81 rfl ?_
    refine g1 c_127_82 k_9 ?_
    exact g80 (As := [.int x2, .int 9]) (rest := []) c_127_84 rfl rfl (Nat.le_of_ble_eq_true rfl) (Nat.le_of_ble_eq_true rfl) t.1 t.2
set_option maxRecDepth 20000 in
theorem t_127_87 {d : Nat} {h : ab_H} {Q : Option Value → ab_H → Prop} {x0 : Nat} {x1 : Nat} {x2 : Int32} {s0 : Int32} (t : ab_ok h x1 108 = true ∧ ∃ j1 : Nat, ab_r h x1 2 = some j1 ∧ ab_ok h j1 104 = true ∧ wm d 55 [.ref j1, .int x2, .int 8] h (fun r9 h9 => wq (d + 1) 127 98 [.ref x0, .ref x1, .int x2, .int s0, .retAddr 0] (r9.toList ++ []) h9 Q)) : wq (d + 1) 127 87 [.ref x0, .ref x1, .int x2, .retAddr 0, .retAddr 0] [.int s0] h Q := by
  refine g6 (L' := [.ref x0, .ref x1, .int x2, .int s0, .retAddr 0]) c_127_87 rfl ?_
  refine g5 c_127_88 rfl ?_
  obtain ⟨ho, j1, hr, t⟩ := t
  refine g45 c_127_89 ho hr ?_
  refine g3 c_127_92 rfl ?_
  refine g1 c_127_93 k_8 ?_
  exact g80 (As := [.int x2, .int 8]) (rest := []) c_127_95 rfl rfl (Nat.le_of_ble_eq_true rfl) (Nat.le_of_ble_eq_true rfl) t.1 t.2
set_option maxRecDepth 20000 in
theorem t_127_98 {d : Nat} {h : ab_H} {Q : Option Value → ab_H → Prop} {x0 : Nat} {x1 : Nat} {x2 : Int32} {x3 : Int32} {s0 : Int32} (t : ab_ok h x1 108 = true ∧ ∃ j1 : Nat, ab_r h x1 2 = some j1 ∧ ab_ok h x1 108 = true ∧ ∃ j2 : Nat, ab_r h x1 6 = some j2 ∧ ab_ok h j2 104 = true ∧ wm d 55 [.ref j2, .int s0, .int 2] h (fun r9 h9 => wq (d + 1) 127 117 [.ref x0, .ref x1, .int x2, .int x3, .int s0] (r9.toList ++ [.int x3, .int 2, .int x2, .ref j1]) h9 Q)) : wq (d + 1) 127 98 [.ref x0, .ref x1, .int x2, .int x3, .retAddr 0] [.int s0] h Q := by
  refine g6 (L' := [.ref x0, .ref x1, .int x2, .int x3, .int s0]) c_127_98 rfl ?_
  refine g5 c_127_100 rfl ?_
  obtain ⟨ho, j1, hr, t⟩ := t
  refine g45 c_127_101 ho hr ?_
  refine g3 c_127_104 rfl ?_
  refine g1 c_127_105 k_2 ?_
  refine g3 c_127_106 rfl ?_
  refine g5 c_127_107 rfl ?_
  obtain ⟨ho, j2, hr, t⟩ := t
  refine g45 c_127_108 ho hr ?_
  refine g3 c_127_111 rfl ?_
  refine g1 c_127_113 k_2 ?_
  exact g80 (As := [.int s0, .int 2]) (rest := [.int x3, .int 2, .int x2, .ref j1]) c_127_114 rfl rfl (Nat.le_of_ble_eq_true rfl) (Nat.le_of_ble_eq_true rfl) t.1 t.2
set_option maxRecDepth 20000 in
theorem t_127_117 {d : Nat} {h : ab_H} {Q : Option Value → ab_H → Prop} {x0 : Nat} {x1 : Nat} {x2 : Int32} {x3 : Int32} {x4 : Int32} {s0 : Nat} {s1 : Int32} {s2 : Int32} {s3 : Int32} {s4 : Int32} (t : ab_ok h x1 108 = true ∧ ab_ok h s0 104 = true ∧ wm d 57 [.ref s0, .int s1, .int s2, .int (s3 * (s4 - (ab_i h x1 11)))] h (fun r9 h9 => wq (d + 1) 127 126 [.ref x0, .ref x1, .int x2, .int x3, .int x4] (r9.toList ++ []) h9 Q)) : wq (d + 1) 127 117 [.ref x0, .ref x1, .int x2, .int x3, .int x4] [.int s4, .int s3, .int s2, .int s1, .ref s0] h Q := by
  refine g5 c_127_117 rfl ?_
  obtain ⟨ho, t⟩ := t
  refine g43 c_127_118 ho ?_
  refine g11 c_127_121 ?_
  refine g12 c_127_122 ?_
  exact g80 (As := [.int s1, .int s2, .int (s3 * (s4 - (ab_i h x1 11)))]) (rest := []) c_127_123 rfl rfl (Nat.le_of_ble_eq_true rfl) (Nat.le_of_ble_eq_true rfl) t.1 t.2
set_option maxRecDepth 20000 in
theorem t_127_126 {d : Nat} {h : ab_H} {Q : Option Value → ab_H → Prop} {x0 : Nat} {x1 : Nat} {x2 : Int32} {x3 : Int32} {x4 : Int32} (t : ab_ok h x1 108 = true ∧ ∃ j1 : Nat, ab_r h x1 6 = some j1 ∧ ab_ok h j1 104 = true ∧ wm d 57 [.ref j1, .int x4, .int 1, .int (-x3)] h (fun r9 h9 => wq (d + 1) 127 138 [.ref x0, .ref x1, .int x2, .int x3, .int x4] (r9.toList ++ []) h9 Q)) : wq (d + 1) 127 126 [.ref x0, .ref x1, .int x2, .int x3, .int x4] [] h Q := by
  refine g5 c_127_126 rfl ?_
  obtain ⟨ho, j1, hr, t⟩ := t
  refine g45 c_127_127 ho hr ?_
  refine g3 c_127_130 rfl ?_
  refine g1 c_127_132 k_1 ?_
  refine g3 c_127_133 rfl ?_
  refine g21 c_127_134 ?_
  exact g80 (As := [.int x4, .int 1, .int (-x3)]) (rest := []) c_127_135 rfl rfl (Nat.le_of_ble_eq_true rfl) (Nat.le_of_ble_eq_true rfl) t.1 t.2
set_option maxRecDepth 20000 in
theorem t_127_138 {d : Nat} {h : ab_H} {Q : Option Value → ab_H → Prop} {x0 : Nat} {x1 : Nat} {x2 : Int32} {x3 : Int32} {x4 : Int32} (t : ab_ok h x0 109 = true ∧ ab_ok h x0 109 = true ∧ ∀ h1 : ab_H, h1 = ab_pi h x0 8 ((ab_i h x0 8) + x3) → ab_ok h1 x1 108 = true ∧ ∃ j2 : Nat, ab_r h1 x1 2 = some j2 ∧ ab_ok h1 j2 104 = true ∧ wm d 55 [.ref j2, .int x2, .int 2] h1 (fun r9 h9 => wq (d + 1) 127 157 [.ref x0, .ref x1, .int x2, .int x3, .int x4] (r9.toList ++ []) h9 Q)) : wq (d + 1) 127 138 [.ref x0, .ref x1, .int x2, .int x3, .int x4] [] h Q := by
  refine g5 c_127_138 rfl ?_
  refine g33a c_127_139 ?_
  obtain ⟨ho, t⟩ := t
  refine g43 c_127_140 ho ?_
  refine g3 c_127_143 rfl ?_
  refine g10 c_127_144 ?_
  obtain ⟨ho, t⟩ := t
  refine g46 c_127_145 ho (fun h1 eh1 => ?_)
  have t := t h1 eh1
  refine g5 c_127_148 rfl ?_
  obtain ⟨ho, j2, hr, t⟩ := t
  refine g45 c_127_149 ho hr ?_
  refine g3 c_127_152 rfl ?_
  refine g1 c_127_153 k_2 ?_
  exact g80 (As := [.int x2, .int 2]) (rest := []) c_127_154 rfl rfl (Nat.le_of_ble_eq_true rfl) (Nat.le_of_ble_eq_true rfl) t.1 t.2
set_option maxRecDepth 20000 in
theorem t_127_157 {d : Nat} {h : ab_H} {Q : Option Value → ab_H → Prop} {x0 : Nat} {x1 : Nat} {x2 : Int32} {x3 : Int32} {x4 : Int32} {s0 : Int32} (t : if 0 ≤ s0 then (wq (d + 1) 127 66 [.ref x0, .ref x1, .int (x2 + 1), .int x3, .int x4] [] h Q) else (ab_ok h x1 108 = true ∧ ∃ j1 : Nat, ab_r h x1 2 = some j1 ∧ ab_ok h j1 104 = true ∧ wm d 56 [.ref j1, .int x2, .int 4, .int 1] h (fun r9 h9 => wq (d + 1) 127 170 [.ref x0, .ref x1, .int x2, .int x3, .int x4] (r9.toList ++ []) h9 Q))) : wq (d + 1) 127 157 [.ref x0, .ref x1, .int x2, .int x3, .int x4] [.int s0] h Q := by
  refine gif c_127_157 (gbr t rfl rfl (fun hc t => ?_) (fun hc t => ?_))
  · refine g9 (L' := [.ref x0, .ref x1, .int (x2 + 1), .int x3, .int x4]) c_127_170 rfl k_1 rfl ?_
    refine g38 c_127_173 rfl ?_
    exact t
  · refine g5 c_127_160 rfl ?_
    obtain ⟨ho, j1, hr, t⟩ := t
    refine g45 c_127_161 ho hr ?_
    refine g3 c_127_164 rfl ?_
    refine g1 c_127_165 k_4 ?_
    refine g1 c_127_166 k_1 ?_
    exact g80 (As := [.int x2, .int 4, .int 1]) (rest := []) c_127_167 rfl rfl (Nat.le_of_ble_eq_true rfl) (Nat.le_of_ble_eq_true rfl) t.1 t.2
set_option maxRecDepth 20000 in
theorem t_127_170 {d : Nat} {h : ab_H} {Q : Option Value → ab_H → Prop} {x0 : Nat} {x1 : Nat} {x2 : Int32} {x3 : Int32} {x4 : Int32} (t : wq d 127 66 [.ref x0, .ref x1, .int (x2 + 1), .int x3, .int x4] [] h Q) : wq d 127 170 [.ref x0, .ref x1, .int x2, .int x3, .int x4] [] h Q := by
  refine g9 (L' := [.ref x0, .ref x1, .int (x2 + 1), .int x3, .int x4]) c_127_170 rfl k_1 rfl ?_
  refine g38 c_127_173 rfl ?_
  exact t
-- method 128: MillTown$Week.levyAndRelieve(LMillTown$Town;)V
theorem c_128_0 : pg_cd 128 0 = (1, 1, 0, 0, 0) := by decide +kernel
theorem c_128_1 : pg_cd 128 1 = (6, 1, 0, 2, 0) := by decide +kernel
theorem c_128_2 : pg_cd 128 2 = (3, 1, 0, 2, 0) := by decide +kernel
theorem c_128_3 : pg_cd 128 3 = (5, 1, 0, 1, 0) := by decide +kernel
theorem c_128_4 : pg_cd 128 4 = (45, 8, 143, 5, 0) := by decide +kernel
theorem c_128_7 : pg_cd 128 7 = (43, 4, 121, 2, 0) := by decide +kernel
theorem c_128_10 : pg_cd 128 10 = (37, 3, 0, 3, 54) := by decide +kernel
theorem c_128_13 : pg_cd 128 13 = (3, 1, 0, 2, 0) := by decide +kernel
theorem c_128_14 : pg_cd 128 14 = (1, 2, 0, 0, 60) := by decide +kernel
theorem c_128_16 : pg_cd 128 16 = (37, 3, 0, 3, 48) := by decide +kernel
theorem c_128_19 : pg_cd 128 19 = (5, 1, 0, 0, 0) := by decide +kernel
theorem c_128_20 : pg_cd 128 20 = (45, 9, 29, 3, 0) := by decide +kernel
theorem c_128_23 : pg_cd 128 23 = (3, 1, 0, 2, 0) := by decide +kernel
theorem c_128_24 : pg_cd 128 24 = (50, 1, 0, 0, 0) := by decide +kernel
theorem c_128_25 : pg_cd 128 25 = (5, 1, 0, 1, 0) := by decide +kernel
theorem c_128_26 : pg_cd 128 26 = (43, 8, 223, 14, 0) := by decide +kernel
theorem c_128_29 : pg_cd 128 29 = (37, 3, 0, 2, 29) := by decide +kernel
theorem c_128_32 : pg_cd 128 32 = (5, 1, 0, 0, 0) := by decide +kernel
theorem c_128_33 : pg_cd 128 33 = (45, 9, 29, 3, 0) := by decide +kernel
theorem c_128_36 : pg_cd 128 36 = (3, 1, 0, 2, 0) := by decide +kernel
theorem c_128_37 : pg_cd 128 37 = (34, 1, 0, 0, 0) := by decide +kernel
theorem c_128_38 : pg_cd 128 38 = (50, 1, 0, 0, 0) := by decide +kernel
theorem c_128_39 : pg_cd 128 39 = (5, 1, 0, 1, 0) := by decide +kernel
theorem c_128_40 : pg_cd 128 40 = (43, 8, 223, 14, 0) := by decide +kernel
theorem c_128_43 : pg_cd 128 43 = (11, 1, 0, 0, 0) := by decide +kernel
theorem c_128_44 : pg_cd 128 44 = (54, 1, 0, 0, 0) := by decide +kernel
theorem c_128_45 : pg_cd 128 45 = (5, 1, 0, 1, 0) := by decide +kernel
theorem c_128_46 : pg_cd 128 46 = (33, 1, 0, 0, 0) := by decide +kernel
theorem c_128_47 : pg_cd 128 47 = (43, 8, 226, 13, 0) := by decide +kernel
theorem c_128_50 : pg_cd 128 50 = (5, 1, 0, 1, 0) := by decide +kernel
theorem c_128_51 : pg_cd 128 51 = (43, 8, 223, 14, 0) := by decide +kernel
theorem c_128_54 : pg_cd 128 54 = (10, 1, 0, 0, 0) := by decide +kernel
theorem c_128_55 : pg_cd 128 55 = (46, 8, 226, 13, 0) := by decide +kernel
theorem c_128_58 : pg_cd 128 58 = (9, 3, 0, 2, 1) := by decide +kernel
theorem c_128_61 : pg_cd 128 61 = (38, 3, 0, 0, (-59)) := by decide +kernel
theorem c_128_64 : pg_cd 128 64 = (1, 1, 0, 0, 0) := by decide +kernel
theorem c_128_65 : pg_cd 128 65 = (6, 1, 0, 2, 0) := by decide +kernel
theorem c_128_66 : pg_cd 128 66 = (3, 1, 0, 2, 0) := by decide +kernel
theorem c_128_67 : pg_cd 128 67 = (5, 1, 0, 1, 0) := by decide +kernel
theorem c_128_68 : pg_cd 128 68 = (45, 8, 143, 5, 0) := by decide +kernel
theorem c_128_71 : pg_cd 128 71 = (43, 4, 121, 2, 0) := by decide +kernel
theorem c_128_74 : pg_cd 128 74 = (37, 3, 0, 3, 83) := by decide +kernel
theorem c_128_77 : pg_cd 128 77 = (3, 1, 0, 2, 0) := by decide +kernel
theorem c_128_78 : pg_cd 128 78 = (1, 2, 0, 0, 60) := by decide +kernel
theorem c_128_80 : pg_cd 128 80 = (37, 3, 0, 3, 77) := by decide +kernel
theorem c_128_83 : pg_cd 128 83 = (5, 1, 0, 1, 0) := by decide +kernel
theorem c_128_84 : pg_cd 128 84 = (45, 8, 115, 2, 0) := by decide +kernel
theorem c_128_87 : pg_cd 128 87 = (5, 1, 0, 1, 0) := by decide +kernel
theorem c_128_88 : pg_cd 128 88 = (45, 8, 143, 5, 0) := by decide +kernel
theorem c_128_91 : pg_cd 128 91 = (3, 1, 0, 2, 0) := by decide +kernel
theorem c_128_92 : pg_cd 128 92 = (1, 1, 0, 0, 4) := by decide +kernel
theorem c_128_93 : pg_cd 128 93 = (80, 55, 118, 0, 0) := by decide +kernel
theorem c_128_96 : pg_cd 128 96 = (1, 1, 0, 0, 5) := by decide +kernel
theorem c_128_97 : pg_cd 128 97 = (80, 55, 118, 0, 0) := by decide +kernel
theorem c_128_100 : pg_cd 128 100 = (1, 1, 0, 0, 1) := by decide +kernel
theorem c_128_101 : pg_cd 128 101 = (37, 3, 0, 1, 7) := by decide +kernel
theorem c_128_104 : pg_cd 128 104 = (1, 1, 0, 0, 1) := by decide +kernel
theorem c_128_105 : pg_cd 128 105 = (38, 3, 0, 0, 4) := by decide +kernel
theorem c_128_108 : pg_cd 128 108 = (1, 1, 0, 0, 0) := by decide +kernel
theorem c_128_109 : pg_cd 128 109 = (6, 1, 0, 3, 0) := by decide +kernel
theorem c_128_110 : pg_cd 128 110 = (3, 1, 0, 3, 0) := by decide +kernel
theorem c_128_111 : pg_cd 128 111 = (36, 3, 0, 0, 40) := by decide +kernel
theorem c_128_114 : pg_cd 128 114 = (5, 1, 0, 1, 0) := by decide +kernel
theorem c_128_115 : pg_cd 128 115 = (43, 8, 226, 13, 0) := by decide +kernel
theorem c_128_118 : pg_cd 128 118 = (5, 1, 0, 1, 0) := by decide +kernel
theorem c_128_119 : pg_cd 128 119 = (43, 8, 229, 15, 0) := by decide +kernel
theorem c_128_122 : pg_cd 128 122 = (37, 3, 0, 2, 29) := by decide +kernel
theorem c_128_125 : pg_cd 128 125 = (5, 1, 0, 0, 0) := by decide +kernel
theorem c_128_126 : pg_cd 128 126 = (45, 9, 29, 3, 0) := by decide +kernel
theorem c_128_129 : pg_cd 128 129 = (3, 1, 0, 2, 0) := by decide +kernel
theorem c_128_130 : pg_cd 128 130 = (34, 1, 0, 0, 0) := by decide +kernel
theorem c_128_131 : pg_cd 128 131 = (50, 1, 0, 0, 0) := by decide +kernel
theorem c_128_132 : pg_cd 128 132 = (5, 1, 0, 1, 0) := by decide +kernel
theorem c_128_133 : pg_cd 128 133 = (43, 8, 229, 15, 0) := by decide +kernel
theorem c_128_136 : pg_cd 128 136 = (10, 1, 0, 0, 0) := by decide +kernel
theorem c_128_137 : pg_cd 128 137 = (54, 1, 0, 0, 0) := by decide +kernel
theorem c_128_138 : pg_cd 128 138 = (5, 1, 0, 1, 0) := by decide +kernel
theorem c_128_139 : pg_cd 128 139 = (33, 1, 0, 0, 0) := by decide +kernel
theorem c_128_140 : pg_cd 128 140 = (43, 8, 226, 13, 0) := by decide +kernel
theorem c_128_143 : pg_cd 128 143 = (5, 1, 0, 1, 0) := by decide +kernel
theorem c_128_144 : pg_cd 128 144 = (43, 8, 229, 15, 0) := by decide +kernel
theorem c_128_147 : pg_cd 128 147 = (11, 1, 0, 0, 0) := by decide +kernel
theorem c_128_148 : pg_cd 128 148 = (46, 8, 226, 13, 0) := by decide +kernel
theorem c_128_151 : pg_cd 128 151 = (9, 3, 0, 2, 1) := by decide +kernel
theorem c_128_154 : pg_cd 128 154 = (38, 3, 0, 0, (-88)) := by decide +kernel
theorem c_128_157 : pg_cd 128 157 = (94, 0, 0, 0, 0) := by decide +kernel
theorem mx_128 : pg_mx 128 = 4 := by decide +kernel
theorem m_128 {d : Nat} {h : ab_H} {Q : Option Value → ab_H → Prop} {x0 : Nat} {x1 : Nat} (t : wq d 128 0 [.ref x0, .ref x1, .retAddr 0, .retAddr 0] [] h Q) : wm d 128 [.ref x0, .ref x1] h Q := by
  unfold wm
  rw [mx_128]
  exact t
set_option maxRecDepth 20000 in
theorem t_128_0 {d : Nat} {h : ab_H} {Q : Option Value → ab_H → Prop} {x0 : Nat} {x1 : Nat} (t : wq d 128 2 [.ref x0, .ref x1, .int 0, .retAddr 0] [] h Q) : wq d 128 0 [.ref x0, .ref x1, .retAddr 0, .retAddr 0] [] h Q := by
  refine g1 c_128_0 k_0 ?_
  refine g6 (L' := [.ref x0, .ref x1, .int 0, .retAddr 0]) c_128_1 rfl ?_
  exact t
set_option maxRecDepth 20000 in
theorem t_128_2 {d : Nat} {h : ab_H} {Q : Option Value → ab_H → Prop} {x0 : Nat} {x1 : Nat} {x2 : Int32} (t : ab_ok h x1 108 = true ∧ ∃ j1 : Nat, ab_r h x1 5 = some j1 ∧ ab_ok h j1 104 = true ∧ if (ab_i h j1 2) ≤ x2 then (wq d 128 66 [.ref x0, .ref x1, .int 0, .retAddr 0] [] h Q) else (if 60 ≤ x2 then (wq d 128 66 [.ref x0, .ref x1, .int 0, .retAddr 0] [] h Q) else (ab_ok h x0 109 = true ∧ ∃ j2 : Nat, ab_r h x0 3 = some j2 ∧ ((j2 = 0 ∨ ab_ok h j2 0 = true) ∧ ab_in x2 (ab_s h j2).2 = true) ∧ ab_ok h x1 108 = true ∧ if (ab_i h j2 (Int32.toNatClampNeg x2)) < (ab_i h x1 14) then (wq d 128 2 [.ref x0, .ref x1, .int (x2 + 1), .retAddr 0] [] h Q) else (ab_ok h x0 109 = true ∧ ∃ j3 : Nat, ab_r h x0 3 = some j3 ∧ ((j3 = 0 ∨ ab_ok h j3 0 = true) ∧ ab_in x2 (ab_s h j3).2 = true) ∧ ab_ok h x1 108 = true ∧ (ab_ok h j3 0 = true ∧ ab_in x2 (ab_s h j3).2 = true) ∧ ∀ h4 : ab_H, h4 = ab_pi h j3 (Int32.toNatClampNeg x2) ((ab_i h j3 (Int32.toNatClampNeg x2)) - (ab_i h x1 14)) → ab_ok h4 x1 108 = true ∧ ab_ok h4 x1 108 = true ∧ ab_ok h4 x1 108 = true ∧ ∀ h5 : ab_H, h5 = ab_pi h4 x1 13 ((ab_i h4 x1 13) + (ab_i h4 x1 14)) → wq d 128 2 [.ref x0, .ref x1, .int (x2 + 1), .retAddr 0] [] h5 Q)))) : wq d 128 2 [.ref x0, .ref x1, .int x2, .retAddr 0] [] h Q := by
  refine g3 c_128_2 rfl ?_
  refine g5 c_128_3 rfl ?_
  obtain ⟨ho, j1, hr, t⟩ := t
  refine g45 c_128_4 ho hr ?_
  obtain ⟨ho, t⟩ := t
  refine g43 c_128_7 ho ?_
  refine gcm c_128_10 (gbr t rfl rfl (fun hc t => ?_) (fun hc t => ?_))
  · refine g1 c_128_64 k_0 ?_
    refine g6 (L' := [.ref x0, .ref x1, .int 0, .retAddr 0]) c_128_65 rfl ?_
    exact t
  · refine g3 c_128_13 rfl ?_
    refine g1 c_128_14 k_60 ?_
    refine gcm c_128_16 (gbr t rfl rfl (fun hc t => ?_) (fun hc t => ?_))
    · refine g1 c_128_64 k_0 ?_
      refine g6 (L' := [.ref x0, .ref x1, .int 0, .retAddr 0]) c_128_65 rfl ?_
      exact t
    · refine g5 c_128_19 rfl ?_
      obtain ⟨ho, j2, hr, t⟩ := t
      refine g45 c_128_20 ho hr ?_
      refine g3 c_128_23 rfl ?_
      obtain ⟨ho, t⟩ := t
      refine g50 c_128_24 ho ?_
      refine g5 c_128_25 rfl ?_
      obtain ⟨ho, t⟩ := t
      refine g43 c_128_26 ho ?_
      refine gcm c_128_29 (gbr t rfl rfl (fun hc t => ?_) (fun hc t => ?_))
      · refine g9 (L' := [.ref x0, .ref x1, .int (x2 + 1), .retAddr 0]) c_128_58 rfl k_1 rfl ?_
        refine g38 c_128_61 rfl ?_
        exact t
      · refine g5 c_128_32 rfl ?_
        obtain ⟨ho, j3, hr, t⟩ := t
        refine g45 c_128_33 ho hr ?_
        refine g3 c_128_36 rfl ?_
        refine g34a c_128_37 ?_
        obtain ⟨ho, t⟩ := t
        refine g50 c_128_38 ho ?_
        refine g5 c_128_39 rfl ?_
        obtain ⟨ho, t⟩ := t
        refine g43 c_128_40 ho ?_
        refine g11 c_128_43 ?_
        obtain ⟨ho, t⟩ := t
        refine g54 c_128_44 ho (fun h4 eh4 => ?_)
        have t := t h4 eh4
        refine g5 c_128_45 rfl ?_
        refine g33a c_128_46 ?_
        obtain ⟨ho, t⟩ := t
        refine g43 c_128_47 ho ?_
        refine g5 c_128_50 rfl ?_
        obtain ⟨ho, t⟩ := t
        refine g43 c_128_51 ho ?_
        refine g10 c_128_54 ?_
        obtain ⟨ho, t⟩ := t
        refine g46 c_128_55 ho (fun h5 eh5 => ?_)
        have t := t h5 eh5
        refine g9 (L' := [.ref x0, .ref x1, .int (x2 + 1), .retAddr 0]) c_128_58 rfl k_1 rfl ?_
        refine g38 c_128_61 rfl ?_
        exact t
set_option maxRecDepth 20000 in
theorem t_128_66 {d : Nat} {h : ab_H} {Q : Option Value → ab_H → Prop} {x0 : Nat} {x1 : Nat} {x2 : Int32} (t : ab_ok h x1 108 = true ∧ ∃ j1 : Nat, ab_r h x1 5 = some j1 ∧ ab_ok h j1 104 = true ∧ if (ab_i h j1 2) ≤ x2 then (Q none h) else (if 60 ≤ x2 then (Q none h) else (ab_ok h x1 108 = true ∧ ∃ j2 : Nat, ab_r h x1 2 = some j2 ∧ ab_ok h x1 108 = true ∧ ∃ j3 : Nat, ab_r h x1 5 = some j3 ∧ ab_ok h j3 104 = true ∧ wm d 55 [.ref j3, .int x2, .int 4] h (fun r9 h9 => wq (d + 1) 128 96 [.ref x0, .ref x1, .int x2, .retAddr 0] (r9.toList ++ [.ref j2]) h9 Q)))) : wq (d + 1) 128 66 [.ref x0, .ref x1, .int x2, .retAddr 0] [] h Q := by
  refine g3 c_128_66 rfl ?_
  refine g5 c_128_67 rfl ?_
  obtain ⟨ho, j1, hr, t⟩ := t
  refine g45 c_128_68 ho hr ?_
  obtain ⟨ho, t⟩ := t
  refine g43 c_128_71 ho ?_
  refine gcm c_128_74 (gbr t rfl rfl (fun hc t => ?_) (fun hc t => ?_))
  · exact g94 c_128_157 t
  · refine g3 c_128_77 rfl ?_
    refine g1 c_128_78 k_60 ?_
    refine gcm c_128_80 (gbr t rfl rfl (fun hc t => ?_) (fun hc t => ?_))
    · exact g94 c_128_157 t
    · refine g5 c_128_83 rfl ?_
      obtain ⟨ho, j2, hr, t⟩ := t
      refine g45 c_128_84 ho hr ?_
      refine g5 c_128_87 rfl ?_
      obtain ⟨ho, j3, hr, t⟩ := t
      refine g45 c_128_88 ho hr ?_
      refine g3 c_128_91 rfl ?_
      refine g1 c_128_92 k_4 ?_
      exact g80 (As := [.int x2, .int 4]) (rest := [.ref j2]) c_128_93 rfl rfl (Nat.le_of_ble_eq_true rfl) (Nat.le_of_ble_eq_true rfl) t.1 t.2
set_option maxRecDepth 20000 in
theorem t_128_96 {d : Nat} {h : ab_H} {Q : Option Value → ab_H → Prop} {x0 : Nat} {x1 : Nat} {x2 : Int32} {s0 : Nat} {s1 : Int32} (t : ab_ok h s0 104 = true ∧ wm d 55 [.ref s0, .int s1, .int 5] h (fun r9 h9 => wq (d + 1) 128 100 [.ref x0, .ref x1, .int x2, .retAddr 0] (r9.toList ++ []) h9 Q)) : wq (d + 1) 128 96 [.ref x0, .ref x1, .int x2, .retAddr 0] [.int s1, .ref s0] h Q := by
  refine g1 c_128_96 k_5 ?_
  exact g80 (As := [.int s1, .int 5]) (rest := []) c_128_97 rfl rfl (Nat.le_of_ble_eq_true rfl) (Nat.le_of_ble_eq_true rfl) t.1 t.2
set_option maxRecDepth 20000 in
theorem t_128_100 {d : Nat} {h : ab_H} {Q : Option Value → ab_H → Prop} {x0 : Nat} {x1 : Nat} {x2 : Int32} {s0 : Int32} (t : if s0 = 1 then (if (1 : Int32) = 0 then (wq d 128 66 [.ref x0, .ref x1, .int (x2 + 1), .int 1] [] h Q) else (ab_ok h x1 108 = true ∧ ab_ok h x1 108 = true ∧ if (ab_i h x1 13) < (ab_i h x1 15) then (wq d 128 66 [.ref x0, .ref x1, .int (x2 + 1), .int 1] [] h Q) else (ab_ok h x0 109 = true ∧ ∃ j1 : Nat, ab_r h x0 3 = some j1 ∧ ((j1 = 0 ∨ ab_ok h j1 0 = true) ∧ ab_in x2 (ab_s h j1).2 = true) ∧ ab_ok h x1 108 = true ∧ (ab_ok h j1 0 = true ∧ ab_in x2 (ab_s h j1).2 = true) ∧ ∀ h2 : ab_H, h2 = ab_pi h j1 (Int32.toNatClampNeg x2) ((ab_i h j1 (Int32.toNatClampNeg x2)) + (ab_i h x1 15)) → ab_ok h2 x1 108 = true ∧ ab_ok h2 x1 108 = true ∧ ab_ok h2 x1 108 = true ∧ ∀ h3 : ab_H, h3 = ab_pi h2 x1 13 ((ab_i h2 x1 13) - (ab_i h2 x1 15)) → wq d 128 66 [.ref x0, .ref x1, .int (x2 + 1), .int 1] [] h3 Q))) else (if (0 : Int32) = 0 then (wq d 128 66 [.ref x0, .ref x1, .int (x2 + 1), .int 0] [] h Q) else (ab_ok h x1 108 = true ∧ ab_ok h x1 108 = true ∧ if (ab_i h x1 13) < (ab_i h x1 15) then (wq d 128 66 [.ref x0, .ref x1, .int (x2 + 1), .int 0] [] h Q) else (ab_ok h x0 109 = true ∧ ∃ j4 : Nat, ab_r h x0 3 = some j4 ∧ ((j4 = 0 ∨ ab_ok h j4 0 = true) ∧ ab_in x2 (ab_s h j4).2 = true) ∧ ab_ok h x1 108 = true ∧ (ab_ok h j4 0 = true ∧ ab_in x2 (ab_s h j4).2 = true) ∧ ∀ h5 : ab_H, h5 = ab_pi h j4 (Int32.toNatClampNeg x2) ((ab_i h j4 (Int32.toNatClampNeg x2)) + (ab_i h x1 15)) → ab_ok h5 x1 108 = true ∧ ab_ok h5 x1 108 = true ∧ ab_ok h5 x1 108 = true ∧ ∀ h6 : ab_H, h6 = ab_pi h5 x1 13 ((ab_i h5 x1 13) - (ab_i h5 x1 15)) → wq d 128 66 [.ref x0, .ref x1, .int (x2 + 1), .int 0] [] h6 Q)))) : wq d 128 100 [.ref x0, .ref x1, .int x2, .retAddr 0] [.int s0] h Q := by
  refine g1 c_128_100 k_1 ?_
  refine gcm c_128_101 (gbn t (ab_c1 _ _) rfl (fun hc t => ?_) (fun hc t => ?_))
  · refine g1 c_128_104 k_1 ?_
    refine g38 c_128_105 rfl ?_
    refine g6 (L' := [.ref x0, .ref x1, .int x2, .int 1]) c_128_109 rfl ?_
    refine g3 c_128_110 rfl ?_
    refine gif c_128_111 (gbr t rfl rfl (fun hc t => ?_) (fun hc t => ?_))
    · refine g9 (L' := [.ref x0, .ref x1, .int (x2 + 1), .int 1]) c_128_151 rfl k_1 rfl ?_
      refine g38 c_128_154 rfl ?_
      exact t
    · refine g5 c_128_114 rfl ?_
      obtain ⟨ho, t⟩ := t
      refine g43 c_128_115 ho ?_
      refine g5 c_128_118 rfl ?_
      obtain ⟨ho, t⟩ := t
      refine g43 c_128_119 ho ?_
      refine gcm c_128_122 (gbr t rfl rfl (fun hc t => ?_) (fun hc t => ?_))
      · refine g9 (L' := [.ref x0, .ref x1, .int (x2 + 1), .int 1]) c_128_151 rfl k_1 rfl ?_
        refine g38 c_128_154 rfl ?_
        exact t
      · refine g5 c_128_125 rfl ?_
        obtain ⟨ho, j1, hr, t⟩ := t
        refine g45 c_128_126 ho hr ?_
        refine g3 c_128_129 rfl ?_
        refine g34a c_128_130 ?_
        obtain ⟨ho, t⟩ := t
        refine g50 c_128_131 ho ?_
        refine g5 c_128_132 rfl ?_
        obtain ⟨ho, t⟩ := t
        refine g43 c_128_133 ho ?_
        refine g10 c_128_136 ?_
        obtain ⟨ho, t⟩ := t
        refine g54 c_128_137 ho (fun h2 eh2 => ?_)
        have t := t h2 eh2
        refine g5 c_128_138 rfl ?_
        refine g33a c_128_139 ?_
        obtain ⟨ho, t⟩ := t
        refine g43 c_128_140 ho ?_
        refine g5 c_128_143 rfl ?_
        obtain ⟨ho, t⟩ := t
        refine g43 c_128_144 ho ?_
        refine g11 c_128_147 ?_
        obtain ⟨ho, t⟩ := t
        refine g46 c_128_148 ho (fun h3 eh3 => ?_)
        have t := t h3 eh3
        refine g9 (L' := [.ref x0, .ref x1, .int (x2 + 1), .int 1]) c_128_151 rfl k_1 rfl ?_
        refine g38 c_128_154 rfl ?_
        exact t
  · refine g1 c_128_108 k_0 ?_
    refine g6 (L' := [.ref x0, .ref x1, .int x2, .int 0]) c_128_109 rfl ?_
    refine g3 c_128_110 rfl ?_
    refine gif c_128_111 (gbr t rfl rfl (fun hc t => ?_) (fun hc t => ?_))
    · refine g9 (L' := [.ref x0, .ref x1, .int (x2 + 1), .int 0]) c_128_151 rfl k_1 rfl ?_
      refine g38 c_128_154 rfl ?_
      exact t
    · refine g5 c_128_114 rfl ?_
      obtain ⟨ho, t⟩ := t
      refine g43 c_128_115 ho ?_
      refine g5 c_128_118 rfl ?_
      obtain ⟨ho, t⟩ := t
      refine g43 c_128_119 ho ?_
      refine gcm c_128_122 (gbr t rfl rfl (fun hc t => ?_) (fun hc t => ?_))
      · refine g9 (L' := [.ref x0, .ref x1, .int (x2 + 1), .int 0]) c_128_151 rfl k_1 rfl ?_
        refine g38 c_128_154 rfl ?_
        exact t
      · refine g5 c_128_125 rfl ?_
        obtain ⟨ho, j4, hr, t⟩ := t
        refine g45 c_128_126 ho hr ?_
        refine g3 c_128_129 rfl ?_
        refine g34a c_128_130 ?_
        obtain ⟨ho, t⟩ := t
        refine g50 c_128_131 ho ?_
        refine g5 c_128_132 rfl ?_
        obtain ⟨ho, t⟩ := t
        refine g43 c_128_133 ho ?_
        refine g10 c_128_136 ?_
        obtain ⟨ho, t⟩ := t
        refine g54 c_128_137 ho (fun h5 eh5 => ?_)
        have t := t h5 eh5
        refine g5 c_128_138 rfl ?_
        refine g33a c_128_139 ?_
        obtain ⟨ho, t⟩ := t
        refine g43 c_128_140 ho ?_
        refine g5 c_128_143 rfl ?_
        obtain ⟨ho, t⟩ := t
        refine g43 c_128_144 ho ?_
        refine g11 c_128_147 ?_
        obtain ⟨ho, t⟩ := t
        refine g46 c_128_148 ho (fun h6 eh6 => ?_)
        have t := t h6 eh6
        refine g9 (L' := [.ref x0, .ref x1, .int (x2 + 1), .int 0]) c_128_151 rfl k_1 rfl ?_
        refine g38 c_128_154 rfl ?_
        exact t
-- method 129: MillTown$Week.writeWages(LMillTown$Town;LMillTown$WeekBook;)V
theorem c_129_0 : pg_cd 129 0 = (1, 1, 0, 0, 0) := by decide +kernel
theorem c_129_1 : pg_cd 129 1 = (6, 1, 0, 3, 0) := by decide +kernel
theorem c_129_2 : pg_cd 129 2 = (3, 1, 0, 3, 0) := by decide +kernel
theorem c_129_3 : pg_cd 129 3 = (5, 1, 0, 1, 0) := by decide +kernel
theorem c_129_4 : pg_cd 129 4 = (45, 8, 115, 2, 0) := by decide +kernel
theorem c_129_7 : pg_cd 129 7 = (43, 4, 121, 2, 0) := by decide +kernel
theorem c_129_10 : pg_cd 129 10 = (37, 3, 0, 3, 31) := by decide +kernel
theorem c_129_13 : pg_cd 129 13 = (3, 1, 0, 3, 0) := by decide +kernel
theorem c_129_14 : pg_cd 129 14 = (1, 2, 0, 0, 8) := by decide +kernel
theorem c_129_16 : pg_cd 129 16 = (37, 3, 0, 3, 25) := by decide +kernel
theorem c_129_19 : pg_cd 129 19 = (5, 1, 0, 2, 0) := by decide +kernel
theorem c_129_20 : pg_cd 129 20 = (45, 10, 232, 2, 0) := by decide +kernel
theorem c_129_23 : pg_cd 129 23 = (3, 1, 0, 3, 0) := by decide +kernel
theorem c_129_24 : pg_cd 129 24 = (5, 1, 0, 1, 0) := by decide +kernel
theorem c_129_25 : pg_cd 129 25 = (45, 8, 115, 2, 0) := by decide +kernel
theorem c_129_28 : pg_cd 129 28 = (3, 1, 0, 3, 0) := by decide +kernel
theorem c_129_29 : pg_cd 129 29 = (1, 2, 0, 0, 8) := by decide +kernel
theorem c_129_31 : pg_cd 129 31 = (80, 55, 118, 0, 0) := by decide +kernel
theorem c_129_34 : pg_cd 129 34 = (54, 1, 0, 0, 0) := by decide +kernel
theorem c_129_35 : pg_cd 129 35 = (9, 3, 0, 3, 1) := by decide +kernel
theorem c_129_38 : pg_cd 129 38 = (38, 3, 0, 0, (-36)) := by decide +kernel
theorem c_129_41 : pg_cd 129 41 = (1, 1, 0, 0, 0) := by decide +kernel
theorem c_129_42 : pg_cd 129 42 = (6, 1, 0, 3, 0) := by decide +kernel
theorem c_129_43 : pg_cd 129 43 = (3, 1, 0, 3, 0) := by decide +kernel
theorem c_129_44 : pg_cd 129 44 = (5, 1, 0, 1, 0) := by decide +kernel
theorem c_129_45 : pg_cd 129 45 = (45, 8, 143, 5, 0) := by decide +kernel
theorem c_129_48 : pg_cd 129 48 = (43, 4, 121, 2, 0) := by decide +kernel
theorem c_129_51 : pg_cd 129 51 = (37, 3, 0, 3, 97) := by decide +kernel
theorem c_129_54 : pg_cd 129 54 = (3, 1, 0, 3, 0) := by decide +kernel
theorem c_129_55 : pg_cd 129 55 = (1, 2, 0, 0, 60) := by decide +kernel
theorem c_129_57 : pg_cd 129 57 = (37, 3, 0, 3, 91) := by decide +kernel
theorem c_129_60 : pg_cd 129 60 = (5, 1, 0, 1, 0) := by decide +kernel
theorem c_129_61 : pg_cd 129 61 = (45, 8, 143, 5, 0) := by decide +kernel
theorem c_129_64 : pg_cd 129 64 = (3, 1, 0, 3, 0) := by decide +kernel
theorem c_129_65 : pg_cd 129 65 = (1, 1, 0, 0, 0) := by decide +kernel
theorem c_129_66 : pg_cd 129 66 = (80, 55, 118, 0, 0) := by decide +kernel
theorem c_129_69 : pg_cd 129 69 = (6, 2, 0, 4, 0) := by decide +kernel
theorem c_129_71 : pg_cd 129 71 = (5, 1, 0, 1, 0) := by decide +kernel
theorem c_129_72 : pg_cd 129 72 = (45, 8, 143, 5, 0) := by decide +kernel
theorem c_129_75 : pg_cd 129 75 = (3, 1, 0, 3, 0) := by decide +kernel
theorem c_129_76 : pg_cd 129 76 = (1, 2, 0, 0, 8) := by decide +kernel
theorem c_129_78 : pg_cd 129 78 = (5, 1, 0, 0, 0) := by decide +kernel
theorem c_129_79 : pg_cd 129 79 = (45, 9, 29, 3, 0) := by decide +kernel
theorem c_129_82 : pg_cd 129 82 = (3, 1, 0, 3, 0) := by decide +kernel
theorem c_129_83 : pg_cd 129 83 = (50, 1, 0, 0, 0) := by decide +kernel
theorem c_129_84 : pg_cd 129 84 = (80, 56, 171, 0, 0) := by decide +kernel
theorem c_129_87 : pg_cd 129 87 = (5, 1, 0, 2, 0) := by decide +kernel
theorem c_129_88 : pg_cd 129 88 = (45, 10, 236, 0, 0) := by decide +kernel
theorem c_129_91 : pg_cd 129 91 = (3, 1, 0, 3, 0) := by decide +kernel
theorem c_129_92 : pg_cd 129 92 = (5, 1, 0, 0, 0) := by decide +kernel
theorem c_129_93 : pg_cd 129 93 = (45, 9, 29, 3, 0) := by decide +kernel
theorem c_129_96 : pg_cd 129 96 = (3, 1, 0, 3, 0) := by decide +kernel
theorem c_129_97 : pg_cd 129 97 = (50, 1, 0, 0, 0) := by decide +kernel
theorem c_129_98 : pg_cd 129 98 = (54, 1, 0, 0, 0) := by decide +kernel
theorem c_129_99 : pg_cd 129 99 = (5, 1, 0, 2, 0) := by decide +kernel
theorem c_129_100 : pg_cd 129 100 = (45, 10, 237, 1, 0) := by decide +kernel
theorem c_129_103 : pg_cd 129 103 = (3, 1, 0, 3, 0) := by decide +kernel
theorem c_129_104 : pg_cd 129 104 = (5, 1, 0, 1, 0) := by decide +kernel
theorem c_129_105 : pg_cd 129 105 = (45, 8, 143, 5, 0) := by decide +kernel
theorem c_129_108 : pg_cd 129 108 = (3, 1, 0, 3, 0) := by decide +kernel
theorem c_129_109 : pg_cd 129 109 = (1, 1, 0, 0, 4) := by decide +kernel
theorem c_129_110 : pg_cd 129 110 = (80, 55, 118, 0, 0) := by decide +kernel
theorem c_129_113 : pg_cd 129 113 = (54, 1, 0, 0, 0) := by decide +kernel
theorem c_129_114 : pg_cd 129 114 = (3, 2, 0, 4, 0) := by decide +kernel
theorem c_129_116 : pg_cd 129 116 = (36, 3, 0, 2, 26) := by decide +kernel
theorem c_129_119 : pg_cd 129 119 = (3, 2, 0, 4, 0) := by decide +kernel
theorem c_129_121 : pg_cd 129 121 = (1, 2, 0, 0, 24) := by decide +kernel
theorem c_129_123 : pg_cd 129 123 = (37, 3, 0, 3, 19) := by decide +kernel
theorem c_129_126 : pg_cd 129 126 = (5, 1, 0, 2, 0) := by decide +kernel
theorem c_129_127 : pg_cd 129 127 = (45, 10, 239, 3, 0) := by decide +kernel
theorem c_129_130 : pg_cd 129 130 = (3, 2, 0, 4, 0) := by decide +kernel
theorem c_129_132 : pg_cd 129 132 = (34, 1, 0, 0, 0) := by decide +kernel
theorem c_129_133 : pg_cd 129 133 = (50, 1, 0, 0, 0) := by decide +kernel
theorem c_129_134 : pg_cd 129 134 = (5, 1, 0, 0, 0) := by decide +kernel
theorem c_129_135 : pg_cd 129 135 = (45, 9, 29, 3, 0) := by decide +kernel
theorem c_129_138 : pg_cd 129 138 = (3, 1, 0, 3, 0) := by decide +kernel
theorem c_129_139 : pg_cd 129 139 = (50, 1, 0, 0, 0) := by decide +kernel
theorem c_129_140 : pg_cd 129 140 = (10, 1, 0, 0, 0) := by decide +kernel
theorem c_129_141 : pg_cd 129 141 = (54, 1, 0, 0, 0) := by decide +kernel
theorem c_129_142 : pg_cd 129 142 = (9, 3, 0, 3, 1) := by decide +kernel
theorem c_129_145 : pg_cd 129 145 = (38, 3, 0, 0, (-102)) := by decide +kernel
theorem c_129_148 : pg_cd 129 148 = (94, 0, 0, 0, 0) := by decide +kernel
theorem mx_129 : pg_mx 129 = 5 := by decide +kernel
theorem m_129 {d : Nat} {h : ab_H} {Q : Option Value → ab_H → Prop} {x0 : Nat} {x1 : Nat} {x2 : Nat} (t : wq d 129 0 [.ref x0, .ref x1, .ref x2, .retAddr 0, .retAddr 0] [] h Q) : wm d 129 [.ref x0, .ref x1, .ref x2] h Q := by
  unfold wm
  rw [mx_129]
  exact t
set_option maxRecDepth 20000 in
theorem t_129_0 {d : Nat} {h : ab_H} {Q : Option Value → ab_H → Prop} {x0 : Nat} {x1 : Nat} {x2 : Nat} (t : wq d 129 2 [.ref x0, .ref x1, .ref x2, .int 0, .retAddr 0] [] h Q) : wq d 129 0 [.ref x0, .ref x1, .ref x2, .retAddr 0, .retAddr 0] [] h Q := by
  refine g1 c_129_0 k_0 ?_
  refine g6 (L' := [.ref x0, .ref x1, .ref x2, .int 0, .retAddr 0]) c_129_1 rfl ?_
  exact t
set_option maxRecDepth 20000 in
theorem t_129_2 {d : Nat} {h : ab_H} {Q : Option Value → ab_H → Prop} {x0 : Nat} {x1 : Nat} {x2 : Nat} {x3 : Int32} (t : ab_ok h x1 108 = true ∧ ∃ j1 : Nat, ab_r h x1 2 = some j1 ∧ ab_ok h j1 104 = true ∧ if (ab_i h j1 2) ≤ x3 then (wq (d + 1) 129 43 [.ref x0, .ref x1, .ref x2, .int 0, .retAddr 0] [] h Q) else (if 8 ≤ x3 then (wq (d + 1) 129 43 [.ref x0, .ref x1, .ref x2, .int 0, .retAddr 0] [] h Q) else (ab_ok h x2 110 = true ∧ ∃ j2 : Nat, ab_r h x2 2 = some j2 ∧ ab_ok h x1 108 = true ∧ ∃ j3 : Nat, ab_r h x1 2 = some j3 ∧ ab_ok h j3 104 = true ∧ wm d 55 [.ref j3, .int x3, .int 8] h (fun r9 h9 => wq (d + 1) 129 34 [.ref x0, .ref x1, .ref x2, .int x3, .retAddr 0] (r9.toList ++ [.int x3, .ref j2]) h9 Q)))) : wq (d + 1) 129 2 [.ref x0, .ref x1, .ref x2, .int x3, .retAddr 0] [] h Q := by
  refine g3 c_129_2 rfl ?_
  refine g5 c_129_3 rfl ?_
  obtain ⟨ho, j1, hr, t⟩ := t
  refine g45 c_129_4 ho hr ?_
  obtain ⟨ho, t⟩ := t
  refine g43 c_129_7 ho ?_
  refine gcm c_129_10 (gbr t rfl rfl (fun hc t => ?_) (fun hc t => ?_))
  · refine g1 c_129_41 k_0 ?_
    refine g6 (L' := [.ref x0, .ref x1, .ref x2, .int 0, .retAddr 0]) c_129_42 rfl ?_
    exact t
  · refine g3 c_129_13 rfl ?_
    refine g1 c_129_14 k_8 ?_
    refine gcm c_129_16 (gbr t rfl rfl (fun hc t => ?_) (fun hc t => ?_))
    · refine g1 c_129_41 k_0 ?_
      refine g6 (L' := [.ref x0, .ref x1, .ref x2, .int 0, .retAddr 0]) c_129_42 rfl ?_
      exact t
    · refine g5 c_129_19 rfl ?_
      obtain ⟨ho, j2, hr, t⟩ := t
      refine g45 c_129_20 ho hr ?_
      refine g3 c_129_23 rfl ?_
      refine g5 c_129_24 rfl ?_
      obtain ⟨ho, j3, hr, t⟩ := t
      refine g45 c_129_25 ho hr ?_
      refine g3 c_129_28 rfl ?_
      refine g1 c_129_29 k_8 ?_
      exact g80 (As := [.int x3, .int 8]) (rest := [.int x3, .ref j2]) c_129_31 rfl rfl (Nat.le_of_ble_eq_true rfl) (Nat.le_of_ble_eq_true rfl) t.1 t.2
set_option maxRecDepth 20000 in
theorem t_129_34 {d : Nat} {h : ab_H} {Q : Option Value → ab_H → Prop} {x0 : Nat} {x1 : Nat} {x2 : Nat} {x3 : Int32} {s0 : Nat} {s1 : Int32} {s2 : Int32} (t : (ab_ok h s0 0 = true ∧ ab_in s1 (ab_s h s0).2 = true) ∧ ∀ h1 : ab_H, h1 = ab_pi h s0 (Int32.toNatClampNeg s1) s2 → wq d 129 2 [.ref x0, .ref x1, .ref x2, .int (x3 + 1), .retAddr 0] [] h1 Q) : wq d 129 34 [.ref x0, .ref x1, .ref x2, .int x3, .retAddr 0] [.int s2, .int s1, .ref s0] h Q := by
  obtain ⟨ho, t⟩ := t
  refine g54 c_129_34 ho (fun h1 eh1 => ?_)
  have t := t h1 eh1
  refine g9 (L' := [.ref x0, .ref x1, .ref x2, .int (x3 + 1), .retAddr 0]) c_129_35 rfl k_1 rfl ?_
  refine g38 c_129_38 rfl ?_
  exact t
set_option maxRecDepth 20000 in
theorem t_129_43 {d : Nat} {h : ab_H} {Q : Option Value → ab_H → Prop} {x0 : Nat} {x1 : Nat} {x2 : Nat} {x3 : Int32} (t : ab_ok h x1 108 = true ∧ ∃ j1 : Nat, ab_r h x1 5 = some j1 ∧ ab_ok h j1 104 = true ∧ if (ab_i h j1 2) ≤ x3 then (Q none h) else (if 60 ≤ x3 then (Q none h) else (ab_ok h x1 108 = true ∧ ∃ j2 : Nat, ab_r h x1 5 = some j2 ∧ ab_ok h j2 104 = true ∧ wm d 55 [.ref j2, .int x3, .int 0] h (fun r9 h9 => wq (d + 1) 129 69 [.ref x0, .ref x1, .ref x2, .int x3, .retAddr 0] (r9.toList ++ []) h9 Q)))) : wq (d + 1) 129 43 [.ref x0, .ref x1, .ref x2, .int x3, .retAddr 0] [] h Q := by
  refine g3 c_129_43 rfl ?_
  refine g5 c_129_44 rfl ?_
  obtain ⟨ho, j1, hr, t⟩ := t
  refine g45 c_129_45 ho hr ?_
  obtain ⟨ho, t⟩ := t
  refine g43 c_129_48 ho ?_
  refine gcm c_129_51 (gbr t rfl rfl (fun hc t => ?_) (fun hc t => ?_))
  · exact g94 c_129_148 t
  · refine g3 c_129_54 rfl ?_
    refine g1 c_129_55 k_60 ?_
    refine gcm c_129_57 (gbr t rfl rfl (fun hc t => ?_) (fun hc t => ?_))
    · exact g94 c_129_148 t
    · refine g5 c_129_60 rfl ?_
      obtain ⟨ho, j2, hr, t⟩ := t
      refine g45 c_129_61 ho hr ?_
      refine g3 c_129_64 rfl ?_
      refine g1 c_129_65 k_0 ?_
      exact g80 (As := [.int x3, .int 0]) (rest := []) c_129_66 rfl rfl (Nat.le_of_ble_eq_true rfl) (Nat.le_of_ble_eq_true rfl) t.1 t.2
set_option maxRecDepth 20000 in
theorem t_129_69 {d : Nat} {h : ab_H} {Q : Option Value → ab_H → Prop} {x0 : Nat} {x1 : Nat} {x2 : Nat} {x3 : Int32} {s0 : Int32} (t : ab_ok h x1 108 = true ∧ ∃ j1 : Nat, ab_r h x1 5 = some j1 ∧ ab_ok h x0 109 = true ∧ ∃ j2 : Nat, ab_r h x0 3 = some j2 ∧ ((j2 = 0 ∨ ab_ok h j2 0 = true) ∧ ab_in x3 (ab_s h j2).2 = true) ∧ ab_ok h j1 104 = true ∧ wm d 56 [.ref j1, .int x3, .int 8, .int (ab_i h j2 (Int32.toNatClampNeg x3))] h (fun r9 h9 => wq (d + 1) 129 87 [.ref x0, .ref x1, .ref x2, .int x3, .int s0] (r9.toList ++ []) h9 Q)) : wq (d + 1) 129 69 [.ref x0, .ref x1, .ref x2, .int x3, .retAddr 0] [.int s0] h Q := by
  refine g6 (L' := [.ref x0, .ref x1, .ref x2, .int x3, .int s0]) c_129_69 rfl ?_
  refine g5 c_129_71 rfl ?_
  obtain ⟨ho, j1, hr, t⟩ := t
  refine g45 c_129_72 ho hr ?_
  refine g3 c_129_75 rfl ?_
  refine g1 c_129_76 k_8 ?_
  refine g5 c_129_78 rfl ?_
  obtain ⟨ho, j2, hr, t⟩ := t
  refine g45 c_129_79 ho hr ?_
  refine g3 c_129_82 rfl ?_
  obtain ⟨ho, t⟩ := t
  refine g50 c_129_83 ho ?_
  exact g80 (As := [.int x3, .int 8, .int (ab_i h j2 (Int32.toNatClampNeg x3))]) (rest := []) c_129_84 rfl rfl (Nat.le_of_ble_eq_true rfl) (Nat.le_of_ble_eq_true rfl) t.1 t.2
set_option maxRecDepth 20000 in
theorem t_129_87 {d : Nat} {h : ab_H} {Q : Option Value → ab_H → Prop} {x0 : Nat} {x1 : Nat} {x2 : Nat} {x3 : Int32} {x4 : Int32} (t : ab_ok h x2 110 = true ∧ ∃ j1 : Nat, ab_r h x2 0 = some j1 ∧ ab_ok h x0 109 = true ∧ ∃ j2 : Nat, ab_r h x0 3 = some j2 ∧ ((j2 = 0 ∨ ab_ok h j2 0 = true) ∧ ab_in x3 (ab_s h j2).2 = true) ∧ (ab_ok h j1 0 = true ∧ ab_in x3 (ab_s h j1).2 = true) ∧ ∀ h3 : ab_H, h3 = ab_pi h j1 (Int32.toNatClampNeg x3) (ab_i h j2 (Int32.toNatClampNeg x3)) → ab_ok h3 x2 110 = true ∧ ∃ j4 : Nat, ab_r h3 x2 1 = some j4 ∧ ab_ok h3 x1 108 = true ∧ ∃ j5 : Nat, ab_r h3 x1 5 = some j5 ∧ ab_ok h3 j5 104 = true ∧ wm d 55 [.ref j5, .int x3, .int 4] h3 (fun r9 h9 => wq (d + 1) 129 113 [.ref x0, .ref x1, .ref x2, .int x3, .int x4] (r9.toList ++ [.int x3, .ref j4]) h9 Q)) : wq (d + 1) 129 87 [.ref x0, .ref x1, .ref x2, .int x3, .int x4] [] h Q := by
  refine g5 c_129_87 rfl ?_
  obtain ⟨ho, j1, hr, t⟩ := t
  refine g45 c_129_88 ho hr ?_
  refine g3 c_129_91 rfl ?_
  refine g5 c_129_92 rfl ?_
  obtain ⟨ho, j2, hr, t⟩ := t
  refine g45 c_129_93 ho hr ?_
  refine g3 c_129_96 rfl ?_
  obtain ⟨ho, t⟩ := t
  refine g50 c_129_97 ho ?_
  obtain ⟨ho, t⟩ := t
  refine g54 c_129_98 ho (fun h3 eh3 => ?_)
  have t := t h3 eh3
  refine g5 c_129_99 rfl ?_
  obtain ⟨ho, j4, hr, t⟩ := t
  refine g45 c_129_100 ho hr ?_
  refine g3 c_129_103 rfl ?_
  refine g5 c_129_104 rfl ?_
  obtain ⟨ho, j5, hr, t⟩ := t
  refine g45 c_129_105 ho hr ?_
  refine g3 c_129_108 rfl ?_
  refine g1 c_129_109 k_4 ?_
  exact g80 (As := [.int x3, .int 4]) (rest := [.int x3, .ref j4]) c_129_110 rfl rfl (Nat.le_of_ble_eq_true rfl) (Nat.le_of_ble_eq_true rfl) t.1 t.2
set_option maxRecDepth 20000 in
theorem t_129_113 {d : Nat} {h : ab_H} {Q : Option Value → ab_H → Prop} {x0 : Nat} {x1 : Nat} {x2 : Nat} {x3 : Int32} {x4 : Int32} {s0 : Nat} {s1 : Int32} {s2 : Int32} (t : (ab_ok h s0 0 = true ∧ ab_in s1 (ab_s h s0).2 = true) ∧ ∀ h1 : ab_H, h1 = ab_pi h s0 (Int32.toNatClampNeg s1) s2 → if x4 < 0 then (wq d 129 43 [.ref x0, .ref x1, .ref x2, .int (x3 + 1), .int x4] [] h1 Q) else (if 24 ≤ x4 then (wq d 129 43 [.ref x0, .ref x1, .ref x2, .int (x3 + 1), .int x4] [] h1 Q) else (ab_ok h1 x2 110 = true ∧ ∃ j2 : Nat, ab_r h1 x2 3 = some j2 ∧ ((j2 = 0 ∨ ab_ok h1 j2 0 = true) ∧ ab_in x4 (ab_s h1 j2).2 = true) ∧ ab_ok h1 x0 109 = true ∧ ∃ j3 : Nat, ab_r h1 x0 3 = some j3 ∧ ((j3 = 0 ∨ ab_ok h1 j3 0 = true) ∧ ab_in x3 (ab_s h1 j3).2 = true) ∧ (ab_ok h1 j2 0 = true ∧ ab_in x4 (ab_s h1 j2).2 = true) ∧ ∀ h4 : ab_H, h4 = ab_pi h1 j2 (Int32.toNatClampNeg x4) ((ab_i h1 j2 (Int32.toNatClampNeg x4)) + (ab_i h1 j3 (Int32.toNatClampNeg x3))) → wq d 129 43 [.ref x0, .ref x1, .ref x2, .int (x3 + 1), .int x4] [] h4 Q))) : wq d 129 113 [.ref x0, .ref x1, .ref x2, .int x3, .int x4] [.int s2, .int s1, .ref s0] h Q := by
  obtain ⟨ho, t⟩ := t
  refine g54 c_129_113 ho (fun h1 eh1 => ?_)
  have t := t h1 eh1
  refine g3 c_129_114 rfl ?_
  refine gif c_129_116 (gbr t rfl rfl (fun hc t => ?_) (fun hc t => ?_))
  · refine g9 (L' := [.ref x0, .ref x1, .ref x2, .int (x3 + 1), .int x4]) c_129_142 rfl k_1 rfl ?_
    refine g38 c_129_145 rfl ?_
    exact t
  · refine g3 c_129_119 rfl ?_
    refine g1 c_129_121 k_24 ?_
    refine gcm c_129_123 (gbr t rfl rfl (fun hc t => ?_) (fun hc t => ?_))
    · refine g9 (L' := [.ref x0, .ref x1, .ref x2, .int (x3 + 1), .int x4]) c_129_142 rfl k_1 rfl ?_
      refine g38 c_129_145 rfl ?_
      exact t
    · refine g5 c_129_126 rfl ?_
      obtain ⟨ho, j2, hr, t⟩ := t
      refine g45 c_129_127 ho hr ?_
      refine g3 c_129_130 rfl ?_
      refine g34a c_129_132 ?_
      obtain ⟨ho, t⟩ := t
      refine g50 c_129_133 ho ?_
      refine g5 c_129_134 rfl ?_
      obtain ⟨ho, j3, hr, t⟩ := t
      refine g45 c_129_135 ho hr ?_
      refine g3 c_129_138 rfl ?_
      obtain ⟨ho, t⟩ := t
      refine g50 c_129_139 ho ?_
      refine g10 c_129_140 ?_
      obtain ⟨ho, t⟩ := t
      refine g54 c_129_141 ho (fun h4 eh4 => ?_)
      have t := t h4 eh4
      refine g9 (L' := [.ref x0, .ref x1, .ref x2, .int (x3 + 1), .int x4]) c_129_142 rfl k_1 rfl ?_
      refine g38 c_129_145 rfl ?_
      exact t
-- method 130: MillTown$Week.keepHomes(LMillTown$Town;LMillTown$WeekBook;)V
theorem c_130_0 : pg_cd 130 0 = (5, 1, 0, 2, 0) := by decide +kernel
theorem c_130_1 : pg_cd 130 1 = (5, 1, 0, 1, 0) := by decide +kernel
theorem c_130_2 : pg_cd 130 2 = (1, 1, 0, 0, 1) := by decide +kernel
theorem c_130_3 : pg_cd 130 3 = (5, 1, 0, 1, 0) := by decide +kernel
theorem c_130_4 : pg_cd 130 4 = (43, 8, 48, 8, 0) := by decide +kernel
theorem c_130_7 : pg_cd 130 7 = (80, 90, 92, 0, 0) := by decide +kernel
theorem c_130_10 : pg_cd 130 10 = (46, 10, 241, 8, 0) := by decide +kernel
theorem c_130_13 : pg_cd 130 13 = (1, 1, 0, 0, 0) := by decide +kernel
theorem c_130_14 : pg_cd 130 14 = (6, 1, 0, 3, 0) := by decide +kernel
theorem c_130_15 : pg_cd 130 15 = (3, 1, 0, 3, 0) := by decide +kernel
theorem c_130_16 : pg_cd 130 16 = (5, 1, 0, 1, 0) := by decide +kernel
theorem c_130_17 : pg_cd 130 17 = (45, 8, 244, 4, 0) := by decide +kernel
theorem c_130_20 : pg_cd 130 20 = (43, 4, 121, 2, 0) := by decide +kernel
theorem c_130_23 : pg_cd 130 23 = (37, 3, 0, 3, 117) := by decide +kernel
theorem c_130_26 : pg_cd 130 26 = (3, 1, 0, 3, 0) := by decide +kernel
theorem c_130_27 : pg_cd 130 27 = (1, 2, 0, 0, 24) := by decide +kernel
theorem c_130_29 : pg_cd 130 29 = (37, 3, 0, 3, 111) := by decide +kernel
theorem c_130_32 : pg_cd 130 32 = (5, 1, 0, 1, 0) := by decide +kernel
theorem c_130_33 : pg_cd 130 33 = (45, 8, 244, 4, 0) := by decide +kernel
theorem c_130_36 : pg_cd 130 36 = (3, 1, 0, 3, 0) := by decide +kernel
theorem c_130_37 : pg_cd 130 37 = (1, 1, 0, 0, 2) := by decide +kernel
theorem c_130_38 : pg_cd 130 38 = (80, 55, 118, 0, 0) := by decide +kernel
theorem c_130_41 : pg_cd 130 41 = (36, 3, 0, 1, 10) := by decide +kernel
theorem c_130_44 : pg_cd 130 44 = (5, 1, 0, 0, 0) := by decide +kernel
theorem c_130_45 : pg_cd 130 45 = (5, 1, 0, 1, 0) := by decide +kernel
theorem c_130_46 : pg_cd 130 46 = (5, 1, 0, 2, 0) := by decide +kernel
theorem c_130_47 : pg_cd 130 47 = (3, 1, 0, 3, 0) := by decide +kernel
theorem c_130_48 : pg_cd 130 48 = (80, 131, 247, 0, 0) := by decide +kernel
theorem c_130_51 : pg_cd 130 51 = (5, 1, 0, 1, 0) := by decide +kernel
theorem c_130_52 : pg_cd 130 52 = (45, 8, 244, 4, 0) := by decide +kernel
theorem c_130_55 : pg_cd 130 55 = (3, 1, 0, 3, 0) := by decide +kernel
theorem c_130_56 : pg_cd 130 56 = (1, 1, 0, 0, 5) := by decide +kernel
theorem c_130_57 : pg_cd 130 57 = (5, 1, 0, 2, 0) := by decide +kernel
theorem c_130_58 : pg_cd 130 58 = (45, 10, 239, 3, 0) := by decide +kernel
theorem c_130_61 : pg_cd 130 61 = (3, 1, 0, 3, 0) := by decide +kernel
theorem c_130_62 : pg_cd 130 62 = (50, 1, 0, 0, 0) := by decide +kernel
theorem c_130_63 : pg_cd 130 63 = (80, 56, 171, 0, 0) := by decide +kernel
theorem c_130_66 : pg_cd 130 66 = (5, 1, 0, 1, 0) := by decide +kernel
theorem c_130_67 : pg_cd 130 67 = (45, 8, 244, 4, 0) := by decide +kernel
theorem c_130_70 : pg_cd 130 70 = (3, 1, 0, 3, 0) := by decide +kernel
theorem c_130_71 : pg_cd 130 71 = (1, 2, 0, 0, 6) := by decide +kernel
theorem c_130_73 : pg_cd 130 73 = (5, 1, 0, 2, 0) := by decide +kernel
theorem c_130_74 : pg_cd 130 74 = (45, 10, 251, 4, 0) := by decide +kernel
theorem c_130_77 : pg_cd 130 77 = (3, 1, 0, 3, 0) := by decide +kernel
theorem c_130_78 : pg_cd 130 78 = (50, 1, 0, 0, 0) := by decide +kernel
theorem c_130_79 : pg_cd 130 79 = (80, 56, 171, 0, 0) := by decide +kernel
theorem c_130_82 : pg_cd 130 82 = (5, 1, 0, 2, 0) := by decide +kernel
theorem c_130_83 : pg_cd 130 83 = (33, 1, 0, 0, 0) := by decide +kernel
theorem c_130_84 : pg_cd 130 84 = (43, 10, 253, 7, 0) := by decide +kernel
theorem c_130_87 : pg_cd 130 87 = (5, 1, 0, 2, 0) := by decide +kernel
theorem c_130_88 : pg_cd 130 88 = (45, 10, 256, 5, 0) := by decide +kernel
theorem c_130_91 : pg_cd 130 91 = (3, 1, 0, 3, 0) := by decide +kernel
theorem c_130_92 : pg_cd 130 92 = (50, 1, 0, 0, 0) := by decide +kernel
theorem c_130_93 : pg_cd 130 93 = (5, 1, 0, 2, 0) := by decide +kernel
theorem c_130_94 : pg_cd 130 94 = (45, 10, 259, 6, 0) := by decide +kernel
theorem c_130_97 : pg_cd 130 97 = (3, 1, 0, 3, 0) := by decide +kernel
theorem c_130_98 : pg_cd 130 98 = (50, 1, 0, 0, 0) := by decide +kernel
theorem c_130_99 : pg_cd 130 99 = (10, 1, 0, 0, 0) := by decide +kernel
theorem c_130_100 : pg_cd 130 100 = (10, 1, 0, 0, 0) := by decide +kernel
theorem c_130_101 : pg_cd 130 101 = (46, 10, 253, 7, 0) := by decide +kernel
theorem c_130_104 : pg_cd 130 104 = (5, 1, 0, 0, 0) := by decide +kernel
theorem c_130_105 : pg_cd 130 105 = (33, 1, 0, 0, 0) := by decide +kernel
theorem c_130_106 : pg_cd 130 106 = (43, 9, 35, 6, 0) := by decide +kernel
theorem c_130_109 : pg_cd 130 109 = (5, 1, 0, 2, 0) := by decide +kernel
theorem c_130_110 : pg_cd 130 110 = (45, 10, 239, 3, 0) := by decide +kernel
theorem c_130_113 : pg_cd 130 113 = (3, 1, 0, 3, 0) := by decide +kernel
theorem c_130_114 : pg_cd 130 114 = (50, 1, 0, 0, 0) := by decide +kernel
theorem c_130_115 : pg_cd 130 115 = (10, 1, 0, 0, 0) := by decide +kernel
theorem c_130_116 : pg_cd 130 116 = (46, 9, 35, 6, 0) := by decide +kernel
theorem c_130_119 : pg_cd 130 119 = (5, 1, 0, 0, 0) := by decide +kernel
theorem c_130_120 : pg_cd 130 120 = (33, 1, 0, 0, 0) := by decide +kernel
theorem c_130_121 : pg_cd 130 121 = (43, 9, 39, 7, 0) := by decide +kernel
theorem c_130_124 : pg_cd 130 124 = (5, 1, 0, 2, 0) := by decide +kernel
theorem c_130_125 : pg_cd 130 125 = (45, 10, 251, 4, 0) := by decide +kernel
theorem c_130_128 : pg_cd 130 128 = (3, 1, 0, 3, 0) := by decide +kernel
theorem c_130_129 : pg_cd 130 129 = (50, 1, 0, 0, 0) := by decide +kernel
theorem c_130_130 : pg_cd 130 130 = (10, 1, 0, 0, 0) := by decide +kernel
theorem c_130_131 : pg_cd 130 131 = (46, 9, 39, 7, 0) := by decide +kernel
theorem c_130_134 : pg_cd 130 134 = (9, 3, 0, 3, 1) := by decide +kernel
theorem c_130_137 : pg_cd 130 137 = (38, 3, 0, 0, (-122)) := by decide +kernel
theorem c_130_140 : pg_cd 130 140 = (5, 1, 0, 1, 0) := by decide +kernel
theorem c_130_141 : pg_cd 130 141 = (33, 1, 0, 0, 0) := by decide +kernel
theorem c_130_142 : pg_cd 130 142 = (43, 8, 262, 10, 0) := by decide +kernel
theorem c_130_145 : pg_cd 130 145 = (5, 1, 0, 2, 0) := by decide +kernel
theorem c_130_146 : pg_cd 130 146 = (43, 10, 253, 7, 0) := by decide +kernel
theorem c_130_149 : pg_cd 130 149 = (10, 1, 0, 0, 0) := by decide +kernel
theorem c_130_150 : pg_cd 130 150 = (46, 8, 262, 10, 0) := by decide +kernel
theorem c_130_153 : pg_cd 130 153 = (94, 0, 0, 0, 0) := by decide +kernel
theorem mx_130 : pg_mx 130 = 4 := by decide +kernel
theorem m_130 {d : Nat} {h : ab_H} {Q : Option Value → ab_H → Prop} {x0 : Nat} {x1 : Nat} {x2 : Nat} (t : wq d 130 0 [.ref x0, .ref x1, .ref x2, .retAddr 0] [] h Q) : wm d 130 [.ref x0, .ref x1, .ref x2] h Q := by
  unfold wm
  rw [mx_130]
  exact t
set_option maxRecDepth 20000 in
theorem t_130_0 {d : Nat} {h : ab_H} {Q : Option Value → ab_H → Prop} {x0 : Nat} {x1 : Nat} {x2 : Nat} (t : ab_ok h x1 108 = true ∧ ab_ok h x1 108 = true ∧ wm d 90 [.ref x1, .int 1, .int (ab_i h x1 8)] h (fun r9 h9 => wq (d + 1) 130 10 [.ref x0, .ref x1, .ref x2, .retAddr 0] (r9.toList ++ [.ref x2]) h9 Q)) : wq (d + 1) 130 0 [.ref x0, .ref x1, .ref x2, .retAddr 0] [] h Q := by
  refine g5 c_130_0 rfl ?_
  refine g5 c_130_1 rfl ?_
  refine g1 c_130_2 k_1 ?_
  refine g5 c_130_3 rfl ?_
  obtain ⟨ho, t⟩ := t
  refine g43 c_130_4 ho ?_
  exact g80 (As := [.int 1, .int (ab_i h x1 8)]) (rest := [.ref x2]) c_130_7 rfl rfl (Nat.le_of_ble_eq_true rfl) (Nat.le_of_ble_eq_true rfl) t.1 t.2
set_option maxRecDepth 20000 in
theorem t_130_10 {d : Nat} {h : ab_H} {Q : Option Value → ab_H → Prop} {x0 : Nat} {x1 : Nat} {x2 : Nat} {s0 : Nat} {s1 : Int32} (t : ab_ok h s0 110 = true ∧ ∀ h1 : ab_H, h1 = ab_pi h s0 8 s1 → wq d 130 15 [.ref x0, .ref x1, .ref x2, .int 0] [] h1 Q) : wq d 130 10 [.ref x0, .ref x1, .ref x2, .retAddr 0] [.int s1, .ref s0] h Q := by
  obtain ⟨ho, t⟩ := t
  refine g46 c_130_10 ho (fun h1 eh1 => ?_)
  have t := t h1 eh1
  refine g1 c_130_13 k_0 ?_
  refine g6 (L' := [.ref x0, .ref x1, .ref x2, .int 0]) c_130_14 rfl ?_
  exact t
set_option maxRecDepth 20000 in
theorem t_130_15 {d : Nat} {h : ab_H} {Q : Option Value → ab_H → Prop} {x0 : Nat} {x1 : Nat} {x2 : Nat} {x3 : Int32} (t : ab_ok h x1 108 = true ∧ ∃ j1 : Nat, ab_r h x1 4 = some j1 ∧ ab_ok h j1 104 = true ∧ if (ab_i h j1 2) ≤ x3 then (ab_ok h x1 108 = true ∧ ab_ok h x2 110 = true ∧ ab_ok h x1 108 = true ∧ ∀ h2 : ab_H, h2 = ab_pi h x1 10 ((ab_i h x1 10) + (ab_i h x2 7)) → Q none h2) else (if 24 ≤ x3 then (ab_ok h x1 108 = true ∧ ab_ok h x2 110 = true ∧ ab_ok h x1 108 = true ∧ ∀ h3 : ab_H, h3 = ab_pi h x1 10 ((ab_i h x1 10) + (ab_i h x2 7)) → Q none h3) else (ab_ok h x1 108 = true ∧ ∃ j4 : Nat, ab_r h x1 4 = some j4 ∧ ab_ok h j4 104 = true ∧ wm d 55 [.ref j4, .int x3, .int 2] h (fun r9 h9 => wq (d + 1) 130 41 [.ref x0, .ref x1, .ref x2, .int x3] (r9.toList ++ []) h9 Q)))) : wq (d + 1) 130 15 [.ref x0, .ref x1, .ref x2, .int x3] [] h Q := by
  refine g3 c_130_15 rfl ?_
  refine g5 c_130_16 rfl ?_
  obtain ⟨ho, j1, hr, t⟩ := t
  refine g45 c_130_17 ho hr ?_
  obtain ⟨ho, t⟩ := t
  refine g43 c_130_20 ho ?_
  refine gcm c_130_23 (gbr t rfl rfl (fun hc t => ?_) (fun hc t => ?_))
  · refine g5 c_130_140 rfl ?_
    refine g33a c_130_141 ?_
    obtain ⟨ho, t⟩ := t
    refine g43 c_130_142 ho ?_
    refine g5 c_130_145 rfl ?_
    obtain ⟨ho, t⟩ := t
    refine g43 c_130_146 ho ?_
    refine g10 c_130_149 ?_
    obtain ⟨ho, t⟩ := t
    refine g46 c_130_150 ho (fun h2 eh2 => ?_)
    have t := t h2 eh2
    exact g94 c_130_153 t
  · refine g3 c_130_26 rfl ?_
    refine g1 c_130_27 k_24 ?_
    refine gcm c_130_29 (gbr t rfl rfl (fun hc t => ?_) (fun hc t => ?_))
    · refine g5 c_130_140 rfl ?_
      refine g33a c_130_141 ?_
      obtain ⟨ho, t⟩ := t
      refine g43 c_130_142 ho ?_
      refine g5 c_130_145 rfl ?_
      obtain ⟨ho, t⟩ := t
      refine g43 c_130_146 ho ?_
      refine g10 c_130_149 ?_
      obtain ⟨ho, t⟩ := t
      refine g46 c_130_150 ho (fun h3 eh3 => ?_)
      have t := t h3 eh3
      exact g94 c_130_153 t
    · refine g5 c_130_32 rfl ?_
      obtain ⟨ho, j4, hr, t⟩ := t
      refine g45 c_130_33 ho hr ?_
      refine g3 c_130_36 rfl ?_
      refine g1 c_130_37 k_2 ?_
      exact g80 (As := [.int x3, .int 2]) (rest := []) c_130_38 rfl rfl (Nat.le_of_ble_eq_true rfl) (Nat.le_of_ble_eq_true rfl) t.1 t.2
set_option maxRecDepth 20000 in
theorem t_130_41 {d : Nat} {h : ab_H} {Q : Option Value → ab_H → Prop} {x0 : Nat} {x1 : Nat} {x2 : Nat} {x3 : Int32} {s0 : Int32} (t : if s0 = 0 then (ab_ok h x0 109 = true ∧ wm d 131 [.ref x0, .ref x1, .ref x2, .int x3] h (fun r9 h9 => wq (d + 1) 130 51 [.ref x0, .ref x1, .ref x2, .int x3] (r9.toList ++ []) h9 Q)) else (ab_ok h x1 108 = true ∧ ∃ j1 : Nat, ab_r h x1 4 = some j1 ∧ ab_ok h x2 110 = true ∧ ∃ j2 : Nat, ab_r h x2 3 = some j2 ∧ ((j2 = 0 ∨ ab_ok h j2 0 = true) ∧ ab_in x3 (ab_s h j2).2 = true) ∧ ab_ok h j1 104 = true ∧ wm d 56 [.ref j1, .int x3, .int 5, .int (ab_i h j2 (Int32.toNatClampNeg x3))] h (fun r9 h9 => wq (d + 1) 130 66 [.ref x0, .ref x1, .ref x2, .int x3] (r9.toList ++ []) h9 Q))) : wq (d + 1) 130 41 [.ref x0, .ref x1, .ref x2, .int x3] [.int s0] h Q := by
  refine gif c_130_41 (gbn t (ab_c1 _ _) rfl (fun hc t => ?_) (fun hc t => ?_))
  · refine g5 c_130_44 rfl ?_
    refine g5 c_130_45 rfl ?_
    refine g5 c_130_46 rfl ?_
    refine g3 c_130_47 rfl ?_
    exact g80 (As := [.ref x1, .ref x2, .int x3]) (rest := []) c_130_48 rfl rfl (Nat.le_of_ble_eq_true rfl) (Nat.le_of_ble_eq_true rfl) t.1 t.2
  · refine g5 c_130_51 rfl ?_
    obtain ⟨ho, j1, hr, t⟩ := t
    refine g45 c_130_52 ho hr ?_
    refine g3 c_130_55 rfl ?_
    refine g1 c_130_56 k_5 ?_
    refine g5 c_130_57 rfl ?_
    obtain ⟨ho, j2, hr, t⟩ := t
    refine g45 c_130_58 ho hr ?_
    refine g3 c_130_61 rfl ?_
    obtain ⟨ho, t⟩ := t
    refine g50 c_130_62 ho ?_
    exact g80 (As := [.int x3, .int 5, .int (ab_i h j2 (Int32.toNatClampNeg x3))]) (rest := []) c_130_63 rfl rfl (Nat.le_of_ble_eq_true rfl) (Nat.le_of_ble_eq_true rfl) t.1 t.2
set_option maxRecDepth 20000 in
theorem t_130_51 {d : Nat} {h : ab_H} {Q : Option Value → ab_H → Prop} {x0 : Nat} {x1 : Nat} {x2 : Nat} {x3 : Int32} (t : ab_ok h x1 108 = true ∧ ∃ j1 : Nat, ab_r h x1 4 = some j1 ∧ ab_ok h x2 110 = true ∧ ∃ j2 : Nat, ab_r h x2 3 = some j2 ∧ ((j2 = 0 ∨ ab_ok h j2 0 = true) ∧ ab_in x3 (ab_s h j2).2 = true) ∧ ab_ok h j1 104 = true ∧ wm d 56 [.ref j1, .int x3, .int 5, .int (ab_i h j2 (Int32.toNatClampNeg x3))] h (fun r9 h9 => wq (d + 1) 130 66 [.ref x0, .ref x1, .ref x2, .int x3] (r9.toList ++ []) h9 Q)) : wq (d + 1) 130 51 [.ref x0, .ref x1, .ref x2, .int x3] [] h Q := by
  refine g5 c_130_51 rfl ?_
  obtain ⟨ho, j1, hr, t⟩ := t
  refine g45 c_130_52 ho hr ?_
  refine g3 c_130_55 rfl ?_
  refine g1 c_130_56 k_5 ?_
  refine g5 c_130_57 rfl ?_
  obtain ⟨ho, j2, hr, t⟩ := t
  refine g45 c_130_58 ho hr ?_
  refine g3 c_130_61 rfl ?_
  obtain ⟨ho, t⟩ := t
  refine g50 c_130_62 ho ?_
  exact g80 (As := [.int x3, .int 5, .int (ab_i h j2 (Int32.toNatClampNeg x3))]) (rest := []) c_130_63 rfl rfl (Nat.le_of_ble_eq_true rfl) (Nat.le_of_ble_eq_true rfl) t.1 t.2
set_option maxRecDepth 20000 in
theorem t_130_66 {d : Nat} {h : ab_H} {Q : Option Value → ab_H → Prop} {x0 : Nat} {x1 : Nat} {x2 : Nat} {x3 : Int32} (t : ab_ok h x1 108 = true ∧ ∃ j1 : Nat, ab_r h x1 4 = some j1 ∧ ab_ok h x2 110 = true ∧ ∃ j2 : Nat, ab_r h x2 4 = some j2 ∧ ((j2 = 0 ∨ ab_ok h j2 0 = true) ∧ ab_in x3 (ab_s h j2).2 = true) ∧ ab_ok h j1 104 = true ∧ wm d 56 [.ref j1, .int x3, .int 6, .int (ab_i h j2 (Int32.toNatClampNeg x3))] h (fun r9 h9 => wq (d + 1) 130 82 [.ref x0, .ref x1, .ref x2, .int x3] (r9.toList ++ []) h9 Q)) : wq (d + 1) 130 66 [.ref x0, .ref x1, .ref x2, .int x3] [] h Q := by
  refine g5 c_130_66 rfl ?_
  obtain ⟨ho, j1, hr, t⟩ := t
  refine g45 c_130_67 ho hr ?_
  refine g3 c_130_70 rfl ?_
  refine g1 c_130_71 k_6 ?_
  refine g5 c_130_73 rfl ?_
  obtain ⟨ho, j2, hr, t⟩ := t
  refine g45 c_130_74 ho hr ?_
  refine g3 c_130_77 rfl ?_
  obtain ⟨ho, t⟩ := t
  refine g50 c_130_78 ho ?_
  exact g80 (As := [.int x3, .int 6, .int (ab_i h j2 (Int32.toNatClampNeg x3))]) (rest := []) c_130_79 rfl rfl (Nat.le_of_ble_eq_true rfl) (Nat.le_of_ble_eq_true rfl) t.1 t.2
set_option maxRecDepth 20000 in
theorem t_130_82 {d : Nat} {h : ab_H} {Q : Option Value → ab_H → Prop} {x0 : Nat} {x1 : Nat} {x2 : Nat} {x3 : Int32} (t : ab_ok h x2 110 = true ∧ ab_ok h x2 110 = true ∧ ∃ j1 : Nat, ab_r h x2 5 = some j1 ∧ ((j1 = 0 ∨ ab_ok h j1 0 = true) ∧ ab_in x3 (ab_s h j1).2 = true) ∧ ab_ok h x2 110 = true ∧ ∃ j2 : Nat, ab_r h x2 6 = some j2 ∧ ((j2 = 0 ∨ ab_ok h j2 0 = true) ∧ ab_in x3 (ab_s h j2).2 = true) ∧ ab_ok h x2 110 = true ∧ ∀ h3 : ab_H, h3 = ab_pi h x2 7 ((ab_i h x2 7) + ((ab_i h j1 (Int32.toNatClampNeg x3)) + (ab_i h j2 (Int32.toNatClampNeg x3)))) → ab_ok h3 x0 109 = true ∧ ab_ok h3 x2 110 = true ∧ ∃ j4 : Nat, ab_r h3 x2 3 = some j4 ∧ ((j4 = 0 ∨ ab_ok h3 j4 0 = true) ∧ ab_in x3 (ab_s h3 j4).2 = true) ∧ ab_ok h3 x0 109 = true ∧ ∀ h5 : ab_H, h5 = ab_pi h3 x0 6 ((ab_i h3 x0 6) + (ab_i h3 j4 (Int32.toNatClampNeg x3))) → ab_ok h5 x0 109 = true ∧ ab_ok h5 x2 110 = true ∧ ∃ j6 : Nat, ab_r h5 x2 4 = some j6 ∧ ((j6 = 0 ∨ ab_ok h5 j6 0 = true) ∧ ab_in x3 (ab_s h5 j6).2 = true) ∧ ab_ok h5 x0 109 = true ∧ ∀ h7 : ab_H, h7 = ab_pi h5 x0 7 ((ab_i h5 x0 7) + (ab_i h5 j6 (Int32.toNatClampNeg x3))) → wq d 130 15 [.ref x0, .ref x1, .ref x2, .int (x3 + 1)] [] h7 Q) : wq d 130 82 [.ref x0, .ref x1, .ref x2, .int x3] [] h Q := by
  refine g5 c_130_82 rfl ?_
  refine g33a c_130_83 ?_
  obtain ⟨ho, t⟩ := t
  refine g43 c_130_84 ho ?_
  refine g5 c_130_87 rfl ?_
  obtain ⟨ho, j1, hr, t⟩ := t
  refine g45 c_130_88 ho hr ?_
  refine g3 c_130_91 rfl ?_
  obtain ⟨ho, t⟩ := t
  refine g50 c_130_92 ho ?_
  refine g5 c_130_93 rfl ?_
  obtain ⟨ho, j2, hr, t⟩ := t
  refine g45 c_130_94 ho hr ?_
  refine g3 c_130_97 rfl ?_
  obtain ⟨ho, t⟩ := t
  refine g50 c_130_98 ho ?_
  refine g10 c_130_99 ?_
  refine g10 c_130_100 ?_
  obtain ⟨ho, t⟩ := t
  refine g46 c_130_101 ho (fun h3 eh3 => ?_)
  have t := t h3 eh3
  refine g5 c_130_104 rfl ?_
  refine g33a c_130_105 ?_
  obtain ⟨ho, t⟩ := t
  refine g43 c_130_106 ho ?_
  refine g5 c_130_109 rfl ?_
  obtain ⟨ho, j4, hr, t⟩ := t
  refine g45 c_130_110 ho hr ?_
  refine g3 c_130_113 rfl ?_
  obtain ⟨ho, t⟩ := t
  refine g50 c_130_114 ho ?_
  refine g10 c_130_115 ?_
  obtain ⟨ho, t⟩ := t
  refine g46 c_130_116 ho (fun h5 eh5 => ?_)
  have t := t h5 eh5
  refine g5 c_130_119 rfl ?_
  refine g33a c_130_120 ?_
  obtain ⟨ho, t⟩ := t
  refine g43 c_130_121 ho ?_
  refine g5 c_130_124 rfl ?_
  obtain ⟨ho, j6, hr, t⟩ := t
  refine g45 c_130_125 ho hr ?_
  refine g3 c_130_128 rfl ?_
  obtain ⟨ho, t⟩ := t
  refine g50 c_130_129 ho ?_
  refine g10 c_130_130 ?_
  obtain ⟨ho, t⟩ := t
  refine g46 c_130_131 ho (fun h7 eh7 => ?_)
  have t := t h7 eh7
  refine g9 (L' := [.ref x0, .ref x1, .ref x2, .int (x3 + 1)]) c_130_134 rfl k_1 rfl ?_
  refine g38 c_130_137 rfl ?_
  exact t
-- method 131: MillTown$Week.buyLoaves(LMillTown$Town;LMillTown$WeekBook;I)V
theorem c_131_0 : pg_cd 131 0 = (3, 1, 0, 3, 0) := by decide +kernel
theorem c_131_1 : pg_cd 131 1 = (36, 3, 0, 2, 16) := by decide +kernel
theorem c_131_4 : pg_cd 131 4 = (3, 1, 0, 3, 0) := by decide +kernel
theorem c_131_5 : pg_cd 131 5 = (1, 2, 0, 0, 24) := by decide +kernel
theorem c_131_7 : pg_cd 131 7 = (37, 3, 0, 3, 10) := by decide +kernel
theorem c_131_10 : pg_cd 131 10 = (5, 1, 0, 2, 0) := by decide +kernel
theorem c_131_11 : pg_cd 131 11 = (43, 10, 241, 8, 0) := by decide +kernel
theorem c_131_14 : pg_cd 131 14 = (36, 3, 0, 4, 4) := by decide +kernel
theorem c_131_17 : pg_cd 131 17 = (94, 0, 0, 0, 0) := by decide +kernel
theorem c_131_18 : pg_cd 131 18 = (5, 1, 0, 1, 0) := by decide +kernel
theorem c_131_19 : pg_cd 131 19 = (45, 8, 244, 4, 0) := by decide +kernel
theorem c_131_22 : pg_cd 131 22 = (3, 1, 0, 3, 0) := by decide +kernel
theorem c_131_23 : pg_cd 131 23 = (1, 1, 0, 0, 3) := by decide +kernel
theorem c_131_24 : pg_cd 131 24 = (80, 55, 118, 0, 0) := by decide +kernel
theorem c_131_27 : pg_cd 131 27 = (6, 2, 0, 4, 0) := by decide +kernel
theorem c_131_29 : pg_cd 131 29 = (5, 1, 0, 1, 0) := by decide +kernel
theorem c_131_30 : pg_cd 131 30 = (45, 8, 244, 4, 0) := by decide +kernel
theorem c_131_33 : pg_cd 131 33 = (3, 1, 0, 3, 0) := by decide +kernel
theorem c_131_34 : pg_cd 131 34 = (1, 1, 0, 0, 0) := by decide +kernel
theorem c_131_35 : pg_cd 131 35 = (80, 55, 118, 0, 0) := by decide +kernel
theorem c_131_38 : pg_cd 131 38 = (5, 1, 0, 2, 0) := by decide +kernel
theorem c_131_39 : pg_cd 131 39 = (45, 10, 239, 3, 0) := by decide +kernel
theorem c_131_42 : pg_cd 131 42 = (3, 1, 0, 3, 0) := by decide +kernel
theorem c_131_43 : pg_cd 131 43 = (50, 1, 0, 0, 0) := by decide +kernel
theorem c_131_44 : pg_cd 131 44 = (10, 1, 0, 0, 0) := by decide +kernel
theorem c_131_45 : pg_cd 131 45 = (6, 2, 0, 5, 0) := by decide +kernel
theorem c_131_47 : pg_cd 131 47 = (3, 2, 0, 4, 0) := by decide +kernel
theorem c_131_49 : pg_cd 131 49 = (3, 2, 0, 5, 0) := by decide +kernel
theorem c_131_51 : pg_cd 131 51 = (5, 1, 0, 2, 0) := by decide +kernel
theorem c_131_52 : pg_cd 131 52 = (43, 10, 241, 8, 0) := by decide +kernel
theorem c_131_55 : pg_cd 131 55 = (16, 1, 0, 0, 0) := by decide +kernel
theorem c_131_56 : pg_cd 131 56 = (74, 0, 182, 0, 0) := by decide +kernel
theorem c_131_59 : pg_cd 131 59 = (6, 2, 0, 6, 0) := by decide +kernel
theorem c_131_61 : pg_cd 131 61 = (5, 1, 0, 1, 0) := by decide +kernel
theorem c_131_62 : pg_cd 131 62 = (45, 8, 244, 4, 0) := by decide +kernel
theorem c_131_65 : pg_cd 131 65 = (3, 1, 0, 3, 0) := by decide +kernel
theorem c_131_66 : pg_cd 131 66 = (1, 1, 0, 0, 0) := by decide +kernel
theorem c_131_67 : pg_cd 131 67 = (3, 2, 0, 5, 0) := by decide +kernel
theorem c_131_69 : pg_cd 131 69 = (3, 2, 0, 6, 0) := by decide +kernel
theorem c_131_71 : pg_cd 131 71 = (5, 1, 0, 2, 0) := by decide +kernel
theorem c_131_72 : pg_cd 131 72 = (43, 10, 241, 8, 0) := by decide +kernel
theorem c_131_75 : pg_cd 131 75 = (12, 1, 0, 0, 0) := by decide +kernel
theorem c_131_76 : pg_cd 131 76 = (11, 1, 0, 0, 0) := by decide +kernel
theorem c_131_77 : pg_cd 131 77 = (80, 56, 171, 0, 0) := by decide +kernel
theorem c_131_80 : pg_cd 131 80 = (5, 1, 0, 0, 0) := by decide +kernel
theorem c_131_81 : pg_cd 131 81 = (5, 1, 0, 1, 0) := by decide +kernel
theorem c_131_82 : pg_cd 131 82 = (3, 1, 0, 3, 0) := by decide +kernel
theorem c_131_83 : pg_cd 131 83 = (3, 2, 0, 4, 0) := by decide +kernel
theorem c_131_85 : pg_cd 131 85 = (3, 2, 0, 6, 0) := by decide +kernel
theorem c_131_87 : pg_cd 131 87 = (11, 1, 0, 0, 0) := by decide +kernel
theorem c_131_88 : pg_cd 131 88 = (5, 1, 0, 2, 0) := by decide +kernel
theorem c_131_89 : pg_cd 131 89 = (43, 10, 241, 8, 0) := by decide +kernel
theorem c_131_92 : pg_cd 131 92 = (80, 132, 263, 0, 0) := by decide +kernel
theorem c_131_95 : pg_cd 131 95 = (6, 2, 0, 7, 0) := by decide +kernel
theorem c_131_97 : pg_cd 131 97 = (5, 1, 0, 2, 0) := by decide +kernel
theorem c_131_98 : pg_cd 131 98 = (45, 10, 256, 5, 0) := by decide +kernel
theorem c_131_101 : pg_cd 131 101 = (3, 1, 0, 3, 0) := by decide +kernel
theorem c_131_102 : pg_cd 131 102 = (3, 2, 0, 6, 0) := by decide +kernel
theorem c_131_104 : pg_cd 131 104 = (54, 1, 0, 0, 0) := by decide +kernel
theorem c_131_105 : pg_cd 131 105 = (5, 1, 0, 2, 0) := by decide +kernel
theorem c_131_106 : pg_cd 131 106 = (45, 10, 259, 6, 0) := by decide +kernel
theorem c_131_109 : pg_cd 131 109 = (3, 1, 0, 3, 0) := by decide +kernel
theorem c_131_110 : pg_cd 131 110 = (3, 2, 0, 7, 0) := by decide +kernel
theorem c_131_112 : pg_cd 131 112 = (54, 1, 0, 0, 0) := by decide +kernel
theorem c_131_113 : pg_cd 131 113 = (5, 1, 0, 2, 0) := by decide +kernel
theorem c_131_114 : pg_cd 131 114 = (45, 10, 251, 4, 0) := by decide +kernel
theorem c_131_117 : pg_cd 131 117 = (3, 1, 0, 3, 0) := by decide +kernel
theorem c_131_118 : pg_cd 131 118 = (3, 2, 0, 4, 0) := by decide +kernel
theorem c_131_120 : pg_cd 131 120 = (3, 2, 0, 6, 0) := by decide +kernel
theorem c_131_122 : pg_cd 131 122 = (11, 1, 0, 0, 0) := by decide +kernel
theorem c_131_123 : pg_cd 131 123 = (3, 2, 0, 7, 0) := by decide +kernel
theorem c_131_125 : pg_cd 131 125 = (11, 1, 0, 0, 0) := by decide +kernel
theorem c_131_126 : pg_cd 131 126 = (54, 1, 0, 0, 0) := by decide +kernel
theorem c_131_127 : pg_cd 131 127 = (5, 1, 0, 2, 0) := by decide +kernel
theorem c_131_128 : pg_cd 131 128 = (45, 10, 251, 4, 0) := by decide +kernel
theorem c_131_131 : pg_cd 131 131 = (3, 1, 0, 3, 0) := by decide +kernel
theorem c_131_132 : pg_cd 131 132 = (50, 1, 0, 0, 0) := by decide +kernel
theorem c_131_133 : pg_cd 131 133 = (36, 3, 0, 1, 8) := by decide +kernel
theorem c_131_136 : pg_cd 131 136 = (5, 1, 0, 1, 0) := by decide +kernel
theorem c_131_137 : pg_cd 131 137 = (3, 1, 0, 3, 0) := by decide +kernel
theorem c_131_138 : pg_cd 131 138 = (81, 133, 266, 0, 0) := by decide +kernel
theorem c_131_141 : pg_cd 131 141 = (94, 0, 0, 0, 0) := by decide +kernel
theorem mx_131 : pg_mx 131 = 8 := by decide +kernel
theorem m_131 {d : Nat} {h : ab_H} {Q : Option Value → ab_H → Prop} {x0 : Nat} {x1 : Nat} {x2 : Nat} {x3 : Int32} (t : wq d 131 0 [.ref x0, .ref x1, .ref x2, .int x3, .retAddr 0, .retAddr 0, .retAddr 0, .retAddr 0] [] h Q) : wm d 131 [.ref x0, .ref x1, .ref x2, .int x3] h Q := by
  unfold wm
  rw [mx_131]
  exact t
set_option maxRecDepth 20000 in
theorem t_131_0 {d : Nat} {h : ab_H} {Q : Option Value → ab_H → Prop} {x0 : Nat} {x1 : Nat} {x2 : Nat} {x3 : Int32} (t : if x3 < 0 then (Q none h) else (if 24 ≤ x3 then (Q none h) else (ab_ok h x2 110 = true ∧ if 0 < (ab_i h x2 8) then (ab_ok h x1 108 = true ∧ ∃ j1 : Nat, ab_r h x1 4 = some j1 ∧ ab_ok h j1 104 = true ∧ wm d 55 [.ref j1, .int x3, .int 3] h (fun r9 h9 => wq (d + 1) 131 27 [.ref x0, .ref x1, .ref x2, .int x3, .retAddr 0, .retAddr 0, .retAddr 0, .retAddr 0] (r9.toList ++ []) h9 Q)) else (Q none h)))) : wq (d + 1) 131 0 [.ref x0, .ref x1, .ref x2, .int x3, .retAddr 0, .retAddr 0, .retAddr 0, .retAddr 0] [] h Q := by
  refine g3 c_131_0 rfl ?_
  refine gif c_131_1 (gbr t rfl rfl (fun hc t => ?_) (fun hc t => ?_))
  · exact g94 c_131_17 t
  · refine g3 c_131_4 rfl ?_
    refine g1 c_131_5 k_24 ?_
    refine gcm c_131_7 (gbr t rfl rfl (fun hc t => ?_) (fun hc t => ?_))
    · exact g94 c_131_17 t
    · refine g5 c_131_10 rfl ?_
      obtain ⟨ho, t⟩ := t
      refine g43 c_131_11 ho ?_
      refine gif c_131_14 (gbr t rfl rfl (fun hc t => ?_) (fun hc t => ?_))
      · refine g5 c_131_18 rfl ?_
        obtain ⟨ho, j1, hr, t⟩ := t
        refine g45 c_131_19 ho hr ?_
        refine g3 c_131_22 rfl ?_
        refine g1 c_131_23 k_3 ?_
        exact g80 (As := [.int x3, .int 3]) (rest := []) c_131_24 rfl rfl (Nat.le_of_ble_eq_true rfl) (Nat.le_of_ble_eq_true rfl) t.1 t.2
      · exact g94 c_131_17 t
set_option maxRecDepth 20000 in
theorem t_131_27 {d : Nat} {h : ab_H} {Q : Option Value → ab_H → Prop} {x0 : Nat} {x1 : Nat} {x2 : Nat} {x3 : Int32} {s0 : Int32} (t : ab_ok h x1 108 = true ∧ ∃ j1 : Nat, ab_r h x1 4 = some j1 ∧ ab_ok h j1 104 = true ∧ wm d 55 [.ref j1, .int x3, .int 0] h (fun r9 h9 => wq (d + 1) 131 38 [.ref x0, .ref x1, .ref x2, .int x3, .int s0, .retAddr 0, .retAddr 0, .retAddr 0] (r9.toList ++ []) h9 Q)) : wq (d + 1) 131 27 [.ref x0, .ref x1, .ref x2, .int x3, .retAddr 0, .retAddr 0, .retAddr 0, .retAddr 0] [.int s0] h Q := by
  refine g6 (L' := [.ref x0, .ref x1, .ref x2, .int x3, .int s0, .retAddr 0, .retAddr 0, .retAddr 0]) c_131_27 rfl ?_
  refine g5 c_131_29 rfl ?_
  obtain ⟨ho, j1, hr, t⟩ := t
  refine g45 c_131_30 ho hr ?_
  refine g3 c_131_33 rfl ?_
  refine g1 c_131_34 k_0 ?_
  exact g80 (As := [.int x3, .int 0]) (rest := []) c_131_35 rfl rfl (Nat.le_of_ble_eq_true rfl) (Nat.le_of_ble_eq_true rfl) t.1 t.2
set_option maxRecDepth 20000 in
theorem t_131_38 {d : Nat} {h : ab_H} {Q : Option Value → ab_H → Prop} {x0 : Nat} {x1 : Nat} {x2 : Nat} {x3 : Int32} {x4 : Int32} {s0 : Int32} (t : ab_ok h x2 110 = true ∧ ∃ j1 : Nat, ab_r h x2 3 = some j1 ∧ ((j1 = 0 ∨ ab_ok h j1 0 = true) ∧ ab_in x3 (ab_s h j1).2 = true) ∧ ∀ y2 : Int32, y2 = (s0 + (ab_i h j1 (Int32.toNatClampNeg x3))) → ab_ok h x2 110 = true ∧ ¬ (ab_i h x2 8 : Int32) = 0 ∧ 7 ≤ (d + 1) ∧ ∀ y3 : Int32, y3 = (if (y2 / (ab_i h x2 8)) < x4 then (y2 / (ab_i h x2 8)) else x4) → ab_ok h x1 108 = true ∧ ∃ j4 : Nat, ab_r h x1 4 = some j4 ∧ ab_ok h x2 110 = true ∧ ab_ok h j4 104 = true ∧ wm d 56 [.ref j4, .int x3, .int 0, .int (y2 - (y3 * (ab_i h x2 8)))] h (fun r9 h9 => wq (d + 1) 131 80 [.ref x0, .ref x1, .ref x2, .int x3, .int x4, .int y2, .int y3, .retAddr 0] (r9.toList ++ []) h9 Q)) : wq (d + 1) 131 38 [.ref x0, .ref x1, .ref x2, .int x3, .int x4, .retAddr 0, .retAddr 0, .retAddr 0] [.int s0] h Q := by
  refine g5 c_131_38 rfl ?_
  obtain ⟨ho, j1, hr, t⟩ := t
  refine g45 c_131_39 ho hr ?_
  refine g3 c_131_42 rfl ?_
  obtain ⟨ho, t⟩ := t
  refine g50 c_131_43 ho ?_
  refine g10 c_131_44 ?_
  refine g6y (Lf := fun y2 => [.ref x0, .ref x1, .ref x2, .int x3, .int x4, .int y2, .retAddr 0, .retAddr 0]) c_131_45 (fun _ => rfl) (fun y2 ey2 => ?_)
  have t := t y2 ey2
  refine g3 c_131_47 rfl ?_
  refine g3 c_131_49 rfl ?_
  refine g5 c_131_51 rfl ?_
  obtain ⟨ho, t⟩ := t
  refine g43 c_131_52 ho ?_
  obtain ⟨hy, t⟩ := t
  refine g16 c_131_55 hy ?_
  obtain ⟨h7, t⟩ := t
  refine g74 c_131_56 (Nat.le_of_ble_eq_true rfl) h7 ?_
  refine g6y (Lf := fun y3 => [.ref x0, .ref x1, .ref x2, .int x3, .int x4, .int y2, .int y3, .retAddr 0]) c_131_59 (fun _ => rfl) (fun y3 ey3 => ?_)
  have t := t y3 ey3
  refine g5 c_131_61 rfl ?_
  obtain ⟨ho, j4, hr, t⟩ := t
  refine g45 c_131_62 ho hr ?_
  refine g3 c_131_65 rfl ?_
  refine g1 c_131_66 k_0 ?_
  refine g3 c_131_67 rfl ?_
  refine g3 c_131_69 rfl ?_
  refine g5 c_131_71 rfl ?_
  obtain ⟨ho, t⟩ := t
  refine g43 c_131_72 ho ?_
  refine g12 c_131_75 ?_
  refine g11 c_131_76 ?_
  exact g80 (As := [.int x3, .int 0, .int (y2 - (y3 * (ab_i h x2 8)))]) (rest := []) c_131_77 rfl rfl (Nat.le_of_ble_eq_true rfl) (Nat.le_of_ble_eq_true rfl) t.1 t.2
set_option maxRecDepth 20000 in
theorem t_131_80 {d : Nat} {h : ab_H} {Q : Option Value → ab_H → Prop} {x0 : Nat} {x1 : Nat} {x2 : Nat} {x3 : Int32} {x4 : Int32} {x5 : Int32} {x6 : Int32} (t : ab_ok h x2 110 = true ∧ ab_ok h x0 109 = true ∧ wm d 132 [.ref x0, .ref x1, .int x3, .int (x4 - x6), .int (ab_i h x2 8)] h (fun r9 h9 => wq (d + 1) 131 95 [.ref x0, .ref x1, .ref x2, .int x3, .int x4, .int x5, .int x6, .retAddr 0] (r9.toList ++ []) h9 Q)) : wq (d + 1) 131 80 [.ref x0, .ref x1, .ref x2, .int x3, .int x4, .int x5, .int x6, .retAddr 0] [] h Q := by
  refine g5 c_131_80 rfl ?_
  refine g5 c_131_81 rfl ?_
  refine g3 c_131_82 rfl ?_
  refine g3 c_131_83 rfl ?_
  refine g3 c_131_85 rfl ?_
  refine g11 c_131_87 ?_
  refine g5 c_131_88 rfl ?_
  obtain ⟨ho, t⟩ := t
  refine g43 c_131_89 ho ?_
  exact g80 (As := [.ref x1, .int x3, .int (x4 - x6), .int (ab_i h x2 8)]) (rest := []) c_131_92 rfl rfl (Nat.le_of_ble_eq_true rfl) (Nat.le_of_ble_eq_true rfl) t.1 t.2
set_option maxRecDepth 20000 in
theorem t_131_95 {d : Nat} {h : ab_H} {Q : Option Value → ab_H → Prop} {x0 : Nat} {x1 : Nat} {x2 : Nat} {x3 : Int32} {x4 : Int32} {x5 : Int32} {x6 : Int32} {s0 : Int32} (t : ab_ok h x2 110 = true ∧ ∃ j1 : Nat, ab_r h x2 5 = some j1 ∧ (ab_ok h j1 0 = true ∧ ab_in x3 (ab_s h j1).2 = true) ∧ ∀ h2 : ab_H, h2 = ab_pi h j1 (Int32.toNatClampNeg x3) x6 → ab_ok h2 x2 110 = true ∧ ∃ j3 : Nat, ab_r h2 x2 6 = some j3 ∧ (ab_ok h2 j3 0 = true ∧ ab_in x3 (ab_s h2 j3).2 = true) ∧ ∀ h4 : ab_H, h4 = ab_pi h2 j3 (Int32.toNatClampNeg x3) s0 → ab_ok h4 x2 110 = true ∧ ∃ j5 : Nat, ab_r h4 x2 4 = some j5 ∧ (ab_ok h4 j5 0 = true ∧ ab_in x3 (ab_s h4 j5).2 = true) ∧ ∀ h6 : ab_H, h6 = ab_pi h4 j5 (Int32.toNatClampNeg x3) ((x4 - x6) - s0) → ab_ok h6 x2 110 = true ∧ ∃ j7 : Nat, ab_r h6 x2 4 = some j7 ∧ ((j7 = 0 ∨ ab_ok h6 j7 0 = true) ∧ ab_in x3 (ab_s h6 j7).2 = true) ∧ if (ab_i h6 j7 (Int32.toNatClampNeg x3)) = 0 then (wm d 133 [.ref x1, .int x3] h6 (fun r9 h9 => wq (d + 1) 131 141 [.ref x0, .ref x1, .ref x2, .int x3, .int x4, .int x5, .int x6, .int s0] (r9.toList ++ []) h9 Q)) else (Q none h6)) : wq (d + 1) 131 95 [.ref x0, .ref x1, .ref x2, .int x3, .int x4, .int x5, .int x6, .retAddr 0] [.int s0] h Q := by
  refine g6 (L' := [.ref x0, .ref x1, .ref x2, .int x3, .int x4, .int x5, .int x6, .int s0]) c_131_95 rfl ?_
  refine g5 c_131_97 rfl ?_
  obtain ⟨ho, j1, hr, t⟩ := t
  refine g45 c_131_98 ho hr ?_
  refine g3 c_131_101 rfl ?_
  refine g3 c_131_102 rfl ?_
  obtain ⟨ho, t⟩ := t
  refine g54 c_131_104 ho (fun h2 eh2 => ?_)
  have t := t h2 eh2
  refine g5 c_131_105 rfl ?_
  obtain ⟨ho, j3, hr, t⟩ := t
  refine g45 c_131_106 ho hr ?_
  refine g3 c_131_109 rfl ?_
  refine g3 c_131_110 rfl ?_
  obtain ⟨ho, t⟩ := t
  refine g54 c_131_112 ho (fun h4 eh4 => ?_)
  have t := t h4 eh4
  refine g5 c_131_113 rfl ?_
  obtain ⟨ho, j5, hr, t⟩ := t
  refine g45 c_131_114 ho hr ?_
  refine g3 c_131_117 rfl ?_
  refine g3 c_131_118 rfl ?_
  refine g3 c_131_120 rfl ?_
  refine g11 c_131_122 ?_
  refine g3 c_131_123 rfl ?_
  refine g11 c_131_125 ?_
  obtain ⟨ho, t⟩ := t
  refine g54 c_131_126 ho (fun h6 eh6 => ?_)
  have t := t h6 eh6
  refine g5 c_131_127 rfl ?_
  obtain ⟨ho, j7, hr, t⟩ := t
  refine g45 c_131_128 ho hr ?_
  refine g3 c_131_131 rfl ?_
  obtain ⟨ho, t⟩ := t
  refine g50 c_131_132 ho ?_
  refine gif c_131_133 (gbn t (ab_c1 _ _) rfl (fun hc t => ?_) (fun hc t => ?_))
  · refine g5 c_131_136 rfl ?_
    refine g3 c_131_137 rfl ?_
    exact g81 (As := [.ref x1, .int x3]) (rest := []) c_131_138 rfl rfl (Nat.le_of_ble_eq_true rfl) (Nat.le_of_ble_eq_true rfl) t
  · exact g94 c_131_141 t
set_option maxRecDepth 20000 in
theorem t_131_141 {d : Nat} {h : ab_H} {Q : Option Value → ab_H → Prop} {x0 : Nat} {x1 : Nat} {x2 : Nat} {x3 : Int32} {x4 : Int32} {x5 : Int32} {x6 : Int32} {x7 : Int32} (t : Q none h) : wq d 131 141 [.ref x0, .ref x1, .ref x2, .int x3, .int x4, .int x5, .int x6, .int x7] [] h Q := by
  exact g94 c_131_141 t
-- method 132: MillTown$Week.trust(LMillTown$Town;III)I
theorem c_132_0 : pg_cd 132 0 = (5, 1, 0, 1, 0) := by decide +kernel
theorem c_132_1 : pg_cd 132 1 = (45, 8, 244, 4, 0) := by decide +kernel
theorem c_132_4 : pg_cd 132 4 = (3, 1, 0, 2, 0) := by decide +kernel
theorem c_132_5 : pg_cd 132 5 = (1, 2, 0, 0, 7) := by decide +kernel
theorem c_132_7 : pg_cd 132 7 = (80, 55, 118, 0, 0) := by decide +kernel
theorem c_132_10 : pg_cd 132 10 = (6, 2, 0, 5, 0) := by decide +kernel
theorem c_132_12 : pg_cd 132 12 = (2, 1, 0, 0, 0) := by decide +kernel
theorem c_132_13 : pg_cd 132 13 = (7, 2, 0, 6, 0) := by decide +kernel
theorem c_132_15 : pg_cd 132 15 = (5, 1, 0, 1, 0) := by decide +kernel
theorem c_132_16 : pg_cd 132 16 = (43, 8, 48, 8, 0) := by decide +kernel
theorem c_132_19 : pg_cd 132 19 = (1, 1, 0, 0, 3) := by decide +kernel
theorem c_132_20 : pg_cd 132 20 = (11, 1, 0, 0, 0) := by decide +kernel
theorem c_132_21 : pg_cd 132 21 = (6, 2, 0, 8, 0) := by decide +kernel
theorem c_132_23 : pg_cd 132 23 = (3, 2, 0, 8, 0) := by decide +kernel
theorem c_132_25 : pg_cd 132 25 = (5, 1, 0, 1, 0) := by decide +kernel
theorem c_132_26 : pg_cd 132 26 = (43, 8, 48, 8, 0) := by decide +kernel
theorem c_132_29 : pg_cd 132 29 = (37, 3, 0, 4, 25) := by decide +kernel
theorem c_132_32 : pg_cd 132 32 = (4, 2, 0, 6, 0) := by decide +kernel
theorem c_132_34 : pg_cd 132 34 = (5, 1, 0, 0, 0) := by decide +kernel
theorem c_132_35 : pg_cd 132 35 = (45, 9, 21, 1, 0) := by decide +kernel
theorem c_132_38 : pg_cd 132 38 = (3, 2, 0, 8, 0) := by decide +kernel
theorem c_132_40 : pg_cd 132 40 = (3, 1, 0, 2, 0) := by decide +kernel
theorem c_132_41 : pg_cd 132 41 = (80, 3, 269, 0, 0) := by decide +kernel
theorem c_132_44 : pg_cd 132 44 = (31, 1, 0, 0, 0) := by decide +kernel
theorem c_132_45 : pg_cd 132 45 = (22, 1, 0, 0, 0) := by decide +kernel
theorem c_132_46 : pg_cd 132 46 = (7, 2, 0, 6, 0) := by decide +kernel
theorem c_132_48 : pg_cd 132 48 = (9, 3, 0, 8, 1) := by decide +kernel
theorem c_132_51 : pg_cd 132 51 = (38, 3, 0, 0, (-28)) := by decide +kernel
theorem c_132_54 : pg_cd 132 54 = (5, 1, 0, 1, 0) := by decide +kernel
theorem c_132_55 : pg_cd 132 55 = (45, 8, 272, 3, 0) := by decide +kernel
theorem c_132_58 : pg_cd 132 58 = (3, 2, 0, 5, 0) := by decide +kernel
theorem c_132_60 : pg_cd 132 60 = (1, 1, 0, 0, 3) := by decide +kernel
theorem c_132_61 : pg_cd 132 61 = (80, 55, 118, 0, 0) := by decide +kernel
theorem c_132_64 : pg_cd 132 64 = (31, 1, 0, 0, 0) := by decide +kernel
theorem c_132_65 : pg_cd 132 65 = (4, 2, 0, 6, 0) := by decide +kernel
theorem c_132_67 : pg_cd 132 67 = (24, 1, 0, 0, 0) := by decide +kernel
theorem c_132_68 : pg_cd 132 68 = (2, 3, 275, 0, 400) := by decide +kernel
theorem c_132_71 : pg_cd 132 71 = (26, 1, 0, 0, 0) := by decide +kernel
theorem c_132_72 : pg_cd 132 72 = (7, 2, 0, 8, 0) := by decide +kernel
theorem c_132_74 : pg_cd 132 74 = (1, 1, 0, 0, 0) := by decide +kernel
theorem c_132_75 : pg_cd 132 75 = (6, 2, 0, 10, 0) := by decide +kernel
theorem c_132_77 : pg_cd 132 77 = (1, 1, 0, 0, 0) := by decide +kernel
theorem c_132_78 : pg_cd 132 78 = (6, 2, 0, 11, 0) := by decide +kernel
theorem c_132_80 : pg_cd 132 80 = (3, 2, 0, 11, 0) := by decide +kernel
theorem c_132_82 : pg_cd 132 82 = (3, 1, 0, 3, 0) := by decide +kernel
theorem c_132_83 : pg_cd 132 83 = (37, 3, 0, 3, 95) := by decide +kernel
theorem c_132_86 : pg_cd 132 86 = (5, 1, 0, 1, 0) := by decide +kernel
theorem c_132_87 : pg_cd 132 87 = (45, 8, 272, 3, 0) := by decide +kernel
theorem c_132_90 : pg_cd 132 90 = (3, 2, 0, 5, 0) := by decide +kernel
theorem c_132_92 : pg_cd 132 92 = (1, 1, 0, 0, 2) := by decide +kernel
theorem c_132_93 : pg_cd 132 93 = (80, 55, 118, 0, 0) := by decide +kernel
theorem c_132_96 : pg_cd 132 96 = (36, 3, 0, 1, 82) := by decide +kernel
theorem c_132_99 : pg_cd 132 99 = (5, 1, 0, 1, 0) := by decide +kernel
theorem c_132_100 : pg_cd 132 100 = (45, 8, 272, 3, 0) := by decide +kernel
theorem c_132_103 : pg_cd 132 103 = (3, 2, 0, 5, 0) := by decide +kernel
theorem c_132_105 : pg_cd 132 105 = (1, 1, 0, 0, 0) := by decide +kernel
theorem c_132_106 : pg_cd 132 106 = (80, 55, 118, 0, 0) := by decide +kernel
theorem c_132_109 : pg_cd 132 109 = (3, 2, 0, 4, 0) := by decide +kernel
theorem c_132_111 : pg_cd 132 111 = (37, 3, 0, 2, 61) := by decide +kernel
theorem c_132_114 : pg_cd 132 114 = (5, 1, 0, 1, 0) := by decide +kernel
theorem c_132_115 : pg_cd 132 115 = (45, 8, 244, 4, 0) := by decide +kernel
theorem c_132_118 : pg_cd 132 118 = (3, 1, 0, 2, 0) := by decide +kernel
theorem c_132_119 : pg_cd 132 119 = (1, 1, 0, 0, 1) := by decide +kernel
theorem c_132_120 : pg_cd 132 120 = (80, 55, 118, 0, 0) := by decide +kernel
theorem c_132_123 : pg_cd 132 123 = (3, 2, 0, 4, 0) := by decide +kernel
theorem c_132_125 : pg_cd 132 125 = (10, 1, 0, 0, 0) := by decide +kernel
theorem c_132_126 : pg_cd 132 126 = (31, 1, 0, 0, 0) := by decide +kernel
theorem c_132_127 : pg_cd 132 127 = (4, 2, 0, 8, 0) := by decide +kernel
theorem c_132_129 : pg_cd 132 129 = (28, 1, 0, 0, 0) := by decide +kernel
theorem c_132_130 : pg_cd 132 130 = (36, 3, 0, 4, 42) := by decide +kernel
theorem c_132_133 : pg_cd 132 133 = (5, 1, 0, 1, 0) := by decide +kernel
theorem c_132_134 : pg_cd 132 134 = (45, 8, 272, 3, 0) := by decide +kernel
theorem c_132_137 : pg_cd 132 137 = (3, 2, 0, 5, 0) := by decide +kernel
theorem c_132_139 : pg_cd 132 139 = (1, 1, 0, 0, 0) := by decide +kernel
theorem c_132_140 : pg_cd 132 140 = (3, 2, 0, 4, 0) := by decide +kernel
theorem c_132_142 : pg_cd 132 142 = (21, 1, 0, 0, 0) := by decide +kernel
theorem c_132_143 : pg_cd 132 143 = (80, 57, 190, 0, 0) := by decide +kernel
theorem c_132_146 : pg_cd 132 146 = (5, 1, 0, 1, 0) := by decide +kernel
theorem c_132_147 : pg_cd 132 147 = (45, 8, 272, 3, 0) := by decide +kernel
theorem c_132_150 : pg_cd 132 150 = (3, 2, 0, 5, 0) := by decide +kernel
theorem c_132_152 : pg_cd 132 152 = (1, 1, 0, 0, 1) := by decide +kernel
theorem c_132_153 : pg_cd 132 153 = (3, 2, 0, 4, 0) := by decide +kernel
theorem c_132_155 : pg_cd 132 155 = (80, 57, 190, 0, 0) := by decide +kernel
theorem c_132_158 : pg_cd 132 158 = (5, 1, 0, 1, 0) := by decide +kernel
theorem c_132_159 : pg_cd 132 159 = (45, 8, 244, 4, 0) := by decide +kernel
theorem c_132_162 : pg_cd 132 162 = (3, 1, 0, 2, 0) := by decide +kernel
theorem c_132_163 : pg_cd 132 163 = (1, 1, 0, 0, 1) := by decide +kernel
theorem c_132_164 : pg_cd 132 164 = (3, 2, 0, 4, 0) := by decide +kernel
theorem c_132_166 : pg_cd 132 166 = (80, 57, 190, 0, 0) := by decide +kernel
theorem c_132_169 : pg_cd 132 169 = (9, 3, 0, 10, 1) := by decide +kernel
theorem c_132_172 : pg_cd 132 172 = (9, 3, 0, 11, 1) := by decide +kernel
theorem c_132_175 : pg_cd 132 175 = (38, 3, 0, 0, (-95)) := by decide +kernel
theorem c_132_178 : pg_cd 132 178 = (3, 2, 0, 10, 0) := by decide +kernel
theorem c_132_180 : pg_cd 132 180 = (90, 0, 0, 0, 0) := by decide +kernel
theorem mx_132 : pg_mx 132 = 12 := by decide +kernel
theorem m_132 {d : Nat} {h : ab_H} {Q : Option Value → ab_H → Prop} {x0 : Nat} {x1 : Nat} {x2 : Int32} {x3 : Int32} {x4 : Int32} (t : wq d 132 0 [.ref x0, .ref x1, .int x2, .int x3, .int x4, .retAddr 0, .retAddr 0, .retAddr 0, .retAddr 0, .retAddr 0, .retAddr 0, .retAddr 0] [] h Q) : wm d 132 [.ref x0, .ref x1, .int x2, .int x3, .int x4] h Q := by
  unfold wm
  rw [mx_132]
  exact t
set_option maxRecDepth 20000 in
theorem t_132_0 {d : Nat} {h : ab_H} {Q : Option Value → ab_H → Prop} {x0 : Nat} {x1 : Nat} {x2 : Int32} {x3 : Int32} {x4 : Int32} (t : ab_ok h x1 108 = true ∧ ∃ j1 : Nat, ab_r h x1 4 = some j1 ∧ ab_ok h j1 104 = true ∧ wm d 55 [.ref j1, .int x2, .int 7] h (fun r9 h9 => wq (d + 1) 132 10 [.ref x0, .ref x1, .int x2, .int x3, .int x4, .retAddr 0, .retAddr 0, .retAddr 0, .retAddr 0, .retAddr 0, .retAddr 0, .retAddr 0] (r9.toList ++ []) h9 Q)) : wq (d + 1) 132 0 [.ref x0, .ref x1, .int x2, .int x3, .int x4, .retAddr 0, .retAddr 0, .retAddr 0, .retAddr 0, .retAddr 0, .retAddr 0, .retAddr 0] [] h Q := by
  refine g5 c_132_0 rfl ?_
  obtain ⟨ho, j1, hr, t⟩ := t
  refine g45 c_132_1 ho hr ?_
  refine g3 c_132_4 rfl ?_
  refine g1 c_132_5 k_7 ?_
  exact g80 (As := [.int x2, .int 7]) (rest := []) c_132_7 rfl rfl (Nat.le_of_ble_eq_true rfl) (Nat.le_of_ble_eq_true rfl) t.1 t.2
set_option maxRecDepth 20000 in
theorem t_132_10 {d : Nat} {h : ab_H} {Q : Option Value → ab_H → Prop} {x0 : Nat} {x1 : Nat} {x2 : Int32} {x3 : Int32} {x4 : Int32} {s0 : Int32} (t : ab_ok h x1 108 = true ∧ wq d 132 23 [.ref x0, .ref x1, .int x2, .int x3, .int x4, .int s0, .long 0, .retAddr 0, .int ((ab_i h x1 8) - 3), .retAddr 0, .retAddr 0, .retAddr 0] [] h Q) : wq d 132 10 [.ref x0, .ref x1, .int x2, .int x3, .int x4, .retAddr 0, .retAddr 0, .retAddr 0, .retAddr 0, .retAddr 0, .retAddr 0, .retAddr 0] [.int s0] h Q := by
  refine g6 (L' := [.ref x0, .ref x1, .int x2, .int x3, .int x4, .int s0, .retAddr 0, .retAddr 0, .retAddr 0, .retAddr 0, .retAddr 0, .retAddr 0]) c_132_10 rfl ?_
  refine g2 c_132_12 kl_0 ?_
  refine g7 (L' := [.ref x0, .ref x1, .int x2, .int x3, .int x4, .int s0, .long 0, .retAddr 0, .retAddr 0, .retAddr 0, .retAddr 0, .retAddr 0]) c_132_13 rfl ?_
  refine g5 c_132_15 rfl ?_
  obtain ⟨ho, t⟩ := t
  refine g43 c_132_16 ho ?_
  refine g1 c_132_19 k_3 ?_
  refine g11 c_132_20 ?_
  refine g6 (L' := [.ref x0, .ref x1, .int x2, .int x3, .int x4, .int s0, .long 0, .retAddr 0, .int ((ab_i h x1 8) - 3), .retAddr 0, .retAddr 0, .retAddr 0]) c_132_21 rfl ?_
  exact t
set_option maxRecDepth 20000 in
theorem t_132_23 {d : Nat} {h : ab_H} {Q : Option Value → ab_H → Prop} {x0 : Nat} {x1 : Nat} {x2 : Int32} {x3 : Int32} {x4 : Int32} {x5 : Int32} {x6 : Int64} {x8 : Int32} (t : ab_ok h x1 108 = true ∧ if (ab_i h x1 8) < x8 then (ab_ok h x1 108 = true ∧ ∃ j1 : Nat, ab_r h x1 3 = some j1 ∧ ab_ok h j1 104 = true ∧ wm d 55 [.ref j1, .int x5, .int 3] h (fun r9 h9 => wq (d + 1) 132 64 [.ref x0, .ref x1, .int x2, .int x3, .int x4, .int x5, .long x6, .retAddr 0, .int x8, .retAddr 0, .retAddr 0, .retAddr 0] (r9.toList ++ []) h9 Q)) else (ab_ok h x0 109 = true ∧ ∃ j2 : Nat, ab_r h x0 1 = some j2 ∧ ab_ok h j2 100 = true ∧ wm d 3 [.ref j2, .int x8, .int x2] h (fun r9 h9 => wq (d + 1) 132 44 [.ref x0, .ref x1, .int x2, .int x3, .int x4, .int x5, .long x6, .retAddr 0, .int x8, .retAddr 0, .retAddr 0, .retAddr 0] (r9.toList ++ [.long x6]) h9 Q))) : wq (d + 1) 132 23 [.ref x0, .ref x1, .int x2, .int x3, .int x4, .int x5, .long x6, .retAddr 0, .int x8, .retAddr 0, .retAddr 0, .retAddr 0] [] h Q := by
  refine g3 c_132_23 rfl ?_
  refine g5 c_132_25 rfl ?_
  obtain ⟨ho, t⟩ := t
  refine g43 c_132_26 ho ?_
  refine gcm c_132_29 (gbr t rfl rfl (fun hc t => ?_) (fun hc t => ?_))
  · refine g5 c_132_54 rfl ?_
    obtain ⟨ho, j1, hr, t⟩ := t
    refine g45 c_132_55 ho hr ?_
    refine g3 c_132_58 rfl ?_
    refine g1 c_132_60 k_3 ?_
    exact g80 (As := [.int x5, .int 3]) (rest := []) c_132_61 rfl rfl (Nat.le_of_ble_eq_true rfl) (Nat.le_of_ble_eq_true rfl) t.1 t.2
  · refine g4 c_132_32 rfl ?_
    refine g5 c_132_34 rfl ?_
    obtain ⟨ho, j2, hr, t⟩ := t
    refine g45 c_132_35 ho hr ?_
    refine g3 c_132_38 rfl ?_
    refine g3 c_132_40 rfl ?_
    exact g80 (As := [.int x8, .int x2]) (rest := [.long x6]) c_132_41 rfl rfl (Nat.le_of_ble_eq_true rfl) (Nat.le_of_ble_eq_true rfl) t.1 t.2
set_option maxRecDepth 20000 in
theorem t_132_44 {d : Nat} {h : ab_H} {Q : Option Value → ab_H → Prop} {x0 : Nat} {x1 : Nat} {x2 : Int32} {x3 : Int32} {x4 : Int32} {x5 : Int32} {x6 : Int64} {x8 : Int32} {s0 : Int64} {s1 : Int32} (t : wq d 132 23 [.ref x0, .ref x1, .int x2, .int x3, .int x4, .int x5, .long (s0 + (Int32.toInt64 s1)), .retAddr 0, .int (x8 + 1), .retAddr 0, .retAddr 0, .retAddr 0] [] h Q) : wq d 132 44 [.ref x0, .ref x1, .int x2, .int x3, .int x4, .int x5, .long x6, .retAddr 0, .int x8, .retAddr 0, .retAddr 0, .retAddr 0] [.int s1, .long s0] h Q := by
  refine g31 c_132_44 ?_
  refine g22 c_132_45 ?_
  refine g7 (L' := [.ref x0, .ref x1, .int x2, .int x3, .int x4, .int x5, .long (s0 + (Int32.toInt64 s1)), .retAddr 0, .int x8, .retAddr 0, .retAddr 0, .retAddr 0]) c_132_46 rfl ?_
  refine g9 (L' := [.ref x0, .ref x1, .int x2, .int x3, .int x4, .int x5, .long (s0 + (Int32.toInt64 s1)), .retAddr 0, .int (x8 + 1), .retAddr 0, .retAddr 0, .retAddr 0]) c_132_48 rfl k_1 rfl ?_
  refine g38 c_132_51 rfl ?_
  exact t
set_option maxRecDepth 20000 in
theorem t_132_64 {d : Nat} {h : ab_H} {Q : Option Value → ab_H → Prop} {x0 : Nat} {x1 : Nat} {x2 : Int32} {x3 : Int32} {x4 : Int32} {x5 : Int32} {x6 : Int64} {x8 : Int32} {s0 : Int32} (t : ¬ (400 : Int64) = 0 ∧ wq d 132 80 [.ref x0, .ref x1, .int x2, .int x3, .int x4, .int x5, .long x6, .retAddr 0, .long (((Int32.toInt64 s0) * x6) / 400), .retAddr 0, .int 0, .int 0] [] h Q) : wq d 132 64 [.ref x0, .ref x1, .int x2, .int x3, .int x4, .int x5, .long x6, .retAddr 0, .int x8, .retAddr 0, .retAddr 0, .retAddr 0] [.int s0] h Q := by
  refine g31 c_132_64 ?_
  refine g4 c_132_65 rfl ?_
  refine g24 c_132_67 ?_
  refine g2 c_132_68 kl_400 ?_
  obtain ⟨hy, t⟩ := t
  refine g26 c_132_71 hy ?_
  refine g7 (L' := [.ref x0, .ref x1, .int x2, .int x3, .int x4, .int x5, .long x6, .retAddr 0, .long (((Int32.toInt64 s0) * x6) / 400), .retAddr 0, .retAddr 0, .retAddr 0]) c_132_72 rfl ?_
  refine g1 c_132_74 k_0 ?_
  refine g6 (L' := [.ref x0, .ref x1, .int x2, .int x3, .int x4, .int x5, .long x6, .retAddr 0, .long (((Int32.toInt64 s0) * x6) / 400), .retAddr 0, .int 0, .retAddr 0]) c_132_75 rfl ?_
  refine g1 c_132_77 k_0 ?_
  refine g6 (L' := [.ref x0, .ref x1, .int x2, .int x3, .int x4, .int x5, .long x6, .retAddr 0, .long (((Int32.toInt64 s0) * x6) / 400), .retAddr 0, .int 0, .int 0]) c_132_78 rfl ?_
  exact t
set_option maxRecDepth 20000 in
theorem t_132_80 {d : Nat} {h : ab_H} {Q : Option Value → ab_H → Prop} {x0 : Nat} {x1 : Nat} {x2 : Int32} {x3 : Int32} {x4 : Int32} {x5 : Int32} {x6 : Int64} {x8 : Int64} {x10 : Int32} {x11 : Int32} (t : if x3 ≤ x11 then (Q (some (.int x10)) h) else (ab_ok h x1 108 = true ∧ ∃ j1 : Nat, ab_r h x1 3 = some j1 ∧ ab_ok h j1 104 = true ∧ wm d 55 [.ref j1, .int x5, .int 2] h (fun r9 h9 => wq (d + 1) 132 96 [.ref x0, .ref x1, .int x2, .int x3, .int x4, .int x5, .long x6, .retAddr 0, .long x8, .retAddr 0, .int x10, .int x11] (r9.toList ++ []) h9 Q))) : wq (d + 1) 132 80 [.ref x0, .ref x1, .int x2, .int x3, .int x4, .int x5, .long x6, .retAddr 0, .long x8, .retAddr 0, .int x10, .int x11] [] h Q := by
  refine g3 c_132_80 rfl ?_
  refine g3 c_132_82 rfl ?_
  refine gcm c_132_83 (gbr t rfl rfl (fun hc t => ?_) (fun hc t => ?_))
  · refine g3 c_132_178 rfl ?_
    exact g90 c_132_180 t
  · refine g5 c_132_86 rfl ?_
    obtain ⟨ho, j1, hr, t⟩ := t
    refine g45 c_132_87 ho hr ?_
    refine g3 c_132_90 rfl ?_
    refine g1 c_132_92 k_2 ?_
    exact g80 (As := [.int x5, .int 2]) (rest := []) c_132_93 rfl rfl (Nat.le_of_ble_eq_true rfl) (Nat.le_of_ble_eq_true rfl) t.1 t.2
set_option maxRecDepth 20000 in
theorem t_132_96 {d : Nat} {h : ab_H} {Q : Option Value → ab_H → Prop} {x0 : Nat} {x1 : Nat} {x2 : Int32} {x3 : Int32} {x4 : Int32} {x5 : Int32} {x6 : Int64} {x8 : Int64} {x10 : Int32} {x11 : Int32} {s0 : Int32} (t : if s0 = 0 then (ab_ok h x1 108 = true ∧ ∃ j1 : Nat, ab_r h x1 3 = some j1 ∧ ab_ok h j1 104 = true ∧ wm d 55 [.ref j1, .int x5, .int 0] h (fun r9 h9 => wq (d + 1) 132 109 [.ref x0, .ref x1, .int x2, .int x3, .int x4, .int x5, .long x6, .retAddr 0, .long x8, .retAddr 0, .int x10, .int x11] (r9.toList ++ []) h9 Q)) else (Q (some (.int x10)) h)) : wq (d + 1) 132 96 [.ref x0, .ref x1, .int x2, .int x3, .int x4, .int x5, .long x6, .retAddr 0, .long x8, .retAddr 0, .int x10, .int x11] [.int s0] h Q := by
  refine gif c_132_96 (gbn t (ab_c1 _ _) rfl (fun hc t => ?_) (fun hc t => ?_))
  · refine g5 c_132_99 rfl ?_
    obtain ⟨ho, j1, hr, t⟩ := t
    refine g45 c_132_100 ho hr ?_
    refine g3 c_132_103 rfl ?_
    refine g1 c_132_105 k_0 ?_
    exact g80 (As := [.int x5, .int 0]) (rest := []) c_132_106 rfl rfl (Nat.le_of_ble_eq_true rfl) (Nat.le_of_ble_eq_true rfl) t.1 t.2
  · refine g3 c_132_178 rfl ?_
    exact g90 c_132_180 t
set_option maxRecDepth 20000 in
theorem t_132_109 {d : Nat} {h : ab_H} {Q : Option Value → ab_H → Prop} {x0 : Nat} {x1 : Nat} {x2 : Int32} {x3 : Int32} {x4 : Int32} {x5 : Int32} {x6 : Int64} {x8 : Int64} {x10 : Int32} {x11 : Int32} {s0 : Int32} (t : if s0 < x4 then (wq (d + 1) 132 80 [.ref x0, .ref x1, .int x2, .int x3, .int x4, .int x5, .long x6, .retAddr 0, .long x8, .retAddr 0, .int x10, .int (x11 + 1)] [] h Q) else (ab_ok h x1 108 = true ∧ ∃ j1 : Nat, ab_r h x1 4 = some j1 ∧ ab_ok h j1 104 = true ∧ wm d 55 [.ref j1, .int x2, .int 1] h (fun r9 h9 => wq (d + 1) 132 123 [.ref x0, .ref x1, .int x2, .int x3, .int x4, .int x5, .long x6, .retAddr 0, .long x8, .retAddr 0, .int x10, .int x11] (r9.toList ++ []) h9 Q))) : wq (d + 1) 132 109 [.ref x0, .ref x1, .int x2, .int x3, .int x4, .int x5, .long x6, .retAddr 0, .long x8, .retAddr 0, .int x10, .int x11] [.int s0] h Q := by
  refine g3 c_132_109 rfl ?_
  refine gcm c_132_111 (gbr t rfl rfl (fun hc t => ?_) (fun hc t => ?_))
  · refine g9 (L' := [.ref x0, .ref x1, .int x2, .int x3, .int x4, .int x5, .long x6, .retAddr 0, .long x8, .retAddr 0, .int x10, .int (x11 + 1)]) c_132_172 rfl k_1 rfl ?_
    refine g38 c_132_175 rfl ?_
    exact t
  · refine g5 c_132_114 rfl ?_
    obtain ⟨ho, j1, hr, t⟩ := t
    refine g45 c_132_115 ho hr ?_
    refine g3 c_132_118 rfl ?_
    refine g1 c_132_119 k_1 ?_
    exact g80 (As := [.int x2, .int 1]) (rest := []) c_132_120 rfl rfl (Nat.le_of_ble_eq_true rfl) (Nat.le_of_ble_eq_true rfl) t.1 t.2
set_option maxRecDepth 20000 in
theorem t_132_123 {d : Nat} {h : ab_H} {Q : Option Value → ab_H → Prop} {x0 : Nat} {x1 : Nat} {x2 : Int32} {x3 : Int32} {x4 : Int32} {x5 : Int32} {x6 : Int64} {x8 : Int64} {x10 : Int32} {x11 : Int32} {s0 : Int32} (t : if 0 < (lg_cmp (Int32.toInt64 (s0 + x4)) x8) then (wq (d + 1) 132 80 [.ref x0, .ref x1, .int x2, .int x3, .int x4, .int x5, .long x6, .retAddr 0, .long x8, .retAddr 0, .int x10, .int (x11 + 1)] [] h Q) else (ab_ok h x1 108 = true ∧ ∃ j1 : Nat, ab_r h x1 3 = some j1 ∧ ab_ok h j1 104 = true ∧ wm d 57 [.ref j1, .int x5, .int 0, .int (-x4)] h (fun r9 h9 => wq (d + 1) 132 146 [.ref x0, .ref x1, .int x2, .int x3, .int x4, .int x5, .long x6, .retAddr 0, .long x8, .retAddr 0, .int x10, .int x11] (r9.toList ++ []) h9 Q))) : wq (d + 1) 132 123 [.ref x0, .ref x1, .int x2, .int x3, .int x4, .int x5, .long x6, .retAddr 0, .long x8, .retAddr 0, .int x10, .int x11] [.int s0] h Q := by
  refine g3 c_132_123 rfl ?_
  refine g10 c_132_125 ?_
  refine g31 c_132_126 ?_
  refine g4 c_132_127 rfl ?_
  refine g28 c_132_129 ?_
  refine gif c_132_130 (gbr t rfl rfl (fun hc t => ?_) (fun hc t => ?_))
  · refine g9 (L' := [.ref x0, .ref x1, .int x2, .int x3, .int x4, .int x5, .long x6, .retAddr 0, .long x8, .retAddr 0, .int x10, .int (x11 + 1)]) c_132_172 rfl k_1 rfl ?_
    refine g38 c_132_175 rfl ?_
    exact t
  · refine g5 c_132_133 rfl ?_
    obtain ⟨ho, j1, hr, t⟩ := t
    refine g45 c_132_134 ho hr ?_
    refine g3 c_132_137 rfl ?_
    refine g1 c_132_139 k_0 ?_
    refine g3 c_132_140 rfl ?_
    refine g21 c_132_142 ?_
    exact g80 (As := [.int x5, .int 0, .int (-x4)]) (rest := []) c_132_143 rfl rfl (Nat.le_of_ble_eq_true rfl) (Nat.le_of_ble_eq_true rfl) t.1 t.2
set_option maxRecDepth 20000 in
theorem t_132_146 {d : Nat} {h : ab_H} {Q : Option Value → ab_H → Prop} {x0 : Nat} {x1 : Nat} {x2 : Int32} {x3 : Int32} {x4 : Int32} {x5 : Int32} {x6 : Int64} {x8 : Int64} {x10 : Int32} {x11 : Int32} (t : ab_ok h x1 108 = true ∧ ∃ j1 : Nat, ab_r h x1 3 = some j1 ∧ ab_ok h j1 104 = true ∧ wm d 57 [.ref j1, .int x5, .int 1, .int x4] h (fun r9 h9 => wq (d + 1) 132 158 [.ref x0, .ref x1, .int x2, .int x3, .int x4, .int x5, .long x6, .retAddr 0, .long x8, .retAddr 0, .int x10, .int x11] (r9.toList ++ []) h9 Q)) : wq (d + 1) 132 146 [.ref x0, .ref x1, .int x2, .int x3, .int x4, .int x5, .long x6, .retAddr 0, .long x8, .retAddr 0, .int x10, .int x11] [] h Q := by
  refine g5 c_132_146 rfl ?_
  obtain ⟨ho, j1, hr, t⟩ := t
  refine g45 c_132_147 ho hr ?_
  refine g3 c_132_150 rfl ?_
  refine g1 c_132_152 k_1 ?_
  refine g3 c_132_153 rfl ?_
  exact g80 (As := [.int x5, .int 1, .int x4]) (rest := []) c_132_155 rfl rfl (Nat.le_of_ble_eq_true rfl) (Nat.le_of_ble_eq_true rfl) t.1 t.2
set_option maxRecDepth 20000 in
theorem t_132_158 {d : Nat} {h : ab_H} {Q : Option Value → ab_H → Prop} {x0 : Nat} {x1 : Nat} {x2 : Int32} {x3 : Int32} {x4 : Int32} {x5 : Int32} {x6 : Int64} {x8 : Int64} {x10 : Int32} {x11 : Int32} (t : ab_ok h x1 108 = true ∧ ∃ j1 : Nat, ab_r h x1 4 = some j1 ∧ ab_ok h j1 104 = true ∧ wm d 57 [.ref j1, .int x2, .int 1, .int x4] h (fun r9 h9 => wq (d + 1) 132 169 [.ref x0, .ref x1, .int x2, .int x3, .int x4, .int x5, .long x6, .retAddr 0, .long x8, .retAddr 0, .int x10, .int x11] (r9.toList ++ []) h9 Q)) : wq (d + 1) 132 158 [.ref x0, .ref x1, .int x2, .int x3, .int x4, .int x5, .long x6, .retAddr 0, .long x8, .retAddr 0, .int x10, .int x11] [] h Q := by
  refine g5 c_132_158 rfl ?_
  obtain ⟨ho, j1, hr, t⟩ := t
  refine g45 c_132_159 ho hr ?_
  refine g3 c_132_162 rfl ?_
  refine g1 c_132_163 k_1 ?_
  refine g3 c_132_164 rfl ?_
  exact g80 (As := [.int x2, .int 1, .int x4]) (rest := []) c_132_166 rfl rfl (Nat.le_of_ble_eq_true rfl) (Nat.le_of_ble_eq_true rfl) t.1 t.2
set_option maxRecDepth 20000 in
theorem t_132_169 {d : Nat} {h : ab_H} {Q : Option Value → ab_H → Prop} {x0 : Nat} {x1 : Nat} {x2 : Int32} {x3 : Int32} {x4 : Int32} {x5 : Int32} {x6 : Int64} {x8 : Int64} {x10 : Int32} {x11 : Int32} (t : wq d 132 80 [.ref x0, .ref x1, .int x2, .int x3, .int x4, .int x5, .long x6, .retAddr 0, .long x8, .retAddr 0, .int (x10 + 1), .int (x11 + 1)] [] h Q) : wq d 132 169 [.ref x0, .ref x1, .int x2, .int x3, .int x4, .int x5, .long x6, .retAddr 0, .long x8, .retAddr 0, .int x10, .int x11] [] h Q := by
  refine g9 (L' := [.ref x0, .ref x1, .int x2, .int x3, .int x4, .int x5, .long x6, .retAddr 0, .long x8, .retAddr 0, .int (x10 + 1), .int x11]) c_132_169 rfl k_1 rfl ?_
  refine g9 (L' := [.ref x0, .ref x1, .int x2, .int x3, .int x4, .int x5, .long x6, .retAddr 0, .long x8, .retAddr 0, .int (x10 + 1), .int (x11 + 1)]) c_132_172 rfl k_1 rfl ?_
  refine g38 c_132_175 rfl ?_
  exact t
-- method 133: MillTown$Week.payDebt(LMillTown$Town;I)V
theorem c_133_0 : pg_cd 133 0 = (5, 1, 0, 0, 0) := by decide +kernel
theorem c_133_1 : pg_cd 133 1 = (45, 8, 244, 4, 0) := by decide +kernel
theorem c_133_4 : pg_cd 133 4 = (3, 1, 0, 1, 0) := by decide +kernel
theorem c_133_5 : pg_cd 133 5 = (1, 2, 0, 0, 7) := by decide +kernel
theorem c_133_7 : pg_cd 133 7 = (80, 55, 118, 0, 0) := by decide +kernel
theorem c_133_10 : pg_cd 133 10 = (6, 1, 0, 2, 0) := by decide +kernel
theorem c_133_11 : pg_cd 133 11 = (5, 1, 0, 0, 0) := by decide +kernel
theorem c_133_12 : pg_cd 133 12 = (45, 8, 244, 4, 0) := by decide +kernel
theorem c_133_15 : pg_cd 133 15 = (3, 1, 0, 1, 0) := by decide +kernel
theorem c_133_16 : pg_cd 133 16 = (1, 1, 0, 0, 0) := by decide +kernel
theorem c_133_17 : pg_cd 133 17 = (80, 55, 118, 0, 0) := by decide +kernel
theorem c_133_20 : pg_cd 133 20 = (5, 1, 0, 0, 0) := by decide +kernel
theorem c_133_21 : pg_cd 133 21 = (45, 8, 244, 4, 0) := by decide +kernel
theorem c_133_24 : pg_cd 133 24 = (3, 1, 0, 1, 0) := by decide +kernel
theorem c_133_25 : pg_cd 133 25 = (1, 1, 0, 0, 1) := by decide +kernel
theorem c_133_26 : pg_cd 133 26 = (80, 55, 118, 0, 0) := by decide +kernel
theorem c_133_29 : pg_cd 133 29 = (74, 0, 182, 0, 0) := by decide +kernel
theorem c_133_32 : pg_cd 133 32 = (6, 1, 0, 3, 0) := by decide +kernel
theorem c_133_33 : pg_cd 133 33 = (5, 1, 0, 0, 0) := by decide +kernel
theorem c_133_34 : pg_cd 133 34 = (45, 8, 244, 4, 0) := by decide +kernel
theorem c_133_37 : pg_cd 133 37 = (3, 1, 0, 1, 0) := by decide +kernel
theorem c_133_38 : pg_cd 133 38 = (1, 1, 0, 0, 0) := by decide +kernel
theorem c_133_39 : pg_cd 133 39 = (3, 1, 0, 3, 0) := by decide +kernel
theorem c_133_40 : pg_cd 133 40 = (21, 1, 0, 0, 0) := by decide +kernel
theorem c_133_41 : pg_cd 133 41 = (80, 57, 190, 0, 0) := by decide +kernel
theorem c_133_44 : pg_cd 133 44 = (5, 1, 0, 0, 0) := by decide +kernel
theorem c_133_45 : pg_cd 133 45 = (45, 8, 244, 4, 0) := by decide +kernel
theorem c_133_48 : pg_cd 133 48 = (3, 1, 0, 1, 0) := by decide +kernel
theorem c_133_49 : pg_cd 133 49 = (1, 1, 0, 0, 1) := by decide +kernel
theorem c_133_50 : pg_cd 133 50 = (3, 1, 0, 3, 0) := by decide +kernel
theorem c_133_51 : pg_cd 133 51 = (21, 1, 0, 0, 0) := by decide +kernel
theorem c_133_52 : pg_cd 133 52 = (80, 57, 190, 0, 0) := by decide +kernel
theorem c_133_55 : pg_cd 133 55 = (5, 1, 0, 0, 0) := by decide +kernel
theorem c_133_56 : pg_cd 133 56 = (45, 8, 272, 3, 0) := by decide +kernel
theorem c_133_59 : pg_cd 133 59 = (3, 1, 0, 2, 0) := by decide +kernel
theorem c_133_60 : pg_cd 133 60 = (1, 1, 0, 0, 1) := by decide +kernel
theorem c_133_61 : pg_cd 133 61 = (3, 1, 0, 3, 0) := by decide +kernel
theorem c_133_62 : pg_cd 133 62 = (21, 1, 0, 0, 0) := by decide +kernel
theorem c_133_63 : pg_cd 133 63 = (80, 57, 190, 0, 0) := by decide +kernel
theorem c_133_66 : pg_cd 133 66 = (5, 1, 0, 0, 0) := by decide +kernel
theorem c_133_67 : pg_cd 133 67 = (45, 8, 272, 3, 0) := by decide +kernel
theorem c_133_70 : pg_cd 133 70 = (3, 1, 0, 2, 0) := by decide +kernel
theorem c_133_71 : pg_cd 133 71 = (1, 1, 0, 0, 0) := by decide +kernel
theorem c_133_72 : pg_cd 133 72 = (3, 1, 0, 3, 0) := by decide +kernel
theorem c_133_73 : pg_cd 133 73 = (80, 57, 190, 0, 0) := by decide +kernel
theorem c_133_76 : pg_cd 133 76 = (94, 0, 0, 0, 0) := by decide +kernel
theorem mx_133 : pg_mx 133 = 4 := by decide +kernel
theorem m_133 {d : Nat} {h : ab_H} {Q : Option Value → ab_H → Prop} {x0 : Nat} {x1 : Int32} (t : wq d 133 0 [.ref x0, .int x1, .retAddr 0, .retAddr 0] [] h Q) : wm d 133 [.ref x0, .int x1] h Q := by
  unfold wm
  rw [mx_133]
  exact t
set_option maxRecDepth 20000 in
theorem t_133_0 {d : Nat} {h : ab_H} {Q : Option Value → ab_H → Prop} {x0 : Nat} {x1 : Int32} (t : ab_ok h x0 108 = true ∧ ∃ j1 : Nat, ab_r h x0 4 = some j1 ∧ ab_ok h j1 104 = true ∧ wm d 55 [.ref j1, .int x1, .int 7] h (fun r9 h9 => wq (d + 1) 133 10 [.ref x0, .int x1, .retAddr 0, .retAddr 0] (r9.toList ++ []) h9 Q)) : wq (d + 1) 133 0 [.ref x0, .int x1, .retAddr 0, .retAddr 0] [] h Q := by
  refine g5 c_133_0 rfl ?_
  obtain ⟨ho, j1, hr, t⟩ := t
  refine g45 c_133_1 ho hr ?_
  refine g3 c_133_4 rfl ?_
  refine g1 c_133_5 k_7 ?_
  exact g80 (As := [.int x1, .int 7]) (rest := []) c_133_7 rfl rfl (Nat.le_of_ble_eq_true rfl) (Nat.le_of_ble_eq_true rfl) t.1 t.2
set_option maxRecDepth 20000 in
theorem t_133_10 {d : Nat} {h : ab_H} {Q : Option Value → ab_H → Prop} {x0 : Nat} {x1 : Int32} {s0 : Int32} (t : ab_ok h x0 108 = true ∧ ∃ j1 : Nat, ab_r h x0 4 = some j1 ∧ ab_ok h j1 104 = true ∧ wm d 55 [.ref j1, .int x1, .int 0] h (fun r9 h9 => wq (d + 1) 133 20 [.ref x0, .int x1, .int s0, .retAddr 0] (r9.toList ++ []) h9 Q)) : wq (d + 1) 133 10 [.ref x0, .int x1, .retAddr 0, .retAddr 0] [.int s0] h Q := by
  refine g6 (L' := [.ref x0, .int x1, .int s0, .retAddr 0]) c_133_10 rfl ?_
  refine g5 c_133_11 rfl ?_
  obtain ⟨ho, j1, hr, t⟩ := t
  refine g45 c_133_12 ho hr ?_
  refine g3 c_133_15 rfl ?_
  refine g1 c_133_16 k_0 ?_
  exact g80 (As := [.int x1, .int 0]) (rest := []) c_133_17 rfl rfl (Nat.le_of_ble_eq_true rfl) (Nat.le_of_ble_eq_true rfl) t.1 t.2
set_option maxRecDepth 20000 in
theorem t_133_20 {d : Nat} {h : ab_H} {Q : Option Value → ab_H → Prop} {x0 : Nat} {x1 : Int32} {x2 : Int32} {s0 : Int32} (t : ab_ok h x0 108 = true ∧ ∃ j1 : Nat, ab_r h x0 4 = some j1 ∧ ab_ok h j1 104 = true ∧ wm d 55 [.ref j1, .int x1, .int 1] h (fun r9 h9 => wq (d + 1) 133 29 [.ref x0, .int x1, .int x2, .retAddr 0] (r9.toList ++ [.int s0]) h9 Q)) : wq (d + 1) 133 20 [.ref x0, .int x1, .int x2, .retAddr 0] [.int s0] h Q := by
  refine g5 c_133_20 rfl ?_
  obtain ⟨ho, j1, hr, t⟩ := t
  refine g45 c_133_21 ho hr ?_
  refine g3 c_133_24 rfl ?_
  refine g1 c_133_25 k_1 ?_
  exact g80 (As := [.int x1, .int 1]) (rest := [.int s0]) c_133_26 rfl rfl (Nat.le_of_ble_eq_true rfl) (Nat.le_of_ble_eq_true rfl) t.1 t.2
set_option maxRecDepth 20000 in
theorem t_133_29 {d : Nat} {h : ab_H} {Q : Option Value → ab_H → Prop} {x0 : Nat} {x1 : Int32} {x2 : Int32} {s0 : Int32} {s1 : Int32} (t : 7 ≤ (d + 1) ∧ ab_ok h x0 108 = true ∧ ∃ j1 : Nat, ab_r h x0 4 = some j1 ∧ ab_ok h j1 104 = true ∧ wm d 57 [.ref j1, .int x1, .int 0, .int (-(if s1 < s0 then s1 else s0))] h (fun r9 h9 => wq (d + 1) 133 44 [.ref x0, .int x1, .int x2, .int (if s1 < s0 then s1 else s0)] (r9.toList ++ []) h9 Q)) : wq (d + 1) 133 29 [.ref x0, .int x1, .int x2, .retAddr 0] [.int s1, .int s0] h Q := by
  obtain ⟨h7, t⟩ := t
  refine g74 c_133_29 (Nat.le_of_ble_eq_true rfl) h7 ?_
  refine g6 (L' := [.ref x0, .int x1, .int x2, .int (if s1 < s0 then s1 else s0)]) c_133_32 rfl ?_
  refine g5 c_133_33 rfl ?_
  obtain ⟨ho, j1, hr, t⟩ := t
  refine g45 c_133_34 ho hr ?_
  refine g3 c_133_37 rfl ?_
  refine g1 c_133_38 k_0 ?_
  refine g3 c_133_39 rfl ?_
  refine g21 c_133_40 ?_
  exact g80 (As := [.int x1, .int 0, .int (-(if s1 < s0 then s1 else s0))]) (rest := []) c_133_41 rfl rfl (Nat.le_of_ble_eq_true rfl) (Nat.le_of_ble_eq_true rfl) t.1 t.2
set_option maxRecDepth 20000 in
theorem t_133_44 {d : Nat} {h : ab_H} {Q : Option Value → ab_H → Prop} {x0 : Nat} {x1 : Int32} {x2 : Int32} {x3 : Int32} (t : ab_ok h x0 108 = true ∧ ∃ j1 : Nat, ab_r h x0 4 = some j1 ∧ ab_ok h j1 104 = true ∧ wm d 57 [.ref j1, .int x1, .int 1, .int (-x3)] h (fun r9 h9 => wq (d + 1) 133 55 [.ref x0, .int x1, .int x2, .int x3] (r9.toList ++ []) h9 Q)) : wq (d + 1) 133 44 [.ref x0, .int x1, .int x2, .int x3] [] h Q := by
  refine g5 c_133_44 rfl ?_
  obtain ⟨ho, j1, hr, t⟩ := t
  refine g45 c_133_45 ho hr ?_
  refine g3 c_133_48 rfl ?_
  refine g1 c_133_49 k_1 ?_
  refine g3 c_133_50 rfl ?_
  refine g21 c_133_51 ?_
  exact g80 (As := [.int x1, .int 1, .int (-x3)]) (rest := []) c_133_52 rfl rfl (Nat.le_of_ble_eq_true rfl) (Nat.le_of_ble_eq_true rfl) t.1 t.2
set_option maxRecDepth 20000 in
theorem t_133_55 {d : Nat} {h : ab_H} {Q : Option Value → ab_H → Prop} {x0 : Nat} {x1 : Int32} {x2 : Int32} {x3 : Int32} (t : ab_ok h x0 108 = true ∧ ∃ j1 : Nat, ab_r h x0 3 = some j1 ∧ ab_ok h j1 104 = true ∧ wm d 57 [.ref j1, .int x2, .int 1, .int (-x3)] h (fun r9 h9 => wq (d + 1) 133 66 [.ref x0, .int x1, .int x2, .int x3] (r9.toList ++ []) h9 Q)) : wq (d + 1) 133 55 [.ref x0, .int x1, .int x2, .int x3] [] h Q := by
  refine g5 c_133_55 rfl ?_
  obtain ⟨ho, j1, hr, t⟩ := t
  refine g45 c_133_56 ho hr ?_
  refine g3 c_133_59 rfl ?_
  refine g1 c_133_60 k_1 ?_
  refine g3 c_133_61 rfl ?_
  refine g21 c_133_62 ?_
  exact g80 (As := [.int x2, .int 1, .int (-x3)]) (rest := []) c_133_63 rfl rfl (Nat.le_of_ble_eq_true rfl) (Nat.le_of_ble_eq_true rfl) t.1 t.2
set_option maxRecDepth 20000 in
theorem t_133_66 {d : Nat} {h : ab_H} {Q : Option Value → ab_H → Prop} {x0 : Nat} {x1 : Int32} {x2 : Int32} {x3 : Int32} (t : ab_ok h x0 108 = true ∧ ∃ j1 : Nat, ab_r h x0 3 = some j1 ∧ ab_ok h j1 104 = true ∧ wm d 57 [.ref j1, .int x2, .int 0, .int x3] h (fun r9 h9 => wq (d + 1) 133 76 [.ref x0, .int x1, .int x2, .int x3] (r9.toList ++ []) h9 Q)) : wq (d + 1) 133 66 [.ref x0, .int x1, .int x2, .int x3] [] h Q := by
  refine g5 c_133_66 rfl ?_
  obtain ⟨ho, j1, hr, t⟩ := t
  refine g45 c_133_67 ho hr ?_
  refine g3 c_133_70 rfl ?_
  refine g1 c_133_71 k_0 ?_
  refine g3 c_133_72 rfl ?_
  exact g80 (As := [.int x2, .int 0, .int x3]) (rest := []) c_133_73 rfl rfl (Nat.le_of_ble_eq_true rfl) (Nat.le_of_ble_eq_true rfl) t.1 t.2
set_option maxRecDepth 20000 in
theorem t_133_76 {d : Nat} {h : ab_H} {Q : Option Value → ab_H → Prop} {x0 : Nat} {x1 : Int32} {x2 : Int32} {x3 : Int32} (t : Q none h) : wq d 133 76 [.ref x0, .int x1, .int x2, .int x3] [] h Q := by
  exact g94 c_133_76 t
-- method 134: MillTown$Week.payRents(LMillTown$Town;)V
theorem c_134_0 : pg_cd 134 0 = (1, 1, 0, 0, 0) := by decide +kernel
theorem c_134_1 : pg_cd 134 1 = (6, 1, 0, 1, 0) := by decide +kernel
theorem c_134_2 : pg_cd 134 2 = (3, 1, 0, 1, 0) := by decide +kernel
theorem c_134_3 : pg_cd 134 3 = (5, 1, 0, 0, 0) := by decide +kernel
theorem c_134_4 : pg_cd 134 4 = (45, 8, 272, 3, 0) := by decide +kernel
theorem c_134_7 : pg_cd 134 7 = (43, 4, 121, 2, 0) := by decide +kernel
theorem c_134_10 : pg_cd 134 10 = (37, 3, 0, 3, 66) := by decide +kernel
theorem c_134_13 : pg_cd 134 13 = (5, 1, 0, 0, 0) := by decide +kernel
theorem c_134_14 : pg_cd 134 14 = (45, 8, 272, 3, 0) := by decide +kernel
theorem c_134_17 : pg_cd 134 17 = (3, 1, 0, 1, 0) := by decide +kernel
theorem c_134_18 : pg_cd 134 18 = (1, 1, 0, 0, 2) := by decide +kernel
theorem c_134_19 : pg_cd 134 19 = (80, 55, 118, 0, 0) := by decide +kernel
theorem c_134_22 : pg_cd 134 22 = (36, 3, 0, 1, 48) := by decide +kernel
theorem c_134_25 : pg_cd 134 25 = (5, 1, 0, 0, 0) := by decide +kernel
theorem c_134_26 : pg_cd 134 26 = (45, 8, 272, 3, 0) := by decide +kernel
theorem c_134_29 : pg_cd 134 29 = (3, 1, 0, 1, 0) := by decide +kernel
theorem c_134_30 : pg_cd 134 30 = (1, 1, 0, 0, 0) := by decide +kernel
theorem c_134_31 : pg_cd 134 31 = (5, 1, 0, 0, 0) := by decide +kernel
theorem c_134_32 : pg_cd 134 32 = (45, 8, 272, 3, 0) := by decide +kernel
theorem c_134_35 : pg_cd 134 35 = (3, 1, 0, 1, 0) := by decide +kernel
theorem c_134_36 : pg_cd 134 36 = (1, 1, 0, 0, 4) := by decide +kernel
theorem c_134_37 : pg_cd 134 37 = (80, 55, 118, 0, 0) := by decide +kernel
theorem c_134_40 : pg_cd 134 40 = (21, 1, 0, 0, 0) := by decide +kernel
theorem c_134_41 : pg_cd 134 41 = (80, 57, 190, 0, 0) := by decide +kernel
theorem c_134_44 : pg_cd 134 44 = (5, 1, 0, 0, 0) := by decide +kernel
theorem c_134_45 : pg_cd 134 45 = (45, 8, 272, 3, 0) := by decide +kernel
theorem c_134_48 : pg_cd 134 48 = (3, 1, 0, 1, 0) := by decide +kernel
theorem c_134_49 : pg_cd 134 49 = (1, 1, 0, 0, 2) := by decide +kernel
theorem c_134_50 : pg_cd 134 50 = (5, 1, 0, 0, 0) := by decide +kernel
theorem c_134_51 : pg_cd 134 51 = (45, 8, 272, 3, 0) := by decide +kernel
theorem c_134_54 : pg_cd 134 54 = (3, 1, 0, 1, 0) := by decide +kernel
theorem c_134_55 : pg_cd 134 55 = (1, 1, 0, 0, 0) := by decide +kernel
theorem c_134_56 : pg_cd 134 56 = (80, 55, 118, 0, 0) := by decide +kernel
theorem c_134_59 : pg_cd 134 59 = (36, 3, 0, 3, 7) := by decide +kernel
theorem c_134_62 : pg_cd 134 62 = (1, 1, 0, 0, 1) := by decide +kernel
theorem c_134_63 : pg_cd 134 63 = (38, 3, 0, 0, 4) := by decide +kernel
theorem c_134_66 : pg_cd 134 66 = (1, 1, 0, 0, 0) := by decide +kernel
theorem c_134_67 : pg_cd 134 67 = (80, 56, 171, 0, 0) := by decide +kernel
theorem c_134_70 : pg_cd 134 70 = (9, 3, 0, 1, 1) := by decide +kernel
theorem c_134_73 : pg_cd 134 73 = (38, 3, 0, 0, (-71)) := by decide +kernel
theorem c_134_76 : pg_cd 134 76 = (94, 0, 0, 0, 0) := by decide +kernel
theorem mx_134 : pg_mx 134 = 2 := by decide +kernel
theorem m_134 {d : Nat} {h : ab_H} {Q : Option Value → ab_H → Prop} {x0 : Nat} (t : wq d 134 0 [.ref x0, .retAddr 0] [] h Q) : wm d 134 [.ref x0] h Q := by
  unfold wm
  rw [mx_134]
  exact t
set_option maxRecDepth 20000 in
theorem t_134_0 {d : Nat} {h : ab_H} {Q : Option Value → ab_H → Prop} {x0 : Nat} (t : wq d 134 2 [.ref x0, .int 0] [] h Q) : wq d 134 0 [.ref x0, .retAddr 0] [] h Q := by
  refine g1 c_134_0 k_0 ?_
  refine g6 (L' := [.ref x0, .int 0]) c_134_1 rfl ?_
  exact t
set_option maxRecDepth 20000 in
theorem t_134_2 {d : Nat} {h : ab_H} {Q : Option Value → ab_H → Prop} {x0 : Nat} {x1 : Int32} (t : ab_ok h x0 108 = true ∧ ∃ j1 : Nat, ab_r h x0 3 = some j1 ∧ ab_ok h j1 104 = true ∧ if (ab_i h j1 2) ≤ x1 then (Q none h) else (ab_ok h x0 108 = true ∧ ∃ j2 : Nat, ab_r h x0 3 = some j2 ∧ ab_ok h j2 104 = true ∧ wm d 55 [.ref j2, .int x1, .int 2] h (fun r9 h9 => wq (d + 1) 134 22 [.ref x0, .int x1] (r9.toList ++ []) h9 Q))) : wq (d + 1) 134 2 [.ref x0, .int x1] [] h Q := by
  refine g3 c_134_2 rfl ?_
  refine g5 c_134_3 rfl ?_
  obtain ⟨ho, j1, hr, t⟩ := t
  refine g45 c_134_4 ho hr ?_
  obtain ⟨ho, t⟩ := t
  refine g43 c_134_7 ho ?_
  refine gcm c_134_10 (gbr t rfl rfl (fun hc t => ?_) (fun hc t => ?_))
  · exact g94 c_134_76 t
  · refine g5 c_134_13 rfl ?_
    obtain ⟨ho, j2, hr, t⟩ := t
    refine g45 c_134_14 ho hr ?_
    refine g3 c_134_17 rfl ?_
    refine g1 c_134_18 k_2 ?_
    exact g80 (As := [.int x1, .int 2]) (rest := []) c_134_19 rfl rfl (Nat.le_of_ble_eq_true rfl) (Nat.le_of_ble_eq_true rfl) t.1 t.2
set_option maxRecDepth 20000 in
theorem t_134_22 {d : Nat} {h : ab_H} {Q : Option Value → ab_H → Prop} {x0 : Nat} {x1 : Int32} {s0 : Int32} (t : if s0 = 0 then (ab_ok h x0 108 = true ∧ ∃ j1 : Nat, ab_r h x0 3 = some j1 ∧ ab_ok h x0 108 = true ∧ ∃ j2 : Nat, ab_r h x0 3 = some j2 ∧ ab_ok h j2 104 = true ∧ wm d 55 [.ref j2, .int x1, .int 4] h (fun r9 h9 => wq (d + 1) 134 40 [.ref x0, .int x1] (r9.toList ++ [.int 0, .int x1, .ref j1]) h9 Q)) else (wq (d + 1) 134 2 [.ref x0, .int (x1 + 1)] [] h Q)) : wq (d + 1) 134 22 [.ref x0, .int x1] [.int s0] h Q := by
  refine gif c_134_22 (gbn t (ab_c1 _ _) rfl (fun hc t => ?_) (fun hc t => ?_))
  · refine g5 c_134_25 rfl ?_
    obtain ⟨ho, j1, hr, t⟩ := t
    refine g45 c_134_26 ho hr ?_
    refine g3 c_134_29 rfl ?_
    refine g1 c_134_30 k_0 ?_
    refine g5 c_134_31 rfl ?_
    obtain ⟨ho, j2, hr, t⟩ := t
    refine g45 c_134_32 ho hr ?_
    refine g3 c_134_35 rfl ?_
    refine g1 c_134_36 k_4 ?_
    exact g80 (As := [.int x1, .int 4]) (rest := [.int 0, .int x1, .ref j1]) c_134_37 rfl rfl (Nat.le_of_ble_eq_true rfl) (Nat.le_of_ble_eq_true rfl) t.1 t.2
  · refine g9 (L' := [.ref x0, .int (x1 + 1)]) c_134_70 rfl k_1 rfl ?_
    refine g38 c_134_73 rfl ?_
    exact t
set_option maxRecDepth 20000 in
theorem t_134_40 {d : Nat} {h : ab_H} {Q : Option Value → ab_H → Prop} {x0 : Nat} {x1 : Int32} {s0 : Nat} {s1 : Int32} {s2 : Int32} {s3 : Int32} (t : ab_ok h s0 104 = true ∧ wm d 57 [.ref s0, .int s1, .int s2, .int (-s3)] h (fun r9 h9 => wq (d + 1) 134 44 [.ref x0, .int x1] (r9.toList ++ []) h9 Q)) : wq (d + 1) 134 40 [.ref x0, .int x1] [.int s3, .int s2, .int s1, .ref s0] h Q := by
  refine g21 c_134_40 ?_
  exact g80 (As := [.int s1, .int s2, .int (-s3)]) (rest := []) c_134_41 rfl rfl (Nat.le_of_ble_eq_true rfl) (Nat.le_of_ble_eq_true rfl) t.1 t.2
set_option maxRecDepth 20000 in
theorem t_134_44 {d : Nat} {h : ab_H} {Q : Option Value → ab_H → Prop} {x0 : Nat} {x1 : Int32} (t : ab_ok h x0 108 = true ∧ ∃ j1 : Nat, ab_r h x0 3 = some j1 ∧ ab_ok h x0 108 = true ∧ ∃ j2 : Nat, ab_r h x0 3 = some j2 ∧ ab_ok h j2 104 = true ∧ wm d 55 [.ref j2, .int x1, .int 0] h (fun r9 h9 => wq (d + 1) 134 59 [.ref x0, .int x1] (r9.toList ++ [.int 2, .int x1, .ref j1]) h9 Q)) : wq (d + 1) 134 44 [.ref x0, .int x1] [] h Q := by
  refine g5 c_134_44 rfl ?_
  obtain ⟨ho, j1, hr, t⟩ := t
  refine g45 c_134_45 ho hr ?_
  refine g3 c_134_48 rfl ?_
  refine g1 c_134_49 k_2 ?_
  refine g5 c_134_50 rfl ?_
  obtain ⟨ho, j2, hr, t⟩ := t
  refine g45 c_134_51 ho hr ?_
  refine g3 c_134_54 rfl ?_
  refine g1 c_134_55 k_0 ?_
  exact g80 (As := [.int x1, .int 0]) (rest := [.int 2, .int x1, .ref j1]) c_134_56 rfl rfl (Nat.le_of_ble_eq_true rfl) (Nat.le_of_ble_eq_true rfl) t.1 t.2
set_option maxRecDepth 20000 in
theorem t_134_59 {d : Nat} {h : ab_H} {Q : Option Value → ab_H → Prop} {x0 : Nat} {x1 : Int32} {s0 : Nat} {s1 : Int32} {s2 : Int32} {s3 : Int32} (t : if 0 ≤ s3 then (ab_ok h s0 104 = true ∧ wm d 56 [.ref s0, .int s1, .int s2, .int 0] h (fun r9 h9 => wq (d + 1) 134 70 [.ref x0, .int x1] (r9.toList ++ []) h9 Q)) else (ab_ok h s0 104 = true ∧ wm d 56 [.ref s0, .int s1, .int s2, .int 1] h (fun r9 h9 => wq (d + 1) 134 70 [.ref x0, .int x1] (r9.toList ++ []) h9 Q))) : wq (d + 1) 134 59 [.ref x0, .int x1] [.int s3, .int s2, .int s1, .ref s0] h Q := by
  refine gif c_134_59 (gbr t rfl rfl (fun hc t => ?_) (fun hc t => ?_))
  · refine g1 c_134_66 k_0 ?_
    exact g80 (As := [.int s1, .int s2, .int 0]) (rest := []) c_134_67 rfl rfl (Nat.le_of_ble_eq_true rfl) (Nat.le_of_ble_eq_true rfl) t.1 t.2
  · refine g1 c_134_62 k_1 ?_
    refine g38 c_134_63 rfl ?_
    exact g80 (As := [.int s1, .int s2, .int 1]) (rest := []) c_134_67 rfl rfl (Nat.le_of_ble_eq_true rfl) (Nat.le_of_ble_eq_true rfl) t.1 t.2
set_option maxRecDepth 20000 in
theorem t_134_70 {d : Nat} {h : ab_H} {Q : Option Value → ab_H → Prop} {x0 : Nat} {x1 : Int32} (t : wq d 134 2 [.ref x0, .int (x1 + 1)] [] h Q) : wq d 134 70 [.ref x0, .int x1] [] h Q := by
  refine g9 (L' := [.ref x0, .int (x1 + 1)]) c_134_70 rfl k_1 rfl ?_
  refine g38 c_134_73 rfl ?_
  exact t
-- method 135: MillTown$Week.leave(LMillTown$Town;LMillTown$WeekBook;)V
theorem c_135_0 : pg_cd 135 0 = (1, 1, 0, 0, 0) := by decide +kernel
theorem c_135_1 : pg_cd 135 1 = (6, 1, 0, 3, 0) := by decide +kernel
theorem c_135_2 : pg_cd 135 2 = (3, 1, 0, 3, 0) := by decide +kernel
theorem c_135_3 : pg_cd 135 3 = (5, 1, 0, 1, 0) := by decide +kernel
theorem c_135_4 : pg_cd 135 4 = (45, 8, 244, 4, 0) := by decide +kernel
theorem c_135_7 : pg_cd 135 7 = (43, 4, 121, 2, 0) := by decide +kernel
theorem c_135_10 : pg_cd 135 10 = (37, 3, 0, 3, 111) := by decide +kernel
theorem c_135_13 : pg_cd 135 13 = (3, 1, 0, 3, 0) := by decide +kernel
theorem c_135_14 : pg_cd 135 14 = (1, 2, 0, 0, 24) := by decide +kernel
theorem c_135_16 : pg_cd 135 16 = (37, 3, 0, 3, 105) := by decide +kernel
theorem c_135_19 : pg_cd 135 19 = (5, 1, 0, 1, 0) := by decide +kernel
theorem c_135_20 : pg_cd 135 20 = (45, 8, 244, 4, 0) := by decide +kernel
theorem c_135_23 : pg_cd 135 23 = (3, 1, 0, 3, 0) := by decide +kernel
theorem c_135_24 : pg_cd 135 24 = (1, 1, 0, 0, 2) := by decide +kernel
theorem c_135_25 : pg_cd 135 25 = (80, 55, 118, 0, 0) := by decide +kernel
theorem c_135_28 : pg_cd 135 28 = (36, 3, 0, 1, 16) := by decide +kernel
theorem c_135_31 : pg_cd 135 31 = (5, 1, 0, 2, 0) := by decide +kernel
theorem c_135_32 : pg_cd 135 32 = (45, 10, 251, 4, 0) := by decide +kernel
theorem c_135_35 : pg_cd 135 35 = (3, 1, 0, 3, 0) := by decide +kernel
theorem c_135_36 : pg_cd 135 36 = (50, 1, 0, 0, 0) := by decide +kernel
theorem c_135_37 : pg_cd 135 37 = (36, 3, 0, 5, 7) := by decide +kernel
theorem c_135_40 : pg_cd 135 40 = (1, 1, 0, 0, 1) := by decide +kernel
theorem c_135_41 : pg_cd 135 41 = (38, 3, 0, 0, 4) := by decide +kernel
theorem c_135_44 : pg_cd 135 44 = (1, 1, 0, 0, 0) := by decide +kernel
theorem c_135_45 : pg_cd 135 45 = (6, 2, 0, 4, 0) := by decide +kernel
theorem c_135_47 : pg_cd 135 47 = (5, 1, 0, 1, 0) := by decide +kernel
theorem c_135_48 : pg_cd 135 48 = (43, 8, 48, 8, 0) := by decide +kernel
theorem c_135_51 : pg_cd 135 51 = (1, 1, 0, 0, 3) := by decide +kernel
theorem c_135_52 : pg_cd 135 52 = (11, 1, 0, 0, 0) := by decide +kernel
theorem c_135_53 : pg_cd 135 53 = (6, 2, 0, 5, 0) := by decide +kernel
theorem c_135_55 : pg_cd 135 55 = (3, 2, 0, 5, 0) := by decide +kernel
theorem c_135_57 : pg_cd 135 57 = (5, 1, 0, 1, 0) := by decide +kernel
theorem c_135_58 : pg_cd 135 58 = (43, 8, 48, 8, 0) := by decide +kernel
theorem c_135_61 : pg_cd 135 61 = (37, 3, 0, 3, 34) := by decide +kernel
theorem c_135_64 : pg_cd 135 64 = (3, 2, 0, 4, 0) := by decide +kernel
theorem c_135_66 : pg_cd 135 66 = (36, 3, 0, 0, 20) := by decide +kernel
theorem c_135_69 : pg_cd 135 69 = (5, 1, 0, 0, 0) := by decide +kernel
theorem c_135_70 : pg_cd 135 70 = (45, 9, 21, 1, 0) := by decide +kernel
theorem c_135_73 : pg_cd 135 73 = (3, 2, 0, 5, 0) := by decide +kernel
theorem c_135_75 : pg_cd 135 75 = (3, 1, 0, 3, 0) := by decide +kernel
theorem c_135_76 : pg_cd 135 76 = (80, 4, 277, 0, 0) := by decide +kernel
theorem c_135_79 : pg_cd 135 79 = (36, 3, 0, 5, 7) := by decide +kernel
theorem c_135_82 : pg_cd 135 82 = (1, 1, 0, 0, 1) := by decide +kernel
theorem c_135_83 : pg_cd 135 83 = (38, 3, 0, 0, 4) := by decide +kernel
theorem c_135_86 : pg_cd 135 86 = (1, 1, 0, 0, 0) := by decide +kernel
theorem c_135_87 : pg_cd 135 87 = (6, 2, 0, 4, 0) := by decide +kernel
theorem c_135_89 : pg_cd 135 89 = (9, 3, 0, 5, 1) := by decide +kernel
theorem c_135_92 : pg_cd 135 92 = (38, 3, 0, 0, (-37)) := by decide +kernel
theorem c_135_95 : pg_cd 135 95 = (3, 2, 0, 4, 0) := by decide +kernel
theorem c_135_97 : pg_cd 135 97 = (36, 3, 0, 0, 18) := by decide +kernel
theorem c_135_100 : pg_cd 135 100 = (5, 1, 0, 1, 0) := by decide +kernel
theorem c_135_101 : pg_cd 135 101 = (45, 8, 244, 4, 0) := by decide +kernel
theorem c_135_104 : pg_cd 135 104 = (3, 1, 0, 3, 0) := by decide +kernel
theorem c_135_105 : pg_cd 135 105 = (1, 1, 0, 0, 2) := by decide +kernel
theorem c_135_106 : pg_cd 135 106 = (1, 1, 0, 0, 1) := by decide +kernel
theorem c_135_107 : pg_cd 135 107 = (80, 56, 171, 0, 0) := by decide +kernel
theorem c_135_110 : pg_cd 135 110 = (5, 1, 0, 1, 0) := by decide +kernel
theorem c_135_111 : pg_cd 135 111 = (3, 1, 0, 3, 0) := by decide +kernel
theorem c_135_112 : pg_cd 135 112 = (81, 136, 280, 0, 0) := by decide +kernel
theorem c_135_115 : pg_cd 135 115 = (9, 3, 0, 3, 1) := by decide +kernel
theorem c_135_118 : pg_cd 135 118 = (38, 3, 0, 0, (-116)) := by decide +kernel
theorem c_135_121 : pg_cd 135 121 = (94, 0, 0, 0, 0) := by decide +kernel
theorem mx_135 : pg_mx 135 = 6 := by decide +kernel
theorem m_135 {d : Nat} {h : ab_H} {Q : Option Value → ab_H → Prop} {x0 : Nat} {x1 : Nat} {x2 : Nat} (t : wq d 135 0 [.ref x0, .ref x1, .ref x2, .retAddr 0, .retAddr 0, .retAddr 0] [] h Q) : wm d 135 [.ref x0, .ref x1, .ref x2] h Q := by
  unfold wm
  rw [mx_135]
  exact t
set_option maxRecDepth 20000 in
theorem t_135_0 {d : Nat} {h : ab_H} {Q : Option Value → ab_H → Prop} {x0 : Nat} {x1 : Nat} {x2 : Nat} (t : wq d 135 2 [.ref x0, .ref x1, .ref x2, .int 0, .retAddr 0, .retAddr 0] [] h Q) : wq d 135 0 [.ref x0, .ref x1, .ref x2, .retAddr 0, .retAddr 0, .retAddr 0] [] h Q := by
  refine g1 c_135_0 k_0 ?_
  refine g6 (L' := [.ref x0, .ref x1, .ref x2, .int 0, .retAddr 0, .retAddr 0]) c_135_1 rfl ?_
  exact t
set_option maxRecDepth 20000 in
theorem t_135_2 {d : Nat} {h : ab_H} {Q : Option Value → ab_H → Prop} {x0 : Nat} {x1 : Nat} {x2 : Nat} {x3 : Int32} (t : ab_ok h x1 108 = true ∧ ∃ j1 : Nat, ab_r h x1 4 = some j1 ∧ ab_ok h j1 104 = true ∧ if (ab_i h j1 2) ≤ x3 then (Q none h) else (if 24 ≤ x3 then (Q none h) else (ab_ok h x1 108 = true ∧ ∃ j2 : Nat, ab_r h x1 4 = some j2 ∧ ab_ok h j2 104 = true ∧ wm d 55 [.ref j2, .int x3, .int 2] h (fun r9 h9 => wq (d + 1) 135 28 [.ref x0, .ref x1, .ref x2, .int x3, .retAddr 0, .retAddr 0] (r9.toList ++ []) h9 Q)))) : wq (d + 1) 135 2 [.ref x0, .ref x1, .ref x2, .int x3, .retAddr 0, .retAddr 0] [] h Q := by
  refine g3 c_135_2 rfl ?_
  refine g5 c_135_3 rfl ?_
  obtain ⟨ho, j1, hr, t⟩ := t
  refine g45 c_135_4 ho hr ?_
  obtain ⟨ho, t⟩ := t
  refine g43 c_135_7 ho ?_
  refine gcm c_135_10 (gbr t rfl rfl (fun hc t => ?_) (fun hc t => ?_))
  · exact g94 c_135_121 t
  · refine g3 c_135_13 rfl ?_
    refine g1 c_135_14 k_24 ?_
    refine gcm c_135_16 (gbr t rfl rfl (fun hc t => ?_) (fun hc t => ?_))
    · exact g94 c_135_121 t
    · refine g5 c_135_19 rfl ?_
      obtain ⟨ho, j2, hr, t⟩ := t
      refine g45 c_135_20 ho hr ?_
      refine g3 c_135_23 rfl ?_
      refine g1 c_135_24 k_2 ?_
      exact g80 (As := [.int x3, .int 2]) (rest := []) c_135_25 rfl rfl (Nat.le_of_ble_eq_true rfl) (Nat.le_of_ble_eq_true rfl) t.1 t.2
set_option maxRecDepth 20000 in
theorem t_135_28 {d : Nat} {h : ab_H} {Q : Option Value → ab_H → Prop} {x0 : Nat} {x1 : Nat} {x2 : Nat} {x3 : Int32} {s0 : Int32} (t : if s0 = 0 then (ab_ok h x2 110 = true ∧ ∃ j1 : Nat, ab_r h x2 4 = some j1 ∧ ((j1 = 0 ∨ ab_ok h j1 0 = true) ∧ ab_in x3 (ab_s h j1).2 = true) ∧ if (ab_i h j1 (Int32.toNatClampNeg x3)) ≤ 0 then (ab_ok h x1 108 = true ∧ wq d 135 55 [.ref x0, .ref x1, .ref x2, .int x3, .int 0, .int ((ab_i h x1 8) - 3)] [] h Q) else (ab_ok h x1 108 = true ∧ wq d 135 55 [.ref x0, .ref x1, .ref x2, .int x3, .int 1, .int ((ab_i h x1 8) - 3)] [] h Q)) else (ab_ok h x1 108 = true ∧ wq d 135 55 [.ref x0, .ref x1, .ref x2, .int x3, .int 0, .int ((ab_i h x1 8) - 3)] [] h Q)) : wq d 135 28 [.ref x0, .ref x1, .ref x2, .int x3, .retAddr 0, .retAddr 0] [.int s0] h Q := by
  refine gif c_135_28 (gbn t (ab_c1 _ _) rfl (fun hc t => ?_) (fun hc t => ?_))
  · refine g5 c_135_31 rfl ?_
    obtain ⟨ho, j1, hr, t⟩ := t
    refine g45 c_135_32 ho hr ?_
    refine g3 c_135_35 rfl ?_
    obtain ⟨ho, t⟩ := t
    refine g50 c_135_36 ho ?_
    refine gif c_135_37 (gbr t rfl rfl (fun hc t => ?_) (fun hc t => ?_))
    · refine g1 c_135_44 k_0 ?_
      refine g6 (L' := [.ref x0, .ref x1, .ref x2, .int x3, .int 0, .retAddr 0]) c_135_45 rfl ?_
      refine g5 c_135_47 rfl ?_
      obtain ⟨ho, t⟩ := t
      refine g43 c_135_48 ho ?_
      refine g1 c_135_51 k_3 ?_
      refine g11 c_135_52 ?_
      refine g6 (L' := [.ref x0, .ref x1, .ref x2, .int x3, .int 0, .int ((ab_i h x1 8) - 3)]) c_135_53 rfl ?_
      exact t
    · refine g1 c_135_40 k_1 ?_
      refine g38 c_135_41 rfl ?_
      refine g6 (L' := [.ref x0, .ref x1, .ref x2, .int x3, .int 1, .retAddr 0]) c_135_45 rfl ?_
      refine g5 c_135_47 rfl ?_
      obtain ⟨ho, t⟩ := t
      refine g43 c_135_48 ho ?_
      refine g1 c_135_51 k_3 ?_
      refine g11 c_135_52 ?_
      refine g6 (L' := [.ref x0, .ref x1, .ref x2, .int x3, .int 1, .int ((ab_i h x1 8) - 3)]) c_135_53 rfl ?_
      exact t
  · refine g1 c_135_44 k_0 ?_
    refine g6 (L' := [.ref x0, .ref x1, .ref x2, .int x3, .int 0, .retAddr 0]) c_135_45 rfl ?_
    refine g5 c_135_47 rfl ?_
    obtain ⟨ho, t⟩ := t
    refine g43 c_135_48 ho ?_
    refine g1 c_135_51 k_3 ?_
    refine g11 c_135_52 ?_
    refine g6 (L' := [.ref x0, .ref x1, .ref x2, .int x3, .int 0, .int ((ab_i h x1 8) - 3)]) c_135_53 rfl ?_
    exact t
set_option maxRecDepth 20000 in
theorem t_135_55 {d : Nat} {h : ab_H} {Q : Option Value → ab_H → Prop} {x0 : Nat} {x1 : Nat} {x2 : Nat} {x3 : Int32} {x4 : Int32} {x5 : Int32} (t : ab_ok h x1 108 = true ∧ if (ab_i h x1 8) ≤ x5 then (if x4 = 0 then (wq (d + 1) 135 2 [.ref x0, .ref x1, .ref x2, .int (x3 + 1), .int x4, .int x5] [] h Q) else (ab_ok h x1 108 = true ∧ ∃ j1 : Nat, ab_r h x1 4 = some j1 ∧ ab_ok h j1 104 = true ∧ wm d 56 [.ref j1, .int x3, .int 2, .int 1] h (fun r9 h9 => wq (d + 1) 135 110 [.ref x0, .ref x1, .ref x2, .int x3, .int x4, .int x5] (r9.toList ++ []) h9 Q))) else (if x4 = 0 then (wq (d + 1) 135 55 [.ref x0, .ref x1, .ref x2, .int x3, .int 0, .int (x5 + 1)] [] h Q) else (ab_ok h x0 109 = true ∧ ∃ j2 : Nat, ab_r h x0 1 = some j2 ∧ ab_ok h j2 100 = true ∧ wm d 4 [.ref j2, .int x5, .int x3] h (fun r9 h9 => wq (d + 1) 135 79 [.ref x0, .ref x1, .ref x2, .int x3, .int x4, .int x5] (r9.toList ++ []) h9 Q)))) : wq (d + 1) 135 55 [.ref x0, .ref x1, .ref x2, .int x3, .int x4, .int x5] [] h Q := by
  refine g3 c_135_55 rfl ?_
  refine g5 c_135_57 rfl ?_
  obtain ⟨ho, t⟩ := t
  refine g43 c_135_58 ho ?_
  refine gcm c_135_61 (gbr t rfl rfl (fun hc t => ?_) (fun hc t => ?_))
  · refine g3 c_135_95 rfl ?_
    refine gif c_135_97 (gbr t rfl rfl (fun hc t => ?_) (fun hc t => ?_))
    · refine g9 (L' := [.ref x0, .ref x1, .ref x2, .int (x3 + 1), .int x4, .int x5]) c_135_115 rfl k_1 rfl ?_
      refine g38 c_135_118 rfl ?_
      exact t
    · refine g5 c_135_100 rfl ?_
      obtain ⟨ho, j1, hr, t⟩ := t
      refine g45 c_135_101 ho hr ?_
      refine g3 c_135_104 rfl ?_
      refine g1 c_135_105 k_2 ?_
      refine g1 c_135_106 k_1 ?_
      exact g80 (As := [.int x3, .int 2, .int 1]) (rest := []) c_135_107 rfl rfl (Nat.le_of_ble_eq_true rfl) (Nat.le_of_ble_eq_true rfl) t.1 t.2
  · refine g3 c_135_64 rfl ?_
    refine gif c_135_66 (gbr t rfl rfl (fun hc t => ?_) (fun hc t => ?_))
    · refine g1 c_135_86 k_0 ?_
      refine g6 (L' := [.ref x0, .ref x1, .ref x2, .int x3, .int 0, .int x5]) c_135_87 rfl ?_
      refine g9 (L' := [.ref x0, .ref x1, .ref x2, .int x3, .int 0, .int (x5 + 1)]) c_135_89 rfl k_1 rfl ?_
      refine g38 c_135_92 rfl ?_
      exact t
    · refine g5 c_135_69 rfl ?_
      obtain ⟨ho, j2, hr, t⟩ := t
      refine g45 c_135_70 ho hr ?_
      refine g3 c_135_73 rfl ?_
      refine g3 c_135_75 rfl ?_
      exact g80 (As := [.int x5, .int x3]) (rest := []) c_135_76 rfl rfl (Nat.le_of_ble_eq_true rfl) (Nat.le_of_ble_eq_true rfl) t.1 t.2
set_option maxRecDepth 20000 in
theorem t_135_79 {d : Nat} {h : ab_H} {Q : Option Value → ab_H → Prop} {x0 : Nat} {x1 : Nat} {x2 : Nat} {x3 : Int32} {x4 : Int32} {x5 : Int32} {s0 : Int32} (t : if s0 ≤ 0 then (wq d 135 55 [.ref x0, .ref x1, .ref x2, .int x3, .int 0, .int (x5 + 1)] [] h Q) else (wq d 135 55 [.ref x0, .ref x1, .ref x2, .int x3, .int 1, .int (x5 + 1)] [] h Q)) : wq d 135 79 [.ref x0, .ref x1, .ref x2, .int x3, .int x4, .int x5] [.int s0] h Q := by
  refine gif c_135_79 (gbr t rfl rfl (fun hc t => ?_) (fun hc t => ?_))
  · refine g1 c_135_86 k_0 ?_
    refine g6 (L' := [.ref x0, .ref x1, .ref x2, .int x3, .int 0, .int x5]) c_135_87 rfl ?_
    refine g9 (L' := [.ref x0, .ref x1, .ref x2, .int x3, .int 0, .int (x5 + 1)]) c_135_89 rfl k_1 rfl ?_
    refine g38 c_135_92 rfl ?_
    exact t
  · refine g1 c_135_82 k_1 ?_
    refine g38 c_135_83 rfl ?_
    refine g6 (L' := [.ref x0, .ref x1, .ref x2, .int x3, .int 1, .int x5]) c_135_87 rfl ?_
    refine g9 (L' := [.ref x0, .ref x1, .ref x2, .int x3, .int 1, .int (x5 + 1)]) c_135_89 rfl k_1 rfl ?_
    refine g38 c_135_92 rfl ?_
    exact t
set_option maxRecDepth 20000 in
theorem t_135_110 {d : Nat} {h : ab_H} {Q : Option Value → ab_H → Prop} {x0 : Nat} {x1 : Nat} {x2 : Nat} {x3 : Int32} {x4 : Int32} {x5 : Int32} (t : wm d 136 [.ref x1, .int x3] h (fun r9 h9 => wq (d + 1) 135 115 [.ref x0, .ref x1, .ref x2, .int x3, .int x4, .int x5] (r9.toList ++ []) h9 Q)) : wq (d + 1) 135 110 [.ref x0, .ref x1, .ref x2, .int x3, .int x4, .int x5] [] h Q := by
  refine g5 c_135_110 rfl ?_
  refine g3 c_135_111 rfl ?_
  exact g81 (As := [.ref x1, .int x3]) (rest := []) c_135_112 rfl rfl (Nat.le_of_ble_eq_true rfl) (Nat.le_of_ble_eq_true rfl) t
set_option maxRecDepth 20000 in
theorem t_135_115 {d : Nat} {h : ab_H} {Q : Option Value → ab_H → Prop} {x0 : Nat} {x1 : Nat} {x2 : Nat} {x3 : Int32} {x4 : Int32} {x5 : Int32} (t : wq d 135 2 [.ref x0, .ref x1, .ref x2, .int (x3 + 1), .int x4, .int x5] [] h Q) : wq d 135 115 [.ref x0, .ref x1, .ref x2, .int x3, .int x4, .int x5] [] h Q := by
  refine g9 (L' := [.ref x0, .ref x1, .ref x2, .int (x3 + 1), .int x4, .int x5]) c_135_115 rfl k_1 rfl ?_
  refine g38 c_135_118 rfl ?_
  exact t
-- method 136: MillTown$Week.endWorkOf(LMillTown$Town;I)V
theorem c_136_0 : pg_cd 136 0 = (1, 1, 0, 0, 0) := by decide +kernel
theorem c_136_1 : pg_cd 136 1 = (6, 1, 0, 2, 0) := by decide +kernel
theorem c_136_2 : pg_cd 136 2 = (3, 1, 0, 2, 0) := by decide +kernel
theorem c_136_3 : pg_cd 136 3 = (5, 1, 0, 0, 0) := by decide +kernel
theorem c_136_4 : pg_cd 136 4 = (45, 8, 143, 5, 0) := by decide +kernel
theorem c_136_7 : pg_cd 136 7 = (43, 4, 121, 2, 0) := by decide +kernel
theorem c_136_10 : pg_cd 136 10 = (37, 3, 0, 3, 27) := by decide +kernel
theorem c_136_13 : pg_cd 136 13 = (5, 1, 0, 0, 0) := by decide +kernel
theorem c_136_14 : pg_cd 136 14 = (45, 8, 143, 5, 0) := by decide +kernel
theorem c_136_17 : pg_cd 136 17 = (3, 1, 0, 2, 0) := by decide +kernel
theorem c_136_18 : pg_cd 136 18 = (1, 1, 0, 0, 0) := by decide +kernel
theorem c_136_19 : pg_cd 136 19 = (80, 55, 118, 0, 0) := by decide +kernel
theorem c_136_22 : pg_cd 136 22 = (3, 1, 0, 1, 0) := by decide +kernel
theorem c_136_23 : pg_cd 136 23 = (37, 3, 0, 1, 8) := by decide +kernel
theorem c_136_26 : pg_cd 136 26 = (5, 1, 0, 0, 0) := by decide +kernel
theorem c_136_27 : pg_cd 136 27 = (3, 1, 0, 2, 0) := by decide +kernel
theorem c_136_28 : pg_cd 136 28 = (80, 103, 283, 0, 0) := by decide +kernel
theorem c_136_31 : pg_cd 136 31 = (9, 3, 0, 2, 1) := by decide +kernel
theorem c_136_34 : pg_cd 136 34 = (38, 3, 0, 0, (-32)) := by decide +kernel
theorem c_136_37 : pg_cd 136 37 = (94, 0, 0, 0, 0) := by decide +kernel
theorem mx_136 : pg_mx 136 = 3 := by decide +kernel
theorem m_136 {d : Nat} {h : ab_H} {Q : Option Value → ab_H → Prop} {x0 : Nat} {x1 : Int32} (t : wq d 136 0 [.ref x0, .int x1, .retAddr 0] [] h Q) : wm d 136 [.ref x0, .int x1] h Q := by
  unfold wm
  rw [mx_136]
  exact t
set_option maxRecDepth 20000 in
theorem t_136_0 {d : Nat} {h : ab_H} {Q : Option Value → ab_H → Prop} {x0 : Nat} {x1 : Int32} (t : wq d 136 2 [.ref x0, .int x1, .int 0] [] h Q) : wq d 136 0 [.ref x0, .int x1, .retAddr 0] [] h Q := by
  refine g1 c_136_0 k_0 ?_
  refine g6 (L' := [.ref x0, .int x1, .int 0]) c_136_1 rfl ?_
  exact t
set_option maxRecDepth 20000 in
theorem t_136_2 {d : Nat} {h : ab_H} {Q : Option Value → ab_H → Prop} {x0 : Nat} {x1 : Int32} {x2 : Int32} (t : ab_ok h x0 108 = true ∧ ∃ j1 : Nat, ab_r h x0 5 = some j1 ∧ ab_ok h j1 104 = true ∧ if (ab_i h j1 2) ≤ x2 then (Q none h) else (ab_ok h x0 108 = true ∧ ∃ j2 : Nat, ab_r h x0 5 = some j2 ∧ ab_ok h j2 104 = true ∧ wm d 55 [.ref j2, .int x2, .int 0] h (fun r9 h9 => wq (d + 1) 136 22 [.ref x0, .int x1, .int x2] (r9.toList ++ []) h9 Q))) : wq (d + 1) 136 2 [.ref x0, .int x1, .int x2] [] h Q := by
  refine g3 c_136_2 rfl ?_
  refine g5 c_136_3 rfl ?_
  obtain ⟨ho, j1, hr, t⟩ := t
  refine g45 c_136_4 ho hr ?_
  obtain ⟨ho, t⟩ := t
  refine g43 c_136_7 ho ?_
  refine gcm c_136_10 (gbr t rfl rfl (fun hc t => ?_) (fun hc t => ?_))
  · exact g94 c_136_37 t
  · refine g5 c_136_13 rfl ?_
    obtain ⟨ho, j2, hr, t⟩ := t
    refine g45 c_136_14 ho hr ?_
    refine g3 c_136_17 rfl ?_
    refine g1 c_136_18 k_0 ?_
    exact g80 (As := [.int x2, .int 0]) (rest := []) c_136_19 rfl rfl (Nat.le_of_ble_eq_true rfl) (Nat.le_of_ble_eq_true rfl) t.1 t.2
set_option maxRecDepth 20000 in
theorem t_136_22 {d : Nat} {h : ab_H} {Q : Option Value → ab_H → Prop} {x0 : Nat} {x1 : Int32} {x2 : Int32} {s0 : Int32} (t : if s0 = x1 then (ab_ok h x0 108 = true ∧ wm d 103 [.ref x0, .int x2] h (fun r9 h9 => wq (d + 1) 136 31 [.ref x0, .int x1, .int x2] (r9.toList ++ []) h9 Q)) else (wq (d + 1) 136 2 [.ref x0, .int x1, .int (x2 + 1)] [] h Q)) : wq (d + 1) 136 22 [.ref x0, .int x1, .int x2] [.int s0] h Q := by
  refine g3 c_136_22 rfl ?_
  refine gcm c_136_23 (gbn t (ab_c1 _ _) rfl (fun hc t => ?_) (fun hc t => ?_))
  · refine g5 c_136_26 rfl ?_
    refine g3 c_136_27 rfl ?_
    exact g80 (As := [.int x2]) (rest := []) c_136_28 rfl rfl (Nat.le_of_ble_eq_true rfl) (Nat.le_of_ble_eq_true rfl) t.1 t.2
  · refine g9 (L' := [.ref x0, .int x1, .int (x2 + 1)]) c_136_31 rfl k_1 rfl ?_
    refine g38 c_136_34 rfl ?_
    exact t
set_option maxRecDepth 20000 in
theorem t_136_31 {d : Nat} {h : ab_H} {Q : Option Value → ab_H → Prop} {x0 : Nat} {x1 : Int32} {x2 : Int32} (t : wq d 136 2 [.ref x0, .int x1, .int (x2 + 1)] [] h Q) : wq d 136 31 [.ref x0, .int x1, .int x2] [] h Q := by
  refine g9 (L' := [.ref x0, .int x1, .int (x2 + 1)]) c_136_31 rfl k_1 rfl ?_
  refine g38 c_136_34 rfl ?_
  exact t
