/-! the segments of the program, printed by wip/whole/segs.py -/
-- method 140: MillTown.<init>()V
theorem c_140_0 : pg_cd 140 0 = (5, 1, 0, 0, 0) := by decide +kernel
theorem c_140_1 : pg_cd 140 1 = (61, 0, 3, 0, 0) := by decide +kernel
theorem c_140_4 : pg_cd 140 4 = (5, 1, 0, 0, 0) := by decide +kernel
theorem c_140_5 : pg_cd 140 5 = (60, 8, 9, 18, 0) := by decide +kernel
theorem c_140_8 : pg_cd 140 8 = (33, 1, 0, 0, 0) := by decide +kernel
theorem c_140_9 : pg_cd 140 9 = (80, 86, 11, 0, 0) := by decide +kernel
theorem c_140_12 : pg_cd 140 12 = (49, 11, 12, 0, 0) := by decide +kernel
theorem c_140_15 : pg_cd 140 15 = (5, 1, 0, 0, 0) := by decide +kernel
theorem c_140_16 : pg_cd 140 16 = (60, 8, 9, 18, 0) := by decide +kernel
theorem c_140_19 : pg_cd 140 19 = (33, 1, 0, 0, 0) := by decide +kernel
theorem c_140_20 : pg_cd 140 20 = (80, 86, 11, 0, 0) := by decide +kernel
theorem c_140_23 : pg_cd 140 23 = (49, 11, 16, 1, 0) := by decide +kernel
theorem c_140_26 : pg_cd 140 26 = (5, 1, 0, 0, 0) := by decide +kernel
theorem c_140_27 : pg_cd 140 27 = (60, 8, 9, 18, 0) := by decide +kernel
theorem c_140_30 : pg_cd 140 30 = (33, 1, 0, 0, 0) := by decide +kernel
theorem c_140_31 : pg_cd 140 31 = (80, 86, 11, 0, 0) := by decide +kernel
theorem c_140_34 : pg_cd 140 34 = (49, 11, 19, 2, 0) := by decide +kernel
theorem c_140_37 : pg_cd 140 37 = (5, 1, 0, 0, 0) := by decide +kernel
theorem c_140_38 : pg_cd 140 38 = (60, 9, 22, 10, 0) := by decide +kernel
theorem c_140_41 : pg_cd 140 41 = (33, 1, 0, 0, 0) := by decide +kernel
theorem c_140_42 : pg_cd 140 42 = (80, 107, 24, 0, 0) := by decide +kernel
theorem c_140_45 : pg_cd 140 45 = (49, 11, 25, 3, 0) := by decide +kernel
theorem c_140_48 : pg_cd 140 48 = (5, 1, 0, 0, 0) := by decide +kernel
theorem c_140_49 : pg_cd 140 49 = (5, 1, 0, 0, 0) := by decide +kernel
theorem c_140_50 : pg_cd 140 50 = (45, 11, 25, 3, 0) := by decide +kernel
theorem c_140_53 : pg_cd 140 53 = (45, 9, 29, 0, 0) := by decide +kernel
theorem c_140_56 : pg_cd 140 56 = (49, 11, 33, 4, 0) := by decide +kernel
theorem c_140_59 : pg_cd 140 59 = (5, 1, 0, 0, 0) := by decide +kernel
theorem c_140_60 : pg_cd 140 60 = (5, 1, 0, 0, 0) := by decide +kernel
theorem c_140_61 : pg_cd 140 61 = (45, 11, 25, 3, 0) := by decide +kernel
theorem c_140_64 : pg_cd 140 64 = (45, 9, 34, 1, 0) := by decide +kernel
theorem c_140_67 : pg_cd 140 67 = (49, 11, 38, 5, 0) := by decide +kernel
theorem c_140_70 : pg_cd 140 70 = (5, 1, 0, 0, 0) := by decide +kernel
theorem c_140_71 : pg_cd 140 71 = (60, 3, 39, 7, 0) := by decide +kernel
theorem c_140_74 : pg_cd 140 74 = (33, 1, 0, 0, 0) := by decide +kernel
theorem c_140_75 : pg_cd 140 75 = (80, 32, 41, 0, 0) := by decide +kernel
theorem c_140_78 : pg_cd 140 78 = (49, 11, 42, 6, 0) := by decide +kernel
theorem c_140_81 : pg_cd 140 81 = (5, 1, 0, 0, 0) := by decide +kernel
theorem c_140_82 : pg_cd 140 82 = (60, 5, 46, 12, 0) := by decide +kernel
theorem c_140_85 : pg_cd 140 85 = (33, 1, 0, 0, 0) := by decide +kernel
theorem c_140_86 : pg_cd 140 86 = (80, 61, 48, 0, 0) := by decide +kernel
theorem c_140_89 : pg_cd 140 89 = (49, 11, 49, 7, 0) := by decide +kernel
theorem c_140_92 : pg_cd 140 92 = (5, 1, 0, 0, 0) := by decide +kernel
theorem c_140_93 : pg_cd 140 93 = (60, 2, 53, 2, 0) := by decide +kernel
theorem c_140_96 : pg_cd 140 96 = (33, 1, 0, 0, 0) := by decide +kernel
theorem c_140_97 : pg_cd 140 97 = (80, 25, 55, 0, 0) := by decide +kernel
theorem c_140_100 : pg_cd 140 100 = (49, 11, 56, 8, 0) := by decide +kernel
theorem c_140_103 : pg_cd 140 103 = (5, 1, 0, 0, 0) := by decide +kernel
theorem c_140_104 : pg_cd 140 104 = (60, 6, 60, 3, 0) := by decide +kernel
theorem c_140_107 : pg_cd 140 107 = (33, 1, 0, 0, 0) := by decide +kernel
theorem c_140_108 : pg_cd 140 108 = (80, 73, 62, 0, 0) := by decide +kernel
theorem c_140_111 : pg_cd 140 111 = (49, 11, 63, 9, 0) := by decide +kernel
theorem c_140_114 : pg_cd 140 114 = (5, 1, 0, 0, 0) := by decide +kernel
theorem c_140_115 : pg_cd 140 115 = (1, 3, 0, 0, 300) := by decide +kernel
theorem c_140_118 : pg_cd 140 118 = (59, 2, 0, 0, 0) := by decide +kernel
theorem c_140_120 : pg_cd 140 120 = (49, 11, 67, 10, 0) := by decide +kernel
theorem c_140_123 : pg_cd 140 123 = (94, 0, 0, 0, 0) := by decide +kernel
theorem mx_140 : pg_mx 140 = 1 := by decide +kernel
theorem m_140 {d : Nat} {h : ab_H} {Q : Option Value → ab_H → Prop} {x0 : Nat} (t : wq d 140 0 [.ref x0] [] h Q) : wm d 140 [.ref x0] h Q := by
  unfold wm
  rw [mx_140]
  exact t
set_option maxRecDepth 20000 in
theorem t_140_0 {d : Nat} {h : ab_H} {Q : Option Value → ab_H → Prop} {x0 : Nat} (t : ∀ h1 : ab_H, h1 = ab_new h 108 0 18 → ab_ok h1 (ab_n h) 108 = true ∧ wm d 86 [.ref ((ab_n h))] h1 (fun r9 h9 => wq (d + 1) 140 12 [.ref x0] (r9.toList ++ [.ref (ab_n h), .ref x0]) h9 Q)) : wq (d + 1) 140 0 [.ref x0] [] h Q := by
  refine g5 c_140_0 rfl ?_
  refine g61 c_140_1 (Nat.le_of_ble_eq_true rfl) ?_
  refine g5 c_140_4 rfl ?_
  refine g60 c_140_5 (fun h1 eh1 => ?_)
  have t := t h1 eh1
  refine g33a c_140_8 ?_
  exact g80 (As := []) (rest := [.ref (ab_n h), .ref x0]) c_140_9 rfl rfl (Nat.le_of_ble_eq_true rfl) (Nat.le_of_ble_eq_true rfl) t.1 t.2
set_option maxRecDepth 20000 in
theorem t_140_12 {d : Nat} {h : ab_H} {Q : Option Value → ab_H → Prop} {x0 : Nat} {s0 : Nat} {s1 : Nat} (t : ab_ok h s0 111 = true ∧ ∀ h1 : ab_H, h1 = ab_pr h s0 0 (some s1) → ∀ h2 : ab_H, h2 = ab_new h1 108 0 18 → ab_ok h2 (ab_n h1) 108 = true ∧ wm d 86 [.ref ((ab_n h1))] h2 (fun r9 h9 => wq (d + 1) 140 23 [.ref x0] (r9.toList ++ [.ref (ab_n h1), .ref x0]) h9 Q)) : wq (d + 1) 140 12 [.ref x0] [.ref s1, .ref s0] h Q := by
  obtain ⟨ho, t⟩ := t
  refine g49 c_140_12 ho (fun h1 eh1 => ?_)
  have t := t h1 eh1
  refine g5 c_140_15 rfl ?_
  refine g60 c_140_16 (fun h2 eh2 => ?_)
  have t := t h2 eh2
  refine g33a c_140_19 ?_
  exact g80 (As := []) (rest := [.ref (ab_n h1), .ref x0]) c_140_20 rfl rfl (Nat.le_of_ble_eq_true rfl) (Nat.le_of_ble_eq_true rfl) t.1 t.2
set_option maxRecDepth 20000 in
theorem t_140_23 {d : Nat} {h : ab_H} {Q : Option Value → ab_H → Prop} {x0 : Nat} {s0 : Nat} {s1 : Nat} (t : ab_ok h s0 111 = true ∧ ∀ h1 : ab_H, h1 = ab_pr h s0 1 (some s1) → ∀ h2 : ab_H, h2 = ab_new h1 108 0 18 → ab_ok h2 (ab_n h1) 108 = true ∧ wm d 86 [.ref ((ab_n h1))] h2 (fun r9 h9 => wq (d + 1) 140 34 [.ref x0] (r9.toList ++ [.ref (ab_n h1), .ref x0]) h9 Q)) : wq (d + 1) 140 23 [.ref x0] [.ref s1, .ref s0] h Q := by
  obtain ⟨ho, t⟩ := t
  refine g49 c_140_23 ho (fun h1 eh1 => ?_)
  have t := t h1 eh1
  refine g5 c_140_26 rfl ?_
  refine g60 c_140_27 (fun h2 eh2 => ?_)
  have t := t h2 eh2
  refine g33a c_140_30 ?_
  exact g80 (As := []) (rest := [.ref (ab_n h1), .ref x0]) c_140_31 rfl rfl (Nat.le_of_ble_eq_true rfl) (Nat.le_of_ble_eq_true rfl) t.1 t.2
set_option maxRecDepth 20000 in
theorem t_140_34 {d : Nat} {h : ab_H} {Q : Option Value → ab_H → Prop} {x0 : Nat} {s0 : Nat} {s1 : Nat} (t : ab_ok h s0 111 = true ∧ ∀ h1 : ab_H, h1 = ab_pr h s0 2 (some s1) → ∀ h2 : ab_H, h2 = ab_new h1 109 0 10 → ab_ok h2 (ab_n h1) 109 = true ∧ wm d 107 [.ref ((ab_n h1))] h2 (fun r9 h9 => wq (d + 1) 140 45 [.ref x0] (r9.toList ++ [.ref (ab_n h1), .ref x0]) h9 Q)) : wq (d + 1) 140 34 [.ref x0] [.ref s1, .ref s0] h Q := by
  obtain ⟨ho, t⟩ := t
  refine g49 c_140_34 ho (fun h1 eh1 => ?_)
  have t := t h1 eh1
  refine g5 c_140_37 rfl ?_
  refine g60 c_140_38 (fun h2 eh2 => ?_)
  have t := t h2 eh2
  refine g33a c_140_41 ?_
  exact g80 (As := []) (rest := [.ref (ab_n h1), .ref x0]) c_140_42 rfl rfl (Nat.le_of_ble_eq_true rfl) (Nat.le_of_ble_eq_true rfl) t.1 t.2
set_option maxRecDepth 20000 in
theorem t_140_45 {d : Nat} {h : ab_H} {Q : Option Value → ab_H → Prop} {x0 : Nat} {s0 : Nat} {s1 : Nat} (t : ab_ok h s0 111 = true ∧ ∀ h1 : ab_H, h1 = ab_pr h s0 3 (some s1) → ab_ok h1 x0 111 = true ∧ ∃ j2 : Nat, ab_r h1 x0 3 = some j2 ∧ ab_ok h1 j2 109 = true ∧ ∃ j3 : Nat, ab_r h1 j2 0 = some j3 ∧ ab_ok h1 x0 111 = true ∧ ∀ h4 : ab_H, h4 = ab_pr h1 x0 4 (some j3) → ab_ok h4 x0 111 = true ∧ ∃ j5 : Nat, ab_r h4 x0 3 = some j5 ∧ ab_ok h4 j5 109 = true ∧ ∃ j6 : Nat, ab_r h4 j5 1 = some j6 ∧ ab_ok h4 x0 111 = true ∧ ∀ h7 : ab_H, h7 = ab_pr h4 x0 5 (some j6) → ∀ h8 : ab_H, h8 = ab_new h7 103 0 7 → ab_ok h8 (ab_n h7) 103 = true ∧ wm d 32 [.ref ((ab_n h7))] h8 (fun r9 h9 => wq (d + 1) 140 78 [.ref x0] (r9.toList ++ [.ref (ab_n h7), .ref x0]) h9 Q)) : wq (d + 1) 140 45 [.ref x0] [.ref s1, .ref s0] h Q := by
  obtain ⟨ho, t⟩ := t
  refine g49 c_140_45 ho (fun h1 eh1 => ?_)
  have t := t h1 eh1
  refine g5 c_140_48 rfl ?_
  refine g5 c_140_49 rfl ?_
  obtain ⟨ho, j2, hr, t⟩ := t
  refine g45 c_140_50 ho hr ?_
  obtain ⟨ho, j3, hr, t⟩ := t
  refine g45 c_140_53 ho hr ?_
  obtain ⟨ho, t⟩ := t
  refine g49 c_140_56 ho (fun h4 eh4 => ?_)
  have t := t h4 eh4
  refine g5 c_140_59 rfl ?_
  refine g5 c_140_60 rfl ?_
  obtain ⟨ho, j5, hr, t⟩ := t
  refine g45 c_140_61 ho hr ?_
  obtain ⟨ho, j6, hr, t⟩ := t
  refine g45 c_140_64 ho hr ?_
  obtain ⟨ho, t⟩ := t
  refine g49 c_140_67 ho (fun h7 eh7 => ?_)
  have t := t h7 eh7
  refine g5 c_140_70 rfl ?_
  refine g60 c_140_71 (fun h8 eh8 => ?_)
  have t := t h8 eh8
  refine g33a c_140_74 ?_
  exact g80 (As := []) (rest := [.ref (ab_n h7), .ref x0]) c_140_75 rfl rfl (Nat.le_of_ble_eq_true rfl) (Nat.le_of_ble_eq_true rfl) t.1 t.2
set_option maxRecDepth 20000 in
theorem t_140_78 {d : Nat} {h : ab_H} {Q : Option Value → ab_H → Prop} {x0 : Nat} {s0 : Nat} {s1 : Nat} (t : ab_ok h s0 111 = true ∧ ∀ h1 : ab_H, h1 = ab_pr h s0 6 (some s1) → ∀ h2 : ab_H, h2 = ab_new h1 105 0 12 → ab_ok h2 (ab_n h1) 105 = true ∧ wm d 61 [.ref ((ab_n h1))] h2 (fun r9 h9 => wq (d + 1) 140 89 [.ref x0] (r9.toList ++ [.ref (ab_n h1), .ref x0]) h9 Q)) : wq (d + 1) 140 78 [.ref x0] [.ref s1, .ref s0] h Q := by
  obtain ⟨ho, t⟩ := t
  refine g49 c_140_78 ho (fun h1 eh1 => ?_)
  have t := t h1 eh1
  refine g5 c_140_81 rfl ?_
  refine g60 c_140_82 (fun h2 eh2 => ?_)
  have t := t h2 eh2
  refine g33a c_140_85 ?_
  exact g80 (As := []) (rest := [.ref (ab_n h1), .ref x0]) c_140_86 rfl rfl (Nat.le_of_ble_eq_true rfl) (Nat.le_of_ble_eq_true rfl) t.1 t.2
set_option maxRecDepth 20000 in
theorem t_140_89 {d : Nat} {h : ab_H} {Q : Option Value → ab_H → Prop} {x0 : Nat} {s0 : Nat} {s1 : Nat} (t : ab_ok h s0 111 = true ∧ ∀ h1 : ab_H, h1 = ab_pr h s0 7 (some s1) → ∀ h2 : ab_H, h2 = ab_new h1 102 0 2 → ab_ok h2 (ab_n h1) 102 = true ∧ wm d 25 [.ref ((ab_n h1))] h2 (fun r9 h9 => wq (d + 1) 140 100 [.ref x0] (r9.toList ++ [.ref (ab_n h1), .ref x0]) h9 Q)) : wq (d + 1) 140 89 [.ref x0] [.ref s1, .ref s0] h Q := by
  obtain ⟨ho, t⟩ := t
  refine g49 c_140_89 ho (fun h1 eh1 => ?_)
  have t := t h1 eh1
  refine g5 c_140_92 rfl ?_
  refine g60 c_140_93 (fun h2 eh2 => ?_)
  have t := t h2 eh2
  refine g33a c_140_96 ?_
  exact g80 (As := []) (rest := [.ref (ab_n h1), .ref x0]) c_140_97 rfl rfl (Nat.le_of_ble_eq_true rfl) (Nat.le_of_ble_eq_true rfl) t.1 t.2
set_option maxRecDepth 20000 in
theorem t_140_100 {d : Nat} {h : ab_H} {Q : Option Value → ab_H → Prop} {x0 : Nat} {s0 : Nat} {s1 : Nat} (t : ab_ok h s0 111 = true ∧ ∀ h1 : ab_H, h1 = ab_pr h s0 8 (some s1) → ∀ h2 : ab_H, h2 = ab_new h1 106 0 3 → ab_ok h2 (ab_n h1) 106 = true ∧ wm d 73 [.ref ((ab_n h1))] h2 (fun r9 h9 => wq (d + 1) 140 111 [.ref x0] (r9.toList ++ [.ref (ab_n h1), .ref x0]) h9 Q)) : wq (d + 1) 140 100 [.ref x0] [.ref s1, .ref s0] h Q := by
  obtain ⟨ho, t⟩ := t
  refine g49 c_140_100 ho (fun h1 eh1 => ?_)
  have t := t h1 eh1
  refine g5 c_140_103 rfl ?_
  refine g60 c_140_104 (fun h2 eh2 => ?_)
  have t := t h2 eh2
  refine g33a c_140_107 ?_
  exact g80 (As := []) (rest := [.ref (ab_n h1), .ref x0]) c_140_108 rfl rfl (Nat.le_of_ble_eq_true rfl) (Nat.le_of_ble_eq_true rfl) t.1 t.2
set_option maxRecDepth 20000 in
theorem t_140_111 {d : Nat} {h : ab_H} {Q : Option Value → ab_H → Prop} {x0 : Nat} {s0 : Nat} {s1 : Nat} (t : ab_ok h s0 111 = true ∧ ∀ h1 : ab_H, h1 = ab_pr h s0 9 (some s1) → (¬ (300 : Int32) < 0 ∧ Int32.toNatClampNeg (300 : Int32) ≤ 1000000) ∧ ∀ h2 : ab_H, h2 = ab_new h1 0 (Int32.toNatClampNeg (300 : Int32)) (Int32.toNatClampNeg (300 : Int32)) → ab_ok h2 x0 111 = true ∧ ∀ h3 : ab_H, h3 = ab_pr h2 x0 10 (some (ab_n h1)) → Q none h3) : wq d 140 111 [.ref x0] [.ref s1, .ref s0] h Q := by
  obtain ⟨ho, t⟩ := t
  refine g49 c_140_111 ho (fun h1 eh1 => ?_)
  have t := t h1 eh1
  refine g5 c_140_114 rfl ?_
  refine g1 c_140_115 k_300 ?_
  obtain ⟨ho, t⟩ := t
  refine g59 c_140_118 ho (fun h2 eh2 => ?_)
  have t := t h2 eh2
  obtain ⟨ho, t⟩ := t
  refine g49 c_140_120 ho (fun h3 eh3 => ?_)
  have t := t h3 eh3
  exact g94 c_140_123 t
-- method 141: MillTown.within(III)Z
theorem c_141_0 : pg_cd 141 0 = (3, 1, 0, 0, 0) := by decide +kernel
theorem c_141_1 : pg_cd 141 1 = (3, 1, 0, 1, 0) := by decide +kernel
theorem c_141_2 : pg_cd 141 2 = (37, 3, 0, 2, 12) := by decide +kernel
theorem c_141_5 : pg_cd 141 5 = (3, 1, 0, 0, 0) := by decide +kernel
theorem c_141_6 : pg_cd 141 6 = (3, 1, 0, 2, 0) := by decide +kernel
theorem c_141_7 : pg_cd 141 7 = (37, 3, 0, 4, 7) := by decide +kernel
theorem c_141_10 : pg_cd 141 10 = (1, 1, 0, 0, 1) := by decide +kernel
theorem c_141_11 : pg_cd 141 11 = (38, 3, 0, 0, 4) := by decide +kernel
theorem c_141_14 : pg_cd 141 14 = (1, 1, 0, 0, 0) := by decide +kernel
theorem c_141_15 : pg_cd 141 15 = (91, 0, 0, 0, 0) := by decide +kernel
theorem mx_141 : pg_mx 141 = 3 := by decide +kernel
theorem m_141 {d : Nat} {h : ab_H} {Q : Option Value → ab_H → Prop} {x0 : Int32} {x1 : Int32} {x2 : Int32} (t : wq d 141 0 [.int x0, .int x1, .int x2] [] h Q) : wm d 141 [.int x0, .int x1, .int x2] h Q := by
  unfold wm
  rw [mx_141]
  exact t
set_option maxRecDepth 20000 in
theorem t_141_0 {d : Nat} {h : ab_H} {Q : Option Value → ab_H → Prop} {x0 : Int32} {x1 : Int32} {x2 : Int32} (t : if x0 < x1 then (Q (some (.int 0)) h) else (if x2 < x0 then (Q (some (.int 0)) h) else (Q (some (.int 1)) h))) : wq d 141 0 [.int x0, .int x1, .int x2] [] h Q := by
  refine g3 c_141_0 rfl ?_
  refine g3 c_141_1 rfl ?_
  refine gcm c_141_2 (gbr t rfl rfl (fun hc t => ?_) (fun hc t => ?_))
  · refine g1 c_141_14 k_0 ?_
    exact g91 c_141_15 ⟨by decide, t⟩
  · refine g3 c_141_5 rfl ?_
    refine g3 c_141_6 rfl ?_
    refine gcm c_141_7 (gbr t rfl rfl (fun hc t => ?_) (fun hc t => ?_))
    · refine g1 c_141_14 k_0 ?_
      exact g91 c_141_15 ⟨by decide, t⟩
    · refine g1 c_141_10 k_1 ?_
      refine g38 c_141_11 rfl ?_
      exact g91 c_141_15 ⟨by decide, t⟩
-- method 142: MillTown.isWeek(I)Z
theorem c_142_0 : pg_cd 142 0 = (3, 1, 0, 0, 0) := by decide +kernel
theorem c_142_1 : pg_cd 142 1 = (36, 3, 0, 2, 14) := by decide +kernel
theorem c_142_4 : pg_cd 142 4 = (3, 1, 0, 0, 0) := by decide +kernel
theorem c_142_5 : pg_cd 142 5 = (1, 3, 0, 0, 400) := by decide +kernel
theorem c_142_8 : pg_cd 142 8 = (37, 3, 0, 3, 7) := by decide +kernel
theorem c_142_11 : pg_cd 142 11 = (1, 1, 0, 0, 1) := by decide +kernel
theorem c_142_12 : pg_cd 142 12 = (38, 3, 0, 0, 4) := by decide +kernel
theorem c_142_15 : pg_cd 142 15 = (1, 1, 0, 0, 0) := by decide +kernel
theorem c_142_16 : pg_cd 142 16 = (91, 0, 0, 0, 0) := by decide +kernel
theorem mx_142 : pg_mx 142 = 1 := by decide +kernel
theorem m_142 {d : Nat} {h : ab_H} {Q : Option Value → ab_H → Prop} {x0 : Int32} (t : wq d 142 0 [.int x0] [] h Q) : wm d 142 [.int x0] h Q := by
  unfold wm
  rw [mx_142]
  exact t
set_option maxRecDepth 20000 in
theorem t_142_0 {d : Nat} {h : ab_H} {Q : Option Value → ab_H → Prop} {x0 : Int32} (t : if x0 < 0 then (Q (some (.int 0)) h) else (if 400 ≤ x0 then (Q (some (.int 0)) h) else (Q (some (.int 1)) h))) : wq d 142 0 [.int x0] [] h Q := by
  refine g3 c_142_0 rfl ?_
  refine gif c_142_1 (gbr t rfl rfl (fun hc t => ?_) (fun hc t => ?_))
  · refine g1 c_142_15 k_0 ?_
    exact g91 c_142_16 ⟨by decide, t⟩
  · refine g3 c_142_4 rfl ?_
    refine g1 c_142_5 k_400 ?_
    refine gcm c_142_8 (gbr t rfl rfl (fun hc t => ?_) (fun hc t => ?_))
    · refine g1 c_142_15 k_0 ?_
      exact g91 c_142_16 ⟨by decide, t⟩
    · refine g1 c_142_11 k_1 ?_
      refine g38 c_142_12 rfl ?_
      exact g91 c_142_16 ⟨by decide, t⟩
-- method 143: MillTown.isPlace(I)Z
theorem c_143_0 : pg_cd 143 0 = (3, 1, 0, 1, 0) := by decide +kernel
theorem c_143_1 : pg_cd 143 1 = (1, 1, 0, 0, (-1)) := by decide +kernel
theorem c_143_2 : pg_cd 143 2 = (37, 3, 0, 0, 17) := by decide +kernel
theorem c_143_5 : pg_cd 143 5 = (5, 1, 0, 0, 0) := by decide +kernel
theorem c_143_6 : pg_cd 143 6 = (45, 11, 12, 0, 0) := by decide +kernel
theorem c_143_9 : pg_cd 143 9 = (45, 8, 71, 2, 0) := by decide +kernel
theorem c_143_12 : pg_cd 143 12 = (3, 1, 0, 1, 0) := by decide +kernel
theorem c_143_13 : pg_cd 143 13 = (80, 53, 75, 0, 0) := by decide +kernel
theorem c_143_16 : pg_cd 143 16 = (36, 3, 0, 0, 7) := by decide +kernel
theorem c_143_19 : pg_cd 143 19 = (1, 1, 0, 0, 1) := by decide +kernel
theorem c_143_20 : pg_cd 143 20 = (38, 3, 0, 0, 4) := by decide +kernel
theorem c_143_23 : pg_cd 143 23 = (1, 1, 0, 0, 0) := by decide +kernel
theorem c_143_24 : pg_cd 143 24 = (91, 0, 0, 0, 0) := by decide +kernel
theorem mx_143 : pg_mx 143 = 2 := by decide +kernel
theorem m_143 {d : Nat} {h : ab_H} {Q : Option Value → ab_H → Prop} {x0 : Nat} {x1 : Int32} (t : wq d 143 0 [.ref x0, .int x1] [] h Q) : wm d 143 [.ref x0, .int x1] h Q := by
  unfold wm
  rw [mx_143]
  exact t
set_option maxRecDepth 20000 in
theorem t_143_0 {d : Nat} {h : ab_H} {Q : Option Value → ab_H → Prop} {x0 : Nat} {x1 : Int32} (t : if x1 = (-1) then (Q (some (.int 1)) h) else (ab_ok h x0 111 = true ∧ ∃ j1 : Nat, ab_r h x0 0 = some j1 ∧ ab_ok h j1 108 = true ∧ ∃ j2 : Nat, ab_r h j1 2 = some j2 ∧ ab_ok h j2 104 = true ∧ wm d 53 [.ref j2, .int x1] h (fun r9 h9 => wq (d + 1) 143 16 [.ref x0, .int x1] (r9.toList ++ []) h9 Q))) : wq (d + 1) 143 0 [.ref x0, .int x1] [] h Q := by
  refine g3 c_143_0 rfl ?_
  refine g1 c_143_1 k_m1 ?_
  refine gcm c_143_2 (gbr t rfl rfl (fun hc t => ?_) (fun hc t => ?_))
  · refine g1 c_143_19 k_1 ?_
    refine g38 c_143_20 rfl ?_
    exact g91 c_143_24 ⟨by decide, t⟩
  · refine g5 c_143_5 rfl ?_
    obtain ⟨ho, j1, hr, t⟩ := t
    refine g45 c_143_6 ho hr ?_
    obtain ⟨ho, j2, hr, t⟩ := t
    refine g45 c_143_9 ho hr ?_
    refine g3 c_143_12 rfl ?_
    exact g80 (As := [.int x1]) (rest := []) c_143_13 rfl rfl (Nat.le_of_ble_eq_true rfl) (Nat.le_of_ble_eq_true rfl) t.1 t.2
set_option maxRecDepth 20000 in
theorem t_143_16 {d : Nat} {h : ab_H} {Q : Option Value → ab_H → Prop} {x0 : Nat} {x1 : Int32} {s0 : Int32} (t : if s0 = 0 then (Q (some (.int 0)) h) else (Q (some (.int 1)) h)) : wq d 143 16 [.ref x0, .int x1] [.int s0] h Q := by
  refine gif c_143_16 (gbr t rfl rfl (fun hc t => ?_) (fun hc t => ?_))
  · refine g1 c_143_23 k_0 ?_
    exact g91 c_143_24 ⟨by decide, t⟩
  · refine g1 c_143_19 k_1 ?_
    refine g38 c_143_20 rfl ?_
    exact g91 c_143_24 ⟨by decide, t⟩
-- method 144: MillTown.isText(I)Z
theorem c_144_0 : pg_cd 144 0 = (3, 1, 0, 1, 0) := by decide +kernel
theorem c_144_1 : pg_cd 144 1 = (36, 3, 0, 2, 18) := by decide +kernel
theorem c_144_4 : pg_cd 144 4 = (3, 1, 0, 1, 0) := by decide +kernel
theorem c_144_5 : pg_cd 144 5 = (5, 1, 0, 0, 0) := by decide +kernel
theorem c_144_6 : pg_cd 144 6 = (45, 11, 12, 0, 0) := by decide +kernel
theorem c_144_9 : pg_cd 144 9 = (43, 8, 81, 9, 0) := by decide +kernel
theorem c_144_12 : pg_cd 144 12 = (37, 3, 0, 3, 7) := by decide +kernel
theorem c_144_15 : pg_cd 144 15 = (1, 1, 0, 0, 1) := by decide +kernel
theorem c_144_16 : pg_cd 144 16 = (38, 3, 0, 0, 4) := by decide +kernel
theorem c_144_19 : pg_cd 144 19 = (1, 1, 0, 0, 0) := by decide +kernel
theorem c_144_20 : pg_cd 144 20 = (91, 0, 0, 0, 0) := by decide +kernel
theorem mx_144 : pg_mx 144 = 2 := by decide +kernel
theorem m_144 {d : Nat} {h : ab_H} {Q : Option Value → ab_H → Prop} {x0 : Nat} {x1 : Int32} (t : wq d 144 0 [.ref x0, .int x1] [] h Q) : wm d 144 [.ref x0, .int x1] h Q := by
  unfold wm
  rw [mx_144]
  exact t
set_option maxRecDepth 20000 in
theorem t_144_0 {d : Nat} {h : ab_H} {Q : Option Value → ab_H → Prop} {x0 : Nat} {x1 : Int32} (t : if x1 < 0 then (Q (some (.int 0)) h) else (ab_ok h x0 111 = true ∧ ∃ j1 : Nat, ab_r h x0 0 = some j1 ∧ ab_ok h j1 108 = true ∧ if (ab_i h j1 9) ≤ x1 then (Q (some (.int 0)) h) else (Q (some (.int 1)) h))) : wq d 144 0 [.ref x0, .int x1] [] h Q := by
  refine g3 c_144_0 rfl ?_
  refine gif c_144_1 (gbr t rfl rfl (fun hc t => ?_) (fun hc t => ?_))
  · refine g1 c_144_19 k_0 ?_
    exact g91 c_144_20 ⟨by decide, t⟩
  · refine g3 c_144_4 rfl ?_
    refine g5 c_144_5 rfl ?_
    obtain ⟨ho, j1, hr, t⟩ := t
    refine g45 c_144_6 ho hr ?_
    obtain ⟨ho, t⟩ := t
    refine g43 c_144_9 ho ?_
    refine gcm c_144_12 (gbr t rfl rfl (fun hc t => ?_) (fun hc t => ?_))
    · refine g1 c_144_19 k_0 ?_
      exact g91 c_144_20 ⟨by decide, t⟩
    · refine g1 c_144_15 k_1 ?_
      refine g38 c_144_16 rfl ?_
      exact g91 c_144_20 ⟨by decide, t⟩
-- method 145: MillTown.kind(IIIIII)Z
theorem c_145_0 : pg_cd 145 0 = (3, 1, 0, 1, 0) := by decide +kernel
theorem c_145_1 : pg_cd 145 1 = (1, 1, 0, 0, 0) := by decide +kernel
theorem c_145_2 : pg_cd 145 2 = (1, 1, 0, 0, 5) := by decide +kernel
theorem c_145_3 : pg_cd 145 3 = (81, 141, 85, 0, 0) := by decide +kernel
theorem c_145_6 : pg_cd 145 6 = (36, 3, 0, 0, 63) := by decide +kernel
theorem c_145_9 : pg_cd 145 9 = (3, 1, 0, 2, 0) := by decide +kernel
theorem c_145_10 : pg_cd 145 10 = (1, 2, 0, 0, 10) := by decide +kernel
theorem c_145_12 : pg_cd 145 12 = (1, 3, 0, 0, 200) := by decide +kernel
theorem c_145_15 : pg_cd 145 15 = (81, 141, 85, 0, 0) := by decide +kernel
theorem c_145_18 : pg_cd 145 18 = (36, 3, 0, 0, 51) := by decide +kernel
theorem c_145_21 : pg_cd 145 21 = (3, 1, 0, 3, 0) := by decide +kernel
theorem c_145_22 : pg_cd 145 22 = (1, 2, 0, 0, 20) := by decide +kernel
theorem c_145_24 : pg_cd 145 24 = (1, 2, 0, 0, 60) := by decide +kernel
theorem c_145_26 : pg_cd 145 26 = (81, 141, 85, 0, 0) := by decide +kernel
theorem c_145_29 : pg_cd 145 29 = (36, 3, 0, 0, 40) := by decide +kernel
theorem c_145_32 : pg_cd 145 32 = (3, 2, 0, 4, 0) := by decide +kernel
theorem c_145_34 : pg_cd 145 34 = (1, 1, 0, 0, 1) := by decide +kernel
theorem c_145_35 : pg_cd 145 35 = (1, 2, 0, 0, 50) := by decide +kernel
theorem c_145_37 : pg_cd 145 37 = (81, 141, 85, 0, 0) := by decide +kernel
theorem c_145_40 : pg_cd 145 40 = (36, 3, 0, 0, 29) := by decide +kernel
theorem c_145_43 : pg_cd 145 43 = (3, 2, 0, 5, 0) := by decide +kernel
theorem c_145_45 : pg_cd 145 45 = (1, 1, 0, 0, 0) := by decide +kernel
theorem c_145_46 : pg_cd 145 46 = (1, 2, 0, 0, 9) := by decide +kernel
theorem c_145_48 : pg_cd 145 48 = (81, 141, 85, 0, 0) := by decide +kernel
theorem c_145_51 : pg_cd 145 51 = (36, 3, 0, 0, 18) := by decide +kernel
theorem c_145_54 : pg_cd 145 54 = (3, 2, 0, 6, 0) := by decide +kernel
theorem c_145_56 : pg_cd 145 56 = (1, 1, 0, 0, 0) := by decide +kernel
theorem c_145_57 : pg_cd 145 57 = (1, 2, 89, 0, 1073741823) := by decide +kernel
theorem c_145_59 : pg_cd 145 59 = (81, 141, 85, 0, 0) := by decide +kernel
theorem c_145_62 : pg_cd 145 62 = (36, 3, 0, 0, 7) := by decide +kernel
theorem c_145_65 : pg_cd 145 65 = (1, 1, 0, 0, 1) := by decide +kernel
theorem c_145_66 : pg_cd 145 66 = (38, 3, 0, 0, 4) := by decide +kernel
theorem c_145_69 : pg_cd 145 69 = (1, 1, 0, 0, 0) := by decide +kernel
theorem c_145_70 : pg_cd 145 70 = (6, 2, 0, 7, 0) := by decide +kernel
theorem c_145_72 : pg_cd 145 72 = (3, 2, 0, 7, 0) := by decide +kernel
theorem c_145_74 : pg_cd 145 74 = (36, 3, 0, 0, 14) := by decide +kernel
theorem c_145_77 : pg_cd 145 77 = (5, 1, 0, 0, 0) := by decide +kernel
theorem c_145_78 : pg_cd 145 78 = (45, 11, 12, 0, 0) := by decide +kernel
theorem c_145_81 : pg_cd 145 81 = (3, 1, 0, 1, 0) := by decide +kernel
theorem c_145_82 : pg_cd 145 82 = (80, 89, 90, 0, 0) := by decide +kernel
theorem c_145_85 : pg_cd 145 85 = (36, 3, 0, 0, 5) := by decide +kernel
theorem c_145_88 : pg_cd 145 88 = (1, 1, 0, 0, 0) := by decide +kernel
theorem c_145_89 : pg_cd 145 89 = (91, 0, 0, 0, 0) := by decide +kernel
theorem c_145_90 : pg_cd 145 90 = (5, 1, 0, 0, 0) := by decide +kernel
theorem c_145_91 : pg_cd 145 91 = (45, 11, 12, 0, 0) := by decide +kernel
theorem c_145_94 : pg_cd 145 94 = (3, 1, 0, 1, 0) := by decide +kernel
theorem c_145_95 : pg_cd 145 95 = (3, 1, 0, 2, 0) := by decide +kernel
theorem c_145_96 : pg_cd 145 96 = (3, 1, 0, 3, 0) := by decide +kernel
theorem c_145_97 : pg_cd 145 97 = (3, 2, 0, 4, 0) := by decide +kernel
theorem c_145_99 : pg_cd 145 99 = (3, 2, 0, 5, 0) := by decide +kernel
theorem c_145_101 : pg_cd 145 101 = (3, 2, 0, 6, 0) := by decide +kernel
theorem c_145_103 : pg_cd 145 103 = (80, 88, 93, 0, 0) := by decide +kernel
theorem c_145_106 : pg_cd 145 106 = (1, 1, 0, 0, 1) := by decide +kernel
theorem c_145_107 : pg_cd 145 107 = (91, 0, 0, 0, 0) := by decide +kernel
theorem mx_145 : pg_mx 145 = 8 := by decide +kernel
theorem m_145 {d : Nat} {h : ab_H} {Q : Option Value → ab_H → Prop} {x0 : Nat} {x1 : Int32} {x2 : Int32} {x3 : Int32} {x4 : Int32} {x5 : Int32} {x6 : Int32} (t : wq d 145 0 [.ref x0, .int x1, .int x2, .int x3, .int x4, .int x5, .int x6, .retAddr 0] [] h Q) : wm d 145 [.ref x0, .int x1, .int x2, .int x3, .int x4, .int x5, .int x6] h Q := by
  unfold wm
  rw [mx_145]
  exact t
set_option maxRecDepth 20000 in
theorem t_145_0 {d : Nat} {h : ab_H} {Q : Option Value → ab_H → Prop} {x0 : Nat} {x1 : Int32} {x2 : Int32} {x3 : Int32} {x4 : Int32} {x5 : Int32} {x6 : Int32} (t : wm d 141 [.int x1, .int 0, .int 5] h (fun r9 h9 => wq (d + 1) 145 6 [.ref x0, .int x1, .int x2, .int x3, .int x4, .int x5, .int x6, .retAddr 0] (r9.toList ++ []) h9 Q)) : wq (d + 1) 145 0 [.ref x0, .int x1, .int x2, .int x3, .int x4, .int x5, .int x6, .retAddr 0] [] h Q := by
  refine g3 c_145_0 rfl ?_
  refine g1 c_145_1 k_0 ?_
  refine g1 c_145_2 k_5 ?_
  exact g81 (As := [.int x1, .int 0, .int 5]) (rest := []) c_145_3 rfl rfl (Nat.le_of_ble_eq_true rfl) (Nat.le_of_ble_eq_true rfl) t
set_option maxRecDepth 20000 in
theorem t_145_6 {d : Nat} {h : ab_H} {Q : Option Value → ab_H → Prop} {x0 : Nat} {x1 : Int32} {x2 : Int32} {x3 : Int32} {x4 : Int32} {x5 : Int32} {x6 : Int32} {s0 : Int32} (t : if s0 = 0 then (if (0 : Int32) = 0 then (Q (some (.int 0)) h) else (ab_ok h x0 111 = true ∧ ∃ j1 : Nat, ab_r h x0 0 = some j1 ∧ ab_ok h j1 108 = true ∧ wm d 89 [.ref j1, .int x1] h (fun r9 h9 => wq (d + 1) 145 85 [.ref x0, .int x1, .int x2, .int x3, .int x4, .int x5, .int x6, .int 0] (r9.toList ++ []) h9 Q))) else (wm d 141 [.int x2, .int 10, .int 200] h (fun r9 h9 => wq (d + 1) 145 18 [.ref x0, .int x1, .int x2, .int x3, .int x4, .int x5, .int x6, .retAddr 0] (r9.toList ++ []) h9 Q))) : wq (d + 1) 145 6 [.ref x0, .int x1, .int x2, .int x3, .int x4, .int x5, .int x6, .retAddr 0] [.int s0] h Q := by
  refine gif c_145_6 (gbr t rfl rfl (fun hc t => ?_) (fun hc t => ?_))
  · refine g1 c_145_69 k_0 ?_
    refine g6 (L' := [.ref x0, .int x1, .int x2, .int x3, .int x4, .int x5, .int x6, .int 0]) c_145_70 rfl ?_
    refine g3 c_145_72 rfl ?_
    refine gif c_145_74 (gbr t rfl rfl (fun hc t => ?_) (fun hc t => ?_))
    · refine g1 c_145_88 k_0 ?_
      exact g91 c_145_89 ⟨by decide, t⟩
    · refine g5 c_145_77 rfl ?_
      obtain ⟨ho, j1, hr, t⟩ := t
      refine g45 c_145_78 ho hr ?_
      refine g3 c_145_81 rfl ?_
      exact g80 (As := [.int x1]) (rest := []) c_145_82 rfl rfl (Nat.le_of_ble_eq_true rfl) (Nat.le_of_ble_eq_true rfl) t.1 t.2
  · refine g3 c_145_9 rfl ?_
    refine g1 c_145_10 k_10 ?_
    refine g1 c_145_12 k_200 ?_
    exact g81 (As := [.int x2, .int 10, .int 200]) (rest := []) c_145_15 rfl rfl (Nat.le_of_ble_eq_true rfl) (Nat.le_of_ble_eq_true rfl) t
set_option maxRecDepth 20000 in
theorem t_145_18 {d : Nat} {h : ab_H} {Q : Option Value → ab_H → Prop} {x0 : Nat} {x1 : Int32} {x2 : Int32} {x3 : Int32} {x4 : Int32} {x5 : Int32} {x6 : Int32} {s0 : Int32} (t : if s0 = 0 then (if (0 : Int32) = 0 then (Q (some (.int 0)) h) else (ab_ok h x0 111 = true ∧ ∃ j1 : Nat, ab_r h x0 0 = some j1 ∧ ab_ok h j1 108 = true ∧ wm d 89 [.ref j1, .int x1] h (fun r9 h9 => wq (d + 1) 145 85 [.ref x0, .int x1, .int x2, .int x3, .int x4, .int x5, .int x6, .int 0] (r9.toList ++ []) h9 Q))) else (wm d 141 [.int x3, .int 20, .int 60] h (fun r9 h9 => wq (d + 1) 145 29 [.ref x0, .int x1, .int x2, .int x3, .int x4, .int x5, .int x6, .retAddr 0] (r9.toList ++ []) h9 Q))) : wq (d + 1) 145 18 [.ref x0, .int x1, .int x2, .int x3, .int x4, .int x5, .int x6, .retAddr 0] [.int s0] h Q := by
  refine gif c_145_18 (gbr t rfl rfl (fun hc t => ?_) (fun hc t => ?_))
  · refine g1 c_145_69 k_0 ?_
    refine g6 (L' := [.ref x0, .int x1, .int x2, .int x3, .int x4, .int x5, .int x6, .int 0]) c_145_70 rfl ?_
    refine g3 c_145_72 rfl ?_
    refine gif c_145_74 (gbr t rfl rfl (fun hc t => ?_) (fun hc t => ?_))
    · refine g1 c_145_88 k_0 ?_
      exact g91 c_145_89 ⟨by decide, t⟩
    · refine g5 c_145_77 rfl ?_
      obtain ⟨ho, j1, hr, t⟩ := t
      refine g45 c_145_78 ho hr ?_
      refine g3 c_145_81 rfl ?_
      exact g80 (As := [.int x1]) (rest := []) c_145_82 rfl rfl (Nat.le_of_ble_eq_true rfl) (Nat.le_of_ble_eq_true rfl) t.1 t.2
  · refine g3 c_145_21 rfl ?_
    refine g1 c_145_22 k_20 ?_
    refine g1 c_145_24 k_60 ?_
    exact g81 (As := [.int x3, .int 20, .int 60]) (rest := []) c_145_26 rfl rfl (Nat.le_of_ble_eq_true rfl) (Nat.le_of_ble_eq_true rfl) t
set_option maxRecDepth 20000 in
theorem t_145_29 {d : Nat} {h : ab_H} {Q : Option Value → ab_H → Prop} {x0 : Nat} {x1 : Int32} {x2 : Int32} {x3 : Int32} {x4 : Int32} {x5 : Int32} {x6 : Int32} {s0 : Int32} (t : if s0 = 0 then (if (0 : Int32) = 0 then (Q (some (.int 0)) h) else (ab_ok h x0 111 = true ∧ ∃ j1 : Nat, ab_r h x0 0 = some j1 ∧ ab_ok h j1 108 = true ∧ wm d 89 [.ref j1, .int x1] h (fun r9 h9 => wq (d + 1) 145 85 [.ref x0, .int x1, .int x2, .int x3, .int x4, .int x5, .int x6, .int 0] (r9.toList ++ []) h9 Q))) else (wm d 141 [.int x4, .int 1, .int 50] h (fun r9 h9 => wq (d + 1) 145 40 [.ref x0, .int x1, .int x2, .int x3, .int x4, .int x5, .int x6, .retAddr 0] (r9.toList ++ []) h9 Q))) : wq (d + 1) 145 29 [.ref x0, .int x1, .int x2, .int x3, .int x4, .int x5, .int x6, .retAddr 0] [.int s0] h Q := by
  refine gif c_145_29 (gbr t rfl rfl (fun hc t => ?_) (fun hc t => ?_))
  · refine g1 c_145_69 k_0 ?_
    refine g6 (L' := [.ref x0, .int x1, .int x2, .int x3, .int x4, .int x5, .int x6, .int 0]) c_145_70 rfl ?_
    refine g3 c_145_72 rfl ?_
    refine gif c_145_74 (gbr t rfl rfl (fun hc t => ?_) (fun hc t => ?_))
    · refine g1 c_145_88 k_0 ?_
      exact g91 c_145_89 ⟨by decide, t⟩
    · refine g5 c_145_77 rfl ?_
      obtain ⟨ho, j1, hr, t⟩ := t
      refine g45 c_145_78 ho hr ?_
      refine g3 c_145_81 rfl ?_
      exact g80 (As := [.int x1]) (rest := []) c_145_82 rfl rfl (Nat.le_of_ble_eq_true rfl) (Nat.le_of_ble_eq_true rfl) t.1 t.2
  · refine g3 c_145_32 rfl ?_
    refine g1 c_145_34 k_1 ?_
    refine g1 c_145_35 k_50 ?_
    exact g81 (As := [.int x4, .int 1, .int 50]) (rest := []) c_145_37 rfl rfl (Nat.le_of_ble_eq_true rfl) (Nat.le_of_ble_eq_true rfl) t
set_option maxRecDepth 20000 in
theorem t_145_40 {d : Nat} {h : ab_H} {Q : Option Value → ab_H → Prop} {x0 : Nat} {x1 : Int32} {x2 : Int32} {x3 : Int32} {x4 : Int32} {x5 : Int32} {x6 : Int32} {s0 : Int32} (t : if s0 = 0 then (if (0 : Int32) = 0 then (Q (some (.int 0)) h) else (ab_ok h x0 111 = true ∧ ∃ j1 : Nat, ab_r h x0 0 = some j1 ∧ ab_ok h j1 108 = true ∧ wm d 89 [.ref j1, .int x1] h (fun r9 h9 => wq (d + 1) 145 85 [.ref x0, .int x1, .int x2, .int x3, .int x4, .int x5, .int x6, .int 0] (r9.toList ++ []) h9 Q))) else (wm d 141 [.int x5, .int 0, .int 9] h (fun r9 h9 => wq (d + 1) 145 51 [.ref x0, .int x1, .int x2, .int x3, .int x4, .int x5, .int x6, .retAddr 0] (r9.toList ++ []) h9 Q))) : wq (d + 1) 145 40 [.ref x0, .int x1, .int x2, .int x3, .int x4, .int x5, .int x6, .retAddr 0] [.int s0] h Q := by
  refine gif c_145_40 (gbr t rfl rfl (fun hc t => ?_) (fun hc t => ?_))
  · refine g1 c_145_69 k_0 ?_
    refine g6 (L' := [.ref x0, .int x1, .int x2, .int x3, .int x4, .int x5, .int x6, .int 0]) c_145_70 rfl ?_
    refine g3 c_145_72 rfl ?_
    refine gif c_145_74 (gbr t rfl rfl (fun hc t => ?_) (fun hc t => ?_))
    · refine g1 c_145_88 k_0 ?_
      exact g91 c_145_89 ⟨by decide, t⟩
    · refine g5 c_145_77 rfl ?_
      obtain ⟨ho, j1, hr, t⟩ := t
      refine g45 c_145_78 ho hr ?_
      refine g3 c_145_81 rfl ?_
      exact g80 (As := [.int x1]) (rest := []) c_145_82 rfl rfl (Nat.le_of_ble_eq_true rfl) (Nat.le_of_ble_eq_true rfl) t.1 t.2
  · refine g3 c_145_43 rfl ?_
    refine g1 c_145_45 k_0 ?_
    refine g1 c_145_46 k_9 ?_
    exact g81 (As := [.int x5, .int 0, .int 9]) (rest := []) c_145_48 rfl rfl (Nat.le_of_ble_eq_true rfl) (Nat.le_of_ble_eq_true rfl) t
set_option maxRecDepth 20000 in
theorem t_145_51 {d : Nat} {h : ab_H} {Q : Option Value → ab_H → Prop} {x0 : Nat} {x1 : Int32} {x2 : Int32} {x3 : Int32} {x4 : Int32} {x5 : Int32} {x6 : Int32} {s0 : Int32} (t : if s0 = 0 then (if (0 : Int32) = 0 then (Q (some (.int 0)) h) else (ab_ok h x0 111 = true ∧ ∃ j1 : Nat, ab_r h x0 0 = some j1 ∧ ab_ok h j1 108 = true ∧ wm d 89 [.ref j1, .int x1] h (fun r9 h9 => wq (d + 1) 145 85 [.ref x0, .int x1, .int x2, .int x3, .int x4, .int x5, .int x6, .int 0] (r9.toList ++ []) h9 Q))) else (wm d 141 [.int x6, .int 0, .int 1073741823] h (fun r9 h9 => wq (d + 1) 145 62 [.ref x0, .int x1, .int x2, .int x3, .int x4, .int x5, .int x6, .retAddr 0] (r9.toList ++ []) h9 Q))) : wq (d + 1) 145 51 [.ref x0, .int x1, .int x2, .int x3, .int x4, .int x5, .int x6, .retAddr 0] [.int s0] h Q := by
  refine gif c_145_51 (gbr t rfl rfl (fun hc t => ?_) (fun hc t => ?_))
  · refine g1 c_145_69 k_0 ?_
    refine g6 (L' := [.ref x0, .int x1, .int x2, .int x3, .int x4, .int x5, .int x6, .int 0]) c_145_70 rfl ?_
    refine g3 c_145_72 rfl ?_
    refine gif c_145_74 (gbr t rfl rfl (fun hc t => ?_) (fun hc t => ?_))
    · refine g1 c_145_88 k_0 ?_
      exact g91 c_145_89 ⟨by decide, t⟩
    · refine g5 c_145_77 rfl ?_
      obtain ⟨ho, j1, hr, t⟩ := t
      refine g45 c_145_78 ho hr ?_
      refine g3 c_145_81 rfl ?_
      exact g80 (As := [.int x1]) (rest := []) c_145_82 rfl rfl (Nat.le_of_ble_eq_true rfl) (Nat.le_of_ble_eq_true rfl) t.1 t.2
  · refine g3 c_145_54 rfl ?_
    refine g1 c_145_56 k_0 ?_
    refine g1 c_145_57 k_1073741823 ?_
    exact g81 (As := [.int x6, .int 0, .int 1073741823]) (rest := []) c_145_59 rfl rfl (Nat.le_of_ble_eq_true rfl) (Nat.le_of_ble_eq_true rfl) t
set_option maxRecDepth 20000 in
theorem t_145_62 {d : Nat} {h : ab_H} {Q : Option Value → ab_H → Prop} {x0 : Nat} {x1 : Int32} {x2 : Int32} {x3 : Int32} {x4 : Int32} {x5 : Int32} {x6 : Int32} {s0 : Int32} (t : if s0 = 0 then (if (0 : Int32) = 0 then (Q (some (.int 0)) h) else (ab_ok h x0 111 = true ∧ ∃ j1 : Nat, ab_r h x0 0 = some j1 ∧ ab_ok h j1 108 = true ∧ wm d 89 [.ref j1, .int x1] h (fun r9 h9 => wq (d + 1) 145 85 [.ref x0, .int x1, .int x2, .int x3, .int x4, .int x5, .int x6, .int 0] (r9.toList ++ []) h9 Q))) else (if (1 : Int32) = 0 then (Q (some (.int 0)) h) else (ab_ok h x0 111 = true ∧ ∃ j2 : Nat, ab_r h x0 0 = some j2 ∧ ab_ok h j2 108 = true ∧ wm d 89 [.ref j2, .int x1] h (fun r9 h9 => wq (d + 1) 145 85 [.ref x0, .int x1, .int x2, .int x3, .int x4, .int x5, .int x6, .int 1] (r9.toList ++ []) h9 Q)))) : wq (d + 1) 145 62 [.ref x0, .int x1, .int x2, .int x3, .int x4, .int x5, .int x6, .retAddr 0] [.int s0] h Q := by
  refine gif c_145_62 (gbr t rfl rfl (fun hc t => ?_) (fun hc t => ?_))
  · refine g1 c_145_69 k_0 ?_
    refine g6 (L' := [.ref x0, .int x1, .int x2, .int x3, .int x4, .int x5, .int x6, .int 0]) c_145_70 rfl ?_
    refine g3 c_145_72 rfl ?_
    refine gif c_145_74 (gbr t rfl rfl (fun hc t => ?_) (fun hc t => ?_))
    · refine g1 c_145_88 k_0 ?_
      exact g91 c_145_89 ⟨by decide, t⟩
    · refine g5 c_145_77 rfl ?_
      obtain ⟨ho, j1, hr, t⟩ := t
      refine g45 c_145_78 ho hr ?_
      refine g3 c_145_81 rfl ?_
      exact g80 (As := [.int x1]) (rest := []) c_145_82 rfl rfl (Nat.le_of_ble_eq_true rfl) (Nat.le_of_ble_eq_true rfl) t.1 t.2
  · refine g1 c_145_65 k_1 ?_
    refine g38 c_145_66 rfl ?_
    refine g6 (L' := [.ref x0, .int x1, .int x2, .int x3, .int x4, .int x5, .int x6, .int 1]) c_145_70 rfl ?_
    refine g3 c_145_72 rfl ?_
    refine gif c_145_74 (gbr t rfl rfl (fun hc t => ?_) (fun hc t => ?_))
    · refine g1 c_145_88 k_0 ?_
      exact g91 c_145_89 ⟨by decide, t⟩
    · refine g5 c_145_77 rfl ?_
      obtain ⟨ho, j2, hr, t⟩ := t
      refine g45 c_145_78 ho hr ?_
      refine g3 c_145_81 rfl ?_
      exact g80 (As := [.int x1]) (rest := []) c_145_82 rfl rfl (Nat.le_of_ble_eq_true rfl) (Nat.le_of_ble_eq_true rfl) t.1 t.2
set_option maxRecDepth 20000 in
theorem t_145_85 {d : Nat} {h : ab_H} {Q : Option Value → ab_H → Prop} {x0 : Nat} {x1 : Int32} {x2 : Int32} {x3 : Int32} {x4 : Int32} {x5 : Int32} {x6 : Int32} {x7 : Int32} {s0 : Int32} (t : if s0 = 0 then (ab_ok h x0 111 = true ∧ ∃ j1 : Nat, ab_r h x0 0 = some j1 ∧ ab_ok h j1 108 = true ∧ wm d 88 [.ref j1, .int x1, .int x2, .int x3, .int x4, .int x5, .int x6] h (fun r9 h9 => wq (d + 1) 145 106 [.ref x0, .int x1, .int x2, .int x3, .int x4, .int x5, .int x6, .int x7] (r9.toList ++ []) h9 Q)) else (Q (some (.int 0)) h)) : wq (d + 1) 145 85 [.ref x0, .int x1, .int x2, .int x3, .int x4, .int x5, .int x6, .int x7] [.int s0] h Q := by
  refine gif c_145_85 (gbr t rfl rfl (fun hc t => ?_) (fun hc t => ?_))
  · refine g5 c_145_90 rfl ?_
    obtain ⟨ho, j1, hr, t⟩ := t
    refine g45 c_145_91 ho hr ?_
    refine g3 c_145_94 rfl ?_
    refine g3 c_145_95 rfl ?_
    refine g3 c_145_96 rfl ?_
    refine g3 c_145_97 rfl ?_
    refine g3 c_145_99 rfl ?_
    refine g3 c_145_101 rfl ?_
    exact g80 (As := [.int x1, .int x2, .int x3, .int x4, .int x5, .int x6]) (rest := []) c_145_103 rfl rfl (Nat.le_of_ble_eq_true rfl) (Nat.le_of_ble_eq_true rfl) t.1 t.2
  · refine g1 c_145_88 k_0 ?_
    exact g91 c_145_89 ⟨by decide, t⟩
set_option maxRecDepth 20000 in
theorem t_145_106 {d : Nat} {h : ab_H} {Q : Option Value → ab_H → Prop} {x0 : Nat} {x1 : Int32} {x2 : Int32} {x3 : Int32} {x4 : Int32} {x5 : Int32} {x6 : Int32} {x7 : Int32} (t : Q (some (.int 1)) h) : wq d 145 106 [.ref x0, .int x1, .int x2, .int x3, .int x4, .int x5, .int x6, .int x7] [] h Q := by
  refine g1 c_145_106 k_1 ?_
  exact g91 c_145_107 ⟨by decide, t⟩
-- method 146: MillTown.price(III)Z
theorem c_146_0 : pg_cd 146 0 = (3, 1, 0, 1, 0) := by decide +kernel
theorem c_146_1 : pg_cd 146 1 = (1, 1, 0, 0, 0) := by decide +kernel
theorem c_146_2 : pg_cd 146 2 = (1, 2, 0, 0, 7) := by decide +kernel
theorem c_146_4 : pg_cd 146 4 = (81, 141, 85, 0, 0) := by decide +kernel
theorem c_146_7 : pg_cd 146 7 = (36, 3, 0, 0, 25) := by decide +kernel
theorem c_146_10 : pg_cd 146 10 = (3, 1, 0, 2, 0) := by decide +kernel
theorem c_146_11 : pg_cd 146 11 = (81, 142, 97, 0, 0) := by decide +kernel
theorem c_146_14 : pg_cd 146 14 = (36, 3, 0, 0, 18) := by decide +kernel
theorem c_146_17 : pg_cd 146 17 = (3, 1, 0, 3, 0) := by decide +kernel
theorem c_146_18 : pg_cd 146 18 = (1, 1, 0, 0, (-1)) := by decide +kernel
theorem c_146_19 : pg_cd 146 19 = (37, 3, 0, 0, 15) := by decide +kernel
theorem c_146_22 : pg_cd 146 22 = (3, 1, 0, 3, 0) := by decide +kernel
theorem c_146_23 : pg_cd 146 23 = (1, 1, 0, 0, 1) := by decide +kernel
theorem c_146_24 : pg_cd 146 24 = (1, 2, 100, 0, 100000) := by decide +kernel
theorem c_146_26 : pg_cd 146 26 = (81, 141, 85, 0, 0) := by decide +kernel
theorem c_146_29 : pg_cd 146 29 = (36, 3, 0, 1, 5) := by decide +kernel
theorem c_146_32 : pg_cd 146 32 = (1, 1, 0, 0, 0) := by decide +kernel
theorem c_146_33 : pg_cd 146 33 = (91, 0, 0, 0, 0) := by decide +kernel
theorem c_146_34 : pg_cd 146 34 = (5, 1, 0, 0, 0) := by decide +kernel
theorem c_146_35 : pg_cd 146 35 = (45, 11, 12, 0, 0) := by decide +kernel
theorem c_146_38 : pg_cd 146 38 = (45, 8, 101, 1, 0) := by decide +kernel
theorem c_146_41 : pg_cd 146 41 = (3, 1, 0, 1, 0) := by decide +kernel
theorem c_146_42 : pg_cd 146 42 = (3, 1, 0, 2, 0) := by decide +kernel
theorem c_146_43 : pg_cd 146 43 = (3, 1, 0, 3, 0) := by decide +kernel
theorem c_146_44 : pg_cd 146 44 = (80, 56, 104, 0, 0) := by decide +kernel
theorem c_146_47 : pg_cd 146 47 = (1, 1, 0, 0, 1) := by decide +kernel
theorem c_146_48 : pg_cd 146 48 = (91, 0, 0, 0, 0) := by decide +kernel
theorem mx_146 : pg_mx 146 = 4 := by decide +kernel
theorem m_146 {d : Nat} {h : ab_H} {Q : Option Value → ab_H → Prop} {x0 : Nat} {x1 : Int32} {x2 : Int32} {x3 : Int32} (t : wq d 146 0 [.ref x0, .int x1, .int x2, .int x3] [] h Q) : wm d 146 [.ref x0, .int x1, .int x2, .int x3] h Q := by
  unfold wm
  rw [mx_146]
  exact t
set_option maxRecDepth 20000 in
theorem t_146_0 {d : Nat} {h : ab_H} {Q : Option Value → ab_H → Prop} {x0 : Nat} {x1 : Int32} {x2 : Int32} {x3 : Int32} (t : wm d 141 [.int x1, .int 0, .int 7] h (fun r9 h9 => wq (d + 1) 146 7 [.ref x0, .int x1, .int x2, .int x3] (r9.toList ++ []) h9 Q)) : wq (d + 1) 146 0 [.ref x0, .int x1, .int x2, .int x3] [] h Q := by
  refine g3 c_146_0 rfl ?_
  refine g1 c_146_1 k_0 ?_
  refine g1 c_146_2 k_7 ?_
  exact g81 (As := [.int x1, .int 0, .int 7]) (rest := []) c_146_4 rfl rfl (Nat.le_of_ble_eq_true rfl) (Nat.le_of_ble_eq_true rfl) t
set_option maxRecDepth 20000 in
theorem t_146_7 {d : Nat} {h : ab_H} {Q : Option Value → ab_H → Prop} {x0 : Nat} {x1 : Int32} {x2 : Int32} {x3 : Int32} {s0 : Int32} (t : if s0 = 0 then (Q (some (.int 0)) h) else (wm d 142 [.int x2] h (fun r9 h9 => wq (d + 1) 146 14 [.ref x0, .int x1, .int x2, .int x3] (r9.toList ++ []) h9 Q))) : wq (d + 1) 146 7 [.ref x0, .int x1, .int x2, .int x3] [.int s0] h Q := by
  refine gif c_146_7 (gbr t rfl rfl (fun hc t => ?_) (fun hc t => ?_))
  · refine g1 c_146_32 k_0 ?_
    exact g91 c_146_33 ⟨by decide, t⟩
  · refine g3 c_146_10 rfl ?_
    exact g81 (As := [.int x2]) (rest := []) c_146_11 rfl rfl (Nat.le_of_ble_eq_true rfl) (Nat.le_of_ble_eq_true rfl) t
set_option maxRecDepth 20000 in
theorem t_146_14 {d : Nat} {h : ab_H} {Q : Option Value → ab_H → Prop} {x0 : Nat} {x1 : Int32} {x2 : Int32} {x3 : Int32} {s0 : Int32} (t : if s0 = 0 then (Q (some (.int 0)) h) else (if x3 = (-1) then (ab_ok h x0 111 = true ∧ ∃ j1 : Nat, ab_r h x0 0 = some j1 ∧ ab_ok h j1 108 = true ∧ ∃ j2 : Nat, ab_r h j1 1 = some j2 ∧ ab_ok h j2 104 = true ∧ wm d 56 [.ref j2, .int x1, .int x2, .int x3] h (fun r9 h9 => wq (d + 1) 146 47 [.ref x0, .int x1, .int x2, .int x3] (r9.toList ++ []) h9 Q)) else (wm d 141 [.int x3, .int 1, .int 100000] h (fun r9 h9 => wq (d + 1) 146 29 [.ref x0, .int x1, .int x2, .int x3] (r9.toList ++ []) h9 Q)))) : wq (d + 1) 146 14 [.ref x0, .int x1, .int x2, .int x3] [.int s0] h Q := by
  refine gif c_146_14 (gbr t rfl rfl (fun hc t => ?_) (fun hc t => ?_))
  · refine g1 c_146_32 k_0 ?_
    exact g91 c_146_33 ⟨by decide, t⟩
  · refine g3 c_146_17 rfl ?_
    refine g1 c_146_18 k_m1 ?_
    refine gcm c_146_19 (gbr t rfl rfl (fun hc t => ?_) (fun hc t => ?_))
    · refine g5 c_146_34 rfl ?_
      obtain ⟨ho, j1, hr, t⟩ := t
      refine g45 c_146_35 ho hr ?_
      obtain ⟨ho, j2, hr, t⟩ := t
      refine g45 c_146_38 ho hr ?_
      refine g3 c_146_41 rfl ?_
      refine g3 c_146_42 rfl ?_
      refine g3 c_146_43 rfl ?_
      exact g80 (As := [.int x1, .int x2, .int x3]) (rest := []) c_146_44 rfl rfl (Nat.le_of_ble_eq_true rfl) (Nat.le_of_ble_eq_true rfl) t.1 t.2
    · refine g3 c_146_22 rfl ?_
      refine g1 c_146_23 k_1 ?_
      refine g1 c_146_24 k_100000 ?_
      exact g81 (As := [.int x3, .int 1, .int 100000]) (rest := []) c_146_26 rfl rfl (Nat.le_of_ble_eq_true rfl) (Nat.le_of_ble_eq_true rfl) t
set_option maxRecDepth 20000 in
theorem t_146_29 {d : Nat} {h : ab_H} {Q : Option Value → ab_H → Prop} {x0 : Nat} {x1 : Int32} {x2 : Int32} {x3 : Int32} {s0 : Int32} (t : if s0 = 0 then (Q (some (.int 0)) h) else (ab_ok h x0 111 = true ∧ ∃ j1 : Nat, ab_r h x0 0 = some j1 ∧ ab_ok h j1 108 = true ∧ ∃ j2 : Nat, ab_r h j1 1 = some j2 ∧ ab_ok h j2 104 = true ∧ wm d 56 [.ref j2, .int x1, .int x2, .int x3] h (fun r9 h9 => wq (d + 1) 146 47 [.ref x0, .int x1, .int x2, .int x3] (r9.toList ++ []) h9 Q))) : wq (d + 1) 146 29 [.ref x0, .int x1, .int x2, .int x3] [.int s0] h Q := by
  refine gif c_146_29 (gbn t (ab_c1 _ _) rfl (fun hc t => ?_) (fun hc t => ?_))
  · refine g1 c_146_32 k_0 ?_
    exact g91 c_146_33 ⟨by decide, t⟩
  · refine g5 c_146_34 rfl ?_
    obtain ⟨ho, j1, hr, t⟩ := t
    refine g45 c_146_35 ho hr ?_
    obtain ⟨ho, j2, hr, t⟩ := t
    refine g45 c_146_38 ho hr ?_
    refine g3 c_146_41 rfl ?_
    refine g3 c_146_42 rfl ?_
    refine g3 c_146_43 rfl ?_
    exact g80 (As := [.int x1, .int x2, .int x3]) (rest := []) c_146_44 rfl rfl (Nat.le_of_ble_eq_true rfl) (Nat.le_of_ble_eq_true rfl) t.1 t.2
set_option maxRecDepth 20000 in
theorem t_146_47 {d : Nat} {h : ab_H} {Q : Option Value → ab_H → Prop} {x0 : Nat} {x1 : Int32} {x2 : Int32} {x3 : Int32} (t : Q (some (.int 1)) h) : wq d 146 47 [.ref x0, .int x1, .int x2, .int x3] [] h Q := by
  refine g1 c_146_47 k_1 ?_
  exact g91 c_146_48 ⟨by decide, t⟩
-- method 147: MillTown.mean(II)Z
theorem c_147_0 : pg_cd 147 0 = (3, 1, 0, 1, 0) := by decide +kernel
theorem c_147_1 : pg_cd 147 1 = (1, 1, 0, 0, 0) := by decide +kernel
theorem c_147_2 : pg_cd 147 2 = (1, 2, 0, 0, 7) := by decide +kernel
theorem c_147_4 : pg_cd 147 4 = (81, 141, 85, 0, 0) := by decide +kernel
theorem c_147_7 : pg_cd 147 7 = (36, 3, 0, 0, 13) := by decide +kernel
theorem c_147_10 : pg_cd 147 10 = (3, 1, 0, 2, 0) := by decide +kernel
theorem c_147_11 : pg_cd 147 11 = (1, 1, 0, 0, 1) := by decide +kernel
theorem c_147_12 : pg_cd 147 12 = (1, 2, 100, 0, 100000) := by decide +kernel
theorem c_147_14 : pg_cd 147 14 = (81, 141, 85, 0, 0) := by decide +kernel
theorem c_147_17 : pg_cd 147 17 = (36, 3, 0, 1, 5) := by decide +kernel
theorem c_147_20 : pg_cd 147 20 = (1, 1, 0, 0, 0) := by decide +kernel
theorem c_147_21 : pg_cd 147 21 = (91, 0, 0, 0, 0) := by decide +kernel
theorem c_147_22 : pg_cd 147 22 = (5, 1, 0, 0, 0) := by decide +kernel
theorem c_147_23 : pg_cd 147 23 = (45, 11, 12, 0, 0) := by decide +kernel
theorem c_147_26 : pg_cd 147 26 = (45, 8, 101, 1, 0) := by decide +kernel
theorem c_147_29 : pg_cd 147 29 = (3, 1, 0, 1, 0) := by decide +kernel
theorem c_147_30 : pg_cd 147 30 = (1, 3, 0, 0, 400) := by decide +kernel
theorem c_147_33 : pg_cd 147 33 = (3, 1, 0, 2, 0) := by decide +kernel
theorem c_147_34 : pg_cd 147 34 = (80, 56, 104, 0, 0) := by decide +kernel
theorem c_147_37 : pg_cd 147 37 = (1, 1, 0, 0, 1) := by decide +kernel
theorem c_147_38 : pg_cd 147 38 = (91, 0, 0, 0, 0) := by decide +kernel
theorem mx_147 : pg_mx 147 = 3 := by decide +kernel
theorem m_147 {d : Nat} {h : ab_H} {Q : Option Value → ab_H → Prop} {x0 : Nat} {x1 : Int32} {x2 : Int32} (t : wq d 147 0 [.ref x0, .int x1, .int x2] [] h Q) : wm d 147 [.ref x0, .int x1, .int x2] h Q := by
  unfold wm
  rw [mx_147]
  exact t
set_option maxRecDepth 20000 in
theorem t_147_0 {d : Nat} {h : ab_H} {Q : Option Value → ab_H → Prop} {x0 : Nat} {x1 : Int32} {x2 : Int32} (t : wm d 141 [.int x1, .int 0, .int 7] h (fun r9 h9 => wq (d + 1) 147 7 [.ref x0, .int x1, .int x2] (r9.toList ++ []) h9 Q)) : wq (d + 1) 147 0 [.ref x0, .int x1, .int x2] [] h Q := by
  refine g3 c_147_0 rfl ?_
  refine g1 c_147_1 k_0 ?_
  refine g1 c_147_2 k_7 ?_
  exact g81 (As := [.int x1, .int 0, .int 7]) (rest := []) c_147_4 rfl rfl (Nat.le_of_ble_eq_true rfl) (Nat.le_of_ble_eq_true rfl) t
set_option maxRecDepth 20000 in
theorem t_147_7 {d : Nat} {h : ab_H} {Q : Option Value → ab_H → Prop} {x0 : Nat} {x1 : Int32} {x2 : Int32} {s0 : Int32} (t : if s0 = 0 then (Q (some (.int 0)) h) else (wm d 141 [.int x2, .int 1, .int 100000] h (fun r9 h9 => wq (d + 1) 147 17 [.ref x0, .int x1, .int x2] (r9.toList ++ []) h9 Q))) : wq (d + 1) 147 7 [.ref x0, .int x1, .int x2] [.int s0] h Q := by
  refine gif c_147_7 (gbr t rfl rfl (fun hc t => ?_) (fun hc t => ?_))
  · refine g1 c_147_20 k_0 ?_
    exact g91 c_147_21 ⟨by decide, t⟩
  · refine g3 c_147_10 rfl ?_
    refine g1 c_147_11 k_1 ?_
    refine g1 c_147_12 k_100000 ?_
    exact g81 (As := [.int x2, .int 1, .int 100000]) (rest := []) c_147_14 rfl rfl (Nat.le_of_ble_eq_true rfl) (Nat.le_of_ble_eq_true rfl) t
set_option maxRecDepth 20000 in
theorem t_147_17 {d : Nat} {h : ab_H} {Q : Option Value → ab_H → Prop} {x0 : Nat} {x1 : Int32} {x2 : Int32} {s0 : Int32} (t : if s0 = 0 then (Q (some (.int 0)) h) else (ab_ok h x0 111 = true ∧ ∃ j1 : Nat, ab_r h x0 0 = some j1 ∧ ab_ok h j1 108 = true ∧ ∃ j2 : Nat, ab_r h j1 1 = some j2 ∧ ab_ok h j2 104 = true ∧ wm d 56 [.ref j2, .int x1, .int 400, .int x2] h (fun r9 h9 => wq (d + 1) 147 37 [.ref x0, .int x1, .int x2] (r9.toList ++ []) h9 Q))) : wq (d + 1) 147 17 [.ref x0, .int x1, .int x2] [.int s0] h Q := by
  refine gif c_147_17 (gbn t (ab_c1 _ _) rfl (fun hc t => ?_) (fun hc t => ?_))
  · refine g1 c_147_20 k_0 ?_
    exact g91 c_147_21 ⟨by decide, t⟩
  · refine g5 c_147_22 rfl ?_
    obtain ⟨ho, j1, hr, t⟩ := t
    refine g45 c_147_23 ho hr ?_
    obtain ⟨ho, j2, hr, t⟩ := t
    refine g45 c_147_26 ho hr ?_
    refine g3 c_147_29 rfl ?_
    refine g1 c_147_30 k_400 ?_
    refine g3 c_147_33 rfl ?_
    exact g80 (As := [.int x1, .int 400, .int x2]) (rest := []) c_147_34 rfl rfl (Nat.le_of_ble_eq_true rfl) (Nat.le_of_ble_eq_true rfl) t.1 t.2
set_option maxRecDepth 20000 in
theorem t_147_37 {d : Nat} {h : ab_H} {Q : Option Value → ab_H → Prop} {x0 : Nat} {x1 : Int32} {x2 : Int32} (t : Q (some (.int 1)) h) : wq d 147 37 [.ref x0, .int x1, .int x2] [] h Q := by
  refine g1 c_147_37 k_1 ?_
  exact g91 c_147_38 ⟨by decide, t⟩
-- method 148: MillTown.priceOf(II)I
theorem c_148_0 : pg_cd 148 0 = (3, 1, 0, 1, 0) := by decide +kernel
theorem c_148_1 : pg_cd 148 1 = (1, 1, 0, 0, 0) := by decide +kernel
theorem c_148_2 : pg_cd 148 2 = (1, 2, 0, 0, 7) := by decide +kernel
theorem c_148_4 : pg_cd 148 4 = (81, 141, 85, 0, 0) := by decide +kernel
theorem c_148_7 : pg_cd 148 7 = (36, 3, 0, 0, 10) := by decide +kernel
theorem c_148_10 : pg_cd 148 10 = (3, 1, 0, 2, 0) := by decide +kernel
theorem c_148_11 : pg_cd 148 11 = (81, 142, 97, 0, 0) := by decide +kernel
theorem c_148_14 : pg_cd 148 14 = (36, 3, 0, 1, 5) := by decide +kernel
theorem c_148_17 : pg_cd 148 17 = (1, 1, 0, 0, (-1)) := by decide +kernel
theorem c_148_18 : pg_cd 148 18 = (90, 0, 0, 0, 0) := by decide +kernel
theorem c_148_19 : pg_cd 148 19 = (5, 1, 0, 0, 0) := by decide +kernel
theorem c_148_20 : pg_cd 148 20 = (45, 11, 12, 0, 0) := by decide +kernel
theorem c_148_23 : pg_cd 148 23 = (3, 1, 0, 1, 0) := by decide +kernel
theorem c_148_24 : pg_cd 148 24 = (3, 1, 0, 2, 0) := by decide +kernel
theorem c_148_25 : pg_cd 148 25 = (80, 90, 108, 0, 0) := by decide +kernel
theorem c_148_28 : pg_cd 148 28 = (90, 0, 0, 0, 0) := by decide +kernel
theorem mx_148 : pg_mx 148 = 3 := by decide +kernel
theorem m_148 {d : Nat} {h : ab_H} {Q : Option Value → ab_H → Prop} {x0 : Nat} {x1 : Int32} {x2 : Int32} (t : wq d 148 0 [.ref x0, .int x1, .int x2] [] h Q) : wm d 148 [.ref x0, .int x1, .int x2] h Q := by
  unfold wm
  rw [mx_148]
  exact t
set_option maxRecDepth 20000 in
theorem t_148_0 {d : Nat} {h : ab_H} {Q : Option Value → ab_H → Prop} {x0 : Nat} {x1 : Int32} {x2 : Int32} (t : wm d 141 [.int x1, .int 0, .int 7] h (fun r9 h9 => wq (d + 1) 148 7 [.ref x0, .int x1, .int x2] (r9.toList ++ []) h9 Q)) : wq (d + 1) 148 0 [.ref x0, .int x1, .int x2] [] h Q := by
  refine g3 c_148_0 rfl ?_
  refine g1 c_148_1 k_0 ?_
  refine g1 c_148_2 k_7 ?_
  exact g81 (As := [.int x1, .int 0, .int 7]) (rest := []) c_148_4 rfl rfl (Nat.le_of_ble_eq_true rfl) (Nat.le_of_ble_eq_true rfl) t
set_option maxRecDepth 20000 in
theorem t_148_7 {d : Nat} {h : ab_H} {Q : Option Value → ab_H → Prop} {x0 : Nat} {x1 : Int32} {x2 : Int32} {s0 : Int32} (t : if s0 = 0 then (Q (some (.int (-1))) h) else (wm d 142 [.int x2] h (fun r9 h9 => wq (d + 1) 148 14 [.ref x0, .int x1, .int x2] (r9.toList ++ []) h9 Q))) : wq (d + 1) 148 7 [.ref x0, .int x1, .int x2] [.int s0] h Q := by
  refine gif c_148_7 (gbr t rfl rfl (fun hc t => ?_) (fun hc t => ?_))
  · refine g1 c_148_17 k_m1 ?_
    exact g90 c_148_18 t
  · refine g3 c_148_10 rfl ?_
    exact g81 (As := [.int x2]) (rest := []) c_148_11 rfl rfl (Nat.le_of_ble_eq_true rfl) (Nat.le_of_ble_eq_true rfl) t
set_option maxRecDepth 20000 in
theorem t_148_14 {d : Nat} {h : ab_H} {Q : Option Value → ab_H → Prop} {x0 : Nat} {x1 : Int32} {x2 : Int32} {s0 : Int32} (t : if s0 = 0 then (Q (some (.int (-1))) h) else (ab_ok h x0 111 = true ∧ ∃ j1 : Nat, ab_r h x0 0 = some j1 ∧ ab_ok h j1 108 = true ∧ wm d 90 [.ref j1, .int x1, .int x2] h (fun r9 h9 => wq (d + 1) 148 28 [.ref x0, .int x1, .int x2] (r9.toList ++ []) h9 Q))) : wq (d + 1) 148 14 [.ref x0, .int x1, .int x2] [.int s0] h Q := by
  refine gif c_148_14 (gbn t (ab_c1 _ _) rfl (fun hc t => ?_) (fun hc t => ?_))
  · refine g1 c_148_17 k_m1 ?_
    exact g90 c_148_18 t
  · refine g5 c_148_19 rfl ?_
    obtain ⟨ho, j1, hr, t⟩ := t
    refine g45 c_148_20 ho hr ?_
    refine g3 c_148_23 rfl ?_
    refine g3 c_148_24 rfl ?_
    exact g80 (As := [.int x1, .int x2]) (rest := []) c_148_25 rfl rfl (Nat.le_of_ble_eq_true rfl) (Nat.le_of_ble_eq_true rfl) t.1 t.2
set_option maxRecDepth 20000 in
theorem t_148_28 {d : Nat} {h : ab_H} {Q : Option Value → ab_H → Prop} {x0 : Nat} {x1 : Int32} {x2 : Int32} {s0 : Int32} (t : Q (some (.int s0)) h) : wq d 148 28 [.ref x0, .int x1, .int x2] [.int s0] h Q := by
  exact g90 c_148_28 t
-- method 149: MillTown.mill(IIII)I
theorem c_149_0 : pg_cd 149 0 = (3, 1, 0, 1, 0) := by decide +kernel
theorem c_149_1 : pg_cd 149 1 = (1, 1, 0, 0, 0) := by decide +kernel
theorem c_149_2 : pg_cd 149 2 = (1, 2, 0, 0, 60) := by decide +kernel
theorem c_149_4 : pg_cd 149 4 = (81, 141, 85, 0, 0) := by decide +kernel
theorem c_149_7 : pg_cd 149 7 = (36, 3, 0, 0, 43) := by decide +kernel
theorem c_149_10 : pg_cd 149 10 = (3, 1, 0, 2, 0) := by decide +kernel
theorem c_149_11 : pg_cd 149 11 = (1, 2, 0, 0, 50) := by decide +kernel
theorem c_149_13 : pg_cd 149 13 = (1, 3, 0, 0, 200) := by decide +kernel
theorem c_149_16 : pg_cd 149 16 = (81, 141, 85, 0, 0) := by decide +kernel
theorem c_149_19 : pg_cd 149 19 = (36, 3, 0, 0, 31) := by decide +kernel
theorem c_149_22 : pg_cd 149 22 = (3, 1, 0, 3, 0) := by decide +kernel
theorem c_149_23 : pg_cd 149 23 = (1, 1, 0, 0, 0) := by decide +kernel
theorem c_149_24 : pg_cd 149 24 = (1, 2, 112, 0, 1000000) := by decide +kernel
theorem c_149_26 : pg_cd 149 26 = (81, 141, 85, 0, 0) := by decide +kernel
theorem c_149_29 : pg_cd 149 29 = (36, 3, 0, 0, 21) := by decide +kernel
theorem c_149_32 : pg_cd 149 32 = (3, 2, 0, 4, 0) := by decide +kernel
theorem c_149_34 : pg_cd 149 34 = (1, 3, 0, 0, (-1000)) := by decide +kernel
theorem c_149_37 : pg_cd 149 37 = (1, 3, 0, 0, 1000) := by decide +kernel
theorem c_149_40 : pg_cd 149 40 = (81, 141, 85, 0, 0) := by decide +kernel
theorem c_149_43 : pg_cd 149 43 = (36, 3, 0, 0, 7) := by decide +kernel
theorem c_149_46 : pg_cd 149 46 = (1, 1, 0, 0, 1) := by decide +kernel
theorem c_149_47 : pg_cd 149 47 = (38, 3, 0, 0, 4) := by decide +kernel
theorem c_149_50 : pg_cd 149 50 = (1, 1, 0, 0, 0) := by decide +kernel
theorem c_149_51 : pg_cd 149 51 = (6, 2, 0, 5, 0) := by decide +kernel
theorem c_149_53 : pg_cd 149 53 = (3, 2, 0, 5, 0) := by decide +kernel
theorem c_149_55 : pg_cd 149 55 = (36, 3, 0, 0, 18) := by decide +kernel
theorem c_149_58 : pg_cd 149 58 = (5, 1, 0, 0, 0) := by decide +kernel
theorem c_149_59 : pg_cd 149 59 = (45, 11, 12, 0, 0) := by decide +kernel
theorem c_149_62 : pg_cd 149 62 = (3, 1, 0, 1, 0) := by decide +kernel
theorem c_149_63 : pg_cd 149 63 = (3, 1, 0, 2, 0) := by decide +kernel
theorem c_149_64 : pg_cd 149 64 = (3, 1, 0, 3, 0) := by decide +kernel
theorem c_149_65 : pg_cd 149 65 = (3, 2, 0, 4, 0) := by decide +kernel
theorem c_149_67 : pg_cd 149 67 = (80, 91, 113, 0, 0) := by decide +kernel
theorem c_149_70 : pg_cd 149 70 = (38, 3, 0, 0, 4) := by decide +kernel
theorem c_149_73 : pg_cd 149 73 = (1, 1, 0, 0, (-1)) := by decide +kernel
theorem c_149_74 : pg_cd 149 74 = (90, 0, 0, 0, 0) := by decide +kernel
theorem mx_149 : pg_mx 149 = 6 := by decide +kernel
theorem m_149 {d : Nat} {h : ab_H} {Q : Option Value → ab_H → Prop} {x0 : Nat} {x1 : Int32} {x2 : Int32} {x3 : Int32} {x4 : Int32} (t : wq d 149 0 [.ref x0, .int x1, .int x2, .int x3, .int x4, .retAddr 0] [] h Q) : wm d 149 [.ref x0, .int x1, .int x2, .int x3, .int x4] h Q := by
  unfold wm
  rw [mx_149]
  exact t
set_option maxRecDepth 20000 in
theorem t_149_0 {d : Nat} {h : ab_H} {Q : Option Value → ab_H → Prop} {x0 : Nat} {x1 : Int32} {x2 : Int32} {x3 : Int32} {x4 : Int32} (t : wm d 141 [.int x1, .int 0, .int 60] h (fun r9 h9 => wq (d + 1) 149 7 [.ref x0, .int x1, .int x2, .int x3, .int x4, .retAddr 0] (r9.toList ++ []) h9 Q)) : wq (d + 1) 149 0 [.ref x0, .int x1, .int x2, .int x3, .int x4, .retAddr 0] [] h Q := by
  refine g3 c_149_0 rfl ?_
  refine g1 c_149_1 k_0 ?_
  refine g1 c_149_2 k_60 ?_
  exact g81 (As := [.int x1, .int 0, .int 60]) (rest := []) c_149_4 rfl rfl (Nat.le_of_ble_eq_true rfl) (Nat.le_of_ble_eq_true rfl) t
set_option maxRecDepth 20000 in
theorem t_149_7 {d : Nat} {h : ab_H} {Q : Option Value → ab_H → Prop} {x0 : Nat} {x1 : Int32} {x2 : Int32} {x3 : Int32} {x4 : Int32} {s0 : Int32} (t : if s0 = 0 then (if (0 : Int32) = 0 then (Q (some (.int (-1))) h) else (ab_ok h x0 111 = true ∧ ∃ j1 : Nat, ab_r h x0 0 = some j1 ∧ ab_ok h j1 108 = true ∧ wm d 91 [.ref j1, .int x1, .int x2, .int x3, .int x4] h (fun r9 h9 => wq (d + 1) 149 70 [.ref x0, .int x1, .int x2, .int x3, .int x4, .int 0] (r9.toList ++ []) h9 Q))) else (wm d 141 [.int x2, .int 50, .int 200] h (fun r9 h9 => wq (d + 1) 149 19 [.ref x0, .int x1, .int x2, .int x3, .int x4, .retAddr 0] (r9.toList ++ []) h9 Q))) : wq (d + 1) 149 7 [.ref x0, .int x1, .int x2, .int x3, .int x4, .retAddr 0] [.int s0] h Q := by
  refine gif c_149_7 (gbr t rfl rfl (fun hc t => ?_) (fun hc t => ?_))
  · refine g1 c_149_50 k_0 ?_
    refine g6 (L' := [.ref x0, .int x1, .int x2, .int x3, .int x4, .int 0]) c_149_51 rfl ?_
    refine g3 c_149_53 rfl ?_
    refine gif c_149_55 (gbr t rfl rfl (fun hc t => ?_) (fun hc t => ?_))
    · refine g1 c_149_73 k_m1 ?_
      exact g90 c_149_74 t
    · refine g5 c_149_58 rfl ?_
      obtain ⟨ho, j1, hr, t⟩ := t
      refine g45 c_149_59 ho hr ?_
      refine g3 c_149_62 rfl ?_
      refine g3 c_149_63 rfl ?_
      refine g3 c_149_64 rfl ?_
      refine g3 c_149_65 rfl ?_
      exact g80 (As := [.int x1, .int x2, .int x3, .int x4]) (rest := []) c_149_67 rfl rfl (Nat.le_of_ble_eq_true rfl) (Nat.le_of_ble_eq_true rfl) t.1 t.2
  · refine g3 c_149_10 rfl ?_
    refine g1 c_149_11 k_50 ?_
    refine g1 c_149_13 k_200 ?_
    exact g81 (As := [.int x2, .int 50, .int 200]) (rest := []) c_149_16 rfl rfl (Nat.le_of_ble_eq_true rfl) (Nat.le_of_ble_eq_true rfl) t
set_option maxRecDepth 20000 in
theorem t_149_19 {d : Nat} {h : ab_H} {Q : Option Value → ab_H → Prop} {x0 : Nat} {x1 : Int32} {x2 : Int32} {x3 : Int32} {x4 : Int32} {s0 : Int32} (t : if s0 = 0 then (if (0 : Int32) = 0 then (Q (some (.int (-1))) h) else (ab_ok h x0 111 = true ∧ ∃ j1 : Nat, ab_r h x0 0 = some j1 ∧ ab_ok h j1 108 = true ∧ wm d 91 [.ref j1, .int x1, .int x2, .int x3, .int x4] h (fun r9 h9 => wq (d + 1) 149 70 [.ref x0, .int x1, .int x2, .int x3, .int x4, .int 0] (r9.toList ++ []) h9 Q))) else (wm d 141 [.int x3, .int 0, .int 1000000] h (fun r9 h9 => wq (d + 1) 149 29 [.ref x0, .int x1, .int x2, .int x3, .int x4, .retAddr 0] (r9.toList ++ []) h9 Q))) : wq (d + 1) 149 19 [.ref x0, .int x1, .int x2, .int x3, .int x4, .retAddr 0] [.int s0] h Q := by
  refine gif c_149_19 (gbr t rfl rfl (fun hc t => ?_) (fun hc t => ?_))
  · refine g1 c_149_50 k_0 ?_
    refine g6 (L' := [.ref x0, .int x1, .int x2, .int x3, .int x4, .int 0]) c_149_51 rfl ?_
    refine g3 c_149_53 rfl ?_
    refine gif c_149_55 (gbr t rfl rfl (fun hc t => ?_) (fun hc t => ?_))
    · refine g1 c_149_73 k_m1 ?_
      exact g90 c_149_74 t
    · refine g5 c_149_58 rfl ?_
      obtain ⟨ho, j1, hr, t⟩ := t
      refine g45 c_149_59 ho hr ?_
      refine g3 c_149_62 rfl ?_
      refine g3 c_149_63 rfl ?_
      refine g3 c_149_64 rfl ?_
      refine g3 c_149_65 rfl ?_
      exact g80 (As := [.int x1, .int x2, .int x3, .int x4]) (rest := []) c_149_67 rfl rfl (Nat.le_of_ble_eq_true rfl) (Nat.le_of_ble_eq_true rfl) t.1 t.2
  · refine g3 c_149_22 rfl ?_
    refine g1 c_149_23 k_0 ?_
    refine g1 c_149_24 k_1000000 ?_
    exact g81 (As := [.int x3, .int 0, .int 1000000]) (rest := []) c_149_26 rfl rfl (Nat.le_of_ble_eq_true rfl) (Nat.le_of_ble_eq_true rfl) t
set_option maxRecDepth 20000 in
theorem t_149_29 {d : Nat} {h : ab_H} {Q : Option Value → ab_H → Prop} {x0 : Nat} {x1 : Int32} {x2 : Int32} {x3 : Int32} {x4 : Int32} {s0 : Int32} (t : if s0 = 0 then (if (0 : Int32) = 0 then (Q (some (.int (-1))) h) else (ab_ok h x0 111 = true ∧ ∃ j1 : Nat, ab_r h x0 0 = some j1 ∧ ab_ok h j1 108 = true ∧ wm d 91 [.ref j1, .int x1, .int x2, .int x3, .int x4] h (fun r9 h9 => wq (d + 1) 149 70 [.ref x0, .int x1, .int x2, .int x3, .int x4, .int 0] (r9.toList ++ []) h9 Q))) else (wm d 141 [.int x4, .int (-1000), .int 1000] h (fun r9 h9 => wq (d + 1) 149 43 [.ref x0, .int x1, .int x2, .int x3, .int x4, .retAddr 0] (r9.toList ++ []) h9 Q))) : wq (d + 1) 149 29 [.ref x0, .int x1, .int x2, .int x3, .int x4, .retAddr 0] [.int s0] h Q := by
  refine gif c_149_29 (gbr t rfl rfl (fun hc t => ?_) (fun hc t => ?_))
  · refine g1 c_149_50 k_0 ?_
    refine g6 (L' := [.ref x0, .int x1, .int x2, .int x3, .int x4, .int 0]) c_149_51 rfl ?_
    refine g3 c_149_53 rfl ?_
    refine gif c_149_55 (gbr t rfl rfl (fun hc t => ?_) (fun hc t => ?_))
    · refine g1 c_149_73 k_m1 ?_
      exact g90 c_149_74 t
    · refine g5 c_149_58 rfl ?_
      obtain ⟨ho, j1, hr, t⟩ := t
      refine g45 c_149_59 ho hr ?_
      refine g3 c_149_62 rfl ?_
      refine g3 c_149_63 rfl ?_
      refine g3 c_149_64 rfl ?_
      refine g3 c_149_65 rfl ?_
      exact g80 (As := [.int x1, .int x2, .int x3, .int x4]) (rest := []) c_149_67 rfl rfl (Nat.le_of_ble_eq_true rfl) (Nat.le_of_ble_eq_true rfl) t.1 t.2
  · refine g3 c_149_32 rfl ?_
    refine g1 c_149_34 k_m1000 ?_
    refine g1 c_149_37 k_1000 ?_
    exact g81 (As := [.int x4, .int (-1000), .int 1000]) (rest := []) c_149_40 rfl rfl (Nat.le_of_ble_eq_true rfl) (Nat.le_of_ble_eq_true rfl) t
set_option maxRecDepth 20000 in
theorem t_149_43 {d : Nat} {h : ab_H} {Q : Option Value → ab_H → Prop} {x0 : Nat} {x1 : Int32} {x2 : Int32} {x3 : Int32} {x4 : Int32} {s0 : Int32} (t : if s0 = 0 then (if (0 : Int32) = 0 then (Q (some (.int (-1))) h) else (ab_ok h x0 111 = true ∧ ∃ j1 : Nat, ab_r h x0 0 = some j1 ∧ ab_ok h j1 108 = true ∧ wm d 91 [.ref j1, .int x1, .int x2, .int x3, .int x4] h (fun r9 h9 => wq (d + 1) 149 70 [.ref x0, .int x1, .int x2, .int x3, .int x4, .int 0] (r9.toList ++ []) h9 Q))) else (if (1 : Int32) = 0 then (Q (some (.int (-1))) h) else (ab_ok h x0 111 = true ∧ ∃ j2 : Nat, ab_r h x0 0 = some j2 ∧ ab_ok h j2 108 = true ∧ wm d 91 [.ref j2, .int x1, .int x2, .int x3, .int x4] h (fun r9 h9 => wq (d + 1) 149 70 [.ref x0, .int x1, .int x2, .int x3, .int x4, .int 1] (r9.toList ++ []) h9 Q)))) : wq (d + 1) 149 43 [.ref x0, .int x1, .int x2, .int x3, .int x4, .retAddr 0] [.int s0] h Q := by
  refine gif c_149_43 (gbr t rfl rfl (fun hc t => ?_) (fun hc t => ?_))
  · refine g1 c_149_50 k_0 ?_
    refine g6 (L' := [.ref x0, .int x1, .int x2, .int x3, .int x4, .int 0]) c_149_51 rfl ?_
    refine g3 c_149_53 rfl ?_
    refine gif c_149_55 (gbr t rfl rfl (fun hc t => ?_) (fun hc t => ?_))
    · refine g1 c_149_73 k_m1 ?_
      exact g90 c_149_74 t
    · refine g5 c_149_58 rfl ?_
      obtain ⟨ho, j1, hr, t⟩ := t
      refine g45 c_149_59 ho hr ?_
      refine g3 c_149_62 rfl ?_
      refine g3 c_149_63 rfl ?_
      refine g3 c_149_64 rfl ?_
      refine g3 c_149_65 rfl ?_
      exact g80 (As := [.int x1, .int x2, .int x3, .int x4]) (rest := []) c_149_67 rfl rfl (Nat.le_of_ble_eq_true rfl) (Nat.le_of_ble_eq_true rfl) t.1 t.2
  · refine g1 c_149_46 k_1 ?_
    refine g38 c_149_47 rfl ?_
    refine g6 (L' := [.ref x0, .int x1, .int x2, .int x3, .int x4, .int 1]) c_149_51 rfl ?_
    refine g3 c_149_53 rfl ?_
    refine gif c_149_55 (gbr t rfl rfl (fun hc t => ?_) (fun hc t => ?_))
    · refine g1 c_149_73 k_m1 ?_
      exact g90 c_149_74 t
    · refine g5 c_149_58 rfl ?_
      obtain ⟨ho, j2, hr, t⟩ := t
      refine g45 c_149_59 ho hr ?_
      refine g3 c_149_62 rfl ?_
      refine g3 c_149_63 rfl ?_
      refine g3 c_149_64 rfl ?_
      refine g3 c_149_65 rfl ?_
      exact g80 (As := [.int x1, .int x2, .int x3, .int x4]) (rest := []) c_149_67 rfl rfl (Nat.le_of_ble_eq_true rfl) (Nat.le_of_ble_eq_true rfl) t.1 t.2
set_option maxRecDepth 20000 in
theorem t_149_70 {d : Nat} {h : ab_H} {Q : Option Value → ab_H → Prop} {x0 : Nat} {x1 : Int32} {x2 : Int32} {x3 : Int32} {x4 : Int32} {x5 : Int32} {s0 : Int32} (t : Q (some (.int s0)) h) : wq d 149 70 [.ref x0, .int x1, .int x2, .int x3, .int x4, .int x5] [.int s0] h Q := by
  refine g38 c_149_70 rfl ?_
  exact g90 c_149_74 t
-- method 150: MillTown.shop(III)I
theorem c_150_0 : pg_cd 150 0 = (3, 1, 0, 1, 0) := by decide +kernel
theorem c_150_1 : pg_cd 150 1 = (1, 1, 0, 0, 0) := by decide +kernel
theorem c_150_2 : pg_cd 150 2 = (1, 2, 100, 0, 100000) := by decide +kernel
theorem c_150_4 : pg_cd 150 4 = (81, 141, 85, 0, 0) := by decide +kernel
theorem c_150_7 : pg_cd 150 7 = (36, 3, 0, 0, 29) := by decide +kernel
theorem c_150_10 : pg_cd 150 10 = (3, 1, 0, 2, 0) := by decide +kernel
theorem c_150_11 : pg_cd 150 11 = (1, 1, 0, 0, 0) := by decide +kernel
theorem c_150_12 : pg_cd 150 12 = (1, 3, 0, 0, 400) := by decide +kernel
theorem c_150_15 : pg_cd 150 15 = (81, 141, 85, 0, 0) := by decide +kernel
theorem c_150_18 : pg_cd 150 18 = (36, 3, 0, 0, 18) := by decide +kernel
theorem c_150_21 : pg_cd 150 21 = (3, 1, 0, 3, 0) := by decide +kernel
theorem c_150_22 : pg_cd 150 22 = (1, 1, 0, 0, 0) := by decide +kernel
theorem c_150_23 : pg_cd 150 23 = (1, 3, 0, 0, 1000) := by decide +kernel
theorem c_150_26 : pg_cd 150 26 = (81, 141, 85, 0, 0) := by decide +kernel
theorem c_150_29 : pg_cd 150 29 = (36, 3, 0, 0, 7) := by decide +kernel
theorem c_150_32 : pg_cd 150 32 = (1, 1, 0, 0, 1) := by decide +kernel
theorem c_150_33 : pg_cd 150 33 = (38, 3, 0, 0, 4) := by decide +kernel
theorem c_150_36 : pg_cd 150 36 = (1, 1, 0, 0, 0) := by decide +kernel
theorem c_150_37 : pg_cd 150 37 = (6, 2, 0, 4, 0) := by decide +kernel
theorem c_150_39 : pg_cd 150 39 = (3, 2, 0, 4, 0) := by decide +kernel
theorem c_150_41 : pg_cd 150 41 = (36, 3, 0, 0, 16) := by decide +kernel
theorem c_150_44 : pg_cd 150 44 = (5, 1, 0, 0, 0) := by decide +kernel
theorem c_150_45 : pg_cd 150 45 = (45, 11, 12, 0, 0) := by decide +kernel
theorem c_150_48 : pg_cd 150 48 = (3, 1, 0, 1, 0) := by decide +kernel
theorem c_150_49 : pg_cd 150 49 = (3, 1, 0, 2, 0) := by decide +kernel
theorem c_150_50 : pg_cd 150 50 = (3, 1, 0, 3, 0) := by decide +kernel
theorem c_150_51 : pg_cd 150 51 = (80, 92, 117, 0, 0) := by decide +kernel
theorem c_150_54 : pg_cd 150 54 = (38, 3, 0, 0, 4) := by decide +kernel
theorem c_150_57 : pg_cd 150 57 = (1, 1, 0, 0, (-1)) := by decide +kernel
theorem c_150_58 : pg_cd 150 58 = (90, 0, 0, 0, 0) := by decide +kernel
theorem mx_150 : pg_mx 150 = 5 := by decide +kernel
theorem m_150 {d : Nat} {h : ab_H} {Q : Option Value → ab_H → Prop} {x0 : Nat} {x1 : Int32} {x2 : Int32} {x3 : Int32} (t : wq d 150 0 [.ref x0, .int x1, .int x2, .int x3, .retAddr 0] [] h Q) : wm d 150 [.ref x0, .int x1, .int x2, .int x3] h Q := by
  unfold wm
  rw [mx_150]
  exact t
set_option maxRecDepth 20000 in
theorem t_150_0 {d : Nat} {h : ab_H} {Q : Option Value → ab_H → Prop} {x0 : Nat} {x1 : Int32} {x2 : Int32} {x3 : Int32} (t : wm d 141 [.int x1, .int 0, .int 100000] h (fun r9 h9 => wq (d + 1) 150 7 [.ref x0, .int x1, .int x2, .int x3, .retAddr 0] (r9.toList ++ []) h9 Q)) : wq (d + 1) 150 0 [.ref x0, .int x1, .int x2, .int x3, .retAddr 0] [] h Q := by
  refine g3 c_150_0 rfl ?_
  refine g1 c_150_1 k_0 ?_
  refine g1 c_150_2 k_100000 ?_
  exact g81 (As := [.int x1, .int 0, .int 100000]) (rest := []) c_150_4 rfl rfl (Nat.le_of_ble_eq_true rfl) (Nat.le_of_ble_eq_true rfl) t
set_option maxRecDepth 20000 in
theorem t_150_7 {d : Nat} {h : ab_H} {Q : Option Value → ab_H → Prop} {x0 : Nat} {x1 : Int32} {x2 : Int32} {x3 : Int32} {s0 : Int32} (t : if s0 = 0 then (if (0 : Int32) = 0 then (Q (some (.int (-1))) h) else (ab_ok h x0 111 = true ∧ ∃ j1 : Nat, ab_r h x0 0 = some j1 ∧ ab_ok h j1 108 = true ∧ wm d 92 [.ref j1, .int x1, .int x2, .int x3] h (fun r9 h9 => wq (d + 1) 150 54 [.ref x0, .int x1, .int x2, .int x3, .int 0] (r9.toList ++ []) h9 Q))) else (wm d 141 [.int x2, .int 0, .int 400] h (fun r9 h9 => wq (d + 1) 150 18 [.ref x0, .int x1, .int x2, .int x3, .retAddr 0] (r9.toList ++ []) h9 Q))) : wq (d + 1) 150 7 [.ref x0, .int x1, .int x2, .int x3, .retAddr 0] [.int s0] h Q := by
  refine gif c_150_7 (gbr t rfl rfl (fun hc t => ?_) (fun hc t => ?_))
  · refine g1 c_150_36 k_0 ?_
    refine g6 (L' := [.ref x0, .int x1, .int x2, .int x3, .int 0]) c_150_37 rfl ?_
    refine g3 c_150_39 rfl ?_
    refine gif c_150_41 (gbr t rfl rfl (fun hc t => ?_) (fun hc t => ?_))
    · refine g1 c_150_57 k_m1 ?_
      exact g90 c_150_58 t
    · refine g5 c_150_44 rfl ?_
      obtain ⟨ho, j1, hr, t⟩ := t
      refine g45 c_150_45 ho hr ?_
      refine g3 c_150_48 rfl ?_
      refine g3 c_150_49 rfl ?_
      refine g3 c_150_50 rfl ?_
      exact g80 (As := [.int x1, .int x2, .int x3]) (rest := []) c_150_51 rfl rfl (Nat.le_of_ble_eq_true rfl) (Nat.le_of_ble_eq_true rfl) t.1 t.2
  · refine g3 c_150_10 rfl ?_
    refine g1 c_150_11 k_0 ?_
    refine g1 c_150_12 k_400 ?_
    exact g81 (As := [.int x2, .int 0, .int 400]) (rest := []) c_150_15 rfl rfl (Nat.le_of_ble_eq_true rfl) (Nat.le_of_ble_eq_true rfl) t
set_option maxRecDepth 20000 in
theorem t_150_18 {d : Nat} {h : ab_H} {Q : Option Value → ab_H → Prop} {x0 : Nat} {x1 : Int32} {x2 : Int32} {x3 : Int32} {s0 : Int32} (t : if s0 = 0 then (if (0 : Int32) = 0 then (Q (some (.int (-1))) h) else (ab_ok h x0 111 = true ∧ ∃ j1 : Nat, ab_r h x0 0 = some j1 ∧ ab_ok h j1 108 = true ∧ wm d 92 [.ref j1, .int x1, .int x2, .int x3] h (fun r9 h9 => wq (d + 1) 150 54 [.ref x0, .int x1, .int x2, .int x3, .int 0] (r9.toList ++ []) h9 Q))) else (wm d 141 [.int x3, .int 0, .int 1000] h (fun r9 h9 => wq (d + 1) 150 29 [.ref x0, .int x1, .int x2, .int x3, .retAddr 0] (r9.toList ++ []) h9 Q))) : wq (d + 1) 150 18 [.ref x0, .int x1, .int x2, .int x3, .retAddr 0] [.int s0] h Q := by
  refine gif c_150_18 (gbr t rfl rfl (fun hc t => ?_) (fun hc t => ?_))
  · refine g1 c_150_36 k_0 ?_
    refine g6 (L' := [.ref x0, .int x1, .int x2, .int x3, .int 0]) c_150_37 rfl ?_
    refine g3 c_150_39 rfl ?_
    refine gif c_150_41 (gbr t rfl rfl (fun hc t => ?_) (fun hc t => ?_))
    · refine g1 c_150_57 k_m1 ?_
      exact g90 c_150_58 t
    · refine g5 c_150_44 rfl ?_
      obtain ⟨ho, j1, hr, t⟩ := t
      refine g45 c_150_45 ho hr ?_
      refine g3 c_150_48 rfl ?_
      refine g3 c_150_49 rfl ?_
      refine g3 c_150_50 rfl ?_
      exact g80 (As := [.int x1, .int x2, .int x3]) (rest := []) c_150_51 rfl rfl (Nat.le_of_ble_eq_true rfl) (Nat.le_of_ble_eq_true rfl) t.1 t.2
  · refine g3 c_150_21 rfl ?_
    refine g1 c_150_22 k_0 ?_
    refine g1 c_150_23 k_1000 ?_
    exact g81 (As := [.int x3, .int 0, .int 1000]) (rest := []) c_150_26 rfl rfl (Nat.le_of_ble_eq_true rfl) (Nat.le_of_ble_eq_true rfl) t
set_option maxRecDepth 20000 in
theorem t_150_29 {d : Nat} {h : ab_H} {Q : Option Value → ab_H → Prop} {x0 : Nat} {x1 : Int32} {x2 : Int32} {x3 : Int32} {s0 : Int32} (t : if s0 = 0 then (if (0 : Int32) = 0 then (Q (some (.int (-1))) h) else (ab_ok h x0 111 = true ∧ ∃ j1 : Nat, ab_r h x0 0 = some j1 ∧ ab_ok h j1 108 = true ∧ wm d 92 [.ref j1, .int x1, .int x2, .int x3] h (fun r9 h9 => wq (d + 1) 150 54 [.ref x0, .int x1, .int x2, .int x3, .int 0] (r9.toList ++ []) h9 Q))) else (if (1 : Int32) = 0 then (Q (some (.int (-1))) h) else (ab_ok h x0 111 = true ∧ ∃ j2 : Nat, ab_r h x0 0 = some j2 ∧ ab_ok h j2 108 = true ∧ wm d 92 [.ref j2, .int x1, .int x2, .int x3] h (fun r9 h9 => wq (d + 1) 150 54 [.ref x0, .int x1, .int x2, .int x3, .int 1] (r9.toList ++ []) h9 Q)))) : wq (d + 1) 150 29 [.ref x0, .int x1, .int x2, .int x3, .retAddr 0] [.int s0] h Q := by
  refine gif c_150_29 (gbr t rfl rfl (fun hc t => ?_) (fun hc t => ?_))
  · refine g1 c_150_36 k_0 ?_
    refine g6 (L' := [.ref x0, .int x1, .int x2, .int x3, .int 0]) c_150_37 rfl ?_
    refine g3 c_150_39 rfl ?_
    refine gif c_150_41 (gbr t rfl rfl (fun hc t => ?_) (fun hc t => ?_))
    · refine g1 c_150_57 k_m1 ?_
      exact g90 c_150_58 t
    · refine g5 c_150_44 rfl ?_
      obtain ⟨ho, j1, hr, t⟩ := t
      refine g45 c_150_45 ho hr ?_
      refine g3 c_150_48 rfl ?_
      refine g3 c_150_49 rfl ?_
      refine g3 c_150_50 rfl ?_
      exact g80 (As := [.int x1, .int x2, .int x3]) (rest := []) c_150_51 rfl rfl (Nat.le_of_ble_eq_true rfl) (Nat.le_of_ble_eq_true rfl) t.1 t.2
  · refine g1 c_150_32 k_1 ?_
    refine g38 c_150_33 rfl ?_
    refine g6 (L' := [.ref x0, .int x1, .int x2, .int x3, .int 1]) c_150_37 rfl ?_
    refine g3 c_150_39 rfl ?_
    refine gif c_150_41 (gbr t rfl rfl (fun hc t => ?_) (fun hc t => ?_))
    · refine g1 c_150_57 k_m1 ?_
      exact g90 c_150_58 t
    · refine g5 c_150_44 rfl ?_
      obtain ⟨ho, j2, hr, t⟩ := t
      refine g45 c_150_45 ho hr ?_
      refine g3 c_150_48 rfl ?_
      refine g3 c_150_49 rfl ?_
      refine g3 c_150_50 rfl ?_
      exact g80 (As := [.int x1, .int x2, .int x3]) (rest := []) c_150_51 rfl rfl (Nat.le_of_ble_eq_true rfl) (Nat.le_of_ble_eq_true rfl) t.1 t.2
set_option maxRecDepth 20000 in
theorem t_150_54 {d : Nat} {h : ab_H} {Q : Option Value → ab_H → Prop} {x0 : Nat} {x1 : Int32} {x2 : Int32} {x3 : Int32} {x4 : Int32} {s0 : Int32} (t : Q (some (.int s0)) h) : wq d 150 54 [.ref x0, .int x1, .int x2, .int x3, .int x4] [.int s0] h Q := by
  refine g38 c_150_54 rfl ?_
  exact g90 c_150_58 t
-- method 151: MillTown.home(II)I
theorem c_151_0 : pg_cd 151 0 = (5, 1, 0, 0, 0) := by decide +kernel
theorem c_151_1 : pg_cd 151 1 = (45, 11, 12, 0, 0) := by decide +kernel
theorem c_151_4 : pg_cd 151 4 = (45, 8, 121, 3, 0) := by decide +kernel
theorem c_151_7 : pg_cd 151 7 = (3, 1, 0, 1, 0) := by decide +kernel
theorem c_151_8 : pg_cd 151 8 = (80, 53, 75, 0, 0) := by decide +kernel
theorem c_151_11 : pg_cd 151 11 = (36, 3, 0, 0, 18) := by decide +kernel
theorem c_151_14 : pg_cd 151 14 = (3, 1, 0, 2, 0) := by decide +kernel
theorem c_151_15 : pg_cd 151 15 = (1, 1, 0, 0, 0) := by decide +kernel
theorem c_151_16 : pg_cd 151 16 = (1, 3, 0, 0, 10000) := by decide +kernel
theorem c_151_19 : pg_cd 151 19 = (81, 141, 85, 0, 0) := by decide +kernel
theorem c_151_22 : pg_cd 151 22 = (36, 3, 0, 0, 7) := by decide +kernel
theorem c_151_25 : pg_cd 151 25 = (1, 1, 0, 0, 1) := by decide +kernel
theorem c_151_26 : pg_cd 151 26 = (38, 3, 0, 0, 4) := by decide +kernel
theorem c_151_29 : pg_cd 151 29 = (1, 1, 0, 0, 0) := by decide +kernel
theorem c_151_30 : pg_cd 151 30 = (6, 1, 0, 3, 0) := by decide +kernel
theorem c_151_31 : pg_cd 151 31 = (3, 1, 0, 3, 0) := by decide +kernel
theorem c_151_32 : pg_cd 151 32 = (36, 3, 0, 0, 15) := by decide +kernel
theorem c_151_35 : pg_cd 151 35 = (5, 1, 0, 0, 0) := by decide +kernel
theorem c_151_36 : pg_cd 151 36 = (45, 11, 12, 0, 0) := by decide +kernel
theorem c_151_39 : pg_cd 151 39 = (3, 1, 0, 1, 0) := by decide +kernel
theorem c_151_40 : pg_cd 151 40 = (3, 1, 0, 2, 0) := by decide +kernel
theorem c_151_41 : pg_cd 151 41 = (80, 93, 124, 0, 0) := by decide +kernel
theorem c_151_44 : pg_cd 151 44 = (38, 3, 0, 0, 4) := by decide +kernel
theorem c_151_47 : pg_cd 151 47 = (1, 1, 0, 0, (-1)) := by decide +kernel
theorem c_151_48 : pg_cd 151 48 = (90, 0, 0, 0, 0) := by decide +kernel
theorem mx_151 : pg_mx 151 = 4 := by decide +kernel
theorem m_151 {d : Nat} {h : ab_H} {Q : Option Value → ab_H → Prop} {x0 : Nat} {x1 : Int32} {x2 : Int32} (t : wq d 151 0 [.ref x0, .int x1, .int x2, .retAddr 0] [] h Q) : wm d 151 [.ref x0, .int x1, .int x2] h Q := by
  unfold wm
  rw [mx_151]
  exact t
set_option maxRecDepth 20000 in
theorem t_151_0 {d : Nat} {h : ab_H} {Q : Option Value → ab_H → Prop} {x0 : Nat} {x1 : Int32} {x2 : Int32} (t : ab_ok h x0 111 = true ∧ ∃ j1 : Nat, ab_r h x0 0 = some j1 ∧ ab_ok h j1 108 = true ∧ ∃ j2 : Nat, ab_r h j1 3 = some j2 ∧ ab_ok h j2 104 = true ∧ wm d 53 [.ref j2, .int x1] h (fun r9 h9 => wq (d + 1) 151 11 [.ref x0, .int x1, .int x2, .retAddr 0] (r9.toList ++ []) h9 Q)) : wq (d + 1) 151 0 [.ref x0, .int x1, .int x2, .retAddr 0] [] h Q := by
  refine g5 c_151_0 rfl ?_
  obtain ⟨ho, j1, hr, t⟩ := t
  refine g45 c_151_1 ho hr ?_
  obtain ⟨ho, j2, hr, t⟩ := t
  refine g45 c_151_4 ho hr ?_
  refine g3 c_151_7 rfl ?_
  exact g80 (As := [.int x1]) (rest := []) c_151_8 rfl rfl (Nat.le_of_ble_eq_true rfl) (Nat.le_of_ble_eq_true rfl) t.1 t.2
set_option maxRecDepth 20000 in
theorem t_151_11 {d : Nat} {h : ab_H} {Q : Option Value → ab_H → Prop} {x0 : Nat} {x1 : Int32} {x2 : Int32} {s0 : Int32} (t : if s0 = 0 then (if (0 : Int32) = 0 then (Q (some (.int (-1))) h) else (ab_ok h x0 111 = true ∧ ∃ j1 : Nat, ab_r h x0 0 = some j1 ∧ ab_ok h j1 108 = true ∧ wm d 93 [.ref j1, .int x1, .int x2] h (fun r9 h9 => wq (d + 1) 151 44 [.ref x0, .int x1, .int x2, .int 0] (r9.toList ++ []) h9 Q))) else (wm d 141 [.int x2, .int 0, .int 10000] h (fun r9 h9 => wq (d + 1) 151 22 [.ref x0, .int x1, .int x2, .retAddr 0] (r9.toList ++ []) h9 Q))) : wq (d + 1) 151 11 [.ref x0, .int x1, .int x2, .retAddr 0] [.int s0] h Q := by
  refine gif c_151_11 (gbr t rfl rfl (fun hc t => ?_) (fun hc t => ?_))
  · refine g1 c_151_29 k_0 ?_
    refine g6 (L' := [.ref x0, .int x1, .int x2, .int 0]) c_151_30 rfl ?_
    refine g3 c_151_31 rfl ?_
    refine gif c_151_32 (gbr t rfl rfl (fun hc t => ?_) (fun hc t => ?_))
    · refine g1 c_151_47 k_m1 ?_
      exact g90 c_151_48 t
    · refine g5 c_151_35 rfl ?_
      obtain ⟨ho, j1, hr, t⟩ := t
      refine g45 c_151_36 ho hr ?_
      refine g3 c_151_39 rfl ?_
      refine g3 c_151_40 rfl ?_
      exact g80 (As := [.int x1, .int x2]) (rest := []) c_151_41 rfl rfl (Nat.le_of_ble_eq_true rfl) (Nat.le_of_ble_eq_true rfl) t.1 t.2
  · refine g3 c_151_14 rfl ?_
    refine g1 c_151_15 k_0 ?_
    refine g1 c_151_16 k_10000 ?_
    exact g81 (As := [.int x2, .int 0, .int 10000]) (rest := []) c_151_19 rfl rfl (Nat.le_of_ble_eq_true rfl) (Nat.le_of_ble_eq_true rfl) t
set_option maxRecDepth 20000 in
theorem t_151_22 {d : Nat} {h : ab_H} {Q : Option Value → ab_H → Prop} {x0 : Nat} {x1 : Int32} {x2 : Int32} {s0 : Int32} (t : if s0 = 0 then (if (0 : Int32) = 0 then (Q (some (.int (-1))) h) else (ab_ok h x0 111 = true ∧ ∃ j1 : Nat, ab_r h x0 0 = some j1 ∧ ab_ok h j1 108 = true ∧ wm d 93 [.ref j1, .int x1, .int x2] h (fun r9 h9 => wq (d + 1) 151 44 [.ref x0, .int x1, .int x2, .int 0] (r9.toList ++ []) h9 Q))) else (if (1 : Int32) = 0 then (Q (some (.int (-1))) h) else (ab_ok h x0 111 = true ∧ ∃ j2 : Nat, ab_r h x0 0 = some j2 ∧ ab_ok h j2 108 = true ∧ wm d 93 [.ref j2, .int x1, .int x2] h (fun r9 h9 => wq (d + 1) 151 44 [.ref x0, .int x1, .int x2, .int 1] (r9.toList ++ []) h9 Q)))) : wq (d + 1) 151 22 [.ref x0, .int x1, .int x2, .retAddr 0] [.int s0] h Q := by
  refine gif c_151_22 (gbr t rfl rfl (fun hc t => ?_) (fun hc t => ?_))
  · refine g1 c_151_29 k_0 ?_
    refine g6 (L' := [.ref x0, .int x1, .int x2, .int 0]) c_151_30 rfl ?_
    refine g3 c_151_31 rfl ?_
    refine gif c_151_32 (gbr t rfl rfl (fun hc t => ?_) (fun hc t => ?_))
    · refine g1 c_151_47 k_m1 ?_
      exact g90 c_151_48 t
    · refine g5 c_151_35 rfl ?_
      obtain ⟨ho, j1, hr, t⟩ := t
      refine g45 c_151_36 ho hr ?_
      refine g3 c_151_39 rfl ?_
      refine g3 c_151_40 rfl ?_
      exact g80 (As := [.int x1, .int x2]) (rest := []) c_151_41 rfl rfl (Nat.le_of_ble_eq_true rfl) (Nat.le_of_ble_eq_true rfl) t.1 t.2
  · refine g1 c_151_25 k_1 ?_
    refine g38 c_151_26 rfl ?_
    refine g6 (L' := [.ref x0, .int x1, .int x2, .int 1]) c_151_30 rfl ?_
    refine g3 c_151_31 rfl ?_
    refine gif c_151_32 (gbr t rfl rfl (fun hc t => ?_) (fun hc t => ?_))
    · refine g1 c_151_47 k_m1 ?_
      exact g90 c_151_48 t
    · refine g5 c_151_35 rfl ?_
      obtain ⟨ho, j2, hr, t⟩ := t
      refine g45 c_151_36 ho hr ?_
      refine g3 c_151_39 rfl ?_
      refine g3 c_151_40 rfl ?_
      exact g80 (As := [.int x1, .int x2]) (rest := []) c_151_41 rfl rfl (Nat.le_of_ble_eq_true rfl) (Nat.le_of_ble_eq_true rfl) t.1 t.2
set_option maxRecDepth 20000 in
theorem t_151_44 {d : Nat} {h : ab_H} {Q : Option Value → ab_H → Prop} {x0 : Nat} {x1 : Int32} {x2 : Int32} {x3 : Int32} {s0 : Int32} (t : Q (some (.int s0)) h) : wq d 151 44 [.ref x0, .int x1, .int x2, .int x3] [.int s0] h Q := by
  refine g38 c_151_44 rfl ?_
  exact g90 c_151_48 t
-- method 152: MillTown.person(III)I
theorem c_152_0 : pg_cd 152 0 = (5, 1, 0, 0, 0) := by decide +kernel
theorem c_152_1 : pg_cd 152 1 = (45, 11, 12, 0, 0) := by decide +kernel
theorem c_152_4 : pg_cd 152 4 = (45, 8, 127, 4, 0) := by decide +kernel
theorem c_152_7 : pg_cd 152 7 = (3, 1, 0, 1, 0) := by decide +kernel
theorem c_152_8 : pg_cd 152 8 = (80, 53, 75, 0, 0) := by decide +kernel
theorem c_152_11 : pg_cd 152 11 = (36, 3, 0, 0, 42) := by decide +kernel
theorem c_152_14 : pg_cd 152 14 = (5, 1, 0, 0, 0) := by decide +kernel
theorem c_152_15 : pg_cd 152 15 = (45, 11, 12, 0, 0) := by decide +kernel
theorem c_152_18 : pg_cd 152 18 = (45, 8, 127, 4, 0) := by decide +kernel
theorem c_152_21 : pg_cd 152 21 = (3, 1, 0, 1, 0) := by decide +kernel
theorem c_152_22 : pg_cd 152 22 = (1, 1, 0, 0, 2) := by decide +kernel
theorem c_152_23 : pg_cd 152 23 = (80, 55, 130, 0, 0) := by decide +kernel
theorem c_152_26 : pg_cd 152 26 = (36, 3, 0, 1, 27) := by decide +kernel
theorem c_152_29 : pg_cd 152 29 = (3, 1, 0, 2, 0) := by decide +kernel
theorem c_152_30 : pg_cd 152 30 = (1, 1, 0, 0, 5) := by decide +kernel
theorem c_152_31 : pg_cd 152 31 = (1, 2, 0, 0, 80) := by decide +kernel
theorem c_152_33 : pg_cd 152 33 = (81, 141, 85, 0, 0) := by decide +kernel
theorem c_152_36 : pg_cd 152 36 = (36, 3, 0, 0, 17) := by decide +kernel
theorem c_152_39 : pg_cd 152 39 = (3, 1, 0, 3, 0) := by decide +kernel
theorem c_152_40 : pg_cd 152 40 = (1, 1, 0, 0, 1) := by decide +kernel
theorem c_152_41 : pg_cd 152 41 = (1, 2, 0, 0, 10) := by decide +kernel
theorem c_152_43 : pg_cd 152 43 = (81, 141, 85, 0, 0) := by decide +kernel
theorem c_152_46 : pg_cd 152 46 = (36, 3, 0, 0, 7) := by decide +kernel
theorem c_152_49 : pg_cd 152 49 = (1, 1, 0, 0, 1) := by decide +kernel
theorem c_152_50 : pg_cd 152 50 = (38, 3, 0, 0, 4) := by decide +kernel
theorem c_152_53 : pg_cd 152 53 = (1, 1, 0, 0, 0) := by decide +kernel
theorem c_152_54 : pg_cd 152 54 = (6, 2, 0, 4, 0) := by decide +kernel
theorem c_152_56 : pg_cd 152 56 = (3, 2, 0, 4, 0) := by decide +kernel
theorem c_152_58 : pg_cd 152 58 = (36, 3, 0, 0, 16) := by decide +kernel
theorem c_152_61 : pg_cd 152 61 = (5, 1, 0, 0, 0) := by decide +kernel
theorem c_152_62 : pg_cd 152 62 = (45, 11, 12, 0, 0) := by decide +kernel
theorem c_152_65 : pg_cd 152 65 = (3, 1, 0, 1, 0) := by decide +kernel
theorem c_152_66 : pg_cd 152 66 = (3, 1, 0, 2, 0) := by decide +kernel
theorem c_152_67 : pg_cd 152 67 = (3, 1, 0, 3, 0) := by decide +kernel
theorem c_152_68 : pg_cd 152 68 = (80, 94, 133, 0, 0) := by decide +kernel
theorem c_152_71 : pg_cd 152 71 = (38, 3, 0, 0, 4) := by decide +kernel
theorem c_152_74 : pg_cd 152 74 = (1, 1, 0, 0, (-1)) := by decide +kernel
theorem c_152_75 : pg_cd 152 75 = (90, 0, 0, 0, 0) := by decide +kernel
theorem mx_152 : pg_mx 152 = 5 := by decide +kernel
theorem m_152 {d : Nat} {h : ab_H} {Q : Option Value → ab_H → Prop} {x0 : Nat} {x1 : Int32} {x2 : Int32} {x3 : Int32} (t : wq d 152 0 [.ref x0, .int x1, .int x2, .int x3, .retAddr 0] [] h Q) : wm d 152 [.ref x0, .int x1, .int x2, .int x3] h Q := by
  unfold wm
  rw [mx_152]
  exact t
set_option maxRecDepth 20000 in
theorem t_152_0 {d : Nat} {h : ab_H} {Q : Option Value → ab_H → Prop} {x0 : Nat} {x1 : Int32} {x2 : Int32} {x3 : Int32} (t : ab_ok h x0 111 = true ∧ ∃ j1 : Nat, ab_r h x0 0 = some j1 ∧ ab_ok h j1 108 = true ∧ ∃ j2 : Nat, ab_r h j1 4 = some j2 ∧ ab_ok h j2 104 = true ∧ wm d 53 [.ref j2, .int x1] h (fun r9 h9 => wq (d + 1) 152 11 [.ref x0, .int x1, .int x2, .int x3, .retAddr 0] (r9.toList ++ []) h9 Q)) : wq (d + 1) 152 0 [.ref x0, .int x1, .int x2, .int x3, .retAddr 0] [] h Q := by
  refine g5 c_152_0 rfl ?_
  obtain ⟨ho, j1, hr, t⟩ := t
  refine g45 c_152_1 ho hr ?_
  obtain ⟨ho, j2, hr, t⟩ := t
  refine g45 c_152_4 ho hr ?_
  refine g3 c_152_7 rfl ?_
  exact g80 (As := [.int x1]) (rest := []) c_152_8 rfl rfl (Nat.le_of_ble_eq_true rfl) (Nat.le_of_ble_eq_true rfl) t.1 t.2
set_option maxRecDepth 20000 in
theorem t_152_11 {d : Nat} {h : ab_H} {Q : Option Value → ab_H → Prop} {x0 : Nat} {x1 : Int32} {x2 : Int32} {x3 : Int32} {s0 : Int32} (t : if s0 = 0 then (if (0 : Int32) = 0 then (Q (some (.int (-1))) h) else (ab_ok h x0 111 = true ∧ ∃ j1 : Nat, ab_r h x0 0 = some j1 ∧ ab_ok h j1 108 = true ∧ wm d 94 [.ref j1, .int x1, .int x2, .int x3] h (fun r9 h9 => wq (d + 1) 152 71 [.ref x0, .int x1, .int x2, .int x3, .int 0] (r9.toList ++ []) h9 Q))) else (ab_ok h x0 111 = true ∧ ∃ j2 : Nat, ab_r h x0 0 = some j2 ∧ ab_ok h j2 108 = true ∧ ∃ j3 : Nat, ab_r h j2 4 = some j3 ∧ ab_ok h j3 104 = true ∧ wm d 55 [.ref j3, .int x1, .int 2] h (fun r9 h9 => wq (d + 1) 152 26 [.ref x0, .int x1, .int x2, .int x3, .retAddr 0] (r9.toList ++ []) h9 Q))) : wq (d + 1) 152 11 [.ref x0, .int x1, .int x2, .int x3, .retAddr 0] [.int s0] h Q := by
  refine gif c_152_11 (gbr t rfl rfl (fun hc t => ?_) (fun hc t => ?_))
  · refine g1 c_152_53 k_0 ?_
    refine g6 (L' := [.ref x0, .int x1, .int x2, .int x3, .int 0]) c_152_54 rfl ?_
    refine g3 c_152_56 rfl ?_
    refine gif c_152_58 (gbr t rfl rfl (fun hc t => ?_) (fun hc t => ?_))
    · refine g1 c_152_74 k_m1 ?_
      exact g90 c_152_75 t
    · refine g5 c_152_61 rfl ?_
      obtain ⟨ho, j1, hr, t⟩ := t
      refine g45 c_152_62 ho hr ?_
      refine g3 c_152_65 rfl ?_
      refine g3 c_152_66 rfl ?_
      refine g3 c_152_67 rfl ?_
      exact g80 (As := [.int x1, .int x2, .int x3]) (rest := []) c_152_68 rfl rfl (Nat.le_of_ble_eq_true rfl) (Nat.le_of_ble_eq_true rfl) t.1 t.2
  · refine g5 c_152_14 rfl ?_
    obtain ⟨ho, j2, hr, t⟩ := t
    refine g45 c_152_15 ho hr ?_
    obtain ⟨ho, j3, hr, t⟩ := t
    refine g45 c_152_18 ho hr ?_
    refine g3 c_152_21 rfl ?_
    refine g1 c_152_22 k_2 ?_
    exact g80 (As := [.int x1, .int 2]) (rest := []) c_152_23 rfl rfl (Nat.le_of_ble_eq_true rfl) (Nat.le_of_ble_eq_true rfl) t.1 t.2
set_option maxRecDepth 20000 in
theorem t_152_26 {d : Nat} {h : ab_H} {Q : Option Value → ab_H → Prop} {x0 : Nat} {x1 : Int32} {x2 : Int32} {x3 : Int32} {s0 : Int32} (t : if s0 = 0 then (wm d 141 [.int x2, .int 5, .int 80] h (fun r9 h9 => wq (d + 1) 152 36 [.ref x0, .int x1, .int x2, .int x3, .retAddr 0] (r9.toList ++ []) h9 Q)) else (if (0 : Int32) = 0 then (Q (some (.int (-1))) h) else (ab_ok h x0 111 = true ∧ ∃ j1 : Nat, ab_r h x0 0 = some j1 ∧ ab_ok h j1 108 = true ∧ wm d 94 [.ref j1, .int x1, .int x2, .int x3] h (fun r9 h9 => wq (d + 1) 152 71 [.ref x0, .int x1, .int x2, .int x3, .int 0] (r9.toList ++ []) h9 Q)))) : wq (d + 1) 152 26 [.ref x0, .int x1, .int x2, .int x3, .retAddr 0] [.int s0] h Q := by
  refine gif c_152_26 (gbn t (ab_c1 _ _) rfl (fun hc t => ?_) (fun hc t => ?_))
  · refine g3 c_152_29 rfl ?_
    refine g1 c_152_30 k_5 ?_
    refine g1 c_152_31 k_80 ?_
    exact g81 (As := [.int x2, .int 5, .int 80]) (rest := []) c_152_33 rfl rfl (Nat.le_of_ble_eq_true rfl) (Nat.le_of_ble_eq_true rfl) t
  · refine g1 c_152_53 k_0 ?_
    refine g6 (L' := [.ref x0, .int x1, .int x2, .int x3, .int 0]) c_152_54 rfl ?_
    refine g3 c_152_56 rfl ?_
    refine gif c_152_58 (gbr t rfl rfl (fun hc t => ?_) (fun hc t => ?_))
    · refine g1 c_152_74 k_m1 ?_
      exact g90 c_152_75 t
    · refine g5 c_152_61 rfl ?_
      obtain ⟨ho, j1, hr, t⟩ := t
      refine g45 c_152_62 ho hr ?_
      refine g3 c_152_65 rfl ?_
      refine g3 c_152_66 rfl ?_
      refine g3 c_152_67 rfl ?_
      exact g80 (As := [.int x1, .int x2, .int x3]) (rest := []) c_152_68 rfl rfl (Nat.le_of_ble_eq_true rfl) (Nat.le_of_ble_eq_true rfl) t.1 t.2
set_option maxRecDepth 20000 in
theorem t_152_36 {d : Nat} {h : ab_H} {Q : Option Value → ab_H → Prop} {x0 : Nat} {x1 : Int32} {x2 : Int32} {x3 : Int32} {s0 : Int32} (t : if s0 = 0 then (if (0 : Int32) = 0 then (Q (some (.int (-1))) h) else (ab_ok h x0 111 = true ∧ ∃ j1 : Nat, ab_r h x0 0 = some j1 ∧ ab_ok h j1 108 = true ∧ wm d 94 [.ref j1, .int x1, .int x2, .int x3] h (fun r9 h9 => wq (d + 1) 152 71 [.ref x0, .int x1, .int x2, .int x3, .int 0] (r9.toList ++ []) h9 Q))) else (wm d 141 [.int x3, .int 1, .int 10] h (fun r9 h9 => wq (d + 1) 152 46 [.ref x0, .int x1, .int x2, .int x3, .retAddr 0] (r9.toList ++ []) h9 Q))) : wq (d + 1) 152 36 [.ref x0, .int x1, .int x2, .int x3, .retAddr 0] [.int s0] h Q := by
  refine gif c_152_36 (gbr t rfl rfl (fun hc t => ?_) (fun hc t => ?_))
  · refine g1 c_152_53 k_0 ?_
    refine g6 (L' := [.ref x0, .int x1, .int x2, .int x3, .int 0]) c_152_54 rfl ?_
    refine g3 c_152_56 rfl ?_
    refine gif c_152_58 (gbr t rfl rfl (fun hc t => ?_) (fun hc t => ?_))
    · refine g1 c_152_74 k_m1 ?_
      exact g90 c_152_75 t
    · refine g5 c_152_61 rfl ?_
      obtain ⟨ho, j1, hr, t⟩ := t
      refine g45 c_152_62 ho hr ?_
      refine g3 c_152_65 rfl ?_
      refine g3 c_152_66 rfl ?_
      refine g3 c_152_67 rfl ?_
      exact g80 (As := [.int x1, .int x2, .int x3]) (rest := []) c_152_68 rfl rfl (Nat.le_of_ble_eq_true rfl) (Nat.le_of_ble_eq_true rfl) t.1 t.2
  · refine g3 c_152_39 rfl ?_
    refine g1 c_152_40 k_1 ?_
    refine g1 c_152_41 k_10 ?_
    exact g81 (As := [.int x3, .int 1, .int 10]) (rest := []) c_152_43 rfl rfl (Nat.le_of_ble_eq_true rfl) (Nat.le_of_ble_eq_true rfl) t
set_option maxRecDepth 20000 in
theorem t_152_46 {d : Nat} {h : ab_H} {Q : Option Value → ab_H → Prop} {x0 : Nat} {x1 : Int32} {x2 : Int32} {x3 : Int32} {s0 : Int32} (t : if s0 = 0 then (if (0 : Int32) = 0 then (Q (some (.int (-1))) h) else (ab_ok h x0 111 = true ∧ ∃ j1 : Nat, ab_r h x0 0 = some j1 ∧ ab_ok h j1 108 = true ∧ wm d 94 [.ref j1, .int x1, .int x2, .int x3] h (fun r9 h9 => wq (d + 1) 152 71 [.ref x0, .int x1, .int x2, .int x3, .int 0] (r9.toList ++ []) h9 Q))) else (if (1 : Int32) = 0 then (Q (some (.int (-1))) h) else (ab_ok h x0 111 = true ∧ ∃ j2 : Nat, ab_r h x0 0 = some j2 ∧ ab_ok h j2 108 = true ∧ wm d 94 [.ref j2, .int x1, .int x2, .int x3] h (fun r9 h9 => wq (d + 1) 152 71 [.ref x0, .int x1, .int x2, .int x3, .int 1] (r9.toList ++ []) h9 Q)))) : wq (d + 1) 152 46 [.ref x0, .int x1, .int x2, .int x3, .retAddr 0] [.int s0] h Q := by
  refine gif c_152_46 (gbr t rfl rfl (fun hc t => ?_) (fun hc t => ?_))
  · refine g1 c_152_53 k_0 ?_
    refine g6 (L' := [.ref x0, .int x1, .int x2, .int x3, .int 0]) c_152_54 rfl ?_
    refine g3 c_152_56 rfl ?_
    refine gif c_152_58 (gbr t rfl rfl (fun hc t => ?_) (fun hc t => ?_))
    · refine g1 c_152_74 k_m1 ?_
      exact g90 c_152_75 t
    · refine g5 c_152_61 rfl ?_
      obtain ⟨ho, j1, hr, t⟩ := t
      refine g45 c_152_62 ho hr ?_
      refine g3 c_152_65 rfl ?_
      refine g3 c_152_66 rfl ?_
      refine g3 c_152_67 rfl ?_
      exact g80 (As := [.int x1, .int x2, .int x3]) (rest := []) c_152_68 rfl rfl (Nat.le_of_ble_eq_true rfl) (Nat.le_of_ble_eq_true rfl) t.1 t.2
  · refine g1 c_152_49 k_1 ?_
    refine g38 c_152_50 rfl ?_
    refine g6 (L' := [.ref x0, .int x1, .int x2, .int x3, .int 1]) c_152_54 rfl ?_
    refine g3 c_152_56 rfl ?_
    refine gif c_152_58 (gbr t rfl rfl (fun hc t => ?_) (fun hc t => ?_))
    · refine g1 c_152_74 k_m1 ?_
      exact g90 c_152_75 t
    · refine g5 c_152_61 rfl ?_
      obtain ⟨ho, j2, hr, t⟩ := t
      refine g45 c_152_62 ho hr ?_
      refine g3 c_152_65 rfl ?_
      refine g3 c_152_66 rfl ?_
      refine g3 c_152_67 rfl ?_
      exact g80 (As := [.int x1, .int x2, .int x3]) (rest := []) c_152_68 rfl rfl (Nat.le_of_ble_eq_true rfl) (Nat.le_of_ble_eq_true rfl) t.1 t.2
set_option maxRecDepth 20000 in
theorem t_152_71 {d : Nat} {h : ab_H} {Q : Option Value → ab_H → Prop} {x0 : Nat} {x1 : Int32} {x2 : Int32} {x3 : Int32} {x4 : Int32} {s0 : Int32} (t : Q (some (.int s0)) h) : wq d 152 71 [.ref x0, .int x1, .int x2, .int x3, .int x4] [.int s0] h Q := by
  refine g38 c_152_71 rfl ?_
  exact g90 c_152_75 t
-- method 153: MillTown.work(IIII)Z
theorem c_153_0 : pg_cd 153 0 = (5, 1, 0, 0, 0) := by decide +kernel
theorem c_153_1 : pg_cd 153 1 = (45, 11, 12, 0, 0) := by decide +kernel
theorem c_153_4 : pg_cd 153 4 = (45, 8, 136, 5, 0) := by decide +kernel
theorem c_153_7 : pg_cd 153 7 = (3, 1, 0, 1, 0) := by decide +kernel
theorem c_153_8 : pg_cd 153 8 = (80, 53, 75, 0, 0) := by decide +kernel
theorem c_153_11 : pg_cd 153 11 = (36, 3, 0, 0, 38) := by decide +kernel
theorem c_153_14 : pg_cd 153 14 = (3, 1, 0, 2, 0) := by decide +kernel
theorem c_153_15 : pg_cd 153 15 = (1, 1, 0, 0, 0) := by decide +kernel
theorem c_153_16 : pg_cd 153 16 = (1, 1, 0, 0, 4) := by decide +kernel
theorem c_153_17 : pg_cd 153 17 = (81, 141, 85, 0, 0) := by decide +kernel
theorem c_153_20 : pg_cd 153 20 = (36, 3, 0, 0, 29) := by decide +kernel
theorem c_153_23 : pg_cd 153 23 = (5, 1, 0, 0, 0) := by decide +kernel
theorem c_153_24 : pg_cd 153 24 = (45, 11, 12, 0, 0) := by decide +kernel
theorem c_153_27 : pg_cd 153 27 = (45, 8, 127, 4, 0) := by decide +kernel
theorem c_153_30 : pg_cd 153 30 = (5, 1, 0, 0, 0) := by decide +kernel
theorem c_153_31 : pg_cd 153 31 = (45, 11, 12, 0, 0) := by decide +kernel
theorem c_153_34 : pg_cd 153 34 = (45, 8, 136, 5, 0) := by decide +kernel
theorem c_153_37 : pg_cd 153 37 = (3, 1, 0, 1, 0) := by decide +kernel
theorem c_153_38 : pg_cd 153 38 = (1, 1, 0, 0, 0) := by decide +kernel
theorem c_153_39 : pg_cd 153 39 = (80, 55, 130, 0, 0) := by decide +kernel
theorem c_153_42 : pg_cd 153 42 = (1, 1, 0, 0, 2) := by decide +kernel
theorem c_153_43 : pg_cd 153 43 = (80, 55, 130, 0, 0) := by decide +kernel
theorem c_153_46 : pg_cd 153 46 = (36, 3, 0, 0, 5) := by decide +kernel
theorem c_153_49 : pg_cd 153 49 = (1, 1, 0, 0, 0) := by decide +kernel
theorem c_153_50 : pg_cd 153 50 = (91, 0, 0, 0, 0) := by decide +kernel
theorem c_153_51 : pg_cd 153 51 = (3, 1, 0, 2, 0) := by decide +kernel
theorem c_153_52 : pg_cd 153 52 = (36, 3, 0, 1, 13) := by decide +kernel
theorem c_153_55 : pg_cd 153 55 = (5, 1, 0, 0, 0) := by decide +kernel
theorem c_153_56 : pg_cd 153 56 = (45, 11, 12, 0, 0) := by decide +kernel
theorem c_153_59 : pg_cd 153 59 = (3, 1, 0, 1, 0) := by decide +kernel
theorem c_153_60 : pg_cd 153 60 = (80, 103, 139, 0, 0) := by decide +kernel
theorem c_153_63 : pg_cd 153 63 = (1, 1, 0, 0, 1) := by decide +kernel
theorem c_153_64 : pg_cd 153 64 = (91, 0, 0, 0, 0) := by decide +kernel
theorem c_153_65 : pg_cd 153 65 = (3, 1, 0, 2, 0) := by decide +kernel
theorem c_153_66 : pg_cd 153 66 = (1, 1, 0, 0, 2) := by decide +kernel
theorem c_153_67 : pg_cd 153 67 = (37, 3, 0, 1, 15) := by decide +kernel
theorem c_153_70 : pg_cd 153 70 = (5, 1, 0, 0, 0) := by decide +kernel
theorem c_153_71 : pg_cd 153 71 = (45, 11, 12, 0, 0) := by decide +kernel
theorem c_153_74 : pg_cd 153 74 = (3, 1, 0, 1, 0) := by decide +kernel
theorem c_153_75 : pg_cd 153 75 = (3, 1, 0, 3, 0) := by decide +kernel
theorem c_153_76 : pg_cd 153 76 = (80, 100, 143, 0, 0) := by decide +kernel
theorem c_153_79 : pg_cd 153 79 = (38, 3, 0, 0, 4) := by decide +kernel
theorem c_153_82 : pg_cd 153 82 = (3, 1, 0, 3, 0) := by decide +kernel
theorem c_153_83 : pg_cd 153 83 = (6, 2, 0, 5, 0) := by decide +kernel
theorem c_153_85 : pg_cd 153 85 = (5, 1, 0, 0, 0) := by decide +kernel
theorem c_153_86 : pg_cd 153 86 = (3, 2, 0, 5, 0) := by decide +kernel
theorem c_153_88 : pg_cd 153 88 = (80, 154, 146, 0, 0) := by decide +kernel
theorem c_153_91 : pg_cd 153 91 = (36, 3, 0, 0, 16) := by decide +kernel
theorem c_153_94 : pg_cd 153 94 = (5, 1, 0, 0, 0) := by decide +kernel
theorem c_153_95 : pg_cd 153 95 = (3, 1, 0, 1, 0) := by decide +kernel
theorem c_153_96 : pg_cd 153 96 = (3, 1, 0, 2, 0) := by decide +kernel
theorem c_153_97 : pg_cd 153 97 = (3, 2, 0, 5, 0) := by decide +kernel
theorem c_153_99 : pg_cd 153 99 = (3, 2, 0, 4, 0) := by decide +kernel
theorem c_153_101 : pg_cd 153 101 = (80, 155, 149, 0, 0) := by decide +kernel
theorem c_153_104 : pg_cd 153 104 = (36, 3, 0, 1, 5) := by decide +kernel
theorem c_153_107 : pg_cd 153 107 = (1, 1, 0, 0, 0) := by decide +kernel
theorem c_153_108 : pg_cd 153 108 = (91, 0, 0, 0, 0) := by decide +kernel
theorem c_153_109 : pg_cd 153 109 = (5, 1, 0, 0, 0) := by decide +kernel
theorem c_153_110 : pg_cd 153 110 = (45, 11, 12, 0, 0) := by decide +kernel
theorem c_153_113 : pg_cd 153 113 = (3, 1, 0, 1, 0) := by decide +kernel
theorem c_153_114 : pg_cd 153 114 = (80, 103, 139, 0, 0) := by decide +kernel
theorem c_153_117 : pg_cd 153 117 = (5, 1, 0, 0, 0) := by decide +kernel
theorem c_153_118 : pg_cd 153 118 = (45, 11, 12, 0, 0) := by decide +kernel
theorem c_153_121 : pg_cd 153 121 = (3, 1, 0, 1, 0) := by decide +kernel
theorem c_153_122 : pg_cd 153 122 = (3, 1, 0, 2, 0) := by decide +kernel
theorem c_153_123 : pg_cd 153 123 = (3, 2, 0, 5, 0) := by decide +kernel
theorem c_153_125 : pg_cd 153 125 = (3, 2, 0, 4, 0) := by decide +kernel
theorem c_153_127 : pg_cd 153 127 = (3, 1, 0, 2, 0) := by decide +kernel
theorem c_153_128 : pg_cd 153 128 = (1, 1, 0, 0, 2) := by decide +kernel
theorem c_153_129 : pg_cd 153 129 = (37, 3, 0, 1, 7) := by decide +kernel
theorem c_153_132 : pg_cd 153 132 = (3, 1, 0, 3, 0) := by decide +kernel
theorem c_153_133 : pg_cd 153 133 = (38, 3, 0, 0, 4) := by decide +kernel
theorem c_153_136 : pg_cd 153 136 = (1, 1, 0, 0, (-1)) := by decide +kernel
theorem c_153_137 : pg_cd 153 137 = (80, 101, 153, 0, 0) := by decide +kernel
theorem c_153_140 : pg_cd 153 140 = (1, 1, 0, 0, 1) := by decide +kernel
theorem c_153_141 : pg_cd 153 141 = (91, 0, 0, 0, 0) := by decide +kernel
theorem mx_153 : pg_mx 153 = 6 := by decide +kernel
theorem m_153 {d : Nat} {h : ab_H} {Q : Option Value → ab_H → Prop} {x0 : Nat} {x1 : Int32} {x2 : Int32} {x3 : Int32} {x4 : Int32} (t : wq d 153 0 [.ref x0, .int x1, .int x2, .int x3, .int x4, .retAddr 0] [] h Q) : wm d 153 [.ref x0, .int x1, .int x2, .int x3, .int x4] h Q := by
  unfold wm
  rw [mx_153]
  exact t
set_option maxRecDepth 20000 in
theorem t_153_0 {d : Nat} {h : ab_H} {Q : Option Value → ab_H → Prop} {x0 : Nat} {x1 : Int32} {x2 : Int32} {x3 : Int32} {x4 : Int32} (t : ab_ok h x0 111 = true ∧ ∃ j1 : Nat, ab_r h x0 0 = some j1 ∧ ab_ok h j1 108 = true ∧ ∃ j2 : Nat, ab_r h j1 5 = some j2 ∧ ab_ok h j2 104 = true ∧ wm d 53 [.ref j2, .int x1] h (fun r9 h9 => wq (d + 1) 153 11 [.ref x0, .int x1, .int x2, .int x3, .int x4, .retAddr 0] (r9.toList ++ []) h9 Q)) : wq (d + 1) 153 0 [.ref x0, .int x1, .int x2, .int x3, .int x4, .retAddr 0] [] h Q := by
  refine g5 c_153_0 rfl ?_
  obtain ⟨ho, j1, hr, t⟩ := t
  refine g45 c_153_1 ho hr ?_
  obtain ⟨ho, j2, hr, t⟩ := t
  refine g45 c_153_4 ho hr ?_
  refine g3 c_153_7 rfl ?_
  exact g80 (As := [.int x1]) (rest := []) c_153_8 rfl rfl (Nat.le_of_ble_eq_true rfl) (Nat.le_of_ble_eq_true rfl) t.1 t.2
set_option maxRecDepth 20000 in
theorem t_153_11 {d : Nat} {h : ab_H} {Q : Option Value → ab_H → Prop} {x0 : Nat} {x1 : Int32} {x2 : Int32} {x3 : Int32} {x4 : Int32} {s0 : Int32} (t : if s0 = 0 then (Q (some (.int 0)) h) else (wm d 141 [.int x2, .int 0, .int 4] h (fun r9 h9 => wq (d + 1) 153 20 [.ref x0, .int x1, .int x2, .int x3, .int x4, .retAddr 0] (r9.toList ++ []) h9 Q))) : wq (d + 1) 153 11 [.ref x0, .int x1, .int x2, .int x3, .int x4, .retAddr 0] [.int s0] h Q := by
  refine gif c_153_11 (gbr t rfl rfl (fun hc t => ?_) (fun hc t => ?_))
  · refine g1 c_153_49 k_0 ?_
    exact g91 c_153_50 ⟨by decide, t⟩
  · refine g3 c_153_14 rfl ?_
    refine g1 c_153_15 k_0 ?_
    refine g1 c_153_16 k_4 ?_
    exact g81 (As := [.int x2, .int 0, .int 4]) (rest := []) c_153_17 rfl rfl (Nat.le_of_ble_eq_true rfl) (Nat.le_of_ble_eq_true rfl) t
set_option maxRecDepth 20000 in
theorem t_153_20 {d : Nat} {h : ab_H} {Q : Option Value → ab_H → Prop} {x0 : Nat} {x1 : Int32} {x2 : Int32} {x3 : Int32} {x4 : Int32} {s0 : Int32} (t : if s0 = 0 then (Q (some (.int 0)) h) else (ab_ok h x0 111 = true ∧ ∃ j1 : Nat, ab_r h x0 0 = some j1 ∧ ab_ok h j1 108 = true ∧ ∃ j2 : Nat, ab_r h j1 4 = some j2 ∧ ab_ok h x0 111 = true ∧ ∃ j3 : Nat, ab_r h x0 0 = some j3 ∧ ab_ok h j3 108 = true ∧ ∃ j4 : Nat, ab_r h j3 5 = some j4 ∧ ab_ok h j4 104 = true ∧ wm d 55 [.ref j4, .int x1, .int 0] h (fun r9 h9 => wq (d + 1) 153 42 [.ref x0, .int x1, .int x2, .int x3, .int x4, .retAddr 0] (r9.toList ++ [.ref j2]) h9 Q))) : wq (d + 1) 153 20 [.ref x0, .int x1, .int x2, .int x3, .int x4, .retAddr 0] [.int s0] h Q := by
  refine gif c_153_20 (gbr t rfl rfl (fun hc t => ?_) (fun hc t => ?_))
  · refine g1 c_153_49 k_0 ?_
    exact g91 c_153_50 ⟨by decide, t⟩
  · refine g5 c_153_23 rfl ?_
    obtain ⟨ho, j1, hr, t⟩ := t
    refine g45 c_153_24 ho hr ?_
    obtain ⟨ho, j2, hr, t⟩ := t
    refine g45 c_153_27 ho hr ?_
    refine g5 c_153_30 rfl ?_
    obtain ⟨ho, j3, hr, t⟩ := t
    refine g45 c_153_31 ho hr ?_
    obtain ⟨ho, j4, hr, t⟩ := t
    refine g45 c_153_34 ho hr ?_
    refine g3 c_153_37 rfl ?_
    refine g1 c_153_38 k_0 ?_
    exact g80 (As := [.int x1, .int 0]) (rest := [.ref j2]) c_153_39 rfl rfl (Nat.le_of_ble_eq_true rfl) (Nat.le_of_ble_eq_true rfl) t.1 t.2
set_option maxRecDepth 20000 in
theorem t_153_42 {d : Nat} {h : ab_H} {Q : Option Value → ab_H → Prop} {x0 : Nat} {x1 : Int32} {x2 : Int32} {x3 : Int32} {x4 : Int32} {s0 : Nat} {s1 : Int32} (t : ab_ok h s0 104 = true ∧ wm d 55 [.ref s0, .int s1, .int 2] h (fun r9 h9 => wq (d + 1) 153 46 [.ref x0, .int x1, .int x2, .int x3, .int x4, .retAddr 0] (r9.toList ++ []) h9 Q)) : wq (d + 1) 153 42 [.ref x0, .int x1, .int x2, .int x3, .int x4, .retAddr 0] [.int s1, .ref s0] h Q := by
  refine g1 c_153_42 k_2 ?_
  exact g80 (As := [.int s1, .int 2]) (rest := []) c_153_43 rfl rfl (Nat.le_of_ble_eq_true rfl) (Nat.le_of_ble_eq_true rfl) t.1 t.2
set_option maxRecDepth 20000 in
theorem t_153_46 {d : Nat} {h : ab_H} {Q : Option Value → ab_H → Prop} {x0 : Nat} {x1 : Int32} {x2 : Int32} {x3 : Int32} {x4 : Int32} {s0 : Int32} (t : if s0 = 0 then (if x2 = 0 then (ab_ok h x0 111 = true ∧ ∃ j1 : Nat, ab_r h x0 0 = some j1 ∧ ab_ok h j1 108 = true ∧ wm d 103 [.ref j1, .int x1] h (fun r9 h9 => wq (d + 1) 153 63 [.ref x0, .int x1, .int x2, .int x3, .int x4, .retAddr 0] (r9.toList ++ []) h9 Q)) else (if x2 = 2 then (ab_ok h x0 111 = true ∧ ∃ j2 : Nat, ab_r h x0 0 = some j2 ∧ ab_ok h j2 108 = true ∧ wm d 100 [.ref j2, .int x1, .int x3] h (fun r9 h9 => wq (d + 1) 153 79 [.ref x0, .int x1, .int x2, .int x3, .int x4, .retAddr 0] (r9.toList ++ []) h9 Q)) else (ab_ok h x0 111 = true ∧ wm d 154 [.ref x0, .int x3] h (fun r9 h9 => wq (d + 1) 153 91 [.ref x0, .int x1, .int x2, .int x3, .int x4, .int x3] (r9.toList ++ []) h9 Q)))) else (Q (some (.int 0)) h)) : wq (d + 1) 153 46 [.ref x0, .int x1, .int x2, .int x3, .int x4, .retAddr 0] [.int s0] h Q := by
  refine gif c_153_46 (gbr t rfl rfl (fun hc t => ?_) (fun hc t => ?_))
  · refine g3 c_153_51 rfl ?_
    refine gif c_153_52 (gbn t (ab_c1 _ _) rfl (fun hc t => ?_) (fun hc t => ?_))
    · refine g5 c_153_55 rfl ?_
      obtain ⟨ho, j1, hr, t⟩ := t
      refine g45 c_153_56 ho hr ?_
      refine g3 c_153_59 rfl ?_
      exact g80 (As := [.int x1]) (rest := []) c_153_60 rfl rfl (Nat.le_of_ble_eq_true rfl) (Nat.le_of_ble_eq_true rfl) t.1 t.2
    · refine g3 c_153_65 rfl ?_
      refine g1 c_153_66 k_2 ?_
      refine gcm c_153_67 (gbn t (ab_c1 _ _) rfl (fun hc t => ?_) (fun hc t => ?_))
      · refine g5 c_153_70 rfl ?_
        obtain ⟨ho, j2, hr, t⟩ := t
        refine g45 c_153_71 ho hr ?_
        refine g3 c_153_74 rfl ?_
        refine g3 c_153_75 rfl ?_
        exact g80 (As := [.int x1, .int x3]) (rest := []) c_153_76 rfl rfl (Nat.le_of_ble_eq_true rfl) (Nat.le_of_ble_eq_true rfl) t.1 t.2
      · refine g3 c_153_82 rfl ?_
        refine g6 (L' := [.ref x0, .int x1, .int x2, .int x3, .int x4, .int x3]) c_153_83 rfl ?_
        refine g5 c_153_85 rfl ?_
        refine g3 c_153_86 rfl ?_
        exact g80 (As := [.int x3]) (rest := []) c_153_88 rfl rfl (Nat.le_of_ble_eq_true rfl) (Nat.le_of_ble_eq_true rfl) t.1 t.2
  · refine g1 c_153_49 k_0 ?_
    exact g91 c_153_50 ⟨by decide, t⟩
set_option maxRecDepth 20000 in
theorem t_153_63 {d : Nat} {h : ab_H} {Q : Option Value → ab_H → Prop} {x0 : Nat} {x1 : Int32} {x2 : Int32} {x3 : Int32} {x4 : Int32} (t : Q (some (.int 1)) h) : wq d 153 63 [.ref x0, .int x1, .int x2, .int x3, .int x4, .retAddr 0] [] h Q := by
  refine g1 c_153_63 k_1 ?_
  exact g91 c_153_64 ⟨by decide, t⟩
set_option maxRecDepth 20000 in
theorem t_153_79 {d : Nat} {h : ab_H} {Q : Option Value → ab_H → Prop} {x0 : Nat} {x1 : Int32} {x2 : Int32} {x3 : Int32} {x4 : Int32} {s0 : Int32} (t : ab_ok h x0 111 = true ∧ wm d 154 [.ref x0, .int s0] h (fun r9 h9 => wq (d + 1) 153 91 [.ref x0, .int x1, .int x2, .int x3, .int x4, .int s0] (r9.toList ++ []) h9 Q)) : wq (d + 1) 153 79 [.ref x0, .int x1, .int x2, .int x3, .int x4, .retAddr 0] [.int s0] h Q := by
  refine g38 c_153_79 rfl ?_
  refine g6 (L' := [.ref x0, .int x1, .int x2, .int x3, .int x4, .int s0]) c_153_83 rfl ?_
  refine g5 c_153_85 rfl ?_
  refine g3 c_153_86 rfl ?_
  exact g80 (As := [.int s0]) (rest := []) c_153_88 rfl rfl (Nat.le_of_ble_eq_true rfl) (Nat.le_of_ble_eq_true rfl) t.1 t.2
set_option maxRecDepth 20000 in
theorem t_153_91 {d : Nat} {h : ab_H} {Q : Option Value → ab_H → Prop} {x0 : Nat} {x1 : Int32} {x2 : Int32} {x3 : Int32} {x4 : Int32} {x5 : Int32} {s0 : Int32} (t : if s0 = 0 then (Q (some (.int 0)) h) else (ab_ok h x0 111 = true ∧ wm d 155 [.ref x0, .int x1, .int x2, .int x5, .int x4] h (fun r9 h9 => wq (d + 1) 153 104 [.ref x0, .int x1, .int x2, .int x3, .int x4, .int x5] (r9.toList ++ []) h9 Q))) : wq (d + 1) 153 91 [.ref x0, .int x1, .int x2, .int x3, .int x4, .int x5] [.int s0] h Q := by
  refine gif c_153_91 (gbr t rfl rfl (fun hc t => ?_) (fun hc t => ?_))
  · refine g1 c_153_107 k_0 ?_
    exact g91 c_153_108 ⟨by decide, t⟩
  · refine g5 c_153_94 rfl ?_
    refine g3 c_153_95 rfl ?_
    refine g3 c_153_96 rfl ?_
    refine g3 c_153_97 rfl ?_
    refine g3 c_153_99 rfl ?_
    exact g80 (As := [.int x1, .int x2, .int x5, .int x4]) (rest := []) c_153_101 rfl rfl (Nat.le_of_ble_eq_true rfl) (Nat.le_of_ble_eq_true rfl) t.1 t.2
set_option maxRecDepth 20000 in
theorem t_153_104 {d : Nat} {h : ab_H} {Q : Option Value → ab_H → Prop} {x0 : Nat} {x1 : Int32} {x2 : Int32} {x3 : Int32} {x4 : Int32} {x5 : Int32} {s0 : Int32} (t : if s0 = 0 then (Q (some (.int 0)) h) else (ab_ok h x0 111 = true ∧ ∃ j1 : Nat, ab_r h x0 0 = some j1 ∧ ab_ok h j1 108 = true ∧ wm d 103 [.ref j1, .int x1] h (fun r9 h9 => wq (d + 1) 153 117 [.ref x0, .int x1, .int x2, .int x3, .int x4, .int x5] (r9.toList ++ []) h9 Q))) : wq (d + 1) 153 104 [.ref x0, .int x1, .int x2, .int x3, .int x4, .int x5] [.int s0] h Q := by
  refine gif c_153_104 (gbn t (ab_c1 _ _) rfl (fun hc t => ?_) (fun hc t => ?_))
  · refine g1 c_153_107 k_0 ?_
    exact g91 c_153_108 ⟨by decide, t⟩
  · refine g5 c_153_109 rfl ?_
    obtain ⟨ho, j1, hr, t⟩ := t
    refine g45 c_153_110 ho hr ?_
    refine g3 c_153_113 rfl ?_
    exact g80 (As := [.int x1]) (rest := []) c_153_114 rfl rfl (Nat.le_of_ble_eq_true rfl) (Nat.le_of_ble_eq_true rfl) t.1 t.2
set_option maxRecDepth 20000 in
theorem t_153_117 {d : Nat} {h : ab_H} {Q : Option Value → ab_H → Prop} {x0 : Nat} {x1 : Int32} {x2 : Int32} {x3 : Int32} {x4 : Int32} {x5 : Int32} (t : ab_ok h x0 111 = true ∧ ∃ j1 : Nat, ab_r h x0 0 = some j1 ∧ if x2 = 2 then (ab_ok h j1 108 = true ∧ wm d 101 [.ref j1, .int x1, .int x2, .int x5, .int x4, .int x3] h (fun r9 h9 => wq (d + 1) 153 140 [.ref x0, .int x1, .int x2, .int x3, .int x4, .int x5] (r9.toList ++ []) h9 Q)) else (ab_ok h j1 108 = true ∧ wm d 101 [.ref j1, .int x1, .int x2, .int x5, .int x4, .int (-1)] h (fun r9 h9 => wq (d + 1) 153 140 [.ref x0, .int x1, .int x2, .int x3, .int x4, .int x5] (r9.toList ++ []) h9 Q))) : wq (d + 1) 153 117 [.ref x0, .int x1, .int x2, .int x3, .int x4, .int x5] [] h Q := by
  refine g5 c_153_117 rfl ?_
  obtain ⟨ho, j1, hr, t⟩ := t
  refine g45 c_153_118 ho hr ?_
  refine g3 c_153_121 rfl ?_
  refine g3 c_153_122 rfl ?_
  refine g3 c_153_123 rfl ?_
  refine g3 c_153_125 rfl ?_
  refine g3 c_153_127 rfl ?_
  refine g1 c_153_128 k_2 ?_
  refine gcm c_153_129 (gbn t (ab_c1 _ _) rfl (fun hc t => ?_) (fun hc t => ?_))
  · refine g3 c_153_132 rfl ?_
    refine g38 c_153_133 rfl ?_
    exact g80 (As := [.int x1, .int x2, .int x5, .int x4, .int x3]) (rest := []) c_153_137 rfl rfl (Nat.le_of_ble_eq_true rfl) (Nat.le_of_ble_eq_true rfl) t.1 t.2
  · refine g1 c_153_136 k_m1 ?_
    exact g80 (As := [.int x1, .int x2, .int x5, .int x4, .int (-1)]) (rest := []) c_153_137 rfl rfl (Nat.le_of_ble_eq_true rfl) (Nat.le_of_ble_eq_true rfl) t.1 t.2
set_option maxRecDepth 20000 in
theorem t_153_140 {d : Nat} {h : ab_H} {Q : Option Value → ab_H → Prop} {x0 : Nat} {x1 : Int32} {x2 : Int32} {x3 : Int32} {x4 : Int32} {x5 : Int32} (t : Q (some (.int 1)) h) : wq d 153 140 [.ref x0, .int x1, .int x2, .int x3, .int x4, .int x5] [] h Q := by
  refine g1 c_153_140 k_1 ?_
  exact g91 c_153_141 ⟨by decide, t⟩
-- method 154: MillTown.isOpenMill(I)Z
theorem c_154_0 : pg_cd 154 0 = (5, 1, 0, 0, 0) := by decide +kernel
theorem c_154_1 : pg_cd 154 1 = (45, 11, 12, 0, 0) := by decide +kernel
theorem c_154_4 : pg_cd 154 4 = (45, 8, 71, 2, 0) := by decide +kernel
theorem c_154_7 : pg_cd 154 7 = (3, 1, 0, 1, 0) := by decide +kernel
theorem c_154_8 : pg_cd 154 8 = (80, 53, 75, 0, 0) := by decide +kernel
theorem c_154_11 : pg_cd 154 11 = (36, 3, 0, 0, 22) := by decide +kernel
theorem c_154_14 : pg_cd 154 14 = (5, 1, 0, 0, 0) := by decide +kernel
theorem c_154_15 : pg_cd 154 15 = (45, 11, 12, 0, 0) := by decide +kernel
theorem c_154_18 : pg_cd 154 18 = (45, 8, 71, 2, 0) := by decide +kernel
theorem c_154_21 : pg_cd 154 21 = (3, 1, 0, 1, 0) := by decide +kernel
theorem c_154_22 : pg_cd 154 22 = (1, 1, 0, 0, 4) := by decide +kernel
theorem c_154_23 : pg_cd 154 23 = (80, 55, 130, 0, 0) := by decide +kernel
theorem c_154_26 : pg_cd 154 26 = (36, 3, 0, 1, 7) := by decide +kernel
theorem c_154_29 : pg_cd 154 29 = (1, 1, 0, 0, 1) := by decide +kernel
theorem c_154_30 : pg_cd 154 30 = (38, 3, 0, 0, 4) := by decide +kernel
theorem c_154_33 : pg_cd 154 33 = (1, 1, 0, 0, 0) := by decide +kernel
theorem c_154_34 : pg_cd 154 34 = (91, 0, 0, 0, 0) := by decide +kernel
theorem mx_154 : pg_mx 154 = 2 := by decide +kernel
theorem m_154 {d : Nat} {h : ab_H} {Q : Option Value → ab_H → Prop} {x0 : Nat} {x1 : Int32} (t : wq d 154 0 [.ref x0, .int x1] [] h Q) : wm d 154 [.ref x0, .int x1] h Q := by
  unfold wm
  rw [mx_154]
  exact t
set_option maxRecDepth 20000 in
theorem t_154_0 {d : Nat} {h : ab_H} {Q : Option Value → ab_H → Prop} {x0 : Nat} {x1 : Int32} (t : ab_ok h x0 111 = true ∧ ∃ j1 : Nat, ab_r h x0 0 = some j1 ∧ ab_ok h j1 108 = true ∧ ∃ j2 : Nat, ab_r h j1 2 = some j2 ∧ ab_ok h j2 104 = true ∧ wm d 53 [.ref j2, .int x1] h (fun r9 h9 => wq (d + 1) 154 11 [.ref x0, .int x1] (r9.toList ++ []) h9 Q)) : wq (d + 1) 154 0 [.ref x0, .int x1] [] h Q := by
  refine g5 c_154_0 rfl ?_
  obtain ⟨ho, j1, hr, t⟩ := t
  refine g45 c_154_1 ho hr ?_
  obtain ⟨ho, j2, hr, t⟩ := t
  refine g45 c_154_4 ho hr ?_
  refine g3 c_154_7 rfl ?_
  exact g80 (As := [.int x1]) (rest := []) c_154_8 rfl rfl (Nat.le_of_ble_eq_true rfl) (Nat.le_of_ble_eq_true rfl) t.1 t.2
set_option maxRecDepth 20000 in
theorem t_154_11 {d : Nat} {h : ab_H} {Q : Option Value → ab_H → Prop} {x0 : Nat} {x1 : Int32} {s0 : Int32} (t : if s0 = 0 then (Q (some (.int 0)) h) else (ab_ok h x0 111 = true ∧ ∃ j1 : Nat, ab_r h x0 0 = some j1 ∧ ab_ok h j1 108 = true ∧ ∃ j2 : Nat, ab_r h j1 2 = some j2 ∧ ab_ok h j2 104 = true ∧ wm d 55 [.ref j2, .int x1, .int 4] h (fun r9 h9 => wq (d + 1) 154 26 [.ref x0, .int x1] (r9.toList ++ []) h9 Q))) : wq (d + 1) 154 11 [.ref x0, .int x1] [.int s0] h Q := by
  refine gif c_154_11 (gbr t rfl rfl (fun hc t => ?_) (fun hc t => ?_))
  · refine g1 c_154_33 k_0 ?_
    exact g91 c_154_34 ⟨by decide, t⟩
  · refine g5 c_154_14 rfl ?_
    obtain ⟨ho, j1, hr, t⟩ := t
    refine g45 c_154_15 ho hr ?_
    obtain ⟨ho, j2, hr, t⟩ := t
    refine g45 c_154_18 ho hr ?_
    refine g3 c_154_21 rfl ?_
    refine g1 c_154_22 k_4 ?_
    exact g80 (As := [.int x1, .int 4]) (rest := []) c_154_23 rfl rfl (Nat.le_of_ble_eq_true rfl) (Nat.le_of_ble_eq_true rfl) t.1 t.2
set_option maxRecDepth 20000 in
theorem t_154_26 {d : Nat} {h : ab_H} {Q : Option Value → ab_H → Prop} {x0 : Nat} {x1 : Int32} {s0 : Int32} (t : if s0 = 0 then (Q (some (.int 1)) h) else (Q (some (.int 0)) h)) : wq d 154 26 [.ref x0, .int x1] [.int s0] h Q := by
  refine gif c_154_26 (gbn t (ab_c1 _ _) rfl (fun hc t => ?_) (fun hc t => ?_))
  · refine g1 c_154_29 k_1 ?_
    refine g38 c_154_30 rfl ?_
    exact g91 c_154_34 ⟨by decide, t⟩
  · refine g1 c_154_33 k_0 ?_
    exact g91 c_154_34 ⟨by decide, t⟩
-- method 155: MillTown.fitsWork(IIII)Z
theorem c_155_0 : pg_cd 155 0 = (3, 1, 0, 2, 0) := by decide +kernel
theorem c_155_1 : pg_cd 155 1 = (1, 1, 0, 0, 1) := by decide +kernel
theorem c_155_2 : pg_cd 155 2 = (37, 3, 0, 0, 8) := by decide +kernel
theorem c_155_5 : pg_cd 155 5 = (3, 1, 0, 2, 0) := by decide +kernel
theorem c_155_6 : pg_cd 155 6 = (1, 1, 0, 0, 2) := by decide +kernel
theorem c_155_7 : pg_cd 155 7 = (37, 3, 0, 1, 69) := by decide +kernel
theorem c_155_10 : pg_cd 155 10 = (5, 1, 0, 0, 0) := by decide +kernel
theorem c_155_11 : pg_cd 155 11 = (45, 11, 12, 0, 0) := by decide +kernel
theorem c_155_14 : pg_cd 155 14 = (3, 1, 0, 3, 0) := by decide +kernel
theorem c_155_15 : pg_cd 155 15 = (80, 99, 157, 0, 0) := by decide +kernel
theorem c_155_18 : pg_cd 155 18 = (5, 1, 0, 0, 0) := by decide +kernel
theorem c_155_19 : pg_cd 155 19 = (45, 11, 12, 0, 0) := by decide +kernel
theorem c_155_22 : pg_cd 155 22 = (3, 1, 0, 1, 0) := by decide +kernel
theorem c_155_23 : pg_cd 155 23 = (3, 1, 0, 3, 0) := by decide +kernel
theorem c_155_24 : pg_cd 155 24 = (80, 98, 161, 0, 0) := by decide +kernel
theorem c_155_27 : pg_cd 155 27 = (11, 1, 0, 0, 0) := by decide +kernel
theorem c_155_28 : pg_cd 155 28 = (6, 2, 0, 5, 0) := by decide +kernel
theorem c_155_30 : pg_cd 155 30 = (3, 2, 0, 4, 0) := by decide +kernel
theorem c_155_32 : pg_cd 155 32 = (1, 1, 0, 0, 1) := by decide +kernel
theorem c_155_33 : pg_cd 155 33 = (3, 1, 0, 2, 0) := by decide +kernel
theorem c_155_34 : pg_cd 155 34 = (1, 1, 0, 0, 1) := by decide +kernel
theorem c_155_35 : pg_cd 155 35 = (37, 3, 0, 1, 8) := by decide +kernel
theorem c_155_38 : pg_cd 155 38 = (1, 2, 0, 0, 6) := by decide +kernel
theorem c_155_40 : pg_cd 155 40 = (38, 3, 0, 0, 4) := by decide +kernel
theorem c_155_43 : pg_cd 155 43 = (1, 1, 0, 0, 2) := by decide +kernel
theorem c_155_44 : pg_cd 155 44 = (81, 141, 85, 0, 0) := by decide +kernel
theorem c_155_47 : pg_cd 155 47 = (36, 3, 0, 0, 27) := by decide +kernel
theorem c_155_50 : pg_cd 155 50 = (3, 2, 0, 5, 0) := by decide +kernel
theorem c_155_52 : pg_cd 155 52 = (3, 2, 0, 4, 0) := by decide +kernel
theorem c_155_54 : pg_cd 155 54 = (10, 1, 0, 0, 0) := by decide +kernel
theorem c_155_55 : pg_cd 155 55 = (5, 1, 0, 0, 0) := by decide +kernel
theorem c_155_56 : pg_cd 155 56 = (45, 11, 12, 0, 0) := by decide +kernel
theorem c_155_59 : pg_cd 155 59 = (45, 8, 71, 2, 0) := by decide +kernel
theorem c_155_62 : pg_cd 155 62 = (3, 1, 0, 3, 0) := by decide +kernel
theorem c_155_63 : pg_cd 155 63 = (1, 1, 0, 0, 0) := by decide +kernel
theorem c_155_64 : pg_cd 155 64 = (80, 55, 130, 0, 0) := by decide +kernel
theorem c_155_67 : pg_cd 155 67 = (37, 3, 0, 4, 7) := by decide +kernel
theorem c_155_70 : pg_cd 155 70 = (1, 1, 0, 0, 1) := by decide +kernel
theorem c_155_71 : pg_cd 155 71 = (38, 3, 0, 0, 4) := by decide +kernel
theorem c_155_74 : pg_cd 155 74 = (1, 1, 0, 0, 0) := by decide +kernel
theorem c_155_75 : pg_cd 155 75 = (91, 0, 0, 0, 0) := by decide +kernel
theorem c_155_76 : pg_cd 155 76 = (3, 2, 0, 4, 0) := by decide +kernel
theorem c_155_78 : pg_cd 155 78 = (1, 1, 0, 0, 1) := by decide +kernel
theorem c_155_79 : pg_cd 155 79 = (1, 2, 0, 0, 50) := by decide +kernel
theorem c_155_81 : pg_cd 155 81 = (81, 141, 85, 0, 0) := by decide +kernel
theorem c_155_84 : pg_cd 155 84 = (36, 3, 0, 0, 29) := by decide +kernel
theorem c_155_87 : pg_cd 155 87 = (3, 1, 0, 2, 0) := by decide +kernel
theorem c_155_88 : pg_cd 155 88 = (1, 1, 0, 0, 3) := by decide +kernel
theorem c_155_89 : pg_cd 155 89 = (37, 3, 0, 0, 20) := by decide +kernel
theorem c_155_92 : pg_cd 155 92 = (5, 1, 0, 0, 0) := by decide +kernel
theorem c_155_93 : pg_cd 155 93 = (45, 11, 12, 0, 0) := by decide +kernel
theorem c_155_96 : pg_cd 155 96 = (45, 8, 136, 5, 0) := by decide +kernel
theorem c_155_99 : pg_cd 155 99 = (3, 1, 0, 1, 0) := by decide +kernel
theorem c_155_100 : pg_cd 155 100 = (1, 1, 0, 0, 1) := by decide +kernel
theorem c_155_101 : pg_cd 155 101 = (80, 55, 130, 0, 0) := by decide +kernel
theorem c_155_104 : pg_cd 155 104 = (1, 2, 0, 0, 18) := by decide +kernel
theorem c_155_106 : pg_cd 155 106 = (37, 3, 0, 3, 7) := by decide +kernel
theorem c_155_109 : pg_cd 155 109 = (1, 1, 0, 0, 1) := by decide +kernel
theorem c_155_110 : pg_cd 155 110 = (38, 3, 0, 0, 4) := by decide +kernel
theorem c_155_113 : pg_cd 155 113 = (1, 1, 0, 0, 0) := by decide +kernel
theorem c_155_114 : pg_cd 155 114 = (91, 0, 0, 0, 0) := by decide +kernel
theorem mx_155 : pg_mx 155 = 6 := by decide +kernel
theorem m_155 {d : Nat} {h : ab_H} {Q : Option Value → ab_H → Prop} {x0 : Nat} {x1 : Int32} {x2 : Int32} {x3 : Int32} {x4 : Int32} (t : wq d 155 0 [.ref x0, .int x1, .int x2, .int x3, .int x4, .retAddr 0] [] h Q) : wm d 155 [.ref x0, .int x1, .int x2, .int x3, .int x4] h Q := by
  unfold wm
  rw [mx_155]
  exact t
set_option maxRecDepth 20000 in
theorem t_155_0 {d : Nat} {h : ab_H} {Q : Option Value → ab_H → Prop} {x0 : Nat} {x1 : Int32} {x2 : Int32} {x3 : Int32} {x4 : Int32} (t : if x2 = 1 then (ab_ok h x0 111 = true ∧ ∃ j1 : Nat, ab_r h x0 0 = some j1 ∧ ab_ok h j1 108 = true ∧ wm d 99 [.ref j1, .int x3] h (fun r9 h9 => wq (d + 1) 155 18 [.ref x0, .int x1, .int x2, .int x3, .int x4, .retAddr 0] (r9.toList ++ []) h9 Q)) else (if x2 = 2 then (ab_ok h x0 111 = true ∧ ∃ j2 : Nat, ab_r h x0 0 = some j2 ∧ ab_ok h j2 108 = true ∧ wm d 99 [.ref j2, .int x3] h (fun r9 h9 => wq (d + 1) 155 18 [.ref x0, .int x1, .int x2, .int x3, .int x4, .retAddr 0] (r9.toList ++ []) h9 Q)) else (wm d 141 [.int x4, .int 1, .int 50] h (fun r9 h9 => wq (d + 1) 155 84 [.ref x0, .int x1, .int x2, .int x3, .int x4, .retAddr 0] (r9.toList ++ []) h9 Q)))) : wq (d + 1) 155 0 [.ref x0, .int x1, .int x2, .int x3, .int x4, .retAddr 0] [] h Q := by
  refine g3 c_155_0 rfl ?_
  refine g1 c_155_1 k_1 ?_
  refine gcm c_155_2 (gbr t rfl rfl (fun hc t => ?_) (fun hc t => ?_))
  · refine g5 c_155_10 rfl ?_
    obtain ⟨ho, j1, hr, t⟩ := t
    refine g45 c_155_11 ho hr ?_
    refine g3 c_155_14 rfl ?_
    exact g80 (As := [.int x3]) (rest := []) c_155_15 rfl rfl (Nat.le_of_ble_eq_true rfl) (Nat.le_of_ble_eq_true rfl) t.1 t.2
  · refine g3 c_155_5 rfl ?_
    refine g1 c_155_6 k_2 ?_
    refine gcm c_155_7 (gbn t (ab_c1 _ _) rfl (fun hc t => ?_) (fun hc t => ?_))
    · refine g5 c_155_10 rfl ?_
      obtain ⟨ho, j2, hr, t⟩ := t
      refine g45 c_155_11 ho hr ?_
      refine g3 c_155_14 rfl ?_
      exact g80 (As := [.int x3]) (rest := []) c_155_15 rfl rfl (Nat.le_of_ble_eq_true rfl) (Nat.le_of_ble_eq_true rfl) t.1 t.2
    · refine g3 c_155_76 rfl ?_
      refine g1 c_155_78 k_1 ?_
      refine g1 c_155_79 k_50 ?_
      exact g81 (As := [.int x4, .int 1, .int 50]) (rest := []) c_155_81 rfl rfl (Nat.le_of_ble_eq_true rfl) (Nat.le_of_ble_eq_true rfl) t
set_option maxRecDepth 20000 in
theorem t_155_18 {d : Nat} {h : ab_H} {Q : Option Value → ab_H → Prop} {x0 : Nat} {x1 : Int32} {x2 : Int32} {x3 : Int32} {x4 : Int32} {s0 : Int32} (t : ab_ok h x0 111 = true ∧ ∃ j1 : Nat, ab_r h x0 0 = some j1 ∧ ab_ok h j1 108 = true ∧ wm d 98 [.ref j1, .int x1, .int x3] h (fun r9 h9 => wq (d + 1) 155 27 [.ref x0, .int x1, .int x2, .int x3, .int x4, .retAddr 0] (r9.toList ++ [.int s0]) h9 Q)) : wq (d + 1) 155 18 [.ref x0, .int x1, .int x2, .int x3, .int x4, .retAddr 0] [.int s0] h Q := by
  refine g5 c_155_18 rfl ?_
  obtain ⟨ho, j1, hr, t⟩ := t
  refine g45 c_155_19 ho hr ?_
  refine g3 c_155_22 rfl ?_
  refine g3 c_155_23 rfl ?_
  exact g80 (As := [.int x1, .int x3]) (rest := [.int s0]) c_155_24 rfl rfl (Nat.le_of_ble_eq_true rfl) (Nat.le_of_ble_eq_true rfl) t.1 t.2
set_option maxRecDepth 20000 in
theorem t_155_27 {d : Nat} {h : ab_H} {Q : Option Value → ab_H → Prop} {x0 : Nat} {x1 : Int32} {x2 : Int32} {x3 : Int32} {x4 : Int32} {s0 : Int32} {s1 : Int32} (t : if x2 = 1 then (wm d 141 [.int x4, .int 1, .int 6] h (fun r9 h9 => wq (d + 1) 155 47 [.ref x0, .int x1, .int x2, .int x3, .int x4, .int (s0 - s1)] (r9.toList ++ []) h9 Q)) else (wm d 141 [.int x4, .int 1, .int 2] h (fun r9 h9 => wq (d + 1) 155 47 [.ref x0, .int x1, .int x2, .int x3, .int x4, .int (s0 - s1)] (r9.toList ++ []) h9 Q))) : wq (d + 1) 155 27 [.ref x0, .int x1, .int x2, .int x3, .int x4, .retAddr 0] [.int s1, .int s0] h Q := by
  refine g11 c_155_27 ?_
  refine g6 (L' := [.ref x0, .int x1, .int x2, .int x3, .int x4, .int (s0 - s1)]) c_155_28 rfl ?_
  refine g3 c_155_30 rfl ?_
  refine g1 c_155_32 k_1 ?_
  refine g3 c_155_33 rfl ?_
  refine g1 c_155_34 k_1 ?_
  refine gcm c_155_35 (gbn t (ab_c1 _ _) rfl (fun hc t => ?_) (fun hc t => ?_))
  · refine g1 c_155_38 k_6 ?_
    refine g38 c_155_40 rfl ?_
    exact g81 (As := [.int x4, .int 1, .int 6]) (rest := []) c_155_44 rfl rfl (Nat.le_of_ble_eq_true rfl) (Nat.le_of_ble_eq_true rfl) t
  · refine g1 c_155_43 k_2 ?_
    exact g81 (As := [.int x4, .int 1, .int 2]) (rest := []) c_155_44 rfl rfl (Nat.le_of_ble_eq_true rfl) (Nat.le_of_ble_eq_true rfl) t
set_option maxRecDepth 20000 in
theorem t_155_47 {d : Nat} {h : ab_H} {Q : Option Value → ab_H → Prop} {x0 : Nat} {x1 : Int32} {x2 : Int32} {x3 : Int32} {x4 : Int32} {x5 : Int32} {s0 : Int32} (t : if s0 = 0 then (Q (some (.int 0)) h) else (ab_ok h x0 111 = true ∧ ∃ j1 : Nat, ab_r h x0 0 = some j1 ∧ ab_ok h j1 108 = true ∧ ∃ j2 : Nat, ab_r h j1 2 = some j2 ∧ ab_ok h j2 104 = true ∧ wm d 55 [.ref j2, .int x3, .int 0] h (fun r9 h9 => wq (d + 1) 155 67 [.ref x0, .int x1, .int x2, .int x3, .int x4, .int x5] (r9.toList ++ [.int (x5 + x4)]) h9 Q))) : wq (d + 1) 155 47 [.ref x0, .int x1, .int x2, .int x3, .int x4, .int x5] [.int s0] h Q := by
  refine gif c_155_47 (gbr t rfl rfl (fun hc t => ?_) (fun hc t => ?_))
  · refine g1 c_155_74 k_0 ?_
    exact g91 c_155_75 ⟨by decide, t⟩
  · refine g3 c_155_50 rfl ?_
    refine g3 c_155_52 rfl ?_
    refine g10 c_155_54 ?_
    refine g5 c_155_55 rfl ?_
    obtain ⟨ho, j1, hr, t⟩ := t
    refine g45 c_155_56 ho hr ?_
    obtain ⟨ho, j2, hr, t⟩ := t
    refine g45 c_155_59 ho hr ?_
    refine g3 c_155_62 rfl ?_
    refine g1 c_155_63 k_0 ?_
    exact g80 (As := [.int x3, .int 0]) (rest := [.int (x5 + x4)]) c_155_64 rfl rfl (Nat.le_of_ble_eq_true rfl) (Nat.le_of_ble_eq_true rfl) t.1 t.2
set_option maxRecDepth 20000 in
theorem t_155_67 {d : Nat} {h : ab_H} {Q : Option Value → ab_H → Prop} {x0 : Nat} {x1 : Int32} {x2 : Int32} {x3 : Int32} {x4 : Int32} {x5 : Int32} {s0 : Int32} {s1 : Int32} (t : if s1 < s0 then (Q (some (.int 0)) h) else (Q (some (.int 1)) h)) : wq d 155 67 [.ref x0, .int x1, .int x2, .int x3, .int x4, .int x5] [.int s1, .int s0] h Q := by
  refine gcm c_155_67 (gbr t rfl rfl (fun hc t => ?_) (fun hc t => ?_))
  · refine g1 c_155_74 k_0 ?_
    exact g91 c_155_75 ⟨by decide, t⟩
  · refine g1 c_155_70 k_1 ?_
    refine g38 c_155_71 rfl ?_
    exact g91 c_155_75 ⟨by decide, t⟩
set_option maxRecDepth 20000 in
theorem t_155_84 {d : Nat} {h : ab_H} {Q : Option Value → ab_H → Prop} {x0 : Nat} {x1 : Int32} {x2 : Int32} {x3 : Int32} {x4 : Int32} {s0 : Int32} (t : if s0 = 0 then (Q (some (.int 0)) h) else (if x2 = 3 then (Q (some (.int 1)) h) else (ab_ok h x0 111 = true ∧ ∃ j1 : Nat, ab_r h x0 0 = some j1 ∧ ab_ok h j1 108 = true ∧ ∃ j2 : Nat, ab_r h j1 5 = some j2 ∧ ab_ok h j2 104 = true ∧ wm d 55 [.ref j2, .int x1, .int 1] h (fun r9 h9 => wq (d + 1) 155 104 [.ref x0, .int x1, .int x2, .int x3, .int x4, .retAddr 0] (r9.toList ++ []) h9 Q)))) : wq (d + 1) 155 84 [.ref x0, .int x1, .int x2, .int x3, .int x4, .retAddr 0] [.int s0] h Q := by
  refine gif c_155_84 (gbr t rfl rfl (fun hc t => ?_) (fun hc t => ?_))
  · refine g1 c_155_113 k_0 ?_
    exact g91 c_155_114 ⟨by decide, t⟩
  · refine g3 c_155_87 rfl ?_
    refine g1 c_155_88 k_3 ?_
    refine gcm c_155_89 (gbr t rfl rfl (fun hc t => ?_) (fun hc t => ?_))
    · refine g1 c_155_109 k_1 ?_
      refine g38 c_155_110 rfl ?_
      exact g91 c_155_114 ⟨by decide, t⟩
    · refine g5 c_155_92 rfl ?_
      obtain ⟨ho, j1, hr, t⟩ := t
      refine g45 c_155_93 ho hr ?_
      obtain ⟨ho, j2, hr, t⟩ := t
      refine g45 c_155_96 ho hr ?_
      refine g3 c_155_99 rfl ?_
      refine g1 c_155_100 k_1 ?_
      exact g80 (As := [.int x1, .int 1]) (rest := []) c_155_101 rfl rfl (Nat.le_of_ble_eq_true rfl) (Nat.le_of_ble_eq_true rfl) t.1 t.2
set_option maxRecDepth 20000 in
theorem t_155_104 {d : Nat} {h : ab_H} {Q : Option Value → ab_H → Prop} {x0 : Nat} {x1 : Int32} {x2 : Int32} {x3 : Int32} {x4 : Int32} {s0 : Int32} (t : if 18 ≤ s0 then (Q (some (.int 0)) h) else (Q (some (.int 1)) h)) : wq d 155 104 [.ref x0, .int x1, .int x2, .int x3, .int x4, .retAddr 0] [.int s0] h Q := by
  refine g1 c_155_104 k_18 ?_
  refine gcm c_155_106 (gbr t rfl rfl (fun hc t => ?_) (fun hc t => ?_))
  · refine g1 c_155_113 k_0 ?_
    exact g91 c_155_114 ⟨by decide, t⟩
  · refine g1 c_155_109 k_1 ?_
    refine g38 c_155_110 rfl ?_
    exact g91 c_155_114 ⟨by decide, t⟩
-- method 156: MillTown.feed(IIIII)I
theorem c_156_0 : pg_cd 156 0 = (5, 1, 0, 0, 0) := by decide +kernel
theorem c_156_1 : pg_cd 156 1 = (43, 11, 164, 11, 0) := by decide +kernel
theorem c_156_4 : pg_cd 156 4 = (1, 2, 0, 0, 20) := by decide +kernel
theorem c_156_6 : pg_cd 156 6 = (10, 1, 0, 0, 0) := by decide +kernel
theorem c_156_7 : pg_cd 156 7 = (1, 3, 0, 0, 300) := by decide +kernel
theorem c_156_10 : pg_cd 156 10 = (37, 3, 0, 5, 5) := by decide +kernel
theorem c_156_13 : pg_cd 156 13 = (1, 1, 0, 0, (-1)) := by decide +kernel
theorem c_156_14 : pg_cd 156 14 = (90, 0, 0, 0, 0) := by decide +kernel
theorem c_156_15 : pg_cd 156 15 = (5, 1, 0, 0, 0) := by decide +kernel
theorem c_156_16 : pg_cd 156 16 = (3, 1, 0, 1, 0) := by decide +kernel
theorem c_156_17 : pg_cd 156 17 = (80, 157, 167, 0, 0) := by decide +kernel
theorem c_156_20 : pg_cd 156 20 = (5, 1, 0, 0, 0) := by decide +kernel
theorem c_156_21 : pg_cd 156 21 = (3, 1, 0, 2, 0) := by decide +kernel
theorem c_156_22 : pg_cd 156 22 = (80, 157, 167, 0, 0) := by decide +kernel
theorem c_156_25 : pg_cd 156 25 = (5, 1, 0, 0, 0) := by decide +kernel
theorem c_156_26 : pg_cd 156 26 = (3, 1, 0, 3, 0) := by decide +kernel
theorem c_156_27 : pg_cd 156 27 = (80, 157, 167, 0, 0) := by decide +kernel
theorem c_156_30 : pg_cd 156 30 = (5, 1, 0, 0, 0) := by decide +kernel
theorem c_156_31 : pg_cd 156 31 = (3, 2, 0, 4, 0) := by decide +kernel
theorem c_156_33 : pg_cd 156 33 = (80, 157, 167, 0, 0) := by decide +kernel
theorem c_156_36 : pg_cd 156 36 = (5, 1, 0, 0, 0) := by decide +kernel
theorem c_156_37 : pg_cd 156 37 = (3, 2, 0, 5, 0) := by decide +kernel
theorem c_156_39 : pg_cd 156 39 = (80, 157, 167, 0, 0) := by decide +kernel
theorem c_156_42 : pg_cd 156 42 = (5, 1, 0, 0, 0) := by decide +kernel
theorem c_156_43 : pg_cd 156 43 = (43, 11, 164, 11, 0) := by decide +kernel
theorem c_156_46 : pg_cd 156 46 = (90, 0, 0, 0, 0) := by decide +kernel
theorem mx_156 : pg_mx 156 = 6 := by decide +kernel
theorem m_156 {d : Nat} {h : ab_H} {Q : Option Value → ab_H → Prop} {x0 : Nat} {x1 : Int32} {x2 : Int32} {x3 : Int32} {x4 : Int32} {x5 : Int32} (t : wq d 156 0 [.ref x0, .int x1, .int x2, .int x3, .int x4, .int x5] [] h Q) : wm d 156 [.ref x0, .int x1, .int x2, .int x3, .int x4, .int x5] h Q := by
  unfold wm
  rw [mx_156]
  exact t
set_option maxRecDepth 20000 in
theorem t_156_0 {d : Nat} {h : ab_H} {Q : Option Value → ab_H → Prop} {x0 : Nat} {x1 : Int32} {x2 : Int32} {x3 : Int32} {x4 : Int32} {x5 : Int32} (t : ab_ok h x0 111 = true ∧ if ((ab_i h x0 11) + 20) ≤ 300 then (ab_ok h x0 111 = true ∧ wm d 157 [.ref x0, .int x1] h (fun r9 h9 => wq (d + 1) 156 20 [.ref x0, .int x1, .int x2, .int x3, .int x4, .int x5] (r9.toList ++ []) h9 Q)) else (Q (some (.int (-1))) h)) : wq (d + 1) 156 0 [.ref x0, .int x1, .int x2, .int x3, .int x4, .int x5] [] h Q := by
  refine g5 c_156_0 rfl ?_
  obtain ⟨ho, t⟩ := t
  refine g43 c_156_1 ho ?_
  refine g1 c_156_4 k_20 ?_
  refine g10 c_156_6 ?_
  refine g1 c_156_7 k_300 ?_
  refine gcm c_156_10 (gbr t rfl rfl (fun hc t => ?_) (fun hc t => ?_))
  · refine g5 c_156_15 rfl ?_
    refine g3 c_156_16 rfl ?_
    exact g80 (As := [.int x1]) (rest := []) c_156_17 rfl rfl (Nat.le_of_ble_eq_true rfl) (Nat.le_of_ble_eq_true rfl) t.1 t.2
  · refine g1 c_156_13 k_m1 ?_
    exact g90 c_156_14 t
set_option maxRecDepth 20000 in
theorem t_156_20 {d : Nat} {h : ab_H} {Q : Option Value → ab_H → Prop} {x0 : Nat} {x1 : Int32} {x2 : Int32} {x3 : Int32} {x4 : Int32} {x5 : Int32} (t : ab_ok h x0 111 = true ∧ wm d 157 [.ref x0, .int x2] h (fun r9 h9 => wq (d + 1) 156 25 [.ref x0, .int x1, .int x2, .int x3, .int x4, .int x5] (r9.toList ++ []) h9 Q)) : wq (d + 1) 156 20 [.ref x0, .int x1, .int x2, .int x3, .int x4, .int x5] [] h Q := by
  refine g5 c_156_20 rfl ?_
  refine g3 c_156_21 rfl ?_
  exact g80 (As := [.int x2]) (rest := []) c_156_22 rfl rfl (Nat.le_of_ble_eq_true rfl) (Nat.le_of_ble_eq_true rfl) t.1 t.2
set_option maxRecDepth 20000 in
theorem t_156_25 {d : Nat} {h : ab_H} {Q : Option Value → ab_H → Prop} {x0 : Nat} {x1 : Int32} {x2 : Int32} {x3 : Int32} {x4 : Int32} {x5 : Int32} (t : ab_ok h x0 111 = true ∧ wm d 157 [.ref x0, .int x3] h (fun r9 h9 => wq (d + 1) 156 30 [.ref x0, .int x1, .int x2, .int x3, .int x4, .int x5] (r9.toList ++ []) h9 Q)) : wq (d + 1) 156 25 [.ref x0, .int x1, .int x2, .int x3, .int x4, .int x5] [] h Q := by
  refine g5 c_156_25 rfl ?_
  refine g3 c_156_26 rfl ?_
  exact g80 (As := [.int x3]) (rest := []) c_156_27 rfl rfl (Nat.le_of_ble_eq_true rfl) (Nat.le_of_ble_eq_true rfl) t.1 t.2
set_option maxRecDepth 20000 in
theorem t_156_30 {d : Nat} {h : ab_H} {Q : Option Value → ab_H → Prop} {x0 : Nat} {x1 : Int32} {x2 : Int32} {x3 : Int32} {x4 : Int32} {x5 : Int32} (t : ab_ok h x0 111 = true ∧ wm d 157 [.ref x0, .int x4] h (fun r9 h9 => wq (d + 1) 156 36 [.ref x0, .int x1, .int x2, .int x3, .int x4, .int x5] (r9.toList ++ []) h9 Q)) : wq (d + 1) 156 30 [.ref x0, .int x1, .int x2, .int x3, .int x4, .int x5] [] h Q := by
  refine g5 c_156_30 rfl ?_
  refine g3 c_156_31 rfl ?_
  exact g80 (As := [.int x4]) (rest := []) c_156_33 rfl rfl (Nat.le_of_ble_eq_true rfl) (Nat.le_of_ble_eq_true rfl) t.1 t.2
set_option maxRecDepth 20000 in
theorem t_156_36 {d : Nat} {h : ab_H} {Q : Option Value → ab_H → Prop} {x0 : Nat} {x1 : Int32} {x2 : Int32} {x3 : Int32} {x4 : Int32} {x5 : Int32} (t : ab_ok h x0 111 = true ∧ wm d 157 [.ref x0, .int x5] h (fun r9 h9 => wq (d + 1) 156 42 [.ref x0, .int x1, .int x2, .int x3, .int x4, .int x5] (r9.toList ++ []) h9 Q)) : wq (d + 1) 156 36 [.ref x0, .int x1, .int x2, .int x3, .int x4, .int x5] [] h Q := by
  refine g5 c_156_36 rfl ?_
  refine g3 c_156_37 rfl ?_
  exact g80 (As := [.int x5]) (rest := []) c_156_39 rfl rfl (Nat.le_of_ble_eq_true rfl) (Nat.le_of_ble_eq_true rfl) t.1 t.2
set_option maxRecDepth 20000 in
theorem t_156_42 {d : Nat} {h : ab_H} {Q : Option Value → ab_H → Prop} {x0 : Nat} {x1 : Int32} {x2 : Int32} {x3 : Int32} {x4 : Int32} {x5 : Int32} (t : ab_ok h x0 111 = true ∧ Q (some (.int (ab_i h x0 11))) h) : wq d 156 42 [.ref x0, .int x1, .int x2, .int x3, .int x4, .int x5] [] h Q := by
  refine g5 c_156_42 rfl ?_
  obtain ⟨ho, t⟩ := t
  refine g43 c_156_43 ho ?_
  exact g90 c_156_46 t
-- method 157: MillTown.feedFour(I)V
theorem c_157_0 : pg_cd 157 0 = (1, 2, 0, 0, 24) := by decide +kernel
theorem c_157_2 : pg_cd 157 2 = (6, 1, 0, 2, 0) := by decide +kernel
theorem c_157_3 : pg_cd 157 3 = (3, 1, 0, 2, 0) := by decide +kernel
theorem c_157_4 : pg_cd 157 4 = (36, 3, 0, 2, 45) := by decide +kernel
theorem c_157_7 : pg_cd 157 7 = (5, 1, 0, 0, 0) := by decide +kernel
theorem c_157_8 : pg_cd 157 8 = (43, 11, 164, 11, 0) := by decide +kernel
theorem c_157_11 : pg_cd 157 11 = (1, 3, 0, 0, 300) := by decide +kernel
theorem c_157_14 : pg_cd 157 14 = (37, 3, 0, 3, 35) := by decide +kernel
theorem c_157_17 : pg_cd 157 17 = (5, 1, 0, 0, 0) := by decide +kernel
theorem c_157_18 : pg_cd 157 18 = (45, 11, 67, 10, 0) := by decide +kernel
theorem c_157_21 : pg_cd 157 21 = (5, 1, 0, 0, 0) := by decide +kernel
theorem c_157_22 : pg_cd 157 22 = (43, 11, 164, 11, 0) := by decide +kernel
theorem c_157_25 : pg_cd 157 25 = (3, 1, 0, 1, 0) := by decide +kernel
theorem c_157_26 : pg_cd 157 26 = (3, 1, 0, 2, 0) := by decide +kernel
theorem c_157_27 : pg_cd 157 27 = (20, 1, 0, 0, 0) := by decide +kernel
theorem c_157_28 : pg_cd 157 28 = (1, 3, 0, 0, 255) := by decide +kernel
theorem c_157_31 : pg_cd 157 31 = (13, 1, 0, 0, 0) := by decide +kernel
theorem c_157_32 : pg_cd 157 32 = (54, 1, 0, 0, 0) := by decide +kernel
theorem c_157_33 : pg_cd 157 33 = (5, 1, 0, 0, 0) := by decide +kernel
theorem c_157_34 : pg_cd 157 34 = (33, 1, 0, 0, 0) := by decide +kernel
theorem c_157_35 : pg_cd 157 35 = (43, 11, 164, 11, 0) := by decide +kernel
theorem c_157_38 : pg_cd 157 38 = (1, 1, 0, 0, 1) := by decide +kernel
theorem c_157_39 : pg_cd 157 39 = (10, 1, 0, 0, 0) := by decide +kernel
theorem c_157_40 : pg_cd 157 40 = (46, 11, 164, 11, 0) := by decide +kernel
theorem c_157_43 : pg_cd 157 43 = (9, 3, 0, 2, (-8)) := by decide +kernel
theorem c_157_46 : pg_cd 157 46 = (38, 3, 0, 0, (-43)) := by decide +kernel
theorem c_157_49 : pg_cd 157 49 = (94, 0, 0, 0, 0) := by decide +kernel
theorem mx_157 : pg_mx 157 = 3 := by decide +kernel
theorem m_157 {d : Nat} {h : ab_H} {Q : Option Value → ab_H → Prop} {x0 : Nat} {x1 : Int32} (t : wq d 157 0 [.ref x0, .int x1, .retAddr 0] [] h Q) : wm d 157 [.ref x0, .int x1] h Q := by
  unfold wm
  rw [mx_157]
  exact t
set_option maxRecDepth 20000 in
theorem t_157_0 {d : Nat} {h : ab_H} {Q : Option Value → ab_H → Prop} {x0 : Nat} {x1 : Int32} (t : wq d 157 3 [.ref x0, .int x1, .int 24] [] h Q) : wq d 157 0 [.ref x0, .int x1, .retAddr 0] [] h Q := by
  refine g1 c_157_0 k_24 ?_
  refine g6 (L' := [.ref x0, .int x1, .int 24]) c_157_2 rfl ?_
  exact t
set_option maxRecDepth 20000 in
theorem t_157_3 {d : Nat} {h : ab_H} {Q : Option Value → ab_H → Prop} {x0 : Nat} {x1 : Int32} {x2 : Int32} (t : if x2 < 0 then (Q none h) else (ab_ok h x0 111 = true ∧ if 300 ≤ (ab_i h x0 11) then (Q none h) else (ab_ok h x0 111 = true ∧ ∃ j1 : Nat, ab_r h x0 10 = some j1 ∧ ab_ok h x0 111 = true ∧ (ab_ok h j1 0 = true ∧ ab_in (ab_i h x0 11) (ab_s h j1).2 = true) ∧ ∀ h2 : ab_H, h2 = ab_pi h j1 (Int32.toNatClampNeg (ab_i h x0 11)) (((Int32.toUInt32 x1 >>> (Int32.toUInt32 x2 &&& Int32.toUInt32 31)).toInt32) &&& 255) → ab_ok h2 x0 111 = true ∧ ab_ok h2 x0 111 = true ∧ ∀ h3 : ab_H, h3 = ab_pi h2 x0 11 ((ab_i h2 x0 11) + 1) → wq d 157 3 [.ref x0, .int x1, .int (x2 + (-8))] [] h3 Q))) : wq d 157 3 [.ref x0, .int x1, .int x2] [] h Q := by
  refine g3 c_157_3 rfl ?_
  refine gif c_157_4 (gbr t rfl rfl (fun hc t => ?_) (fun hc t => ?_))
  · exact g94 c_157_49 t
  · refine g5 c_157_7 rfl ?_
    obtain ⟨ho, t⟩ := t
    refine g43 c_157_8 ho ?_
    refine g1 c_157_11 k_300 ?_
    refine gcm c_157_14 (gbr t rfl rfl (fun hc t => ?_) (fun hc t => ?_))
    · exact g94 c_157_49 t
    · refine g5 c_157_17 rfl ?_
      obtain ⟨ho, j1, hr, t⟩ := t
      refine g45 c_157_18 ho hr ?_
      refine g5 c_157_21 rfl ?_
      obtain ⟨ho, t⟩ := t
      refine g43 c_157_22 ho ?_
      refine g3 c_157_25 rfl ?_
      refine g3 c_157_26 rfl ?_
      refine g20 c_157_27 ?_
      refine g1 c_157_28 k_255 ?_
      refine g13 c_157_31 ?_
      obtain ⟨ho, t⟩ := t
      refine g54 c_157_32 ho (fun h2 eh2 => ?_)
      have t := t h2 eh2
      refine g5 c_157_33 rfl ?_
      refine g33a c_157_34 ?_
      obtain ⟨ho, t⟩ := t
      refine g43 c_157_35 ho ?_
      refine g1 c_157_38 k_1 ?_
      refine g10 c_157_39 ?_
      obtain ⟨ho, t⟩ := t
      refine g46 c_157_40 ho (fun h3 eh3 => ?_)
      have t := t h3 eh3
      refine g9 (L' := [.ref x0, .int x1, .int (x2 + (-8))]) c_157_43 rfl k_m8 rfl ?_
      refine g38 c_157_46 rfl ?_
      exact t
-- method 158: MillTown.end(I)I
theorem c_158_0 : pg_cd 158 0 = (3, 1, 0, 1, 0) := by decide +kernel
theorem c_158_1 : pg_cd 158 1 = (36, 3, 0, 2, 11) := by decide +kernel
theorem c_158_4 : pg_cd 158 4 = (3, 1, 0, 1, 0) := by decide +kernel
theorem c_158_5 : pg_cd 158 5 = (5, 1, 0, 0, 0) := by decide +kernel
theorem c_158_6 : pg_cd 158 6 = (43, 11, 164, 11, 0) := by decide +kernel
theorem c_158_9 : pg_cd 158 9 = (37, 3, 0, 5, 5) := by decide +kernel
theorem c_158_12 : pg_cd 158 12 = (1, 1, 0, 0, (-1)) := by decide +kernel
theorem c_158_13 : pg_cd 158 13 = (90, 0, 0, 0, 0) := by decide +kernel
theorem c_158_14 : pg_cd 158 14 = (5, 1, 0, 0, 0) := by decide +kernel
theorem c_158_15 : pg_cd 158 15 = (3, 1, 0, 1, 0) := by decide +kernel
theorem c_158_16 : pg_cd 158 16 = (46, 11, 164, 11, 0) := by decide +kernel
theorem c_158_19 : pg_cd 158 19 = (3, 1, 0, 1, 0) := by decide +kernel
theorem c_158_20 : pg_cd 158 20 = (90, 0, 0, 0, 0) := by decide +kernel
theorem mx_158 : pg_mx 158 = 2 := by decide +kernel
theorem m_158 {d : Nat} {h : ab_H} {Q : Option Value → ab_H → Prop} {x0 : Nat} {x1 : Int32} (t : wq d 158 0 [.ref x0, .int x1] [] h Q) : wm d 158 [.ref x0, .int x1] h Q := by
  unfold wm
  rw [mx_158]
  exact t
set_option maxRecDepth 20000 in
theorem t_158_0 {d : Nat} {h : ab_H} {Q : Option Value → ab_H → Prop} {x0 : Nat} {x1 : Int32} (t : if x1 < 0 then (Q (some (.int (-1))) h) else (ab_ok h x0 111 = true ∧ if x1 ≤ (ab_i h x0 11) then (ab_ok h x0 111 = true ∧ ∀ h1 : ab_H, h1 = ab_pi h x0 11 x1 → Q (some (.int x1)) h1) else (Q (some (.int (-1))) h))) : wq d 158 0 [.ref x0, .int x1] [] h Q := by
  refine g3 c_158_0 rfl ?_
  refine gif c_158_1 (gbr t rfl rfl (fun hc t => ?_) (fun hc t => ?_))
  · refine g1 c_158_12 k_m1 ?_
    exact g90 c_158_13 t
  · refine g3 c_158_4 rfl ?_
    refine g5 c_158_5 rfl ?_
    obtain ⟨ho, t⟩ := t
    refine g43 c_158_6 ho ?_
    refine gcm c_158_9 (gbr t rfl rfl (fun hc t => ?_) (fun hc t => ?_))
    · refine g5 c_158_14 rfl ?_
      refine g3 c_158_15 rfl ?_
      obtain ⟨ho, t⟩ := t
      refine g46 c_158_16 ho (fun h1 eh1 => ?_)
      have t := t h1 eh1
      refine g3 c_158_19 rfl ?_
      exact g90 c_158_20 t
    · refine g1 c_158_12 k_m1 ?_
      exact g90 c_158_13 t
-- method 159: MillTown.text()I
theorem c_159_0 : pg_cd 159 0 = (5, 1, 0, 0, 0) := by decide +kernel
theorem c_159_1 : pg_cd 159 1 = (45, 11, 33, 4, 0) := by decide +kernel
theorem c_159_4 : pg_cd 159 4 = (5, 1, 0, 0, 0) := by decide +kernel
theorem c_159_5 : pg_cd 159 5 = (45, 11, 12, 0, 0) := by decide +kernel
theorem c_159_8 : pg_cd 159 8 = (43, 8, 81, 9, 0) := by decide +kernel
theorem c_159_11 : pg_cd 159 11 = (80, 9, 170, 0, 0) := by decide +kernel
theorem c_159_14 : pg_cd 159 14 = (8, 1, 0, 1, 0) := by decide +kernel
theorem c_159_15 : pg_cd 159 15 = (5, 1, 0, 1, 0) := by decide +kernel
theorem c_159_16 : pg_cd 159 16 = (40, 3, 0, 0, 5) := by decide +kernel
theorem c_159_19 : pg_cd 159 19 = (1, 1, 0, 0, (-1)) := by decide +kernel
theorem c_159_20 : pg_cd 159 20 = (90, 0, 0, 0, 0) := by decide +kernel
theorem c_159_21 : pg_cd 159 21 = (5, 1, 0, 0, 0) := by decide +kernel
theorem c_159_22 : pg_cd 159 22 = (45, 11, 42, 6, 0) := by decide +kernel
theorem c_159_25 : pg_cd 159 25 = (5, 1, 0, 0, 0) := by decide +kernel
theorem c_159_26 : pg_cd 159 26 = (45, 11, 67, 10, 0) := by decide +kernel
theorem c_159_29 : pg_cd 159 29 = (5, 1, 0, 0, 0) := by decide +kernel
theorem c_159_30 : pg_cd 159 30 = (43, 11, 164, 11, 0) := by decide +kernel
theorem c_159_33 : pg_cd 159 33 = (5, 1, 0, 1, 0) := by decide +kernel
theorem c_159_34 : pg_cd 159 34 = (80, 35, 176, 0, 0) := by decide +kernel
theorem c_159_37 : pg_cd 159 37 = (6, 1, 0, 2, 0) := by decide +kernel
theorem c_159_38 : pg_cd 159 38 = (5, 1, 0, 0, 0) := by decide +kernel
theorem c_159_39 : pg_cd 159 39 = (1, 1, 0, 0, 0) := by decide +kernel
theorem c_159_40 : pg_cd 159 40 = (46, 11, 164, 11, 0) := by decide +kernel
theorem c_159_43 : pg_cd 159 43 = (3, 1, 0, 2, 0) := by decide +kernel
theorem c_159_44 : pg_cd 159 44 = (36, 3, 0, 1, 5) := by decide +kernel
theorem c_159_47 : pg_cd 159 47 = (1, 1, 0, 0, (-1)) := by decide +kernel
theorem c_159_48 : pg_cd 159 48 = (90, 0, 0, 0, 0) := by decide +kernel
theorem c_159_49 : pg_cd 159 49 = (5, 1, 0, 0, 0) := by decide +kernel
theorem c_159_50 : pg_cd 159 50 = (45, 11, 12, 0, 0) := by decide +kernel
theorem c_159_53 : pg_cd 159 53 = (33, 1, 0, 0, 0) := by decide +kernel
theorem c_159_54 : pg_cd 159 54 = (43, 8, 81, 9, 0) := by decide +kernel
theorem c_159_57 : pg_cd 159 57 = (1, 1, 0, 0, 1) := by decide +kernel
theorem c_159_58 : pg_cd 159 58 = (10, 1, 0, 0, 0) := by decide +kernel
theorem c_159_59 : pg_cd 159 59 = (46, 8, 81, 9, 0) := by decide +kernel
theorem c_159_62 : pg_cd 159 62 = (5, 1, 0, 0, 0) := by decide +kernel
theorem c_159_63 : pg_cd 159 63 = (45, 11, 12, 0, 0) := by decide +kernel
theorem c_159_66 : pg_cd 159 66 = (43, 8, 81, 9, 0) := by decide +kernel
theorem c_159_69 : pg_cd 159 69 = (1, 1, 0, 0, 1) := by decide +kernel
theorem c_159_70 : pg_cd 159 70 = (11, 1, 0, 0, 0) := by decide +kernel
theorem c_159_71 : pg_cd 159 71 = (90, 0, 0, 0, 0) := by decide +kernel
theorem mx_159 : pg_mx 159 = 3 := by decide +kernel
theorem m_159 {d : Nat} {h : ab_H} {Q : Option Value → ab_H → Prop} {x0 : Nat} (t : wq d 159 0 [.ref x0, .retAddr 0, .retAddr 0] [] h Q) : wm d 159 [.ref x0] h Q := by
  unfold wm
  rw [mx_159]
  exact t
set_option maxRecDepth 20000 in
theorem t_159_0 {d : Nat} {h : ab_H} {Q : Option Value → ab_H → Prop} {x0 : Nat} (t : ab_ok h x0 111 = true ∧ ∃ j1 : Nat, ab_r h x0 4 = some j1 ∧ ab_ok h x0 111 = true ∧ ∃ j2 : Nat, ab_r h x0 0 = some j2 ∧ ab_ok h j2 108 = true ∧ ab_ok h j1 101 = true ∧ wm d 9 [.ref j1, .int (ab_i h j2 9)] h (fun r9 h9 => wq (d + 1) 159 14 [.ref x0, .retAddr 0, .retAddr 0] (r9.toList ++ []) h9 Q)) : wq (d + 1) 159 0 [.ref x0, .retAddr 0, .retAddr 0] [] h Q := by
  refine g5 c_159_0 rfl ?_
  obtain ⟨ho, j1, hr, t⟩ := t
  refine g45 c_159_1 ho hr ?_
  refine g5 c_159_4 rfl ?_
  obtain ⟨ho, j2, hr, t⟩ := t
  refine g45 c_159_5 ho hr ?_
  obtain ⟨ho, t⟩ := t
  refine g43 c_159_8 ho ?_
  exact g80 (As := [.int (ab_i h j2 9)]) (rest := []) c_159_11 rfl rfl (Nat.le_of_ble_eq_true rfl) (Nat.le_of_ble_eq_true rfl) t.1 t.2
set_option maxRecDepth 20000 in
theorem t_159_14 {d : Nat} {h : ab_H} {Q : Option Value → ab_H → Prop} {x0 : Nat} {s0 : Nat} (t : ab_ok h x0 111 = true ∧ ∃ j1 : Nat, ab_r h x0 6 = some j1 ∧ ab_ok h x0 111 = true ∧ ∃ j2 : Nat, ab_r h x0 10 = some j2 ∧ ab_ok h x0 111 = true ∧ ab_ok h j1 103 = true ∧ wm d 35 [.ref j1, .ref j2, .int (ab_i h x0 11), .ref s0] h (fun r9 h9 => wq (d + 1) 159 37 [.ref x0, .ref s0, .retAddr 0] (r9.toList ++ []) h9 Q)) : wq (d + 1) 159 14 [.ref x0, .retAddr 0, .retAddr 0] [.ref s0] h Q := by
  refine g8 (L' := [.ref x0, .ref s0, .retAddr 0]) c_159_14 rfl ?_
  refine g5 c_159_15 rfl ?_
  refine g40a c_159_16 rfl ?_
  refine g5 c_159_21 rfl ?_
  obtain ⟨ho, j1, hr, t⟩ := t
  refine g45 c_159_22 ho hr ?_
  refine g5 c_159_25 rfl ?_
  obtain ⟨ho, j2, hr, t⟩ := t
  refine g45 c_159_26 ho hr ?_
  refine g5 c_159_29 rfl ?_
  obtain ⟨ho, t⟩ := t
  refine g43 c_159_30 ho ?_
  refine g5 c_159_33 rfl ?_
  exact g80 (As := [.ref j2, .int (ab_i h x0 11), .ref s0]) (rest := []) c_159_34 rfl rfl (Nat.le_of_ble_eq_true rfl) (Nat.le_of_ble_eq_true rfl) t.1 t.2
set_option maxRecDepth 20000 in
theorem t_159_37 {d : Nat} {h : ab_H} {Q : Option Value → ab_H → Prop} {x0 : Nat} {x1 : Nat} {s0 : Int32} (t : ab_ok h x0 111 = true ∧ ∀ h1 : ab_H, h1 = ab_pi h x0 11 0 → if s0 = 0 then (Q (some (.int (-1))) h1) else (ab_ok h1 x0 111 = true ∧ ∃ j2 : Nat, ab_r h1 x0 0 = some j2 ∧ ab_ok h1 j2 108 = true ∧ ab_ok h1 j2 108 = true ∧ ∀ h3 : ab_H, h3 = ab_pi h1 j2 9 ((ab_i h1 j2 9) + 1) → ab_ok h3 x0 111 = true ∧ ∃ j4 : Nat, ab_r h3 x0 0 = some j4 ∧ ab_ok h3 j4 108 = true ∧ Q (some (.int ((ab_i h3 j4 9) - 1))) h3)) : wq d 159 37 [.ref x0, .ref x1, .retAddr 0] [.int s0] h Q := by
  refine g6 (L' := [.ref x0, .ref x1, .int s0]) c_159_37 rfl ?_
  refine g5 c_159_38 rfl ?_
  refine g1 c_159_39 k_0 ?_
  obtain ⟨ho, t⟩ := t
  refine g46 c_159_40 ho (fun h1 eh1 => ?_)
  have t := t h1 eh1
  refine g3 c_159_43 rfl ?_
  refine gif c_159_44 (gbn t (ab_c1 _ _) rfl (fun hc t => ?_) (fun hc t => ?_))
  · refine g1 c_159_47 k_m1 ?_
    exact g90 c_159_48 t
  · refine g5 c_159_49 rfl ?_
    obtain ⟨ho, j2, hr, t⟩ := t
    refine g45 c_159_50 ho hr ?_
    refine g33a c_159_53 ?_
    obtain ⟨ho, t⟩ := t
    refine g43 c_159_54 ho ?_
    refine g1 c_159_57 k_1 ?_
    refine g10 c_159_58 ?_
    obtain ⟨ho, t⟩ := t
    refine g46 c_159_59 ho (fun h3 eh3 => ?_)
    have t := t h3 eh3
    refine g5 c_159_62 rfl ?_
    obtain ⟨ho, j4, hr, t⟩ := t
    refine g45 c_159_63 ho hr ?_
    obtain ⟨ho, t⟩ := t
    refine g43 c_159_66 ho ?_
    refine g1 c_159_69 k_1 ?_
    refine g11 c_159_70 ?_
    exact g90 c_159_71 t
-- method 160: MillTown.fault(I)I
theorem c_160_0 : pg_cd 160 0 = (3, 1, 0, 1, 0) := by decide +kernel
theorem c_160_1 : pg_cd 160 1 = (36, 3, 0, 1, 11) := by decide +kernel
theorem c_160_4 : pg_cd 160 4 = (5, 1, 0, 0, 0) := by decide +kernel
theorem c_160_5 : pg_cd 160 5 = (45, 11, 42, 6, 0) := by decide +kernel
theorem c_160_8 : pg_cd 160 8 = (80, 33, 180, 0, 0) := by decide +kernel
theorem c_160_11 : pg_cd 160 11 = (90, 0, 0, 0, 0) := by decide +kernel
theorem c_160_12 : pg_cd 160 12 = (3, 1, 0, 1, 0) := by decide +kernel
theorem c_160_13 : pg_cd 160 13 = (1, 1, 0, 0, 1) := by decide +kernel
theorem c_160_14 : pg_cd 160 14 = (37, 3, 0, 1, 13) := by decide +kernel
theorem c_160_17 : pg_cd 160 17 = (5, 1, 0, 0, 0) := by decide +kernel
theorem c_160_18 : pg_cd 160 18 = (45, 11, 42, 6, 0) := by decide +kernel
theorem c_160_21 : pg_cd 160 21 = (80, 34, 184, 0, 0) := by decide +kernel
theorem c_160_24 : pg_cd 160 24 = (38, 3, 0, 0, 4) := by decide +kernel
theorem c_160_27 : pg_cd 160 27 = (1, 1, 0, 0, (-1)) := by decide +kernel
theorem c_160_28 : pg_cd 160 28 = (90, 0, 0, 0, 0) := by decide +kernel
theorem mx_160 : pg_mx 160 = 2 := by decide +kernel
theorem m_160 {d : Nat} {h : ab_H} {Q : Option Value → ab_H → Prop} {x0 : Nat} {x1 : Int32} (t : wq d 160 0 [.ref x0, .int x1] [] h Q) : wm d 160 [.ref x0, .int x1] h Q := by
  unfold wm
  rw [mx_160]
  exact t
set_option maxRecDepth 20000 in
theorem t_160_0 {d : Nat} {h : ab_H} {Q : Option Value → ab_H → Prop} {x0 : Nat} {x1 : Int32} (t : if x1 = 0 then (ab_ok h x0 111 = true ∧ ∃ j1 : Nat, ab_r h x0 6 = some j1 ∧ ab_ok h j1 103 = true ∧ wm d 33 [.ref j1] h (fun r9 h9 => wq (d + 1) 160 11 [.ref x0, .int x1] (r9.toList ++ []) h9 Q)) else (if x1 = 1 then (ab_ok h x0 111 = true ∧ ∃ j2 : Nat, ab_r h x0 6 = some j2 ∧ ab_ok h j2 103 = true ∧ wm d 34 [.ref j2] h (fun r9 h9 => wq (d + 1) 160 24 [.ref x0, .int x1] (r9.toList ++ []) h9 Q)) else (Q (some (.int (-1))) h))) : wq (d + 1) 160 0 [.ref x0, .int x1] [] h Q := by
  refine g3 c_160_0 rfl ?_
  refine gif c_160_1 (gbn t (ab_c1 _ _) rfl (fun hc t => ?_) (fun hc t => ?_))
  · refine g5 c_160_4 rfl ?_
    obtain ⟨ho, j1, hr, t⟩ := t
    refine g45 c_160_5 ho hr ?_
    exact g80 (As := []) (rest := []) c_160_8 rfl rfl (Nat.le_of_ble_eq_true rfl) (Nat.le_of_ble_eq_true rfl) t.1 t.2
  · refine g3 c_160_12 rfl ?_
    refine g1 c_160_13 k_1 ?_
    refine gcm c_160_14 (gbn t (ab_c1 _ _) rfl (fun hc t => ?_) (fun hc t => ?_))
    · refine g5 c_160_17 rfl ?_
      obtain ⟨ho, j2, hr, t⟩ := t
      refine g45 c_160_18 ho hr ?_
      exact g80 (As := []) (rest := []) c_160_21 rfl rfl (Nat.le_of_ble_eq_true rfl) (Nat.le_of_ble_eq_true rfl) t.1 t.2
    · refine g1 c_160_27 k_m1 ?_
      exact g90 c_160_28 t
set_option maxRecDepth 20000 in
theorem t_160_11 {d : Nat} {h : ab_H} {Q : Option Value → ab_H → Prop} {x0 : Nat} {x1 : Int32} {s0 : Int32} (t : Q (some (.int s0)) h) : wq d 160 11 [.ref x0, .int x1] [.int s0] h Q := by
  exact g90 c_160_11 t
set_option maxRecDepth 20000 in
theorem t_160_24 {d : Nat} {h : ab_H} {Q : Option Value → ab_H → Prop} {x0 : Nat} {x1 : Int32} {s0 : Int32} (t : Q (some (.int s0)) h) : wq d 160 24 [.ref x0, .int x1] [.int s0] h Q := by
  refine g38 c_160_24 rfl ?_
  exact g90 c_160_28 t
-- method 161: MillTown.force(IIII)I
theorem c_161_0 : pg_cd 161 0 = (5, 1, 0, 0, 0) := by decide +kernel
theorem c_161_1 : pg_cd 161 1 = (3, 1, 0, 1, 0) := by decide +kernel
theorem c_161_2 : pg_cd 161 2 = (80, 144, 187, 0, 0) := by decide +kernel
theorem c_161_5 : pg_cd 161 5 = (36, 3, 0, 0, 40) := by decide +kernel
theorem c_161_8 : pg_cd 161 8 = (5, 1, 0, 0, 0) := by decide +kernel
theorem c_161_9 : pg_cd 161 9 = (3, 1, 0, 2, 0) := by decide +kernel
theorem c_161_10 : pg_cd 161 10 = (80, 143, 190, 0, 0) := by decide +kernel
theorem c_161_13 : pg_cd 161 13 = (36, 3, 0, 0, 32) := by decide +kernel
theorem c_161_16 : pg_cd 161 16 = (3, 1, 0, 3, 0) := by decide +kernel
theorem c_161_17 : pg_cd 161 17 = (5, 1, 0, 0, 0) := by decide +kernel
theorem c_161_18 : pg_cd 161 18 = (45, 11, 12, 0, 0) := by decide +kernel
theorem c_161_21 : pg_cd 161 21 = (43, 8, 193, 8, 0) := by decide +kernel
theorem c_161_24 : pg_cd 161 24 = (37, 3, 0, 2, 21) := by decide +kernel
theorem c_161_27 : pg_cd 161 27 = (3, 2, 0, 4, 0) := by decide +kernel
theorem c_161_29 : pg_cd 161 29 = (3, 1, 0, 3, 0) := by decide +kernel
theorem c_161_30 : pg_cd 161 30 = (37, 3, 0, 2, 15) := by decide +kernel
theorem c_161_33 : pg_cd 161 33 = (3, 2, 0, 4, 0) := by decide +kernel
theorem c_161_35 : pg_cd 161 35 = (1, 3, 0, 0, 400) := by decide +kernel
theorem c_161_38 : pg_cd 161 38 = (37, 3, 0, 3, 7) := by decide +kernel
theorem c_161_41 : pg_cd 161 41 = (1, 1, 0, 0, 1) := by decide +kernel
theorem c_161_42 : pg_cd 161 42 = (38, 3, 0, 0, 4) := by decide +kernel
theorem c_161_45 : pg_cd 161 45 = (1, 1, 0, 0, 0) := by decide +kernel
theorem c_161_46 : pg_cd 161 46 = (6, 2, 0, 5, 0) := by decide +kernel
theorem c_161_48 : pg_cd 161 48 = (3, 2, 0, 5, 0) := by decide +kernel
theorem c_161_50 : pg_cd 161 50 = (36, 3, 0, 0, 18) := by decide +kernel
theorem c_161_53 : pg_cd 161 53 = (5, 1, 0, 0, 0) := by decide +kernel
theorem c_161_54 : pg_cd 161 54 = (45, 11, 12, 0, 0) := by decide +kernel
theorem c_161_57 : pg_cd 161 57 = (45, 8, 196, 7, 0) := by decide +kernel
theorem c_161_60 : pg_cd 161 60 = (43, 4, 199, 2, 0) := by decide +kernel
theorem c_161_63 : pg_cd 161 63 = (1, 2, 0, 0, 60) := by decide +kernel
theorem c_161_65 : pg_cd 161 65 = (37, 3, 0, 2, 5) := by decide +kernel
theorem c_161_68 : pg_cd 161 68 = (1, 1, 0, 0, (-1)) := by decide +kernel
theorem c_161_69 : pg_cd 161 69 = (90, 0, 0, 0, 0) := by decide +kernel
theorem c_161_70 : pg_cd 161 70 = (5, 1, 0, 0, 0) := by decide +kernel
theorem c_161_71 : pg_cd 161 71 = (45, 11, 12, 0, 0) := by decide +kernel
theorem c_161_74 : pg_cd 161 74 = (3, 1, 0, 1, 0) := by decide +kernel
theorem c_161_75 : pg_cd 161 75 = (3, 1, 0, 2, 0) := by decide +kernel
theorem c_161_76 : pg_cd 161 76 = (3, 1, 0, 3, 0) := by decide +kernel
theorem c_161_77 : pg_cd 161 77 = (3, 2, 0, 4, 0) := by decide +kernel
theorem c_161_79 : pg_cd 161 79 = (80, 95, 202, 0, 0) := by decide +kernel
theorem c_161_82 : pg_cd 161 82 = (90, 0, 0, 0, 0) := by decide +kernel
theorem mx_161 : pg_mx 161 = 6 := by decide +kernel
theorem m_161 {d : Nat} {h : ab_H} {Q : Option Value → ab_H → Prop} {x0 : Nat} {x1 : Int32} {x2 : Int32} {x3 : Int32} {x4 : Int32} (t : wq d 161 0 [.ref x0, .int x1, .int x2, .int x3, .int x4, .retAddr 0] [] h Q) : wm d 161 [.ref x0, .int x1, .int x2, .int x3, .int x4] h Q := by
  unfold wm
  rw [mx_161]
  exact t
set_option maxRecDepth 20000 in
theorem t_161_0 {d : Nat} {h : ab_H} {Q : Option Value → ab_H → Prop} {x0 : Nat} {x1 : Int32} {x2 : Int32} {x3 : Int32} {x4 : Int32} (t : ab_ok h x0 111 = true ∧ wm d 144 [.ref x0, .int x1] h (fun r9 h9 => wq (d + 1) 161 5 [.ref x0, .int x1, .int x2, .int x3, .int x4, .retAddr 0] (r9.toList ++ []) h9 Q)) : wq (d + 1) 161 0 [.ref x0, .int x1, .int x2, .int x3, .int x4, .retAddr 0] [] h Q := by
  refine g5 c_161_0 rfl ?_
  refine g3 c_161_1 rfl ?_
  exact g80 (As := [.int x1]) (rest := []) c_161_2 rfl rfl (Nat.le_of_ble_eq_true rfl) (Nat.le_of_ble_eq_true rfl) t.1 t.2
set_option maxRecDepth 20000 in
theorem t_161_5 {d : Nat} {h : ab_H} {Q : Option Value → ab_H → Prop} {x0 : Nat} {x1 : Int32} {x2 : Int32} {x3 : Int32} {x4 : Int32} {s0 : Int32} (t : if s0 = 0 then (if (0 : Int32) = 0 then (Q (some (.int (-1))) h) else (ab_ok h x0 111 = true ∧ ∃ j1 : Nat, ab_r h x0 0 = some j1 ∧ ab_ok h j1 108 = true ∧ ∃ j2 : Nat, ab_r h j1 7 = some j2 ∧ ab_ok h j2 104 = true ∧ if (ab_i h j2 2) < 60 then (ab_ok h x0 111 = true ∧ ∃ j3 : Nat, ab_r h x0 0 = some j3 ∧ ab_ok h j3 108 = true ∧ wm d 95 [.ref j3, .int x1, .int x2, .int x3, .int x4] h (fun r9 h9 => wq (d + 1) 161 82 [.ref x0, .int x1, .int x2, .int x3, .int x4, .int 0] (r9.toList ++ []) h9 Q)) else (Q (some (.int (-1))) h))) else (ab_ok h x0 111 = true ∧ wm d 143 [.ref x0, .int x2] h (fun r9 h9 => wq (d + 1) 161 13 [.ref x0, .int x1, .int x2, .int x3, .int x4, .retAddr 0] (r9.toList ++ []) h9 Q))) : wq (d + 1) 161 5 [.ref x0, .int x1, .int x2, .int x3, .int x4, .retAddr 0] [.int s0] h Q := by
  refine gif c_161_5 (gbr t rfl rfl (fun hc t => ?_) (fun hc t => ?_))
  · refine g1 c_161_45 k_0 ?_
    refine g6 (L' := [.ref x0, .int x1, .int x2, .int x3, .int x4, .int 0]) c_161_46 rfl ?_
    refine g3 c_161_48 rfl ?_
    refine gif c_161_50 (gbr t rfl rfl (fun hc t => ?_) (fun hc t => ?_))
    · refine g1 c_161_68 k_m1 ?_
      exact g90 c_161_69 t
    · refine g5 c_161_53 rfl ?_
      obtain ⟨ho, j1, hr, t⟩ := t
      refine g45 c_161_54 ho hr ?_
      obtain ⟨ho, j2, hr, t⟩ := t
      refine g45 c_161_57 ho hr ?_
      obtain ⟨ho, t⟩ := t
      refine g43 c_161_60 ho ?_
      refine g1 c_161_63 k_60 ?_
      refine gcm c_161_65 (gbr t rfl rfl (fun hc t => ?_) (fun hc t => ?_))
      · refine g5 c_161_70 rfl ?_
        obtain ⟨ho, j3, hr, t⟩ := t
        refine g45 c_161_71 ho hr ?_
        refine g3 c_161_74 rfl ?_
        refine g3 c_161_75 rfl ?_
        refine g3 c_161_76 rfl ?_
        refine g3 c_161_77 rfl ?_
        exact g80 (As := [.int x1, .int x2, .int x3, .int x4]) (rest := []) c_161_79 rfl rfl (Nat.le_of_ble_eq_true rfl) (Nat.le_of_ble_eq_true rfl) t.1 t.2
      · refine g1 c_161_68 k_m1 ?_
        exact g90 c_161_69 t
  · refine g5 c_161_8 rfl ?_
    refine g3 c_161_9 rfl ?_
    exact g80 (As := [.int x2]) (rest := []) c_161_10 rfl rfl (Nat.le_of_ble_eq_true rfl) (Nat.le_of_ble_eq_true rfl) t.1 t.2
set_option maxRecDepth 20000 in
theorem t_161_13 {d : Nat} {h : ab_H} {Q : Option Value → ab_H → Prop} {x0 : Nat} {x1 : Int32} {x2 : Int32} {x3 : Int32} {x4 : Int32} {s0 : Int32} (t : if s0 = 0 then (if (0 : Int32) = 0 then (Q (some (.int (-1))) h) else (ab_ok h x0 111 = true ∧ ∃ j1 : Nat, ab_r h x0 0 = some j1 ∧ ab_ok h j1 108 = true ∧ ∃ j2 : Nat, ab_r h j1 7 = some j2 ∧ ab_ok h j2 104 = true ∧ if (ab_i h j2 2) < 60 then (ab_ok h x0 111 = true ∧ ∃ j3 : Nat, ab_r h x0 0 = some j3 ∧ ab_ok h j3 108 = true ∧ wm d 95 [.ref j3, .int x1, .int x2, .int x3, .int x4] h (fun r9 h9 => wq (d + 1) 161 82 [.ref x0, .int x1, .int x2, .int x3, .int x4, .int 0] (r9.toList ++ []) h9 Q)) else (Q (some (.int (-1))) h))) else (ab_ok h x0 111 = true ∧ ∃ j4 : Nat, ab_r h x0 0 = some j4 ∧ ab_ok h j4 108 = true ∧ if x3 < (ab_i h j4 8) then (if (0 : Int32) = 0 then (Q (some (.int (-1))) h) else (ab_ok h x0 111 = true ∧ ∃ j5 : Nat, ab_r h x0 0 = some j5 ∧ ab_ok h j5 108 = true ∧ ∃ j6 : Nat, ab_r h j5 7 = some j6 ∧ ab_ok h j6 104 = true ∧ if (ab_i h j6 2) < 60 then (ab_ok h x0 111 = true ∧ ∃ j7 : Nat, ab_r h x0 0 = some j7 ∧ ab_ok h j7 108 = true ∧ wm d 95 [.ref j7, .int x1, .int x2, .int x3, .int x4] h (fun r9 h9 => wq (d + 1) 161 82 [.ref x0, .int x1, .int x2, .int x3, .int x4, .int 0] (r9.toList ++ []) h9 Q)) else (Q (some (.int (-1))) h))) else (if x4 < x3 then (if (0 : Int32) = 0 then (Q (some (.int (-1))) h) else (ab_ok h x0 111 = true ∧ ∃ j8 : Nat, ab_r h x0 0 = some j8 ∧ ab_ok h j8 108 = true ∧ ∃ j9 : Nat, ab_r h j8 7 = some j9 ∧ ab_ok h j9 104 = true ∧ if (ab_i h j9 2) < 60 then (ab_ok h x0 111 = true ∧ ∃ j10 : Nat, ab_r h x0 0 = some j10 ∧ ab_ok h j10 108 = true ∧ wm d 95 [.ref j10, .int x1, .int x2, .int x3, .int x4] h (fun r9 h9 => wq (d + 1) 161 82 [.ref x0, .int x1, .int x2, .int x3, .int x4, .int 0] (r9.toList ++ []) h9 Q)) else (Q (some (.int (-1))) h))) else (if 400 ≤ x4 then (if (0 : Int32) = 0 then (Q (some (.int (-1))) h) else (ab_ok h x0 111 = true ∧ ∃ j11 : Nat, ab_r h x0 0 = some j11 ∧ ab_ok h j11 108 = true ∧ ∃ j12 : Nat, ab_r h j11 7 = some j12 ∧ ab_ok h j12 104 = true ∧ if (ab_i h j12 2) < 60 then (ab_ok h x0 111 = true ∧ ∃ j13 : Nat, ab_r h x0 0 = some j13 ∧ ab_ok h j13 108 = true ∧ wm d 95 [.ref j13, .int x1, .int x2, .int x3, .int x4] h (fun r9 h9 => wq (d + 1) 161 82 [.ref x0, .int x1, .int x2, .int x3, .int x4, .int 0] (r9.toList ++ []) h9 Q)) else (Q (some (.int (-1))) h))) else (if (1 : Int32) = 0 then (Q (some (.int (-1))) h) else (ab_ok h x0 111 = true ∧ ∃ j14 : Nat, ab_r h x0 0 = some j14 ∧ ab_ok h j14 108 = true ∧ ∃ j15 : Nat, ab_r h j14 7 = some j15 ∧ ab_ok h j15 104 = true ∧ if (ab_i h j15 2) < 60 then (ab_ok h x0 111 = true ∧ ∃ j16 : Nat, ab_r h x0 0 = some j16 ∧ ab_ok h j16 108 = true ∧ wm d 95 [.ref j16, .int x1, .int x2, .int x3, .int x4] h (fun r9 h9 => wq (d + 1) 161 82 [.ref x0, .int x1, .int x2, .int x3, .int x4, .int 1] (r9.toList ++ []) h9 Q)) else (Q (some (.int (-1))) h))))))) : wq (d + 1) 161 13 [.ref x0, .int x1, .int x2, .int x3, .int x4, .retAddr 0] [.int s0] h Q := by
  refine gif c_161_13 (gbr t rfl rfl (fun hc t => ?_) (fun hc t => ?_))
  · refine g1 c_161_45 k_0 ?_
    refine g6 (L' := [.ref x0, .int x1, .int x2, .int x3, .int x4, .int 0]) c_161_46 rfl ?_
    refine g3 c_161_48 rfl ?_
    refine gif c_161_50 (gbr t rfl rfl (fun hc t => ?_) (fun hc t => ?_))
    · refine g1 c_161_68 k_m1 ?_
      exact g90 c_161_69 t
    · refine g5 c_161_53 rfl ?_
      obtain ⟨ho, j1, hr, t⟩ := t
      refine g45 c_161_54 ho hr ?_
      obtain ⟨ho, j2, hr, t⟩ := t
      refine g45 c_161_57 ho hr ?_
      obtain ⟨ho, t⟩ := t
      refine g43 c_161_60 ho ?_
      refine g1 c_161_63 k_60 ?_
      refine gcm c_161_65 (gbr t rfl rfl (fun hc t => ?_) (fun hc t => ?_))
      · refine g5 c_161_70 rfl ?_
        obtain ⟨ho, j3, hr, t⟩ := t
        refine g45 c_161_71 ho hr ?_
        refine g3 c_161_74 rfl ?_
        refine g3 c_161_75 rfl ?_
        refine g3 c_161_76 rfl ?_
        refine g3 c_161_77 rfl ?_
        exact g80 (As := [.int x1, .int x2, .int x3, .int x4]) (rest := []) c_161_79 rfl rfl (Nat.le_of_ble_eq_true rfl) (Nat.le_of_ble_eq_true rfl) t.1 t.2
      · refine g1 c_161_68 k_m1 ?_
        exact g90 c_161_69 t
  · refine g3 c_161_16 rfl ?_
    refine g5 c_161_17 rfl ?_
    obtain ⟨ho, j4, hr, t⟩ := t
    refine g45 c_161_18 ho hr ?_
    obtain ⟨ho, t⟩ := t
    refine g43 c_161_21 ho ?_
    refine gcm c_161_24 (gbr t rfl rfl (fun hc t => ?_) (fun hc t => ?_))
    · refine g1 c_161_45 k_0 ?_
      refine g6 (L' := [.ref x0, .int x1, .int x2, .int x3, .int x4, .int 0]) c_161_46 rfl ?_
      refine g3 c_161_48 rfl ?_
      refine gif c_161_50 (gbr t rfl rfl (fun hc t => ?_) (fun hc t => ?_))
      · refine g1 c_161_68 k_m1 ?_
        exact g90 c_161_69 t
      · refine g5 c_161_53 rfl ?_
        obtain ⟨ho, j5, hr, t⟩ := t
        refine g45 c_161_54 ho hr ?_
        obtain ⟨ho, j6, hr, t⟩ := t
        refine g45 c_161_57 ho hr ?_
        obtain ⟨ho, t⟩ := t
        refine g43 c_161_60 ho ?_
        refine g1 c_161_63 k_60 ?_
        refine gcm c_161_65 (gbr t rfl rfl (fun hc t => ?_) (fun hc t => ?_))
        · refine g5 c_161_70 rfl ?_
          obtain ⟨ho, j7, hr, t⟩ := t
          refine g45 c_161_71 ho hr ?_
          refine g3 c_161_74 rfl ?_
          refine g3 c_161_75 rfl ?_
          refine g3 c_161_76 rfl ?_
          refine g3 c_161_77 rfl ?_
          exact g80 (As := [.int x1, .int x2, .int x3, .int x4]) (rest := []) c_161_79 rfl rfl (Nat.le_of_ble_eq_true rfl) (Nat.le_of_ble_eq_true rfl) t.1 t.2
        · refine g1 c_161_68 k_m1 ?_
          exact g90 c_161_69 t
    · refine g3 c_161_27 rfl ?_
      refine g3 c_161_29 rfl ?_
      refine gcm c_161_30 (gbr t rfl rfl (fun hc t => ?_) (fun hc t => ?_))
      · refine g1 c_161_45 k_0 ?_
        refine g6 (L' := [.ref x0, .int x1, .int x2, .int x3, .int x4, .int 0]) c_161_46 rfl ?_
        refine g3 c_161_48 rfl ?_
        refine gif c_161_50 (gbr t rfl rfl (fun hc t => ?_) (fun hc t => ?_))
        · refine g1 c_161_68 k_m1 ?_
          exact g90 c_161_69 t
        · refine g5 c_161_53 rfl ?_
          obtain ⟨ho, j8, hr, t⟩ := t
          refine g45 c_161_54 ho hr ?_
          obtain ⟨ho, j9, hr, t⟩ := t
          refine g45 c_161_57 ho hr ?_
          obtain ⟨ho, t⟩ := t
          refine g43 c_161_60 ho ?_
          refine g1 c_161_63 k_60 ?_
          refine gcm c_161_65 (gbr t rfl rfl (fun hc t => ?_) (fun hc t => ?_))
          · refine g5 c_161_70 rfl ?_
            obtain ⟨ho, j10, hr, t⟩ := t
            refine g45 c_161_71 ho hr ?_
            refine g3 c_161_74 rfl ?_
            refine g3 c_161_75 rfl ?_
            refine g3 c_161_76 rfl ?_
            refine g3 c_161_77 rfl ?_
            exact g80 (As := [.int x1, .int x2, .int x3, .int x4]) (rest := []) c_161_79 rfl rfl (Nat.le_of_ble_eq_true rfl) (Nat.le_of_ble_eq_true rfl) t.1 t.2
          · refine g1 c_161_68 k_m1 ?_
            exact g90 c_161_69 t
      · refine g3 c_161_33 rfl ?_
        refine g1 c_161_35 k_400 ?_
        refine gcm c_161_38 (gbr t rfl rfl (fun hc t => ?_) (fun hc t => ?_))
        · refine g1 c_161_45 k_0 ?_
          refine g6 (L' := [.ref x0, .int x1, .int x2, .int x3, .int x4, .int 0]) c_161_46 rfl ?_
          refine g3 c_161_48 rfl ?_
          refine gif c_161_50 (gbr t rfl rfl (fun hc t => ?_) (fun hc t => ?_))
          · refine g1 c_161_68 k_m1 ?_
            exact g90 c_161_69 t
          · refine g5 c_161_53 rfl ?_
            obtain ⟨ho, j11, hr, t⟩ := t
            refine g45 c_161_54 ho hr ?_
            obtain ⟨ho, j12, hr, t⟩ := t
            refine g45 c_161_57 ho hr ?_
            obtain ⟨ho, t⟩ := t
            refine g43 c_161_60 ho ?_
            refine g1 c_161_63 k_60 ?_
            refine gcm c_161_65 (gbr t rfl rfl (fun hc t => ?_) (fun hc t => ?_))
            · refine g5 c_161_70 rfl ?_
              obtain ⟨ho, j13, hr, t⟩ := t
              refine g45 c_161_71 ho hr ?_
              refine g3 c_161_74 rfl ?_
              refine g3 c_161_75 rfl ?_
              refine g3 c_161_76 rfl ?_
              refine g3 c_161_77 rfl ?_
              exact g80 (As := [.int x1, .int x2, .int x3, .int x4]) (rest := []) c_161_79 rfl rfl (Nat.le_of_ble_eq_true rfl) (Nat.le_of_ble_eq_true rfl) t.1 t.2
            · refine g1 c_161_68 k_m1 ?_
              exact g90 c_161_69 t
        · refine g1 c_161_41 k_1 ?_
          refine g38 c_161_42 rfl ?_
          refine g6 (L' := [.ref x0, .int x1, .int x2, .int x3, .int x4, .int 1]) c_161_46 rfl ?_
          refine g3 c_161_48 rfl ?_
          refine gif c_161_50 (gbr t rfl rfl (fun hc t => ?_) (fun hc t => ?_))
          · refine g1 c_161_68 k_m1 ?_
            exact g90 c_161_69 t
          · refine g5 c_161_53 rfl ?_
            obtain ⟨ho, j14, hr, t⟩ := t
            refine g45 c_161_54 ho hr ?_
            obtain ⟨ho, j15, hr, t⟩ := t
            refine g45 c_161_57 ho hr ?_
            obtain ⟨ho, t⟩ := t
            refine g43 c_161_60 ho ?_
            refine g1 c_161_63 k_60 ?_
            refine gcm c_161_65 (gbr t rfl rfl (fun hc t => ?_) (fun hc t => ?_))
            · refine g5 c_161_70 rfl ?_
              obtain ⟨ho, j16, hr, t⟩ := t
              refine g45 c_161_71 ho hr ?_
              refine g3 c_161_74 rfl ?_
              refine g3 c_161_75 rfl ?_
              refine g3 c_161_76 rfl ?_
              refine g3 c_161_77 rfl ?_
              exact g80 (As := [.int x1, .int x2, .int x3, .int x4]) (rest := []) c_161_79 rfl rfl (Nat.le_of_ble_eq_true rfl) (Nat.le_of_ble_eq_true rfl) t.1 t.2
            · refine g1 c_161_68 k_m1 ?_
              exact g90 c_161_69 t
set_option maxRecDepth 20000 in
theorem t_161_82 {d : Nat} {h : ab_H} {Q : Option Value → ab_H → Prop} {x0 : Nat} {x1 : Int32} {x2 : Int32} {x3 : Int32} {x4 : Int32} {x5 : Int32} {s0 : Int32} (t : Q (some (.int s0)) h) : wq d 161 82 [.ref x0, .int x1, .int x2, .int x3, .int x4, .int x5] [.int s0] h Q := by
  exact g90 c_161_82 t
-- method 162: MillTown.isAsked(III)Z
theorem c_162_0 : pg_cd 162 0 = (5, 1, 0, 0, 0) := by decide +kernel
theorem c_162_1 : pg_cd 162 1 = (45, 11, 12, 0, 0) := by decide +kernel
theorem c_162_4 : pg_cd 162 4 = (45, 8, 71, 2, 0) := by decide +kernel
theorem c_162_7 : pg_cd 162 7 = (3, 1, 0, 1, 0) := by decide +kernel
theorem c_162_8 : pg_cd 162 8 = (80, 53, 75, 0, 0) := by decide +kernel
theorem c_162_11 : pg_cd 162 11 = (36, 3, 0, 0, 21) := by decide +kernel
theorem c_162_14 : pg_cd 162 14 = (3, 1, 0, 2, 0) := by decide +kernel
theorem c_162_15 : pg_cd 162 15 = (81, 142, 97, 0, 0) := by decide +kernel
theorem c_162_18 : pg_cd 162 18 = (36, 3, 0, 0, 14) := by decide +kernel
theorem c_162_21 : pg_cd 162 21 = (3, 1, 0, 3, 0) := by decide +kernel
theorem c_162_22 : pg_cd 162 22 = (81, 142, 97, 0, 0) := by decide +kernel
theorem c_162_25 : pg_cd 162 25 = (36, 3, 0, 0, 7) := by decide +kernel
theorem c_162_28 : pg_cd 162 28 = (1, 1, 0, 0, 1) := by decide +kernel
theorem c_162_29 : pg_cd 162 29 = (38, 3, 0, 0, 4) := by decide +kernel
theorem c_162_32 : pg_cd 162 32 = (1, 1, 0, 0, 0) := by decide +kernel
theorem c_162_33 : pg_cd 162 33 = (91, 0, 0, 0, 0) := by decide +kernel
theorem mx_162 : pg_mx 162 = 4 := by decide +kernel
theorem m_162 {d : Nat} {h : ab_H} {Q : Option Value → ab_H → Prop} {x0 : Nat} {x1 : Int32} {x2 : Int32} {x3 : Int32} (t : wq d 162 0 [.ref x0, .int x1, .int x2, .int x3] [] h Q) : wm d 162 [.ref x0, .int x1, .int x2, .int x3] h Q := by
  unfold wm
  rw [mx_162]
  exact t
set_option maxRecDepth 20000 in
theorem t_162_0 {d : Nat} {h : ab_H} {Q : Option Value → ab_H → Prop} {x0 : Nat} {x1 : Int32} {x2 : Int32} {x3 : Int32} (t : ab_ok h x0 111 = true ∧ ∃ j1 : Nat, ab_r h x0 0 = some j1 ∧ ab_ok h j1 108 = true ∧ ∃ j2 : Nat, ab_r h j1 2 = some j2 ∧ ab_ok h j2 104 = true ∧ wm d 53 [.ref j2, .int x1] h (fun r9 h9 => wq (d + 1) 162 11 [.ref x0, .int x1, .int x2, .int x3] (r9.toList ++ []) h9 Q)) : wq (d + 1) 162 0 [.ref x0, .int x1, .int x2, .int x3] [] h Q := by
  refine g5 c_162_0 rfl ?_
  obtain ⟨ho, j1, hr, t⟩ := t
  refine g45 c_162_1 ho hr ?_
  obtain ⟨ho, j2, hr, t⟩ := t
  refine g45 c_162_4 ho hr ?_
  refine g3 c_162_7 rfl ?_
  exact g80 (As := [.int x1]) (rest := []) c_162_8 rfl rfl (Nat.le_of_ble_eq_true rfl) (Nat.le_of_ble_eq_true rfl) t.1 t.2
set_option maxRecDepth 20000 in
theorem t_162_11 {d : Nat} {h : ab_H} {Q : Option Value → ab_H → Prop} {x0 : Nat} {x1 : Int32} {x2 : Int32} {x3 : Int32} {s0 : Int32} (t : if s0 = 0 then (Q (some (.int 0)) h) else (wm d 142 [.int x2] h (fun r9 h9 => wq (d + 1) 162 18 [.ref x0, .int x1, .int x2, .int x3] (r9.toList ++ []) h9 Q))) : wq (d + 1) 162 11 [.ref x0, .int x1, .int x2, .int x3] [.int s0] h Q := by
  refine gif c_162_11 (gbr t rfl rfl (fun hc t => ?_) (fun hc t => ?_))
  · refine g1 c_162_32 k_0 ?_
    exact g91 c_162_33 ⟨by decide, t⟩
  · refine g3 c_162_14 rfl ?_
    exact g81 (As := [.int x2]) (rest := []) c_162_15 rfl rfl (Nat.le_of_ble_eq_true rfl) (Nat.le_of_ble_eq_true rfl) t
set_option maxRecDepth 20000 in
theorem t_162_18 {d : Nat} {h : ab_H} {Q : Option Value → ab_H → Prop} {x0 : Nat} {x1 : Int32} {x2 : Int32} {x3 : Int32} {s0 : Int32} (t : if s0 = 0 then (Q (some (.int 0)) h) else (wm d 142 [.int x3] h (fun r9 h9 => wq (d + 1) 162 25 [.ref x0, .int x1, .int x2, .int x3] (r9.toList ++ []) h9 Q))) : wq (d + 1) 162 18 [.ref x0, .int x1, .int x2, .int x3] [.int s0] h Q := by
  refine gif c_162_18 (gbr t rfl rfl (fun hc t => ?_) (fun hc t => ?_))
  · refine g1 c_162_32 k_0 ?_
    exact g91 c_162_33 ⟨by decide, t⟩
  · refine g3 c_162_21 rfl ?_
    exact g81 (As := [.int x3]) (rest := []) c_162_22 rfl rfl (Nat.le_of_ble_eq_true rfl) (Nat.le_of_ble_eq_true rfl) t
set_option maxRecDepth 20000 in
theorem t_162_25 {d : Nat} {h : ab_H} {Q : Option Value → ab_H → Prop} {x0 : Nat} {x1 : Int32} {x2 : Int32} {x3 : Int32} {s0 : Int32} (t : if s0 = 0 then (Q (some (.int 0)) h) else (Q (some (.int 1)) h)) : wq d 162 25 [.ref x0, .int x1, .int x2, .int x3] [.int s0] h Q := by
  refine gif c_162_25 (gbr t rfl rfl (fun hc t => ?_) (fun hc t => ?_))
  · refine g1 c_162_32 k_0 ?_
    exact g91 c_162_33 ⟨by decide, t⟩
  · refine g1 c_162_28 k_1 ?_
    refine g38 c_162_29 rfl ?_
    exact g91 c_162_33 ⟨by decide, t⟩
-- method 163: MillTown.pay(IIII)I
theorem c_163_0 : pg_cd 163 0 = (3, 1, 0, 1, 0) := by decide +kernel
theorem c_163_1 : pg_cd 163 1 = (1, 1, 0, 0, 0) := by decide +kernel
theorem c_163_2 : pg_cd 163 2 = (1, 1, 0, 0, 5) := by decide +kernel
theorem c_163_3 : pg_cd 163 3 = (81, 141, 85, 0, 0) := by decide +kernel
theorem c_163_6 : pg_cd 163 6 = (36, 3, 0, 0, 14) := by decide +kernel
theorem c_163_9 : pg_cd 163 9 = (5, 1, 0, 0, 0) := by decide +kernel
theorem c_163_10 : pg_cd 163 10 = (3, 1, 0, 2, 0) := by decide +kernel
theorem c_163_11 : pg_cd 163 11 = (3, 1, 0, 3, 0) := by decide +kernel
theorem c_163_12 : pg_cd 163 12 = (3, 2, 0, 4, 0) := by decide +kernel
theorem c_163_14 : pg_cd 163 14 = (80, 162, 205, 0, 0) := by decide +kernel
theorem c_163_17 : pg_cd 163 17 = (36, 3, 0, 1, 5) := by decide +kernel
theorem c_163_20 : pg_cd 163 20 = (1, 1, 0, 0, (-1)) := by decide +kernel
theorem c_163_21 : pg_cd 163 21 = (90, 0, 0, 0, 0) := by decide +kernel
theorem c_163_22 : pg_cd 163 22 = (5, 1, 0, 0, 0) := by decide +kernel
theorem c_163_23 : pg_cd 163 23 = (45, 11, 33, 4, 0) := by decide +kernel
theorem c_163_26 : pg_cd 163 26 = (5, 1, 0, 0, 0) := by decide +kernel
theorem c_163_27 : pg_cd 163 27 = (45, 11, 12, 0, 0) := by decide +kernel
theorem c_163_30 : pg_cd 163 30 = (3, 1, 0, 1, 0) := by decide +kernel
theorem c_163_31 : pg_cd 163 31 = (3, 1, 0, 2, 0) := by decide +kernel
theorem c_163_32 : pg_cd 163 32 = (3, 1, 0, 3, 0) := by decide +kernel
theorem c_163_33 : pg_cd 163 33 = (3, 2, 0, 4, 0) := by decide +kernel
theorem c_163_35 : pg_cd 163 35 = (80, 19, 208, 0, 0) := by decide +kernel
theorem c_163_38 : pg_cd 163 38 = (90, 0, 0, 0, 0) := by decide +kernel
theorem mx_163 : pg_mx 163 = 5 := by decide +kernel
theorem m_163 {d : Nat} {h : ab_H} {Q : Option Value → ab_H → Prop} {x0 : Nat} {x1 : Int32} {x2 : Int32} {x3 : Int32} {x4 : Int32} (t : wq d 163 0 [.ref x0, .int x1, .int x2, .int x3, .int x4] [] h Q) : wm d 163 [.ref x0, .int x1, .int x2, .int x3, .int x4] h Q := by
  unfold wm
  rw [mx_163]
  exact t
set_option maxRecDepth 20000 in
theorem t_163_0 {d : Nat} {h : ab_H} {Q : Option Value → ab_H → Prop} {x0 : Nat} {x1 : Int32} {x2 : Int32} {x3 : Int32} {x4 : Int32} (t : wm d 141 [.int x1, .int 0, .int 5] h (fun r9 h9 => wq (d + 1) 163 6 [.ref x0, .int x1, .int x2, .int x3, .int x4] (r9.toList ++ []) h9 Q)) : wq (d + 1) 163 0 [.ref x0, .int x1, .int x2, .int x3, .int x4] [] h Q := by
  refine g3 c_163_0 rfl ?_
  refine g1 c_163_1 k_0 ?_
  refine g1 c_163_2 k_5 ?_
  exact g81 (As := [.int x1, .int 0, .int 5]) (rest := []) c_163_3 rfl rfl (Nat.le_of_ble_eq_true rfl) (Nat.le_of_ble_eq_true rfl) t
set_option maxRecDepth 20000 in
theorem t_163_6 {d : Nat} {h : ab_H} {Q : Option Value → ab_H → Prop} {x0 : Nat} {x1 : Int32} {x2 : Int32} {x3 : Int32} {x4 : Int32} {s0 : Int32} (t : if s0 = 0 then (Q (some (.int (-1))) h) else (ab_ok h x0 111 = true ∧ wm d 162 [.ref x0, .int x2, .int x3, .int x4] h (fun r9 h9 => wq (d + 1) 163 17 [.ref x0, .int x1, .int x2, .int x3, .int x4] (r9.toList ++ []) h9 Q))) : wq (d + 1) 163 6 [.ref x0, .int x1, .int x2, .int x3, .int x4] [.int s0] h Q := by
  refine gif c_163_6 (gbr t rfl rfl (fun hc t => ?_) (fun hc t => ?_))
  · refine g1 c_163_20 k_m1 ?_
    exact g90 c_163_21 t
  · refine g5 c_163_9 rfl ?_
    refine g3 c_163_10 rfl ?_
    refine g3 c_163_11 rfl ?_
    refine g3 c_163_12 rfl ?_
    exact g80 (As := [.int x2, .int x3, .int x4]) (rest := []) c_163_14 rfl rfl (Nat.le_of_ble_eq_true rfl) (Nat.le_of_ble_eq_true rfl) t.1 t.2
set_option maxRecDepth 20000 in
theorem t_163_17 {d : Nat} {h : ab_H} {Q : Option Value → ab_H → Prop} {x0 : Nat} {x1 : Int32} {x2 : Int32} {x3 : Int32} {x4 : Int32} {s0 : Int32} (t : if s0 = 0 then (Q (some (.int (-1))) h) else (ab_ok h x0 111 = true ∧ ∃ j1 : Nat, ab_r h x0 4 = some j1 ∧ ab_ok h x0 111 = true ∧ ∃ j2 : Nat, ab_r h x0 0 = some j2 ∧ ab_ok h j1 101 = true ∧ wm d 19 [.ref j1, .ref j2, .int x1, .int x2, .int x3, .int x4] h (fun r9 h9 => wq (d + 1) 163 38 [.ref x0, .int x1, .int x2, .int x3, .int x4] (r9.toList ++ []) h9 Q))) : wq (d + 1) 163 17 [.ref x0, .int x1, .int x2, .int x3, .int x4] [.int s0] h Q := by
  refine gif c_163_17 (gbn t (ab_c1 _ _) rfl (fun hc t => ?_) (fun hc t => ?_))
  · refine g1 c_163_20 k_m1 ?_
    exact g90 c_163_21 t
  · refine g5 c_163_22 rfl ?_
    obtain ⟨ho, j1, hr, t⟩ := t
    refine g45 c_163_23 ho hr ?_
    refine g5 c_163_26 rfl ?_
    obtain ⟨ho, j2, hr, t⟩ := t
    refine g45 c_163_27 ho hr ?_
    refine g3 c_163_30 rfl ?_
    refine g3 c_163_31 rfl ?_
    refine g3 c_163_32 rfl ?_
    refine g3 c_163_33 rfl ?_
    exact g80 (As := [.ref j2, .int x1, .int x2, .int x3, .int x4]) (rest := []) c_163_35 rfl rfl (Nat.le_of_ble_eq_true rfl) (Nat.le_of_ble_eq_true rfl) t.1 t.2
set_option maxRecDepth 20000 in
theorem t_163_38 {d : Nat} {h : ab_H} {Q : Option Value → ab_H → Prop} {x0 : Nat} {x1 : Int32} {x2 : Int32} {x3 : Int32} {x4 : Int32} {s0 : Int32} (t : Q (some (.int s0)) h) : wq d 163 38 [.ref x0, .int x1, .int x2, .int x3, .int x4] [.int s0] h Q := by
  exact g90 c_163_38 t
-- method 164: MillTown.why(IIIII)I
theorem c_164_0 : pg_cd 164 0 = (3, 1, 0, 1, 0) := by decide +kernel
theorem c_164_1 : pg_cd 164 1 = (1, 1, 0, 0, 0) := by decide +kernel
theorem c_164_2 : pg_cd 164 2 = (1, 1, 0, 0, 5) := by decide +kernel
theorem c_164_3 : pg_cd 164 3 = (81, 141, 85, 0, 0) := by decide +kernel
theorem c_164_6 : pg_cd 164 6 = (36, 3, 0, 0, 14) := by decide +kernel
theorem c_164_9 : pg_cd 164 9 = (5, 1, 0, 0, 0) := by decide +kernel
theorem c_164_10 : pg_cd 164 10 = (3, 1, 0, 2, 0) := by decide +kernel
theorem c_164_11 : pg_cd 164 11 = (3, 1, 0, 3, 0) := by decide +kernel
theorem c_164_12 : pg_cd 164 12 = (3, 2, 0, 4, 0) := by decide +kernel
theorem c_164_14 : pg_cd 164 14 = (80, 162, 205, 0, 0) := by decide +kernel
theorem c_164_17 : pg_cd 164 17 = (36, 3, 0, 1, 5) := by decide +kernel
theorem c_164_20 : pg_cd 164 20 = (1, 1, 0, 0, (-1)) := by decide +kernel
theorem c_164_21 : pg_cd 164 21 = (90, 0, 0, 0, 0) := by decide +kernel
theorem c_164_22 : pg_cd 164 22 = (5, 1, 0, 0, 0) := by decide +kernel
theorem c_164_23 : pg_cd 164 23 = (45, 11, 33, 4, 0) := by decide +kernel
theorem c_164_26 : pg_cd 164 26 = (5, 1, 0, 0, 0) := by decide +kernel
theorem c_164_27 : pg_cd 164 27 = (45, 11, 12, 0, 0) := by decide +kernel
theorem c_164_30 : pg_cd 164 30 = (3, 1, 0, 1, 0) := by decide +kernel
theorem c_164_31 : pg_cd 164 31 = (3, 1, 0, 2, 0) := by decide +kernel
theorem c_164_32 : pg_cd 164 32 = (3, 1, 0, 3, 0) := by decide +kernel
theorem c_164_33 : pg_cd 164 33 = (3, 2, 0, 4, 0) := by decide +kernel
theorem c_164_35 : pg_cd 164 35 = (80, 19, 208, 0, 0) := by decide +kernel
theorem c_164_38 : pg_cd 164 38 = (35, 1, 0, 0, 0) := by decide +kernel
theorem c_164_39 : pg_cd 164 39 = (3, 2, 0, 5, 0) := by decide +kernel
theorem c_164_41 : pg_cd 164 41 = (1, 1, 0, 0, (-1)) := by decide +kernel
theorem c_164_42 : pg_cd 164 42 = (37, 3, 0, 1, 13) := by decide +kernel
theorem c_164_45 : pg_cd 164 45 = (5, 1, 0, 0, 0) := by decide +kernel
theorem c_164_46 : pg_cd 164 46 = (45, 11, 33, 4, 0) := by decide +kernel
theorem c_164_49 : pg_cd 164 49 = (80, 17, 212, 0, 0) := by decide +kernel
theorem c_164_52 : pg_cd 164 52 = (38, 3, 0, 0, 12) := by decide +kernel
theorem c_164_55 : pg_cd 164 55 = (5, 1, 0, 0, 0) := by decide +kernel
theorem c_164_56 : pg_cd 164 56 = (45, 11, 33, 4, 0) := by decide +kernel
theorem c_164_59 : pg_cd 164 59 = (3, 2, 0, 5, 0) := by decide +kernel
theorem c_164_61 : pg_cd 164 61 = (80, 18, 215, 0, 0) := by decide +kernel
theorem c_164_64 : pg_cd 164 64 = (90, 0, 0, 0, 0) := by decide +kernel
theorem mx_164 : pg_mx 164 = 6 := by decide +kernel
theorem m_164 {d : Nat} {h : ab_H} {Q : Option Value → ab_H → Prop} {x0 : Nat} {x1 : Int32} {x2 : Int32} {x3 : Int32} {x4 : Int32} {x5 : Int32} (t : wq d 164 0 [.ref x0, .int x1, .int x2, .int x3, .int x4, .int x5] [] h Q) : wm d 164 [.ref x0, .int x1, .int x2, .int x3, .int x4, .int x5] h Q := by
  unfold wm
  rw [mx_164]
  exact t
set_option maxRecDepth 20000 in
theorem t_164_0 {d : Nat} {h : ab_H} {Q : Option Value → ab_H → Prop} {x0 : Nat} {x1 : Int32} {x2 : Int32} {x3 : Int32} {x4 : Int32} {x5 : Int32} (t : wm d 141 [.int x1, .int 0, .int 5] h (fun r9 h9 => wq (d + 1) 164 6 [.ref x0, .int x1, .int x2, .int x3, .int x4, .int x5] (r9.toList ++ []) h9 Q)) : wq (d + 1) 164 0 [.ref x0, .int x1, .int x2, .int x3, .int x4, .int x5] [] h Q := by
  refine g3 c_164_0 rfl ?_
  refine g1 c_164_1 k_0 ?_
  refine g1 c_164_2 k_5 ?_
  exact g81 (As := [.int x1, .int 0, .int 5]) (rest := []) c_164_3 rfl rfl (Nat.le_of_ble_eq_true rfl) (Nat.le_of_ble_eq_true rfl) t
set_option maxRecDepth 20000 in
theorem t_164_6 {d : Nat} {h : ab_H} {Q : Option Value → ab_H → Prop} {x0 : Nat} {x1 : Int32} {x2 : Int32} {x3 : Int32} {x4 : Int32} {x5 : Int32} {s0 : Int32} (t : if s0 = 0 then (Q (some (.int (-1))) h) else (ab_ok h x0 111 = true ∧ wm d 162 [.ref x0, .int x2, .int x3, .int x4] h (fun r9 h9 => wq (d + 1) 164 17 [.ref x0, .int x1, .int x2, .int x3, .int x4, .int x5] (r9.toList ++ []) h9 Q))) : wq (d + 1) 164 6 [.ref x0, .int x1, .int x2, .int x3, .int x4, .int x5] [.int s0] h Q := by
  refine gif c_164_6 (gbr t rfl rfl (fun hc t => ?_) (fun hc t => ?_))
  · refine g1 c_164_20 k_m1 ?_
    exact g90 c_164_21 t
  · refine g5 c_164_9 rfl ?_
    refine g3 c_164_10 rfl ?_
    refine g3 c_164_11 rfl ?_
    refine g3 c_164_12 rfl ?_
    exact g80 (As := [.int x2, .int x3, .int x4]) (rest := []) c_164_14 rfl rfl (Nat.le_of_ble_eq_true rfl) (Nat.le_of_ble_eq_true rfl) t.1 t.2
set_option maxRecDepth 20000 in
theorem t_164_17 {d : Nat} {h : ab_H} {Q : Option Value → ab_H → Prop} {x0 : Nat} {x1 : Int32} {x2 : Int32} {x3 : Int32} {x4 : Int32} {x5 : Int32} {s0 : Int32} (t : if s0 = 0 then (Q (some (.int (-1))) h) else (ab_ok h x0 111 = true ∧ ∃ j1 : Nat, ab_r h x0 4 = some j1 ∧ ab_ok h x0 111 = true ∧ ∃ j2 : Nat, ab_r h x0 0 = some j2 ∧ ab_ok h j1 101 = true ∧ wm d 19 [.ref j1, .ref j2, .int x1, .int x2, .int x3, .int x4] h (fun r9 h9 => wq (d + 1) 164 38 [.ref x0, .int x1, .int x2, .int x3, .int x4, .int x5] (r9.toList ++ []) h9 Q))) : wq (d + 1) 164 17 [.ref x0, .int x1, .int x2, .int x3, .int x4, .int x5] [.int s0] h Q := by
  refine gif c_164_17 (gbn t (ab_c1 _ _) rfl (fun hc t => ?_) (fun hc t => ?_))
  · refine g1 c_164_20 k_m1 ?_
    exact g90 c_164_21 t
  · refine g5 c_164_22 rfl ?_
    obtain ⟨ho, j1, hr, t⟩ := t
    refine g45 c_164_23 ho hr ?_
    refine g5 c_164_26 rfl ?_
    obtain ⟨ho, j2, hr, t⟩ := t
    refine g45 c_164_27 ho hr ?_
    refine g3 c_164_30 rfl ?_
    refine g3 c_164_31 rfl ?_
    refine g3 c_164_32 rfl ?_
    refine g3 c_164_33 rfl ?_
    exact g80 (As := [.ref j2, .int x1, .int x2, .int x3, .int x4]) (rest := []) c_164_35 rfl rfl (Nat.le_of_ble_eq_true rfl) (Nat.le_of_ble_eq_true rfl) t.1 t.2
set_option maxRecDepth 20000 in
theorem t_164_38 {d : Nat} {h : ab_H} {Q : Option Value → ab_H → Prop} {x0 : Nat} {x1 : Int32} {x2 : Int32} {x3 : Int32} {x4 : Int32} {x5 : Int32} {s0 : Int32} (t : if x5 = (-1) then (ab_ok h x0 111 = true ∧ ∃ j1 : Nat, ab_r h x0 4 = some j1 ∧ ab_ok h j1 101 = true ∧ wm d 17 [.ref j1] h (fun r9 h9 => wq (d + 1) 164 52 [.ref x0, .int x1, .int x2, .int x3, .int x4, .int x5] (r9.toList ++ []) h9 Q)) else (ab_ok h x0 111 = true ∧ ∃ j2 : Nat, ab_r h x0 4 = some j2 ∧ ab_ok h j2 101 = true ∧ wm d 18 [.ref j2, .int x5] h (fun r9 h9 => wq (d + 1) 164 64 [.ref x0, .int x1, .int x2, .int x3, .int x4, .int x5] (r9.toList ++ []) h9 Q))) : wq (d + 1) 164 38 [.ref x0, .int x1, .int x2, .int x3, .int x4, .int x5] [.int s0] h Q := by
  refine g35i c_164_38 ?_
  refine g3 c_164_39 rfl ?_
  refine g1 c_164_41 k_m1 ?_
  refine gcm c_164_42 (gbn t (ab_c1 _ _) rfl (fun hc t => ?_) (fun hc t => ?_))
  · refine g5 c_164_45 rfl ?_
    obtain ⟨ho, j1, hr, t⟩ := t
    refine g45 c_164_46 ho hr ?_
    exact g80 (As := []) (rest := []) c_164_49 rfl rfl (Nat.le_of_ble_eq_true rfl) (Nat.le_of_ble_eq_true rfl) t.1 t.2
  · refine g5 c_164_55 rfl ?_
    obtain ⟨ho, j2, hr, t⟩ := t
    refine g45 c_164_56 ho hr ?_
    refine g3 c_164_59 rfl ?_
    exact g80 (As := [.int x5]) (rest := []) c_164_61 rfl rfl (Nat.le_of_ble_eq_true rfl) (Nat.le_of_ble_eq_true rfl) t.1 t.2
set_option maxRecDepth 20000 in
theorem t_164_52 {d : Nat} {h : ab_H} {Q : Option Value → ab_H → Prop} {x0 : Nat} {x1 : Int32} {x2 : Int32} {x3 : Int32} {x4 : Int32} {x5 : Int32} {s0 : Int32} (t : Q (some (.int s0)) h) : wq d 164 52 [.ref x0, .int x1, .int x2, .int x3, .int x4, .int x5] [.int s0] h Q := by
  refine g38 c_164_52 rfl ?_
  exact g90 c_164_64 t
set_option maxRecDepth 20000 in
theorem t_164_64 {d : Nat} {h : ab_H} {Q : Option Value → ab_H → Prop} {x0 : Nat} {x1 : Int32} {x2 : Int32} {x3 : Int32} {x4 : Int32} {x5 : Int32} {s0 : Int32} (t : Q (some (.int s0)) h) : wq d 164 64 [.ref x0, .int x1, .int x2, .int x3, .int x4, .int x5] [.int s0] h Q := by
  exact g90 c_164_64 t
-- method 165: MillTown.hours(IIII)I
theorem c_165_0 : pg_cd 165 0 = (3, 1, 0, 1, 0) := by decide +kernel
theorem c_165_1 : pg_cd 165 1 = (1, 1, 0, 0, 0) := by decide +kernel
theorem c_165_2 : pg_cd 165 2 = (1, 2, 0, 0, 99) := by decide +kernel
theorem c_165_4 : pg_cd 165 4 = (81, 141, 85, 0, 0) := by decide +kernel
theorem c_165_7 : pg_cd 165 7 = (36, 3, 0, 0, 14) := by decide +kernel
theorem c_165_10 : pg_cd 165 10 = (5, 1, 0, 0, 0) := by decide +kernel
theorem c_165_11 : pg_cd 165 11 = (3, 1, 0, 2, 0) := by decide +kernel
theorem c_165_12 : pg_cd 165 12 = (3, 1, 0, 3, 0) := by decide +kernel
theorem c_165_13 : pg_cd 165 13 = (3, 2, 0, 4, 0) := by decide +kernel
theorem c_165_15 : pg_cd 165 15 = (80, 162, 205, 0, 0) := by decide +kernel
theorem c_165_18 : pg_cd 165 18 = (36, 3, 0, 1, 5) := by decide +kernel
theorem c_165_21 : pg_cd 165 21 = (1, 1, 0, 0, (-1)) := by decide +kernel
theorem c_165_22 : pg_cd 165 22 = (90, 0, 0, 0, 0) := by decide +kernel
theorem c_165_23 : pg_cd 165 23 = (5, 1, 0, 0, 0) := by decide +kernel
theorem c_165_24 : pg_cd 165 24 = (45, 11, 33, 4, 0) := by decide +kernel
theorem c_165_27 : pg_cd 165 27 = (5, 1, 0, 0, 0) := by decide +kernel
theorem c_165_28 : pg_cd 165 28 = (45, 11, 12, 0, 0) := by decide +kernel
theorem c_165_31 : pg_cd 165 31 = (3, 1, 0, 1, 0) := by decide +kernel
theorem c_165_32 : pg_cd 165 32 = (3, 1, 0, 2, 0) := by decide +kernel
theorem c_165_33 : pg_cd 165 33 = (3, 1, 0, 3, 0) := by decide +kernel
theorem c_165_34 : pg_cd 165 34 = (3, 2, 0, 4, 0) := by decide +kernel
theorem c_165_36 : pg_cd 165 36 = (80, 14, 218, 0, 0) := by decide +kernel
theorem c_165_39 : pg_cd 165 39 = (90, 0, 0, 0, 0) := by decide +kernel
theorem mx_165 : pg_mx 165 = 5 := by decide +kernel
theorem m_165 {d : Nat} {h : ab_H} {Q : Option Value → ab_H → Prop} {x0 : Nat} {x1 : Int32} {x2 : Int32} {x3 : Int32} {x4 : Int32} (t : wq d 165 0 [.ref x0, .int x1, .int x2, .int x3, .int x4] [] h Q) : wm d 165 [.ref x0, .int x1, .int x2, .int x3, .int x4] h Q := by
  unfold wm
  rw [mx_165]
  exact t
set_option maxRecDepth 20000 in
theorem t_165_0 {d : Nat} {h : ab_H} {Q : Option Value → ab_H → Prop} {x0 : Nat} {x1 : Int32} {x2 : Int32} {x3 : Int32} {x4 : Int32} (t : wm d 141 [.int x1, .int 0, .int 99] h (fun r9 h9 => wq (d + 1) 165 7 [.ref x0, .int x1, .int x2, .int x3, .int x4] (r9.toList ++ []) h9 Q)) : wq (d + 1) 165 0 [.ref x0, .int x1, .int x2, .int x3, .int x4] [] h Q := by
  refine g3 c_165_0 rfl ?_
  refine g1 c_165_1 k_0 ?_
  refine g1 c_165_2 k_99 ?_
  exact g81 (As := [.int x1, .int 0, .int 99]) (rest := []) c_165_4 rfl rfl (Nat.le_of_ble_eq_true rfl) (Nat.le_of_ble_eq_true rfl) t
set_option maxRecDepth 20000 in
theorem t_165_7 {d : Nat} {h : ab_H} {Q : Option Value → ab_H → Prop} {x0 : Nat} {x1 : Int32} {x2 : Int32} {x3 : Int32} {x4 : Int32} {s0 : Int32} (t : if s0 = 0 then (Q (some (.int (-1))) h) else (ab_ok h x0 111 = true ∧ wm d 162 [.ref x0, .int x2, .int x3, .int x4] h (fun r9 h9 => wq (d + 1) 165 18 [.ref x0, .int x1, .int x2, .int x3, .int x4] (r9.toList ++ []) h9 Q))) : wq (d + 1) 165 7 [.ref x0, .int x1, .int x2, .int x3, .int x4] [.int s0] h Q := by
  refine gif c_165_7 (gbr t rfl rfl (fun hc t => ?_) (fun hc t => ?_))
  · refine g1 c_165_21 k_m1 ?_
    exact g90 c_165_22 t
  · refine g5 c_165_10 rfl ?_
    refine g3 c_165_11 rfl ?_
    refine g3 c_165_12 rfl ?_
    refine g3 c_165_13 rfl ?_
    exact g80 (As := [.int x2, .int x3, .int x4]) (rest := []) c_165_15 rfl rfl (Nat.le_of_ble_eq_true rfl) (Nat.le_of_ble_eq_true rfl) t.1 t.2
set_option maxRecDepth 20000 in
theorem t_165_18 {d : Nat} {h : ab_H} {Q : Option Value → ab_H → Prop} {x0 : Nat} {x1 : Int32} {x2 : Int32} {x3 : Int32} {x4 : Int32} {s0 : Int32} (t : if s0 = 0 then (Q (some (.int (-1))) h) else (ab_ok h x0 111 = true ∧ ∃ j1 : Nat, ab_r h x0 4 = some j1 ∧ ab_ok h x0 111 = true ∧ ∃ j2 : Nat, ab_r h x0 0 = some j2 ∧ ab_ok h j1 101 = true ∧ wm d 14 [.ref j1, .ref j2, .int x1, .int x2, .int x3, .int x4] h (fun r9 h9 => wq (d + 1) 165 39 [.ref x0, .int x1, .int x2, .int x3, .int x4] (r9.toList ++ []) h9 Q))) : wq (d + 1) 165 18 [.ref x0, .int x1, .int x2, .int x3, .int x4] [.int s0] h Q := by
  refine gif c_165_18 (gbn t (ab_c1 _ _) rfl (fun hc t => ?_) (fun hc t => ?_))
  · refine g1 c_165_21 k_m1 ?_
    exact g90 c_165_22 t
  · refine g5 c_165_23 rfl ?_
    obtain ⟨ho, j1, hr, t⟩ := t
    refine g45 c_165_24 ho hr ?_
    refine g5 c_165_27 rfl ?_
    obtain ⟨ho, j2, hr, t⟩ := t
    refine g45 c_165_28 ho hr ?_
    refine g3 c_165_31 rfl ?_
    refine g3 c_165_32 rfl ?_
    refine g3 c_165_33 rfl ?_
    refine g3 c_165_34 rfl ?_
    exact g80 (As := [.ref j2, .int x1, .int x2, .int x3, .int x4]) (rest := []) c_165_36 rfl rfl (Nat.le_of_ble_eq_true rfl) (Nat.le_of_ble_eq_true rfl) t.1 t.2
set_option maxRecDepth 20000 in
theorem t_165_39 {d : Nat} {h : ab_H} {Q : Option Value → ab_H → Prop} {x0 : Nat} {x1 : Int32} {x2 : Int32} {x3 : Int32} {x4 : Int32} {s0 : Int32} (t : Q (some (.int s0)) h) : wq d 165 39 [.ref x0, .int x1, .int x2, .int x3, .int x4] [.int s0] h Q := by
  exact g90 c_165_39 t
-- method 166: MillTown.order(IIIII)I
theorem c_166_0 : pg_cd 166 0 = (3, 1, 0, 1, 0) := by decide +kernel
theorem c_166_1 : pg_cd 166 1 = (1, 1, 0, 0, 0) := by decide +kernel
theorem c_166_2 : pg_cd 166 2 = (1, 1, 0, 0, 5) := by decide +kernel
theorem c_166_3 : pg_cd 166 3 = (81, 141, 85, 0, 0) := by decide +kernel
theorem c_166_6 : pg_cd 166 6 = (36, 3, 0, 0, 56) := by decide +kernel
theorem c_166_9 : pg_cd 166 9 = (3, 1, 0, 2, 0) := by decide +kernel
theorem c_166_10 : pg_cd 166 10 = (1, 1, 0, 0, 1) := by decide +kernel
theorem c_166_11 : pg_cd 166 11 = (1, 3, 0, 0, 500) := by decide +kernel
theorem c_166_14 : pg_cd 166 14 = (81, 141, 85, 0, 0) := by decide +kernel
theorem c_166_17 : pg_cd 166 17 = (36, 3, 0, 0, 45) := by decide +kernel
theorem c_166_20 : pg_cd 166 20 = (3, 1, 0, 3, 0) := by decide +kernel
theorem c_166_21 : pg_cd 166 21 = (1, 1, 0, 0, 1) := by decide +kernel
theorem c_166_22 : pg_cd 166 22 = (1, 3, 0, 0, 10000) := by decide +kernel
theorem c_166_25 : pg_cd 166 25 = (81, 141, 85, 0, 0) := by decide +kernel
theorem c_166_28 : pg_cd 166 28 = (36, 3, 0, 0, 34) := by decide +kernel
theorem c_166_31 : pg_cd 166 31 = (3, 2, 0, 4, 0) := by decide +kernel
theorem c_166_33 : pg_cd 166 33 = (5, 1, 0, 0, 0) := by decide +kernel
theorem c_166_34 : pg_cd 166 34 = (45, 11, 12, 0, 0) := by decide +kernel
theorem c_166_37 : pg_cd 166 37 = (43, 8, 193, 8, 0) := by decide +kernel
theorem c_166_40 : pg_cd 166 40 = (37, 3, 0, 2, 22) := by decide +kernel
theorem c_166_43 : pg_cd 166 43 = (3, 2, 0, 5, 0) := by decide +kernel
theorem c_166_45 : pg_cd 166 45 = (3, 2, 0, 4, 0) := by decide +kernel
theorem c_166_47 : pg_cd 166 47 = (37, 3, 0, 2, 15) := by decide +kernel
theorem c_166_50 : pg_cd 166 50 = (3, 2, 0, 5, 0) := by decide +kernel
theorem c_166_52 : pg_cd 166 52 = (1, 3, 0, 0, 400) := by decide +kernel
theorem c_166_55 : pg_cd 166 55 = (37, 3, 0, 3, 7) := by decide +kernel
theorem c_166_58 : pg_cd 166 58 = (1, 1, 0, 0, 1) := by decide +kernel
theorem c_166_59 : pg_cd 166 59 = (38, 3, 0, 0, 4) := by decide +kernel
theorem c_166_62 : pg_cd 166 62 = (1, 1, 0, 0, 0) := by decide +kernel
theorem c_166_63 : pg_cd 166 63 = (6, 2, 0, 6, 0) := by decide +kernel
theorem c_166_65 : pg_cd 166 65 = (3, 2, 0, 6, 0) := by decide +kernel
theorem c_166_67 : pg_cd 166 67 = (36, 3, 0, 0, 20) := by decide +kernel
theorem c_166_70 : pg_cd 166 70 = (5, 1, 0, 0, 0) := by decide +kernel
theorem c_166_71 : pg_cd 166 71 = (45, 11, 12, 0, 0) := by decide +kernel
theorem c_166_74 : pg_cd 166 74 = (3, 1, 0, 1, 0) := by decide +kernel
theorem c_166_75 : pg_cd 166 75 = (3, 1, 0, 2, 0) := by decide +kernel
theorem c_166_76 : pg_cd 166 76 = (3, 1, 0, 3, 0) := by decide +kernel
theorem c_166_77 : pg_cd 166 77 = (3, 2, 0, 4, 0) := by decide +kernel
theorem c_166_79 : pg_cd 166 79 = (3, 2, 0, 5, 0) := by decide +kernel
theorem c_166_81 : pg_cd 166 81 = (80, 96, 221, 0, 0) := by decide +kernel
theorem c_166_84 : pg_cd 166 84 = (38, 3, 0, 0, 4) := by decide +kernel
theorem c_166_87 : pg_cd 166 87 = (1, 1, 0, 0, (-1)) := by decide +kernel
theorem c_166_88 : pg_cd 166 88 = (90, 0, 0, 0, 0) := by decide +kernel
theorem mx_166 : pg_mx 166 = 7 := by decide +kernel
theorem m_166 {d : Nat} {h : ab_H} {Q : Option Value → ab_H → Prop} {x0 : Nat} {x1 : Int32} {x2 : Int32} {x3 : Int32} {x4 : Int32} {x5 : Int32} (t : wq d 166 0 [.ref x0, .int x1, .int x2, .int x3, .int x4, .int x5, .retAddr 0] [] h Q) : wm d 166 [.ref x0, .int x1, .int x2, .int x3, .int x4, .int x5] h Q := by
  unfold wm
  rw [mx_166]
  exact t
set_option maxRecDepth 20000 in
theorem t_166_0 {d : Nat} {h : ab_H} {Q : Option Value → ab_H → Prop} {x0 : Nat} {x1 : Int32} {x2 : Int32} {x3 : Int32} {x4 : Int32} {x5 : Int32} (t : wm d 141 [.int x1, .int 0, .int 5] h (fun r9 h9 => wq (d + 1) 166 6 [.ref x0, .int x1, .int x2, .int x3, .int x4, .int x5, .retAddr 0] (r9.toList ++ []) h9 Q)) : wq (d + 1) 166 0 [.ref x0, .int x1, .int x2, .int x3, .int x4, .int x5, .retAddr 0] [] h Q := by
  refine g3 c_166_0 rfl ?_
  refine g1 c_166_1 k_0 ?_
  refine g1 c_166_2 k_5 ?_
  exact g81 (As := [.int x1, .int 0, .int 5]) (rest := []) c_166_3 rfl rfl (Nat.le_of_ble_eq_true rfl) (Nat.le_of_ble_eq_true rfl) t
set_option maxRecDepth 20000 in
theorem t_166_6 {d : Nat} {h : ab_H} {Q : Option Value → ab_H → Prop} {x0 : Nat} {x1 : Int32} {x2 : Int32} {x3 : Int32} {x4 : Int32} {x5 : Int32} {s0 : Int32} (t : if s0 = 0 then (if (0 : Int32) = 0 then (Q (some (.int (-1))) h) else (ab_ok h x0 111 = true ∧ ∃ j1 : Nat, ab_r h x0 0 = some j1 ∧ ab_ok h j1 108 = true ∧ wm d 96 [.ref j1, .int x1, .int x2, .int x3, .int x4, .int x5] h (fun r9 h9 => wq (d + 1) 166 84 [.ref x0, .int x1, .int x2, .int x3, .int x4, .int x5, .int 0] (r9.toList ++ []) h9 Q))) else (wm d 141 [.int x2, .int 1, .int 500] h (fun r9 h9 => wq (d + 1) 166 17 [.ref x0, .int x1, .int x2, .int x3, .int x4, .int x5, .retAddr 0] (r9.toList ++ []) h9 Q))) : wq (d + 1) 166 6 [.ref x0, .int x1, .int x2, .int x3, .int x4, .int x5, .retAddr 0] [.int s0] h Q := by
  refine gif c_166_6 (gbr t rfl rfl (fun hc t => ?_) (fun hc t => ?_))
  · refine g1 c_166_62 k_0 ?_
    refine g6 (L' := [.ref x0, .int x1, .int x2, .int x3, .int x4, .int x5, .int 0]) c_166_63 rfl ?_
    refine g3 c_166_65 rfl ?_
    refine gif c_166_67 (gbr t rfl rfl (fun hc t => ?_) (fun hc t => ?_))
    · refine g1 c_166_87 k_m1 ?_
      exact g90 c_166_88 t
    · refine g5 c_166_70 rfl ?_
      obtain ⟨ho, j1, hr, t⟩ := t
      refine g45 c_166_71 ho hr ?_
      refine g3 c_166_74 rfl ?_
      refine g3 c_166_75 rfl ?_
      refine g3 c_166_76 rfl ?_
      refine g3 c_166_77 rfl ?_
      refine g3 c_166_79 rfl ?_
      exact g80 (As := [.int x1, .int x2, .int x3, .int x4, .int x5]) (rest := []) c_166_81 rfl rfl (Nat.le_of_ble_eq_true rfl) (Nat.le_of_ble_eq_true rfl) t.1 t.2
  · refine g3 c_166_9 rfl ?_
    refine g1 c_166_10 k_1 ?_
    refine g1 c_166_11 k_500 ?_
    exact g81 (As := [.int x2, .int 1, .int 500]) (rest := []) c_166_14 rfl rfl (Nat.le_of_ble_eq_true rfl) (Nat.le_of_ble_eq_true rfl) t
set_option maxRecDepth 20000 in
theorem t_166_17 {d : Nat} {h : ab_H} {Q : Option Value → ab_H → Prop} {x0 : Nat} {x1 : Int32} {x2 : Int32} {x3 : Int32} {x4 : Int32} {x5 : Int32} {s0 : Int32} (t : if s0 = 0 then (if (0 : Int32) = 0 then (Q (some (.int (-1))) h) else (ab_ok h x0 111 = true ∧ ∃ j1 : Nat, ab_r h x0 0 = some j1 ∧ ab_ok h j1 108 = true ∧ wm d 96 [.ref j1, .int x1, .int x2, .int x3, .int x4, .int x5] h (fun r9 h9 => wq (d + 1) 166 84 [.ref x0, .int x1, .int x2, .int x3, .int x4, .int x5, .int 0] (r9.toList ++ []) h9 Q))) else (wm d 141 [.int x3, .int 1, .int 10000] h (fun r9 h9 => wq (d + 1) 166 28 [.ref x0, .int x1, .int x2, .int x3, .int x4, .int x5, .retAddr 0] (r9.toList ++ []) h9 Q))) : wq (d + 1) 166 17 [.ref x0, .int x1, .int x2, .int x3, .int x4, .int x5, .retAddr 0] [.int s0] h Q := by
  refine gif c_166_17 (gbr t rfl rfl (fun hc t => ?_) (fun hc t => ?_))
  · refine g1 c_166_62 k_0 ?_
    refine g6 (L' := [.ref x0, .int x1, .int x2, .int x3, .int x4, .int x5, .int 0]) c_166_63 rfl ?_
    refine g3 c_166_65 rfl ?_
    refine gif c_166_67 (gbr t rfl rfl (fun hc t => ?_) (fun hc t => ?_))
    · refine g1 c_166_87 k_m1 ?_
      exact g90 c_166_88 t
    · refine g5 c_166_70 rfl ?_
      obtain ⟨ho, j1, hr, t⟩ := t
      refine g45 c_166_71 ho hr ?_
      refine g3 c_166_74 rfl ?_
      refine g3 c_166_75 rfl ?_
      refine g3 c_166_76 rfl ?_
      refine g3 c_166_77 rfl ?_
      refine g3 c_166_79 rfl ?_
      exact g80 (As := [.int x1, .int x2, .int x3, .int x4, .int x5]) (rest := []) c_166_81 rfl rfl (Nat.le_of_ble_eq_true rfl) (Nat.le_of_ble_eq_true rfl) t.1 t.2
  · refine g3 c_166_20 rfl ?_
    refine g1 c_166_21 k_1 ?_
    refine g1 c_166_22 k_10000 ?_
    exact g81 (As := [.int x3, .int 1, .int 10000]) (rest := []) c_166_25 rfl rfl (Nat.le_of_ble_eq_true rfl) (Nat.le_of_ble_eq_true rfl) t
set_option maxRecDepth 20000 in
theorem t_166_28 {d : Nat} {h : ab_H} {Q : Option Value → ab_H → Prop} {x0 : Nat} {x1 : Int32} {x2 : Int32} {x3 : Int32} {x4 : Int32} {x5 : Int32} {s0 : Int32} (t : if s0 = 0 then (if (0 : Int32) = 0 then (Q (some (.int (-1))) h) else (ab_ok h x0 111 = true ∧ ∃ j1 : Nat, ab_r h x0 0 = some j1 ∧ ab_ok h j1 108 = true ∧ wm d 96 [.ref j1, .int x1, .int x2, .int x3, .int x4, .int x5] h (fun r9 h9 => wq (d + 1) 166 84 [.ref x0, .int x1, .int x2, .int x3, .int x4, .int x5, .int 0] (r9.toList ++ []) h9 Q))) else (ab_ok h x0 111 = true ∧ ∃ j2 : Nat, ab_r h x0 0 = some j2 ∧ ab_ok h j2 108 = true ∧ if x4 < (ab_i h j2 8) then (if (0 : Int32) = 0 then (Q (some (.int (-1))) h) else (ab_ok h x0 111 = true ∧ ∃ j3 : Nat, ab_r h x0 0 = some j3 ∧ ab_ok h j3 108 = true ∧ wm d 96 [.ref j3, .int x1, .int x2, .int x3, .int x4, .int x5] h (fun r9 h9 => wq (d + 1) 166 84 [.ref x0, .int x1, .int x2, .int x3, .int x4, .int x5, .int 0] (r9.toList ++ []) h9 Q))) else (if x5 < x4 then (if (0 : Int32) = 0 then (Q (some (.int (-1))) h) else (ab_ok h x0 111 = true ∧ ∃ j4 : Nat, ab_r h x0 0 = some j4 ∧ ab_ok h j4 108 = true ∧ wm d 96 [.ref j4, .int x1, .int x2, .int x3, .int x4, .int x5] h (fun r9 h9 => wq (d + 1) 166 84 [.ref x0, .int x1, .int x2, .int x3, .int x4, .int x5, .int 0] (r9.toList ++ []) h9 Q))) else (if 400 ≤ x5 then (if (0 : Int32) = 0 then (Q (some (.int (-1))) h) else (ab_ok h x0 111 = true ∧ ∃ j5 : Nat, ab_r h x0 0 = some j5 ∧ ab_ok h j5 108 = true ∧ wm d 96 [.ref j5, .int x1, .int x2, .int x3, .int x4, .int x5] h (fun r9 h9 => wq (d + 1) 166 84 [.ref x0, .int x1, .int x2, .int x3, .int x4, .int x5, .int 0] (r9.toList ++ []) h9 Q))) else (if (1 : Int32) = 0 then (Q (some (.int (-1))) h) else (ab_ok h x0 111 = true ∧ ∃ j6 : Nat, ab_r h x0 0 = some j6 ∧ ab_ok h j6 108 = true ∧ wm d 96 [.ref j6, .int x1, .int x2, .int x3, .int x4, .int x5] h (fun r9 h9 => wq (d + 1) 166 84 [.ref x0, .int x1, .int x2, .int x3, .int x4, .int x5, .int 1] (r9.toList ++ []) h9 Q))))))) : wq (d + 1) 166 28 [.ref x0, .int x1, .int x2, .int x3, .int x4, .int x5, .retAddr 0] [.int s0] h Q := by
  refine gif c_166_28 (gbr t rfl rfl (fun hc t => ?_) (fun hc t => ?_))
  · refine g1 c_166_62 k_0 ?_
    refine g6 (L' := [.ref x0, .int x1, .int x2, .int x3, .int x4, .int x5, .int 0]) c_166_63 rfl ?_
    refine g3 c_166_65 rfl ?_
    refine gif c_166_67 (gbr t rfl rfl (fun hc t => ?_) (fun hc t => ?_))
    · refine g1 c_166_87 k_m1 ?_
      exact g90 c_166_88 t
    · refine g5 c_166_70 rfl ?_
      obtain ⟨ho, j1, hr, t⟩ := t
      refine g45 c_166_71 ho hr ?_
      refine g3 c_166_74 rfl ?_
      refine g3 c_166_75 rfl ?_
      refine g3 c_166_76 rfl ?_
      refine g3 c_166_77 rfl ?_
      refine g3 c_166_79 rfl ?_
      exact g80 (As := [.int x1, .int x2, .int x3, .int x4, .int x5]) (rest := []) c_166_81 rfl rfl (Nat.le_of_ble_eq_true rfl) (Nat.le_of_ble_eq_true rfl) t.1 t.2
  · refine g3 c_166_31 rfl ?_
    refine g5 c_166_33 rfl ?_
    obtain ⟨ho, j2, hr, t⟩ := t
    refine g45 c_166_34 ho hr ?_
    obtain ⟨ho, t⟩ := t
    refine g43 c_166_37 ho ?_
    refine gcm c_166_40 (gbr t rfl rfl (fun hc t => ?_) (fun hc t => ?_))
    · refine g1 c_166_62 k_0 ?_
      refine g6 (L' := [.ref x0, .int x1, .int x2, .int x3, .int x4, .int x5, .int 0]) c_166_63 rfl ?_
      refine g3 c_166_65 rfl ?_
      refine gif c_166_67 (gbr t rfl rfl (fun hc t => ?_) (fun hc t => ?_))
      · refine g1 c_166_87 k_m1 ?_
        exact g90 c_166_88 t
      · refine g5 c_166_70 rfl ?_
        obtain ⟨ho, j3, hr, t⟩ := t
        refine g45 c_166_71 ho hr ?_
        refine g3 c_166_74 rfl ?_
        refine g3 c_166_75 rfl ?_
        refine g3 c_166_76 rfl ?_
        refine g3 c_166_77 rfl ?_
        refine g3 c_166_79 rfl ?_
        exact g80 (As := [.int x1, .int x2, .int x3, .int x4, .int x5]) (rest := []) c_166_81 rfl rfl (Nat.le_of_ble_eq_true rfl) (Nat.le_of_ble_eq_true rfl) t.1 t.2
    · refine g3 c_166_43 rfl ?_
      refine g3 c_166_45 rfl ?_
      refine gcm c_166_47 (gbr t rfl rfl (fun hc t => ?_) (fun hc t => ?_))
      · refine g1 c_166_62 k_0 ?_
        refine g6 (L' := [.ref x0, .int x1, .int x2, .int x3, .int x4, .int x5, .int 0]) c_166_63 rfl ?_
        refine g3 c_166_65 rfl ?_
        refine gif c_166_67 (gbr t rfl rfl (fun hc t => ?_) (fun hc t => ?_))
        · refine g1 c_166_87 k_m1 ?_
          exact g90 c_166_88 t
        · refine g5 c_166_70 rfl ?_
          obtain ⟨ho, j4, hr, t⟩ := t
          refine g45 c_166_71 ho hr ?_
          refine g3 c_166_74 rfl ?_
          refine g3 c_166_75 rfl ?_
          refine g3 c_166_76 rfl ?_
          refine g3 c_166_77 rfl ?_
          refine g3 c_166_79 rfl ?_
          exact g80 (As := [.int x1, .int x2, .int x3, .int x4, .int x5]) (rest := []) c_166_81 rfl rfl (Nat.le_of_ble_eq_true rfl) (Nat.le_of_ble_eq_true rfl) t.1 t.2
      · refine g3 c_166_50 rfl ?_
        refine g1 c_166_52 k_400 ?_
        refine gcm c_166_55 (gbr t rfl rfl (fun hc t => ?_) (fun hc t => ?_))
        · refine g1 c_166_62 k_0 ?_
          refine g6 (L' := [.ref x0, .int x1, .int x2, .int x3, .int x4, .int x5, .int 0]) c_166_63 rfl ?_
          refine g3 c_166_65 rfl ?_
          refine gif c_166_67 (gbr t rfl rfl (fun hc t => ?_) (fun hc t => ?_))
          · refine g1 c_166_87 k_m1 ?_
            exact g90 c_166_88 t
          · refine g5 c_166_70 rfl ?_
            obtain ⟨ho, j5, hr, t⟩ := t
            refine g45 c_166_71 ho hr ?_
            refine g3 c_166_74 rfl ?_
            refine g3 c_166_75 rfl ?_
            refine g3 c_166_76 rfl ?_
            refine g3 c_166_77 rfl ?_
            refine g3 c_166_79 rfl ?_
            exact g80 (As := [.int x1, .int x2, .int x3, .int x4, .int x5]) (rest := []) c_166_81 rfl rfl (Nat.le_of_ble_eq_true rfl) (Nat.le_of_ble_eq_true rfl) t.1 t.2
        · refine g1 c_166_58 k_1 ?_
          refine g38 c_166_59 rfl ?_
          refine g6 (L' := [.ref x0, .int x1, .int x2, .int x3, .int x4, .int x5, .int 1]) c_166_63 rfl ?_
          refine g3 c_166_65 rfl ?_
          refine gif c_166_67 (gbr t rfl rfl (fun hc t => ?_) (fun hc t => ?_))
          · refine g1 c_166_87 k_m1 ?_
            exact g90 c_166_88 t
          · refine g5 c_166_70 rfl ?_
            obtain ⟨ho, j6, hr, t⟩ := t
            refine g45 c_166_71 ho hr ?_
            refine g3 c_166_74 rfl ?_
            refine g3 c_166_75 rfl ?_
            refine g3 c_166_76 rfl ?_
            refine g3 c_166_77 rfl ?_
            refine g3 c_166_79 rfl ?_
            exact g80 (As := [.int x1, .int x2, .int x3, .int x4, .int x5]) (rest := []) c_166_81 rfl rfl (Nat.le_of_ble_eq_true rfl) (Nat.le_of_ble_eq_true rfl) t.1 t.2
set_option maxRecDepth 20000 in
theorem t_166_84 {d : Nat} {h : ab_H} {Q : Option Value → ab_H → Prop} {x0 : Nat} {x1 : Int32} {x2 : Int32} {x3 : Int32} {x4 : Int32} {x5 : Int32} {x6 : Int32} {s0 : Int32} (t : Q (some (.int s0)) h) : wq d 166 84 [.ref x0, .int x1, .int x2, .int x3, .int x4, .int x5, .int x6] [.int s0] h Q := by
  refine g38 c_166_84 rfl ?_
  exact g90 c_166_88 t
-- method 167: MillTown.terms(II)Z
theorem c_167_0 : pg_cd 167 0 = (3, 1, 0, 1, 0) := by decide +kernel
theorem c_167_1 : pg_cd 167 1 = (1, 1, 0, 0, 0) := by decide +kernel
theorem c_167_2 : pg_cd 167 2 = (1, 3, 0, 0, 1000) := by decide +kernel
theorem c_167_5 : pg_cd 167 5 = (81, 141, 85, 0, 0) := by decide +kernel
theorem c_167_8 : pg_cd 167 8 = (36, 3, 0, 0, 13) := by decide +kernel
theorem c_167_11 : pg_cd 167 11 = (3, 1, 0, 2, 0) := by decide +kernel
theorem c_167_12 : pg_cd 167 12 = (1, 1, 0, 0, 1) := by decide +kernel
theorem c_167_13 : pg_cd 167 13 = (1, 2, 100, 0, 100000) := by decide +kernel
theorem c_167_15 : pg_cd 167 15 = (81, 141, 85, 0, 0) := by decide +kernel
theorem c_167_18 : pg_cd 167 18 = (36, 3, 0, 1, 5) := by decide +kernel
theorem c_167_21 : pg_cd 167 21 = (1, 1, 0, 0, 0) := by decide +kernel
theorem c_167_22 : pg_cd 167 22 = (91, 0, 0, 0, 0) := by decide +kernel
theorem c_167_23 : pg_cd 167 23 = (5, 1, 0, 0, 0) := by decide +kernel
theorem c_167_24 : pg_cd 167 24 = (45, 11, 12, 0, 0) := by decide +kernel
theorem c_167_27 : pg_cd 167 27 = (3, 1, 0, 1, 0) := by decide +kernel
theorem c_167_28 : pg_cd 167 28 = (46, 8, 225, 11, 0) := by decide +kernel
theorem c_167_31 : pg_cd 167 31 = (5, 1, 0, 0, 0) := by decide +kernel
theorem c_167_32 : pg_cd 167 32 = (45, 11, 12, 0, 0) := by decide +kernel
theorem c_167_35 : pg_cd 167 35 = (3, 1, 0, 2, 0) := by decide +kernel
theorem c_167_36 : pg_cd 167 36 = (46, 8, 228, 12, 0) := by decide +kernel
theorem c_167_39 : pg_cd 167 39 = (1, 1, 0, 0, 1) := by decide +kernel
theorem c_167_40 : pg_cd 167 40 = (91, 0, 0, 0, 0) := by decide +kernel
theorem mx_167 : pg_mx 167 = 3 := by decide +kernel
theorem m_167 {d : Nat} {h : ab_H} {Q : Option Value → ab_H → Prop} {x0 : Nat} {x1 : Int32} {x2 : Int32} (t : wq d 167 0 [.ref x0, .int x1, .int x2] [] h Q) : wm d 167 [.ref x0, .int x1, .int x2] h Q := by
  unfold wm
  rw [mx_167]
  exact t
set_option maxRecDepth 20000 in
theorem t_167_0 {d : Nat} {h : ab_H} {Q : Option Value → ab_H → Prop} {x0 : Nat} {x1 : Int32} {x2 : Int32} (t : wm d 141 [.int x1, .int 0, .int 1000] h (fun r9 h9 => wq (d + 1) 167 8 [.ref x0, .int x1, .int x2] (r9.toList ++ []) h9 Q)) : wq (d + 1) 167 0 [.ref x0, .int x1, .int x2] [] h Q := by
  refine g3 c_167_0 rfl ?_
  refine g1 c_167_1 k_0 ?_
  refine g1 c_167_2 k_1000 ?_
  exact g81 (As := [.int x1, .int 0, .int 1000]) (rest := []) c_167_5 rfl rfl (Nat.le_of_ble_eq_true rfl) (Nat.le_of_ble_eq_true rfl) t
set_option maxRecDepth 20000 in
theorem t_167_8 {d : Nat} {h : ab_H} {Q : Option Value → ab_H → Prop} {x0 : Nat} {x1 : Int32} {x2 : Int32} {s0 : Int32} (t : if s0 = 0 then (Q (some (.int 0)) h) else (wm d 141 [.int x2, .int 1, .int 100000] h (fun r9 h9 => wq (d + 1) 167 18 [.ref x0, .int x1, .int x2] (r9.toList ++ []) h9 Q))) : wq (d + 1) 167 8 [.ref x0, .int x1, .int x2] [.int s0] h Q := by
  refine gif c_167_8 (gbr t rfl rfl (fun hc t => ?_) (fun hc t => ?_))
  · refine g1 c_167_21 k_0 ?_
    exact g91 c_167_22 ⟨by decide, t⟩
  · refine g3 c_167_11 rfl ?_
    refine g1 c_167_12 k_1 ?_
    refine g1 c_167_13 k_100000 ?_
    exact g81 (As := [.int x2, .int 1, .int 100000]) (rest := []) c_167_15 rfl rfl (Nat.le_of_ble_eq_true rfl) (Nat.le_of_ble_eq_true rfl) t
set_option maxRecDepth 20000 in
theorem t_167_18 {d : Nat} {h : ab_H} {Q : Option Value → ab_H → Prop} {x0 : Nat} {x1 : Int32} {x2 : Int32} {s0 : Int32} (t : if s0 = 0 then (Q (some (.int 0)) h) else (ab_ok h x0 111 = true ∧ ∃ j1 : Nat, ab_r h x0 0 = some j1 ∧ ab_ok h j1 108 = true ∧ ∀ h2 : ab_H, h2 = ab_pi h j1 11 x1 → ab_ok h2 x0 111 = true ∧ ∃ j3 : Nat, ab_r h2 x0 0 = some j3 ∧ ab_ok h2 j3 108 = true ∧ ∀ h4 : ab_H, h4 = ab_pi h2 j3 12 x2 → Q (some (.int 1)) h4)) : wq d 167 18 [.ref x0, .int x1, .int x2] [.int s0] h Q := by
  refine gif c_167_18 (gbn t (ab_c1 _ _) rfl (fun hc t => ?_) (fun hc t => ?_))
  · refine g1 c_167_21 k_0 ?_
    exact g91 c_167_22 ⟨by decide, t⟩
  · refine g5 c_167_23 rfl ?_
    obtain ⟨ho, j1, hr, t⟩ := t
    refine g45 c_167_24 ho hr ?_
    refine g3 c_167_27 rfl ?_
    obtain ⟨ho, t⟩ := t
    refine g46 c_167_28 ho (fun h2 eh2 => ?_)
    have t := t h2 eh2
    refine g5 c_167_31 rfl ?_
    obtain ⟨ho, j3, hr, t⟩ := t
    refine g45 c_167_32 ho hr ?_
    refine g3 c_167_35 rfl ?_
    obtain ⟨ho, t⟩ := t
    refine g46 c_167_36 ho (fun h4 eh4 => ?_)
    have t := t h4 eh4
    refine g1 c_167_39 k_1 ?_
    exact g91 c_167_40 ⟨by decide, t⟩
-- method 168: MillTown.fund(III)Z
theorem c_168_0 : pg_cd 168 0 = (3, 1, 0, 1, 0) := by decide +kernel
theorem c_168_1 : pg_cd 168 1 = (1, 1, 0, 0, 0) := by decide +kernel
theorem c_168_2 : pg_cd 168 2 = (1, 2, 100, 0, 100000) := by decide +kernel
theorem c_168_4 : pg_cd 168 4 = (81, 141, 85, 0, 0) := by decide +kernel
theorem c_168_7 : pg_cd 168 7 = (36, 3, 0, 0, 24) := by decide +kernel
theorem c_168_10 : pg_cd 168 10 = (3, 1, 0, 2, 0) := by decide +kernel
theorem c_168_11 : pg_cd 168 11 = (1, 1, 0, 0, 0) := by decide +kernel
theorem c_168_12 : pg_cd 168 12 = (1, 2, 0, 0, 50) := by decide +kernel
theorem c_168_14 : pg_cd 168 14 = (81, 141, 85, 0, 0) := by decide +kernel
theorem c_168_17 : pg_cd 168 17 = (36, 3, 0, 0, 14) := by decide +kernel
theorem c_168_20 : pg_cd 168 20 = (3, 1, 0, 3, 0) := by decide +kernel
theorem c_168_21 : pg_cd 168 21 = (1, 1, 0, 0, 0) := by decide +kernel
theorem c_168_22 : pg_cd 168 22 = (1, 3, 0, 0, 500) := by decide +kernel
theorem c_168_25 : pg_cd 168 25 = (81, 141, 85, 0, 0) := by decide +kernel
theorem c_168_28 : pg_cd 168 28 = (36, 3, 0, 1, 5) := by decide +kernel
theorem c_168_31 : pg_cd 168 31 = (1, 1, 0, 0, 0) := by decide +kernel
theorem c_168_32 : pg_cd 168 32 = (91, 0, 0, 0, 0) := by decide +kernel
theorem c_168_33 : pg_cd 168 33 = (5, 1, 0, 0, 0) := by decide +kernel
theorem c_168_34 : pg_cd 168 34 = (45, 11, 12, 0, 0) := by decide +kernel
theorem c_168_37 : pg_cd 168 37 = (33, 1, 0, 0, 0) := by decide +kernel
theorem c_168_38 : pg_cd 168 38 = (43, 8, 231, 13, 0) := by decide +kernel
theorem c_168_41 : pg_cd 168 41 = (3, 1, 0, 1, 0) := by decide +kernel
theorem c_168_42 : pg_cd 168 42 = (10, 1, 0, 0, 0) := by decide +kernel
theorem c_168_43 : pg_cd 168 43 = (46, 8, 231, 13, 0) := by decide +kernel
theorem c_168_46 : pg_cd 168 46 = (5, 1, 0, 0, 0) := by decide +kernel
theorem c_168_47 : pg_cd 168 47 = (45, 11, 12, 0, 0) := by decide +kernel
theorem c_168_50 : pg_cd 168 50 = (3, 1, 0, 2, 0) := by decide +kernel
theorem c_168_51 : pg_cd 168 51 = (46, 8, 234, 14, 0) := by decide +kernel
theorem c_168_54 : pg_cd 168 54 = (5, 1, 0, 0, 0) := by decide +kernel
theorem c_168_55 : pg_cd 168 55 = (45, 11, 12, 0, 0) := by decide +kernel
theorem c_168_58 : pg_cd 168 58 = (3, 1, 0, 3, 0) := by decide +kernel
theorem c_168_59 : pg_cd 168 59 = (46, 8, 237, 15, 0) := by decide +kernel
theorem c_168_62 : pg_cd 168 62 = (1, 1, 0, 0, 1) := by decide +kernel
theorem c_168_63 : pg_cd 168 63 = (91, 0, 0, 0, 0) := by decide +kernel
theorem mx_168 : pg_mx 168 = 4 := by decide +kernel
theorem m_168 {d : Nat} {h : ab_H} {Q : Option Value → ab_H → Prop} {x0 : Nat} {x1 : Int32} {x2 : Int32} {x3 : Int32} (t : wq d 168 0 [.ref x0, .int x1, .int x2, .int x3] [] h Q) : wm d 168 [.ref x0, .int x1, .int x2, .int x3] h Q := by
  unfold wm
  rw [mx_168]
  exact t
set_option maxRecDepth 20000 in
theorem t_168_0 {d : Nat} {h : ab_H} {Q : Option Value → ab_H → Prop} {x0 : Nat} {x1 : Int32} {x2 : Int32} {x3 : Int32} (t : wm d 141 [.int x1, .int 0, .int 100000] h (fun r9 h9 => wq (d + 1) 168 7 [.ref x0, .int x1, .int x2, .int x3] (r9.toList ++ []) h9 Q)) : wq (d + 1) 168 0 [.ref x0, .int x1, .int x2, .int x3] [] h Q := by
  refine g3 c_168_0 rfl ?_
  refine g1 c_168_1 k_0 ?_
  refine g1 c_168_2 k_100000 ?_
  exact g81 (As := [.int x1, .int 0, .int 100000]) (rest := []) c_168_4 rfl rfl (Nat.le_of_ble_eq_true rfl) (Nat.le_of_ble_eq_true rfl) t
set_option maxRecDepth 20000 in
theorem t_168_7 {d : Nat} {h : ab_H} {Q : Option Value → ab_H → Prop} {x0 : Nat} {x1 : Int32} {x2 : Int32} {x3 : Int32} {s0 : Int32} (t : if s0 = 0 then (Q (some (.int 0)) h) else (wm d 141 [.int x2, .int 0, .int 50] h (fun r9 h9 => wq (d + 1) 168 17 [.ref x0, .int x1, .int x2, .int x3] (r9.toList ++ []) h9 Q))) : wq (d + 1) 168 7 [.ref x0, .int x1, .int x2, .int x3] [.int s0] h Q := by
  refine gif c_168_7 (gbr t rfl rfl (fun hc t => ?_) (fun hc t => ?_))
  · refine g1 c_168_31 k_0 ?_
    exact g91 c_168_32 ⟨by decide, t⟩
  · refine g3 c_168_10 rfl ?_
    refine g1 c_168_11 k_0 ?_
    refine g1 c_168_12 k_50 ?_
    exact g81 (As := [.int x2, .int 0, .int 50]) (rest := []) c_168_14 rfl rfl (Nat.le_of_ble_eq_true rfl) (Nat.le_of_ble_eq_true rfl) t
set_option maxRecDepth 20000 in
theorem t_168_17 {d : Nat} {h : ab_H} {Q : Option Value → ab_H → Prop} {x0 : Nat} {x1 : Int32} {x2 : Int32} {x3 : Int32} {s0 : Int32} (t : if s0 = 0 then (Q (some (.int 0)) h) else (wm d 141 [.int x3, .int 0, .int 500] h (fun r9 h9 => wq (d + 1) 168 28 [.ref x0, .int x1, .int x2, .int x3] (r9.toList ++ []) h9 Q))) : wq (d + 1) 168 17 [.ref x0, .int x1, .int x2, .int x3] [.int s0] h Q := by
  refine gif c_168_17 (gbr t rfl rfl (fun hc t => ?_) (fun hc t => ?_))
  · refine g1 c_168_31 k_0 ?_
    exact g91 c_168_32 ⟨by decide, t⟩
  · refine g3 c_168_20 rfl ?_
    refine g1 c_168_21 k_0 ?_
    refine g1 c_168_22 k_500 ?_
    exact g81 (As := [.int x3, .int 0, .int 500]) (rest := []) c_168_25 rfl rfl (Nat.le_of_ble_eq_true rfl) (Nat.le_of_ble_eq_true rfl) t
set_option maxRecDepth 20000 in
theorem t_168_28 {d : Nat} {h : ab_H} {Q : Option Value → ab_H → Prop} {x0 : Nat} {x1 : Int32} {x2 : Int32} {x3 : Int32} {s0 : Int32} (t : if s0 = 0 then (Q (some (.int 0)) h) else (ab_ok h x0 111 = true ∧ ∃ j1 : Nat, ab_r h x0 0 = some j1 ∧ ab_ok h j1 108 = true ∧ ab_ok h j1 108 = true ∧ ∀ h2 : ab_H, h2 = ab_pi h j1 13 ((ab_i h j1 13) + x1) → ab_ok h2 x0 111 = true ∧ ∃ j3 : Nat, ab_r h2 x0 0 = some j3 ∧ ab_ok h2 j3 108 = true ∧ ∀ h4 : ab_H, h4 = ab_pi h2 j3 14 x2 → ab_ok h4 x0 111 = true ∧ ∃ j5 : Nat, ab_r h4 x0 0 = some j5 ∧ ab_ok h4 j5 108 = true ∧ ∀ h6 : ab_H, h6 = ab_pi h4 j5 15 x3 → Q (some (.int 1)) h6)) : wq d 168 28 [.ref x0, .int x1, .int x2, .int x3] [.int s0] h Q := by
  refine gif c_168_28 (gbn t (ab_c1 _ _) rfl (fun hc t => ?_) (fun hc t => ?_))
  · refine g1 c_168_31 k_0 ?_
    exact g91 c_168_32 ⟨by decide, t⟩
  · refine g5 c_168_33 rfl ?_
    obtain ⟨ho, j1, hr, t⟩ := t
    refine g45 c_168_34 ho hr ?_
    refine g33a c_168_37 ?_
    obtain ⟨ho, t⟩ := t
    refine g43 c_168_38 ho ?_
    refine g3 c_168_41 rfl ?_
    refine g10 c_168_42 ?_
    obtain ⟨ho, t⟩ := t
    refine g46 c_168_43 ho (fun h2 eh2 => ?_)
    have t := t h2 eh2
    refine g5 c_168_46 rfl ?_
    obtain ⟨ho, j3, hr, t⟩ := t
    refine g45 c_168_47 ho hr ?_
    refine g3 c_168_50 rfl ?_
    obtain ⟨ho, t⟩ := t
    refine g46 c_168_51 ho (fun h4 eh4 => ?_)
    have t := t h4 eh4
    refine g5 c_168_54 rfl ?_
    obtain ⟨ho, j5, hr, t⟩ := t
    refine g45 c_168_55 ho hr ?_
    refine g3 c_168_58 rfl ?_
    obtain ⟨ho, t⟩ := t
    refine g46 c_168_59 ho (fun h6 eh6 => ?_)
    have t := t h6 eh6
    refine g1 c_168_62 k_1 ?_
    exact g91 c_168_63 ⟨by decide, t⟩
-- method 169: MillTown.strike(IZ)Z
theorem c_169_0 : pg_cd 169 0 = (3, 1, 0, 2, 0) := by decide +kernel
theorem c_169_1 : pg_cd 169 1 = (36, 3, 0, 0, 7) := by decide +kernel
theorem c_169_4 : pg_cd 169 4 = (1, 1, 0, 0, 1) := by decide +kernel
theorem c_169_5 : pg_cd 169 5 = (38, 3, 0, 0, 4) := by decide +kernel
theorem c_169_8 : pg_cd 169 8 = (1, 1, 0, 0, 0) := by decide +kernel
theorem c_169_9 : pg_cd 169 9 = (6, 1, 0, 3, 0) := by decide +kernel
theorem c_169_10 : pg_cd 169 10 = (5, 1, 0, 0, 0) := by decide +kernel
theorem c_169_11 : pg_cd 169 11 = (3, 1, 0, 1, 0) := by decide +kernel
theorem c_169_12 : pg_cd 169 12 = (80, 154, 146, 0, 0) := by decide +kernel
theorem c_169_15 : pg_cd 169 15 = (36, 3, 0, 0, 19) := by decide +kernel
theorem c_169_18 : pg_cd 169 18 = (5, 1, 0, 0, 0) := by decide +kernel
theorem c_169_19 : pg_cd 169 19 = (45, 11, 12, 0, 0) := by decide +kernel
theorem c_169_22 : pg_cd 169 22 = (45, 8, 71, 2, 0) := by decide +kernel
theorem c_169_25 : pg_cd 169 25 = (3, 1, 0, 1, 0) := by decide +kernel
theorem c_169_26 : pg_cd 169 26 = (1, 1, 0, 0, 5) := by decide +kernel
theorem c_169_27 : pg_cd 169 27 = (80, 55, 130, 0, 0) := by decide +kernel
theorem c_169_30 : pg_cd 169 30 = (3, 1, 0, 3, 0) := by decide +kernel
theorem c_169_31 : pg_cd 169 31 = (37, 3, 0, 1, 5) := by decide +kernel
theorem c_169_34 : pg_cd 169 34 = (1, 1, 0, 0, 0) := by decide +kernel
theorem c_169_35 : pg_cd 169 35 = (91, 0, 0, 0, 0) := by decide +kernel
theorem c_169_36 : pg_cd 169 36 = (5, 1, 0, 0, 0) := by decide +kernel
theorem c_169_37 : pg_cd 169 37 = (45, 11, 12, 0, 0) := by decide +kernel
theorem c_169_40 : pg_cd 169 40 = (45, 8, 71, 2, 0) := by decide +kernel
theorem c_169_43 : pg_cd 169 43 = (3, 1, 0, 1, 0) := by decide +kernel
theorem c_169_44 : pg_cd 169 44 = (1, 1, 0, 0, 5) := by decide +kernel
theorem c_169_45 : pg_cd 169 45 = (3, 1, 0, 3, 0) := by decide +kernel
theorem c_169_46 : pg_cd 169 46 = (80, 56, 104, 0, 0) := by decide +kernel
theorem c_169_49 : pg_cd 169 49 = (1, 1, 0, 0, 1) := by decide +kernel
theorem c_169_50 : pg_cd 169 50 = (91, 0, 0, 0, 0) := by decide +kernel
theorem mx_169 : pg_mx 169 = 4 := by decide +kernel
theorem m_169 {d : Nat} {h : ab_H} {Q : Option Value → ab_H → Prop} {x0 : Nat} {x1 : Int32} {x2 : Int32} (t : wq d 169 0 [.ref x0, .int x1, .int x2, .retAddr 0] [] h Q) : wm d 169 [.ref x0, .int x1, .int x2] h Q := by
  unfold wm
  rw [mx_169]
  exact t
set_option maxRecDepth 20000 in
theorem t_169_0 {d : Nat} {h : ab_H} {Q : Option Value → ab_H → Prop} {x0 : Nat} {x1 : Int32} {x2 : Int32} (t : if x2 = 0 then (ab_ok h x0 111 = true ∧ wm d 154 [.ref x0, .int x1] h (fun r9 h9 => wq (d + 1) 169 15 [.ref x0, .int x1, .int x2, .int 0] (r9.toList ++ []) h9 Q)) else (ab_ok h x0 111 = true ∧ wm d 154 [.ref x0, .int x1] h (fun r9 h9 => wq (d + 1) 169 15 [.ref x0, .int x1, .int x2, .int 1] (r9.toList ++ []) h9 Q))) : wq (d + 1) 169 0 [.ref x0, .int x1, .int x2, .retAddr 0] [] h Q := by
  refine g3 c_169_0 rfl ?_
  refine gif c_169_1 (gbr t rfl rfl (fun hc t => ?_) (fun hc t => ?_))
  · refine g1 c_169_8 k_0 ?_
    refine g6 (L' := [.ref x0, .int x1, .int x2, .int 0]) c_169_9 rfl ?_
    refine g5 c_169_10 rfl ?_
    refine g3 c_169_11 rfl ?_
    exact g80 (As := [.int x1]) (rest := []) c_169_12 rfl rfl (Nat.le_of_ble_eq_true rfl) (Nat.le_of_ble_eq_true rfl) t.1 t.2
  · refine g1 c_169_4 k_1 ?_
    refine g38 c_169_5 rfl ?_
    refine g6 (L' := [.ref x0, .int x1, .int x2, .int 1]) c_169_9 rfl ?_
    refine g5 c_169_10 rfl ?_
    refine g3 c_169_11 rfl ?_
    exact g80 (As := [.int x1]) (rest := []) c_169_12 rfl rfl (Nat.le_of_ble_eq_true rfl) (Nat.le_of_ble_eq_true rfl) t.1 t.2
set_option maxRecDepth 20000 in
theorem t_169_15 {d : Nat} {h : ab_H} {Q : Option Value → ab_H → Prop} {x0 : Nat} {x1 : Int32} {x2 : Int32} {x3 : Int32} {s0 : Int32} (t : if s0 = 0 then (Q (some (.int 0)) h) else (ab_ok h x0 111 = true ∧ ∃ j1 : Nat, ab_r h x0 0 = some j1 ∧ ab_ok h j1 108 = true ∧ ∃ j2 : Nat, ab_r h j1 2 = some j2 ∧ ab_ok h j2 104 = true ∧ wm d 55 [.ref j2, .int x1, .int 5] h (fun r9 h9 => wq (d + 1) 169 30 [.ref x0, .int x1, .int x2, .int x3] (r9.toList ++ []) h9 Q))) : wq (d + 1) 169 15 [.ref x0, .int x1, .int x2, .int x3] [.int s0] h Q := by
  refine gif c_169_15 (gbr t rfl rfl (fun hc t => ?_) (fun hc t => ?_))
  · refine g1 c_169_34 k_0 ?_
    exact g91 c_169_35 ⟨by decide, t⟩
  · refine g5 c_169_18 rfl ?_
    obtain ⟨ho, j1, hr, t⟩ := t
    refine g45 c_169_19 ho hr ?_
    obtain ⟨ho, j2, hr, t⟩ := t
    refine g45 c_169_22 ho hr ?_
    refine g3 c_169_25 rfl ?_
    refine g1 c_169_26 k_5 ?_
    exact g80 (As := [.int x1, .int 5]) (rest := []) c_169_27 rfl rfl (Nat.le_of_ble_eq_true rfl) (Nat.le_of_ble_eq_true rfl) t.1 t.2
set_option maxRecDepth 20000 in
theorem t_169_30 {d : Nat} {h : ab_H} {Q : Option Value → ab_H → Prop} {x0 : Nat} {x1 : Int32} {x2 : Int32} {x3 : Int32} {s0 : Int32} (t : if s0 = x3 then (Q (some (.int 0)) h) else (ab_ok h x0 111 = true ∧ ∃ j1 : Nat, ab_r h x0 0 = some j1 ∧ ab_ok h j1 108 = true ∧ ∃ j2 : Nat, ab_r h j1 2 = some j2 ∧ ab_ok h j2 104 = true ∧ wm d 56 [.ref j2, .int x1, .int 5, .int x3] h (fun r9 h9 => wq (d + 1) 169 49 [.ref x0, .int x1, .int x2, .int x3] (r9.toList ++ []) h9 Q))) : wq (d + 1) 169 30 [.ref x0, .int x1, .int x2, .int x3] [.int s0] h Q := by
  refine g3 c_169_30 rfl ?_
  refine gcm c_169_31 (gbn t (ab_c1 _ _) rfl (fun hc t => ?_) (fun hc t => ?_))
  · refine g1 c_169_34 k_0 ?_
    exact g91 c_169_35 ⟨by decide, t⟩
  · refine g5 c_169_36 rfl ?_
    obtain ⟨ho, j1, hr, t⟩ := t
    refine g45 c_169_37 ho hr ?_
    obtain ⟨ho, j2, hr, t⟩ := t
    refine g45 c_169_40 ho hr ?_
    refine g3 c_169_43 rfl ?_
    refine g1 c_169_44 k_5 ?_
    refine g3 c_169_45 rfl ?_
    exact g80 (As := [.int x1, .int 5, .int x3]) (rest := []) c_169_46 rfl rfl (Nat.le_of_ble_eq_true rfl) (Nat.le_of_ble_eq_true rfl) t.1 t.2
set_option maxRecDepth 20000 in
theorem t_169_49 {d : Nat} {h : ab_H} {Q : Option Value → ab_H → Prop} {x0 : Nat} {x1 : Int32} {x2 : Int32} {x3 : Int32} (t : Q (some (.int 1)) h) : wq d 169 49 [.ref x0, .int x1, .int x2, .int x3] [] h Q := by
  refine g1 c_169_49 k_1 ?_
  exact g91 c_169_50 ⟨by decide, t⟩
-- method 170: MillTown.weeks(I)I
theorem c_170_0 : pg_cd 170 0 = (3, 1, 0, 1, 0) := by decide +kernel
theorem c_170_1 : pg_cd 170 1 = (1, 1, 0, 0, 1) := by decide +kernel
theorem c_170_2 : pg_cd 170 2 = (1, 2, 0, 0, 52) := by decide +kernel
theorem c_170_4 : pg_cd 170 4 = (81, 141, 85, 0, 0) := by decide +kernel
theorem c_170_7 : pg_cd 170 7 = (36, 3, 0, 0, 18) := by decide +kernel
theorem c_170_10 : pg_cd 170 10 = (5, 1, 0, 0, 0) := by decide +kernel
theorem c_170_11 : pg_cd 170 11 = (45, 11, 12, 0, 0) := by decide +kernel
theorem c_170_14 : pg_cd 170 14 = (43, 8, 193, 8, 0) := by decide +kernel
theorem c_170_17 : pg_cd 170 17 = (3, 1, 0, 1, 0) := by decide +kernel
theorem c_170_18 : pg_cd 170 18 = (10, 1, 0, 0, 0) := by decide +kernel
theorem c_170_19 : pg_cd 170 19 = (1, 3, 0, 0, 400) := by decide +kernel
theorem c_170_22 : pg_cd 170 22 = (37, 3, 0, 5, 5) := by decide +kernel
theorem c_170_25 : pg_cd 170 25 = (1, 1, 0, 0, (-1)) := by decide +kernel
theorem c_170_26 : pg_cd 170 26 = (90, 0, 0, 0, 0) := by decide +kernel
theorem c_170_27 : pg_cd 170 27 = (1, 1, 0, 0, 0) := by decide +kernel
theorem c_170_28 : pg_cd 170 28 = (6, 1, 0, 2, 0) := by decide +kernel
theorem c_170_29 : pg_cd 170 29 = (3, 1, 0, 2, 0) := by decide +kernel
theorem c_170_30 : pg_cd 170 30 = (3, 1, 0, 1, 0) := by decide +kernel
theorem c_170_31 : pg_cd 170 31 = (37, 3, 0, 3, 20) := by decide +kernel
theorem c_170_34 : pg_cd 170 34 = (5, 1, 0, 0, 0) := by decide +kernel
theorem c_170_35 : pg_cd 170 35 = (45, 11, 25, 3, 0) := by decide +kernel
theorem c_170_38 : pg_cd 170 38 = (5, 1, 0, 0, 0) := by decide +kernel
theorem c_170_39 : pg_cd 170 39 = (45, 11, 12, 0, 0) := by decide +kernel
theorem c_170_42 : pg_cd 170 42 = (80, 109, 240, 0, 0) := by decide +kernel
theorem c_170_45 : pg_cd 170 45 = (9, 3, 0, 2, 1) := by decide +kernel
theorem c_170_48 : pg_cd 170 48 = (38, 3, 0, 0, (-19)) := by decide +kernel
theorem c_170_51 : pg_cd 170 51 = (5, 1, 0, 0, 0) := by decide +kernel
theorem c_170_52 : pg_cd 170 52 = (45, 11, 12, 0, 0) := by decide +kernel
theorem c_170_55 : pg_cd 170 55 = (43, 8, 193, 8, 0) := by decide +kernel
theorem c_170_58 : pg_cd 170 58 = (90, 0, 0, 0, 0) := by decide +kernel
theorem mx_170 : pg_mx 170 = 3 := by decide +kernel
theorem m_170 {d : Nat} {h : ab_H} {Q : Option Value → ab_H → Prop} {x0 : Nat} {x1 : Int32} (t : wq d 170 0 [.ref x0, .int x1, .retAddr 0] [] h Q) : wm d 170 [.ref x0, .int x1] h Q := by
  unfold wm
  rw [mx_170]
  exact t
set_option maxRecDepth 20000 in
theorem t_170_0 {d : Nat} {h : ab_H} {Q : Option Value → ab_H → Prop} {x0 : Nat} {x1 : Int32} (t : wm d 141 [.int x1, .int 1, .int 52] h (fun r9 h9 => wq (d + 1) 170 7 [.ref x0, .int x1, .retAddr 0] (r9.toList ++ []) h9 Q)) : wq (d + 1) 170 0 [.ref x0, .int x1, .retAddr 0] [] h Q := by
  refine g3 c_170_0 rfl ?_
  refine g1 c_170_1 k_1 ?_
  refine g1 c_170_2 k_52 ?_
  exact g81 (As := [.int x1, .int 1, .int 52]) (rest := []) c_170_4 rfl rfl (Nat.le_of_ble_eq_true rfl) (Nat.le_of_ble_eq_true rfl) t
set_option maxRecDepth 20000 in
theorem t_170_7 {d : Nat} {h : ab_H} {Q : Option Value → ab_H → Prop} {x0 : Nat} {x1 : Int32} {s0 : Int32} (t : if s0 = 0 then (Q (some (.int (-1))) h) else (ab_ok h x0 111 = true ∧ ∃ j1 : Nat, ab_r h x0 0 = some j1 ∧ ab_ok h j1 108 = true ∧ if ((ab_i h j1 8) + x1) ≤ 400 then (wq d 170 29 [.ref x0, .int x1, .int 0] [] h Q) else (Q (some (.int (-1))) h))) : wq d 170 7 [.ref x0, .int x1, .retAddr 0] [.int s0] h Q := by
  refine gif c_170_7 (gbr t rfl rfl (fun hc t => ?_) (fun hc t => ?_))
  · refine g1 c_170_25 k_m1 ?_
    exact g90 c_170_26 t
  · refine g5 c_170_10 rfl ?_
    obtain ⟨ho, j1, hr, t⟩ := t
    refine g45 c_170_11 ho hr ?_
    obtain ⟨ho, t⟩ := t
    refine g43 c_170_14 ho ?_
    refine g3 c_170_17 rfl ?_
    refine g10 c_170_18 ?_
    refine g1 c_170_19 k_400 ?_
    refine gcm c_170_22 (gbr t rfl rfl (fun hc t => ?_) (fun hc t => ?_))
    · refine g1 c_170_27 k_0 ?_
      refine g6 (L' := [.ref x0, .int x1, .int 0]) c_170_28 rfl ?_
      exact t
    · refine g1 c_170_25 k_m1 ?_
      exact g90 c_170_26 t
set_option maxRecDepth 20000 in
theorem t_170_29 {d : Nat} {h : ab_H} {Q : Option Value → ab_H → Prop} {x0 : Nat} {x1 : Int32} {x2 : Int32} (t : if x1 ≤ x2 then (ab_ok h x0 111 = true ∧ ∃ j1 : Nat, ab_r h x0 0 = some j1 ∧ ab_ok h j1 108 = true ∧ Q (some (.int (ab_i h j1 8))) h) else (ab_ok h x0 111 = true ∧ ∃ j2 : Nat, ab_r h x0 3 = some j2 ∧ ab_ok h x0 111 = true ∧ ∃ j3 : Nat, ab_r h x0 0 = some j3 ∧ ab_ok h j2 109 = true ∧ wm d 109 [.ref j2, .ref j3] h (fun r9 h9 => wq (d + 1) 170 45 [.ref x0, .int x1, .int x2] (r9.toList ++ []) h9 Q))) : wq (d + 1) 170 29 [.ref x0, .int x1, .int x2] [] h Q := by
  refine g3 c_170_29 rfl ?_
  refine g3 c_170_30 rfl ?_
  refine gcm c_170_31 (gbr t rfl rfl (fun hc t => ?_) (fun hc t => ?_))
  · refine g5 c_170_51 rfl ?_
    obtain ⟨ho, j1, hr, t⟩ := t
    refine g45 c_170_52 ho hr ?_
    obtain ⟨ho, t⟩ := t
    refine g43 c_170_55 ho ?_
    exact g90 c_170_58 t
  · refine g5 c_170_34 rfl ?_
    obtain ⟨ho, j2, hr, t⟩ := t
    refine g45 c_170_35 ho hr ?_
    refine g5 c_170_38 rfl ?_
    obtain ⟨ho, j3, hr, t⟩ := t
    refine g45 c_170_39 ho hr ?_
    exact g80 (As := [.ref j3]) (rest := []) c_170_42 rfl rfl (Nat.le_of_ble_eq_true rfl) (Nat.le_of_ble_eq_true rfl) t.1 t.2
set_option maxRecDepth 20000 in
theorem t_170_45 {d : Nat} {h : ab_H} {Q : Option Value → ab_H → Prop} {x0 : Nat} {x1 : Int32} {x2 : Int32} (t : wq d 170 29 [.ref x0, .int x1, .int (x2 + 1)] [] h Q) : wq d 170 45 [.ref x0, .int x1, .int x2] [] h Q := by
  refine g9 (L' := [.ref x0, .int x1, .int (x2 + 1)]) c_170_45 rfl k_1 rfl ?_
  refine g38 c_170_48 rfl ?_
  exact t
-- method 171: MillTown.millOf(II)I
theorem c_171_0 : pg_cd 171 0 = (5, 1, 0, 0, 0) := by decide +kernel
theorem c_171_1 : pg_cd 171 1 = (45, 11, 12, 0, 0) := by decide +kernel
theorem c_171_4 : pg_cd 171 4 = (45, 8, 71, 2, 0) := by decide +kernel
theorem c_171_7 : pg_cd 171 7 = (3, 1, 0, 1, 0) := by decide +kernel
theorem c_171_8 : pg_cd 171 8 = (80, 53, 75, 0, 0) := by decide +kernel
theorem c_171_11 : pg_cd 171 11 = (36, 3, 0, 0, 13) := by decide +kernel
theorem c_171_14 : pg_cd 171 14 = (3, 1, 0, 2, 0) := by decide +kernel
theorem c_171_15 : pg_cd 171 15 = (1, 1, 0, 0, 0) := by decide +kernel
theorem c_171_16 : pg_cd 171 16 = (1, 2, 0, 0, 9) := by decide +kernel
theorem c_171_18 : pg_cd 171 18 = (81, 141, 85, 0, 0) := by decide +kernel
theorem c_171_21 : pg_cd 171 21 = (36, 3, 0, 1, 5) := by decide +kernel
theorem c_171_24 : pg_cd 171 24 = (1, 1, 0, 0, (-1)) := by decide +kernel
theorem c_171_25 : pg_cd 171 25 = (90, 0, 0, 0, 0) := by decide +kernel
theorem c_171_26 : pg_cd 171 26 = (3, 1, 0, 2, 0) := by decide +kernel
theorem c_171_27 : pg_cd 171 27 = (1, 1, 0, 0, 1) := by decide +kernel
theorem c_171_28 : pg_cd 171 28 = (37, 3, 0, 1, 14) := by decide +kernel
theorem c_171_31 : pg_cd 171 31 = (5, 1, 0, 0, 0) := by decide +kernel
theorem c_171_32 : pg_cd 171 32 = (45, 11, 12, 0, 0) := by decide +kernel
theorem c_171_35 : pg_cd 171 35 = (3, 1, 0, 1, 0) := by decide +kernel
theorem c_171_36 : pg_cd 171 36 = (80, 99, 157, 0, 0) := by decide +kernel
theorem c_171_39 : pg_cd 171 39 = (38, 3, 0, 0, 15) := by decide +kernel
theorem c_171_42 : pg_cd 171 42 = (5, 1, 0, 0, 0) := by decide +kernel
theorem c_171_43 : pg_cd 171 43 = (45, 11, 12, 0, 0) := by decide +kernel
theorem c_171_46 : pg_cd 171 46 = (45, 8, 71, 2, 0) := by decide +kernel
theorem c_171_49 : pg_cd 171 49 = (3, 1, 0, 1, 0) := by decide +kernel
theorem c_171_50 : pg_cd 171 50 = (3, 1, 0, 2, 0) := by decide +kernel
theorem c_171_51 : pg_cd 171 51 = (80, 55, 130, 0, 0) := by decide +kernel
theorem c_171_54 : pg_cd 171 54 = (90, 0, 0, 0, 0) := by decide +kernel
theorem mx_171 : pg_mx 171 = 3 := by decide +kernel
theorem m_171 {d : Nat} {h : ab_H} {Q : Option Value → ab_H → Prop} {x0 : Nat} {x1 : Int32} {x2 : Int32} (t : wq d 171 0 [.ref x0, .int x1, .int x2] [] h Q) : wm d 171 [.ref x0, .int x1, .int x2] h Q := by
  unfold wm
  rw [mx_171]
  exact t
set_option maxRecDepth 20000 in
theorem t_171_0 {d : Nat} {h : ab_H} {Q : Option Value → ab_H → Prop} {x0 : Nat} {x1 : Int32} {x2 : Int32} (t : ab_ok h x0 111 = true ∧ ∃ j1 : Nat, ab_r h x0 0 = some j1 ∧ ab_ok h j1 108 = true ∧ ∃ j2 : Nat, ab_r h j1 2 = some j2 ∧ ab_ok h j2 104 = true ∧ wm d 53 [.ref j2, .int x1] h (fun r9 h9 => wq (d + 1) 171 11 [.ref x0, .int x1, .int x2] (r9.toList ++ []) h9 Q)) : wq (d + 1) 171 0 [.ref x0, .int x1, .int x2] [] h Q := by
  refine g5 c_171_0 rfl ?_
  obtain ⟨ho, j1, hr, t⟩ := t
  refine g45 c_171_1 ho hr ?_
  obtain ⟨ho, j2, hr, t⟩ := t
  refine g45 c_171_4 ho hr ?_
  refine g3 c_171_7 rfl ?_
  exact g80 (As := [.int x1]) (rest := []) c_171_8 rfl rfl (Nat.le_of_ble_eq_true rfl) (Nat.le_of_ble_eq_true rfl) t.1 t.2
set_option maxRecDepth 20000 in
theorem t_171_11 {d : Nat} {h : ab_H} {Q : Option Value → ab_H → Prop} {x0 : Nat} {x1 : Int32} {x2 : Int32} {s0 : Int32} (t : if s0 = 0 then (Q (some (.int (-1))) h) else (wm d 141 [.int x2, .int 0, .int 9] h (fun r9 h9 => wq (d + 1) 171 21 [.ref x0, .int x1, .int x2] (r9.toList ++ []) h9 Q))) : wq (d + 1) 171 11 [.ref x0, .int x1, .int x2] [.int s0] h Q := by
  refine gif c_171_11 (gbr t rfl rfl (fun hc t => ?_) (fun hc t => ?_))
  · refine g1 c_171_24 k_m1 ?_
    exact g90 c_171_25 t
  · refine g3 c_171_14 rfl ?_
    refine g1 c_171_15 k_0 ?_
    refine g1 c_171_16 k_9 ?_
    exact g81 (As := [.int x2, .int 0, .int 9]) (rest := []) c_171_18 rfl rfl (Nat.le_of_ble_eq_true rfl) (Nat.le_of_ble_eq_true rfl) t
set_option maxRecDepth 20000 in
theorem t_171_21 {d : Nat} {h : ab_H} {Q : Option Value → ab_H → Prop} {x0 : Nat} {x1 : Int32} {x2 : Int32} {s0 : Int32} (t : if s0 = 0 then (Q (some (.int (-1))) h) else (if x2 = 1 then (ab_ok h x0 111 = true ∧ ∃ j1 : Nat, ab_r h x0 0 = some j1 ∧ ab_ok h j1 108 = true ∧ wm d 99 [.ref j1, .int x1] h (fun r9 h9 => wq (d + 1) 171 39 [.ref x0, .int x1, .int x2] (r9.toList ++ []) h9 Q)) else (ab_ok h x0 111 = true ∧ ∃ j2 : Nat, ab_r h x0 0 = some j2 ∧ ab_ok h j2 108 = true ∧ ∃ j3 : Nat, ab_r h j2 2 = some j3 ∧ ab_ok h j3 104 = true ∧ wm d 55 [.ref j3, .int x1, .int x2] h (fun r9 h9 => wq (d + 1) 171 54 [.ref x0, .int x1, .int x2] (r9.toList ++ []) h9 Q)))) : wq (d + 1) 171 21 [.ref x0, .int x1, .int x2] [.int s0] h Q := by
  refine gif c_171_21 (gbn t (ab_c1 _ _) rfl (fun hc t => ?_) (fun hc t => ?_))
  · refine g1 c_171_24 k_m1 ?_
    exact g90 c_171_25 t
  · refine g3 c_171_26 rfl ?_
    refine g1 c_171_27 k_1 ?_
    refine gcm c_171_28 (gbn t (ab_c1 _ _) rfl (fun hc t => ?_) (fun hc t => ?_))
    · refine g5 c_171_31 rfl ?_
      obtain ⟨ho, j1, hr, t⟩ := t
      refine g45 c_171_32 ho hr ?_
      refine g3 c_171_35 rfl ?_
      exact g80 (As := [.int x1]) (rest := []) c_171_36 rfl rfl (Nat.le_of_ble_eq_true rfl) (Nat.le_of_ble_eq_true rfl) t.1 t.2
    · refine g5 c_171_42 rfl ?_
      obtain ⟨ho, j2, hr, t⟩ := t
      refine g45 c_171_43 ho hr ?_
      obtain ⟨ho, j3, hr, t⟩ := t
      refine g45 c_171_46 ho hr ?_
      refine g3 c_171_49 rfl ?_
      refine g3 c_171_50 rfl ?_
      exact g80 (As := [.int x1, .int x2]) (rest := []) c_171_51 rfl rfl (Nat.le_of_ble_eq_true rfl) (Nat.le_of_ble_eq_true rfl) t.1 t.2
set_option maxRecDepth 20000 in
theorem t_171_39 {d : Nat} {h : ab_H} {Q : Option Value → ab_H → Prop} {x0 : Nat} {x1 : Int32} {x2 : Int32} {s0 : Int32} (t : Q (some (.int s0)) h) : wq d 171 39 [.ref x0, .int x1, .int x2] [.int s0] h Q := by
  refine g38 c_171_39 rfl ?_
  exact g90 c_171_54 t
set_option maxRecDepth 20000 in
theorem t_171_54 {d : Nat} {h : ab_H} {Q : Option Value → ab_H → Prop} {x0 : Nat} {x1 : Int32} {x2 : Int32} {s0 : Int32} (t : Q (some (.int s0)) h) : wq d 171 54 [.ref x0, .int x1, .int x2] [.int s0] h Q := by
  exact g90 c_171_54 t
-- method 172: MillTown.homeOf(II)I
theorem c_172_0 : pg_cd 172 0 = (3, 1, 0, 2, 0) := by decide +kernel
theorem c_172_1 : pg_cd 172 1 = (1, 1, 0, 0, 0) := by decide +kernel
theorem c_172_2 : pg_cd 172 2 = (1, 2, 0, 0, 6) := by decide +kernel
theorem c_172_4 : pg_cd 172 4 = (81, 141, 85, 0, 0) := by decide +kernel
theorem c_172_7 : pg_cd 172 7 = (36, 3, 0, 0, 18) := by decide +kernel
theorem c_172_10 : pg_cd 172 10 = (5, 1, 0, 0, 0) := by decide +kernel
theorem c_172_11 : pg_cd 172 11 = (45, 11, 12, 0, 0) := by decide +kernel
theorem c_172_14 : pg_cd 172 14 = (45, 8, 127, 4, 0) := by decide +kernel
theorem c_172_17 : pg_cd 172 17 = (3, 1, 0, 1, 0) := by decide +kernel
theorem c_172_18 : pg_cd 172 18 = (3, 1, 0, 2, 0) := by decide +kernel
theorem c_172_19 : pg_cd 172 19 = (80, 55, 130, 0, 0) := by decide +kernel
theorem c_172_22 : pg_cd 172 22 = (38, 3, 0, 0, 4) := by decide +kernel
theorem c_172_25 : pg_cd 172 25 = (1, 1, 0, 0, (-1)) := by decide +kernel
theorem c_172_26 : pg_cd 172 26 = (90, 0, 0, 0, 0) := by decide +kernel
theorem mx_172 : pg_mx 172 = 3 := by decide +kernel
theorem m_172 {d : Nat} {h : ab_H} {Q : Option Value → ab_H → Prop} {x0 : Nat} {x1 : Int32} {x2 : Int32} (t : wq d 172 0 [.ref x0, .int x1, .int x2] [] h Q) : wm d 172 [.ref x0, .int x1, .int x2] h Q := by
  unfold wm
  rw [mx_172]
  exact t
set_option maxRecDepth 20000 in
theorem t_172_0 {d : Nat} {h : ab_H} {Q : Option Value → ab_H → Prop} {x0 : Nat} {x1 : Int32} {x2 : Int32} (t : wm d 141 [.int x2, .int 0, .int 6] h (fun r9 h9 => wq (d + 1) 172 7 [.ref x0, .int x1, .int x2] (r9.toList ++ []) h9 Q)) : wq (d + 1) 172 0 [.ref x0, .int x1, .int x2] [] h Q := by
  refine g3 c_172_0 rfl ?_
  refine g1 c_172_1 k_0 ?_
  refine g1 c_172_2 k_6 ?_
  exact g81 (As := [.int x2, .int 0, .int 6]) (rest := []) c_172_4 rfl rfl (Nat.le_of_ble_eq_true rfl) (Nat.le_of_ble_eq_true rfl) t
set_option maxRecDepth 20000 in
theorem t_172_7 {d : Nat} {h : ab_H} {Q : Option Value → ab_H → Prop} {x0 : Nat} {x1 : Int32} {x2 : Int32} {s0 : Int32} (t : if s0 = 0 then (Q (some (.int (-1))) h) else (ab_ok h x0 111 = true ∧ ∃ j1 : Nat, ab_r h x0 0 = some j1 ∧ ab_ok h j1 108 = true ∧ ∃ j2 : Nat, ab_r h j1 4 = some j2 ∧ ab_ok h j2 104 = true ∧ wm d 55 [.ref j2, .int x1, .int x2] h (fun r9 h9 => wq (d + 1) 172 22 [.ref x0, .int x1, .int x2] (r9.toList ++ []) h9 Q))) : wq (d + 1) 172 7 [.ref x0, .int x1, .int x2] [.int s0] h Q := by
  refine gif c_172_7 (gbr t rfl rfl (fun hc t => ?_) (fun hc t => ?_))
  · refine g1 c_172_25 k_m1 ?_
    exact g90 c_172_26 t
  · refine g5 c_172_10 rfl ?_
    obtain ⟨ho, j1, hr, t⟩ := t
    refine g45 c_172_11 ho hr ?_
    obtain ⟨ho, j2, hr, t⟩ := t
    refine g45 c_172_14 ho hr ?_
    refine g3 c_172_17 rfl ?_
    refine g3 c_172_18 rfl ?_
    exact g80 (As := [.int x1, .int x2]) (rest := []) c_172_19 rfl rfl (Nat.le_of_ble_eq_true rfl) (Nat.le_of_ble_eq_true rfl) t.1 t.2
set_option maxRecDepth 20000 in
theorem t_172_22 {d : Nat} {h : ab_H} {Q : Option Value → ab_H → Prop} {x0 : Nat} {x1 : Int32} {x2 : Int32} {s0 : Int32} (t : Q (some (.int s0)) h) : wq d 172 22 [.ref x0, .int x1, .int x2] [.int s0] h Q := by
  refine g38 c_172_22 rfl ?_
  exact g90 c_172_26 t
-- method 173: MillTown.personOf(II)I
theorem c_173_0 : pg_cd 173 0 = (3, 1, 0, 2, 0) := by decide +kernel
theorem c_173_1 : pg_cd 173 1 = (1, 1, 0, 0, 0) := by decide +kernel
theorem c_173_2 : pg_cd 173 2 = (1, 2, 0, 0, 8) := by decide +kernel
theorem c_173_4 : pg_cd 173 4 = (81, 141, 85, 0, 0) := by decide +kernel
theorem c_173_7 : pg_cd 173 7 = (36, 3, 0, 0, 18) := by decide +kernel
theorem c_173_10 : pg_cd 173 10 = (5, 1, 0, 0, 0) := by decide +kernel
theorem c_173_11 : pg_cd 173 11 = (45, 11, 12, 0, 0) := by decide +kernel
theorem c_173_14 : pg_cd 173 14 = (45, 8, 136, 5, 0) := by decide +kernel
theorem c_173_17 : pg_cd 173 17 = (3, 1, 0, 1, 0) := by decide +kernel
theorem c_173_18 : pg_cd 173 18 = (3, 1, 0, 2, 0) := by decide +kernel
theorem c_173_19 : pg_cd 173 19 = (80, 55, 130, 0, 0) := by decide +kernel
theorem c_173_22 : pg_cd 173 22 = (38, 3, 0, 0, 4) := by decide +kernel
theorem c_173_25 : pg_cd 173 25 = (1, 1, 0, 0, (-1)) := by decide +kernel
theorem c_173_26 : pg_cd 173 26 = (90, 0, 0, 0, 0) := by decide +kernel
theorem mx_173 : pg_mx 173 = 3 := by decide +kernel
theorem m_173 {d : Nat} {h : ab_H} {Q : Option Value → ab_H → Prop} {x0 : Nat} {x1 : Int32} {x2 : Int32} (t : wq d 173 0 [.ref x0, .int x1, .int x2] [] h Q) : wm d 173 [.ref x0, .int x1, .int x2] h Q := by
  unfold wm
  rw [mx_173]
  exact t
set_option maxRecDepth 20000 in
theorem t_173_0 {d : Nat} {h : ab_H} {Q : Option Value → ab_H → Prop} {x0 : Nat} {x1 : Int32} {x2 : Int32} (t : wm d 141 [.int x2, .int 0, .int 8] h (fun r9 h9 => wq (d + 1) 173 7 [.ref x0, .int x1, .int x2] (r9.toList ++ []) h9 Q)) : wq (d + 1) 173 0 [.ref x0, .int x1, .int x2] [] h Q := by
  refine g3 c_173_0 rfl ?_
  refine g1 c_173_1 k_0 ?_
  refine g1 c_173_2 k_8 ?_
  exact g81 (As := [.int x2, .int 0, .int 8]) (rest := []) c_173_4 rfl rfl (Nat.le_of_ble_eq_true rfl) (Nat.le_of_ble_eq_true rfl) t
set_option maxRecDepth 20000 in
theorem t_173_7 {d : Nat} {h : ab_H} {Q : Option Value → ab_H → Prop} {x0 : Nat} {x1 : Int32} {x2 : Int32} {s0 : Int32} (t : if s0 = 0 then (Q (some (.int (-1))) h) else (ab_ok h x0 111 = true ∧ ∃ j1 : Nat, ab_r h x0 0 = some j1 ∧ ab_ok h j1 108 = true ∧ ∃ j2 : Nat, ab_r h j1 5 = some j2 ∧ ab_ok h j2 104 = true ∧ wm d 55 [.ref j2, .int x1, .int x2] h (fun r9 h9 => wq (d + 1) 173 22 [.ref x0, .int x1, .int x2] (r9.toList ++ []) h9 Q))) : wq (d + 1) 173 7 [.ref x0, .int x1, .int x2] [.int s0] h Q := by
  refine gif c_173_7 (gbr t rfl rfl (fun hc t => ?_) (fun hc t => ?_))
  · refine g1 c_173_25 k_m1 ?_
    exact g90 c_173_26 t
  · refine g5 c_173_10 rfl ?_
    obtain ⟨ho, j1, hr, t⟩ := t
    refine g45 c_173_11 ho hr ?_
    obtain ⟨ho, j2, hr, t⟩ := t
    refine g45 c_173_14 ho hr ?_
    refine g3 c_173_17 rfl ?_
    refine g3 c_173_18 rfl ?_
    exact g80 (As := [.int x1, .int x2]) (rest := []) c_173_19 rfl rfl (Nat.le_of_ble_eq_true rfl) (Nat.le_of_ble_eq_true rfl) t.1 t.2
set_option maxRecDepth 20000 in
theorem t_173_22 {d : Nat} {h : ab_H} {Q : Option Value → ab_H → Prop} {x0 : Nat} {x1 : Int32} {x2 : Int32} {s0 : Int32} (t : Q (some (.int s0)) h) : wq d 173 22 [.ref x0, .int x1, .int x2] [.int s0] h Q := by
  refine g38 c_173_22 rfl ?_
  exact g90 c_173_26 t
-- method 174: MillTown.shopOf(II)I
theorem c_174_0 : pg_cd 174 0 = (3, 1, 0, 2, 0) := by decide +kernel
theorem c_174_1 : pg_cd 174 1 = (1, 1, 0, 0, 0) := by decide +kernel
theorem c_174_2 : pg_cd 174 2 = (1, 1, 0, 0, 2) := by decide +kernel
theorem c_174_3 : pg_cd 174 3 = (81, 141, 85, 0, 0) := by decide +kernel
theorem c_174_6 : pg_cd 174 6 = (36, 3, 0, 0, 18) := by decide +kernel
theorem c_174_9 : pg_cd 174 9 = (5, 1, 0, 0, 0) := by decide +kernel
theorem c_174_10 : pg_cd 174 10 = (45, 11, 12, 0, 0) := by decide +kernel
theorem c_174_13 : pg_cd 174 13 = (45, 8, 121, 3, 0) := by decide +kernel
theorem c_174_16 : pg_cd 174 16 = (3, 1, 0, 1, 0) := by decide +kernel
theorem c_174_17 : pg_cd 174 17 = (3, 1, 0, 2, 0) := by decide +kernel
theorem c_174_18 : pg_cd 174 18 = (80, 55, 130, 0, 0) := by decide +kernel
theorem c_174_21 : pg_cd 174 21 = (38, 3, 0, 0, 4) := by decide +kernel
theorem c_174_24 : pg_cd 174 24 = (1, 1, 0, 0, (-1)) := by decide +kernel
theorem c_174_25 : pg_cd 174 25 = (90, 0, 0, 0, 0) := by decide +kernel
theorem mx_174 : pg_mx 174 = 3 := by decide +kernel
theorem m_174 {d : Nat} {h : ab_H} {Q : Option Value → ab_H → Prop} {x0 : Nat} {x1 : Int32} {x2 : Int32} (t : wq d 174 0 [.ref x0, .int x1, .int x2] [] h Q) : wm d 174 [.ref x0, .int x1, .int x2] h Q := by
  unfold wm
  rw [mx_174]
  exact t
set_option maxRecDepth 20000 in
theorem t_174_0 {d : Nat} {h : ab_H} {Q : Option Value → ab_H → Prop} {x0 : Nat} {x1 : Int32} {x2 : Int32} (t : wm d 141 [.int x2, .int 0, .int 2] h (fun r9 h9 => wq (d + 1) 174 6 [.ref x0, .int x1, .int x2] (r9.toList ++ []) h9 Q)) : wq (d + 1) 174 0 [.ref x0, .int x1, .int x2] [] h Q := by
  refine g3 c_174_0 rfl ?_
  refine g1 c_174_1 k_0 ?_
  refine g1 c_174_2 k_2 ?_
  exact g81 (As := [.int x2, .int 0, .int 2]) (rest := []) c_174_3 rfl rfl (Nat.le_of_ble_eq_true rfl) (Nat.le_of_ble_eq_true rfl) t
set_option maxRecDepth 20000 in
theorem t_174_6 {d : Nat} {h : ab_H} {Q : Option Value → ab_H → Prop} {x0 : Nat} {x1 : Int32} {x2 : Int32} {s0 : Int32} (t : if s0 = 0 then (Q (some (.int (-1))) h) else (ab_ok h x0 111 = true ∧ ∃ j1 : Nat, ab_r h x0 0 = some j1 ∧ ab_ok h j1 108 = true ∧ ∃ j2 : Nat, ab_r h j1 3 = some j2 ∧ ab_ok h j2 104 = true ∧ wm d 55 [.ref j2, .int x1, .int x2] h (fun r9 h9 => wq (d + 1) 174 21 [.ref x0, .int x1, .int x2] (r9.toList ++ []) h9 Q))) : wq (d + 1) 174 6 [.ref x0, .int x1, .int x2] [.int s0] h Q := by
  refine gif c_174_6 (gbr t rfl rfl (fun hc t => ?_) (fun hc t => ?_))
  · refine g1 c_174_24 k_m1 ?_
    exact g90 c_174_25 t
  · refine g5 c_174_9 rfl ?_
    obtain ⟨ho, j1, hr, t⟩ := t
    refine g45 c_174_10 ho hr ?_
    obtain ⟨ho, j2, hr, t⟩ := t
    refine g45 c_174_13 ho hr ?_
    refine g3 c_174_16 rfl ?_
    refine g3 c_174_17 rfl ?_
    exact g80 (As := [.int x1, .int x2]) (rest := []) c_174_18 rfl rfl (Nat.le_of_ble_eq_true rfl) (Nat.le_of_ble_eq_true rfl) t.1 t.2
set_option maxRecDepth 20000 in
theorem t_174_21 {d : Nat} {h : ab_H} {Q : Option Value → ab_H → Prop} {x0 : Nat} {x1 : Int32} {x2 : Int32} {s0 : Int32} (t : Q (some (.int s0)) h) : wq d 174 21 [.ref x0, .int x1, .int x2] [.int s0] h Q := by
  refine g38 c_174_21 rfl ?_
  exact g90 c_174_25 t
-- method 175: MillTown.orderOf(II)I
theorem c_175_0 : pg_cd 175 0 = (3, 1, 0, 2, 0) := by decide +kernel
theorem c_175_1 : pg_cd 175 1 = (1, 1, 0, 0, 0) := by decide +kernel
theorem c_175_2 : pg_cd 175 2 = (1, 1, 0, 0, 4) := by decide +kernel
theorem c_175_3 : pg_cd 175 3 = (81, 141, 85, 0, 0) := by decide +kernel
theorem c_175_6 : pg_cd 175 6 = (36, 3, 0, 0, 18) := by decide +kernel
theorem c_175_9 : pg_cd 175 9 = (5, 1, 0, 0, 0) := by decide +kernel
theorem c_175_10 : pg_cd 175 10 = (45, 11, 12, 0, 0) := by decide +kernel
theorem c_175_13 : pg_cd 175 13 = (45, 8, 244, 6, 0) := by decide +kernel
theorem c_175_16 : pg_cd 175 16 = (3, 1, 0, 1, 0) := by decide +kernel
theorem c_175_17 : pg_cd 175 17 = (3, 1, 0, 2, 0) := by decide +kernel
theorem c_175_18 : pg_cd 175 18 = (80, 55, 130, 0, 0) := by decide +kernel
theorem c_175_21 : pg_cd 175 21 = (38, 3, 0, 0, 4) := by decide +kernel
theorem c_175_24 : pg_cd 175 24 = (1, 1, 0, 0, (-1)) := by decide +kernel
theorem c_175_25 : pg_cd 175 25 = (90, 0, 0, 0, 0) := by decide +kernel
theorem mx_175 : pg_mx 175 = 3 := by decide +kernel
theorem m_175 {d : Nat} {h : ab_H} {Q : Option Value → ab_H → Prop} {x0 : Nat} {x1 : Int32} {x2 : Int32} (t : wq d 175 0 [.ref x0, .int x1, .int x2] [] h Q) : wm d 175 [.ref x0, .int x1, .int x2] h Q := by
  unfold wm
  rw [mx_175]
  exact t
set_option maxRecDepth 20000 in
theorem t_175_0 {d : Nat} {h : ab_H} {Q : Option Value → ab_H → Prop} {x0 : Nat} {x1 : Int32} {x2 : Int32} (t : wm d 141 [.int x2, .int 0, .int 4] h (fun r9 h9 => wq (d + 1) 175 6 [.ref x0, .int x1, .int x2] (r9.toList ++ []) h9 Q)) : wq (d + 1) 175 0 [.ref x0, .int x1, .int x2] [] h Q := by
  refine g3 c_175_0 rfl ?_
  refine g1 c_175_1 k_0 ?_
  refine g1 c_175_2 k_4 ?_
  exact g81 (As := [.int x2, .int 0, .int 4]) (rest := []) c_175_3 rfl rfl (Nat.le_of_ble_eq_true rfl) (Nat.le_of_ble_eq_true rfl) t
set_option maxRecDepth 20000 in
theorem t_175_6 {d : Nat} {h : ab_H} {Q : Option Value → ab_H → Prop} {x0 : Nat} {x1 : Int32} {x2 : Int32} {s0 : Int32} (t : if s0 = 0 then (Q (some (.int (-1))) h) else (ab_ok h x0 111 = true ∧ ∃ j1 : Nat, ab_r h x0 0 = some j1 ∧ ab_ok h j1 108 = true ∧ ∃ j2 : Nat, ab_r h j1 6 = some j2 ∧ ab_ok h j2 104 = true ∧ wm d 55 [.ref j2, .int x1, .int x2] h (fun r9 h9 => wq (d + 1) 175 21 [.ref x0, .int x1, .int x2] (r9.toList ++ []) h9 Q))) : wq (d + 1) 175 6 [.ref x0, .int x1, .int x2] [.int s0] h Q := by
  refine gif c_175_6 (gbr t rfl rfl (fun hc t => ?_) (fun hc t => ?_))
  · refine g1 c_175_24 k_m1 ?_
    exact g90 c_175_25 t
  · refine g5 c_175_9 rfl ?_
    obtain ⟨ho, j1, hr, t⟩ := t
    refine g45 c_175_10 ho hr ?_
    obtain ⟨ho, j2, hr, t⟩ := t
    refine g45 c_175_13 ho hr ?_
    refine g3 c_175_16 rfl ?_
    refine g3 c_175_17 rfl ?_
    exact g80 (As := [.int x1, .int x2]) (rest := []) c_175_18 rfl rfl (Nat.le_of_ble_eq_true rfl) (Nat.le_of_ble_eq_true rfl) t.1 t.2
set_option maxRecDepth 20000 in
theorem t_175_21 {d : Nat} {h : ab_H} {Q : Option Value → ab_H → Prop} {x0 : Nat} {x1 : Int32} {x2 : Int32} {s0 : Int32} (t : Q (some (.int s0)) h) : wq d 175 21 [.ref x0, .int x1, .int x2] [.int s0] h Q := by
  refine g38 c_175_21 rfl ?_
  exact g90 c_175_25 t
-- method 176: MillTown.isOver(I)Z
theorem c_176_0 : pg_cd 176 0 = (3, 1, 0, 1, 0) := by decide +kernel
theorem c_176_1 : pg_cd 176 1 = (36, 3, 0, 2, 18) := by decide +kernel
theorem c_176_4 : pg_cd 176 4 = (3, 1, 0, 1, 0) := by decide +kernel
theorem c_176_5 : pg_cd 176 5 = (5, 1, 0, 0, 0) := by decide +kernel
theorem c_176_6 : pg_cd 176 6 = (45, 11, 12, 0, 0) := by decide +kernel
theorem c_176_9 : pg_cd 176 9 = (43, 8, 193, 8, 0) := by decide +kernel
theorem c_176_12 : pg_cd 176 12 = (37, 3, 0, 3, 7) := by decide +kernel
theorem c_176_15 : pg_cd 176 15 = (1, 1, 0, 0, 1) := by decide +kernel
theorem c_176_16 : pg_cd 176 16 = (38, 3, 0, 0, 4) := by decide +kernel
theorem c_176_19 : pg_cd 176 19 = (1, 1, 0, 0, 0) := by decide +kernel
theorem c_176_20 : pg_cd 176 20 = (91, 0, 0, 0, 0) := by decide +kernel
theorem mx_176 : pg_mx 176 = 2 := by decide +kernel
theorem m_176 {d : Nat} {h : ab_H} {Q : Option Value → ab_H → Prop} {x0 : Nat} {x1 : Int32} (t : wq d 176 0 [.ref x0, .int x1] [] h Q) : wm d 176 [.ref x0, .int x1] h Q := by
  unfold wm
  rw [mx_176]
  exact t
set_option maxRecDepth 20000 in
theorem t_176_0 {d : Nat} {h : ab_H} {Q : Option Value → ab_H → Prop} {x0 : Nat} {x1 : Int32} (t : if x1 < 0 then (Q (some (.int 0)) h) else (ab_ok h x0 111 = true ∧ ∃ j1 : Nat, ab_r h x0 0 = some j1 ∧ ab_ok h j1 108 = true ∧ if (ab_i h j1 8) ≤ x1 then (Q (some (.int 0)) h) else (Q (some (.int 1)) h))) : wq d 176 0 [.ref x0, .int x1] [] h Q := by
  refine g3 c_176_0 rfl ?_
  refine gif c_176_1 (gbr t rfl rfl (fun hc t => ?_) (fun hc t => ?_))
  · refine g1 c_176_19 k_0 ?_
    exact g91 c_176_20 ⟨by decide, t⟩
  · refine g3 c_176_4 rfl ?_
    refine g5 c_176_5 rfl ?_
    obtain ⟨ho, j1, hr, t⟩ := t
    refine g45 c_176_6 ho hr ?_
    obtain ⟨ho, t⟩ := t
    refine g43 c_176_9 ho ?_
    refine gcm c_176_12 (gbr t rfl rfl (fun hc t => ?_) (fun hc t => ?_))
    · refine g1 c_176_19 k_0 ?_
      exact g91 c_176_20 ⟨by decide, t⟩
    · refine g1 c_176_15 k_1 ?_
      refine g38 c_176_16 rfl ?_
      exact g91 c_176_20 ⟨by decide, t⟩
-- method 177: MillTown.book(III)I
theorem c_177_0 : pg_cd 177 0 = (5, 1, 0, 0, 0) := by decide +kernel
theorem c_177_1 : pg_cd 177 1 = (45, 11, 12, 0, 0) := by decide +kernel
theorem c_177_4 : pg_cd 177 4 = (45, 8, 127, 4, 0) := by decide +kernel
theorem c_177_7 : pg_cd 177 7 = (3, 1, 0, 1, 0) := by decide +kernel
theorem c_177_8 : pg_cd 177 8 = (80, 53, 75, 0, 0) := by decide +kernel
theorem c_177_11 : pg_cd 177 11 = (36, 3, 0, 0, 11) := by decide +kernel
theorem c_177_14 : pg_cd 177 14 = (5, 1, 0, 0, 0) := by decide +kernel
theorem c_177_15 : pg_cd 177 15 = (3, 1, 0, 2, 0) := by decide +kernel
theorem c_177_16 : pg_cd 177 16 = (80, 176, 247, 0, 0) := by decide +kernel
theorem c_177_19 : pg_cd 177 19 = (36, 3, 0, 1, 5) := by decide +kernel
theorem c_177_22 : pg_cd 177 22 = (1, 1, 0, 0, (-1)) := by decide +kernel
theorem c_177_23 : pg_cd 177 23 = (90, 0, 0, 0, 0) := by decide +kernel
theorem c_177_24 : pg_cd 177 24 = (3, 1, 0, 3, 0) := by decide +kernel
theorem c_177_25 : pg_cd 177 25 = (36, 3, 0, 1, 13) := by decide +kernel
theorem c_177_28 : pg_cd 177 28 = (5, 1, 0, 0, 0) := by decide +kernel
theorem c_177_29 : pg_cd 177 29 = (45, 11, 38, 5, 0) := by decide +kernel
theorem c_177_32 : pg_cd 177 32 = (3, 1, 0, 2, 0) := by decide +kernel
theorem c_177_33 : pg_cd 177 33 = (3, 1, 0, 1, 0) := by decide +kernel
theorem c_177_34 : pg_cd 177 34 = (80, 3, 250, 0, 0) := by decide +kernel
theorem c_177_37 : pg_cd 177 37 = (90, 0, 0, 0, 0) := by decide +kernel
theorem c_177_38 : pg_cd 177 38 = (3, 1, 0, 3, 0) := by decide +kernel
theorem c_177_39 : pg_cd 177 39 = (1, 1, 0, 0, 1) := by decide +kernel
theorem c_177_40 : pg_cd 177 40 = (37, 3, 0, 1, 15) := by decide +kernel
theorem c_177_43 : pg_cd 177 43 = (5, 1, 0, 0, 0) := by decide +kernel
theorem c_177_44 : pg_cd 177 44 = (45, 11, 38, 5, 0) := by decide +kernel
theorem c_177_47 : pg_cd 177 47 = (3, 1, 0, 2, 0) := by decide +kernel
theorem c_177_48 : pg_cd 177 48 = (3, 1, 0, 1, 0) := by decide +kernel
theorem c_177_49 : pg_cd 177 49 = (80, 4, 255, 0, 0) := by decide +kernel
theorem c_177_52 : pg_cd 177 52 = (38, 3, 0, 0, 4) := by decide +kernel
theorem c_177_55 : pg_cd 177 55 = (1, 1, 0, 0, (-1)) := by decide +kernel
theorem c_177_56 : pg_cd 177 56 = (90, 0, 0, 0, 0) := by decide +kernel
theorem mx_177 : pg_mx 177 = 4 := by decide +kernel
theorem m_177 {d : Nat} {h : ab_H} {Q : Option Value → ab_H → Prop} {x0 : Nat} {x1 : Int32} {x2 : Int32} {x3 : Int32} (t : wq d 177 0 [.ref x0, .int x1, .int x2, .int x3] [] h Q) : wm d 177 [.ref x0, .int x1, .int x2, .int x3] h Q := by
  unfold wm
  rw [mx_177]
  exact t
set_option maxRecDepth 20000 in
theorem t_177_0 {d : Nat} {h : ab_H} {Q : Option Value → ab_H → Prop} {x0 : Nat} {x1 : Int32} {x2 : Int32} {x3 : Int32} (t : ab_ok h x0 111 = true ∧ ∃ j1 : Nat, ab_r h x0 0 = some j1 ∧ ab_ok h j1 108 = true ∧ ∃ j2 : Nat, ab_r h j1 4 = some j2 ∧ ab_ok h j2 104 = true ∧ wm d 53 [.ref j2, .int x1] h (fun r9 h9 => wq (d + 1) 177 11 [.ref x0, .int x1, .int x2, .int x3] (r9.toList ++ []) h9 Q)) : wq (d + 1) 177 0 [.ref x0, .int x1, .int x2, .int x3] [] h Q := by
  refine g5 c_177_0 rfl ?_
  obtain ⟨ho, j1, hr, t⟩ := t
  refine g45 c_177_1 ho hr ?_
  obtain ⟨ho, j2, hr, t⟩ := t
  refine g45 c_177_4 ho hr ?_
  refine g3 c_177_7 rfl ?_
  exact g80 (As := [.int x1]) (rest := []) c_177_8 rfl rfl (Nat.le_of_ble_eq_true rfl) (Nat.le_of_ble_eq_true rfl) t.1 t.2
set_option maxRecDepth 20000 in
theorem t_177_11 {d : Nat} {h : ab_H} {Q : Option Value → ab_H → Prop} {x0 : Nat} {x1 : Int32} {x2 : Int32} {x3 : Int32} {s0 : Int32} (t : if s0 = 0 then (Q (some (.int (-1))) h) else (ab_ok h x0 111 = true ∧ wm d 176 [.ref x0, .int x2] h (fun r9 h9 => wq (d + 1) 177 19 [.ref x0, .int x1, .int x2, .int x3] (r9.toList ++ []) h9 Q))) : wq (d + 1) 177 11 [.ref x0, .int x1, .int x2, .int x3] [.int s0] h Q := by
  refine gif c_177_11 (gbr t rfl rfl (fun hc t => ?_) (fun hc t => ?_))
  · refine g1 c_177_22 k_m1 ?_
    exact g90 c_177_23 t
  · refine g5 c_177_14 rfl ?_
    refine g3 c_177_15 rfl ?_
    exact g80 (As := [.int x2]) (rest := []) c_177_16 rfl rfl (Nat.le_of_ble_eq_true rfl) (Nat.le_of_ble_eq_true rfl) t.1 t.2
set_option maxRecDepth 20000 in
theorem t_177_19 {d : Nat} {h : ab_H} {Q : Option Value → ab_H → Prop} {x0 : Nat} {x1 : Int32} {x2 : Int32} {x3 : Int32} {s0 : Int32} (t : if s0 = 0 then (Q (some (.int (-1))) h) else (if x3 = 0 then (ab_ok h x0 111 = true ∧ ∃ j1 : Nat, ab_r h x0 5 = some j1 ∧ ab_ok h j1 100 = true ∧ wm d 3 [.ref j1, .int x2, .int x1] h (fun r9 h9 => wq (d + 1) 177 37 [.ref x0, .int x1, .int x2, .int x3] (r9.toList ++ []) h9 Q)) else (if x3 = 1 then (ab_ok h x0 111 = true ∧ ∃ j2 : Nat, ab_r h x0 5 = some j2 ∧ ab_ok h j2 100 = true ∧ wm d 4 [.ref j2, .int x2, .int x1] h (fun r9 h9 => wq (d + 1) 177 52 [.ref x0, .int x1, .int x2, .int x3] (r9.toList ++ []) h9 Q)) else (Q (some (.int (-1))) h)))) : wq (d + 1) 177 19 [.ref x0, .int x1, .int x2, .int x3] [.int s0] h Q := by
  refine gif c_177_19 (gbn t (ab_c1 _ _) rfl (fun hc t => ?_) (fun hc t => ?_))
  · refine g1 c_177_22 k_m1 ?_
    exact g90 c_177_23 t
  · refine g3 c_177_24 rfl ?_
    refine gif c_177_25 (gbn t (ab_c1 _ _) rfl (fun hc t => ?_) (fun hc t => ?_))
    · refine g5 c_177_28 rfl ?_
      obtain ⟨ho, j1, hr, t⟩ := t
      refine g45 c_177_29 ho hr ?_
      refine g3 c_177_32 rfl ?_
      refine g3 c_177_33 rfl ?_
      exact g80 (As := [.int x2, .int x1]) (rest := []) c_177_34 rfl rfl (Nat.le_of_ble_eq_true rfl) (Nat.le_of_ble_eq_true rfl) t.1 t.2
    · refine g3 c_177_38 rfl ?_
      refine g1 c_177_39 k_1 ?_
      refine gcm c_177_40 (gbn t (ab_c1 _ _) rfl (fun hc t => ?_) (fun hc t => ?_))
      · refine g5 c_177_43 rfl ?_
        obtain ⟨ho, j2, hr, t⟩ := t
        refine g45 c_177_44 ho hr ?_
        refine g3 c_177_47 rfl ?_
        refine g3 c_177_48 rfl ?_
        exact g80 (As := [.int x2, .int x1]) (rest := []) c_177_49 rfl rfl (Nat.le_of_ble_eq_true rfl) (Nat.le_of_ble_eq_true rfl) t.1 t.2
      · refine g1 c_177_55 k_m1 ?_
        exact g90 c_177_56 t
set_option maxRecDepth 20000 in
theorem t_177_37 {d : Nat} {h : ab_H} {Q : Option Value → ab_H → Prop} {x0 : Nat} {x1 : Int32} {x2 : Int32} {x3 : Int32} {s0 : Int32} (t : Q (some (.int s0)) h) : wq d 177 37 [.ref x0, .int x1, .int x2, .int x3] [.int s0] h Q := by
  exact g90 c_177_37 t
set_option maxRecDepth 20000 in
theorem t_177_52 {d : Nat} {h : ab_H} {Q : Option Value → ab_H → Prop} {x0 : Nat} {x1 : Int32} {x2 : Int32} {x3 : Int32} {s0 : Int32} (t : Q (some (.int s0)) h) : wq d 177 52 [.ref x0, .int x1, .int x2, .int x3] [.int s0] h Q := by
  refine g38 c_177_52 rfl ?_
  exact g90 c_177_56 t
-- method 178: MillTown.tried(IIII)I
theorem c_178_0 : pg_cd 178 0 = (3, 1, 0, 1, 0) := by decide +kernel
theorem c_178_1 : pg_cd 178 1 = (1, 1, 0, 0, (-1)) := by decide +kernel
theorem c_178_2 : pg_cd 178 2 = (37, 3, 0, 0, 11) := by decide +kernel
theorem c_178_5 : pg_cd 178 5 = (5, 1, 0, 0, 0) := by decide +kernel
theorem c_178_6 : pg_cd 178 6 = (3, 1, 0, 1, 0) := by decide +kernel
theorem c_178_7 : pg_cd 178 7 = (80, 144, 187, 0, 0) := by decide +kernel
theorem c_178_10 : pg_cd 178 10 = (36, 3, 0, 0, 36) := by decide +kernel
theorem c_178_13 : pg_cd 178 13 = (5, 1, 0, 0, 0) := by decide +kernel
theorem c_178_14 : pg_cd 178 14 = (3, 1, 0, 2, 0) := by decide +kernel
theorem c_178_15 : pg_cd 178 15 = (80, 143, 190, 0, 0) := by decide +kernel
theorem c_178_18 : pg_cd 178 18 = (36, 3, 0, 0, 28) := by decide +kernel
theorem c_178_21 : pg_cd 178 21 = (3, 1, 0, 3, 0) := by decide +kernel
theorem c_178_22 : pg_cd 178 22 = (1, 1, 0, 0, 1) := by decide +kernel
theorem c_178_23 : pg_cd 178 23 = (1, 2, 0, 0, 30) := by decide +kernel
theorem c_178_25 : pg_cd 178 25 = (81, 141, 85, 0, 0) := by decide +kernel
theorem c_178_28 : pg_cd 178 28 = (36, 3, 0, 0, 18) := by decide +kernel
theorem c_178_31 : pg_cd 178 31 = (3, 2, 0, 4, 0) := by decide +kernel
theorem c_178_33 : pg_cd 178 33 = (1, 1, 0, 0, 0) := by decide +kernel
theorem c_178_34 : pg_cd 178 34 = (1, 2, 0, 0, 6) := by decide +kernel
theorem c_178_36 : pg_cd 178 36 = (81, 141, 85, 0, 0) := by decide +kernel
theorem c_178_39 : pg_cd 178 39 = (36, 3, 0, 0, 7) := by decide +kernel
theorem c_178_42 : pg_cd 178 42 = (1, 1, 0, 0, 1) := by decide +kernel
theorem c_178_43 : pg_cd 178 43 = (38, 3, 0, 0, 4) := by decide +kernel
theorem c_178_46 : pg_cd 178 46 = (1, 1, 0, 0, 0) := by decide +kernel
theorem c_178_47 : pg_cd 178 47 = (6, 2, 0, 5, 0) := by decide +kernel
theorem c_178_49 : pg_cd 178 49 = (3, 2, 0, 5, 0) := by decide +kernel
theorem c_178_51 : pg_cd 178 51 = (36, 3, 0, 0, 18) := by decide +kernel
theorem c_178_54 : pg_cd 178 54 = (5, 1, 0, 0, 0) := by decide +kernel
theorem c_178_55 : pg_cd 178 55 = (45, 11, 12, 0, 0) := by decide +kernel
theorem c_178_58 : pg_cd 178 58 = (43, 8, 193, 8, 0) := by decide +kernel
theorem c_178_61 : pg_cd 178 61 = (3, 1, 0, 3, 0) := by decide +kernel
theorem c_178_62 : pg_cd 178 62 = (10, 1, 0, 0, 0) := by decide +kernel
theorem c_178_63 : pg_cd 178 63 = (1, 3, 0, 0, 400) := by decide +kernel
theorem c_178_66 : pg_cd 178 66 = (37, 3, 0, 5, 5) := by decide +kernel
theorem c_178_69 : pg_cd 178 69 = (1, 1, 0, 0, (-1)) := by decide +kernel
theorem c_178_70 : pg_cd 178 70 = (90, 0, 0, 0, 0) := by decide +kernel
theorem c_178_71 : pg_cd 178 71 = (5, 1, 0, 0, 0) := by decide +kernel
theorem c_178_72 : pg_cd 178 72 = (45, 11, 19, 2, 0) := by decide +kernel
theorem c_178_75 : pg_cd 178 75 = (5, 1, 0, 0, 0) := by decide +kernel
theorem c_178_76 : pg_cd 178 76 = (45, 11, 12, 0, 0) := by decide +kernel
theorem c_178_79 : pg_cd 178 79 = (80, 87, 258, 0, 0) := by decide +kernel
theorem c_178_82 : pg_cd 178 82 = (3, 1, 0, 1, 0) := by decide +kernel
theorem c_178_83 : pg_cd 178 83 = (1, 1, 0, 0, (-1)) := by decide +kernel
theorem c_178_84 : pg_cd 178 84 = (37, 3, 0, 0, 23) := by decide +kernel
theorem c_178_87 : pg_cd 178 87 = (5, 1, 0, 0, 0) := by decide +kernel
theorem c_178_88 : pg_cd 178 88 = (45, 11, 19, 2, 0) := by decide +kernel
theorem c_178_91 : pg_cd 178 91 = (3, 1, 0, 1, 0) := by decide +kernel
theorem c_178_92 : pg_cd 178 92 = (3, 1, 0, 2, 0) := by decide +kernel
theorem c_178_93 : pg_cd 178 93 = (5, 1, 0, 0, 0) := by decide +kernel
theorem c_178_94 : pg_cd 178 94 = (45, 11, 12, 0, 0) := by decide +kernel
theorem c_178_97 : pg_cd 178 97 = (43, 8, 193, 8, 0) := by decide +kernel
theorem c_178_100 : pg_cd 178 100 = (1, 3, 0, 0, 399) := by decide +kernel
theorem c_178_103 : pg_cd 178 103 = (80, 95, 202, 0, 0) := by decide +kernel
theorem c_178_106 : pg_cd 178 106 = (35, 1, 0, 0, 0) := by decide +kernel
theorem c_178_107 : pg_cd 178 107 = (5, 1, 0, 0, 0) := by decide +kernel
theorem c_178_108 : pg_cd 178 108 = (45, 11, 25, 3, 0) := by decide +kernel
theorem c_178_111 : pg_cd 178 111 = (80, 108, 261, 0, 0) := by decide +kernel
theorem c_178_114 : pg_cd 178 114 = (1, 1, 0, 0, 0) := by decide +kernel
theorem c_178_115 : pg_cd 178 115 = (6, 2, 0, 6, 0) := by decide +kernel
theorem c_178_117 : pg_cd 178 117 = (3, 2, 0, 6, 0) := by decide +kernel
theorem c_178_119 : pg_cd 178 119 = (3, 1, 0, 3, 0) := by decide +kernel
theorem c_178_120 : pg_cd 178 120 = (37, 3, 0, 3, 20) := by decide +kernel
theorem c_178_123 : pg_cd 178 123 = (5, 1, 0, 0, 0) := by decide +kernel
theorem c_178_124 : pg_cd 178 124 = (45, 11, 25, 3, 0) := by decide +kernel
theorem c_178_127 : pg_cd 178 127 = (5, 1, 0, 0, 0) := by decide +kernel
theorem c_178_128 : pg_cd 178 128 = (45, 11, 19, 2, 0) := by decide +kernel
theorem c_178_131 : pg_cd 178 131 = (80, 109, 240, 0, 0) := by decide +kernel
theorem c_178_134 : pg_cd 178 134 = (9, 3, 0, 6, 1) := by decide +kernel
theorem c_178_137 : pg_cd 178 137 = (38, 3, 0, 0, (-20)) := by decide +kernel
theorem c_178_140 : pg_cd 178 140 = (5, 1, 0, 0, 0) := by decide +kernel
theorem c_178_141 : pg_cd 178 141 = (3, 2, 0, 4, 0) := by decide +kernel
theorem c_178_143 : pg_cd 178 143 = (80, 179, 264, 0, 0) := by decide +kernel
theorem c_178_146 : pg_cd 178 146 = (90, 0, 0, 0, 0) := by decide +kernel
theorem mx_178 : pg_mx 178 = 7 := by decide +kernel
theorem m_178 {d : Nat} {h : ab_H} {Q : Option Value → ab_H → Prop} {x0 : Nat} {x1 : Int32} {x2 : Int32} {x3 : Int32} {x4 : Int32} (t : wq d 178 0 [.ref x0, .int x1, .int x2, .int x3, .int x4, .retAddr 0, .retAddr 0] [] h Q) : wm d 178 [.ref x0, .int x1, .int x2, .int x3, .int x4] h Q := by
  unfold wm
  rw [mx_178]
  exact t
set_option maxRecDepth 20000 in
theorem t_178_0 {d : Nat} {h : ab_H} {Q : Option Value → ab_H → Prop} {x0 : Nat} {x1 : Int32} {x2 : Int32} {x3 : Int32} {x4 : Int32} (t : if x1 = (-1) then (ab_ok h x0 111 = true ∧ wm d 143 [.ref x0, .int x2] h (fun r9 h9 => wq (d + 1) 178 18 [.ref x0, .int x1, .int x2, .int x3, .int x4, .retAddr 0, .retAddr 0] (r9.toList ++ []) h9 Q)) else (ab_ok h x0 111 = true ∧ wm d 144 [.ref x0, .int x1] h (fun r9 h9 => wq (d + 1) 178 10 [.ref x0, .int x1, .int x2, .int x3, .int x4, .retAddr 0, .retAddr 0] (r9.toList ++ []) h9 Q))) : wq (d + 1) 178 0 [.ref x0, .int x1, .int x2, .int x3, .int x4, .retAddr 0, .retAddr 0] [] h Q := by
  refine g3 c_178_0 rfl ?_
  refine g1 c_178_1 k_m1 ?_
  refine gcm c_178_2 (gbr t rfl rfl (fun hc t => ?_) (fun hc t => ?_))
  · refine g5 c_178_13 rfl ?_
    refine g3 c_178_14 rfl ?_
    exact g80 (As := [.int x2]) (rest := []) c_178_15 rfl rfl (Nat.le_of_ble_eq_true rfl) (Nat.le_of_ble_eq_true rfl) t.1 t.2
  · refine g5 c_178_5 rfl ?_
    refine g3 c_178_6 rfl ?_
    exact g80 (As := [.int x1]) (rest := []) c_178_7 rfl rfl (Nat.le_of_ble_eq_true rfl) (Nat.le_of_ble_eq_true rfl) t.1 t.2
set_option maxRecDepth 20000 in
theorem t_178_10 {d : Nat} {h : ab_H} {Q : Option Value → ab_H → Prop} {x0 : Nat} {x1 : Int32} {x2 : Int32} {x3 : Int32} {x4 : Int32} {s0 : Int32} (t : if s0 = 0 then (if (0 : Int32) = 0 then (Q (some (.int (-1))) h) else (ab_ok h x0 111 = true ∧ ∃ j1 : Nat, ab_r h x0 0 = some j1 ∧ ab_ok h j1 108 = true ∧ if ((ab_i h j1 8) + x3) ≤ 400 then (ab_ok h x0 111 = true ∧ ∃ j2 : Nat, ab_r h x0 2 = some j2 ∧ ab_ok h x0 111 = true ∧ ∃ j3 : Nat, ab_r h x0 0 = some j3 ∧ ab_ok h j2 108 = true ∧ wm d 87 [.ref j2, .ref j3] h (fun r9 h9 => wq (d + 1) 178 82 [.ref x0, .int x1, .int x2, .int x3, .int x4, .int 0, .retAddr 0] (r9.toList ++ []) h9 Q)) else (Q (some (.int (-1))) h))) else (ab_ok h x0 111 = true ∧ wm d 143 [.ref x0, .int x2] h (fun r9 h9 => wq (d + 1) 178 18 [.ref x0, .int x1, .int x2, .int x3, .int x4, .retAddr 0, .retAddr 0] (r9.toList ++ []) h9 Q))) : wq (d + 1) 178 10 [.ref x0, .int x1, .int x2, .int x3, .int x4, .retAddr 0, .retAddr 0] [.int s0] h Q := by
  refine gif c_178_10 (gbr t rfl rfl (fun hc t => ?_) (fun hc t => ?_))
  · refine g1 c_178_46 k_0 ?_
    refine g6 (L' := [.ref x0, .int x1, .int x2, .int x3, .int x4, .int 0, .retAddr 0]) c_178_47 rfl ?_
    refine g3 c_178_49 rfl ?_
    refine gif c_178_51 (gbr t rfl rfl (fun hc t => ?_) (fun hc t => ?_))
    · refine g1 c_178_69 k_m1 ?_
      exact g90 c_178_70 t
    · refine g5 c_178_54 rfl ?_
      obtain ⟨ho, j1, hr, t⟩ := t
      refine g45 c_178_55 ho hr ?_
      obtain ⟨ho, t⟩ := t
      refine g43 c_178_58 ho ?_
      refine g3 c_178_61 rfl ?_
      refine g10 c_178_62 ?_
      refine g1 c_178_63 k_400 ?_
      refine gcm c_178_66 (gbr t rfl rfl (fun hc t => ?_) (fun hc t => ?_))
      · refine g5 c_178_71 rfl ?_
        obtain ⟨ho, j2, hr, t⟩ := t
        refine g45 c_178_72 ho hr ?_
        refine g5 c_178_75 rfl ?_
        obtain ⟨ho, j3, hr, t⟩ := t
        refine g45 c_178_76 ho hr ?_
        exact g80 (As := [.ref j3]) (rest := []) c_178_79 rfl rfl (Nat.le_of_ble_eq_true rfl) (Nat.le_of_ble_eq_true rfl) t.1 t.2
      · refine g1 c_178_69 k_m1 ?_
        exact g90 c_178_70 t
  · refine g5 c_178_13 rfl ?_
    refine g3 c_178_14 rfl ?_
    exact g80 (As := [.int x2]) (rest := []) c_178_15 rfl rfl (Nat.le_of_ble_eq_true rfl) (Nat.le_of_ble_eq_true rfl) t.1 t.2
set_option maxRecDepth 20000 in
theorem t_178_18 {d : Nat} {h : ab_H} {Q : Option Value → ab_H → Prop} {x0 : Nat} {x1 : Int32} {x2 : Int32} {x3 : Int32} {x4 : Int32} {s0 : Int32} (t : if s0 = 0 then (if (0 : Int32) = 0 then (Q (some (.int (-1))) h) else (ab_ok h x0 111 = true ∧ ∃ j1 : Nat, ab_r h x0 0 = some j1 ∧ ab_ok h j1 108 = true ∧ if ((ab_i h j1 8) + x3) ≤ 400 then (ab_ok h x0 111 = true ∧ ∃ j2 : Nat, ab_r h x0 2 = some j2 ∧ ab_ok h x0 111 = true ∧ ∃ j3 : Nat, ab_r h x0 0 = some j3 ∧ ab_ok h j2 108 = true ∧ wm d 87 [.ref j2, .ref j3] h (fun r9 h9 => wq (d + 1) 178 82 [.ref x0, .int x1, .int x2, .int x3, .int x4, .int 0, .retAddr 0] (r9.toList ++ []) h9 Q)) else (Q (some (.int (-1))) h))) else (wm d 141 [.int x3, .int 1, .int 30] h (fun r9 h9 => wq (d + 1) 178 28 [.ref x0, .int x1, .int x2, .int x3, .int x4, .retAddr 0, .retAddr 0] (r9.toList ++ []) h9 Q))) : wq (d + 1) 178 18 [.ref x0, .int x1, .int x2, .int x3, .int x4, .retAddr 0, .retAddr 0] [.int s0] h Q := by
  refine gif c_178_18 (gbr t rfl rfl (fun hc t => ?_) (fun hc t => ?_))
  · refine g1 c_178_46 k_0 ?_
    refine g6 (L' := [.ref x0, .int x1, .int x2, .int x3, .int x4, .int 0, .retAddr 0]) c_178_47 rfl ?_
    refine g3 c_178_49 rfl ?_
    refine gif c_178_51 (gbr t rfl rfl (fun hc t => ?_) (fun hc t => ?_))
    · refine g1 c_178_69 k_m1 ?_
      exact g90 c_178_70 t
    · refine g5 c_178_54 rfl ?_
      obtain ⟨ho, j1, hr, t⟩ := t
      refine g45 c_178_55 ho hr ?_
      obtain ⟨ho, t⟩ := t
      refine g43 c_178_58 ho ?_
      refine g3 c_178_61 rfl ?_
      refine g10 c_178_62 ?_
      refine g1 c_178_63 k_400 ?_
      refine gcm c_178_66 (gbr t rfl rfl (fun hc t => ?_) (fun hc t => ?_))
      · refine g5 c_178_71 rfl ?_
        obtain ⟨ho, j2, hr, t⟩ := t
        refine g45 c_178_72 ho hr ?_
        refine g5 c_178_75 rfl ?_
        obtain ⟨ho, j3, hr, t⟩ := t
        refine g45 c_178_76 ho hr ?_
        exact g80 (As := [.ref j3]) (rest := []) c_178_79 rfl rfl (Nat.le_of_ble_eq_true rfl) (Nat.le_of_ble_eq_true rfl) t.1 t.2
      · refine g1 c_178_69 k_m1 ?_
        exact g90 c_178_70 t
  · refine g3 c_178_21 rfl ?_
    refine g1 c_178_22 k_1 ?_
    refine g1 c_178_23 k_30 ?_
    exact g81 (As := [.int x3, .int 1, .int 30]) (rest := []) c_178_25 rfl rfl (Nat.le_of_ble_eq_true rfl) (Nat.le_of_ble_eq_true rfl) t
set_option maxRecDepth 20000 in
theorem t_178_28 {d : Nat} {h : ab_H} {Q : Option Value → ab_H → Prop} {x0 : Nat} {x1 : Int32} {x2 : Int32} {x3 : Int32} {x4 : Int32} {s0 : Int32} (t : if s0 = 0 then (if (0 : Int32) = 0 then (Q (some (.int (-1))) h) else (ab_ok h x0 111 = true ∧ ∃ j1 : Nat, ab_r h x0 0 = some j1 ∧ ab_ok h j1 108 = true ∧ if ((ab_i h j1 8) + x3) ≤ 400 then (ab_ok h x0 111 = true ∧ ∃ j2 : Nat, ab_r h x0 2 = some j2 ∧ ab_ok h x0 111 = true ∧ ∃ j3 : Nat, ab_r h x0 0 = some j3 ∧ ab_ok h j2 108 = true ∧ wm d 87 [.ref j2, .ref j3] h (fun r9 h9 => wq (d + 1) 178 82 [.ref x0, .int x1, .int x2, .int x3, .int x4, .int 0, .retAddr 0] (r9.toList ++ []) h9 Q)) else (Q (some (.int (-1))) h))) else (wm d 141 [.int x4, .int 0, .int 6] h (fun r9 h9 => wq (d + 1) 178 39 [.ref x0, .int x1, .int x2, .int x3, .int x4, .retAddr 0, .retAddr 0] (r9.toList ++ []) h9 Q))) : wq (d + 1) 178 28 [.ref x0, .int x1, .int x2, .int x3, .int x4, .retAddr 0, .retAddr 0] [.int s0] h Q := by
  refine gif c_178_28 (gbr t rfl rfl (fun hc t => ?_) (fun hc t => ?_))
  · refine g1 c_178_46 k_0 ?_
    refine g6 (L' := [.ref x0, .int x1, .int x2, .int x3, .int x4, .int 0, .retAddr 0]) c_178_47 rfl ?_
    refine g3 c_178_49 rfl ?_
    refine gif c_178_51 (gbr t rfl rfl (fun hc t => ?_) (fun hc t => ?_))
    · refine g1 c_178_69 k_m1 ?_
      exact g90 c_178_70 t
    · refine g5 c_178_54 rfl ?_
      obtain ⟨ho, j1, hr, t⟩ := t
      refine g45 c_178_55 ho hr ?_
      obtain ⟨ho, t⟩ := t
      refine g43 c_178_58 ho ?_
      refine g3 c_178_61 rfl ?_
      refine g10 c_178_62 ?_
      refine g1 c_178_63 k_400 ?_
      refine gcm c_178_66 (gbr t rfl rfl (fun hc t => ?_) (fun hc t => ?_))
      · refine g5 c_178_71 rfl ?_
        obtain ⟨ho, j2, hr, t⟩ := t
        refine g45 c_178_72 ho hr ?_
        refine g5 c_178_75 rfl ?_
        obtain ⟨ho, j3, hr, t⟩ := t
        refine g45 c_178_76 ho hr ?_
        exact g80 (As := [.ref j3]) (rest := []) c_178_79 rfl rfl (Nat.le_of_ble_eq_true rfl) (Nat.le_of_ble_eq_true rfl) t.1 t.2
      · refine g1 c_178_69 k_m1 ?_
        exact g90 c_178_70 t
  · refine g3 c_178_31 rfl ?_
    refine g1 c_178_33 k_0 ?_
    refine g1 c_178_34 k_6 ?_
    exact g81 (As := [.int x4, .int 0, .int 6]) (rest := []) c_178_36 rfl rfl (Nat.le_of_ble_eq_true rfl) (Nat.le_of_ble_eq_true rfl) t
set_option maxRecDepth 20000 in
theorem t_178_39 {d : Nat} {h : ab_H} {Q : Option Value → ab_H → Prop} {x0 : Nat} {x1 : Int32} {x2 : Int32} {x3 : Int32} {x4 : Int32} {s0 : Int32} (t : if s0 = 0 then (if (0 : Int32) = 0 then (Q (some (.int (-1))) h) else (ab_ok h x0 111 = true ∧ ∃ j1 : Nat, ab_r h x0 0 = some j1 ∧ ab_ok h j1 108 = true ∧ if ((ab_i h j1 8) + x3) ≤ 400 then (ab_ok h x0 111 = true ∧ ∃ j2 : Nat, ab_r h x0 2 = some j2 ∧ ab_ok h x0 111 = true ∧ ∃ j3 : Nat, ab_r h x0 0 = some j3 ∧ ab_ok h j2 108 = true ∧ wm d 87 [.ref j2, .ref j3] h (fun r9 h9 => wq (d + 1) 178 82 [.ref x0, .int x1, .int x2, .int x3, .int x4, .int 0, .retAddr 0] (r9.toList ++ []) h9 Q)) else (Q (some (.int (-1))) h))) else (if (1 : Int32) = 0 then (Q (some (.int (-1))) h) else (ab_ok h x0 111 = true ∧ ∃ j4 : Nat, ab_r h x0 0 = some j4 ∧ ab_ok h j4 108 = true ∧ if ((ab_i h j4 8) + x3) ≤ 400 then (ab_ok h x0 111 = true ∧ ∃ j5 : Nat, ab_r h x0 2 = some j5 ∧ ab_ok h x0 111 = true ∧ ∃ j6 : Nat, ab_r h x0 0 = some j6 ∧ ab_ok h j5 108 = true ∧ wm d 87 [.ref j5, .ref j6] h (fun r9 h9 => wq (d + 1) 178 82 [.ref x0, .int x1, .int x2, .int x3, .int x4, .int 1, .retAddr 0] (r9.toList ++ []) h9 Q)) else (Q (some (.int (-1))) h)))) : wq (d + 1) 178 39 [.ref x0, .int x1, .int x2, .int x3, .int x4, .retAddr 0, .retAddr 0] [.int s0] h Q := by
  refine gif c_178_39 (gbr t rfl rfl (fun hc t => ?_) (fun hc t => ?_))
  · refine g1 c_178_46 k_0 ?_
    refine g6 (L' := [.ref x0, .int x1, .int x2, .int x3, .int x4, .int 0, .retAddr 0]) c_178_47 rfl ?_
    refine g3 c_178_49 rfl ?_
    refine gif c_178_51 (gbr t rfl rfl (fun hc t => ?_) (fun hc t => ?_))
    · refine g1 c_178_69 k_m1 ?_
      exact g90 c_178_70 t
    · refine g5 c_178_54 rfl ?_
      obtain ⟨ho, j1, hr, t⟩ := t
      refine g45 c_178_55 ho hr ?_
      obtain ⟨ho, t⟩ := t
      refine g43 c_178_58 ho ?_
      refine g3 c_178_61 rfl ?_
      refine g10 c_178_62 ?_
      refine g1 c_178_63 k_400 ?_
      refine gcm c_178_66 (gbr t rfl rfl (fun hc t => ?_) (fun hc t => ?_))
      · refine g5 c_178_71 rfl ?_
        obtain ⟨ho, j2, hr, t⟩ := t
        refine g45 c_178_72 ho hr ?_
        refine g5 c_178_75 rfl ?_
        obtain ⟨ho, j3, hr, t⟩ := t
        refine g45 c_178_76 ho hr ?_
        exact g80 (As := [.ref j3]) (rest := []) c_178_79 rfl rfl (Nat.le_of_ble_eq_true rfl) (Nat.le_of_ble_eq_true rfl) t.1 t.2
      · refine g1 c_178_69 k_m1 ?_
        exact g90 c_178_70 t
  · refine g1 c_178_42 k_1 ?_
    refine g38 c_178_43 rfl ?_
    refine g6 (L' := [.ref x0, .int x1, .int x2, .int x3, .int x4, .int 1, .retAddr 0]) c_178_47 rfl ?_
    refine g3 c_178_49 rfl ?_
    refine gif c_178_51 (gbr t rfl rfl (fun hc t => ?_) (fun hc t => ?_))
    · refine g1 c_178_69 k_m1 ?_
      exact g90 c_178_70 t
    · refine g5 c_178_54 rfl ?_
      obtain ⟨ho, j4, hr, t⟩ := t
      refine g45 c_178_55 ho hr ?_
      obtain ⟨ho, t⟩ := t
      refine g43 c_178_58 ho ?_
      refine g3 c_178_61 rfl ?_
      refine g10 c_178_62 ?_
      refine g1 c_178_63 k_400 ?_
      refine gcm c_178_66 (gbr t rfl rfl (fun hc t => ?_) (fun hc t => ?_))
      · refine g5 c_178_71 rfl ?_
        obtain ⟨ho, j5, hr, t⟩ := t
        refine g45 c_178_72 ho hr ?_
        refine g5 c_178_75 rfl ?_
        obtain ⟨ho, j6, hr, t⟩ := t
        refine g45 c_178_76 ho hr ?_
        exact g80 (As := [.ref j6]) (rest := []) c_178_79 rfl rfl (Nat.le_of_ble_eq_true rfl) (Nat.le_of_ble_eq_true rfl) t.1 t.2
      · refine g1 c_178_69 k_m1 ?_
        exact g90 c_178_70 t
set_option maxRecDepth 20000 in
theorem t_178_82 {d : Nat} {h : ab_H} {Q : Option Value → ab_H → Prop} {x0 : Nat} {x1 : Int32} {x2 : Int32} {x3 : Int32} {x4 : Int32} {x5 : Int32} (t : if x1 = (-1) then (ab_ok h x0 111 = true ∧ ∃ j1 : Nat, ab_r h x0 3 = some j1 ∧ ab_ok h j1 109 = true ∧ wm d 108 [.ref j1] h (fun r9 h9 => wq (d + 1) 178 114 [.ref x0, .int x1, .int x2, .int x3, .int x4, .int x5, .retAddr 0] (r9.toList ++ []) h9 Q)) else (ab_ok h x0 111 = true ∧ ∃ j2 : Nat, ab_r h x0 2 = some j2 ∧ ab_ok h x0 111 = true ∧ ∃ j3 : Nat, ab_r h x0 0 = some j3 ∧ ab_ok h j3 108 = true ∧ ab_ok h j2 108 = true ∧ wm d 95 [.ref j2, .int x1, .int x2, .int (ab_i h j3 8), .int 399] h (fun r9 h9 => wq (d + 1) 178 106 [.ref x0, .int x1, .int x2, .int x3, .int x4, .int x5, .retAddr 0] (r9.toList ++ []) h9 Q))) : wq (d + 1) 178 82 [.ref x0, .int x1, .int x2, .int x3, .int x4, .int x5, .retAddr 0] [] h Q := by
  refine g3 c_178_82 rfl ?_
  refine g1 c_178_83 k_m1 ?_
  refine gcm c_178_84 (gbr t rfl rfl (fun hc t => ?_) (fun hc t => ?_))
  · refine g5 c_178_107 rfl ?_
    obtain ⟨ho, j1, hr, t⟩ := t
    refine g45 c_178_108 ho hr ?_
    exact g80 (As := []) (rest := []) c_178_111 rfl rfl (Nat.le_of_ble_eq_true rfl) (Nat.le_of_ble_eq_true rfl) t.1 t.2
  · refine g5 c_178_87 rfl ?_
    obtain ⟨ho, j2, hr, t⟩ := t
    refine g45 c_178_88 ho hr ?_
    refine g3 c_178_91 rfl ?_
    refine g3 c_178_92 rfl ?_
    refine g5 c_178_93 rfl ?_
    obtain ⟨ho, j3, hr, t⟩ := t
    refine g45 c_178_94 ho hr ?_
    obtain ⟨ho, t⟩ := t
    refine g43 c_178_97 ho ?_
    refine g1 c_178_100 k_399 ?_
    exact g80 (As := [.int x1, .int x2, .int (ab_i h j3 8), .int 399]) (rest := []) c_178_103 rfl rfl (Nat.le_of_ble_eq_true rfl) (Nat.le_of_ble_eq_true rfl) t.1 t.2
set_option maxRecDepth 20000 in
theorem t_178_106 {d : Nat} {h : ab_H} {Q : Option Value → ab_H → Prop} {x0 : Nat} {x1 : Int32} {x2 : Int32} {x3 : Int32} {x4 : Int32} {x5 : Int32} {s0 : Int32} (t : ab_ok h x0 111 = true ∧ ∃ j1 : Nat, ab_r h x0 3 = some j1 ∧ ab_ok h j1 109 = true ∧ wm d 108 [.ref j1] h (fun r9 h9 => wq (d + 1) 178 114 [.ref x0, .int x1, .int x2, .int x3, .int x4, .int x5, .retAddr 0] (r9.toList ++ []) h9 Q)) : wq (d + 1) 178 106 [.ref x0, .int x1, .int x2, .int x3, .int x4, .int x5, .retAddr 0] [.int s0] h Q := by
  refine g35i c_178_106 ?_
  refine g5 c_178_107 rfl ?_
  obtain ⟨ho, j1, hr, t⟩ := t
  refine g45 c_178_108 ho hr ?_
  exact g80 (As := []) (rest := []) c_178_111 rfl rfl (Nat.le_of_ble_eq_true rfl) (Nat.le_of_ble_eq_true rfl) t.1 t.2
set_option maxRecDepth 20000 in
theorem t_178_114 {d : Nat} {h : ab_H} {Q : Option Value → ab_H → Prop} {x0 : Nat} {x1 : Int32} {x2 : Int32} {x3 : Int32} {x4 : Int32} {x5 : Int32} (t : wq d 178 117 [.ref x0, .int x1, .int x2, .int x3, .int x4, .int x5, .int 0] [] h Q) : wq d 178 114 [.ref x0, .int x1, .int x2, .int x3, .int x4, .int x5, .retAddr 0] [] h Q := by
  refine g1 c_178_114 k_0 ?_
  refine g6 (L' := [.ref x0, .int x1, .int x2, .int x3, .int x4, .int x5, .int 0]) c_178_115 rfl ?_
  exact t
set_option maxRecDepth 20000 in
theorem t_178_117 {d : Nat} {h : ab_H} {Q : Option Value → ab_H → Prop} {x0 : Nat} {x1 : Int32} {x2 : Int32} {x3 : Int32} {x4 : Int32} {x5 : Int32} {x6 : Int32} (t : if x3 ≤ x6 then (ab_ok h x0 111 = true ∧ wm d 179 [.ref x0, .int x4] h (fun r9 h9 => wq (d + 1) 178 146 [.ref x0, .int x1, .int x2, .int x3, .int x4, .int x5, .int x6] (r9.toList ++ []) h9 Q)) else (ab_ok h x0 111 = true ∧ ∃ j1 : Nat, ab_r h x0 3 = some j1 ∧ ab_ok h x0 111 = true ∧ ∃ j2 : Nat, ab_r h x0 2 = some j2 ∧ ab_ok h j1 109 = true ∧ wm d 109 [.ref j1, .ref j2] h (fun r9 h9 => wq (d + 1) 178 134 [.ref x0, .int x1, .int x2, .int x3, .int x4, .int x5, .int x6] (r9.toList ++ []) h9 Q))) : wq (d + 1) 178 117 [.ref x0, .int x1, .int x2, .int x3, .int x4, .int x5, .int x6] [] h Q := by
  refine g3 c_178_117 rfl ?_
  refine g3 c_178_119 rfl ?_
  refine gcm c_178_120 (gbr t rfl rfl (fun hc t => ?_) (fun hc t => ?_))
  · refine g5 c_178_140 rfl ?_
    refine g3 c_178_141 rfl ?_
    exact g80 (As := [.int x4]) (rest := []) c_178_143 rfl rfl (Nat.le_of_ble_eq_true rfl) (Nat.le_of_ble_eq_true rfl) t.1 t.2
  · refine g5 c_178_123 rfl ?_
    obtain ⟨ho, j1, hr, t⟩ := t
    refine g45 c_178_124 ho hr ?_
    refine g5 c_178_127 rfl ?_
    obtain ⟨ho, j2, hr, t⟩ := t
    refine g45 c_178_128 ho hr ?_
    exact g80 (As := [.ref j2]) (rest := []) c_178_131 rfl rfl (Nat.le_of_ble_eq_true rfl) (Nat.le_of_ble_eq_true rfl) t.1 t.2
set_option maxRecDepth 20000 in
theorem t_178_134 {d : Nat} {h : ab_H} {Q : Option Value → ab_H → Prop} {x0 : Nat} {x1 : Int32} {x2 : Int32} {x3 : Int32} {x4 : Int32} {x5 : Int32} {x6 : Int32} (t : wq d 178 117 [.ref x0, .int x1, .int x2, .int x3, .int x4, .int x5, .int (x6 + 1)] [] h Q) : wq d 178 134 [.ref x0, .int x1, .int x2, .int x3, .int x4, .int x5, .int x6] [] h Q := by
  refine g9 (L' := [.ref x0, .int x1, .int x2, .int x3, .int x4, .int x5, .int (x6 + 1)]) c_178_134 rfl k_1 rfl ?_
  refine g38 c_178_137 rfl ?_
  exact t
set_option maxRecDepth 20000 in
theorem t_178_146 {d : Nat} {h : ab_H} {Q : Option Value → ab_H → Prop} {x0 : Nat} {x1 : Int32} {x2 : Int32} {x3 : Int32} {x4 : Int32} {x5 : Int32} {x6 : Int32} {s0 : Int32} (t : Q (some (.int s0)) h) : wq d 178 146 [.ref x0, .int x1, .int x2, .int x3, .int x4, .int x5, .int x6] [.int s0] h Q := by
  exact g90 c_178_146 t
-- method 179: MillTown.triedFact(I)I
theorem c_179_0 : pg_cd 179 0 = (3, 1, 0, 1, 0) := by decide +kernel
theorem c_179_1 : pg_cd 179 1 = (42, 3, 39, 0, 0) := by decide +kernel
theorem c_179_40 : pg_cd 179 40 = (5, 1, 0, 0, 0) := by decide +kernel
theorem c_179_41 : pg_cd 179 41 = (45, 11, 25, 3, 0) := by decide +kernel
theorem c_179_44 : pg_cd 179 44 = (43, 9, 267, 6, 0) := by decide +kernel
theorem c_179_47 : pg_cd 179 47 = (90, 0, 0, 0, 0) := by decide +kernel
theorem c_179_48 : pg_cd 179 48 = (5, 1, 0, 0, 0) := by decide +kernel
theorem c_179_49 : pg_cd 179 49 = (45, 11, 25, 3, 0) := by decide +kernel
theorem c_179_52 : pg_cd 179 52 = (43, 9, 270, 7, 0) := by decide +kernel
theorem c_179_55 : pg_cd 179 55 = (90, 0, 0, 0, 0) := by decide +kernel
theorem c_179_56 : pg_cd 179 56 = (5, 1, 0, 0, 0) := by decide +kernel
theorem c_179_57 : pg_cd 179 57 = (45, 11, 25, 3, 0) := by decide +kernel
theorem c_179_60 : pg_cd 179 60 = (43, 9, 273, 8, 0) := by decide +kernel
theorem c_179_63 : pg_cd 179 63 = (90, 0, 0, 0, 0) := by decide +kernel
theorem c_179_64 : pg_cd 179 64 = (5, 1, 0, 0, 0) := by decide +kernel
theorem c_179_65 : pg_cd 179 65 = (45, 11, 25, 3, 0) := by decide +kernel
theorem c_179_68 : pg_cd 179 68 = (43, 9, 276, 9, 0) := by decide +kernel
theorem c_179_71 : pg_cd 179 71 = (90, 0, 0, 0, 0) := by decide +kernel
theorem c_179_72 : pg_cd 179 72 = (5, 1, 0, 0, 0) := by decide +kernel
theorem c_179_73 : pg_cd 179 73 = (45, 11, 19, 2, 0) := by decide +kernel
theorem c_179_76 : pg_cd 179 76 = (45, 8, 71, 2, 0) := by decide +kernel
theorem c_179_79 : pg_cd 179 79 = (1, 1, 0, 0, 4) := by decide +kernel
theorem c_179_80 : pg_cd 179 80 = (80, 58, 279, 0, 0) := by decide +kernel
theorem c_179_83 : pg_cd 179 83 = (90, 0, 0, 0, 0) := by decide +kernel
theorem c_179_84 : pg_cd 179 84 = (5, 1, 0, 0, 0) := by decide +kernel
theorem c_179_85 : pg_cd 179 85 = (45, 11, 19, 2, 0) := by decide +kernel
theorem c_179_88 : pg_cd 179 88 = (45, 8, 121, 3, 0) := by decide +kernel
theorem c_179_91 : pg_cd 179 91 = (1, 1, 0, 0, 2) := by decide +kernel
theorem c_179_92 : pg_cd 179 92 = (80, 58, 279, 0, 0) := by decide +kernel
theorem c_179_95 : pg_cd 179 95 = (90, 0, 0, 0, 0) := by decide +kernel
theorem c_179_96 : pg_cd 179 96 = (5, 1, 0, 0, 0) := by decide +kernel
theorem c_179_97 : pg_cd 179 97 = (45, 11, 19, 2, 0) := by decide +kernel
theorem c_179_100 : pg_cd 179 100 = (45, 8, 127, 4, 0) := by decide +kernel
theorem c_179_103 : pg_cd 179 103 = (1, 1, 0, 0, 2) := by decide +kernel
theorem c_179_104 : pg_cd 179 104 = (80, 58, 279, 0, 0) := by decide +kernel
theorem c_179_107 : pg_cd 179 107 = (90, 0, 0, 0, 0) := by decide +kernel
theorem mx_179 : pg_mx 179 = 2 := by decide +kernel
theorem m_179 {d : Nat} {h : ab_H} {Q : Option Value → ab_H → Prop} {x0 : Nat} {x1 : Int32} (t : wq d 179 0 [.ref x0, .int x1] [] h Q) : wm d 179 [.ref x0, .int x1] h Q := by
  unfold wm
  rw [mx_179]
  exact t
set_option maxRecDepth 20000 in
theorem t_179_0 {d : Nat} {h : ab_H} {Q : Option Value → ab_H → Prop} {x0 : Nat} {x1 : Int32} (t : if x1 = 0 then (ab_ok h x0 111 = true ∧ ∃ j1 : Nat, ab_r h x0 3 = some j1 ∧ ab_ok h j1 109 = true ∧ Q (some (.int (ab_i h j1 6))) h) else (if x1 = 1 then (ab_ok h x0 111 = true ∧ ∃ j2 : Nat, ab_r h x0 3 = some j2 ∧ ab_ok h j2 109 = true ∧ Q (some (.int (ab_i h j2 7))) h) else (if x1 = 2 then (ab_ok h x0 111 = true ∧ ∃ j3 : Nat, ab_r h x0 3 = some j3 ∧ ab_ok h j3 109 = true ∧ Q (some (.int (ab_i h j3 8))) h) else (if x1 = 3 then (ab_ok h x0 111 = true ∧ ∃ j4 : Nat, ab_r h x0 3 = some j4 ∧ ab_ok h j4 109 = true ∧ Q (some (.int (ab_i h j4 9))) h) else (if x1 = 4 then (ab_ok h x0 111 = true ∧ ∃ j5 : Nat, ab_r h x0 2 = some j5 ∧ ab_ok h j5 108 = true ∧ ∃ j6 : Nat, ab_r h j5 2 = some j6 ∧ ab_ok h j6 104 = true ∧ wm d 58 [.ref j6, .int 4] h (fun r9 h9 => wq (d + 1) 179 83 [.ref x0, .int x1] (r9.toList ++ []) h9 Q)) else (if x1 = 5 then (ab_ok h x0 111 = true ∧ ∃ j7 : Nat, ab_r h x0 2 = some j7 ∧ ab_ok h j7 108 = true ∧ ∃ j8 : Nat, ab_r h j7 3 = some j8 ∧ ab_ok h j8 104 = true ∧ wm d 58 [.ref j8, .int 2] h (fun r9 h9 => wq (d + 1) 179 95 [.ref x0, .int x1] (r9.toList ++ []) h9 Q)) else (ab_ok h x0 111 = true ∧ ∃ j9 : Nat, ab_r h x0 2 = some j9 ∧ ab_ok h j9 108 = true ∧ ∃ j10 : Nat, ab_r h j9 4 = some j10 ∧ ab_ok h j10 104 = true ∧ wm d 58 [.ref j10, .int 2] h (fun r9 h9 => wq (d + 1) 179 107 [.ref x0, .int x1] (r9.toList ++ []) h9 Q)))))))) : wq (d + 1) 179 0 [.ref x0, .int x1] [] h Q := by
  refine g3 c_179_0 rfl ?_
  by_cases e0 : x1 = 0
  · rw [if_pos e0] at t
    refine g42 (o := 39) c_179_1 sw_3 (by rw [e0]; decide) (by rw [e0]; decide) rfl ?_
    refine g5 c_179_40 rfl ?_
    obtain ⟨ho, j1, hr, t⟩ := t
    refine g45 c_179_41 ho hr ?_
    obtain ⟨ho, t⟩ := t
    refine g43 c_179_44 ho ?_
    exact g90 c_179_47 t
  rw [if_neg e0] at t
  by_cases e1 : x1 = 1
  · rw [if_pos e1] at t
    refine g42 (o := 47) c_179_1 sw_3 (by rw [e1]; decide) (by rw [e1]; decide) rfl ?_
    refine g5 c_179_48 rfl ?_
    obtain ⟨ho, j2, hr, t⟩ := t
    refine g45 c_179_49 ho hr ?_
    obtain ⟨ho, t⟩ := t
    refine g43 c_179_52 ho ?_
    exact g90 c_179_55 t
  rw [if_neg e1] at t
  by_cases e2 : x1 = 2
  · rw [if_pos e2] at t
    refine g42 (o := 55) c_179_1 sw_3 (by rw [e2]; decide) (by rw [e2]; decide) rfl ?_
    refine g5 c_179_56 rfl ?_
    obtain ⟨ho, j3, hr, t⟩ := t
    refine g45 c_179_57 ho hr ?_
    obtain ⟨ho, t⟩ := t
    refine g43 c_179_60 ho ?_
    exact g90 c_179_63 t
  rw [if_neg e2] at t
  by_cases e3 : x1 = 3
  · rw [if_pos e3] at t
    refine g42 (o := 63) c_179_1 sw_3 (by rw [e3]; decide) (by rw [e3]; decide) rfl ?_
    refine g5 c_179_64 rfl ?_
    obtain ⟨ho, j4, hr, t⟩ := t
    refine g45 c_179_65 ho hr ?_
    obtain ⟨ho, t⟩ := t
    refine g43 c_179_68 ho ?_
    exact g90 c_179_71 t
  rw [if_neg e3] at t
  by_cases e4 : x1 = 4
  · rw [if_pos e4] at t
    refine g42 (o := 71) c_179_1 sw_3 (by rw [e4]; decide) (by rw [e4]; decide) rfl ?_
    refine g5 c_179_72 rfl ?_
    obtain ⟨ho, j5, hr, t⟩ := t
    refine g45 c_179_73 ho hr ?_
    obtain ⟨ho, j6, hr, t⟩ := t
    refine g45 c_179_76 ho hr ?_
    refine g1 c_179_79 k_4 ?_
    exact g80 (As := [.int 4]) (rest := []) c_179_80 rfl rfl (Nat.le_of_ble_eq_true rfl) (Nat.le_of_ble_eq_true rfl) t.1 t.2
  rw [if_neg e4] at t
  by_cases e5 : x1 = 5
  · rw [if_pos e5] at t
    refine g42 (o := 83) c_179_1 sw_3 (by rw [e5]; decide) (by rw [e5]; decide) rfl ?_
    refine g5 c_179_84 rfl ?_
    obtain ⟨ho, j7, hr, t⟩ := t
    refine g45 c_179_85 ho hr ?_
    obtain ⟨ho, j8, hr, t⟩ := t
    refine g45 c_179_88 ho hr ?_
    refine g1 c_179_91 k_2 ?_
    exact g80 (As := [.int 2]) (rest := []) c_179_92 rfl rfl (Nat.le_of_ble_eq_true rfl) (Nat.le_of_ble_eq_true rfl) t.1 t.2
  rw [if_neg e5] at t
  refine g42d c_179_1 sw_3 (gsw_out (n := 6) (by decide) (by decide) (fun i hi => ?_)) rfl ?_
  · rcases (show i = 0 ∨ i = 1 ∨ i = 2 ∨ i = 3 ∨ i = 4 ∨ i = 5 by omega) with rfl | rfl | rfl | rfl | rfl | rfl
    · exact fun q => e0 (q.trans k_0)
    · exact fun q => e1 (q.trans k_1)
    · exact fun q => e2 (q.trans k_2)
    · exact fun q => e3 (q.trans k_3)
    · exact fun q => e4 (q.trans k_4)
    · exact fun q => e5 (q.trans k_5)
  refine g5 c_179_96 rfl ?_
  obtain ⟨ho, j9, hr, t⟩ := t
  refine g45 c_179_97 ho hr ?_
  obtain ⟨ho, j10, hr, t⟩ := t
  refine g45 c_179_100 ho hr ?_
  refine g1 c_179_103 k_2 ?_
  exact g80 (As := [.int 2]) (rest := []) c_179_104 rfl rfl (Nat.le_of_ble_eq_true rfl) (Nat.le_of_ble_eq_true rfl) t.1 t.2
set_option maxRecDepth 20000 in
theorem t_179_83 {d : Nat} {h : ab_H} {Q : Option Value → ab_H → Prop} {x0 : Nat} {x1 : Int32} {s0 : Int32} (t : Q (some (.int s0)) h) : wq d 179 83 [.ref x0, .int x1] [.int s0] h Q := by
  exact g90 c_179_83 t
set_option maxRecDepth 20000 in
theorem t_179_95 {d : Nat} {h : ab_H} {Q : Option Value → ab_H → Prop} {x0 : Nat} {x1 : Int32} {s0 : Int32} (t : Q (some (.int s0)) h) : wq d 179 95 [.ref x0, .int x1] [.int s0] h Q := by
  exact g90 c_179_95 t
set_option maxRecDepth 20000 in
theorem t_179_107 {d : Nat} {h : ab_H} {Q : Option Value → ab_H → Prop} {x0 : Nat} {x1 : Int32} {s0 : Int32} (t : Q (some (.int s0)) h) : wq d 179 107 [.ref x0, .int x1] [.int s0] h Q := by
  exact g90 c_179_107 t
-- method 180: MillTown.offer(II)Z
theorem c_180_0 : pg_cd 180 0 = (3, 1, 0, 1, 0) := by decide +kernel
theorem c_180_1 : pg_cd 180 1 = (1, 1, 0, 0, 0) := by decide +kernel
theorem c_180_2 : pg_cd 180 2 = (1, 1, 0, 0, 1) := by decide +kernel
theorem c_180_3 : pg_cd 180 3 = (81, 141, 85, 0, 0) := by decide +kernel
theorem c_180_6 : pg_cd 180 6 = (36, 3, 0, 0, 14) := by decide +kernel
theorem c_180_9 : pg_cd 180 9 = (3, 1, 0, 2, 0) := by decide +kernel
theorem c_180_10 : pg_cd 180 10 = (1, 1, 0, 0, 0) := by decide +kernel
theorem c_180_11 : pg_cd 180 11 = (1, 3, 0, 0, 1000) := by decide +kernel
theorem c_180_14 : pg_cd 180 14 = (81, 141, 85, 0, 0) := by decide +kernel
theorem c_180_17 : pg_cd 180 17 = (36, 3, 0, 1, 5) := by decide +kernel
theorem c_180_20 : pg_cd 180 20 = (1, 1, 0, 0, 0) := by decide +kernel
theorem c_180_21 : pg_cd 180 21 = (91, 0, 0, 0, 0) := by decide +kernel
theorem c_180_22 : pg_cd 180 22 = (3, 1, 0, 1, 0) := by decide +kernel
theorem c_180_23 : pg_cd 180 23 = (36, 3, 0, 1, 14) := by decide +kernel
theorem c_180_26 : pg_cd 180 26 = (5, 1, 0, 0, 0) := by decide +kernel
theorem c_180_27 : pg_cd 180 27 = (45, 11, 12, 0, 0) := by decide +kernel
theorem c_180_30 : pg_cd 180 30 = (3, 1, 0, 2, 0) := by decide +kernel
theorem c_180_31 : pg_cd 180 31 = (46, 8, 282, 16, 0) := by decide +kernel
theorem c_180_34 : pg_cd 180 34 = (38, 3, 0, 0, 11) := by decide +kernel
theorem c_180_37 : pg_cd 180 37 = (5, 1, 0, 0, 0) := by decide +kernel
theorem c_180_38 : pg_cd 180 38 = (45, 11, 12, 0, 0) := by decide +kernel
theorem c_180_41 : pg_cd 180 41 = (3, 1, 0, 2, 0) := by decide +kernel
theorem c_180_42 : pg_cd 180 42 = (46, 8, 285, 17, 0) := by decide +kernel
theorem c_180_45 : pg_cd 180 45 = (1, 1, 0, 0, 1) := by decide +kernel
theorem c_180_46 : pg_cd 180 46 = (91, 0, 0, 0, 0) := by decide +kernel
theorem mx_180 : pg_mx 180 = 3 := by decide +kernel
theorem m_180 {d : Nat} {h : ab_H} {Q : Option Value → ab_H → Prop} {x0 : Nat} {x1 : Int32} {x2 : Int32} (t : wq d 180 0 [.ref x0, .int x1, .int x2] [] h Q) : wm d 180 [.ref x0, .int x1, .int x2] h Q := by
  unfold wm
  rw [mx_180]
  exact t
set_option maxRecDepth 20000 in
theorem t_180_0 {d : Nat} {h : ab_H} {Q : Option Value → ab_H → Prop} {x0 : Nat} {x1 : Int32} {x2 : Int32} (t : wm d 141 [.int x1, .int 0, .int 1] h (fun r9 h9 => wq (d + 1) 180 6 [.ref x0, .int x1, .int x2] (r9.toList ++ []) h9 Q)) : wq (d + 1) 180 0 [.ref x0, .int x1, .int x2] [] h Q := by
  refine g3 c_180_0 rfl ?_
  refine g1 c_180_1 k_0 ?_
  refine g1 c_180_2 k_1 ?_
  exact g81 (As := [.int x1, .int 0, .int 1]) (rest := []) c_180_3 rfl rfl (Nat.le_of_ble_eq_true rfl) (Nat.le_of_ble_eq_true rfl) t
set_option maxRecDepth 20000 in
theorem t_180_6 {d : Nat} {h : ab_H} {Q : Option Value → ab_H → Prop} {x0 : Nat} {x1 : Int32} {x2 : Int32} {s0 : Int32} (t : if s0 = 0 then (Q (some (.int 0)) h) else (wm d 141 [.int x2, .int 0, .int 1000] h (fun r9 h9 => wq (d + 1) 180 17 [.ref x0, .int x1, .int x2] (r9.toList ++ []) h9 Q))) : wq (d + 1) 180 6 [.ref x0, .int x1, .int x2] [.int s0] h Q := by
  refine gif c_180_6 (gbr t rfl rfl (fun hc t => ?_) (fun hc t => ?_))
  · refine g1 c_180_20 k_0 ?_
    exact g91 c_180_21 ⟨by decide, t⟩
  · refine g3 c_180_9 rfl ?_
    refine g1 c_180_10 k_0 ?_
    refine g1 c_180_11 k_1000 ?_
    exact g81 (As := [.int x2, .int 0, .int 1000]) (rest := []) c_180_14 rfl rfl (Nat.le_of_ble_eq_true rfl) (Nat.le_of_ble_eq_true rfl) t
set_option maxRecDepth 20000 in
theorem t_180_17 {d : Nat} {h : ab_H} {Q : Option Value → ab_H → Prop} {x0 : Nat} {x1 : Int32} {x2 : Int32} {s0 : Int32} (t : if s0 = 0 then (Q (some (.int 0)) h) else (if x1 = 0 then (ab_ok h x0 111 = true ∧ ∃ j1 : Nat, ab_r h x0 0 = some j1 ∧ ab_ok h j1 108 = true ∧ ∀ h2 : ab_H, h2 = ab_pi h j1 16 x2 → Q (some (.int 1)) h2) else (ab_ok h x0 111 = true ∧ ∃ j3 : Nat, ab_r h x0 0 = some j3 ∧ ab_ok h j3 108 = true ∧ ∀ h4 : ab_H, h4 = ab_pi h j3 17 x2 → Q (some (.int 1)) h4))) : wq d 180 17 [.ref x0, .int x1, .int x2] [.int s0] h Q := by
  refine gif c_180_17 (gbn t (ab_c1 _ _) rfl (fun hc t => ?_) (fun hc t => ?_))
  · refine g1 c_180_20 k_0 ?_
    exact g91 c_180_21 ⟨by decide, t⟩
  · refine g3 c_180_22 rfl ?_
    refine gif c_180_23 (gbn t (ab_c1 _ _) rfl (fun hc t => ?_) (fun hc t => ?_))
    · refine g5 c_180_26 rfl ?_
      obtain ⟨ho, j1, hr, t⟩ := t
      refine g45 c_180_27 ho hr ?_
      refine g3 c_180_30 rfl ?_
      obtain ⟨ho, t⟩ := t
      refine g46 c_180_31 ho (fun h2 eh2 => ?_)
      have t := t h2 eh2
      refine g38 c_180_34 rfl ?_
      refine g1 c_180_45 k_1 ?_
      exact g91 c_180_46 ⟨by decide, t⟩
    · refine g5 c_180_37 rfl ?_
      obtain ⟨ho, j3, hr, t⟩ := t
      refine g45 c_180_38 ho hr ?_
      refine g3 c_180_41 rfl ?_
      obtain ⟨ho, t⟩ := t
      refine g46 c_180_42 ho (fun h4 eh4 => ?_)
      have t := t h4 eh4
      refine g1 c_180_45 k_1 ?_
      exact g91 c_180_46 ⟨by decide, t⟩
-- method 181: MillTown.meet()I
theorem c_181_0 : pg_cd 181 0 = (5, 1, 0, 0, 0) := by decide +kernel
theorem c_181_1 : pg_cd 181 1 = (45, 11, 12, 0, 0) := by decide +kernel
theorem c_181_4 : pg_cd 181 4 = (43, 8, 282, 16, 0) := by decide +kernel
theorem c_181_7 : pg_cd 181 7 = (1, 1, 0, 0, (-1)) := by decide +kernel
theorem c_181_8 : pg_cd 181 8 = (37, 3, 0, 0, 31) := by decide +kernel
theorem c_181_11 : pg_cd 181 11 = (5, 1, 0, 0, 0) := by decide +kernel
theorem c_181_12 : pg_cd 181 12 = (45, 11, 12, 0, 0) := by decide +kernel
theorem c_181_15 : pg_cd 181 15 = (43, 8, 285, 17, 0) := by decide +kernel
theorem c_181_18 : pg_cd 181 18 = (1, 1, 0, 0, (-1)) := by decide +kernel
theorem c_181_19 : pg_cd 181 19 = (37, 3, 0, 0, 20) := by decide +kernel
theorem c_181_22 : pg_cd 181 22 = (5, 1, 0, 0, 0) := by decide +kernel
theorem c_181_23 : pg_cd 181 23 = (45, 11, 12, 0, 0) := by decide +kernel
theorem c_181_26 : pg_cd 181 26 = (43, 8, 282, 16, 0) := by decide +kernel
theorem c_181_29 : pg_cd 181 29 = (5, 1, 0, 0, 0) := by decide +kernel
theorem c_181_30 : pg_cd 181 30 = (45, 11, 12, 0, 0) := by decide +kernel
theorem c_181_33 : pg_cd 181 33 = (43, 8, 285, 17, 0) := by decide +kernel
theorem c_181_36 : pg_cd 181 36 = (37, 3, 0, 5, 5) := by decide +kernel
theorem c_181_39 : pg_cd 181 39 = (1, 1, 0, 0, (-1)) := by decide +kernel
theorem c_181_40 : pg_cd 181 40 = (90, 0, 0, 0, 0) := by decide +kernel
theorem c_181_41 : pg_cd 181 41 = (5, 1, 0, 0, 0) := by decide +kernel
theorem c_181_42 : pg_cd 181 42 = (45, 11, 12, 0, 0) := by decide +kernel
theorem c_181_45 : pg_cd 181 45 = (43, 8, 282, 16, 0) := by decide +kernel
theorem c_181_48 : pg_cd 181 48 = (5, 1, 0, 0, 0) := by decide +kernel
theorem c_181_49 : pg_cd 181 49 = (45, 11, 12, 0, 0) := by decide +kernel
theorem c_181_52 : pg_cd 181 52 = (43, 8, 285, 17, 0) := by decide +kernel
theorem c_181_55 : pg_cd 181 55 = (10, 1, 0, 0, 0) := by decide +kernel
theorem c_181_56 : pg_cd 181 56 = (1, 1, 0, 0, 2) := by decide +kernel
theorem c_181_57 : pg_cd 181 57 = (16, 1, 0, 0, 0) := by decide +kernel
theorem c_181_58 : pg_cd 181 58 = (6, 1, 0, 1, 0) := by decide +kernel
theorem c_181_59 : pg_cd 181 59 = (5, 1, 0, 0, 0) := by decide +kernel
theorem c_181_60 : pg_cd 181 60 = (45, 11, 12, 0, 0) := by decide +kernel
theorem c_181_63 : pg_cd 181 63 = (1, 1, 0, 0, (-1)) := by decide +kernel
theorem c_181_64 : pg_cd 181 64 = (46, 8, 282, 16, 0) := by decide +kernel
theorem c_181_67 : pg_cd 181 67 = (5, 1, 0, 0, 0) := by decide +kernel
theorem c_181_68 : pg_cd 181 68 = (45, 11, 12, 0, 0) := by decide +kernel
theorem c_181_71 : pg_cd 181 71 = (1, 1, 0, 0, (-1)) := by decide +kernel
theorem c_181_72 : pg_cd 181 72 = (46, 8, 285, 17, 0) := by decide +kernel
theorem c_181_75 : pg_cd 181 75 = (3, 1, 0, 1, 0) := by decide +kernel
theorem c_181_76 : pg_cd 181 76 = (90, 0, 0, 0, 0) := by decide +kernel
theorem mx_181 : pg_mx 181 = 2 := by decide +kernel
theorem m_181 {d : Nat} {h : ab_H} {Q : Option Value → ab_H → Prop} {x0 : Nat} (t : wq d 181 0 [.ref x0, .retAddr 0] [] h Q) : wm d 181 [.ref x0] h Q := by
  unfold wm
  rw [mx_181]
  exact t
set_option maxRecDepth 20000 in
theorem t_181_0 {d : Nat} {h : ab_H} {Q : Option Value → ab_H → Prop} {x0 : Nat} (t : ab_ok h x0 111 = true ∧ ∃ j1 : Nat, ab_r h x0 0 = some j1 ∧ ab_ok h j1 108 = true ∧ if (ab_i h j1 16) = (-1) then (Q (some (.int (-1))) h) else (ab_ok h x0 111 = true ∧ ∃ j2 : Nat, ab_r h x0 0 = some j2 ∧ ab_ok h j2 108 = true ∧ if (ab_i h j2 17) = (-1) then (Q (some (.int (-1))) h) else (ab_ok h x0 111 = true ∧ ∃ j3 : Nat, ab_r h x0 0 = some j3 ∧ ab_ok h j3 108 = true ∧ ab_ok h x0 111 = true ∧ ∃ j4 : Nat, ab_r h x0 0 = some j4 ∧ ab_ok h j4 108 = true ∧ if (ab_i h j3 16) ≤ (ab_i h j4 17) then (ab_ok h x0 111 = true ∧ ∃ j5 : Nat, ab_r h x0 0 = some j5 ∧ ab_ok h j5 108 = true ∧ ab_ok h x0 111 = true ∧ ∃ j6 : Nat, ab_r h x0 0 = some j6 ∧ ab_ok h j6 108 = true ∧ ¬ (2 : Int32) = 0 ∧ ab_ok h x0 111 = true ∧ ∃ j7 : Nat, ab_r h x0 0 = some j7 ∧ ab_ok h j7 108 = true ∧ ∀ h8 : ab_H, h8 = ab_pi h j7 16 (-1) → ab_ok h8 x0 111 = true ∧ ∃ j9 : Nat, ab_r h8 x0 0 = some j9 ∧ ab_ok h8 j9 108 = true ∧ ∀ h10 : ab_H, h10 = ab_pi h8 j9 17 (-1) → Q (some (.int (((ab_i h j5 16) + (ab_i h j6 17)) / 2))) h10) else (Q (some (.int (-1))) h)))) : wq d 181 0 [.ref x0, .retAddr 0] [] h Q := by
  refine g5 c_181_0 rfl ?_
  obtain ⟨ho, j1, hr, t⟩ := t
  refine g45 c_181_1 ho hr ?_
  obtain ⟨ho, t⟩ := t
  refine g43 c_181_4 ho ?_
  refine g1 c_181_7 k_m1 ?_
  refine gcm c_181_8 (gbr t rfl rfl (fun hc t => ?_) (fun hc t => ?_))
  · refine g1 c_181_39 k_m1 ?_
    exact g90 c_181_40 t
  · refine g5 c_181_11 rfl ?_
    obtain ⟨ho, j2, hr, t⟩ := t
    refine g45 c_181_12 ho hr ?_
    obtain ⟨ho, t⟩ := t
    refine g43 c_181_15 ho ?_
    refine g1 c_181_18 k_m1 ?_
    refine gcm c_181_19 (gbr t rfl rfl (fun hc t => ?_) (fun hc t => ?_))
    · refine g1 c_181_39 k_m1 ?_
      exact g90 c_181_40 t
    · refine g5 c_181_22 rfl ?_
      obtain ⟨ho, j3, hr, t⟩ := t
      refine g45 c_181_23 ho hr ?_
      obtain ⟨ho, t⟩ := t
      refine g43 c_181_26 ho ?_
      refine g5 c_181_29 rfl ?_
      obtain ⟨ho, j4, hr, t⟩ := t
      refine g45 c_181_30 ho hr ?_
      obtain ⟨ho, t⟩ := t
      refine g43 c_181_33 ho ?_
      refine gcm c_181_36 (gbr t rfl rfl (fun hc t => ?_) (fun hc t => ?_))
      · refine g5 c_181_41 rfl ?_
        obtain ⟨ho, j5, hr, t⟩ := t
        refine g45 c_181_42 ho hr ?_
        obtain ⟨ho, t⟩ := t
        refine g43 c_181_45 ho ?_
        refine g5 c_181_48 rfl ?_
        obtain ⟨ho, j6, hr, t⟩ := t
        refine g45 c_181_49 ho hr ?_
        obtain ⟨ho, t⟩ := t
        refine g43 c_181_52 ho ?_
        refine g10 c_181_55 ?_
        refine g1 c_181_56 k_2 ?_
        obtain ⟨hy, t⟩ := t
        refine g16 c_181_57 hy ?_
        refine g6 (L' := [.ref x0, .int (((ab_i h j5 16) + (ab_i h j6 17)) / 2)]) c_181_58 rfl ?_
        refine g5 c_181_59 rfl ?_
        obtain ⟨ho, j7, hr, t⟩ := t
        refine g45 c_181_60 ho hr ?_
        refine g1 c_181_63 k_m1 ?_
        obtain ⟨ho, t⟩ := t
        refine g46 c_181_64 ho (fun h8 eh8 => ?_)
        have t := t h8 eh8
        refine g5 c_181_67 rfl ?_
        obtain ⟨ho, j9, hr, t⟩ := t
        refine g45 c_181_68 ho hr ?_
        refine g1 c_181_71 k_m1 ?_
        obtain ⟨ho, t⟩ := t
        refine g46 c_181_72 ho (fun h10 eh10 => ?_)
        have t := t h10 eh10
        refine g3 c_181_75 rfl ?_
        exact g90 c_181_76 t
      · refine g1 c_181_39 k_m1 ?_
        exact g90 c_181_40 t
-- method 182: MillTown.wish(II)Z
theorem c_182_0 : pg_cd 182 0 = (3, 1, 0, 1, 0) := by decide +kernel
theorem c_182_1 : pg_cd 182 1 = (1, 1, 0, 0, 0) := by decide +kernel
theorem c_182_2 : pg_cd 182 2 = (1, 1, 0, 0, 5) := by decide +kernel
theorem c_182_3 : pg_cd 182 3 = (81, 141, 85, 0, 0) := by decide +kernel
theorem c_182_6 : pg_cd 182 6 = (36, 3, 0, 0, 19) := by decide +kernel
theorem c_182_9 : pg_cd 182 9 = (3, 1, 0, 2, 0) := by decide +kernel
theorem c_182_10 : pg_cd 182 10 = (1, 1, 0, 0, (-1)) := by decide +kernel
theorem c_182_11 : pg_cd 182 11 = (37, 3, 0, 0, 16) := by decide +kernel
theorem c_182_14 : pg_cd 182 14 = (3, 1, 0, 2, 0) := by decide +kernel
theorem c_182_15 : pg_cd 182 15 = (1, 1, 0, 0, 0) := by decide +kernel
theorem c_182_16 : pg_cd 182 16 = (1, 3, 0, 0, 10000) := by decide +kernel
theorem c_182_19 : pg_cd 182 19 = (81, 141, 85, 0, 0) := by decide +kernel
theorem c_182_22 : pg_cd 182 22 = (36, 3, 0, 1, 5) := by decide +kernel
theorem c_182_25 : pg_cd 182 25 = (1, 1, 0, 0, 0) := by decide +kernel
theorem c_182_26 : pg_cd 182 26 = (91, 0, 0, 0, 0) := by decide +kernel
theorem c_182_27 : pg_cd 182 27 = (5, 1, 0, 0, 0) := by decide +kernel
theorem c_182_28 : pg_cd 182 28 = (45, 11, 12, 0, 0) := by decide +kernel
theorem c_182_31 : pg_cd 182 31 = (45, 8, 288, 0, 0) := by decide +kernel
theorem c_182_34 : pg_cd 182 34 = (3, 1, 0, 1, 0) := by decide +kernel
theorem c_182_35 : pg_cd 182 35 = (1, 1, 0, 0, 5) := by decide +kernel
theorem c_182_36 : pg_cd 182 36 = (3, 1, 0, 2, 0) := by decide +kernel
theorem c_182_37 : pg_cd 182 37 = (80, 56, 104, 0, 0) := by decide +kernel
theorem c_182_40 : pg_cd 182 40 = (1, 1, 0, 0, 1) := by decide +kernel
theorem c_182_41 : pg_cd 182 41 = (91, 0, 0, 0, 0) := by decide +kernel
theorem mx_182 : pg_mx 182 = 3 := by decide +kernel
theorem m_182 {d : Nat} {h : ab_H} {Q : Option Value → ab_H → Prop} {x0 : Nat} {x1 : Int32} {x2 : Int32} (t : wq d 182 0 [.ref x0, .int x1, .int x2] [] h Q) : wm d 182 [.ref x0, .int x1, .int x2] h Q := by
  unfold wm
  rw [mx_182]
  exact t
set_option maxRecDepth 20000 in
theorem t_182_0 {d : Nat} {h : ab_H} {Q : Option Value → ab_H → Prop} {x0 : Nat} {x1 : Int32} {x2 : Int32} (t : wm d 141 [.int x1, .int 0, .int 5] h (fun r9 h9 => wq (d + 1) 182 6 [.ref x0, .int x1, .int x2] (r9.toList ++ []) h9 Q)) : wq (d + 1) 182 0 [.ref x0, .int x1, .int x2] [] h Q := by
  refine g3 c_182_0 rfl ?_
  refine g1 c_182_1 k_0 ?_
  refine g1 c_182_2 k_5 ?_
  exact g81 (As := [.int x1, .int 0, .int 5]) (rest := []) c_182_3 rfl rfl (Nat.le_of_ble_eq_true rfl) (Nat.le_of_ble_eq_true rfl) t
set_option maxRecDepth 20000 in
theorem t_182_6 {d : Nat} {h : ab_H} {Q : Option Value → ab_H → Prop} {x0 : Nat} {x1 : Int32} {x2 : Int32} {s0 : Int32} (t : if s0 = 0 then (Q (some (.int 0)) h) else (if x2 = (-1) then (ab_ok h x0 111 = true ∧ ∃ j1 : Nat, ab_r h x0 0 = some j1 ∧ ab_ok h j1 108 = true ∧ ∃ j2 : Nat, ab_r h j1 0 = some j2 ∧ ab_ok h j2 104 = true ∧ wm d 56 [.ref j2, .int x1, .int 5, .int x2] h (fun r9 h9 => wq (d + 1) 182 40 [.ref x0, .int x1, .int x2] (r9.toList ++ []) h9 Q)) else (wm d 141 [.int x2, .int 0, .int 10000] h (fun r9 h9 => wq (d + 1) 182 22 [.ref x0, .int x1, .int x2] (r9.toList ++ []) h9 Q)))) : wq (d + 1) 182 6 [.ref x0, .int x1, .int x2] [.int s0] h Q := by
  refine gif c_182_6 (gbr t rfl rfl (fun hc t => ?_) (fun hc t => ?_))
  · refine g1 c_182_25 k_0 ?_
    exact g91 c_182_26 ⟨by decide, t⟩
  · refine g3 c_182_9 rfl ?_
    refine g1 c_182_10 k_m1 ?_
    refine gcm c_182_11 (gbr t rfl rfl (fun hc t => ?_) (fun hc t => ?_))
    · refine g5 c_182_27 rfl ?_
      obtain ⟨ho, j1, hr, t⟩ := t
      refine g45 c_182_28 ho hr ?_
      obtain ⟨ho, j2, hr, t⟩ := t
      refine g45 c_182_31 ho hr ?_
      refine g3 c_182_34 rfl ?_
      refine g1 c_182_35 k_5 ?_
      refine g3 c_182_36 rfl ?_
      exact g80 (As := [.int x1, .int 5, .int x2]) (rest := []) c_182_37 rfl rfl (Nat.le_of_ble_eq_true rfl) (Nat.le_of_ble_eq_true rfl) t.1 t.2
    · refine g3 c_182_14 rfl ?_
      refine g1 c_182_15 k_0 ?_
      refine g1 c_182_16 k_10000 ?_
      exact g81 (As := [.int x2, .int 0, .int 10000]) (rest := []) c_182_19 rfl rfl (Nat.le_of_ble_eq_true rfl) (Nat.le_of_ble_eq_true rfl) t
set_option maxRecDepth 20000 in
theorem t_182_22 {d : Nat} {h : ab_H} {Q : Option Value → ab_H → Prop} {x0 : Nat} {x1 : Int32} {x2 : Int32} {s0 : Int32} (t : if s0 = 0 then (Q (some (.int 0)) h) else (ab_ok h x0 111 = true ∧ ∃ j1 : Nat, ab_r h x0 0 = some j1 ∧ ab_ok h j1 108 = true ∧ ∃ j2 : Nat, ab_r h j1 0 = some j2 ∧ ab_ok h j2 104 = true ∧ wm d 56 [.ref j2, .int x1, .int 5, .int x2] h (fun r9 h9 => wq (d + 1) 182 40 [.ref x0, .int x1, .int x2] (r9.toList ++ []) h9 Q))) : wq (d + 1) 182 22 [.ref x0, .int x1, .int x2] [.int s0] h Q := by
  refine gif c_182_22 (gbn t (ab_c1 _ _) rfl (fun hc t => ?_) (fun hc t => ?_))
  · refine g1 c_182_25 k_0 ?_
    exact g91 c_182_26 ⟨by decide, t⟩
  · refine g5 c_182_27 rfl ?_
    obtain ⟨ho, j1, hr, t⟩ := t
    refine g45 c_182_28 ho hr ?_
    obtain ⟨ho, j2, hr, t⟩ := t
    refine g45 c_182_31 ho hr ?_
    refine g3 c_182_34 rfl ?_
    refine g1 c_182_35 k_5 ?_
    refine g3 c_182_36 rfl ?_
    exact g80 (As := [.int x1, .int 5, .int x2]) (rest := []) c_182_37 rfl rfl (Nat.le_of_ble_eq_true rfl) (Nat.le_of_ble_eq_true rfl) t.1 t.2
set_option maxRecDepth 20000 in
theorem t_182_40 {d : Nat} {h : ab_H} {Q : Option Value → ab_H → Prop} {x0 : Nat} {x1 : Int32} {x2 : Int32} (t : Q (some (.int 1)) h) : wq d 182 40 [.ref x0, .int x1, .int x2] [] h Q := by
  refine g1 c_182_40 k_1 ?_
  exact g91 c_182_41 ⟨by decide, t⟩
-- method 183: MillTown.made(IIII)I
theorem c_183_0 : pg_cd 183 0 = (3, 1, 0, 1, 0) := by decide +kernel
theorem c_183_1 : pg_cd 183 1 = (1, 1, 0, 0, 0) := by decide +kernel
theorem c_183_2 : pg_cd 183 2 = (1, 2, 0, 0, 40) := by decide +kernel
theorem c_183_4 : pg_cd 183 4 = (81, 141, 85, 0, 0) := by decide +kernel
theorem c_183_7 : pg_cd 183 7 = (36, 3, 0, 0, 37) := by decide +kernel
theorem c_183_10 : pg_cd 183 10 = (3, 1, 0, 2, 0) := by decide +kernel
theorem c_183_11 : pg_cd 183 11 = (1, 1, 0, 0, 0) := by decide +kernel
theorem c_183_12 : pg_cd 183 12 = (1, 2, 0, 0, 40) := by decide +kernel
theorem c_183_14 : pg_cd 183 14 = (81, 141, 85, 0, 0) := by decide +kernel
theorem c_183_17 : pg_cd 183 17 = (36, 3, 0, 0, 27) := by decide +kernel
theorem c_183_20 : pg_cd 183 20 = (3, 1, 0, 3, 0) := by decide +kernel
theorem c_183_21 : pg_cd 183 21 = (1, 1, 0, 0, 0) := by decide +kernel
theorem c_183_22 : pg_cd 183 22 = (1, 2, 0, 0, 40) := by decide +kernel
theorem c_183_24 : pg_cd 183 24 = (81, 141, 85, 0, 0) := by decide +kernel
theorem c_183_27 : pg_cd 183 27 = (36, 3, 0, 0, 17) := by decide +kernel
theorem c_183_30 : pg_cd 183 30 = (3, 2, 0, 4, 0) := by decide +kernel
theorem c_183_32 : pg_cd 183 32 = (1, 1, 0, 0, 0) := by decide +kernel
theorem c_183_33 : pg_cd 183 33 = (1, 1, 0, 0, 3) := by decide +kernel
theorem c_183_34 : pg_cd 183 34 = (81, 141, 85, 0, 0) := by decide +kernel
theorem c_183_37 : pg_cd 183 37 = (36, 3, 0, 0, 7) := by decide +kernel
theorem c_183_40 : pg_cd 183 40 = (1, 1, 0, 0, 1) := by decide +kernel
theorem c_183_41 : pg_cd 183 41 = (38, 3, 0, 0, 4) := by decide +kernel
theorem c_183_44 : pg_cd 183 44 = (1, 1, 0, 0, 0) := by decide +kernel
theorem c_183_45 : pg_cd 183 45 = (6, 2, 0, 5, 0) := by decide +kernel
theorem c_183_47 : pg_cd 183 47 = (3, 2, 0, 5, 0) := by decide +kernel
theorem c_183_49 : pg_cd 183 49 = (36, 3, 0, 0, 23) := by decide +kernel
theorem c_183_52 : pg_cd 183 52 = (5, 1, 0, 0, 0) := by decide +kernel
theorem c_183_53 : pg_cd 183 53 = (45, 11, 56, 8, 0) := by decide +kernel
theorem c_183_56 : pg_cd 183 56 = (5, 1, 0, 0, 0) := by decide +kernel
theorem c_183_57 : pg_cd 183 57 = (45, 11, 12, 0, 0) := by decide +kernel
theorem c_183_60 : pg_cd 183 60 = (45, 8, 288, 0, 0) := by decide +kernel
theorem c_183_63 : pg_cd 183 63 = (3, 1, 0, 1, 0) := by decide +kernel
theorem c_183_64 : pg_cd 183 64 = (3, 1, 0, 2, 0) := by decide +kernel
theorem c_183_65 : pg_cd 183 65 = (3, 1, 0, 3, 0) := by decide +kernel
theorem c_183_66 : pg_cd 183 66 = (80, 27, 291, 0, 0) := by decide +kernel
theorem c_183_69 : pg_cd 183 69 = (36, 3, 0, 1, 5) := by decide +kernel
theorem c_183_72 : pg_cd 183 72 = (1, 1, 0, 0, (-1)) := by decide +kernel
theorem c_183_73 : pg_cd 183 73 = (90, 0, 0, 0, 0) := by decide +kernel
theorem c_183_74 : pg_cd 183 74 = (5, 1, 0, 0, 0) := by decide +kernel
theorem c_183_75 : pg_cd 183 75 = (45, 11, 56, 8, 0) := by decide +kernel
theorem c_183_78 : pg_cd 183 78 = (3, 2, 0, 4, 0) := by decide +kernel
theorem c_183_80 : pg_cd 183 80 = (80, 26, 295, 0, 0) := by decide +kernel
theorem c_183_83 : pg_cd 183 83 = (90, 0, 0, 0, 0) := by decide +kernel
theorem mx_183 : pg_mx 183 = 6 := by decide +kernel
theorem m_183 {d : Nat} {h : ab_H} {Q : Option Value → ab_H → Prop} {x0 : Nat} {x1 : Int32} {x2 : Int32} {x3 : Int32} {x4 : Int32} (t : wq d 183 0 [.ref x0, .int x1, .int x2, .int x3, .int x4, .retAddr 0] [] h Q) : wm d 183 [.ref x0, .int x1, .int x2, .int x3, .int x4] h Q := by
  unfold wm
  rw [mx_183]
  exact t
set_option maxRecDepth 20000 in
theorem t_183_0 {d : Nat} {h : ab_H} {Q : Option Value → ab_H → Prop} {x0 : Nat} {x1 : Int32} {x2 : Int32} {x3 : Int32} {x4 : Int32} (t : wm d 141 [.int x1, .int 0, .int 40] h (fun r9 h9 => wq (d + 1) 183 7 [.ref x0, .int x1, .int x2, .int x3, .int x4, .retAddr 0] (r9.toList ++ []) h9 Q)) : wq (d + 1) 183 0 [.ref x0, .int x1, .int x2, .int x3, .int x4, .retAddr 0] [] h Q := by
  refine g3 c_183_0 rfl ?_
  refine g1 c_183_1 k_0 ?_
  refine g1 c_183_2 k_40 ?_
  exact g81 (As := [.int x1, .int 0, .int 40]) (rest := []) c_183_4 rfl rfl (Nat.le_of_ble_eq_true rfl) (Nat.le_of_ble_eq_true rfl) t
set_option maxRecDepth 20000 in
theorem t_183_7 {d : Nat} {h : ab_H} {Q : Option Value → ab_H → Prop} {x0 : Nat} {x1 : Int32} {x2 : Int32} {x3 : Int32} {x4 : Int32} {s0 : Int32} (t : if s0 = 0 then (if (0 : Int32) = 0 then (Q (some (.int (-1))) h) else (ab_ok h x0 111 = true ∧ ∃ j1 : Nat, ab_r h x0 8 = some j1 ∧ ab_ok h x0 111 = true ∧ ∃ j2 : Nat, ab_r h x0 0 = some j2 ∧ ab_ok h j2 108 = true ∧ ∃ j3 : Nat, ab_r h j2 0 = some j3 ∧ ab_ok h j1 102 = true ∧ wm d 27 [.ref j1, .ref j3, .int x1, .int x2, .int x3] h (fun r9 h9 => wq (d + 1) 183 69 [.ref x0, .int x1, .int x2, .int x3, .int x4, .int 0] (r9.toList ++ []) h9 Q))) else (wm d 141 [.int x2, .int 0, .int 40] h (fun r9 h9 => wq (d + 1) 183 17 [.ref x0, .int x1, .int x2, .int x3, .int x4, .retAddr 0] (r9.toList ++ []) h9 Q))) : wq (d + 1) 183 7 [.ref x0, .int x1, .int x2, .int x3, .int x4, .retAddr 0] [.int s0] h Q := by
  refine gif c_183_7 (gbr t rfl rfl (fun hc t => ?_) (fun hc t => ?_))
  · refine g1 c_183_44 k_0 ?_
    refine g6 (L' := [.ref x0, .int x1, .int x2, .int x3, .int x4, .int 0]) c_183_45 rfl ?_
    refine g3 c_183_47 rfl ?_
    refine gif c_183_49 (gbr t rfl rfl (fun hc t => ?_) (fun hc t => ?_))
    · refine g1 c_183_72 k_m1 ?_
      exact g90 c_183_73 t
    · refine g5 c_183_52 rfl ?_
      obtain ⟨ho, j1, hr, t⟩ := t
      refine g45 c_183_53 ho hr ?_
      refine g5 c_183_56 rfl ?_
      obtain ⟨ho, j2, hr, t⟩ := t
      refine g45 c_183_57 ho hr ?_
      obtain ⟨ho, j3, hr, t⟩ := t
      refine g45 c_183_60 ho hr ?_
      refine g3 c_183_63 rfl ?_
      refine g3 c_183_64 rfl ?_
      refine g3 c_183_65 rfl ?_
      exact g80 (As := [.ref j3, .int x1, .int x2, .int x3]) (rest := []) c_183_66 rfl rfl (Nat.le_of_ble_eq_true rfl) (Nat.le_of_ble_eq_true rfl) t.1 t.2
  · refine g3 c_183_10 rfl ?_
    refine g1 c_183_11 k_0 ?_
    refine g1 c_183_12 k_40 ?_
    exact g81 (As := [.int x2, .int 0, .int 40]) (rest := []) c_183_14 rfl rfl (Nat.le_of_ble_eq_true rfl) (Nat.le_of_ble_eq_true rfl) t
set_option maxRecDepth 20000 in
theorem t_183_17 {d : Nat} {h : ab_H} {Q : Option Value → ab_H → Prop} {x0 : Nat} {x1 : Int32} {x2 : Int32} {x3 : Int32} {x4 : Int32} {s0 : Int32} (t : if s0 = 0 then (if (0 : Int32) = 0 then (Q (some (.int (-1))) h) else (ab_ok h x0 111 = true ∧ ∃ j1 : Nat, ab_r h x0 8 = some j1 ∧ ab_ok h x0 111 = true ∧ ∃ j2 : Nat, ab_r h x0 0 = some j2 ∧ ab_ok h j2 108 = true ∧ ∃ j3 : Nat, ab_r h j2 0 = some j3 ∧ ab_ok h j1 102 = true ∧ wm d 27 [.ref j1, .ref j3, .int x1, .int x2, .int x3] h (fun r9 h9 => wq (d + 1) 183 69 [.ref x0, .int x1, .int x2, .int x3, .int x4, .int 0] (r9.toList ++ []) h9 Q))) else (wm d 141 [.int x3, .int 0, .int 40] h (fun r9 h9 => wq (d + 1) 183 27 [.ref x0, .int x1, .int x2, .int x3, .int x4, .retAddr 0] (r9.toList ++ []) h9 Q))) : wq (d + 1) 183 17 [.ref x0, .int x1, .int x2, .int x3, .int x4, .retAddr 0] [.int s0] h Q := by
  refine gif c_183_17 (gbr t rfl rfl (fun hc t => ?_) (fun hc t => ?_))
  · refine g1 c_183_44 k_0 ?_
    refine g6 (L' := [.ref x0, .int x1, .int x2, .int x3, .int x4, .int 0]) c_183_45 rfl ?_
    refine g3 c_183_47 rfl ?_
    refine gif c_183_49 (gbr t rfl rfl (fun hc t => ?_) (fun hc t => ?_))
    · refine g1 c_183_72 k_m1 ?_
      exact g90 c_183_73 t
    · refine g5 c_183_52 rfl ?_
      obtain ⟨ho, j1, hr, t⟩ := t
      refine g45 c_183_53 ho hr ?_
      refine g5 c_183_56 rfl ?_
      obtain ⟨ho, j2, hr, t⟩ := t
      refine g45 c_183_57 ho hr ?_
      obtain ⟨ho, j3, hr, t⟩ := t
      refine g45 c_183_60 ho hr ?_
      refine g3 c_183_63 rfl ?_
      refine g3 c_183_64 rfl ?_
      refine g3 c_183_65 rfl ?_
      exact g80 (As := [.ref j3, .int x1, .int x2, .int x3]) (rest := []) c_183_66 rfl rfl (Nat.le_of_ble_eq_true rfl) (Nat.le_of_ble_eq_true rfl) t.1 t.2
  · refine g3 c_183_20 rfl ?_
    refine g1 c_183_21 k_0 ?_
    refine g1 c_183_22 k_40 ?_
    exact g81 (As := [.int x3, .int 0, .int 40]) (rest := []) c_183_24 rfl rfl (Nat.le_of_ble_eq_true rfl) (Nat.le_of_ble_eq_true rfl) t
set_option maxRecDepth 20000 in
theorem t_183_27 {d : Nat} {h : ab_H} {Q : Option Value → ab_H → Prop} {x0 : Nat} {x1 : Int32} {x2 : Int32} {x3 : Int32} {x4 : Int32} {s0 : Int32} (t : if s0 = 0 then (if (0 : Int32) = 0 then (Q (some (.int (-1))) h) else (ab_ok h x0 111 = true ∧ ∃ j1 : Nat, ab_r h x0 8 = some j1 ∧ ab_ok h x0 111 = true ∧ ∃ j2 : Nat, ab_r h x0 0 = some j2 ∧ ab_ok h j2 108 = true ∧ ∃ j3 : Nat, ab_r h j2 0 = some j3 ∧ ab_ok h j1 102 = true ∧ wm d 27 [.ref j1, .ref j3, .int x1, .int x2, .int x3] h (fun r9 h9 => wq (d + 1) 183 69 [.ref x0, .int x1, .int x2, .int x3, .int x4, .int 0] (r9.toList ++ []) h9 Q))) else (wm d 141 [.int x4, .int 0, .int 3] h (fun r9 h9 => wq (d + 1) 183 37 [.ref x0, .int x1, .int x2, .int x3, .int x4, .retAddr 0] (r9.toList ++ []) h9 Q))) : wq (d + 1) 183 27 [.ref x0, .int x1, .int x2, .int x3, .int x4, .retAddr 0] [.int s0] h Q := by
  refine gif c_183_27 (gbr t rfl rfl (fun hc t => ?_) (fun hc t => ?_))
  · refine g1 c_183_44 k_0 ?_
    refine g6 (L' := [.ref x0, .int x1, .int x2, .int x3, .int x4, .int 0]) c_183_45 rfl ?_
    refine g3 c_183_47 rfl ?_
    refine gif c_183_49 (gbr t rfl rfl (fun hc t => ?_) (fun hc t => ?_))
    · refine g1 c_183_72 k_m1 ?_
      exact g90 c_183_73 t
    · refine g5 c_183_52 rfl ?_
      obtain ⟨ho, j1, hr, t⟩ := t
      refine g45 c_183_53 ho hr ?_
      refine g5 c_183_56 rfl ?_
      obtain ⟨ho, j2, hr, t⟩ := t
      refine g45 c_183_57 ho hr ?_
      obtain ⟨ho, j3, hr, t⟩ := t
      refine g45 c_183_60 ho hr ?_
      refine g3 c_183_63 rfl ?_
      refine g3 c_183_64 rfl ?_
      refine g3 c_183_65 rfl ?_
      exact g80 (As := [.ref j3, .int x1, .int x2, .int x3]) (rest := []) c_183_66 rfl rfl (Nat.le_of_ble_eq_true rfl) (Nat.le_of_ble_eq_true rfl) t.1 t.2
  · refine g3 c_183_30 rfl ?_
    refine g1 c_183_32 k_0 ?_
    refine g1 c_183_33 k_3 ?_
    exact g81 (As := [.int x4, .int 0, .int 3]) (rest := []) c_183_34 rfl rfl (Nat.le_of_ble_eq_true rfl) (Nat.le_of_ble_eq_true rfl) t
set_option maxRecDepth 20000 in
theorem t_183_37 {d : Nat} {h : ab_H} {Q : Option Value → ab_H → Prop} {x0 : Nat} {x1 : Int32} {x2 : Int32} {x3 : Int32} {x4 : Int32} {s0 : Int32} (t : if s0 = 0 then (if (0 : Int32) = 0 then (Q (some (.int (-1))) h) else (ab_ok h x0 111 = true ∧ ∃ j1 : Nat, ab_r h x0 8 = some j1 ∧ ab_ok h x0 111 = true ∧ ∃ j2 : Nat, ab_r h x0 0 = some j2 ∧ ab_ok h j2 108 = true ∧ ∃ j3 : Nat, ab_r h j2 0 = some j3 ∧ ab_ok h j1 102 = true ∧ wm d 27 [.ref j1, .ref j3, .int x1, .int x2, .int x3] h (fun r9 h9 => wq (d + 1) 183 69 [.ref x0, .int x1, .int x2, .int x3, .int x4, .int 0] (r9.toList ++ []) h9 Q))) else (if (1 : Int32) = 0 then (Q (some (.int (-1))) h) else (ab_ok h x0 111 = true ∧ ∃ j4 : Nat, ab_r h x0 8 = some j4 ∧ ab_ok h x0 111 = true ∧ ∃ j5 : Nat, ab_r h x0 0 = some j5 ∧ ab_ok h j5 108 = true ∧ ∃ j6 : Nat, ab_r h j5 0 = some j6 ∧ ab_ok h j4 102 = true ∧ wm d 27 [.ref j4, .ref j6, .int x1, .int x2, .int x3] h (fun r9 h9 => wq (d + 1) 183 69 [.ref x0, .int x1, .int x2, .int x3, .int x4, .int 1] (r9.toList ++ []) h9 Q)))) : wq (d + 1) 183 37 [.ref x0, .int x1, .int x2, .int x3, .int x4, .retAddr 0] [.int s0] h Q := by
  refine gif c_183_37 (gbr t rfl rfl (fun hc t => ?_) (fun hc t => ?_))
  · refine g1 c_183_44 k_0 ?_
    refine g6 (L' := [.ref x0, .int x1, .int x2, .int x3, .int x4, .int 0]) c_183_45 rfl ?_
    refine g3 c_183_47 rfl ?_
    refine gif c_183_49 (gbr t rfl rfl (fun hc t => ?_) (fun hc t => ?_))
    · refine g1 c_183_72 k_m1 ?_
      exact g90 c_183_73 t
    · refine g5 c_183_52 rfl ?_
      obtain ⟨ho, j1, hr, t⟩ := t
      refine g45 c_183_53 ho hr ?_
      refine g5 c_183_56 rfl ?_
      obtain ⟨ho, j2, hr, t⟩ := t
      refine g45 c_183_57 ho hr ?_
      obtain ⟨ho, j3, hr, t⟩ := t
      refine g45 c_183_60 ho hr ?_
      refine g3 c_183_63 rfl ?_
      refine g3 c_183_64 rfl ?_
      refine g3 c_183_65 rfl ?_
      exact g80 (As := [.ref j3, .int x1, .int x2, .int x3]) (rest := []) c_183_66 rfl rfl (Nat.le_of_ble_eq_true rfl) (Nat.le_of_ble_eq_true rfl) t.1 t.2
  · refine g1 c_183_40 k_1 ?_
    refine g38 c_183_41 rfl ?_
    refine g6 (L' := [.ref x0, .int x1, .int x2, .int x3, .int x4, .int 1]) c_183_45 rfl ?_
    refine g3 c_183_47 rfl ?_
    refine gif c_183_49 (gbr t rfl rfl (fun hc t => ?_) (fun hc t => ?_))
    · refine g1 c_183_72 k_m1 ?_
      exact g90 c_183_73 t
    · refine g5 c_183_52 rfl ?_
      obtain ⟨ho, j4, hr, t⟩ := t
      refine g45 c_183_53 ho hr ?_
      refine g5 c_183_56 rfl ?_
      obtain ⟨ho, j5, hr, t⟩ := t
      refine g45 c_183_57 ho hr ?_
      obtain ⟨ho, j6, hr, t⟩ := t
      refine g45 c_183_60 ho hr ?_
      refine g3 c_183_63 rfl ?_
      refine g3 c_183_64 rfl ?_
      refine g3 c_183_65 rfl ?_
      exact g80 (As := [.ref j6, .int x1, .int x2, .int x3]) (rest := []) c_183_66 rfl rfl (Nat.le_of_ble_eq_true rfl) (Nat.le_of_ble_eq_true rfl) t.1 t.2
set_option maxRecDepth 20000 in
theorem t_183_69 {d : Nat} {h : ab_H} {Q : Option Value → ab_H → Prop} {x0 : Nat} {x1 : Int32} {x2 : Int32} {x3 : Int32} {x4 : Int32} {x5 : Int32} {s0 : Int32} (t : if s0 = 0 then (Q (some (.int (-1))) h) else (ab_ok h x0 111 = true ∧ ∃ j1 : Nat, ab_r h x0 8 = some j1 ∧ ab_ok h j1 102 = true ∧ wm d 26 [.ref j1, .int x4] h (fun r9 h9 => wq (d + 1) 183 83 [.ref x0, .int x1, .int x2, .int x3, .int x4, .int x5] (r9.toList ++ []) h9 Q))) : wq (d + 1) 183 69 [.ref x0, .int x1, .int x2, .int x3, .int x4, .int x5] [.int s0] h Q := by
  refine gif c_183_69 (gbn t (ab_c1 _ _) rfl (fun hc t => ?_) (fun hc t => ?_))
  · refine g1 c_183_72 k_m1 ?_
    exact g90 c_183_73 t
  · refine g5 c_183_74 rfl ?_
    obtain ⟨ho, j1, hr, t⟩ := t
    refine g45 c_183_75 ho hr ?_
    refine g3 c_183_78 rfl ?_
    exact g80 (As := [.int x4]) (rest := []) c_183_80 rfl rfl (Nat.le_of_ble_eq_true rfl) (Nat.le_of_ble_eq_true rfl) t.1 t.2
set_option maxRecDepth 20000 in
theorem t_183_83 {d : Nat} {h : ab_H} {Q : Option Value → ab_H → Prop} {x0 : Nat} {x1 : Int32} {x2 : Int32} {x3 : Int32} {x4 : Int32} {x5 : Int32} {s0 : Int32} (t : Q (some (.int s0)) h) : wq d 183 83 [.ref x0, .int x1, .int x2, .int x3, .int x4, .int x5] [.int s0] h Q := by
  exact g90 c_183_83 t
-- method 184: MillTown.proof(II)Z
theorem c_184_0 : pg_cd 184 0 = (5, 1, 0, 0, 0) := by decide +kernel
theorem c_184_1 : pg_cd 184 1 = (45, 11, 12, 0, 0) := by decide +kernel
theorem c_184_4 : pg_cd 184 4 = (45, 8, 288, 0, 0) := by decide +kernel
theorem c_184_7 : pg_cd 184 7 = (3, 1, 0, 1, 0) := by decide +kernel
theorem c_184_8 : pg_cd 184 8 = (1, 1, 0, 0, 5) := by decide +kernel
theorem c_184_9 : pg_cd 184 9 = (80, 55, 130, 0, 0) := by decide +kernel
theorem c_184_12 : pg_cd 184 12 = (6, 1, 0, 3, 0) := by decide +kernel
theorem c_184_13 : pg_cd 184 13 = (5, 1, 0, 0, 0) := by decide +kernel
theorem c_184_14 : pg_cd 184 14 = (45, 11, 12, 0, 0) := by decide +kernel
theorem c_184_17 : pg_cd 184 17 = (45, 8, 288, 0, 0) := by decide +kernel
theorem c_184_20 : pg_cd 184 20 = (3, 1, 0, 2, 0) := by decide +kernel
theorem c_184_21 : pg_cd 184 21 = (1, 1, 0, 0, 5) := by decide +kernel
theorem c_184_22 : pg_cd 184 22 = (80, 55, 130, 0, 0) := by decide +kernel
theorem c_184_25 : pg_cd 184 25 = (6, 2, 0, 4, 0) := by decide +kernel
theorem c_184_27 : pg_cd 184 27 = (3, 1, 0, 3, 0) := by decide +kernel
theorem c_184_28 : pg_cd 184 28 = (1, 1, 0, 0, (-1)) := by decide +kernel
theorem c_184_29 : pg_cd 184 29 = (37, 3, 0, 0, 73) := by decide +kernel
theorem c_184_32 : pg_cd 184 32 = (3, 2, 0, 4, 0) := by decide +kernel
theorem c_184_34 : pg_cd 184 34 = (1, 1, 0, 0, (-1)) := by decide +kernel
theorem c_184_35 : pg_cd 184 35 = (37, 3, 0, 0, 67) := by decide +kernel
theorem c_184_38 : pg_cd 184 38 = (3, 1, 0, 3, 0) := by decide +kernel
theorem c_184_39 : pg_cd 184 39 = (3, 2, 0, 4, 0) := by decide +kernel
theorem c_184_41 : pg_cd 184 41 = (37, 3, 0, 3, 61) := by decide +kernel
theorem c_184_44 : pg_cd 184 44 = (5, 1, 0, 0, 0) := by decide +kernel
theorem c_184_45 : pg_cd 184 45 = (45, 11, 12, 0, 0) := by decide +kernel
theorem c_184_48 : pg_cd 184 48 = (45, 8, 288, 0, 0) := by decide +kernel
theorem c_184_51 : pg_cd 184 51 = (3, 1, 0, 1, 0) := by decide +kernel
theorem c_184_52 : pg_cd 184 52 = (1, 1, 0, 0, 0) := by decide +kernel
theorem c_184_53 : pg_cd 184 53 = (80, 55, 130, 0, 0) := by decide +kernel
theorem c_184_56 : pg_cd 184 56 = (5, 1, 0, 0, 0) := by decide +kernel
theorem c_184_57 : pg_cd 184 57 = (45, 11, 12, 0, 0) := by decide +kernel
theorem c_184_60 : pg_cd 184 60 = (45, 8, 288, 0, 0) := by decide +kernel
theorem c_184_63 : pg_cd 184 63 = (3, 1, 0, 2, 0) := by decide +kernel
theorem c_184_64 : pg_cd 184 64 = (1, 1, 0, 0, 0) := by decide +kernel
theorem c_184_65 : pg_cd 184 65 = (80, 55, 130, 0, 0) := by decide +kernel
theorem c_184_68 : pg_cd 184 68 = (37, 3, 0, 2, 34) := by decide +kernel
theorem c_184_71 : pg_cd 184 71 = (5, 1, 0, 0, 0) := by decide +kernel
theorem c_184_72 : pg_cd 184 72 = (45, 11, 12, 0, 0) := by decide +kernel
theorem c_184_75 : pg_cd 184 75 = (45, 8, 288, 0, 0) := by decide +kernel
theorem c_184_78 : pg_cd 184 78 = (3, 1, 0, 1, 0) := by decide +kernel
theorem c_184_79 : pg_cd 184 79 = (1, 1, 0, 0, 1) := by decide +kernel
theorem c_184_80 : pg_cd 184 80 = (80, 55, 130, 0, 0) := by decide +kernel
theorem c_184_83 : pg_cd 184 83 = (5, 1, 0, 0, 0) := by decide +kernel
theorem c_184_84 : pg_cd 184 84 = (45, 11, 12, 0, 0) := by decide +kernel
theorem c_184_87 : pg_cd 184 87 = (45, 8, 288, 0, 0) := by decide +kernel
theorem c_184_90 : pg_cd 184 90 = (3, 1, 0, 2, 0) := by decide +kernel
theorem c_184_91 : pg_cd 184 91 = (1, 1, 0, 0, 1) := by decide +kernel
theorem c_184_92 : pg_cd 184 92 = (80, 55, 130, 0, 0) := by decide +kernel
theorem c_184_95 : pg_cd 184 95 = (37, 3, 0, 2, 7) := by decide +kernel
theorem c_184_98 : pg_cd 184 98 = (1, 1, 0, 0, 1) := by decide +kernel
theorem c_184_99 : pg_cd 184 99 = (38, 3, 0, 0, 4) := by decide +kernel
theorem c_184_102 : pg_cd 184 102 = (1, 1, 0, 0, 0) := by decide +kernel
theorem c_184_103 : pg_cd 184 103 = (91, 0, 0, 0, 0) := by decide +kernel
theorem mx_184 : pg_mx 184 = 5 := by decide +kernel
theorem m_184 {d : Nat} {h : ab_H} {Q : Option Value → ab_H → Prop} {x0 : Nat} {x1 : Int32} {x2 : Int32} (t : wq d 184 0 [.ref x0, .int x1, .int x2, .retAddr 0, .retAddr 0] [] h Q) : wm d 184 [.ref x0, .int x1, .int x2] h Q := by
  unfold wm
  rw [mx_184]
  exact t
set_option maxRecDepth 20000 in
theorem t_184_0 {d : Nat} {h : ab_H} {Q : Option Value → ab_H → Prop} {x0 : Nat} {x1 : Int32} {x2 : Int32} (t : ab_ok h x0 111 = true ∧ ∃ j1 : Nat, ab_r h x0 0 = some j1 ∧ ab_ok h j1 108 = true ∧ ∃ j2 : Nat, ab_r h j1 0 = some j2 ∧ ab_ok h j2 104 = true ∧ wm d 55 [.ref j2, .int x1, .int 5] h (fun r9 h9 => wq (d + 1) 184 12 [.ref x0, .int x1, .int x2, .retAddr 0, .retAddr 0] (r9.toList ++ []) h9 Q)) : wq (d + 1) 184 0 [.ref x0, .int x1, .int x2, .retAddr 0, .retAddr 0] [] h Q := by
  refine g5 c_184_0 rfl ?_
  obtain ⟨ho, j1, hr, t⟩ := t
  refine g45 c_184_1 ho hr ?_
  obtain ⟨ho, j2, hr, t⟩ := t
  refine g45 c_184_4 ho hr ?_
  refine g3 c_184_7 rfl ?_
  refine g1 c_184_8 k_5 ?_
  exact g80 (As := [.int x1, .int 5]) (rest := []) c_184_9 rfl rfl (Nat.le_of_ble_eq_true rfl) (Nat.le_of_ble_eq_true rfl) t.1 t.2
set_option maxRecDepth 20000 in
theorem t_184_12 {d : Nat} {h : ab_H} {Q : Option Value → ab_H → Prop} {x0 : Nat} {x1 : Int32} {x2 : Int32} {s0 : Int32} (t : ab_ok h x0 111 = true ∧ ∃ j1 : Nat, ab_r h x0 0 = some j1 ∧ ab_ok h j1 108 = true ∧ ∃ j2 : Nat, ab_r h j1 0 = some j2 ∧ ab_ok h j2 104 = true ∧ wm d 55 [.ref j2, .int x2, .int 5] h (fun r9 h9 => wq (d + 1) 184 25 [.ref x0, .int x1, .int x2, .int s0, .retAddr 0] (r9.toList ++ []) h9 Q)) : wq (d + 1) 184 12 [.ref x0, .int x1, .int x2, .retAddr 0, .retAddr 0] [.int s0] h Q := by
  refine g6 (L' := [.ref x0, .int x1, .int x2, .int s0, .retAddr 0]) c_184_12 rfl ?_
  refine g5 c_184_13 rfl ?_
  obtain ⟨ho, j1, hr, t⟩ := t
  refine g45 c_184_14 ho hr ?_
  obtain ⟨ho, j2, hr, t⟩ := t
  refine g45 c_184_17 ho hr ?_
  refine g3 c_184_20 rfl ?_
  refine g1 c_184_21 k_5 ?_
  exact g80 (As := [.int x2, .int 5]) (rest := []) c_184_22 rfl rfl (Nat.le_of_ble_eq_true rfl) (Nat.le_of_ble_eq_true rfl) t.1 t.2
set_option maxRecDepth 20000 in
theorem t_184_25 {d : Nat} {h : ab_H} {Q : Option Value → ab_H → Prop} {x0 : Nat} {x1 : Int32} {x2 : Int32} {x3 : Int32} {s0 : Int32} (t : if x3 = (-1) then (Q (some (.int 0)) h) else (if s0 = (-1) then (Q (some (.int 0)) h) else (if s0 ≤ x3 then (Q (some (.int 0)) h) else (ab_ok h x0 111 = true ∧ ∃ j1 : Nat, ab_r h x0 0 = some j1 ∧ ab_ok h j1 108 = true ∧ ∃ j2 : Nat, ab_r h j1 0 = some j2 ∧ ab_ok h j2 104 = true ∧ wm d 55 [.ref j2, .int x1, .int 0] h (fun r9 h9 => wq (d + 1) 184 56 [.ref x0, .int x1, .int x2, .int x3, .int s0] (r9.toList ++ []) h9 Q))))) : wq (d + 1) 184 25 [.ref x0, .int x1, .int x2, .int x3, .retAddr 0] [.int s0] h Q := by
  refine g6 (L' := [.ref x0, .int x1, .int x2, .int x3, .int s0]) c_184_25 rfl ?_
  refine g3 c_184_27 rfl ?_
  refine g1 c_184_28 k_m1 ?_
  refine gcm c_184_29 (gbr t rfl rfl (fun hc t => ?_) (fun hc t => ?_))
  · refine g1 c_184_102 k_0 ?_
    exact g91 c_184_103 ⟨by decide, t⟩
  · refine g3 c_184_32 rfl ?_
    refine g1 c_184_34 k_m1 ?_
    refine gcm c_184_35 (gbr t rfl rfl (fun hc t => ?_) (fun hc t => ?_))
    · refine g1 c_184_102 k_0 ?_
      exact g91 c_184_103 ⟨by decide, t⟩
    · refine g3 c_184_38 rfl ?_
      refine g3 c_184_39 rfl ?_
      refine gcm c_184_41 (gbr t rfl rfl (fun hc t => ?_) (fun hc t => ?_))
      · refine g1 c_184_102 k_0 ?_
        exact g91 c_184_103 ⟨by decide, t⟩
      · refine g5 c_184_44 rfl ?_
        obtain ⟨ho, j1, hr, t⟩ := t
        refine g45 c_184_45 ho hr ?_
        obtain ⟨ho, j2, hr, t⟩ := t
        refine g45 c_184_48 ho hr ?_
        refine g3 c_184_51 rfl ?_
        refine g1 c_184_52 k_0 ?_
        exact g80 (As := [.int x1, .int 0]) (rest := []) c_184_53 rfl rfl (Nat.le_of_ble_eq_true rfl) (Nat.le_of_ble_eq_true rfl) t.1 t.2
set_option maxRecDepth 20000 in
theorem t_184_56 {d : Nat} {h : ab_H} {Q : Option Value → ab_H → Prop} {x0 : Nat} {x1 : Int32} {x2 : Int32} {x3 : Int32} {x4 : Int32} {s0 : Int32} (t : ab_ok h x0 111 = true ∧ ∃ j1 : Nat, ab_r h x0 0 = some j1 ∧ ab_ok h j1 108 = true ∧ ∃ j2 : Nat, ab_r h j1 0 = some j2 ∧ ab_ok h j2 104 = true ∧ wm d 55 [.ref j2, .int x2, .int 0] h (fun r9 h9 => wq (d + 1) 184 68 [.ref x0, .int x1, .int x2, .int x3, .int x4] (r9.toList ++ [.int s0]) h9 Q)) : wq (d + 1) 184 56 [.ref x0, .int x1, .int x2, .int x3, .int x4] [.int s0] h Q := by
  refine g5 c_184_56 rfl ?_
  obtain ⟨ho, j1, hr, t⟩ := t
  refine g45 c_184_57 ho hr ?_
  obtain ⟨ho, j2, hr, t⟩ := t
  refine g45 c_184_60 ho hr ?_
  refine g3 c_184_63 rfl ?_
  refine g1 c_184_64 k_0 ?_
  exact g80 (As := [.int x2, .int 0]) (rest := [.int s0]) c_184_65 rfl rfl (Nat.le_of_ble_eq_true rfl) (Nat.le_of_ble_eq_true rfl) t.1 t.2
set_option maxRecDepth 20000 in
theorem t_184_68 {d : Nat} {h : ab_H} {Q : Option Value → ab_H → Prop} {x0 : Nat} {x1 : Int32} {x2 : Int32} {x3 : Int32} {x4 : Int32} {s0 : Int32} {s1 : Int32} (t : if s0 < s1 then (Q (some (.int 0)) h) else (ab_ok h x0 111 = true ∧ ∃ j1 : Nat, ab_r h x0 0 = some j1 ∧ ab_ok h j1 108 = true ∧ ∃ j2 : Nat, ab_r h j1 0 = some j2 ∧ ab_ok h j2 104 = true ∧ wm d 55 [.ref j2, .int x1, .int 1] h (fun r9 h9 => wq (d + 1) 184 83 [.ref x0, .int x1, .int x2, .int x3, .int x4] (r9.toList ++ []) h9 Q))) : wq (d + 1) 184 68 [.ref x0, .int x1, .int x2, .int x3, .int x4] [.int s1, .int s0] h Q := by
  refine gcm c_184_68 (gbr t rfl rfl (fun hc t => ?_) (fun hc t => ?_))
  · refine g1 c_184_102 k_0 ?_
    exact g91 c_184_103 ⟨by decide, t⟩
  · refine g5 c_184_71 rfl ?_
    obtain ⟨ho, j1, hr, t⟩ := t
    refine g45 c_184_72 ho hr ?_
    obtain ⟨ho, j2, hr, t⟩ := t
    refine g45 c_184_75 ho hr ?_
    refine g3 c_184_78 rfl ?_
    refine g1 c_184_79 k_1 ?_
    exact g80 (As := [.int x1, .int 1]) (rest := []) c_184_80 rfl rfl (Nat.le_of_ble_eq_true rfl) (Nat.le_of_ble_eq_true rfl) t.1 t.2
set_option maxRecDepth 20000 in
theorem t_184_83 {d : Nat} {h : ab_H} {Q : Option Value → ab_H → Prop} {x0 : Nat} {x1 : Int32} {x2 : Int32} {x3 : Int32} {x4 : Int32} {s0 : Int32} (t : ab_ok h x0 111 = true ∧ ∃ j1 : Nat, ab_r h x0 0 = some j1 ∧ ab_ok h j1 108 = true ∧ ∃ j2 : Nat, ab_r h j1 0 = some j2 ∧ ab_ok h j2 104 = true ∧ wm d 55 [.ref j2, .int x2, .int 1] h (fun r9 h9 => wq (d + 1) 184 95 [.ref x0, .int x1, .int x2, .int x3, .int x4] (r9.toList ++ [.int s0]) h9 Q)) : wq (d + 1) 184 83 [.ref x0, .int x1, .int x2, .int x3, .int x4] [.int s0] h Q := by
  refine g5 c_184_83 rfl ?_
  obtain ⟨ho, j1, hr, t⟩ := t
  refine g45 c_184_84 ho hr ?_
  obtain ⟨ho, j2, hr, t⟩ := t
  refine g45 c_184_87 ho hr ?_
  refine g3 c_184_90 rfl ?_
  refine g1 c_184_91 k_1 ?_
  exact g80 (As := [.int x2, .int 1]) (rest := [.int s0]) c_184_92 rfl rfl (Nat.le_of_ble_eq_true rfl) (Nat.le_of_ble_eq_true rfl) t.1 t.2
set_option maxRecDepth 20000 in
theorem t_184_95 {d : Nat} {h : ab_H} {Q : Option Value → ab_H → Prop} {x0 : Nat} {x1 : Int32} {x2 : Int32} {x3 : Int32} {x4 : Int32} {s0 : Int32} {s1 : Int32} (t : if s0 < s1 then (Q (some (.int 0)) h) else (Q (some (.int 1)) h)) : wq d 184 95 [.ref x0, .int x1, .int x2, .int x3, .int x4] [.int s1, .int s0] h Q := by
  refine gcm c_184_95 (gbr t rfl rfl (fun hc t => ?_) (fun hc t => ?_))
  · refine g1 c_184_102 k_0 ?_
    exact g91 c_184_103 ⟨by decide, t⟩
  · refine g1 c_184_98 k_1 ?_
    refine g38 c_184_99 rfl ?_
    exact g91 c_184_103 ⟨by decide, t⟩
-- method 185: MillTown.shared(II)I
theorem c_185_0 : pg_cd 185 0 = (3, 1, 0, 2, 0) := by decide +kernel
theorem c_185_1 : pg_cd 185 1 = (1, 1, 0, 0, (-1)) := by decide +kernel
theorem c_185_2 : pg_cd 185 2 = (37, 3, 0, 0, 23) := by decide +kernel
theorem c_185_5 : pg_cd 185 5 = (3, 1, 0, 2, 0) := by decide +kernel
theorem c_185_6 : pg_cd 185 6 = (1, 2, 0, 0, (-2)) := by decide +kernel
theorem c_185_8 : pg_cd 185 8 = (37, 3, 0, 0, 17) := by decide +kernel
theorem c_185_11 : pg_cd 185 11 = (5, 1, 0, 0, 0) := by decide +kernel
theorem c_185_12 : pg_cd 185 12 = (45, 11, 12, 0, 0) := by decide +kernel
theorem c_185_15 : pg_cd 185 15 = (45, 8, 71, 2, 0) := by decide +kernel
theorem c_185_18 : pg_cd 185 18 = (3, 1, 0, 2, 0) := by decide +kernel
theorem c_185_19 : pg_cd 185 19 = (80, 53, 75, 0, 0) := by decide +kernel
theorem c_185_22 : pg_cd 185 22 = (36, 3, 0, 0, 7) := by decide +kernel
theorem c_185_25 : pg_cd 185 25 = (1, 1, 0, 0, 1) := by decide +kernel
theorem c_185_26 : pg_cd 185 26 = (38, 3, 0, 0, 4) := by decide +kernel
theorem c_185_29 : pg_cd 185 29 = (1, 1, 0, 0, 0) := by decide +kernel
theorem c_185_30 : pg_cd 185 30 = (6, 1, 0, 3, 0) := by decide +kernel
theorem c_185_31 : pg_cd 185 31 = (3, 1, 0, 1, 0) := by decide +kernel
theorem c_185_32 : pg_cd 185 32 = (1, 1, 0, 0, 0) := by decide +kernel
theorem c_185_33 : pg_cd 185 33 = (1, 2, 100, 0, 100000) := by decide +kernel
theorem c_185_35 : pg_cd 185 35 = (81, 141, 85, 0, 0) := by decide +kernel
theorem c_185_38 : pg_cd 185 38 = (36, 3, 0, 0, 20) := by decide +kernel
theorem c_185_41 : pg_cd 185 41 = (3, 1, 0, 3, 0) := by decide +kernel
theorem c_185_42 : pg_cd 185 42 = (36, 3, 0, 0, 16) := by decide +kernel
theorem c_185_45 : pg_cd 185 45 = (5, 1, 0, 0, 0) := by decide +kernel
theorem c_185_46 : pg_cd 185 46 = (45, 11, 12, 0, 0) := by decide +kernel
theorem c_185_49 : pg_cd 185 49 = (43, 8, 193, 8, 0) := by decide +kernel
theorem c_185_52 : pg_cd 185 52 = (81, 142, 97, 0, 0) := by decide +kernel
theorem c_185_55 : pg_cd 185 55 = (36, 3, 0, 1, 5) := by decide +kernel
theorem c_185_58 : pg_cd 185 58 = (1, 1, 0, 0, (-1)) := by decide +kernel
theorem c_185_59 : pg_cd 185 59 = (90, 0, 0, 0, 0) := by decide +kernel
theorem c_185_60 : pg_cd 185 60 = (5, 1, 0, 0, 0) := by decide +kernel
theorem c_185_61 : pg_cd 185 61 = (45, 11, 49, 7, 0) := by decide +kernel
theorem c_185_64 : pg_cd 185 64 = (5, 1, 0, 0, 0) := by decide +kernel
theorem c_185_65 : pg_cd 185 65 = (45, 11, 12, 0, 0) := by decide +kernel
theorem c_185_68 : pg_cd 185 68 = (5, 1, 0, 0, 0) := by decide +kernel
theorem c_185_69 : pg_cd 185 69 = (45, 11, 33, 4, 0) := by decide +kernel
theorem c_185_72 : pg_cd 185 72 = (3, 1, 0, 1, 0) := by decide +kernel
theorem c_185_73 : pg_cd 185 73 = (80, 63, 298, 0, 0) := by decide +kernel
theorem c_185_76 : pg_cd 185 76 = (3, 1, 0, 2, 0) := by decide +kernel
theorem c_185_77 : pg_cd 185 77 = (1, 1, 0, 0, (-1)) := by decide +kernel
theorem c_185_78 : pg_cd 185 78 = (37, 3, 0, 1, 11) := by decide +kernel
theorem c_185_81 : pg_cd 185 81 = (5, 1, 0, 0, 0) := by decide +kernel
theorem c_185_82 : pg_cd 185 82 = (45, 11, 49, 7, 0) := by decide +kernel
theorem c_185_85 : pg_cd 185 85 = (43, 5, 302, 10, 0) := by decide +kernel
theorem c_185_88 : pg_cd 185 88 = (90, 0, 0, 0, 0) := by decide +kernel
theorem c_185_89 : pg_cd 185 89 = (3, 1, 0, 2, 0) := by decide +kernel
theorem c_185_90 : pg_cd 185 90 = (1, 2, 0, 0, (-2)) := by decide +kernel
theorem c_185_92 : pg_cd 185 92 = (37, 3, 0, 1, 13) := by decide +kernel
theorem c_185_95 : pg_cd 185 95 = (5, 1, 0, 0, 0) := by decide +kernel
theorem c_185_96 : pg_cd 185 96 = (45, 11, 49, 7, 0) := by decide +kernel
theorem c_185_99 : pg_cd 185 99 = (43, 5, 305, 11, 0) := by decide +kernel
theorem c_185_102 : pg_cd 185 102 = (38, 3, 0, 0, 11) := by decide +kernel
theorem c_185_105 : pg_cd 185 105 = (5, 1, 0, 0, 0) := by decide +kernel
theorem c_185_106 : pg_cd 185 106 = (45, 11, 49, 7, 0) := by decide +kernel
theorem c_185_109 : pg_cd 185 109 = (3, 1, 0, 2, 0) := by decide +kernel
theorem c_185_110 : pg_cd 185 110 = (80, 62, 308, 0, 0) := by decide +kernel
theorem c_185_113 : pg_cd 185 113 = (90, 0, 0, 0, 0) := by decide +kernel
theorem mx_185 : pg_mx 185 = 4 := by decide +kernel
theorem m_185 {d : Nat} {h : ab_H} {Q : Option Value → ab_H → Prop} {x0 : Nat} {x1 : Int32} {x2 : Int32} (t : wq d 185 0 [.ref x0, .int x1, .int x2, .retAddr 0] [] h Q) : wm d 185 [.ref x0, .int x1, .int x2] h Q := by
  unfold wm
  rw [mx_185]
  exact t
set_option maxRecDepth 20000 in
theorem t_185_0 {d : Nat} {h : ab_H} {Q : Option Value → ab_H → Prop} {x0 : Nat} {x1 : Int32} {x2 : Int32} (t : if x2 = (-1) then (wm d 141 [.int x1, .int 0, .int 100000] h (fun r9 h9 => wq (d + 1) 185 38 [.ref x0, .int x1, .int x2, .int 1] (r9.toList ++ []) h9 Q)) else (if x2 = (-2) then (wm d 141 [.int x1, .int 0, .int 100000] h (fun r9 h9 => wq (d + 1) 185 38 [.ref x0, .int x1, .int x2, .int 1] (r9.toList ++ []) h9 Q)) else (ab_ok h x0 111 = true ∧ ∃ j1 : Nat, ab_r h x0 0 = some j1 ∧ ab_ok h j1 108 = true ∧ ∃ j2 : Nat, ab_r h j1 2 = some j2 ∧ ab_ok h j2 104 = true ∧ wm d 53 [.ref j2, .int x2] h (fun r9 h9 => wq (d + 1) 185 22 [.ref x0, .int x1, .int x2, .retAddr 0] (r9.toList ++ []) h9 Q)))) : wq (d + 1) 185 0 [.ref x0, .int x1, .int x2, .retAddr 0] [] h Q := by
  refine g3 c_185_0 rfl ?_
  refine g1 c_185_1 k_m1 ?_
  refine gcm c_185_2 (gbr t rfl rfl (fun hc t => ?_) (fun hc t => ?_))
  · refine g1 c_185_25 k_1 ?_
    refine g38 c_185_26 rfl ?_
    refine g6 (L' := [.ref x0, .int x1, .int x2, .int 1]) c_185_30 rfl ?_
    refine g3 c_185_31 rfl ?_
    refine g1 c_185_32 k_0 ?_
    refine g1 c_185_33 k_100000 ?_
    exact g81 (As := [.int x1, .int 0, .int 100000]) (rest := []) c_185_35 rfl rfl (Nat.le_of_ble_eq_true rfl) (Nat.le_of_ble_eq_true rfl) t
  · refine g3 c_185_5 rfl ?_
    refine g1 c_185_6 k_m2 ?_
    refine gcm c_185_8 (gbr t rfl rfl (fun hc t => ?_) (fun hc t => ?_))
    · refine g1 c_185_25 k_1 ?_
      refine g38 c_185_26 rfl ?_
      refine g6 (L' := [.ref x0, .int x1, .int x2, .int 1]) c_185_30 rfl ?_
      refine g3 c_185_31 rfl ?_
      refine g1 c_185_32 k_0 ?_
      refine g1 c_185_33 k_100000 ?_
      exact g81 (As := [.int x1, .int 0, .int 100000]) (rest := []) c_185_35 rfl rfl (Nat.le_of_ble_eq_true rfl) (Nat.le_of_ble_eq_true rfl) t
    · refine g5 c_185_11 rfl ?_
      obtain ⟨ho, j1, hr, t⟩ := t
      refine g45 c_185_12 ho hr ?_
      obtain ⟨ho, j2, hr, t⟩ := t
      refine g45 c_185_15 ho hr ?_
      refine g3 c_185_18 rfl ?_
      exact g80 (As := [.int x2]) (rest := []) c_185_19 rfl rfl (Nat.le_of_ble_eq_true rfl) (Nat.le_of_ble_eq_true rfl) t.1 t.2
set_option maxRecDepth 20000 in
theorem t_185_22 {d : Nat} {h : ab_H} {Q : Option Value → ab_H → Prop} {x0 : Nat} {x1 : Int32} {x2 : Int32} {s0 : Int32} (t : if s0 = 0 then (wm d 141 [.int x1, .int 0, .int 100000] h (fun r9 h9 => wq (d + 1) 185 38 [.ref x0, .int x1, .int x2, .int 0] (r9.toList ++ []) h9 Q)) else (wm d 141 [.int x1, .int 0, .int 100000] h (fun r9 h9 => wq (d + 1) 185 38 [.ref x0, .int x1, .int x2, .int 1] (r9.toList ++ []) h9 Q))) : wq (d + 1) 185 22 [.ref x0, .int x1, .int x2, .retAddr 0] [.int s0] h Q := by
  refine gif c_185_22 (gbr t rfl rfl (fun hc t => ?_) (fun hc t => ?_))
  · refine g1 c_185_29 k_0 ?_
    refine g6 (L' := [.ref x0, .int x1, .int x2, .int 0]) c_185_30 rfl ?_
    refine g3 c_185_31 rfl ?_
    refine g1 c_185_32 k_0 ?_
    refine g1 c_185_33 k_100000 ?_
    exact g81 (As := [.int x1, .int 0, .int 100000]) (rest := []) c_185_35 rfl rfl (Nat.le_of_ble_eq_true rfl) (Nat.le_of_ble_eq_true rfl) t
  · refine g1 c_185_25 k_1 ?_
    refine g38 c_185_26 rfl ?_
    refine g6 (L' := [.ref x0, .int x1, .int x2, .int 1]) c_185_30 rfl ?_
    refine g3 c_185_31 rfl ?_
    refine g1 c_185_32 k_0 ?_
    refine g1 c_185_33 k_100000 ?_
    exact g81 (As := [.int x1, .int 0, .int 100000]) (rest := []) c_185_35 rfl rfl (Nat.le_of_ble_eq_true rfl) (Nat.le_of_ble_eq_true rfl) t
set_option maxRecDepth 20000 in
theorem t_185_38 {d : Nat} {h : ab_H} {Q : Option Value → ab_H → Prop} {x0 : Nat} {x1 : Int32} {x2 : Int32} {x3 : Int32} {s0 : Int32} (t : if s0 = 0 then (Q (some (.int (-1))) h) else (if x3 = 0 then (Q (some (.int (-1))) h) else (ab_ok h x0 111 = true ∧ ∃ j1 : Nat, ab_r h x0 0 = some j1 ∧ ab_ok h j1 108 = true ∧ wm d 142 [.int (ab_i h j1 8)] h (fun r9 h9 => wq (d + 1) 185 55 [.ref x0, .int x1, .int x2, .int x3] (r9.toList ++ []) h9 Q)))) : wq (d + 1) 185 38 [.ref x0, .int x1, .int x2, .int x3] [.int s0] h Q := by
  refine gif c_185_38 (gbr t rfl rfl (fun hc t => ?_) (fun hc t => ?_))
  · refine g1 c_185_58 k_m1 ?_
    exact g90 c_185_59 t
  · refine g3 c_185_41 rfl ?_
    refine gif c_185_42 (gbr t rfl rfl (fun hc t => ?_) (fun hc t => ?_))
    · refine g1 c_185_58 k_m1 ?_
      exact g90 c_185_59 t
    · refine g5 c_185_45 rfl ?_
      obtain ⟨ho, j1, hr, t⟩ := t
      refine g45 c_185_46 ho hr ?_
      obtain ⟨ho, t⟩ := t
      refine g43 c_185_49 ho ?_
      exact g81 (As := [.int (ab_i h j1 8)]) (rest := []) c_185_52 rfl rfl (Nat.le_of_ble_eq_true rfl) (Nat.le_of_ble_eq_true rfl) t
set_option maxRecDepth 20000 in
theorem t_185_55 {d : Nat} {h : ab_H} {Q : Option Value → ab_H → Prop} {x0 : Nat} {x1 : Int32} {x2 : Int32} {x3 : Int32} {s0 : Int32} (t : if s0 = 0 then (Q (some (.int (-1))) h) else (ab_ok h x0 111 = true ∧ ∃ j1 : Nat, ab_r h x0 7 = some j1 ∧ ab_ok h x0 111 = true ∧ ∃ j2 : Nat, ab_r h x0 0 = some j2 ∧ ab_ok h x0 111 = true ∧ ∃ j3 : Nat, ab_r h x0 4 = some j3 ∧ ab_ok h j1 105 = true ∧ wm d 63 [.ref j1, .ref j2, .ref j3, .int x1] h (fun r9 h9 => wq (d + 1) 185 76 [.ref x0, .int x1, .int x2, .int x3] (r9.toList ++ []) h9 Q))) : wq (d + 1) 185 55 [.ref x0, .int x1, .int x2, .int x3] [.int s0] h Q := by
  refine gif c_185_55 (gbn t (ab_c1 _ _) rfl (fun hc t => ?_) (fun hc t => ?_))
  · refine g1 c_185_58 k_m1 ?_
    exact g90 c_185_59 t
  · refine g5 c_185_60 rfl ?_
    obtain ⟨ho, j1, hr, t⟩ := t
    refine g45 c_185_61 ho hr ?_
    refine g5 c_185_64 rfl ?_
    obtain ⟨ho, j2, hr, t⟩ := t
    refine g45 c_185_65 ho hr ?_
    refine g5 c_185_68 rfl ?_
    obtain ⟨ho, j3, hr, t⟩ := t
    refine g45 c_185_69 ho hr ?_
    refine g3 c_185_72 rfl ?_
    exact g80 (As := [.ref j2, .ref j3, .int x1]) (rest := []) c_185_73 rfl rfl (Nat.le_of_ble_eq_true rfl) (Nat.le_of_ble_eq_true rfl) t.1 t.2
set_option maxRecDepth 20000 in
theorem t_185_76 {d : Nat} {h : ab_H} {Q : Option Value → ab_H → Prop} {x0 : Nat} {x1 : Int32} {x2 : Int32} {x3 : Int32} (t : if x2 = (-1) then (ab_ok h x0 111 = true ∧ ∃ j1 : Nat, ab_r h x0 7 = some j1 ∧ ab_ok h j1 105 = true ∧ Q (some (.int (ab_i h j1 10))) h) else (if x2 = (-2) then (ab_ok h x0 111 = true ∧ ∃ j2 : Nat, ab_r h x0 7 = some j2 ∧ ab_ok h j2 105 = true ∧ Q (some (.int (ab_i h j2 11))) h) else (ab_ok h x0 111 = true ∧ ∃ j3 : Nat, ab_r h x0 7 = some j3 ∧ ab_ok h j3 105 = true ∧ wm d 62 [.ref j3, .int x2] h (fun r9 h9 => wq (d + 1) 185 113 [.ref x0, .int x1, .int x2, .int x3] (r9.toList ++ []) h9 Q)))) : wq (d + 1) 185 76 [.ref x0, .int x1, .int x2, .int x3] [] h Q := by
  refine g3 c_185_76 rfl ?_
  refine g1 c_185_77 k_m1 ?_
  refine gcm c_185_78 (gbn t (ab_c1 _ _) rfl (fun hc t => ?_) (fun hc t => ?_))
  · refine g5 c_185_81 rfl ?_
    obtain ⟨ho, j1, hr, t⟩ := t
    refine g45 c_185_82 ho hr ?_
    obtain ⟨ho, t⟩ := t
    refine g43 c_185_85 ho ?_
    exact g90 c_185_88 t
  · refine g3 c_185_89 rfl ?_
    refine g1 c_185_90 k_m2 ?_
    refine gcm c_185_92 (gbn t (ab_c1 _ _) rfl (fun hc t => ?_) (fun hc t => ?_))
    · refine g5 c_185_95 rfl ?_
      obtain ⟨ho, j2, hr, t⟩ := t
      refine g45 c_185_96 ho hr ?_
      obtain ⟨ho, t⟩ := t
      refine g43 c_185_99 ho ?_
      refine g38 c_185_102 rfl ?_
      exact g90 c_185_113 t
    · refine g5 c_185_105 rfl ?_
      obtain ⟨ho, j3, hr, t⟩ := t
      refine g45 c_185_106 ho hr ?_
      refine g3 c_185_109 rfl ?_
      exact g80 (As := [.int x2]) (rest := []) c_185_110 rfl rfl (Nat.le_of_ble_eq_true rfl) (Nat.le_of_ble_eq_true rfl) t.1 t.2
set_option maxRecDepth 20000 in
theorem t_185_113 {d : Nat} {h : ab_H} {Q : Option Value → ab_H → Prop} {x0 : Nat} {x1 : Int32} {x2 : Int32} {x3 : Int32} {s0 : Int32} (t : Q (some (.int s0)) h) : wq d 185 113 [.ref x0, .int x1, .int x2, .int x3] [.int s0] h Q := by
  exact g90 c_185_113 t
-- method 186: MillTown.loaf(II)I
theorem c_186_0 : pg_cd 186 0 = (3, 1, 0, 1, 0) := by decide +kernel
theorem c_186_1 : pg_cd 186 1 = (36, 3, 0, 2, 23) := by decide +kernel
theorem c_186_4 : pg_cd 186 4 = (3, 1, 0, 1, 0) := by decide +kernel
theorem c_186_5 : pg_cd 186 5 = (5, 1, 0, 0, 0) := by decide +kernel
theorem c_186_6 : pg_cd 186 6 = (45, 11, 12, 0, 0) := by decide +kernel
theorem c_186_9 : pg_cd 186 9 = (43, 8, 311, 10, 0) := by decide +kernel
theorem c_186_12 : pg_cd 186 12 = (37, 3, 0, 3, 12) := by decide +kernel
theorem c_186_15 : pg_cd 186 15 = (3, 1, 0, 2, 0) := by decide +kernel
theorem c_186_16 : pg_cd 186 16 = (1, 1, 0, 0, 0) := by decide +kernel
theorem c_186_17 : pg_cd 186 17 = (1, 1, 0, 0, 4) := by decide +kernel
theorem c_186_18 : pg_cd 186 18 = (81, 141, 85, 0, 0) := by decide +kernel
theorem c_186_21 : pg_cd 186 21 = (36, 3, 0, 1, 5) := by decide +kernel
theorem c_186_24 : pg_cd 186 24 = (1, 1, 0, 0, (-1)) := by decide +kernel
theorem c_186_25 : pg_cd 186 25 = (90, 0, 0, 0, 0) := by decide +kernel
theorem c_186_26 : pg_cd 186 26 = (5, 1, 0, 0, 0) := by decide +kernel
theorem c_186_27 : pg_cd 186 27 = (45, 11, 38, 5, 0) := by decide +kernel
theorem c_186_30 : pg_cd 186 30 = (5, 1, 0, 0, 0) := by decide +kernel
theorem c_186_31 : pg_cd 186 31 = (45, 11, 12, 0, 0) := by decide +kernel
theorem c_186_34 : pg_cd 186 34 = (3, 1, 0, 1, 0) := by decide +kernel
theorem c_186_35 : pg_cd 186 35 = (3, 1, 0, 2, 0) := by decide +kernel
theorem c_186_36 : pg_cd 186 36 = (80, 5, 314, 0, 0) := by decide +kernel
theorem c_186_39 : pg_cd 186 39 = (90, 0, 0, 0, 0) := by decide +kernel
theorem mx_186 : pg_mx 186 = 3 := by decide +kernel
theorem m_186 {d : Nat} {h : ab_H} {Q : Option Value → ab_H → Prop} {x0 : Nat} {x1 : Int32} {x2 : Int32} (t : wq d 186 0 [.ref x0, .int x1, .int x2] [] h Q) : wm d 186 [.ref x0, .int x1, .int x2] h Q := by
  unfold wm
  rw [mx_186]
  exact t
set_option maxRecDepth 20000 in
theorem t_186_0 {d : Nat} {h : ab_H} {Q : Option Value → ab_H → Prop} {x0 : Nat} {x1 : Int32} {x2 : Int32} (t : if x1 < 0 then (Q (some (.int (-1))) h) else (ab_ok h x0 111 = true ∧ ∃ j1 : Nat, ab_r h x0 0 = some j1 ∧ ab_ok h j1 108 = true ∧ if (ab_i h j1 10) ≤ x1 then (Q (some (.int (-1))) h) else (wm d 141 [.int x2, .int 0, .int 4] h (fun r9 h9 => wq (d + 1) 186 21 [.ref x0, .int x1, .int x2] (r9.toList ++ []) h9 Q)))) : wq (d + 1) 186 0 [.ref x0, .int x1, .int x2] [] h Q := by
  refine g3 c_186_0 rfl ?_
  refine gif c_186_1 (gbr t rfl rfl (fun hc t => ?_) (fun hc t => ?_))
  · refine g1 c_186_24 k_m1 ?_
    exact g90 c_186_25 t
  · refine g3 c_186_4 rfl ?_
    refine g5 c_186_5 rfl ?_
    obtain ⟨ho, j1, hr, t⟩ := t
    refine g45 c_186_6 ho hr ?_
    obtain ⟨ho, t⟩ := t
    refine g43 c_186_9 ho ?_
    refine gcm c_186_12 (gbr t rfl rfl (fun hc t => ?_) (fun hc t => ?_))
    · refine g1 c_186_24 k_m1 ?_
      exact g90 c_186_25 t
    · refine g3 c_186_15 rfl ?_
      refine g1 c_186_16 k_0 ?_
      refine g1 c_186_17 k_4 ?_
      exact g81 (As := [.int x2, .int 0, .int 4]) (rest := []) c_186_18 rfl rfl (Nat.le_of_ble_eq_true rfl) (Nat.le_of_ble_eq_true rfl) t
set_option maxRecDepth 20000 in
theorem t_186_21 {d : Nat} {h : ab_H} {Q : Option Value → ab_H → Prop} {x0 : Nat} {x1 : Int32} {x2 : Int32} {s0 : Int32} (t : if s0 = 0 then (Q (some (.int (-1))) h) else (ab_ok h x0 111 = true ∧ ∃ j1 : Nat, ab_r h x0 5 = some j1 ∧ ab_ok h x0 111 = true ∧ ∃ j2 : Nat, ab_r h x0 0 = some j2 ∧ ab_ok h j1 100 = true ∧ wm d 5 [.ref j1, .ref j2, .int x1, .int x2] h (fun r9 h9 => wq (d + 1) 186 39 [.ref x0, .int x1, .int x2] (r9.toList ++ []) h9 Q))) : wq (d + 1) 186 21 [.ref x0, .int x1, .int x2] [.int s0] h Q := by
  refine gif c_186_21 (gbn t (ab_c1 _ _) rfl (fun hc t => ?_) (fun hc t => ?_))
  · refine g1 c_186_24 k_m1 ?_
    exact g90 c_186_25 t
  · refine g5 c_186_26 rfl ?_
    obtain ⟨ho, j1, hr, t⟩ := t
    refine g45 c_186_27 ho hr ?_
    refine g5 c_186_30 rfl ?_
    obtain ⟨ho, j2, hr, t⟩ := t
    refine g45 c_186_31 ho hr ?_
    refine g3 c_186_34 rfl ?_
    refine g3 c_186_35 rfl ?_
    exact g80 (As := [.ref j2, .int x1, .int x2]) (rest := []) c_186_36 rfl rfl (Nat.le_of_ble_eq_true rfl) (Nat.le_of_ble_eq_true rfl) t.1 t.2
set_option maxRecDepth 20000 in
theorem t_186_39 {d : Nat} {h : ab_H} {Q : Option Value → ab_H → Prop} {x0 : Nat} {x1 : Int32} {x2 : Int32} {s0 : Int32} (t : Q (some (.int s0)) h) : wq d 186 39 [.ref x0, .int x1, .int x2] [.int s0] h Q := by
  exact g90 c_186_39 t
-- method 187: MillTown.sheet(I)Z
theorem c_187_0 : pg_cd 187 0 = (5, 1, 0, 0, 0) := by decide +kernel
theorem c_187_1 : pg_cd 187 1 = (3, 1, 0, 1, 0) := by decide +kernel
theorem c_187_2 : pg_cd 187 2 = (80, 176, 247, 0, 0) := by decide +kernel
theorem c_187_5 : pg_cd 187 5 = (36, 3, 0, 1, 5) := by decide +kernel
theorem c_187_8 : pg_cd 187 8 = (1, 1, 0, 0, 0) := by decide +kernel
theorem c_187_9 : pg_cd 187 9 = (91, 0, 0, 0, 0) := by decide +kernel
theorem c_187_10 : pg_cd 187 10 = (5, 1, 0, 0, 0) := by decide +kernel
theorem c_187_11 : pg_cd 187 11 = (45, 11, 63, 9, 0) := by decide +kernel
theorem c_187_14 : pg_cd 187 14 = (5, 1, 0, 0, 0) := by decide +kernel
theorem c_187_15 : pg_cd 187 15 = (45, 11, 38, 5, 0) := by decide +kernel
theorem c_187_18 : pg_cd 187 18 = (5, 1, 0, 0, 0) := by decide +kernel
theorem c_187_19 : pg_cd 187 19 = (45, 11, 12, 0, 0) := by decide +kernel
theorem c_187_22 : pg_cd 187 22 = (3, 1, 0, 1, 0) := by decide +kernel
theorem c_187_23 : pg_cd 187 23 = (80, 76, 318, 0, 0) := by decide +kernel
theorem c_187_26 : pg_cd 187 26 = (1, 1, 0, 0, 1) := by decide +kernel
theorem c_187_27 : pg_cd 187 27 = (91, 0, 0, 0, 0) := by decide +kernel
theorem mx_187 : pg_mx 187 = 2 := by decide +kernel
theorem m_187 {d : Nat} {h : ab_H} {Q : Option Value → ab_H → Prop} {x0 : Nat} {x1 : Int32} (t : wq d 187 0 [.ref x0, .int x1] [] h Q) : wm d 187 [.ref x0, .int x1] h Q := by
  unfold wm
  rw [mx_187]
  exact t
set_option maxRecDepth 20000 in
theorem t_187_0 {d : Nat} {h : ab_H} {Q : Option Value → ab_H → Prop} {x0 : Nat} {x1 : Int32} (t : ab_ok h x0 111 = true ∧ wm d 176 [.ref x0, .int x1] h (fun r9 h9 => wq (d + 1) 187 5 [.ref x0, .int x1] (r9.toList ++ []) h9 Q)) : wq (d + 1) 187 0 [.ref x0, .int x1] [] h Q := by
  refine g5 c_187_0 rfl ?_
  refine g3 c_187_1 rfl ?_
  exact g80 (As := [.int x1]) (rest := []) c_187_2 rfl rfl (Nat.le_of_ble_eq_true rfl) (Nat.le_of_ble_eq_true rfl) t.1 t.2
set_option maxRecDepth 20000 in
theorem t_187_5 {d : Nat} {h : ab_H} {Q : Option Value → ab_H → Prop} {x0 : Nat} {x1 : Int32} {s0 : Int32} (t : if s0 = 0 then (Q (some (.int 0)) h) else (ab_ok h x0 111 = true ∧ ∃ j1 : Nat, ab_r h x0 9 = some j1 ∧ ab_ok h x0 111 = true ∧ ∃ j2 : Nat, ab_r h x0 5 = some j2 ∧ ab_ok h x0 111 = true ∧ ∃ j3 : Nat, ab_r h x0 0 = some j3 ∧ ab_ok h j1 106 = true ∧ wm d 76 [.ref j1, .ref j2, .ref j3, .int x1] h (fun r9 h9 => wq (d + 1) 187 26 [.ref x0, .int x1] (r9.toList ++ []) h9 Q))) : wq (d + 1) 187 5 [.ref x0, .int x1] [.int s0] h Q := by
  refine gif c_187_5 (gbn t (ab_c1 _ _) rfl (fun hc t => ?_) (fun hc t => ?_))
  · refine g1 c_187_8 k_0 ?_
    exact g91 c_187_9 ⟨by decide, t⟩
  · refine g5 c_187_10 rfl ?_
    obtain ⟨ho, j1, hr, t⟩ := t
    refine g45 c_187_11 ho hr ?_
    refine g5 c_187_14 rfl ?_
    obtain ⟨ho, j2, hr, t⟩ := t
    refine g45 c_187_15 ho hr ?_
    refine g5 c_187_18 rfl ?_
    obtain ⟨ho, j3, hr, t⟩ := t
    refine g45 c_187_19 ho hr ?_
    refine g3 c_187_22 rfl ?_
    exact g80 (As := [.ref j2, .ref j3, .int x1]) (rest := []) c_187_23 rfl rfl (Nat.le_of_ble_eq_true rfl) (Nat.le_of_ble_eq_true rfl) t.1 t.2
set_option maxRecDepth 20000 in
theorem t_187_26 {d : Nat} {h : ab_H} {Q : Option Value → ab_H → Prop} {x0 : Nat} {x1 : Int32} (t : Q (some (.int 1)) h) : wq d 187 26 [.ref x0, .int x1] [] h Q := by
  refine g1 c_187_26 k_1 ?_
  exact g91 c_187_27 ⟨by decide, t⟩
-- method 188: MillTown.onSheet(II)I
theorem c_188_0 : pg_cd 188 0 = (5, 1, 0, 0, 0) := by decide +kernel
theorem c_188_1 : pg_cd 188 1 = (45, 11, 63, 9, 0) := by decide +kernel
theorem c_188_4 : pg_cd 188 4 = (80, 75, 322, 0, 0) := by decide +kernel
theorem c_188_7 : pg_cd 188 7 = (36, 3, 0, 0, 15) := by decide +kernel
theorem c_188_10 : pg_cd 188 10 = (5, 1, 0, 0, 0) := by decide +kernel
theorem c_188_11 : pg_cd 188 11 = (45, 11, 63, 9, 0) := by decide +kernel
theorem c_188_14 : pg_cd 188 14 = (3, 1, 0, 1, 0) := by decide +kernel
theorem c_188_15 : pg_cd 188 15 = (3, 1, 0, 2, 0) := by decide +kernel
theorem c_188_16 : pg_cd 188 16 = (80, 77, 326, 0, 0) := by decide +kernel
theorem c_188_19 : pg_cd 188 19 = (38, 3, 0, 0, 4) := by decide +kernel
theorem c_188_22 : pg_cd 188 22 = (1, 1, 0, 0, (-1)) := by decide +kernel
theorem c_188_23 : pg_cd 188 23 = (90, 0, 0, 0, 0) := by decide +kernel
theorem mx_188 : pg_mx 188 = 3 := by decide +kernel
theorem m_188 {d : Nat} {h : ab_H} {Q : Option Value → ab_H → Prop} {x0 : Nat} {x1 : Int32} {x2 : Int32} (t : wq d 188 0 [.ref x0, .int x1, .int x2] [] h Q) : wm d 188 [.ref x0, .int x1, .int x2] h Q := by
  unfold wm
  rw [mx_188]
  exact t
set_option maxRecDepth 20000 in
theorem t_188_0 {d : Nat} {h : ab_H} {Q : Option Value → ab_H → Prop} {x0 : Nat} {x1 : Int32} {x2 : Int32} (t : ab_ok h x0 111 = true ∧ ∃ j1 : Nat, ab_r h x0 9 = some j1 ∧ ab_ok h j1 106 = true ∧ wm d 75 [.ref j1] h (fun r9 h9 => wq (d + 1) 188 7 [.ref x0, .int x1, .int x2] (r9.toList ++ []) h9 Q)) : wq (d + 1) 188 0 [.ref x0, .int x1, .int x2] [] h Q := by
  refine g5 c_188_0 rfl ?_
  obtain ⟨ho, j1, hr, t⟩ := t
  refine g45 c_188_1 ho hr ?_
  exact g80 (As := []) (rest := []) c_188_4 rfl rfl (Nat.le_of_ble_eq_true rfl) (Nat.le_of_ble_eq_true rfl) t.1 t.2
set_option maxRecDepth 20000 in
theorem t_188_7 {d : Nat} {h : ab_H} {Q : Option Value → ab_H → Prop} {x0 : Nat} {x1 : Int32} {x2 : Int32} {s0 : Int32} (t : if s0 = 0 then (Q (some (.int (-1))) h) else (ab_ok h x0 111 = true ∧ ∃ j1 : Nat, ab_r h x0 9 = some j1 ∧ ab_ok h j1 106 = true ∧ wm d 77 [.ref j1, .int x1, .int x2] h (fun r9 h9 => wq (d + 1) 188 19 [.ref x0, .int x1, .int x2] (r9.toList ++ []) h9 Q))) : wq (d + 1) 188 7 [.ref x0, .int x1, .int x2] [.int s0] h Q := by
  refine gif c_188_7 (gbr t rfl rfl (fun hc t => ?_) (fun hc t => ?_))
  · refine g1 c_188_22 k_m1 ?_
    exact g90 c_188_23 t
  · refine g5 c_188_10 rfl ?_
    obtain ⟨ho, j1, hr, t⟩ := t
    refine g45 c_188_11 ho hr ?_
    refine g3 c_188_14 rfl ?_
    refine g3 c_188_15 rfl ?_
    exact g80 (As := [.int x1, .int x2]) (rest := []) c_188_16 rfl rfl (Nat.le_of_ble_eq_true rfl) (Nat.le_of_ble_eq_true rfl) t.1 t.2
set_option maxRecDepth 20000 in
theorem t_188_19 {d : Nat} {h : ab_H} {Q : Option Value → ab_H → Prop} {x0 : Nat} {x1 : Int32} {x2 : Int32} {s0 : Int32} (t : Q (some (.int s0)) h) : wq d 188 19 [.ref x0, .int x1, .int x2] [.int s0] h Q := by
  refine g38 c_188_19 rfl ?_
  exact g90 c_188_23 t
-- method 189: MillTown.alter(III)Z
theorem c_189_0 : pg_cd 189 0 = (5, 1, 0, 0, 0) := by decide +kernel
theorem c_189_1 : pg_cd 189 1 = (45, 11, 63, 9, 0) := by decide +kernel
theorem c_189_4 : pg_cd 189 4 = (80, 75, 322, 0, 0) := by decide +kernel
theorem c_189_7 : pg_cd 189 7 = (36, 3, 0, 0, 24) := by decide +kernel
theorem c_189_10 : pg_cd 189 10 = (3, 1, 0, 3, 0) := by decide +kernel
theorem c_189_11 : pg_cd 189 11 = (36, 3, 0, 0, 20) := by decide +kernel
theorem c_189_14 : pg_cd 189 14 = (5, 1, 0, 0, 0) := by decide +kernel
theorem c_189_15 : pg_cd 189 15 = (45, 11, 63, 9, 0) := by decide +kernel
theorem c_189_18 : pg_cd 189 18 = (3, 1, 0, 1, 0) := by decide +kernel
theorem c_189_19 : pg_cd 189 19 = (3, 1, 0, 2, 0) := by decide +kernel
theorem c_189_20 : pg_cd 189 20 = (3, 1, 0, 3, 0) := by decide +kernel
theorem c_189_21 : pg_cd 189 21 = (80, 78, 327, 0, 0) := by decide +kernel
theorem c_189_24 : pg_cd 189 24 = (36, 3, 0, 0, 7) := by decide +kernel
theorem c_189_27 : pg_cd 189 27 = (1, 1, 0, 0, 1) := by decide +kernel
theorem c_189_28 : pg_cd 189 28 = (38, 3, 0, 0, 4) := by decide +kernel
theorem c_189_31 : pg_cd 189 31 = (1, 1, 0, 0, 0) := by decide +kernel
theorem c_189_32 : pg_cd 189 32 = (91, 0, 0, 0, 0) := by decide +kernel
theorem mx_189 : pg_mx 189 = 4 := by decide +kernel
theorem m_189 {d : Nat} {h : ab_H} {Q : Option Value → ab_H → Prop} {x0 : Nat} {x1 : Int32} {x2 : Int32} {x3 : Int32} (t : wq d 189 0 [.ref x0, .int x1, .int x2, .int x3] [] h Q) : wm d 189 [.ref x0, .int x1, .int x2, .int x3] h Q := by
  unfold wm
  rw [mx_189]
  exact t
set_option maxRecDepth 20000 in
theorem t_189_0 {d : Nat} {h : ab_H} {Q : Option Value → ab_H → Prop} {x0 : Nat} {x1 : Int32} {x2 : Int32} {x3 : Int32} (t : ab_ok h x0 111 = true ∧ ∃ j1 : Nat, ab_r h x0 9 = some j1 ∧ ab_ok h j1 106 = true ∧ wm d 75 [.ref j1] h (fun r9 h9 => wq (d + 1) 189 7 [.ref x0, .int x1, .int x2, .int x3] (r9.toList ++ []) h9 Q)) : wq (d + 1) 189 0 [.ref x0, .int x1, .int x2, .int x3] [] h Q := by
  refine g5 c_189_0 rfl ?_
  obtain ⟨ho, j1, hr, t⟩ := t
  refine g45 c_189_1 ho hr ?_
  exact g80 (As := []) (rest := []) c_189_4 rfl rfl (Nat.le_of_ble_eq_true rfl) (Nat.le_of_ble_eq_true rfl) t.1 t.2
set_option maxRecDepth 20000 in
theorem t_189_7 {d : Nat} {h : ab_H} {Q : Option Value → ab_H → Prop} {x0 : Nat} {x1 : Int32} {x2 : Int32} {x3 : Int32} {s0 : Int32} (t : if s0 = 0 then (Q (some (.int 0)) h) else (if x3 = 0 then (Q (some (.int 0)) h) else (ab_ok h x0 111 = true ∧ ∃ j1 : Nat, ab_r h x0 9 = some j1 ∧ ab_ok h j1 106 = true ∧ wm d 78 [.ref j1, .int x1, .int x2, .int x3] h (fun r9 h9 => wq (d + 1) 189 24 [.ref x0, .int x1, .int x2, .int x3] (r9.toList ++ []) h9 Q)))) : wq (d + 1) 189 7 [.ref x0, .int x1, .int x2, .int x3] [.int s0] h Q := by
  refine gif c_189_7 (gbr t rfl rfl (fun hc t => ?_) (fun hc t => ?_))
  · refine g1 c_189_31 k_0 ?_
    exact g91 c_189_32 ⟨by decide, t⟩
  · refine g3 c_189_10 rfl ?_
    refine gif c_189_11 (gbr t rfl rfl (fun hc t => ?_) (fun hc t => ?_))
    · refine g1 c_189_31 k_0 ?_
      exact g91 c_189_32 ⟨by decide, t⟩
    · refine g5 c_189_14 rfl ?_
      obtain ⟨ho, j1, hr, t⟩ := t
      refine g45 c_189_15 ho hr ?_
      refine g3 c_189_18 rfl ?_
      refine g3 c_189_19 rfl ?_
      refine g3 c_189_20 rfl ?_
      exact g80 (As := [.int x1, .int x2, .int x3]) (rest := []) c_189_21 rfl rfl (Nat.le_of_ble_eq_true rfl) (Nat.le_of_ble_eq_true rfl) t.1 t.2
set_option maxRecDepth 20000 in
theorem t_189_24 {d : Nat} {h : ab_H} {Q : Option Value → ab_H → Prop} {x0 : Nat} {x1 : Int32} {x2 : Int32} {x3 : Int32} {s0 : Int32} (t : if s0 = 0 then (Q (some (.int 0)) h) else (Q (some (.int 1)) h)) : wq d 189 24 [.ref x0, .int x1, .int x2, .int x3] [.int s0] h Q := by
  refine gif c_189_24 (gbr t rfl rfl (fun hc t => ?_) (fun hc t => ?_))
  · refine g1 c_189_31 k_0 ?_
    exact g91 c_189_32 ⟨by decide, t⟩
  · refine g1 c_189_27 k_1 ?_
    refine g38 c_189_28 rfl ?_
    exact g91 c_189_32 ⟨by decide, t⟩
-- method 190: MillTown.check(I)I
theorem c_190_0 : pg_cd 190 0 = (3, 1, 0, 1, 0) := by decide +kernel
theorem c_190_1 : pg_cd 190 1 = (1, 1, 0, 0, 0) := by decide +kernel
theorem c_190_2 : pg_cd 190 2 = (1, 1, 0, 0, 2) := by decide +kernel
theorem c_190_3 : pg_cd 190 3 = (81, 141, 85, 0, 0) := by decide +kernel
theorem c_190_6 : pg_cd 190 6 = (36, 3, 0, 0, 27) := by decide +kernel
theorem c_190_9 : pg_cd 190 9 = (5, 1, 0, 0, 0) := by decide +kernel
theorem c_190_10 : pg_cd 190 10 = (45, 11, 63, 9, 0) := by decide +kernel
theorem c_190_13 : pg_cd 190 13 = (80, 75, 322, 0, 0) := by decide +kernel
theorem c_190_16 : pg_cd 190 16 = (36, 3, 0, 0, 17) := by decide +kernel
theorem c_190_19 : pg_cd 190 19 = (5, 1, 0, 0, 0) := by decide +kernel
theorem c_190_20 : pg_cd 190 20 = (5, 1, 0, 0, 0) := by decide +kernel
theorem c_190_21 : pg_cd 190 21 = (45, 11, 63, 9, 0) := by decide +kernel
theorem c_190_24 : pg_cd 190 24 = (43, 6, 330, 2, 0) := by decide +kernel
theorem c_190_27 : pg_cd 190 27 = (80, 176, 247, 0, 0) := by decide +kernel
theorem c_190_30 : pg_cd 190 30 = (36, 3, 0, 1, 5) := by decide +kernel
theorem c_190_33 : pg_cd 190 33 = (1, 1, 0, 0, (-1)) := by decide +kernel
theorem c_190_34 : pg_cd 190 34 = (90, 0, 0, 0, 0) := by decide +kernel
theorem c_190_35 : pg_cd 190 35 = (5, 1, 0, 0, 0) := by decide +kernel
theorem c_190_36 : pg_cd 190 36 = (45, 11, 63, 9, 0) := by decide +kernel
theorem c_190_39 : pg_cd 190 39 = (5, 1, 0, 0, 0) := by decide +kernel
theorem c_190_40 : pg_cd 190 40 = (45, 11, 38, 5, 0) := by decide +kernel
theorem c_190_43 : pg_cd 190 43 = (5, 1, 0, 0, 0) := by decide +kernel
theorem c_190_44 : pg_cd 190 44 = (45, 11, 12, 0, 0) := by decide +kernel
theorem c_190_47 : pg_cd 190 47 = (3, 1, 0, 1, 0) := by decide +kernel
theorem c_190_48 : pg_cd 190 48 = (80, 79, 333, 0, 0) := by decide +kernel
theorem c_190_51 : pg_cd 190 51 = (90, 0, 0, 0, 0) := by decide +kernel
theorem mx_190 : pg_mx 190 = 2 := by decide +kernel
theorem m_190 {d : Nat} {h : ab_H} {Q : Option Value → ab_H → Prop} {x0 : Nat} {x1 : Int32} (t : wq d 190 0 [.ref x0, .int x1] [] h Q) : wm d 190 [.ref x0, .int x1] h Q := by
  unfold wm
  rw [mx_190]
  exact t
set_option maxRecDepth 20000 in
theorem t_190_0 {d : Nat} {h : ab_H} {Q : Option Value → ab_H → Prop} {x0 : Nat} {x1 : Int32} (t : wm d 141 [.int x1, .int 0, .int 2] h (fun r9 h9 => wq (d + 1) 190 6 [.ref x0, .int x1] (r9.toList ++ []) h9 Q)) : wq (d + 1) 190 0 [.ref x0, .int x1] [] h Q := by
  refine g3 c_190_0 rfl ?_
  refine g1 c_190_1 k_0 ?_
  refine g1 c_190_2 k_2 ?_
  exact g81 (As := [.int x1, .int 0, .int 2]) (rest := []) c_190_3 rfl rfl (Nat.le_of_ble_eq_true rfl) (Nat.le_of_ble_eq_true rfl) t
set_option maxRecDepth 20000 in
theorem t_190_6 {d : Nat} {h : ab_H} {Q : Option Value → ab_H → Prop} {x0 : Nat} {x1 : Int32} {s0 : Int32} (t : if s0 = 0 then (Q (some (.int (-1))) h) else (ab_ok h x0 111 = true ∧ ∃ j1 : Nat, ab_r h x0 9 = some j1 ∧ ab_ok h j1 106 = true ∧ wm d 75 [.ref j1] h (fun r9 h9 => wq (d + 1) 190 16 [.ref x0, .int x1] (r9.toList ++ []) h9 Q))) : wq (d + 1) 190 6 [.ref x0, .int x1] [.int s0] h Q := by
  refine gif c_190_6 (gbr t rfl rfl (fun hc t => ?_) (fun hc t => ?_))
  · refine g1 c_190_33 k_m1 ?_
    exact g90 c_190_34 t
  · refine g5 c_190_9 rfl ?_
    obtain ⟨ho, j1, hr, t⟩ := t
    refine g45 c_190_10 ho hr ?_
    exact g80 (As := []) (rest := []) c_190_13 rfl rfl (Nat.le_of_ble_eq_true rfl) (Nat.le_of_ble_eq_true rfl) t.1 t.2
set_option maxRecDepth 20000 in
theorem t_190_16 {d : Nat} {h : ab_H} {Q : Option Value → ab_H → Prop} {x0 : Nat} {x1 : Int32} {s0 : Int32} (t : if s0 = 0 then (Q (some (.int (-1))) h) else (ab_ok h x0 111 = true ∧ ∃ j1 : Nat, ab_r h x0 9 = some j1 ∧ ab_ok h j1 106 = true ∧ ab_ok h x0 111 = true ∧ wm d 176 [.ref x0, .int (ab_i h j1 2)] h (fun r9 h9 => wq (d + 1) 190 30 [.ref x0, .int x1] (r9.toList ++ []) h9 Q))) : wq (d + 1) 190 16 [.ref x0, .int x1] [.int s0] h Q := by
  refine gif c_190_16 (gbr t rfl rfl (fun hc t => ?_) (fun hc t => ?_))
  · refine g1 c_190_33 k_m1 ?_
    exact g90 c_190_34 t
  · refine g5 c_190_19 rfl ?_
    refine g5 c_190_20 rfl ?_
    obtain ⟨ho, j1, hr, t⟩ := t
    refine g45 c_190_21 ho hr ?_
    obtain ⟨ho, t⟩ := t
    refine g43 c_190_24 ho ?_
    exact g80 (As := [.int (ab_i h j1 2)]) (rest := []) c_190_27 rfl rfl (Nat.le_of_ble_eq_true rfl) (Nat.le_of_ble_eq_true rfl) t.1 t.2
set_option maxRecDepth 20000 in
theorem t_190_30 {d : Nat} {h : ab_H} {Q : Option Value → ab_H → Prop} {x0 : Nat} {x1 : Int32} {s0 : Int32} (t : if s0 = 0 then (Q (some (.int (-1))) h) else (ab_ok h x0 111 = true ∧ ∃ j1 : Nat, ab_r h x0 9 = some j1 ∧ ab_ok h x0 111 = true ∧ ∃ j2 : Nat, ab_r h x0 5 = some j2 ∧ ab_ok h x0 111 = true ∧ ∃ j3 : Nat, ab_r h x0 0 = some j3 ∧ ab_ok h j1 106 = true ∧ wm d 79 [.ref j1, .ref j2, .ref j3, .int x1] h (fun r9 h9 => wq (d + 1) 190 51 [.ref x0, .int x1] (r9.toList ++ []) h9 Q))) : wq (d + 1) 190 30 [.ref x0, .int x1] [.int s0] h Q := by
  refine gif c_190_30 (gbn t (ab_c1 _ _) rfl (fun hc t => ?_) (fun hc t => ?_))
  · refine g1 c_190_33 k_m1 ?_
    exact g90 c_190_34 t
  · refine g5 c_190_35 rfl ?_
    obtain ⟨ho, j1, hr, t⟩ := t
    refine g45 c_190_36 ho hr ?_
    refine g5 c_190_39 rfl ?_
    obtain ⟨ho, j2, hr, t⟩ := t
    refine g45 c_190_40 ho hr ?_
    refine g5 c_190_43 rfl ?_
    obtain ⟨ho, j3, hr, t⟩ := t
    refine g45 c_190_44 ho hr ?_
    refine g3 c_190_47 rfl ?_
    exact g80 (As := [.ref j2, .ref j3, .int x1]) (rest := []) c_190_48 rfl rfl (Nat.le_of_ble_eq_true rfl) (Nat.le_of_ble_eq_true rfl) t.1 t.2
set_option maxRecDepth 20000 in
theorem t_190_51 {d : Nat} {h : ab_H} {Q : Option Value → ab_H → Prop} {x0 : Nat} {x1 : Int32} {s0 : Int32} (t : Q (some (.int s0)) h) : wq d 190 51 [.ref x0, .int x1] [.int s0] h Q := by
  exact g90 c_190_51 t
-- method 191: MillTown.image()I
theorem c_191_0 : pg_cd 191 0 = (5, 1, 0, 0, 0) := by decide +kernel
theorem c_191_1 : pg_cd 191 1 = (45, 11, 16, 1, 0) := by decide +kernel
theorem c_191_4 : pg_cd 191 4 = (5, 1, 0, 0, 0) := by decide +kernel
theorem c_191_5 : pg_cd 191 5 = (45, 11, 12, 0, 0) := by decide +kernel
theorem c_191_8 : pg_cd 191 8 = (80, 87, 258, 0, 0) := by decide +kernel
theorem c_191_11 : pg_cd 191 11 = (5, 1, 0, 0, 0) := by decide +kernel
theorem c_191_12 : pg_cd 191 12 = (45, 11, 12, 0, 0) := by decide +kernel
theorem c_191_15 : pg_cd 191 15 = (43, 8, 193, 8, 0) := by decide +kernel
theorem c_191_18 : pg_cd 191 18 = (90, 0, 0, 0, 0) := by decide +kernel
theorem mx_191 : pg_mx 191 = 1 := by decide +kernel
theorem m_191 {d : Nat} {h : ab_H} {Q : Option Value → ab_H → Prop} {x0 : Nat} (t : wq d 191 0 [.ref x0] [] h Q) : wm d 191 [.ref x0] h Q := by
  unfold wm
  rw [mx_191]
  exact t
set_option maxRecDepth 20000 in
theorem t_191_0 {d : Nat} {h : ab_H} {Q : Option Value → ab_H → Prop} {x0 : Nat} (t : ab_ok h x0 111 = true ∧ ∃ j1 : Nat, ab_r h x0 1 = some j1 ∧ ab_ok h x0 111 = true ∧ ∃ j2 : Nat, ab_r h x0 0 = some j2 ∧ ab_ok h j1 108 = true ∧ wm d 87 [.ref j1, .ref j2] h (fun r9 h9 => wq (d + 1) 191 11 [.ref x0] (r9.toList ++ []) h9 Q)) : wq (d + 1) 191 0 [.ref x0] [] h Q := by
  refine g5 c_191_0 rfl ?_
  obtain ⟨ho, j1, hr, t⟩ := t
  refine g45 c_191_1 ho hr ?_
  refine g5 c_191_4 rfl ?_
  obtain ⟨ho, j2, hr, t⟩ := t
  refine g45 c_191_5 ho hr ?_
  exact g80 (As := [.ref j2]) (rest := []) c_191_8 rfl rfl (Nat.le_of_ble_eq_true rfl) (Nat.le_of_ble_eq_true rfl) t.1 t.2
set_option maxRecDepth 20000 in
theorem t_191_11 {d : Nat} {h : ab_H} {Q : Option Value → ab_H → Prop} {x0 : Nat} (t : ab_ok h x0 111 = true ∧ ∃ j1 : Nat, ab_r h x0 0 = some j1 ∧ ab_ok h j1 108 = true ∧ Q (some (.int (ab_i h j1 8))) h) : wq d 191 11 [.ref x0] [] h Q := by
  refine g5 c_191_11 rfl ?_
  obtain ⟨ho, j1, hr, t⟩ := t
  refine g45 c_191_12 ho hr ?_
  obtain ⟨ho, t⟩ := t
  refine g43 c_191_15 ho ?_
  exact g90 c_191_18 t
-- method 192: MillTown.back()I
theorem c_192_0 : pg_cd 192 0 = (5, 1, 0, 0, 0) := by decide +kernel
theorem c_192_1 : pg_cd 192 1 = (45, 11, 12, 0, 0) := by decide +kernel
theorem c_192_4 : pg_cd 192 4 = (5, 1, 0, 0, 0) := by decide +kernel
theorem c_192_5 : pg_cd 192 5 = (45, 11, 16, 1, 0) := by decide +kernel
theorem c_192_8 : pg_cd 192 8 = (80, 87, 258, 0, 0) := by decide +kernel
theorem c_192_11 : pg_cd 192 11 = (5, 1, 0, 0, 0) := by decide +kernel
theorem c_192_12 : pg_cd 192 12 = (45, 11, 12, 0, 0) := by decide +kernel
theorem c_192_15 : pg_cd 192 15 = (43, 8, 193, 8, 0) := by decide +kernel
theorem c_192_18 : pg_cd 192 18 = (90, 0, 0, 0, 0) := by decide +kernel
theorem mx_192 : pg_mx 192 = 1 := by decide +kernel
theorem m_192 {d : Nat} {h : ab_H} {Q : Option Value → ab_H → Prop} {x0 : Nat} (t : wq d 192 0 [.ref x0] [] h Q) : wm d 192 [.ref x0] h Q := by
  unfold wm
  rw [mx_192]
  exact t
set_option maxRecDepth 20000 in
theorem t_192_0 {d : Nat} {h : ab_H} {Q : Option Value → ab_H → Prop} {x0 : Nat} (t : ab_ok h x0 111 = true ∧ ∃ j1 : Nat, ab_r h x0 0 = some j1 ∧ ab_ok h x0 111 = true ∧ ∃ j2 : Nat, ab_r h x0 1 = some j2 ∧ ab_ok h j1 108 = true ∧ wm d 87 [.ref j1, .ref j2] h (fun r9 h9 => wq (d + 1) 192 11 [.ref x0] (r9.toList ++ []) h9 Q)) : wq (d + 1) 192 0 [.ref x0] [] h Q := by
  refine g5 c_192_0 rfl ?_
  obtain ⟨ho, j1, hr, t⟩ := t
  refine g45 c_192_1 ho hr ?_
  refine g5 c_192_4 rfl ?_
  obtain ⟨ho, j2, hr, t⟩ := t
  refine g45 c_192_5 ho hr ?_
  exact g80 (As := [.ref j2]) (rest := []) c_192_8 rfl rfl (Nat.le_of_ble_eq_true rfl) (Nat.le_of_ble_eq_true rfl) t.1 t.2
set_option maxRecDepth 20000 in
theorem t_192_11 {d : Nat} {h : ab_H} {Q : Option Value → ab_H → Prop} {x0 : Nat} (t : ab_ok h x0 111 = true ∧ ∃ j1 : Nat, ab_r h x0 0 = some j1 ∧ ab_ok h j1 108 = true ∧ Q (some (.int (ab_i h j1 8))) h) : wq d 192 11 [.ref x0] [] h Q := by
  refine g5 c_192_11 rfl ?_
  obtain ⟨ho, j1, hr, t⟩ := t
  refine g45 c_192_12 ho hr ?_
  obtain ⟨ho, t⟩ := t
  refine g43 c_192_15 ho ?_
  exact g90 c_192_18 t
-- method 193: MillTown.about(I)I
theorem c_193_0 : pg_cd 193 0 = (3, 1, 0, 1, 0) := by decide +kernel
theorem c_193_1 : pg_cd 193 1 = (42, 4, 79, 0, 0) := by decide +kernel
theorem c_193_80 : pg_cd 193 80 = (5, 1, 0, 0, 0) := by decide +kernel
theorem c_193_81 : pg_cd 193 81 = (45, 11, 12, 0, 0) := by decide +kernel
theorem c_193_84 : pg_cd 193 84 = (43, 8, 193, 8, 0) := by decide +kernel
theorem c_193_87 : pg_cd 193 87 = (90, 0, 0, 0, 0) := by decide +kernel
theorem c_193_88 : pg_cd 193 88 = (5, 1, 0, 0, 0) := by decide +kernel
theorem c_193_89 : pg_cd 193 89 = (45, 11, 12, 0, 0) := by decide +kernel
theorem c_193_92 : pg_cd 193 92 = (45, 8, 71, 2, 0) := by decide +kernel
theorem c_193_95 : pg_cd 193 95 = (43, 4, 199, 2, 0) := by decide +kernel
theorem c_193_98 : pg_cd 193 98 = (90, 0, 0, 0, 0) := by decide +kernel
theorem c_193_99 : pg_cd 193 99 = (5, 1, 0, 0, 0) := by decide +kernel
theorem c_193_100 : pg_cd 193 100 = (45, 11, 12, 0, 0) := by decide +kernel
theorem c_193_103 : pg_cd 193 103 = (45, 8, 121, 3, 0) := by decide +kernel
theorem c_193_106 : pg_cd 193 106 = (43, 4, 199, 2, 0) := by decide +kernel
theorem c_193_109 : pg_cd 193 109 = (90, 0, 0, 0, 0) := by decide +kernel
theorem c_193_110 : pg_cd 193 110 = (5, 1, 0, 0, 0) := by decide +kernel
theorem c_193_111 : pg_cd 193 111 = (45, 11, 12, 0, 0) := by decide +kernel
theorem c_193_114 : pg_cd 193 114 = (45, 8, 127, 4, 0) := by decide +kernel
theorem c_193_117 : pg_cd 193 117 = (43, 4, 199, 2, 0) := by decide +kernel
theorem c_193_120 : pg_cd 193 120 = (90, 0, 0, 0, 0) := by decide +kernel
theorem c_193_121 : pg_cd 193 121 = (5, 1, 0, 0, 0) := by decide +kernel
theorem c_193_122 : pg_cd 193 122 = (45, 11, 12, 0, 0) := by decide +kernel
theorem c_193_125 : pg_cd 193 125 = (45, 8, 136, 5, 0) := by decide +kernel
theorem c_193_128 : pg_cd 193 128 = (43, 4, 199, 2, 0) := by decide +kernel
theorem c_193_131 : pg_cd 193 131 = (90, 0, 0, 0, 0) := by decide +kernel
theorem c_193_132 : pg_cd 193 132 = (5, 1, 0, 0, 0) := by decide +kernel
theorem c_193_133 : pg_cd 193 133 = (45, 11, 12, 0, 0) := by decide +kernel
theorem c_193_136 : pg_cd 193 136 = (43, 8, 81, 9, 0) := by decide +kernel
theorem c_193_139 : pg_cd 193 139 = (90, 0, 0, 0, 0) := by decide +kernel
theorem c_193_140 : pg_cd 193 140 = (5, 1, 0, 0, 0) := by decide +kernel
theorem c_193_141 : pg_cd 193 141 = (45, 11, 12, 0, 0) := by decide +kernel
theorem c_193_144 : pg_cd 193 144 = (45, 8, 196, 7, 0) := by decide +kernel
theorem c_193_147 : pg_cd 193 147 = (43, 4, 199, 2, 0) := by decide +kernel
theorem c_193_150 : pg_cd 193 150 = (90, 0, 0, 0, 0) := by decide +kernel
theorem c_193_151 : pg_cd 193 151 = (5, 1, 0, 0, 0) := by decide +kernel
theorem c_193_152 : pg_cd 193 152 = (45, 11, 12, 0, 0) := by decide +kernel
theorem c_193_155 : pg_cd 193 155 = (45, 8, 244, 6, 0) := by decide +kernel
theorem c_193_158 : pg_cd 193 158 = (43, 4, 199, 2, 0) := by decide +kernel
theorem c_193_161 : pg_cd 193 161 = (90, 0, 0, 0, 0) := by decide +kernel
theorem c_193_162 : pg_cd 193 162 = (5, 1, 0, 0, 0) := by decide +kernel
theorem c_193_163 : pg_cd 193 163 = (45, 11, 12, 0, 0) := by decide +kernel
theorem c_193_166 : pg_cd 193 166 = (43, 8, 231, 13, 0) := by decide +kernel
theorem c_193_169 : pg_cd 193 169 = (90, 0, 0, 0, 0) := by decide +kernel
theorem c_193_170 : pg_cd 193 170 = (5, 1, 0, 0, 0) := by decide +kernel
theorem c_193_171 : pg_cd 193 171 = (45, 11, 12, 0, 0) := by decide +kernel
theorem c_193_174 : pg_cd 193 174 = (43, 8, 311, 10, 0) := by decide +kernel
theorem c_193_177 : pg_cd 193 177 = (90, 0, 0, 0, 0) := by decide +kernel
theorem c_193_178 : pg_cd 193 178 = (5, 1, 0, 0, 0) := by decide +kernel
theorem c_193_179 : pg_cd 193 179 = (43, 11, 164, 11, 0) := by decide +kernel
theorem c_193_182 : pg_cd 193 182 = (90, 0, 0, 0, 0) := by decide +kernel
theorem c_193_183 : pg_cd 193 183 = (5, 1, 0, 0, 0) := by decide +kernel
theorem c_193_184 : pg_cd 193 184 = (45, 11, 12, 0, 0) := by decide +kernel
theorem c_193_187 : pg_cd 193 187 = (43, 8, 234, 14, 0) := by decide +kernel
theorem c_193_190 : pg_cd 193 190 = (90, 0, 0, 0, 0) := by decide +kernel
theorem c_193_191 : pg_cd 193 191 = (5, 1, 0, 0, 0) := by decide +kernel
theorem c_193_192 : pg_cd 193 192 = (45, 11, 12, 0, 0) := by decide +kernel
theorem c_193_195 : pg_cd 193 195 = (43, 8, 237, 15, 0) := by decide +kernel
theorem c_193_198 : pg_cd 193 198 = (90, 0, 0, 0, 0) := by decide +kernel
theorem c_193_199 : pg_cd 193 199 = (5, 1, 0, 0, 0) := by decide +kernel
theorem c_193_200 : pg_cd 193 200 = (45, 11, 12, 0, 0) := by decide +kernel
theorem c_193_203 : pg_cd 193 203 = (43, 8, 225, 11, 0) := by decide +kernel
theorem c_193_206 : pg_cd 193 206 = (90, 0, 0, 0, 0) := by decide +kernel
theorem c_193_207 : pg_cd 193 207 = (5, 1, 0, 0, 0) := by decide +kernel
theorem c_193_208 : pg_cd 193 208 = (45, 11, 12, 0, 0) := by decide +kernel
theorem c_193_211 : pg_cd 193 211 = (43, 8, 228, 12, 0) := by decide +kernel
theorem c_193_214 : pg_cd 193 214 = (90, 0, 0, 0, 0) := by decide +kernel
theorem c_193_215 : pg_cd 193 215 = (5, 1, 0, 0, 0) := by decide +kernel
theorem c_193_216 : pg_cd 193 216 = (45, 11, 33, 4, 0) := by decide +kernel
theorem c_193_219 : pg_cd 193 219 = (5, 1, 0, 0, 0) := by decide +kernel
theorem c_193_220 : pg_cd 193 220 = (45, 11, 12, 0, 0) := by decide +kernel
theorem c_193_223 : pg_cd 193 223 = (43, 8, 81, 9, 0) := by decide +kernel
theorem c_193_226 : pg_cd 193 226 = (1, 1, 0, 0, 1) := by decide +kernel
theorem c_193_227 : pg_cd 193 227 = (11, 1, 0, 0, 0) := by decide +kernel
theorem c_193_228 : pg_cd 193 228 = (80, 11, 337, 0, 0) := by decide +kernel
theorem c_193_231 : pg_cd 193 231 = (90, 0, 0, 0, 0) := by decide +kernel
theorem c_193_232 : pg_cd 193 232 = (1, 1, 0, 0, (-1)) := by decide +kernel
theorem c_193_233 : pg_cd 193 233 = (90, 0, 0, 0, 0) := by decide +kernel
theorem mx_193 : pg_mx 193 = 2 := by decide +kernel
theorem m_193 {d : Nat} {h : ab_H} {Q : Option Value → ab_H → Prop} {x0 : Nat} {x1 : Int32} (t : wq d 193 0 [.ref x0, .int x1] [] h Q) : wm d 193 [.ref x0, .int x1] h Q := by
  unfold wm
  rw [mx_193]
  exact t
set_option maxRecDepth 20000 in
theorem t_193_0 {d : Nat} {h : ab_H} {Q : Option Value → ab_H → Prop} {x0 : Nat} {x1 : Int32} (t : if x1 = 0 then (ab_ok h x0 111 = true ∧ ∃ j1 : Nat, ab_r h x0 0 = some j1 ∧ ab_ok h j1 108 = true ∧ Q (some (.int (ab_i h j1 8))) h) else (if x1 = 1 then (ab_ok h x0 111 = true ∧ ∃ j2 : Nat, ab_r h x0 0 = some j2 ∧ ab_ok h j2 108 = true ∧ ∃ j3 : Nat, ab_r h j2 2 = some j3 ∧ ab_ok h j3 104 = true ∧ Q (some (.int (ab_i h j3 2))) h) else (if x1 = 2 then (ab_ok h x0 111 = true ∧ ∃ j4 : Nat, ab_r h x0 0 = some j4 ∧ ab_ok h j4 108 = true ∧ ∃ j5 : Nat, ab_r h j4 3 = some j5 ∧ ab_ok h j5 104 = true ∧ Q (some (.int (ab_i h j5 2))) h) else (if x1 = 3 then (ab_ok h x0 111 = true ∧ ∃ j6 : Nat, ab_r h x0 0 = some j6 ∧ ab_ok h j6 108 = true ∧ ∃ j7 : Nat, ab_r h j6 4 = some j7 ∧ ab_ok h j7 104 = true ∧ Q (some (.int (ab_i h j7 2))) h) else (if x1 = 4 then (ab_ok h x0 111 = true ∧ ∃ j8 : Nat, ab_r h x0 0 = some j8 ∧ ab_ok h j8 108 = true ∧ ∃ j9 : Nat, ab_r h j8 5 = some j9 ∧ ab_ok h j9 104 = true ∧ Q (some (.int (ab_i h j9 2))) h) else (if x1 = 5 then (ab_ok h x0 111 = true ∧ ∃ j10 : Nat, ab_r h x0 0 = some j10 ∧ ab_ok h j10 108 = true ∧ Q (some (.int (ab_i h j10 9))) h) else (if x1 = 6 then (ab_ok h x0 111 = true ∧ ∃ j11 : Nat, ab_r h x0 0 = some j11 ∧ ab_ok h j11 108 = true ∧ ∃ j12 : Nat, ab_r h j11 7 = some j12 ∧ ab_ok h j12 104 = true ∧ Q (some (.int (ab_i h j12 2))) h) else (if x1 = 7 then (ab_ok h x0 111 = true ∧ ∃ j13 : Nat, ab_r h x0 0 = some j13 ∧ ab_ok h j13 108 = true ∧ ∃ j14 : Nat, ab_r h j13 6 = some j14 ∧ ab_ok h j14 104 = true ∧ Q (some (.int (ab_i h j14 2))) h) else (if x1 = 8 then (ab_ok h x0 111 = true ∧ ∃ j15 : Nat, ab_r h x0 0 = some j15 ∧ ab_ok h j15 108 = true ∧ Q (some (.int (ab_i h j15 13))) h) else (if x1 = 9 then (ab_ok h x0 111 = true ∧ ∃ j16 : Nat, ab_r h x0 0 = some j16 ∧ ab_ok h j16 108 = true ∧ Q (some (.int (ab_i h j16 10))) h) else (if x1 = 10 then (ab_ok h x0 111 = true ∧ Q (some (.int (ab_i h x0 11))) h) else (if x1 = 11 then (ab_ok h x0 111 = true ∧ ∃ j17 : Nat, ab_r h x0 0 = some j17 ∧ ab_ok h j17 108 = true ∧ Q (some (.int (ab_i h j17 14))) h) else (if x1 = 12 then (ab_ok h x0 111 = true ∧ ∃ j18 : Nat, ab_r h x0 0 = some j18 ∧ ab_ok h j18 108 = true ∧ Q (some (.int (ab_i h j18 15))) h) else (if x1 = 13 then (ab_ok h x0 111 = true ∧ ∃ j19 : Nat, ab_r h x0 0 = some j19 ∧ ab_ok h j19 108 = true ∧ Q (some (.int (ab_i h j19 11))) h) else (if x1 = 14 then (ab_ok h x0 111 = true ∧ ∃ j20 : Nat, ab_r h x0 0 = some j20 ∧ ab_ok h j20 108 = true ∧ Q (some (.int (ab_i h j20 12))) h) else (if x1 = 15 then (ab_ok h x0 111 = true ∧ ∃ j21 : Nat, ab_r h x0 4 = some j21 ∧ ab_ok h x0 111 = true ∧ ∃ j22 : Nat, ab_r h x0 0 = some j22 ∧ ab_ok h j22 108 = true ∧ ab_ok h j21 101 = true ∧ wm d 11 [.ref j21, .int ((ab_i h j22 9) - 1)] h (fun r9 h9 => wq (d + 1) 193 231 [.ref x0, .int x1] (r9.toList ++ []) h9 Q)) else (Q (some (.int (-1))) h))))))))))))))))) : wq (d + 1) 193 0 [.ref x0, .int x1] [] h Q := by
  refine g3 c_193_0 rfl ?_
  by_cases e0 : x1 = 0
  · rw [if_pos e0] at t
    refine g42 (o := 79) c_193_1 sw_4 (by rw [e0]; decide) (by rw [e0]; decide) rfl ?_
    refine g5 c_193_80 rfl ?_
    obtain ⟨ho, j1, hr, t⟩ := t
    refine g45 c_193_81 ho hr ?_
    obtain ⟨ho, t⟩ := t
    refine g43 c_193_84 ho ?_
    exact g90 c_193_87 t
  rw [if_neg e0] at t
  by_cases e1 : x1 = 1
  · rw [if_pos e1] at t
    refine g42 (o := 87) c_193_1 sw_4 (by rw [e1]; decide) (by rw [e1]; decide) rfl ?_
    refine g5 c_193_88 rfl ?_
    obtain ⟨ho, j2, hr, t⟩ := t
    refine g45 c_193_89 ho hr ?_
    obtain ⟨ho, j3, hr, t⟩ := t
    refine g45 c_193_92 ho hr ?_
    obtain ⟨ho, t⟩ := t
    refine g43 c_193_95 ho ?_
    exact g90 c_193_98 t
  rw [if_neg e1] at t
  by_cases e2 : x1 = 2
  · rw [if_pos e2] at t
    refine g42 (o := 98) c_193_1 sw_4 (by rw [e2]; decide) (by rw [e2]; decide) rfl ?_
    refine g5 c_193_99 rfl ?_
    obtain ⟨ho, j4, hr, t⟩ := t
    refine g45 c_193_100 ho hr ?_
    obtain ⟨ho, j5, hr, t⟩ := t
    refine g45 c_193_103 ho hr ?_
    obtain ⟨ho, t⟩ := t
    refine g43 c_193_106 ho ?_
    exact g90 c_193_109 t
  rw [if_neg e2] at t
  by_cases e3 : x1 = 3
  · rw [if_pos e3] at t
    refine g42 (o := 109) c_193_1 sw_4 (by rw [e3]; decide) (by rw [e3]; decide) rfl ?_
    refine g5 c_193_110 rfl ?_
    obtain ⟨ho, j6, hr, t⟩ := t
    refine g45 c_193_111 ho hr ?_
    obtain ⟨ho, j7, hr, t⟩ := t
    refine g45 c_193_114 ho hr ?_
    obtain ⟨ho, t⟩ := t
    refine g43 c_193_117 ho ?_
    exact g90 c_193_120 t
  rw [if_neg e3] at t
  by_cases e4 : x1 = 4
  · rw [if_pos e4] at t
    refine g42 (o := 120) c_193_1 sw_4 (by rw [e4]; decide) (by rw [e4]; decide) rfl ?_
    refine g5 c_193_121 rfl ?_
    obtain ⟨ho, j8, hr, t⟩ := t
    refine g45 c_193_122 ho hr ?_
    obtain ⟨ho, j9, hr, t⟩ := t
    refine g45 c_193_125 ho hr ?_
    obtain ⟨ho, t⟩ := t
    refine g43 c_193_128 ho ?_
    exact g90 c_193_131 t
  rw [if_neg e4] at t
  by_cases e5 : x1 = 5
  · rw [if_pos e5] at t
    refine g42 (o := 131) c_193_1 sw_4 (by rw [e5]; decide) (by rw [e5]; decide) rfl ?_
    refine g5 c_193_132 rfl ?_
    obtain ⟨ho, j10, hr, t⟩ := t
    refine g45 c_193_133 ho hr ?_
    obtain ⟨ho, t⟩ := t
    refine g43 c_193_136 ho ?_
    exact g90 c_193_139 t
  rw [if_neg e5] at t
  by_cases e6 : x1 = 6
  · rw [if_pos e6] at t
    refine g42 (o := 139) c_193_1 sw_4 (by rw [e6]; decide) (by rw [e6]; decide) rfl ?_
    refine g5 c_193_140 rfl ?_
    obtain ⟨ho, j11, hr, t⟩ := t
    refine g45 c_193_141 ho hr ?_
    obtain ⟨ho, j12, hr, t⟩ := t
    refine g45 c_193_144 ho hr ?_
    obtain ⟨ho, t⟩ := t
    refine g43 c_193_147 ho ?_
    exact g90 c_193_150 t
  rw [if_neg e6] at t
  by_cases e7 : x1 = 7
  · rw [if_pos e7] at t
    refine g42 (o := 150) c_193_1 sw_4 (by rw [e7]; decide) (by rw [e7]; decide) rfl ?_
    refine g5 c_193_151 rfl ?_
    obtain ⟨ho, j13, hr, t⟩ := t
    refine g45 c_193_152 ho hr ?_
    obtain ⟨ho, j14, hr, t⟩ := t
    refine g45 c_193_155 ho hr ?_
    obtain ⟨ho, t⟩ := t
    refine g43 c_193_158 ho ?_
    exact g90 c_193_161 t
  rw [if_neg e7] at t
  by_cases e8 : x1 = 8
  · rw [if_pos e8] at t
    refine g42 (o := 161) c_193_1 sw_4 (by rw [e8]; decide) (by rw [e8]; decide) rfl ?_
    refine g5 c_193_162 rfl ?_
    obtain ⟨ho, j15, hr, t⟩ := t
    refine g45 c_193_163 ho hr ?_
    obtain ⟨ho, t⟩ := t
    refine g43 c_193_166 ho ?_
    exact g90 c_193_169 t
  rw [if_neg e8] at t
  by_cases e9 : x1 = 9
  · rw [if_pos e9] at t
    refine g42 (o := 169) c_193_1 sw_4 (by rw [e9]; decide) (by rw [e9]; decide) rfl ?_
    refine g5 c_193_170 rfl ?_
    obtain ⟨ho, j16, hr, t⟩ := t
    refine g45 c_193_171 ho hr ?_
    obtain ⟨ho, t⟩ := t
    refine g43 c_193_174 ho ?_
    exact g90 c_193_177 t
  rw [if_neg e9] at t
  by_cases e10 : x1 = 10
  · rw [if_pos e10] at t
    refine g42 (o := 177) c_193_1 sw_4 (by rw [e10]; decide) (by rw [e10]; decide) rfl ?_
    refine g5 c_193_178 rfl ?_
    obtain ⟨ho, t⟩ := t
    refine g43 c_193_179 ho ?_
    exact g90 c_193_182 t
  rw [if_neg e10] at t
  by_cases e11 : x1 = 11
  · rw [if_pos e11] at t
    refine g42 (o := 182) c_193_1 sw_4 (by rw [e11]; decide) (by rw [e11]; decide) rfl ?_
    refine g5 c_193_183 rfl ?_
    obtain ⟨ho, j17, hr, t⟩ := t
    refine g45 c_193_184 ho hr ?_
    obtain ⟨ho, t⟩ := t
    refine g43 c_193_187 ho ?_
    exact g90 c_193_190 t
  rw [if_neg e11] at t
  by_cases e12 : x1 = 12
  · rw [if_pos e12] at t
    refine g42 (o := 190) c_193_1 sw_4 (by rw [e12]; decide) (by rw [e12]; decide) rfl ?_
    refine g5 c_193_191 rfl ?_
    obtain ⟨ho, j18, hr, t⟩ := t
    refine g45 c_193_192 ho hr ?_
    obtain ⟨ho, t⟩ := t
    refine g43 c_193_195 ho ?_
    exact g90 c_193_198 t
  rw [if_neg e12] at t
  by_cases e13 : x1 = 13
  · rw [if_pos e13] at t
    refine g42 (o := 198) c_193_1 sw_4 (by rw [e13]; decide) (by rw [e13]; decide) rfl ?_
    refine g5 c_193_199 rfl ?_
    obtain ⟨ho, j19, hr, t⟩ := t
    refine g45 c_193_200 ho hr ?_
    obtain ⟨ho, t⟩ := t
    refine g43 c_193_203 ho ?_
    exact g90 c_193_206 t
  rw [if_neg e13] at t
  by_cases e14 : x1 = 14
  · rw [if_pos e14] at t
    refine g42 (o := 206) c_193_1 sw_4 (by rw [e14]; decide) (by rw [e14]; decide) rfl ?_
    refine g5 c_193_207 rfl ?_
    obtain ⟨ho, j20, hr, t⟩ := t
    refine g45 c_193_208 ho hr ?_
    obtain ⟨ho, t⟩ := t
    refine g43 c_193_211 ho ?_
    exact g90 c_193_214 t
  rw [if_neg e14] at t
  by_cases e15 : x1 = 15
  · rw [if_pos e15] at t
    refine g42 (o := 214) c_193_1 sw_4 (by rw [e15]; decide) (by rw [e15]; decide) rfl ?_
    refine g5 c_193_215 rfl ?_
    obtain ⟨ho, j21, hr, t⟩ := t
    refine g45 c_193_216 ho hr ?_
    refine g5 c_193_219 rfl ?_
    obtain ⟨ho, j22, hr, t⟩ := t
    refine g45 c_193_220 ho hr ?_
    obtain ⟨ho, t⟩ := t
    refine g43 c_193_223 ho ?_
    refine g1 c_193_226 k_1 ?_
    refine g11 c_193_227 ?_
    exact g80 (As := [.int ((ab_i h j22 9) - 1)]) (rest := []) c_193_228 rfl rfl (Nat.le_of_ble_eq_true rfl) (Nat.le_of_ble_eq_true rfl) t.1 t.2
  rw [if_neg e15] at t
  refine g42d c_193_1 sw_4 (gsw_out (n := 16) (by decide) (by decide) (fun i hi => ?_)) rfl ?_
  · rcases (show i = 0 ∨ i = 1 ∨ i = 2 ∨ i = 3 ∨ i = 4 ∨ i = 5 ∨ i = 6 ∨ i = 7 ∨ i = 8 ∨ i = 9 ∨ i = 10 ∨ i = 11 ∨ i = 12 ∨ i = 13 ∨ i = 14 ∨ i = 15 by omega) with rfl | rfl | rfl | rfl | rfl | rfl | rfl | rfl | rfl | rfl | rfl | rfl | rfl | rfl | rfl | rfl
    · exact fun q => e0 (q.trans k_0)
    · exact fun q => e1 (q.trans k_1)
    · exact fun q => e2 (q.trans k_2)
    · exact fun q => e3 (q.trans k_3)
    · exact fun q => e4 (q.trans k_4)
    · exact fun q => e5 (q.trans k_5)
    · exact fun q => e6 (q.trans k_6)
    · exact fun q => e7 (q.trans k_7)
    · exact fun q => e8 (q.trans k_8)
    · exact fun q => e9 (q.trans k_9)
    · exact fun q => e10 (q.trans k_10)
    · exact fun q => e11 (q.trans k_11)
    · exact fun q => e12 (q.trans k_12)
    · exact fun q => e13 (q.trans k_13)
    · exact fun q => e14 (q.trans k_14)
    · exact fun q => e15 (q.trans k_15)
  refine g1 c_193_232 k_m1 ?_
  exact g90 c_193_233 t
set_option maxRecDepth 20000 in
theorem t_193_231 {d : Nat} {h : ab_H} {Q : Option Value → ab_H → Prop} {x0 : Nat} {x1 : Int32} {s0 : Int32} (t : Q (some (.int s0)) h) : wq d 193 231 [.ref x0, .int x1] [.int s0] h Q := by
  exact g90 c_193_231 t
