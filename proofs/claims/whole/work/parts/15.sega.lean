/-! the segments of the program, printed by wip/whole/segs.py -/
-- method 0: MillTown$Books.<init>()V
theorem c_0_0 : pg_cd 0 0 = (5, 1, 0, 0, 0) := by decide +kernel
theorem c_0_1 : pg_cd 0 1 = (61, 0, 3, 0, 0) := by decide +kernel
theorem c_0_4 : pg_cd 0 4 = (5, 1, 0, 0, 0) := by decide +kernel
theorem c_0_5 : pg_cd 0 5 = (1, 3, 0, 0, 400) := by decide +kernel
theorem c_0_8 : pg_cd 0 8 = (59, 3, 9, 13, 0) := by decide +kernel
theorem c_0_11 : pg_cd 0 11 = (49, 0, 11, 0, 0) := by decide +kernel
theorem c_0_14 : pg_cd 0 14 = (94, 0, 0, 0, 0) := by decide +kernel
theorem mx_0 : pg_mx 0 = 1 := by decide +kernel
theorem m_0 {d : Nat} {h : ab_H} {Q : Option Value → ab_H → Prop} {x0 : Nat} (t : wq d 0 0 [.ref x0] [] h Q) : wm d 0 [.ref x0] h Q := by
  unfold wm
  rw [mx_0]
  exact t
set_option maxRecDepth 20000 in
theorem t_0_0 {d : Nat} {h : ab_H} {Q : Option Value → ab_H → Prop} {x0 : Nat} (t : (¬ (400 : Int32) < 0 ∧ Int32.toNatClampNeg (400 : Int32) ≤ 1000000) ∧ ∀ h1 : ab_H, h1 = ab_new h 13 (Int32.toNatClampNeg (400 : Int32)) (Int32.toNatClampNeg (400 : Int32)) → ab_ok h1 x0 100 = true ∧ ∀ h2 : ab_H, h2 = ab_pr h1 x0 0 (some (ab_n h)) → Q none h2) : wq d 0 0 [.ref x0] [] h Q := by
  refine g5 c_0_0 rfl ?_
  refine g61 c_0_1 (Nat.le_of_ble_eq_true rfl) ?_
  refine g5 c_0_4 rfl ?_
  refine g1 c_0_5 k_400 ?_
  obtain ⟨ho, t⟩ := t
  refine g59 c_0_8 ho (fun h1 eh1 => ?_)
  have t := t h1 eh1
  obtain ⟨ho, t⟩ := t
  refine g49 c_0_11 ho (fun h2 eh2 => ?_)
  have t := t h2 eh2
  exact g94 c_0_14 t
-- method 1: MillTown$Books.of(I)LMillTown$WeekBook;
theorem c_1_0 : pg_cd 1 0 = (3, 1, 0, 1, 0) := by decide +kernel
theorem c_1_1 : pg_cd 1 1 = (36, 3, 0, 2, 19) := by decide +kernel
theorem c_1_4 : pg_cd 1 4 = (3, 1, 0, 1, 0) := by decide +kernel
theorem c_1_5 : pg_cd 1 5 = (1, 3, 0, 0, 400) := by decide +kernel
theorem c_1_8 : pg_cd 1 8 = (37, 3, 0, 3, 12) := by decide +kernel
theorem c_1_11 : pg_cd 1 11 = (5, 1, 0, 0, 0) := by decide +kernel
theorem c_1_12 : pg_cd 1 12 = (45, 0, 11, 0, 0) := by decide +kernel
theorem c_1_15 : pg_cd 1 15 = (3, 1, 0, 1, 0) := by decide +kernel
theorem c_1_16 : pg_cd 1 16 = (53, 10, 0, 0, 0) := by decide +kernel
theorem c_1_17 : pg_cd 1 17 = (38, 3, 0, 0, 4) := by decide +kernel
theorem c_1_20 : pg_cd 1 20 = (41, 1, 0, 0, 0) := by decide +kernel
theorem c_1_21 : pg_cd 1 21 = (93, 0, 0, 0, 0) := by decide +kernel
theorem mx_1 : pg_mx 1 = 2 := by decide +kernel
theorem m_1 {d : Nat} {h : ab_H} {Q : Option Value → ab_H → Prop} {x0 : Nat} {x1 : Int32} (t : wq d 1 0 [.ref x0, .int x1] [] h Q) : wm d 1 [.ref x0, .int x1] h Q := by
  unfold wm
  rw [mx_1]
  exact t
set_option maxRecDepth 20000 in
theorem t_1_0 {d : Nat} {h : ab_H} {Q : Option Value → ab_H → Prop} {x0 : Nat} {x1 : Int32} (t : if x1 < 0 then (Q (some (.null)) h) else (if 400 ≤ x1 then (Q (some (.null)) h) else (ab_ok h x0 100 = true ∧ ∃ j1 : Nat, ab_r h x0 0 = some j1 ∧ (ab_ok h j1 13 = true ∧ ab_in x1 (ab_s h j1).2 = true) ∧ ((ab_r h j1 (Int32.toNatClampNeg x1) = none → Q (some (.null)) h) ∧ ∀ j2 : Nat, ab_r h j1 (Int32.toNatClampNeg x1) = some j2 → Q (some (.ref j2)) h)))) : wq d 1 0 [.ref x0, .int x1] [] h Q := by
  refine g3 c_1_0 rfl ?_
  refine gif c_1_1 (gbr t rfl rfl (fun hc t => ?_) (fun hc t => ?_))
  · refine g41 c_1_20 ?_
    exact g93n c_1_21 t
  · refine g3 c_1_4 rfl ?_
    refine g1 c_1_5 k_400 ?_
    refine gcm c_1_8 (gbr t rfl rfl (fun hc t => ?_) (fun hc t => ?_))
    · refine g41 c_1_20 ?_
      exact g93n c_1_21 t
    · refine g5 c_1_11 rfl ?_
      obtain ⟨ho, j1, hr, t⟩ := t
      refine g45 c_1_12 ho hr ?_
      refine g3 c_1_15 rfl ?_
      obtain ⟨ho, t⟩ := t
      refine g53b c_1_16 ho (fun hr => ?_) (fun j2 hr => ?_)
      · have t := t.1 hr
        refine g38 c_1_17 rfl ?_
        exact g93n c_1_21 t
      · have t := t.2 _ hr
        refine g38 c_1_17 rfl ?_
        exact g93a c_1_21 t
-- method 2: MillTown$Books.open(I)LMillTown$WeekBook;
theorem c_2_0 : pg_cd 2 0 = (3, 1, 0, 1, 0) := by decide +kernel
theorem c_2_1 : pg_cd 2 1 = (36, 3, 0, 2, 10) := by decide +kernel
theorem c_2_4 : pg_cd 2 4 = (3, 1, 0, 1, 0) := by decide +kernel
theorem c_2_5 : pg_cd 2 5 = (1, 3, 0, 0, 400) := by decide +kernel
theorem c_2_8 : pg_cd 2 8 = (37, 3, 0, 2, 5) := by decide +kernel
theorem c_2_11 : pg_cd 2 11 = (41, 1, 0, 0, 0) := by decide +kernel
theorem c_2_12 : pg_cd 2 12 = (93, 0, 0, 0, 0) := by decide +kernel
theorem c_2_13 : pg_cd 2 13 = (5, 1, 0, 0, 0) := by decide +kernel
theorem c_2_14 : pg_cd 2 14 = (45, 0, 11, 0, 0) := by decide +kernel
theorem c_2_17 : pg_cd 2 17 = (3, 1, 0, 1, 0) := by decide +kernel
theorem c_2_18 : pg_cd 2 18 = (53, 10, 0, 0, 0) := by decide +kernel
theorem c_2_19 : pg_cd 2 19 = (40, 3, 0, 0, 16) := by decide +kernel
theorem c_2_22 : pg_cd 2 22 = (5, 1, 0, 0, 0) := by decide +kernel
theorem c_2_23 : pg_cd 2 23 = (45, 0, 11, 0, 0) := by decide +kernel
theorem c_2_26 : pg_cd 2 26 = (3, 1, 0, 1, 0) := by decide +kernel
theorem c_2_27 : pg_cd 2 27 = (60, 10, 9, 9, 0) := by decide +kernel
theorem c_2_30 : pg_cd 2 30 = (33, 1, 0, 0, 0) := by decide +kernel
theorem c_2_31 : pg_cd 2 31 = (80, 137, 17, 0, 0) := by decide +kernel
theorem c_2_34 : pg_cd 2 34 = (57, 10, 0, 0, 0) := by decide +kernel
theorem c_2_35 : pg_cd 2 35 = (5, 1, 0, 0, 0) := by decide +kernel
theorem c_2_36 : pg_cd 2 36 = (45, 0, 11, 0, 0) := by decide +kernel
theorem c_2_39 : pg_cd 2 39 = (3, 1, 0, 1, 0) := by decide +kernel
theorem c_2_40 : pg_cd 2 40 = (53, 10, 0, 0, 0) := by decide +kernel
theorem c_2_41 : pg_cd 2 41 = (80, 138, 18, 0, 0) := by decide +kernel
theorem c_2_44 : pg_cd 2 44 = (5, 1, 0, 0, 0) := by decide +kernel
theorem c_2_45 : pg_cd 2 45 = (45, 0, 11, 0, 0) := by decide +kernel
theorem c_2_48 : pg_cd 2 48 = (3, 1, 0, 1, 0) := by decide +kernel
theorem c_2_49 : pg_cd 2 49 = (53, 10, 0, 0, 0) := by decide +kernel
theorem c_2_50 : pg_cd 2 50 = (93, 0, 0, 0, 0) := by decide +kernel
theorem mx_2 : pg_mx 2 = 2 := by decide +kernel
theorem m_2 {d : Nat} {h : ab_H} {Q : Option Value → ab_H → Prop} {x0 : Nat} {x1 : Int32} (t : wq d 2 0 [.ref x0, .int x1] [] h Q) : wm d 2 [.ref x0, .int x1] h Q := by
  unfold wm
  rw [mx_2]
  exact t
set_option maxRecDepth 20000 in
theorem t_2_0 {d : Nat} {h : ab_H} {Q : Option Value → ab_H → Prop} {x0 : Nat} {x1 : Int32} (t : if x1 < 0 then (Q (some (.null)) h) else (if x1 < 400 then (ab_ok h x0 100 = true ∧ ∃ j1 : Nat, ab_r h x0 0 = some j1 ∧ (ab_ok h j1 13 = true ∧ ab_in x1 (ab_s h j1).2 = true) ∧ ((ab_r h j1 (Int32.toNatClampNeg x1) = none → ab_ok h x0 100 = true ∧ ∃ j3 : Nat, ab_r h x0 0 = some j3 ∧ ∀ h4 : ab_H, h4 = ab_new h 110 0 9 → ab_ok h4 (ab_n h) 110 = true ∧ wm d 137 [.ref ((ab_n h))] h4 (fun r9 h9 => wq (d + 1) 2 34 [.ref x0, .int x1] (r9.toList ++ [.ref (ab_n h), .int x1, .ref j3]) h9 Q)) ∧ ∀ j2 : Nat, ab_r h j1 (Int32.toNatClampNeg x1) = some j2 → ab_ok h x0 100 = true ∧ ∃ j5 : Nat, ab_r h x0 0 = some j5 ∧ (ab_ok h j5 13 = true ∧ ab_in x1 (ab_s h j5).2 = true) ∧ ((ab_r h j5 (Int32.toNatClampNeg x1) = none → False) ∧ ∀ j6 : Nat, ab_r h j5 (Int32.toNatClampNeg x1) = some j6 → ab_ok h j6 110 = true ∧ wm d 138 [.ref j6] h (fun r9 h9 => wq (d + 1) 2 44 [.ref x0, .int x1] (r9.toList ++ []) h9 Q)))) else (Q (some (.null)) h))) : wq (d + 1) 2 0 [.ref x0, .int x1] [] h Q := by
  refine g3 c_2_0 rfl ?_
  refine gif c_2_1 (gbr t rfl rfl (fun hc t => ?_) (fun hc t => ?_))
  · refine g41 c_2_11 ?_
    exact g93n c_2_12 t
  · refine g3 c_2_4 rfl ?_
    refine g1 c_2_5 k_400 ?_
    refine gcm c_2_8 (gbr t rfl rfl (fun hc t => ?_) (fun hc t => ?_))
    · refine g5 c_2_13 rfl ?_
      obtain ⟨ho, j1, hr, t⟩ := t
      refine g45 c_2_14 ho hr ?_
      refine g3 c_2_17 rfl ?_
      obtain ⟨ho, t⟩ := t
      refine g53b c_2_18 ho (fun hr => ?_) (fun j2 hr => ?_)
      · have t := t.1 hr
        refine g40n c_2_19 ?_
        refine g5 c_2_22 rfl ?_
        obtain ⟨ho, j3, hr, t⟩ := t
        refine g45 c_2_23 ho hr ?_
        refine g3 c_2_26 rfl ?_
        refine g60 c_2_27 (fun h4 eh4 => ?_)
        have t := t h4 eh4
        refine g33a c_2_30 ?_
        exact g80 (As := []) (rest := [.ref (ab_n h), .int x1, .ref j3]) c_2_31 rfl rfl (Nat.le_of_ble_eq_true rfl) (Nat.le_of_ble_eq_true rfl) t.1 t.2
      · have t := t.2 _ hr
        refine g40a c_2_19 rfl ?_
        refine g5 c_2_35 rfl ?_
        obtain ⟨ho, j5, hr, t⟩ := t
        refine g45 c_2_36 ho hr ?_
        refine g3 c_2_39 rfl ?_
        obtain ⟨ho, t⟩ := t
        refine g53b c_2_40 ho (fun hr => ?_) (fun j6 hr => ?_)
        · have t := t.1 hr
          exact t.elim
        · have t := t.2 _ hr
          exact g80 (As := []) (rest := []) c_2_41 rfl rfl (Nat.le_of_ble_eq_true rfl) (Nat.le_of_ble_eq_true rfl) t.1 t.2
    · refine g41 c_2_11 ?_
      exact g93n c_2_12 t
set_option maxRecDepth 20000 in
theorem t_2_34 {d : Nat} {h : ab_H} {Q : Option Value → ab_H → Prop} {x0 : Nat} {x1 : Int32} {s0 : Nat} {s1 : Int32} {s2 : Nat} (t : ((ab_ok h s0 13 = true ∧ ab_ok h s2 110 = true) ∧ ab_in s1 (ab_s h s0).2 = true) ∧ ∀ h1 : ab_H, h1 = ab_pr h s0 (Int32.toNatClampNeg s1) (some s2) → ab_ok h1 x0 100 = true ∧ ∃ j2 : Nat, ab_r h1 x0 0 = some j2 ∧ (ab_ok h1 j2 13 = true ∧ ab_in x1 (ab_s h1 j2).2 = true) ∧ ((ab_r h1 j2 (Int32.toNatClampNeg x1) = none → False) ∧ ∀ j3 : Nat, ab_r h1 j2 (Int32.toNatClampNeg x1) = some j3 → ab_ok h1 j3 110 = true ∧ wm d 138 [.ref j3] h1 (fun r9 h9 => wq (d + 1) 2 44 [.ref x0, .int x1] (r9.toList ++ []) h9 Q))) : wq (d + 1) 2 34 [.ref x0, .int x1] [.ref s2, .int s1, .ref s0] h Q := by
  obtain ⟨ho, t⟩ := t
  refine g57 c_2_34 ho (fun h1 eh1 => ?_)
  have t := t h1 eh1
  refine g5 c_2_35 rfl ?_
  obtain ⟨ho, j2, hr, t⟩ := t
  refine g45 c_2_36 ho hr ?_
  refine g3 c_2_39 rfl ?_
  obtain ⟨ho, t⟩ := t
  refine g53b c_2_40 ho (fun hr => ?_) (fun j3 hr => ?_)
  · have t := t.1 hr
    exact t.elim
  · have t := t.2 _ hr
    exact g80 (As := []) (rest := []) c_2_41 rfl rfl (Nat.le_of_ble_eq_true rfl) (Nat.le_of_ble_eq_true rfl) t.1 t.2
set_option maxRecDepth 20000 in
theorem t_2_44 {d : Nat} {h : ab_H} {Q : Option Value → ab_H → Prop} {x0 : Nat} {x1 : Int32} (t : ab_ok h x0 100 = true ∧ ∃ j1 : Nat, ab_r h x0 0 = some j1 ∧ (ab_ok h j1 13 = true ∧ ab_in x1 (ab_s h j1).2 = true) ∧ ((ab_r h j1 (Int32.toNatClampNeg x1) = none → Q (some (.null)) h) ∧ ∀ j2 : Nat, ab_r h j1 (Int32.toNatClampNeg x1) = some j2 → Q (some (.ref j2)) h)) : wq d 2 44 [.ref x0, .int x1] [] h Q := by
  refine g5 c_2_44 rfl ?_
  obtain ⟨ho, j1, hr, t⟩ := t
  refine g45 c_2_45 ho hr ?_
  refine g3 c_2_48 rfl ?_
  obtain ⟨ho, t⟩ := t
  refine g53b c_2_49 ho (fun hr => ?_) (fun j2 hr => ?_)
  · have t := t.1 hr
    exact g93n c_2_50 t
  · have t := t.2 _ hr
    exact g93a c_2_50 t
-- method 3: MillTown$Books.earnedIn(II)I
theorem c_3_0 : pg_cd 3 0 = (5, 1, 0, 0, 0) := by decide +kernel
theorem c_3_1 : pg_cd 3 1 = (3, 1, 0, 1, 0) := by decide +kernel
theorem c_3_2 : pg_cd 3 2 = (80, 1, 21, 0, 0) := by decide +kernel
theorem c_3_5 : pg_cd 3 5 = (8, 1, 0, 3, 0) := by decide +kernel
theorem c_3_6 : pg_cd 3 6 = (5, 1, 0, 3, 0) := by decide +kernel
theorem c_3_7 : pg_cd 3 7 = (39, 3, 0, 0, 13) := by decide +kernel
theorem c_3_10 : pg_cd 3 10 = (3, 1, 0, 2, 0) := by decide +kernel
theorem c_3_11 : pg_cd 3 11 = (36, 3, 0, 2, 9) := by decide +kernel
theorem c_3_14 : pg_cd 3 14 = (3, 1, 0, 2, 0) := by decide +kernel
theorem c_3_15 : pg_cd 3 15 = (1, 2, 0, 0, 24) := by decide +kernel
theorem c_3_17 : pg_cd 3 17 = (37, 3, 0, 2, 7) := by decide +kernel
theorem c_3_20 : pg_cd 3 20 = (1, 1, 0, 0, 0) := by decide +kernel
theorem c_3_21 : pg_cd 3 21 = (38, 3, 0, 0, 9) := by decide +kernel
theorem c_3_24 : pg_cd 3 24 = (5, 1, 0, 3, 0) := by decide +kernel
theorem c_3_25 : pg_cd 3 25 = (45, 10, 25, 3, 0) := by decide +kernel
theorem c_3_28 : pg_cd 3 28 = (3, 1, 0, 2, 0) := by decide +kernel
theorem c_3_29 : pg_cd 3 29 = (50, 1, 0, 0, 0) := by decide +kernel
theorem c_3_30 : pg_cd 3 30 = (90, 0, 0, 0, 0) := by decide +kernel
theorem mx_3 : pg_mx 3 = 4 := by decide +kernel
theorem m_3 {d : Nat} {h : ab_H} {Q : Option Value → ab_H → Prop} {x0 : Nat} {x1 : Int32} {x2 : Int32} (t : wq d 3 0 [.ref x0, .int x1, .int x2, .retAddr 0] [] h Q) : wm d 3 [.ref x0, .int x1, .int x2] h Q := by
  unfold wm
  rw [mx_3]
  exact t
set_option maxRecDepth 20000 in
theorem t_3_0 {d : Nat} {h : ab_H} {Q : Option Value → ab_H → Prop} {x0 : Nat} {x1 : Int32} {x2 : Int32} (t : ab_ok h x0 100 = true ∧ wm d 1 [.ref x0, .int x1] h (fun r9 h9 => wq (d + 1) 3 5 [.ref x0, .int x1, .int x2, .retAddr 0] (r9.toList ++ []) h9 Q)) : wq (d + 1) 3 0 [.ref x0, .int x1, .int x2, .retAddr 0] [] h Q := by
  refine g5 c_3_0 rfl ?_
  refine g3 c_3_1 rfl ?_
  exact g80 (As := [.int x1]) (rest := []) c_3_2 rfl rfl (Nat.le_of_ble_eq_true rfl) (Nat.le_of_ble_eq_true rfl) t.1 t.2
set_option maxRecDepth 20000 in
theorem t_3_5 {d : Nat} {h : ab_H} {Q : Option Value → ab_H → Prop} {x0 : Nat} {x1 : Int32} {x2 : Int32} {s0 : Nat} (t : if x2 < 0 then (Q (some (.int 0)) h) else (if x2 < 24 then (ab_ok h s0 110 = true ∧ ∃ j1 : Nat, ab_r h s0 3 = some j1 ∧ ((j1 = 0 ∨ ab_ok h j1 0 = true) ∧ ab_in x2 (ab_s h j1).2 = true) ∧ Q (some (.int (ab_i h j1 (Int32.toNatClampNeg x2)))) h) else (Q (some (.int 0)) h))) : wq d 3 5 [.ref x0, .int x1, .int x2, .retAddr 0] [.ref s0] h Q := by
  refine g8 (L' := [.ref x0, .int x1, .int x2, .ref s0]) c_3_5 rfl ?_
  refine g5 c_3_6 rfl ?_
  refine g39a c_3_7 ?_
  refine g3 c_3_10 rfl ?_
  refine gif c_3_11 (gbr t rfl rfl (fun hc t => ?_) (fun hc t => ?_))
  · refine g1 c_3_20 k_0 ?_
    refine g38 c_3_21 rfl ?_
    exact g90 c_3_30 t
  · refine g3 c_3_14 rfl ?_
    refine g1 c_3_15 k_24 ?_
    refine gcm c_3_17 (gbr t rfl rfl (fun hc t => ?_) (fun hc t => ?_))
    · refine g5 c_3_24 rfl ?_
      obtain ⟨ho, j1, hr, t⟩ := t
      refine g45 c_3_25 ho hr ?_
      refine g3 c_3_28 rfl ?_
      obtain ⟨ho, t⟩ := t
      refine g50 c_3_29 ho ?_
      exact g90 c_3_30 t
    · refine g1 c_3_20 k_0 ?_
      refine g38 c_3_21 rfl ?_
      exact g90 c_3_30 t
-- method 4: MillTown$Books.hungerIn(II)I
theorem c_4_0 : pg_cd 4 0 = (5, 1, 0, 0, 0) := by decide +kernel
theorem c_4_1 : pg_cd 4 1 = (3, 1, 0, 1, 0) := by decide +kernel
theorem c_4_2 : pg_cd 4 2 = (80, 1, 21, 0, 0) := by decide +kernel
theorem c_4_5 : pg_cd 4 5 = (8, 1, 0, 3, 0) := by decide +kernel
theorem c_4_6 : pg_cd 4 6 = (5, 1, 0, 3, 0) := by decide +kernel
theorem c_4_7 : pg_cd 4 7 = (39, 3, 0, 0, 13) := by decide +kernel
theorem c_4_10 : pg_cd 4 10 = (3, 1, 0, 2, 0) := by decide +kernel
theorem c_4_11 : pg_cd 4 11 = (36, 3, 0, 2, 9) := by decide +kernel
theorem c_4_14 : pg_cd 4 14 = (3, 1, 0, 2, 0) := by decide +kernel
theorem c_4_15 : pg_cd 4 15 = (1, 2, 0, 0, 24) := by decide +kernel
theorem c_4_17 : pg_cd 4 17 = (37, 3, 0, 2, 7) := by decide +kernel
theorem c_4_20 : pg_cd 4 20 = (1, 1, 0, 0, 0) := by decide +kernel
theorem c_4_21 : pg_cd 4 21 = (38, 3, 0, 0, 9) := by decide +kernel
theorem c_4_24 : pg_cd 4 24 = (5, 1, 0, 3, 0) := by decide +kernel
theorem c_4_25 : pg_cd 4 25 = (45, 10, 29, 4, 0) := by decide +kernel
theorem c_4_28 : pg_cd 4 28 = (3, 1, 0, 2, 0) := by decide +kernel
theorem c_4_29 : pg_cd 4 29 = (50, 1, 0, 0, 0) := by decide +kernel
theorem c_4_30 : pg_cd 4 30 = (90, 0, 0, 0, 0) := by decide +kernel
theorem mx_4 : pg_mx 4 = 4 := by decide +kernel
theorem m_4 {d : Nat} {h : ab_H} {Q : Option Value → ab_H → Prop} {x0 : Nat} {x1 : Int32} {x2 : Int32} (t : wq d 4 0 [.ref x0, .int x1, .int x2, .retAddr 0] [] h Q) : wm d 4 [.ref x0, .int x1, .int x2] h Q := by
  unfold wm
  rw [mx_4]
  exact t
set_option maxRecDepth 20000 in
theorem t_4_0 {d : Nat} {h : ab_H} {Q : Option Value → ab_H → Prop} {x0 : Nat} {x1 : Int32} {x2 : Int32} (t : ab_ok h x0 100 = true ∧ wm d 1 [.ref x0, .int x1] h (fun r9 h9 => wq (d + 1) 4 5 [.ref x0, .int x1, .int x2, .retAddr 0] (r9.toList ++ []) h9 Q)) : wq (d + 1) 4 0 [.ref x0, .int x1, .int x2, .retAddr 0] [] h Q := by
  refine g5 c_4_0 rfl ?_
  refine g3 c_4_1 rfl ?_
  exact g80 (As := [.int x1]) (rest := []) c_4_2 rfl rfl (Nat.le_of_ble_eq_true rfl) (Nat.le_of_ble_eq_true rfl) t.1 t.2
set_option maxRecDepth 20000 in
theorem t_4_5 {d : Nat} {h : ab_H} {Q : Option Value → ab_H → Prop} {x0 : Nat} {x1 : Int32} {x2 : Int32} {s0 : Nat} (t : if x2 < 0 then (Q (some (.int 0)) h) else (if x2 < 24 then (ab_ok h s0 110 = true ∧ ∃ j1 : Nat, ab_r h s0 4 = some j1 ∧ ((j1 = 0 ∨ ab_ok h j1 0 = true) ∧ ab_in x2 (ab_s h j1).2 = true) ∧ Q (some (.int (ab_i h j1 (Int32.toNatClampNeg x2)))) h) else (Q (some (.int 0)) h))) : wq d 4 5 [.ref x0, .int x1, .int x2, .retAddr 0] [.ref s0] h Q := by
  refine g8 (L' := [.ref x0, .int x1, .int x2, .ref s0]) c_4_5 rfl ?_
  refine g5 c_4_6 rfl ?_
  refine g39a c_4_7 ?_
  refine g3 c_4_10 rfl ?_
  refine gif c_4_11 (gbr t rfl rfl (fun hc t => ?_) (fun hc t => ?_))
  · refine g1 c_4_20 k_0 ?_
    refine g38 c_4_21 rfl ?_
    exact g90 c_4_30 t
  · refine g3 c_4_14 rfl ?_
    refine g1 c_4_15 k_24 ?_
    refine gcm c_4_17 (gbr t rfl rfl (fun hc t => ?_) (fun hc t => ?_))
    · refine g5 c_4_24 rfl ?_
      obtain ⟨ho, j1, hr, t⟩ := t
      refine g45 c_4_25 ho hr ?_
      refine g3 c_4_28 rfl ?_
      obtain ⟨ho, t⟩ := t
      refine g50 c_4_29 ho ?_
      exact g90 c_4_30 t
    · refine g1 c_4_20 k_0 ?_
      refine g38 c_4_21 rfl ?_
      exact g90 c_4_30 t
-- method 5: MillTown$Books.loafFact(LMillTown$Town;II)I
theorem c_5_0 : pg_cd 5 0 = (1, 1, 0, 0, 0) := by decide +kernel
theorem c_5_1 : pg_cd 5 1 = (6, 2, 0, 4, 0) := by decide +kernel
theorem c_5_3 : pg_cd 5 3 = (1, 1, 0, 0, 0) := by decide +kernel
theorem c_5_4 : pg_cd 5 4 = (6, 2, 0, 5, 0) := by decide +kernel
theorem c_5_6 : pg_cd 5 6 = (3, 2, 0, 5, 0) := by decide +kernel
theorem c_5_8 : pg_cd 5 8 = (5, 1, 0, 1, 0) := by decide +kernel
theorem c_5_9 : pg_cd 5 9 = (43, 8, 32, 8, 0) := by decide +kernel
theorem c_5_12 : pg_cd 5 12 = (37, 3, 0, 3, 79) := by decide +kernel
theorem c_5_15 : pg_cd 5 15 = (5, 1, 0, 0, 0) := by decide +kernel
theorem c_5_16 : pg_cd 5 16 = (3, 2, 0, 5, 0) := by decide +kernel
theorem c_5_18 : pg_cd 5 18 = (80, 1, 21, 0, 0) := by decide +kernel
theorem c_5_21 : pg_cd 5 21 = (8, 2, 0, 6, 0) := by decide +kernel
theorem c_5_23 : pg_cd 5 23 = (5, 2, 0, 6, 0) := by decide +kernel
theorem c_5_25 : pg_cd 5 25 = (40, 3, 0, 0, 7) := by decide +kernel
theorem c_5_28 : pg_cd 5 28 = (1, 1, 0, 0, 0) := by decide +kernel
theorem c_5_29 : pg_cd 5 29 = (38, 3, 0, 0, 8) := by decide +kernel
theorem c_5_32 : pg_cd 5 32 = (5, 2, 0, 6, 0) := by decide +kernel
theorem c_5_34 : pg_cd 5 34 = (43, 10, 38, 7, 0) := by decide +kernel
theorem c_5_37 : pg_cd 5 37 = (6, 2, 0, 7, 0) := by decide +kernel
theorem c_5_39 : pg_cd 5 39 = (5, 2, 0, 6, 0) := by decide +kernel
theorem c_5_41 : pg_cd 5 41 = (39, 3, 0, 0, 37) := by decide +kernel
theorem c_5_44 : pg_cd 5 44 = (3, 1, 0, 2, 0) := by decide +kernel
theorem c_5_45 : pg_cd 5 45 = (3, 2, 0, 4, 0) := by decide +kernel
theorem c_5_47 : pg_cd 5 47 = (11, 1, 0, 0, 0) := by decide +kernel
theorem c_5_48 : pg_cd 5 48 = (3, 2, 0, 7, 0) := by decide +kernel
theorem c_5_50 : pg_cd 5 50 = (37, 3, 0, 3, 28) := by decide +kernel
theorem c_5_53 : pg_cd 5 53 = (3, 1, 0, 3, 0) := by decide +kernel
theorem c_5_54 : pg_cd 5 54 = (1, 1, 0, 0, 1) := by decide +kernel
theorem c_5_55 : pg_cd 5 55 = (37, 3, 0, 1, 8) := by decide +kernel
theorem c_5_58 : pg_cd 5 58 = (3, 2, 0, 5, 0) := by decide +kernel
theorem c_5_60 : pg_cd 5 60 = (38, 3, 0, 0, 17) := by decide +kernel
theorem c_5_63 : pg_cd 5 63 = (5, 2, 0, 6, 0) := by decide +kernel
theorem c_5_65 : pg_cd 5 65 = (5, 1, 0, 1, 0) := by decide +kernel
theorem c_5_66 : pg_cd 5 66 = (45, 8, 41, 5, 0) := by decide +kernel
theorem c_5_69 : pg_cd 5 69 = (3, 1, 0, 2, 0) := by decide +kernel
theorem c_5_70 : pg_cd 5 70 = (3, 2, 0, 4, 0) := by decide +kernel
theorem c_5_72 : pg_cd 5 72 = (11, 1, 0, 0, 0) := by decide +kernel
theorem c_5_73 : pg_cd 5 73 = (3, 1, 0, 3, 0) := by decide +kernel
theorem c_5_74 : pg_cd 5 74 = (81, 6, 45, 0, 0) := by decide +kernel
theorem c_5_77 : pg_cd 5 77 = (90, 0, 0, 0, 0) := by decide +kernel
theorem c_5_78 : pg_cd 5 78 = (3, 2, 0, 4, 0) := by decide +kernel
theorem c_5_80 : pg_cd 5 80 = (3, 2, 0, 7, 0) := by decide +kernel
theorem c_5_82 : pg_cd 5 82 = (10, 1, 0, 0, 0) := by decide +kernel
theorem c_5_83 : pg_cd 5 83 = (6, 2, 0, 4, 0) := by decide +kernel
theorem c_5_85 : pg_cd 5 85 = (9, 3, 0, 5, 1) := by decide +kernel
theorem c_5_88 : pg_cd 5 88 = (38, 3, 0, 0, (-82)) := by decide +kernel
theorem c_5_91 : pg_cd 5 91 = (1, 1, 0, 0, (-1)) := by decide +kernel
theorem c_5_92 : pg_cd 5 92 = (90, 0, 0, 0, 0) := by decide +kernel
theorem mx_5 : pg_mx 5 = 8 := by decide +kernel
theorem m_5 {d : Nat} {h : ab_H} {Q : Option Value → ab_H → Prop} {x0 : Nat} {x1 : Nat} {x2 : Int32} {x3 : Int32} (t : wq d 5 0 [.ref x0, .ref x1, .int x2, .int x3, .retAddr 0, .retAddr 0, .retAddr 0, .retAddr 0] [] h Q) : wm d 5 [.ref x0, .ref x1, .int x2, .int x3] h Q := by
  unfold wm
  rw [mx_5]
  exact t
set_option maxRecDepth 20000 in
theorem t_5_0 {d : Nat} {h : ab_H} {Q : Option Value → ab_H → Prop} {x0 : Nat} {x1 : Nat} {x2 : Int32} {x3 : Int32} (t : wq d 5 6 [.ref x0, .ref x1, .int x2, .int x3, .int 0, .int 0, .retAddr 0, .retAddr 0] [] h Q) : wq d 5 0 [.ref x0, .ref x1, .int x2, .int x3, .retAddr 0, .retAddr 0, .retAddr 0, .retAddr 0] [] h Q := by
  refine g1 c_5_0 k_0 ?_
  refine g6 (L' := [.ref x0, .ref x1, .int x2, .int x3, .int 0, .retAddr 0, .retAddr 0, .retAddr 0]) c_5_1 rfl ?_
  refine g1 c_5_3 k_0 ?_
  refine g6 (L' := [.ref x0, .ref x1, .int x2, .int x3, .int 0, .int 0, .retAddr 0, .retAddr 0]) c_5_4 rfl ?_
  exact t
set_option maxRecDepth 20000 in
theorem t_5_6 {d : Nat} {h : ab_H} {Q : Option Value → ab_H → Prop} {x0 : Nat} {x1 : Nat} {x2 : Int32} {x3 : Int32} {x4 : Int32} {x5 : Int32} (t : ab_ok h x1 108 = true ∧ if (ab_i h x1 8) ≤ x5 then (Q (some (.int (-1))) h) else (ab_ok h x0 100 = true ∧ wm d 1 [.ref x0, .int x5] h (fun r9 h9 => wq (d + 1) 5 21 [.ref x0, .ref x1, .int x2, .int x3, .int x4, .int x5, .retAddr 0, .retAddr 0] (r9.toList ++ []) h9 Q))) : wq (d + 1) 5 6 [.ref x0, .ref x1, .int x2, .int x3, .int x4, .int x5, .retAddr 0, .retAddr 0] [] h Q := by
  refine g3 c_5_6 rfl ?_
  refine g5 c_5_8 rfl ?_
  obtain ⟨ho, t⟩ := t
  refine g43 c_5_9 ho ?_
  refine gcm c_5_12 (gbr t rfl rfl (fun hc t => ?_) (fun hc t => ?_))
  · refine g1 c_5_91 k_m1 ?_
    exact g90 c_5_92 t
  · refine g5 c_5_15 rfl ?_
    refine g3 c_5_16 rfl ?_
    exact g80 (As := [.int x5]) (rest := []) c_5_18 rfl rfl (Nat.le_of_ble_eq_true rfl) (Nat.le_of_ble_eq_true rfl) t.1 t.2
set_option maxRecDepth 20000 in
theorem t_5_21 {d : Nat} {h : ab_H} {Q : Option Value → ab_H → Prop} {x0 : Nat} {x1 : Nat} {x2 : Int32} {x3 : Int32} {x4 : Int32} {x5 : Int32} {s0 : Nat} (t : ab_ok h s0 110 = true ∧ if (ab_i h s0 7) ≤ (x2 - x4) then (wq (d + 1) 5 6 [.ref x0, .ref x1, .int x2, .int x3, .int (x4 + (ab_i h s0 7)), .int (x5 + 1), .ref s0, .int (ab_i h s0 7)] [] h Q) else (if x3 = 1 then (Q (some (.int x5)) h) else (ab_ok h x1 108 = true ∧ ∃ j1 : Nat, ab_r h x1 5 = some j1 ∧ wm d 6 [.ref s0, .ref j1, .int (x2 - x4), .int x3] h (fun r9 h9 => wq (d + 1) 5 77 [.ref x0, .ref x1, .int x2, .int x3, .int x4, .int x5, .ref s0, .int (ab_i h s0 7)] (r9.toList ++ []) h9 Q)))) : wq (d + 1) 5 21 [.ref x0, .ref x1, .int x2, .int x3, .int x4, .int x5, .retAddr 0, .retAddr 0] [.ref s0] h Q := by
  refine g8 (L' := [.ref x0, .ref x1, .int x2, .int x3, .int x4, .int x5, .ref s0, .retAddr 0]) c_5_21 rfl ?_
  refine g5 c_5_23 rfl ?_
  refine g40a c_5_25 rfl ?_
  refine g5 c_5_32 rfl ?_
  obtain ⟨ho, t⟩ := t
  refine g43 c_5_34 ho ?_
  refine g6 (L' := [.ref x0, .ref x1, .int x2, .int x3, .int x4, .int x5, .ref s0, .int (ab_i h s0 7)]) c_5_37 rfl ?_
  refine g5 c_5_39 rfl ?_
  refine g39a c_5_41 ?_
  refine g3 c_5_44 rfl ?_
  refine g3 c_5_45 rfl ?_
  refine g11 c_5_47 ?_
  refine g3 c_5_48 rfl ?_
  refine gcm c_5_50 (gbr t rfl rfl (fun hc t => ?_) (fun hc t => ?_))
  · refine g3 c_5_78 rfl ?_
    refine g3 c_5_80 rfl ?_
    refine g10 c_5_82 ?_
    refine g6 (L' := [.ref x0, .ref x1, .int x2, .int x3, .int (x4 + (ab_i h s0 7)), .int x5, .ref s0, .int (ab_i h s0 7)]) c_5_83 rfl ?_
    refine g9 (L' := [.ref x0, .ref x1, .int x2, .int x3, .int (x4 + (ab_i h s0 7)), .int (x5 + 1), .ref s0, .int (ab_i h s0 7)]) c_5_85 rfl k_1 rfl ?_
    refine g38 c_5_88 rfl ?_
    exact t
  · refine g3 c_5_53 rfl ?_
    refine g1 c_5_54 k_1 ?_
    refine gcm c_5_55 (gbn t (ab_c1 _ _) rfl (fun hc t => ?_) (fun hc t => ?_))
    · refine g3 c_5_58 rfl ?_
      refine g38 c_5_60 rfl ?_
      exact g90 c_5_77 t
    · refine g5 c_5_63 rfl ?_
      refine g5 c_5_65 rfl ?_
      obtain ⟨ho, j1, hr, t⟩ := t
      refine g45 c_5_66 ho hr ?_
      refine g3 c_5_69 rfl ?_
      refine g3 c_5_70 rfl ?_
      refine g11 c_5_72 ?_
      refine g3 c_5_73 rfl ?_
      exact g81 (As := [.ref s0, .ref j1, .int (x2 - x4), .int x3]) (rest := []) c_5_74 rfl rfl (Nat.le_of_ble_eq_true rfl) (Nat.le_of_ble_eq_true rfl) t
set_option maxRecDepth 20000 in
theorem t_5_77 {d : Nat} {h : ab_H} {Q : Option Value → ab_H → Prop} {x0 : Nat} {x1 : Nat} {x2 : Int32} {x3 : Int32} {x4 : Int32} {x5 : Int32} {x6 : Nat} {x7 : Int32} {s0 : Int32} (t : Q (some (.int s0)) h) : wq d 5 77 [.ref x0, .ref x1, .int x2, .int x3, .int x4, .int x5, .ref x6, .int x7] [.int s0] h Q := by
  exact g90 c_5_77 t
-- method 6: MillTown$Books.factIn(LMillTown$WeekBook;LMillTown$Rows;II)I
theorem c_6_0 : pg_cd 6 0 = (1, 1, 0, 0, 0) := by decide +kernel
theorem c_6_1 : pg_cd 6 1 = (6, 2, 0, 4, 0) := by decide +kernel
theorem c_6_3 : pg_cd 6 3 = (3, 1, 0, 2, 0) := by decide +kernel
theorem c_6_4 : pg_cd 6 4 = (6, 2, 0, 5, 0) := by decide +kernel
theorem c_6_6 : pg_cd 6 6 = (3, 2, 0, 4, 0) := by decide +kernel
theorem c_6_8 : pg_cd 6 8 = (1, 2, 0, 0, 23) := by decide +kernel
theorem c_6_10 : pg_cd 6 10 = (37, 3, 0, 3, 49) := by decide +kernel
theorem c_6_13 : pg_cd 6 13 = (3, 2, 0, 5, 0) := by decide +kernel
theorem c_6_15 : pg_cd 6 15 = (5, 1, 0, 0, 0) := by decide +kernel
theorem c_6_16 : pg_cd 6 16 = (45, 10, 49, 5, 0) := by decide +kernel
theorem c_6_19 : pg_cd 6 19 = (3, 2, 0, 4, 0) := by decide +kernel
theorem c_6_21 : pg_cd 6 21 = (50, 1, 0, 0, 0) := by decide +kernel
theorem c_6_22 : pg_cd 6 22 = (5, 1, 0, 0, 0) := by decide +kernel
theorem c_6_23 : pg_cd 6 23 = (45, 10, 52, 6, 0) := by decide +kernel
theorem c_6_26 : pg_cd 6 26 = (3, 2, 0, 4, 0) := by decide +kernel
theorem c_6_28 : pg_cd 6 28 = (50, 1, 0, 0, 0) := by decide +kernel
theorem c_6_29 : pg_cd 6 29 = (10, 1, 0, 0, 0) := by decide +kernel
theorem c_6_30 : pg_cd 6 30 = (37, 3, 0, 2, 29) := by decide +kernel
theorem c_6_33 : pg_cd 6 33 = (3, 2, 0, 5, 0) := by decide +kernel
theorem c_6_35 : pg_cd 6 35 = (5, 1, 0, 0, 0) := by decide +kernel
theorem c_6_36 : pg_cd 6 36 = (45, 10, 49, 5, 0) := by decide +kernel
theorem c_6_39 : pg_cd 6 39 = (3, 2, 0, 4, 0) := by decide +kernel
theorem c_6_41 : pg_cd 6 41 = (50, 1, 0, 0, 0) := by decide +kernel
theorem c_6_42 : pg_cd 6 42 = (5, 1, 0, 0, 0) := by decide +kernel
theorem c_6_43 : pg_cd 6 43 = (45, 10, 52, 6, 0) := by decide +kernel
theorem c_6_46 : pg_cd 6 46 = (3, 2, 0, 4, 0) := by decide +kernel
theorem c_6_48 : pg_cd 6 48 = (50, 1, 0, 0, 0) := by decide +kernel
theorem c_6_49 : pg_cd 6 49 = (10, 1, 0, 0, 0) := by decide +kernel
theorem c_6_50 : pg_cd 6 50 = (11, 1, 0, 0, 0) := by decide +kernel
theorem c_6_51 : pg_cd 6 51 = (6, 2, 0, 5, 0) := by decide +kernel
theorem c_6_53 : pg_cd 6 53 = (9, 3, 0, 4, 1) := by decide +kernel
theorem c_6_56 : pg_cd 6 56 = (38, 3, 0, 0, (-50)) := by decide +kernel
theorem c_6_59 : pg_cd 6 59 = (3, 1, 0, 3, 0) := by decide +kernel
theorem c_6_60 : pg_cd 6 60 = (36, 3, 0, 1, 6) := by decide +kernel
theorem c_6_63 : pg_cd 6 63 = (3, 2, 0, 4, 0) := by decide +kernel
theorem c_6_65 : pg_cd 6 65 = (90, 0, 0, 0, 0) := by decide +kernel
theorem c_6_66 : pg_cd 6 66 = (5, 1, 0, 0, 0) := by decide +kernel
theorem c_6_67 : pg_cd 6 67 = (5, 1, 0, 1, 0) := by decide +kernel
theorem c_6_68 : pg_cd 6 68 = (3, 2, 0, 4, 0) := by decide +kernel
theorem c_6_70 : pg_cd 6 70 = (3, 2, 0, 5, 0) := by decide +kernel
theorem c_6_72 : pg_cd 6 72 = (80, 139, 55, 0, 0) := by decide +kernel
theorem c_6_75 : pg_cd 6 75 = (6, 2, 0, 6, 0) := by decide +kernel
theorem c_6_77 : pg_cd 6 77 = (3, 1, 0, 3, 0) := by decide +kernel
theorem c_6_78 : pg_cd 6 78 = (1, 1, 0, 0, 2) := by decide +kernel
theorem c_6_79 : pg_cd 6 79 = (37, 3, 0, 0, 15) := by decide +kernel
theorem c_6_82 : pg_cd 6 82 = (3, 2, 0, 6, 0) := by decide +kernel
theorem c_6_84 : pg_cd 6 84 = (36, 3, 0, 2, 10) := by decide +kernel
theorem c_6_87 : pg_cd 6 87 = (3, 2, 0, 6, 0) := by decide +kernel
theorem c_6_89 : pg_cd 6 89 = (1, 2, 0, 0, 60) := by decide +kernel
theorem c_6_91 : pg_cd 6 91 = (37, 3, 0, 2, 6) := by decide +kernel
theorem c_6_94 : pg_cd 6 94 = (3, 2, 0, 6, 0) := by decide +kernel
theorem c_6_96 : pg_cd 6 96 = (90, 0, 0, 0, 0) := by decide +kernel
theorem c_6_97 : pg_cd 6 97 = (5, 1, 0, 0, 0) := by decide +kernel
theorem c_6_98 : pg_cd 6 98 = (45, 10, 59, 1, 0) := by decide +kernel
theorem c_6_101 : pg_cd 6 101 = (3, 2, 0, 6, 0) := by decide +kernel
theorem c_6_103 : pg_cd 6 103 = (50, 1, 0, 0, 0) := by decide +kernel
theorem c_6_104 : pg_cd 6 104 = (6, 2, 0, 7, 0) := by decide +kernel
theorem c_6_106 : pg_cd 6 106 = (3, 1, 0, 3, 0) := by decide +kernel
theorem c_6_107 : pg_cd 6 107 = (1, 1, 0, 0, 3) := by decide +kernel
theorem c_6_108 : pg_cd 6 108 = (37, 3, 0, 0, 15) := by decide +kernel
theorem c_6_111 : pg_cd 6 111 = (3, 2, 0, 7, 0) := by decide +kernel
theorem c_6_113 : pg_cd 6 113 = (36, 3, 0, 2, 10) := by decide +kernel
theorem c_6_116 : pg_cd 6 116 = (3, 2, 0, 7, 0) := by decide +kernel
theorem c_6_118 : pg_cd 6 118 = (1, 2, 0, 0, 8) := by decide +kernel
theorem c_6_120 : pg_cd 6 120 = (37, 3, 0, 2, 6) := by decide +kernel
theorem c_6_123 : pg_cd 6 123 = (3, 2, 0, 7, 0) := by decide +kernel
theorem c_6_125 : pg_cd 6 125 = (90, 0, 0, 0, 0) := by decide +kernel
theorem c_6_126 : pg_cd 6 126 = (5, 1, 0, 0, 0) := by decide +kernel
theorem c_6_127 : pg_cd 6 127 = (45, 10, 62, 2, 0) := by decide +kernel
theorem c_6_130 : pg_cd 6 130 = (3, 2, 0, 7, 0) := by decide +kernel
theorem c_6_132 : pg_cd 6 132 = (50, 1, 0, 0, 0) := by decide +kernel
theorem c_6_133 : pg_cd 6 133 = (90, 0, 0, 0, 0) := by decide +kernel
theorem mx_6 : pg_mx 6 = 8 := by decide +kernel
theorem m_6 {d : Nat} {h : ab_H} {Q : Option Value → ab_H → Prop} {x0 : Nat} {x1 : Nat} {x2 : Int32} {x3 : Int32} (t : wq d 6 0 [.ref x0, .ref x1, .int x2, .int x3, .retAddr 0, .retAddr 0, .retAddr 0, .retAddr 0] [] h Q) : wm d 6 [.ref x0, .ref x1, .int x2, .int x3] h Q := by
  unfold wm
  rw [mx_6]
  exact t
set_option maxRecDepth 20000 in
theorem t_6_0 {d : Nat} {h : ab_H} {Q : Option Value → ab_H → Prop} {x0 : Nat} {x1 : Nat} {x2 : Int32} {x3 : Int32} (t : wq d 6 6 [.ref x0, .ref x1, .int x2, .int x3, .int 0, .int x2, .retAddr 0, .retAddr 0] [] h Q) : wq d 6 0 [.ref x0, .ref x1, .int x2, .int x3, .retAddr 0, .retAddr 0, .retAddr 0, .retAddr 0] [] h Q := by
  refine g1 c_6_0 k_0 ?_
  refine g6 (L' := [.ref x0, .ref x1, .int x2, .int x3, .int 0, .retAddr 0, .retAddr 0, .retAddr 0]) c_6_1 rfl ?_
  refine g3 c_6_3 rfl ?_
  refine g6 (L' := [.ref x0, .ref x1, .int x2, .int x3, .int 0, .int x2, .retAddr 0, .retAddr 0]) c_6_4 rfl ?_
  exact t
set_option maxRecDepth 20000 in
theorem t_6_6 {d : Nat} {h : ab_H} {Q : Option Value → ab_H → Prop} {x0 : Nat} {x1 : Nat} {x2 : Int32} {x3 : Int32} {x4 : Int32} {x5 : Int32} (t : if 23 ≤ x4 then (if x3 = 0 then (Q (some (.int x4)) h) else (ab_ok h x0 110 = true ∧ wm d 139 [.ref x0, .ref x1, .int x4, .int x5] h (fun r9 h9 => wq (d + 1) 6 75 [.ref x0, .ref x1, .int x2, .int x3, .int x4, .int x5, .retAddr 0, .retAddr 0] (r9.toList ++ []) h9 Q))) else (ab_ok h x0 110 = true ∧ ∃ j1 : Nat, ab_r h x0 5 = some j1 ∧ ((j1 = 0 ∨ ab_ok h j1 0 = true) ∧ ab_in x4 (ab_s h j1).2 = true) ∧ ab_ok h x0 110 = true ∧ ∃ j2 : Nat, ab_r h x0 6 = some j2 ∧ ((j2 = 0 ∨ ab_ok h j2 0 = true) ∧ ab_in x4 (ab_s h j2).2 = true) ∧ if x5 < ((ab_i h j1 (Int32.toNatClampNeg x4)) + (ab_i h j2 (Int32.toNatClampNeg x4))) then (if x3 = 0 then (Q (some (.int x4)) h) else (ab_ok h x0 110 = true ∧ wm d 139 [.ref x0, .ref x1, .int x4, .int x5] h (fun r9 h9 => wq (d + 1) 6 75 [.ref x0, .ref x1, .int x2, .int x3, .int x4, .int x5, .retAddr 0, .retAddr 0] (r9.toList ++ []) h9 Q))) else (ab_ok h x0 110 = true ∧ ∃ j3 : Nat, ab_r h x0 5 = some j3 ∧ ((j3 = 0 ∨ ab_ok h j3 0 = true) ∧ ab_in x4 (ab_s h j3).2 = true) ∧ ab_ok h x0 110 = true ∧ ∃ j4 : Nat, ab_r h x0 6 = some j4 ∧ ((j4 = 0 ∨ ab_ok h j4 0 = true) ∧ ab_in x4 (ab_s h j4).2 = true) ∧ ∀ y5 : Int32, y5 = (x5 - ((ab_i h j3 (Int32.toNatClampNeg x4)) + (ab_i h j4 (Int32.toNatClampNeg x4)))) → wq (d + 1) 6 6 [.ref x0, .ref x1, .int x2, .int x3, .int (x4 + 1), .int y5, .retAddr 0, .retAddr 0] [] h Q))) : wq (d + 1) 6 6 [.ref x0, .ref x1, .int x2, .int x3, .int x4, .int x5, .retAddr 0, .retAddr 0] [] h Q := by
  refine g3 c_6_6 rfl ?_
  refine g1 c_6_8 k_23 ?_
  refine gcm c_6_10 (gbr t rfl rfl (fun hc t => ?_) (fun hc t => ?_))
  · refine g3 c_6_59 rfl ?_
    refine gif c_6_60 (gbn t (ab_c1 _ _) rfl (fun hc t => ?_) (fun hc t => ?_))
    · refine g3 c_6_63 rfl ?_
      exact g90 c_6_65 t
    · refine g5 c_6_66 rfl ?_
      refine g5 c_6_67 rfl ?_
      refine g3 c_6_68 rfl ?_
      refine g3 c_6_70 rfl ?_
      exact g80 (As := [.ref x1, .int x4, .int x5]) (rest := []) c_6_72 rfl rfl (Nat.le_of_ble_eq_true rfl) (Nat.le_of_ble_eq_true rfl) t.1 t.2
  · refine g3 c_6_13 rfl ?_
    refine g5 c_6_15 rfl ?_
    obtain ⟨ho, j1, hr, t⟩ := t
    refine g45 c_6_16 ho hr ?_
    refine g3 c_6_19 rfl ?_
    obtain ⟨ho, t⟩ := t
    refine g50 c_6_21 ho ?_
    refine g5 c_6_22 rfl ?_
    obtain ⟨ho, j2, hr, t⟩ := t
    refine g45 c_6_23 ho hr ?_
    refine g3 c_6_26 rfl ?_
    obtain ⟨ho, t⟩ := t
    refine g50 c_6_28 ho ?_
    refine g10 c_6_29 ?_
    refine gcm c_6_30 (gbr t rfl rfl (fun hc t => ?_) (fun hc t => ?_))
    · refine g3 c_6_59 rfl ?_
      refine gif c_6_60 (gbn t (ab_c1 _ _) rfl (fun hc t => ?_) (fun hc t => ?_))
      · refine g3 c_6_63 rfl ?_
        exact g90 c_6_65 t
      · refine g5 c_6_66 rfl ?_
        refine g5 c_6_67 rfl ?_
        refine g3 c_6_68 rfl ?_
        refine g3 c_6_70 rfl ?_
        exact g80 (As := [.ref x1, .int x4, .int x5]) (rest := []) c_6_72 rfl rfl (Nat.le_of_ble_eq_true rfl) (Nat.le_of_ble_eq_true rfl) t.1 t.2
    · refine g3 c_6_33 rfl ?_
      refine g5 c_6_35 rfl ?_
      obtain ⟨ho, j3, hr, t⟩ := t
      refine g45 c_6_36 ho hr ?_
      refine g3 c_6_39 rfl ?_
      obtain ⟨ho, t⟩ := t
      refine g50 c_6_41 ho ?_
      refine g5 c_6_42 rfl ?_
      obtain ⟨ho, j4, hr, t⟩ := t
      refine g45 c_6_43 ho hr ?_
      refine g3 c_6_46 rfl ?_
      obtain ⟨ho, t⟩ := t
      refine g50 c_6_48 ho ?_
      refine g10 c_6_49 ?_
      refine g11 c_6_50 ?_
      refine g6y (Lf := fun y5 => [.ref x0, .ref x1, .int x2, .int x3, .int x4, .int y5, .retAddr 0, .retAddr 0]) c_6_51 (fun _ => rfl) (fun y5 ey5 => ?_)
      have t := t y5 ey5
      refine g9 (L' := [.ref x0, .ref x1, .int x2, .int x3, .int (x4 + 1), .int y5, .retAddr 0, .retAddr 0]) c_6_53 rfl k_1 rfl ?_
      refine g38 c_6_56 rfl ?_
      exact t
set_option maxRecDepth 20000 in
theorem t_6_75 {d : Nat} {h : ab_H} {Q : Option Value → ab_H → Prop} {x0 : Nat} {x1 : Nat} {x2 : Int32} {x3 : Int32} {x4 : Int32} {x5 : Int32} {s0 : Int32} (t : if x3 = 2 then (Q (some (.int s0)) h) else (if s0 < 0 then (Q (some (.int s0)) h) else (if s0 < 60 then (ab_ok h x0 110 = true ∧ ∃ j1 : Nat, ab_r h x0 1 = some j1 ∧ ((j1 = 0 ∨ ab_ok h j1 0 = true) ∧ ab_in s0 (ab_s h j1).2 = true) ∧ if x3 = 3 then (Q (some (.int (ab_i h j1 (Int32.toNatClampNeg s0)))) h) else (if (ab_i h j1 (Int32.toNatClampNeg s0)) < 0 then (Q (some (.int (ab_i h j1 (Int32.toNatClampNeg s0)))) h) else (if (ab_i h j1 (Int32.toNatClampNeg s0)) < 8 then (ab_ok h x0 110 = true ∧ ∃ j2 : Nat, ab_r h x0 2 = some j2 ∧ ((j2 = 0 ∨ ab_ok h j2 0 = true) ∧ ab_in (ab_i h j1 (Int32.toNatClampNeg s0)) (ab_s h j2).2 = true) ∧ Q (some (.int (ab_i h j2 (Int32.toNatClampNeg (ab_i h j1 (Int32.toNatClampNeg s0)))))) h) else (Q (some (.int (ab_i h j1 (Int32.toNatClampNeg s0)))) h)))) else (Q (some (.int s0)) h)))) : wq d 6 75 [.ref x0, .ref x1, .int x2, .int x3, .int x4, .int x5, .retAddr 0, .retAddr 0] [.int s0] h Q := by
  refine g6 (L' := [.ref x0, .ref x1, .int x2, .int x3, .int x4, .int x5, .int s0, .retAddr 0]) c_6_75 rfl ?_
  refine g3 c_6_77 rfl ?_
  refine g1 c_6_78 k_2 ?_
  refine gcm c_6_79 (gbr t rfl rfl (fun hc t => ?_) (fun hc t => ?_))
  · refine g3 c_6_94 rfl ?_
    exact g90 c_6_96 t
  · refine g3 c_6_82 rfl ?_
    refine gif c_6_84 (gbr t rfl rfl (fun hc t => ?_) (fun hc t => ?_))
    · refine g3 c_6_94 rfl ?_
      exact g90 c_6_96 t
    · refine g3 c_6_87 rfl ?_
      refine g1 c_6_89 k_60 ?_
      refine gcm c_6_91 (gbr t rfl rfl (fun hc t => ?_) (fun hc t => ?_))
      · refine g5 c_6_97 rfl ?_
        obtain ⟨ho, j1, hr, t⟩ := t
        refine g45 c_6_98 ho hr ?_
        refine g3 c_6_101 rfl ?_
        obtain ⟨ho, t⟩ := t
        refine g50 c_6_103 ho ?_
        refine g6 (L' := [.ref x0, .ref x1, .int x2, .int x3, .int x4, .int x5, .int s0, .int (ab_i h j1 (Int32.toNatClampNeg s0))]) c_6_104 rfl ?_
        refine g3 c_6_106 rfl ?_
        refine g1 c_6_107 k_3 ?_
        refine gcm c_6_108 (gbr t rfl rfl (fun hc t => ?_) (fun hc t => ?_))
        · refine g3 c_6_123 rfl ?_
          exact g90 c_6_125 t
        · refine g3 c_6_111 rfl ?_
          refine gif c_6_113 (gbr t rfl rfl (fun hc t => ?_) (fun hc t => ?_))
          · refine g3 c_6_123 rfl ?_
            exact g90 c_6_125 t
          · refine g3 c_6_116 rfl ?_
            refine g1 c_6_118 k_8 ?_
            refine gcm c_6_120 (gbr t rfl rfl (fun hc t => ?_) (fun hc t => ?_))
            · refine g5 c_6_126 rfl ?_
              obtain ⟨ho, j2, hr, t⟩ := t
              refine g45 c_6_127 ho hr ?_
              refine g3 c_6_130 rfl ?_
              obtain ⟨ho, t⟩ := t
              refine g50 c_6_132 ho ?_
              exact g90 c_6_133 t
            · refine g3 c_6_123 rfl ?_
              exact g90 c_6_125 t
      · refine g3 c_6_94 rfl ?_
        exact g90 c_6_96 t
-- method 7: MillTown$Books.sumWages(LMillTown$Town;I[I)V
theorem c_7_0 : pg_cd 7 0 = (5, 1, 0, 3, 0) := by decide +kernel
theorem c_7_1 : pg_cd 7 1 = (1, 1, 0, 0, 0) := by decide +kernel
theorem c_7_2 : pg_cd 7 2 = (81, 329, 65, 0, 0) := by decide +kernel
theorem c_7_5 : pg_cd 7 5 = (5, 1, 0, 0, 0) := by decide +kernel
theorem c_7_6 : pg_cd 7 6 = (3, 1, 0, 2, 0) := by decide +kernel
theorem c_7_7 : pg_cd 7 7 = (80, 1, 21, 0, 0) := by decide +kernel
theorem c_7_10 : pg_cd 7 10 = (8, 2, 0, 4, 0) := by decide +kernel
theorem c_7_12 : pg_cd 7 12 = (1, 1, 0, 0, 0) := by decide +kernel
theorem c_7_13 : pg_cd 7 13 = (6, 2, 0, 5, 0) := by decide +kernel
theorem c_7_15 : pg_cd 7 15 = (5, 2, 0, 4, 0) := by decide +kernel
theorem c_7_17 : pg_cd 7 17 = (39, 3, 0, 0, 78) := by decide +kernel
theorem c_7_20 : pg_cd 7 20 = (3, 2, 0, 5, 0) := by decide +kernel
theorem c_7_22 : pg_cd 7 22 = (5, 1, 0, 1, 0) := by decide +kernel
theorem c_7_23 : pg_cd 7 23 = (45, 8, 41, 5, 0) := by decide +kernel
theorem c_7_26 : pg_cd 7 26 = (43, 4, 71, 2, 0) := by decide +kernel
theorem c_7_29 : pg_cd 7 29 = (37, 3, 0, 3, 66) := by decide +kernel
theorem c_7_32 : pg_cd 7 32 = (3, 2, 0, 5, 0) := by decide +kernel
theorem c_7_34 : pg_cd 7 34 = (1, 2, 0, 0, 60) := by decide +kernel
theorem c_7_36 : pg_cd 7 36 = (37, 3, 0, 3, 59) := by decide +kernel
theorem c_7_39 : pg_cd 7 39 = (5, 2, 0, 4, 0) := by decide +kernel
theorem c_7_41 : pg_cd 7 41 = (45, 10, 59, 1, 0) := by decide +kernel
theorem c_7_44 : pg_cd 7 44 = (3, 2, 0, 5, 0) := by decide +kernel
theorem c_7_46 : pg_cd 7 46 = (50, 1, 0, 0, 0) := by decide +kernel
theorem c_7_47 : pg_cd 7 47 = (5, 1, 0, 1, 0) := by decide +kernel
theorem c_7_48 : pg_cd 7 48 = (45, 8, 41, 5, 0) := by decide +kernel
theorem c_7_51 : pg_cd 7 51 = (3, 2, 0, 5, 0) := by decide +kernel
theorem c_7_53 : pg_cd 7 53 = (1, 1, 0, 0, 0) := by decide +kernel
theorem c_7_54 : pg_cd 7 54 = (80, 55, 76, 0, 0) := by decide +kernel
theorem c_7_57 : pg_cd 7 57 = (81, 74, 80, 0, 0) := by decide +kernel
theorem c_7_60 : pg_cd 7 60 = (6, 2, 0, 6, 0) := by decide +kernel
theorem c_7_62 : pg_cd 7 62 = (3, 2, 0, 6, 0) := by decide +kernel
theorem c_7_64 : pg_cd 7 64 = (36, 3, 0, 2, 25) := by decide +kernel
theorem c_7_67 : pg_cd 7 67 = (3, 2, 0, 6, 0) := by decide +kernel
theorem c_7_69 : pg_cd 7 69 = (5, 1, 0, 3, 0) := by decide +kernel
theorem c_7_70 : pg_cd 7 70 = (58, 0, 0, 0, 0) := by decide +kernel
theorem c_7_71 : pg_cd 7 71 = (37, 3, 0, 3, 18) := by decide +kernel
theorem c_7_74 : pg_cd 7 74 = (5, 1, 0, 3, 0) := by decide +kernel
theorem c_7_75 : pg_cd 7 75 = (3, 2, 0, 6, 0) := by decide +kernel
theorem c_7_77 : pg_cd 7 77 = (34, 1, 0, 0, 0) := by decide +kernel
theorem c_7_78 : pg_cd 7 78 = (50, 1, 0, 0, 0) := by decide +kernel
theorem c_7_79 : pg_cd 7 79 = (5, 2, 0, 4, 0) := by decide +kernel
theorem c_7_81 : pg_cd 7 81 = (45, 10, 85, 0, 0) := by decide +kernel
theorem c_7_84 : pg_cd 7 84 = (3, 2, 0, 5, 0) := by decide +kernel
theorem c_7_86 : pg_cd 7 86 = (50, 1, 0, 0, 0) := by decide +kernel
theorem c_7_87 : pg_cd 7 87 = (10, 1, 0, 0, 0) := by decide +kernel
theorem c_7_88 : pg_cd 7 88 = (54, 1, 0, 0, 0) := by decide +kernel
theorem c_7_89 : pg_cd 7 89 = (9, 3, 0, 5, 1) := by decide +kernel
theorem c_7_92 : pg_cd 7 92 = (38, 3, 0, 0, (-77)) := by decide +kernel
theorem c_7_95 : pg_cd 7 95 = (94, 0, 0, 0, 0) := by decide +kernel
theorem mx_7 : pg_mx 7 = 7 := by decide +kernel
theorem m_7 {d : Nat} {h : ab_H} {Q : Option Value → ab_H → Prop} {x0 : Nat} {x1 : Nat} {x2 : Int32} {x3 : Nat} (t : wq d 7 0 [.ref x0, .ref x1, .int x2, .ref x3, .retAddr 0, .retAddr 0, .retAddr 0] [] h Q) : wm d 7 [.ref x0, .ref x1, .int x2, .ref x3] h Q := by
  unfold wm
  rw [mx_7]
  exact t
set_option maxRecDepth 20000 in
theorem t_7_0 {d : Nat} {h : ab_H} {Q : Option Value → ab_H → Prop} {x0 : Nat} {x1 : Nat} {x2 : Int32} {x3 : Nat} (t : wm d 329 [.ref x3, .int 0] h (fun r9 h9 => wq (d + 1) 7 5 [.ref x0, .ref x1, .int x2, .ref x3, .retAddr 0, .retAddr 0, .retAddr 0] (r9.toList ++ []) h9 Q)) : wq (d + 1) 7 0 [.ref x0, .ref x1, .int x2, .ref x3, .retAddr 0, .retAddr 0, .retAddr 0] [] h Q := by
  refine g5 c_7_0 rfl ?_
  refine g1 c_7_1 k_0 ?_
  exact g81 (As := [.ref x3, .int 0]) (rest := []) c_7_2 rfl rfl (Nat.le_of_ble_eq_true rfl) (Nat.le_of_ble_eq_true rfl) t
set_option maxRecDepth 20000 in
theorem t_7_5 {d : Nat} {h : ab_H} {Q : Option Value → ab_H → Prop} {x0 : Nat} {x1 : Nat} {x2 : Int32} {x3 : Nat} (t : ab_ok h x0 100 = true ∧ wm d 1 [.ref x0, .int x2] h (fun r9 h9 => wq (d + 1) 7 10 [.ref x0, .ref x1, .int x2, .ref x3, .retAddr 0, .retAddr 0, .retAddr 0] (r9.toList ++ []) h9 Q)) : wq (d + 1) 7 5 [.ref x0, .ref x1, .int x2, .ref x3, .retAddr 0, .retAddr 0, .retAddr 0] [] h Q := by
  refine g5 c_7_5 rfl ?_
  refine g3 c_7_6 rfl ?_
  exact g80 (As := [.int x2]) (rest := []) c_7_7 rfl rfl (Nat.le_of_ble_eq_true rfl) (Nat.le_of_ble_eq_true rfl) t.1 t.2
set_option maxRecDepth 20000 in
theorem t_7_10 {d : Nat} {h : ab_H} {Q : Option Value → ab_H → Prop} {x0 : Nat} {x1 : Nat} {x2 : Int32} {x3 : Nat} {s0 : Nat} (t : wq d 7 15 [.ref x0, .ref x1, .int x2, .ref x3, .ref s0, .int 0, .retAddr 0] [] h Q) : wq d 7 10 [.ref x0, .ref x1, .int x2, .ref x3, .retAddr 0, .retAddr 0, .retAddr 0] [.ref s0] h Q := by
  refine g8 (L' := [.ref x0, .ref x1, .int x2, .ref x3, .ref s0, .retAddr 0, .retAddr 0]) c_7_10 rfl ?_
  refine g1 c_7_12 k_0 ?_
  refine g6 (L' := [.ref x0, .ref x1, .int x2, .ref x3, .ref s0, .int 0, .retAddr 0]) c_7_13 rfl ?_
  exact t
set_option maxRecDepth 20000 in
theorem t_7_15 {d : Nat} {h : ab_H} {Q : Option Value → ab_H → Prop} {x0 : Nat} {x1 : Nat} {x2 : Int32} {x3 : Nat} {x4 : Nat} {x5 : Int32} (t : ab_ok h x1 108 = true ∧ ∃ j1 : Nat, ab_r h x1 5 = some j1 ∧ ab_ok h j1 104 = true ∧ if (ab_i h j1 2) ≤ x5 then (Q none h) else (if 60 ≤ x5 then (Q none h) else (ab_ok h x4 110 = true ∧ ∃ j2 : Nat, ab_r h x4 1 = some j2 ∧ ((j2 = 0 ∨ ab_ok h j2 0 = true) ∧ ab_in x5 (ab_s h j2).2 = true) ∧ ab_ok h x1 108 = true ∧ ∃ j3 : Nat, ab_r h x1 5 = some j3 ∧ ab_ok h j3 104 = true ∧ wm d 55 [.ref j3, .int x5, .int 0] h (fun r9 h9 => wq (d + 1) 7 57 [.ref x0, .ref x1, .int x2, .ref x3, .ref x4, .int x5, .retAddr 0] (r9.toList ++ [.int (ab_i h j2 (Int32.toNatClampNeg x5))]) h9 Q)))) : wq (d + 1) 7 15 [.ref x0, .ref x1, .int x2, .ref x3, .ref x4, .int x5, .retAddr 0] [] h Q := by
  refine g5 c_7_15 rfl ?_
  refine g39a c_7_17 ?_
  refine g3 c_7_20 rfl ?_
  refine g5 c_7_22 rfl ?_
  obtain ⟨ho, j1, hr, t⟩ := t
  refine g45 c_7_23 ho hr ?_
  obtain ⟨ho, t⟩ := t
  refine g43 c_7_26 ho ?_
  refine gcm c_7_29 (gbr t rfl rfl (fun hc t => ?_) (fun hc t => ?_))
  · exact g94 c_7_95 t
  · refine g3 c_7_32 rfl ?_
    refine g1 c_7_34 k_60 ?_
    refine gcm c_7_36 (gbr t rfl rfl (fun hc t => ?_) (fun hc t => ?_))
    · exact g94 c_7_95 t
    · refine g5 c_7_39 rfl ?_
      obtain ⟨ho, j2, hr, t⟩ := t
      refine g45 c_7_41 ho hr ?_
      refine g3 c_7_44 rfl ?_
      obtain ⟨ho, t⟩ := t
      refine g50 c_7_46 ho ?_
      refine g5 c_7_47 rfl ?_
      obtain ⟨ho, j3, hr, t⟩ := t
      refine g45 c_7_48 ho hr ?_
      refine g3 c_7_51 rfl ?_
      refine g1 c_7_53 k_0 ?_
      exact g80 (As := [.int x5, .int 0]) (rest := [.int (ab_i h j2 (Int32.toNatClampNeg x5))]) c_7_54 rfl rfl (Nat.le_of_ble_eq_true rfl) (Nat.le_of_ble_eq_true rfl) t.1 t.2
set_option maxRecDepth 20000 in
theorem t_7_57 {d : Nat} {h : ab_H} {Q : Option Value → ab_H → Prop} {x0 : Nat} {x1 : Nat} {x2 : Int32} {x3 : Nat} {x4 : Nat} {x5 : Int32} {s0 : Int32} {s1 : Int32} (t : wm d 74 [.int s0, .int s1] h (fun r9 h9 => wq (d + 1) 7 60 [.ref x0, .ref x1, .int x2, .ref x3, .ref x4, .int x5, .retAddr 0] (r9.toList ++ []) h9 Q)) : wq (d + 1) 7 57 [.ref x0, .ref x1, .int x2, .ref x3, .ref x4, .int x5, .retAddr 0] [.int s1, .int s0] h Q := by
  exact g81 (As := [.int s0, .int s1]) (rest := []) c_7_57 rfl rfl (Nat.le_of_ble_eq_true rfl) (Nat.le_of_ble_eq_true rfl) t
set_option maxRecDepth 20000 in
theorem t_7_60 {d : Nat} {h : ab_H} {Q : Option Value → ab_H → Prop} {x0 : Nat} {x1 : Nat} {x2 : Int32} {x3 : Nat} {x4 : Nat} {x5 : Int32} {s0 : Int32} (t : if s0 < 0 then (wq d 7 15 [.ref x0, .ref x1, .int x2, .ref x3, .ref x4, .int (x5 + 1), .int s0] [] h Q) else (((x3 = 0 ∧ 0 = 0) ∨ ab_ok h x3 0 = true) ∧ if (Int32.ofNat (ab_s h x3).2) ≤ s0 then (wq d 7 15 [.ref x0, .ref x1, .int x2, .ref x3, .ref x4, .int (x5 + 1), .int s0] [] h Q) else (((x3 = 0 ∨ ab_ok h x3 0 = true) ∧ ab_in s0 (ab_s h x3).2 = true) ∧ ab_ok h x4 110 = true ∧ ∃ j1 : Nat, ab_r h x4 0 = some j1 ∧ ((j1 = 0 ∨ ab_ok h j1 0 = true) ∧ ab_in x5 (ab_s h j1).2 = true) ∧ (ab_ok h x3 0 = true ∧ ab_in s0 (ab_s h x3).2 = true) ∧ ∀ h2 : ab_H, h2 = ab_pi h x3 (Int32.toNatClampNeg s0) ((ab_i h x3 (Int32.toNatClampNeg s0)) + (ab_i h j1 (Int32.toNatClampNeg x5))) → wq d 7 15 [.ref x0, .ref x1, .int x2, .ref x3, .ref x4, .int (x5 + 1), .int s0] [] h2 Q))) : wq d 7 60 [.ref x0, .ref x1, .int x2, .ref x3, .ref x4, .int x5, .retAddr 0] [.int s0] h Q := by
  refine g6 (L' := [.ref x0, .ref x1, .int x2, .ref x3, .ref x4, .int x5, .int s0]) c_7_60 rfl ?_
  refine g3 c_7_62 rfl ?_
  refine gif c_7_64 (gbr t rfl rfl (fun hc t => ?_) (fun hc t => ?_))
  · refine g9 (L' := [.ref x0, .ref x1, .int x2, .ref x3, .ref x4, .int (x5 + 1), .int s0]) c_7_89 rfl k_1 rfl ?_
    refine g38 c_7_92 rfl ?_
    exact t
  · refine g3 c_7_67 rfl ?_
    refine g5 c_7_69 rfl ?_
    obtain ⟨ho, t⟩ := t
    refine g58 c_7_70 ho ?_
    refine gcm c_7_71 (gbr t rfl rfl (fun hc t => ?_) (fun hc t => ?_))
    · refine g9 (L' := [.ref x0, .ref x1, .int x2, .ref x3, .ref x4, .int (x5 + 1), .int s0]) c_7_89 rfl k_1 rfl ?_
      refine g38 c_7_92 rfl ?_
      exact t
    · refine g5 c_7_74 rfl ?_
      refine g3 c_7_75 rfl ?_
      refine g34a c_7_77 ?_
      obtain ⟨ho, t⟩ := t
      refine g50 c_7_78 ho ?_
      refine g5 c_7_79 rfl ?_
      obtain ⟨ho, j1, hr, t⟩ := t
      refine g45 c_7_81 ho hr ?_
      refine g3 c_7_84 rfl ?_
      obtain ⟨ho, t⟩ := t
      refine g50 c_7_86 ho ?_
      refine g10 c_7_87 ?_
      obtain ⟨ho, t⟩ := t
      refine g54 c_7_88 ho (fun h2 eh2 => ?_)
      have t := t h2 eh2
      refine g9 (L' := [.ref x0, .ref x1, .int x2, .ref x3, .ref x4, .int (x5 + 1), .int s0]) c_7_89 rfl k_1 rfl ?_
      refine g38 c_7_92 rfl ?_
      exact t
-- method 25: MillTown$ListMaker.<init>()V
theorem c_25_0 : pg_cd 25 0 = (5, 1, 0, 0, 0) := by decide +kernel
theorem c_25_1 : pg_cd 25 1 = (61, 0, 3, 0, 0) := by decide +kernel
theorem c_25_4 : pg_cd 25 4 = (5, 1, 0, 0, 0) := by decide +kernel
theorem c_25_5 : pg_cd 25 5 = (1, 1, 0, 0, 4) := by decide +kernel
theorem c_25_6 : pg_cd 25 6 = (59, 2, 0, 0, 0) := by decide +kernel
theorem c_25_8 : pg_cd 25 8 = (49, 2, 9, 0, 0) := by decide +kernel
theorem c_25_11 : pg_cd 25 11 = (94, 0, 0, 0, 0) := by decide +kernel
theorem mx_25 : pg_mx 25 = 1 := by decide +kernel
theorem m_25 {d : Nat} {h : ab_H} {Q : Option Value → ab_H → Prop} {x0 : Nat} (t : wq d 25 0 [.ref x0] [] h Q) : wm d 25 [.ref x0] h Q := by
  unfold wm
  rw [mx_25]
  exact t
set_option maxRecDepth 20000 in
theorem t_25_0 {d : Nat} {h : ab_H} {Q : Option Value → ab_H → Prop} {x0 : Nat} (t : (¬ (4 : Int32) < 0 ∧ Int32.toNatClampNeg (4 : Int32) ≤ 1000000) ∧ ∀ h1 : ab_H, h1 = ab_new h 0 (Int32.toNatClampNeg (4 : Int32)) (Int32.toNatClampNeg (4 : Int32)) → ab_ok h1 x0 102 = true ∧ ∀ h2 : ab_H, h2 = ab_pr h1 x0 0 (some (ab_n h)) → Q none h2) : wq d 25 0 [.ref x0] [] h Q := by
  refine g5 c_25_0 rfl ?_
  refine g61 c_25_1 (Nat.le_of_ble_eq_true rfl) ?_
  refine g5 c_25_4 rfl ?_
  refine g1 c_25_5 k_4 ?_
  obtain ⟨ho, t⟩ := t
  refine g59 c_25_6 ho (fun h1 eh1 => ?_)
  have t := t h1 eh1
  obtain ⟨ho, t⟩ := t
  refine g49 c_25_8 ho (fun h2 eh2 => ?_)
  have t := t h2 eh2
  exact g94 c_25_11 t
-- method 26: MillTown$ListMaker.fact(I)I
theorem c_26_0 : pg_cd 26 0 = (3, 1, 0, 1, 0) := by decide +kernel
theorem c_26_1 : pg_cd 26 1 = (36, 3, 0, 2, 21) := by decide +kernel
theorem c_26_4 : pg_cd 26 4 = (3, 1, 0, 1, 0) := by decide +kernel
theorem c_26_5 : pg_cd 26 5 = (5, 1, 0, 0, 0) := by decide +kernel
theorem c_26_6 : pg_cd 26 6 = (45, 2, 9, 0, 0) := by decide +kernel
theorem c_26_9 : pg_cd 26 9 = (58, 0, 0, 0, 0) := by decide +kernel
theorem c_26_10 : pg_cd 26 10 = (37, 3, 0, 3, 12) := by decide +kernel
theorem c_26_13 : pg_cd 26 13 = (5, 1, 0, 0, 0) := by decide +kernel
theorem c_26_14 : pg_cd 26 14 = (45, 2, 9, 0, 0) := by decide +kernel
theorem c_26_17 : pg_cd 26 17 = (3, 1, 0, 1, 0) := by decide +kernel
theorem c_26_18 : pg_cd 26 18 = (50, 1, 0, 0, 0) := by decide +kernel
theorem c_26_19 : pg_cd 26 19 = (38, 3, 0, 0, 4) := by decide +kernel
theorem c_26_22 : pg_cd 26 22 = (1, 1, 0, 0, (-1)) := by decide +kernel
theorem c_26_23 : pg_cd 26 23 = (90, 0, 0, 0, 0) := by decide +kernel
theorem mx_26 : pg_mx 26 = 2 := by decide +kernel
theorem m_26 {d : Nat} {h : ab_H} {Q : Option Value → ab_H → Prop} {x0 : Nat} {x1 : Int32} (t : wq d 26 0 [.ref x0, .int x1] [] h Q) : wm d 26 [.ref x0, .int x1] h Q := by
  unfold wm
  rw [mx_26]
  exact t
set_option maxRecDepth 20000 in
theorem t_26_0 {d : Nat} {h : ab_H} {Q : Option Value → ab_H → Prop} {x0 : Nat} {x1 : Int32} (t : if x1 < 0 then (Q (some (.int (-1))) h) else (ab_ok h x0 102 = true ∧ ∃ j1 : Nat, ab_r h x0 0 = some j1 ∧ ((j1 = 0 ∧ 0 = 0) ∨ ab_ok h j1 0 = true) ∧ if (Int32.ofNat (ab_s h j1).2) ≤ x1 then (Q (some (.int (-1))) h) else (ab_ok h x0 102 = true ∧ ∃ j2 : Nat, ab_r h x0 0 = some j2 ∧ ((j2 = 0 ∨ ab_ok h j2 0 = true) ∧ ab_in x1 (ab_s h j2).2 = true) ∧ Q (some (.int (ab_i h j2 (Int32.toNatClampNeg x1)))) h))) : wq d 26 0 [.ref x0, .int x1] [] h Q := by
  refine g3 c_26_0 rfl ?_
  refine gif c_26_1 (gbr t rfl rfl (fun hc t => ?_) (fun hc t => ?_))
  · refine g1 c_26_22 k_m1 ?_
    exact g90 c_26_23 t
  · refine g3 c_26_4 rfl ?_
    refine g5 c_26_5 rfl ?_
    obtain ⟨ho, j1, hr, t⟩ := t
    refine g45 c_26_6 ho hr ?_
    obtain ⟨ho, t⟩ := t
    refine g58 c_26_9 ho ?_
    refine gcm c_26_10 (gbr t rfl rfl (fun hc t => ?_) (fun hc t => ?_))
    · refine g1 c_26_22 k_m1 ?_
      exact g90 c_26_23 t
    · refine g5 c_26_13 rfl ?_
      obtain ⟨ho, j2, hr, t⟩ := t
      refine g45 c_26_14 ho hr ?_
      refine g3 c_26_17 rfl ?_
      obtain ⟨ho, t⟩ := t
      refine g50 c_26_18 ho ?_
      refine g38 c_26_19 rfl ?_
      exact g90 c_26_23 t
-- method 27: MillTown$ListMaker.make(LMillTown$Rows;III)Z
theorem c_27_0 : pg_cd 27 0 = (1, 1, 0, 0, 0) := by decide +kernel
theorem c_27_1 : pg_cd 27 1 = (6, 2, 0, 5, 0) := by decide +kernel
theorem c_27_3 : pg_cd 27 3 = (1, 1, 0, 0, 0) := by decide +kernel
theorem c_27_4 : pg_cd 27 4 = (6, 2, 0, 6, 0) := by decide +kernel
theorem c_27_6 : pg_cd 27 6 = (3, 2, 0, 6, 0) := by decide +kernel
theorem c_27_8 : pg_cd 27 8 = (5, 1, 0, 1, 0) := by decide +kernel
theorem c_27_9 : pg_cd 27 9 = (43, 4, 15, 2, 0) := by decide +kernel
theorem c_27_12 : pg_cd 27 12 = (37, 3, 0, 3, 30) := by decide +kernel
theorem c_27_15 : pg_cd 27 15 = (3, 2, 0, 5, 0) := by decide +kernel
theorem c_27_17 : pg_cd 27 17 = (5, 1, 0, 1, 0) := by decide +kernel
theorem c_27_18 : pg_cd 27 18 = (3, 2, 0, 6, 0) := by decide +kernel
theorem c_27_20 : pg_cd 27 20 = (1, 1, 0, 0, 5) := by decide +kernel
theorem c_27_21 : pg_cd 27 21 = (80, 55, 21, 0, 0) := by decide +kernel
theorem c_27_24 : pg_cd 27 24 = (1, 1, 0, 0, (-1)) := by decide +kernel
theorem c_27_25 : pg_cd 27 25 = (37, 3, 0, 1, 7) := by decide +kernel
theorem c_27_28 : pg_cd 27 28 = (1, 1, 0, 0, 0) := by decide +kernel
theorem c_27_29 : pg_cd 27 29 = (38, 3, 0, 0, 4) := by decide +kernel
theorem c_27_32 : pg_cd 27 32 = (1, 1, 0, 0, 1) := by decide +kernel
theorem c_27_33 : pg_cd 27 33 = (10, 1, 0, 0, 0) := by decide +kernel
theorem c_27_34 : pg_cd 27 34 = (6, 2, 0, 5, 0) := by decide +kernel
theorem c_27_36 : pg_cd 27 36 = (9, 3, 0, 6, 1) := by decide +kernel
theorem c_27_39 : pg_cd 27 39 = (38, 3, 0, 0, (-33)) := by decide +kernel
theorem c_27_42 : pg_cd 27 42 = (3, 2, 0, 5, 0) := by decide +kernel
theorem c_27_44 : pg_cd 27 44 = (36, 3, 0, 4, 5) := by decide +kernel
theorem c_27_47 : pg_cd 27 47 = (1, 1, 0, 0, 0) := by decide +kernel
theorem c_27_48 : pg_cd 27 48 = (91, 0, 0, 0, 0) := by decide +kernel
theorem c_27_49 : pg_cd 27 49 = (5, 1, 0, 0, 0) := by decide +kernel
theorem c_27_50 : pg_cd 27 50 = (45, 2, 9, 0, 0) := by decide +kernel
theorem c_27_53 : pg_cd 27 53 = (1, 1, 0, 0, 3) := by decide +kernel
theorem c_27_54 : pg_cd 27 54 = (1, 1, 0, 0, (-1)) := by decide +kernel
theorem c_27_55 : pg_cd 27 55 = (54, 1, 0, 0, 0) := by decide +kernel
theorem c_27_56 : pg_cd 27 56 = (1, 1, 0, 0, 0) := by decide +kernel
theorem c_27_57 : pg_cd 27 57 = (6, 2, 0, 6, 0) := by decide +kernel
theorem c_27_59 : pg_cd 27 59 = (3, 2, 0, 6, 0) := by decide +kernel
theorem c_27_61 : pg_cd 27 61 = (1, 2, 0, 0, 40) := by decide +kernel
theorem c_27_63 : pg_cd 27 63 = (37, 3, 0, 4, 128) := by decide +kernel
theorem c_27_66 : pg_cd 27 66 = (1, 1, 0, 0, 0) := by decide +kernel
theorem c_27_67 : pg_cd 27 67 = (6, 2, 0, 7, 0) := by decide +kernel
theorem c_27_69 : pg_cd 27 69 = (3, 2, 0, 7, 0) := by decide +kernel
theorem c_27_71 : pg_cd 27 71 = (1, 2, 0, 0, 40) := by decide +kernel
theorem c_27_73 : pg_cd 27 73 = (37, 3, 0, 4, 112) := by decide +kernel
theorem c_27_76 : pg_cd 27 76 = (3, 2, 0, 6, 0) := by decide +kernel
theorem c_27_78 : pg_cd 27 78 = (3, 1, 0, 3, 0) := by decide +kernel
theorem c_27_79 : pg_cd 27 79 = (11, 1, 0, 0, 0) := by decide +kernel
theorem c_27_80 : pg_cd 27 80 = (75, 0, 25, 0, 0) := by decide +kernel
theorem c_27_83 : pg_cd 27 83 = (3, 2, 0, 7, 0) := by decide +kernel
theorem c_27_85 : pg_cd 27 85 = (3, 2, 0, 4, 0) := by decide +kernel
theorem c_27_87 : pg_cd 27 87 = (11, 1, 0, 0, 0) := by decide +kernel
theorem c_27_88 : pg_cd 27 88 = (75, 0, 25, 0, 0) := by decide +kernel
theorem c_27_91 : pg_cd 27 91 = (10, 1, 0, 0, 0) := by decide +kernel
theorem c_27_92 : pg_cd 27 92 = (6, 2, 0, 8, 0) := by decide +kernel
theorem c_27_94 : pg_cd 27 94 = (5, 1, 0, 1, 0) := by decide +kernel
theorem c_27_95 : pg_cd 27 95 = (3, 2, 0, 6, 0) := by decide +kernel
theorem c_27_97 : pg_cd 27 97 = (3, 2, 0, 7, 0) := by decide +kernel
theorem c_27_99 : pg_cd 27 99 = (81, 29, 31, 0, 0) := by decide +kernel
theorem c_27_102 : pg_cd 27 102 = (3, 2, 0, 5, 0) := by decide +kernel
theorem c_27_104 : pg_cd 27 104 = (72, 0, 35, 0, 0) := by decide +kernel
theorem c_27_107 : pg_cd 27 107 = (6, 2, 0, 9, 0) := by decide +kernel
theorem c_27_109 : pg_cd 27 109 = (1, 1, 0, 0, 0) := by decide +kernel
theorem c_27_110 : pg_cd 27 110 = (1, 2, 0, 0, 40) := by decide +kernel
theorem c_27_112 : pg_cd 27 112 = (3, 2, 0, 9, 0) := by decide +kernel
theorem c_27_114 : pg_cd 27 114 = (74, 0, 38, 0, 0) := by decide +kernel
theorem c_27_117 : pg_cd 27 117 = (73, 0, 41, 0, 0) := by decide +kernel
theorem c_27_120 : pg_cd 27 120 = (6, 2, 0, 10, 0) := by decide +kernel
theorem c_27_122 : pg_cd 27 122 = (1, 1, 0, 0, 0) := by decide +kernel
theorem c_27_123 : pg_cd 27 123 = (1, 2, 0, 0, 40) := by decide +kernel
theorem c_27_125 : pg_cd 27 125 = (3, 2, 0, 9, 0) := by decide +kernel
theorem c_27_127 : pg_cd 27 127 = (1, 1, 0, 0, 1) := by decide +kernel
theorem c_27_128 : pg_cd 27 128 = (10, 1, 0, 0, 0) := by decide +kernel
theorem c_27_129 : pg_cd 27 129 = (74, 0, 38, 0, 0) := by decide +kernel
theorem c_27_132 : pg_cd 27 132 = (73, 0, 41, 0, 0) := by decide +kernel
theorem c_27_135 : pg_cd 27 135 = (6, 2, 0, 11, 0) := by decide +kernel
theorem c_27_137 : pg_cd 27 137 = (5, 1, 0, 0, 0) := by decide +kernel
theorem c_27_138 : pg_cd 27 138 = (5, 1, 0, 1, 0) := by decide +kernel
theorem c_27_139 : pg_cd 27 139 = (3, 2, 0, 10, 0) := by decide +kernel
theorem c_27_141 : pg_cd 27 141 = (3, 2, 0, 6, 0) := by decide +kernel
theorem c_27_143 : pg_cd 27 143 = (3, 2, 0, 7, 0) := by decide +kernel
theorem c_27_145 : pg_cd 27 145 = (3, 2, 0, 8, 0) := by decide +kernel
theorem c_27_147 : pg_cd 27 147 = (3, 2, 0, 10, 0) := by decide +kernel
theorem c_27_149 : pg_cd 27 149 = (3, 1, 0, 2, 0) := by decide +kernel
theorem c_27_150 : pg_cd 27 150 = (11, 1, 0, 0, 0) := by decide +kernel
theorem c_27_151 : pg_cd 27 151 = (75, 0, 25, 0, 0) := by decide +kernel
theorem c_27_154 : pg_cd 27 154 = (10, 1, 0, 0, 0) := by decide +kernel
theorem c_27_155 : pg_cd 27 155 = (80, 30, 44, 0, 0) := by decide +kernel
theorem c_27_158 : pg_cd 27 158 = (5, 1, 0, 0, 0) := by decide +kernel
theorem c_27_159 : pg_cd 27 159 = (5, 1, 0, 1, 0) := by decide +kernel
theorem c_27_160 : pg_cd 27 160 = (3, 2, 0, 11, 0) := by decide +kernel
theorem c_27_162 : pg_cd 27 162 = (3, 2, 0, 6, 0) := by decide +kernel
theorem c_27_164 : pg_cd 27 164 = (3, 2, 0, 7, 0) := by decide +kernel
theorem c_27_166 : pg_cd 27 166 = (3, 2, 0, 8, 0) := by decide +kernel
theorem c_27_168 : pg_cd 27 168 = (3, 2, 0, 11, 0) := by decide +kernel
theorem c_27_170 : pg_cd 27 170 = (3, 1, 0, 2, 0) := by decide +kernel
theorem c_27_171 : pg_cd 27 171 = (11, 1, 0, 0, 0) := by decide +kernel
theorem c_27_172 : pg_cd 27 172 = (75, 0, 25, 0, 0) := by decide +kernel
theorem c_27_175 : pg_cd 27 175 = (10, 1, 0, 0, 0) := by decide +kernel
theorem c_27_176 : pg_cd 27 176 = (80, 30, 44, 0, 0) := by decide +kernel
theorem c_27_179 : pg_cd 27 179 = (9, 3, 0, 7, 1) := by decide +kernel
theorem c_27_182 : pg_cd 27 182 = (38, 3, 0, 0, (-113)) := by decide +kernel
theorem c_27_185 : pg_cd 27 185 = (9, 3, 0, 6, 1) := by decide +kernel
theorem c_27_188 : pg_cd 27 188 = (38, 3, 0, 0, (-129)) := by decide +kernel
theorem c_27_191 : pg_cd 27 191 = (1, 1, 0, 0, 1) := by decide +kernel
theorem c_27_192 : pg_cd 27 192 = (91, 0, 0, 0, 0) := by decide +kernel
theorem mx_27 : pg_mx 27 = 12 := by decide +kernel
theorem m_27 {d : Nat} {h : ab_H} {Q : Option Value → ab_H → Prop} {x0 : Nat} {x1 : Nat} {x2 : Int32} {x3 : Int32} {x4 : Int32} (t : wq d 27 0 [.ref x0, .ref x1, .int x2, .int x3, .int x4, .retAddr 0, .retAddr 0, .retAddr 0, .retAddr 0, .retAddr 0, .retAddr 0, .retAddr 0] [] h Q) : wm d 27 [.ref x0, .ref x1, .int x2, .int x3, .int x4] h Q := by
  unfold wm
  rw [mx_27]
  exact t
set_option maxRecDepth 20000 in
theorem t_27_0 {d : Nat} {h : ab_H} {Q : Option Value → ab_H → Prop} {x0 : Nat} {x1 : Nat} {x2 : Int32} {x3 : Int32} {x4 : Int32} (t : wq d 27 6 [.ref x0, .ref x1, .int x2, .int x3, .int x4, .int 0, .int 0, .retAddr 0, .retAddr 0, .retAddr 0, .retAddr 0, .retAddr 0] [] h Q) : wq d 27 0 [.ref x0, .ref x1, .int x2, .int x3, .int x4, .retAddr 0, .retAddr 0, .retAddr 0, .retAddr 0, .retAddr 0, .retAddr 0, .retAddr 0] [] h Q := by
  refine g1 c_27_0 k_0 ?_
  refine g6 (L' := [.ref x0, .ref x1, .int x2, .int x3, .int x4, .int 0, .retAddr 0, .retAddr 0, .retAddr 0, .retAddr 0, .retAddr 0, .retAddr 0]) c_27_1 rfl ?_
  refine g1 c_27_3 k_0 ?_
  refine g6 (L' := [.ref x0, .ref x1, .int x2, .int x3, .int x4, .int 0, .int 0, .retAddr 0, .retAddr 0, .retAddr 0, .retAddr 0, .retAddr 0]) c_27_4 rfl ?_
  exact t
set_option maxRecDepth 20000 in
theorem t_27_6 {d : Nat} {h : ab_H} {Q : Option Value → ab_H → Prop} {x0 : Nat} {x1 : Nat} {x2 : Int32} {x3 : Int32} {x4 : Int32} {x5 : Int32} {x6 : Int32} (t : ab_ok h x1 104 = true ∧ if (ab_i h x1 2) ≤ x6 then (if 0 < x5 then (ab_ok h x0 102 = true ∧ ∃ j1 : Nat, ab_r h x0 0 = some j1 ∧ (ab_ok h j1 0 = true ∧ ab_in (3 : Int32) (ab_s h j1).2 = true) ∧ ∀ h2 : ab_H, h2 = ab_pi h j1 (Int32.toNatClampNeg (3 : Int32)) (-1) → wq (d + 1) 27 59 [.ref x0, .ref x1, .int x2, .int x3, .int x4, .int x5, .int 0, .retAddr 0, .retAddr 0, .retAddr 0, .retAddr 0, .retAddr 0] [] h2 Q) else (Q (some (.int 0)) h)) else (ab_ok h x1 104 = true ∧ wm d 55 [.ref x1, .int x6, .int 5] h (fun r9 h9 => wq (d + 1) 27 24 [.ref x0, .ref x1, .int x2, .int x3, .int x4, .int x5, .int x6, .retAddr 0, .retAddr 0, .retAddr 0, .retAddr 0, .retAddr 0] (r9.toList ++ [.int x5]) h9 Q))) : wq (d + 1) 27 6 [.ref x0, .ref x1, .int x2, .int x3, .int x4, .int x5, .int x6, .retAddr 0, .retAddr 0, .retAddr 0, .retAddr 0, .retAddr 0] [] h Q := by
  refine g3 c_27_6 rfl ?_
  refine g5 c_27_8 rfl ?_
  obtain ⟨ho, t⟩ := t
  refine g43 c_27_9 ho ?_
  refine gcm c_27_12 (gbr t rfl rfl (fun hc t => ?_) (fun hc t => ?_))
  · refine g3 c_27_42 rfl ?_
    refine gif c_27_44 (gbr t rfl rfl (fun hc t => ?_) (fun hc t => ?_))
    · refine g5 c_27_49 rfl ?_
      obtain ⟨ho, j1, hr, t⟩ := t
      refine g45 c_27_50 ho hr ?_
      refine g1 c_27_53 k_3 ?_
      refine g1 c_27_54 k_m1 ?_
      obtain ⟨ho, t⟩ := t
      refine g54 c_27_55 ho (fun h2 eh2 => ?_)
      have t := t h2 eh2
      refine g1 c_27_56 k_0 ?_
      refine g6 (L' := [.ref x0, .ref x1, .int x2, .int x3, .int x4, .int x5, .int 0, .retAddr 0, .retAddr 0, .retAddr 0, .retAddr 0, .retAddr 0]) c_27_57 rfl ?_
      exact t
    · refine g1 c_27_47 k_0 ?_
      exact g91 c_27_48 ⟨by decide, t⟩
  · refine g3 c_27_15 rfl ?_
    refine g5 c_27_17 rfl ?_
    refine g3 c_27_18 rfl ?_
    refine g1 c_27_20 k_5 ?_
    exact g80 (As := [.int x6, .int 5]) (rest := [.int x5]) c_27_21 rfl rfl (Nat.le_of_ble_eq_true rfl) (Nat.le_of_ble_eq_true rfl) t.1 t.2
set_option maxRecDepth 20000 in
theorem t_27_24 {d : Nat} {h : ab_H} {Q : Option Value → ab_H → Prop} {x0 : Nat} {x1 : Nat} {x2 : Int32} {x3 : Int32} {x4 : Int32} {x5 : Int32} {x6 : Int32} {s0 : Int32} {s1 : Int32} (t : if s1 = (-1) then (wq d 27 6 [.ref x0, .ref x1, .int x2, .int x3, .int x4, .int (s0 + 0), .int (x6 + 1), .retAddr 0, .retAddr 0, .retAddr 0, .retAddr 0, .retAddr 0] [] h Q) else (wq d 27 6 [.ref x0, .ref x1, .int x2, .int x3, .int x4, .int (s0 + 1), .int (x6 + 1), .retAddr 0, .retAddr 0, .retAddr 0, .retAddr 0, .retAddr 0] [] h Q)) : wq d 27 24 [.ref x0, .ref x1, .int x2, .int x3, .int x4, .int x5, .int x6, .retAddr 0, .retAddr 0, .retAddr 0, .retAddr 0, .retAddr 0] [.int s1, .int s0] h Q := by
  refine g1 c_27_24 k_m1 ?_
  refine gcm c_27_25 (gbn t (ab_c1 _ _) rfl (fun hc t => ?_) (fun hc t => ?_))
  · refine g1 c_27_28 k_0 ?_
    refine g38 c_27_29 rfl ?_
    refine g10 c_27_33 ?_
    refine g6 (L' := [.ref x0, .ref x1, .int x2, .int x3, .int x4, .int (s0 + 0), .int x6, .retAddr 0, .retAddr 0, .retAddr 0, .retAddr 0, .retAddr 0]) c_27_34 rfl ?_
    refine g9 (L' := [.ref x0, .ref x1, .int x2, .int x3, .int x4, .int (s0 + 0), .int (x6 + 1), .retAddr 0, .retAddr 0, .retAddr 0, .retAddr 0, .retAddr 0]) c_27_36 rfl k_1 rfl ?_
    refine g38 c_27_39 rfl ?_
    exact t
  · refine g1 c_27_32 k_1 ?_
    refine g10 c_27_33 ?_
    refine g6 (L' := [.ref x0, .ref x1, .int x2, .int x3, .int x4, .int (s0 + 1), .int x6, .retAddr 0, .retAddr 0, .retAddr 0, .retAddr 0, .retAddr 0]) c_27_34 rfl ?_
    refine g9 (L' := [.ref x0, .ref x1, .int x2, .int x3, .int x4, .int (s0 + 1), .int (x6 + 1), .retAddr 0, .retAddr 0, .retAddr 0, .retAddr 0, .retAddr 0]) c_27_36 rfl k_1 rfl ?_
    refine g38 c_27_39 rfl ?_
    exact t
set_option maxRecDepth 20000 in
theorem t_27_59 {d : Nat} {h : ab_H} {Q : Option Value → ab_H → Prop} {x0 : Nat} {x1 : Nat} {x2 : Int32} {x3 : Int32} {x4 : Int32} {x5 : Int32} {x6 : Int32} (t : if 40 < x6 then (Q (some (.int 1)) h) else (wq d 27 69 [.ref x0, .ref x1, .int x2, .int x3, .int x4, .int x5, .int x6, .int 0, .retAddr 0, .retAddr 0, .retAddr 0, .retAddr 0] [] h Q)) : wq d 27 59 [.ref x0, .ref x1, .int x2, .int x3, .int x4, .int x5, .int x6, .retAddr 0, .retAddr 0, .retAddr 0, .retAddr 0, .retAddr 0] [] h Q := by
  refine g3 c_27_59 rfl ?_
  refine g1 c_27_61 k_40 ?_
  refine gcm c_27_63 (gbr t rfl rfl (fun hc t => ?_) (fun hc t => ?_))
  · refine g1 c_27_191 k_1 ?_
    exact g91 c_27_192 ⟨by decide, t⟩
  · refine g1 c_27_66 k_0 ?_
    refine g6 (L' := [.ref x0, .ref x1, .int x2, .int x3, .int x4, .int x5, .int x6, .int 0, .retAddr 0, .retAddr 0, .retAddr 0, .retAddr 0]) c_27_67 rfl ?_
    exact t
set_option maxRecDepth 20000 in
theorem t_27_69 {d : Nat} {h : ab_H} {Q : Option Value → ab_H → Prop} {x0 : Nat} {x1 : Nat} {x2 : Int32} {x3 : Int32} {x4 : Int32} {x5 : Int32} {x6 : Int32} {x7 : Int32} (t : if 40 < x7 then (wq (d + 1) 27 59 [.ref x0, .ref x1, .int x2, .int x3, .int x4, .int x5, .int (x6 + 1), .int x7, .retAddr 0, .retAddr 0, .retAddr 0, .retAddr 0] [] h Q) else (7 ≤ (d + 1) ∧ 7 ≤ (d + 1) ∧ ∀ y1 : Int32, y1 = ((if 0 ≤ (x6 - x3) then (x6 - x3) else 0 - (x6 - x3)) + (if 0 ≤ (x7 - x4) then (x7 - x4) else 0 - (x7 - x4))) → wm d 29 [.ref x1, .int x6, .int x7] h (fun r9 h9 => wq (d + 1) 27 102 [.ref x0, .ref x1, .int x2, .int x3, .int x4, .int x5, .int x6, .int x7, .int y1, .retAddr 0, .retAddr 0, .retAddr 0] (r9.toList ++ []) h9 Q))) : wq (d + 1) 27 69 [.ref x0, .ref x1, .int x2, .int x3, .int x4, .int x5, .int x6, .int x7, .retAddr 0, .retAddr 0, .retAddr 0, .retAddr 0] [] h Q := by
  refine g3 c_27_69 rfl ?_
  refine g1 c_27_71 k_40 ?_
  refine gcm c_27_73 (gbr t rfl rfl (fun hc t => ?_) (fun hc t => ?_))
  · refine g9 (L' := [.ref x0, .ref x1, .int x2, .int x3, .int x4, .int x5, .int (x6 + 1), .int x7, .retAddr 0, .retAddr 0, .retAddr 0, .retAddr 0]) c_27_185 rfl k_1 rfl ?_
    refine g38 c_27_188 rfl ?_
    exact t
  · refine g3 c_27_76 rfl ?_
    refine g3 c_27_78 rfl ?_
    refine g11 c_27_79 ?_
    obtain ⟨h7, t⟩ := t
    refine g75 c_27_80 (Nat.le_of_ble_eq_true rfl) h7 ?_
    refine g3 c_27_83 rfl ?_
    refine g3 c_27_85 rfl ?_
    refine g11 c_27_87 ?_
    obtain ⟨h7, t⟩ := t
    refine g75 c_27_88 (Nat.le_of_ble_eq_true rfl) h7 ?_
    refine g10 c_27_91 ?_
    refine g6y (Lf := fun y1 => [.ref x0, .ref x1, .int x2, .int x3, .int x4, .int x5, .int x6, .int x7, .int y1, .retAddr 0, .retAddr 0, .retAddr 0]) c_27_92 (fun _ => rfl) (fun y1 ey1 => ?_)
    have t := t y1 ey1
    refine g5 c_27_94 rfl ?_
    refine g3 c_27_95 rfl ?_
    refine g3 c_27_97 rfl ?_
    exact g81 (As := [.ref x1, .int x6, .int x7]) (rest := []) c_27_99 rfl rfl (Nat.le_of_ble_eq_true rfl) (Nat.le_of_ble_eq_true rfl) t
set_option maxRecDepth 20000 in
theorem t_27_102 {d : Nat} {h : ab_H} {Q : Option Value → ab_H → Prop} {x0 : Nat} {x1 : Nat} {x2 : Int32} {x3 : Int32} {x4 : Int32} {x5 : Int32} {x6 : Int32} {x7 : Int32} {x8 : Int32} {s0 : Int32} (t : 7 ≤ (d + 1) ∧ ¬ x5 = 0 ∧ ∀ y1 : Int32, y1 = (if 0 ≤ s0 ^^^ x5 then s0 / x5 else if s0 / x5 * x5 = s0 then s0 / x5 else s0 / x5 + (-1)) → 7 ≤ (d + 1) ∧ 7 ≤ (d + 1) ∧ ∀ y2 : Int32, y2 = (if (0 : Int32) < (if y1 < (40 : Int32) then y1 else 40) then (if y1 < (40 : Int32) then y1 else 40) else 0) → 7 ≤ (d + 1) ∧ 7 ≤ (d + 1) ∧ ∀ y3 : Int32, y3 = (if (0 : Int32) < (if (y1 + 1) < (40 : Int32) then (y1 + 1) else 40) then (if (y1 + 1) < (40 : Int32) then (y1 + 1) else 40) else 0) → 7 ≤ (d + 1) ∧ ab_ok h x0 102 = true ∧ wm d 30 [.ref x0, .ref x1, .int y2, .int x6, .int x7, .int (x8 + (if 0 ≤ (y2 - x2) then (y2 - x2) else 0 - (y2 - x2)))] h (fun r9 h9 => wq (d + 1) 27 158 [.ref x0, .ref x1, .int x2, .int x3, .int x4, .int x5, .int x6, .int x7, .int x8, .int y1, .int y2, .int y3] (r9.toList ++ []) h9 Q)) : wq (d + 1) 27 102 [.ref x0, .ref x1, .int x2, .int x3, .int x4, .int x5, .int x6, .int x7, .int x8, .retAddr 0, .retAddr 0, .retAddr 0] [.int s0] h Q := by
  refine g3 c_27_102 rfl ?_
  obtain ⟨h7, hy, t⟩ := t
  refine g72 c_27_104 (Nat.le_of_ble_eq_true rfl) h7 hy ?_
  refine g6y (Lf := fun y1 => [.ref x0, .ref x1, .int x2, .int x3, .int x4, .int x5, .int x6, .int x7, .int x8, .int y1, .retAddr 0, .retAddr 0]) c_27_107 (fun _ => rfl) (fun y1 ey1 => ?_)
  have t := t y1 ey1
  refine g1 c_27_109 k_0 ?_
  refine g1 c_27_110 k_40 ?_
  refine g3 c_27_112 rfl ?_
  obtain ⟨h7, t⟩ := t
  refine g74 c_27_114 (Nat.le_of_ble_eq_true rfl) h7 ?_
  obtain ⟨h7, t⟩ := t
  refine g73 c_27_117 (Nat.le_of_ble_eq_true rfl) h7 ?_
  refine g6y (Lf := fun y2 => [.ref x0, .ref x1, .int x2, .int x3, .int x4, .int x5, .int x6, .int x7, .int x8, .int y1, .int y2, .retAddr 0]) c_27_120 (fun _ => rfl) (fun y2 ey2 => ?_)
  have t := t y2 ey2
  refine g1 c_27_122 k_0 ?_
  refine g1 c_27_123 k_40 ?_
  refine g3 c_27_125 rfl ?_
  refine g1 c_27_127 k_1 ?_
  refine g10 c_27_128 ?_
  obtain ⟨h7, t⟩ := t
  refine g74 c_27_129 (Nat.le_of_ble_eq_true rfl) h7 ?_
  obtain ⟨h7, t⟩ := t
  refine g73 c_27_132 (Nat.le_of_ble_eq_true rfl) h7 ?_
  refine g6y (Lf := fun y3 => [.ref x0, .ref x1, .int x2, .int x3, .int x4, .int x5, .int x6, .int x7, .int x8, .int y1, .int y2, .int y3]) c_27_135 (fun _ => rfl) (fun y3 ey3 => ?_)
  have t := t y3 ey3
  refine g5 c_27_137 rfl ?_
  refine g5 c_27_138 rfl ?_
  refine g3 c_27_139 rfl ?_
  refine g3 c_27_141 rfl ?_
  refine g3 c_27_143 rfl ?_
  refine g3 c_27_145 rfl ?_
  refine g3 c_27_147 rfl ?_
  refine g3 c_27_149 rfl ?_
  refine g11 c_27_150 ?_
  obtain ⟨h7, t⟩ := t
  refine g75 c_27_151 (Nat.le_of_ble_eq_true rfl) h7 ?_
  refine g10 c_27_154 ?_
  exact g80 (As := [.ref x1, .int y2, .int x6, .int x7, .int (x8 + (if 0 ≤ (y2 - x2) then (y2 - x2) else 0 - (y2 - x2)))]) (rest := []) c_27_155 rfl rfl (Nat.le_of_ble_eq_true rfl) (Nat.le_of_ble_eq_true rfl) t.1 t.2
set_option maxRecDepth 20000 in
theorem t_27_158 {d : Nat} {h : ab_H} {Q : Option Value → ab_H → Prop} {x0 : Nat} {x1 : Nat} {x2 : Int32} {x3 : Int32} {x4 : Int32} {x5 : Int32} {x6 : Int32} {x7 : Int32} {x8 : Int32} {x9 : Int32} {x10 : Int32} {x11 : Int32} (t : 7 ≤ (d + 1) ∧ ab_ok h x0 102 = true ∧ wm d 30 [.ref x0, .ref x1, .int x11, .int x6, .int x7, .int (x8 + (if 0 ≤ (x11 - x2) then (x11 - x2) else 0 - (x11 - x2)))] h (fun r9 h9 => wq (d + 1) 27 179 [.ref x0, .ref x1, .int x2, .int x3, .int x4, .int x5, .int x6, .int x7, .int x8, .int x9, .int x10, .int x11] (r9.toList ++ []) h9 Q)) : wq (d + 1) 27 158 [.ref x0, .ref x1, .int x2, .int x3, .int x4, .int x5, .int x6, .int x7, .int x8, .int x9, .int x10, .int x11] [] h Q := by
  refine g5 c_27_158 rfl ?_
  refine g5 c_27_159 rfl ?_
  refine g3 c_27_160 rfl ?_
  refine g3 c_27_162 rfl ?_
  refine g3 c_27_164 rfl ?_
  refine g3 c_27_166 rfl ?_
  refine g3 c_27_168 rfl ?_
  refine g3 c_27_170 rfl ?_
  refine g11 c_27_171 ?_
  obtain ⟨h7, t⟩ := t
  refine g75 c_27_172 (Nat.le_of_ble_eq_true rfl) h7 ?_
  refine g10 c_27_175 ?_
  exact g80 (As := [.ref x1, .int x11, .int x6, .int x7, .int (x8 + (if 0 ≤ (x11 - x2) then (x11 - x2) else 0 - (x11 - x2)))]) (rest := []) c_27_176 rfl rfl (Nat.le_of_ble_eq_true rfl) (Nat.le_of_ble_eq_true rfl) t.1 t.2
set_option maxRecDepth 20000 in
theorem t_27_179 {d : Nat} {h : ab_H} {Q : Option Value → ab_H → Prop} {x0 : Nat} {x1 : Nat} {x2 : Int32} {x3 : Int32} {x4 : Int32} {x5 : Int32} {x6 : Int32} {x7 : Int32} {x8 : Int32} {x9 : Int32} {x10 : Int32} {x11 : Int32} (t : wq d 27 69 [.ref x0, .ref x1, .int x2, .int x3, .int x4, .int x5, .int x6, .int (x7 + 1), .int x8, .int x9, .int x10, .int x11] [] h Q) : wq d 27 179 [.ref x0, .ref x1, .int x2, .int x3, .int x4, .int x5, .int x6, .int x7, .int x8, .int x9, .int x10, .int x11] [] h Q := by
  refine g9 (L' := [.ref x0, .ref x1, .int x2, .int x3, .int x4, .int x5, .int x6, .int (x7 + 1), .int x8, .int x9, .int x10, .int x11]) c_27_179 rfl k_1 rfl ?_
  refine g38 c_27_182 rfl ?_
  exact t
-- method 28: MillTown$ListMaker.partOf(LMillTown$Rows;III)I
theorem c_28_0 : pg_cd 28 0 = (3, 1, 0, 2, 0) := by decide +kernel
theorem c_28_1 : pg_cd 28 1 = (5, 1, 0, 0, 0) := by decide +kernel
theorem c_28_2 : pg_cd 28 2 = (3, 1, 0, 1, 0) := by decide +kernel
theorem c_28_3 : pg_cd 28 3 = (1, 1, 0, 0, 0) := by decide +kernel
theorem c_28_4 : pg_cd 28 4 = (80, 55, 21, 0, 0) := by decide +kernel
theorem c_28_7 : pg_cd 28 7 = (12, 1, 0, 0, 0) := by decide +kernel
theorem c_28_8 : pg_cd 28 8 = (3, 1, 0, 3, 0) := by decide +kernel
theorem c_28_9 : pg_cd 28 9 = (5, 1, 0, 0, 0) := by decide +kernel
theorem c_28_10 : pg_cd 28 10 = (3, 1, 0, 1, 0) := by decide +kernel
theorem c_28_11 : pg_cd 28 11 = (1, 1, 0, 0, 1) := by decide +kernel
theorem c_28_12 : pg_cd 28 12 = (80, 55, 21, 0, 0) := by decide +kernel
theorem c_28_15 : pg_cd 28 15 = (12, 1, 0, 0, 0) := by decide +kernel
theorem c_28_16 : pg_cd 28 16 = (10, 1, 0, 0, 0) := by decide +kernel
theorem c_28_17 : pg_cd 28 17 = (1, 2, 0, 0, 10) := by decide +kernel
theorem c_28_19 : pg_cd 28 19 = (16, 1, 0, 0, 0) := by decide +kernel
theorem c_28_20 : pg_cd 28 20 = (90, 0, 0, 0, 0) := by decide +kernel
theorem mx_28 : pg_mx 28 = 4 := by decide +kernel
theorem m_28 {d : Nat} {h : ab_H} {Q : Option Value → ab_H → Prop} {x0 : Nat} {x1 : Int32} {x2 : Int32} {x3 : Int32} (t : wq d 28 0 [.ref x0, .int x1, .int x2, .int x3] [] h Q) : wm d 28 [.ref x0, .int x1, .int x2, .int x3] h Q := by
  unfold wm
  rw [mx_28]
  exact t
set_option maxRecDepth 20000 in
theorem t_28_0 {d : Nat} {h : ab_H} {Q : Option Value → ab_H → Prop} {x0 : Nat} {x1 : Int32} {x2 : Int32} {x3 : Int32} (t : ab_ok h x0 104 = true ∧ wm d 55 [.ref x0, .int x1, .int 0] h (fun r9 h9 => wq (d + 1) 28 7 [.ref x0, .int x1, .int x2, .int x3] (r9.toList ++ [.int x2]) h9 Q)) : wq (d + 1) 28 0 [.ref x0, .int x1, .int x2, .int x3] [] h Q := by
  refine g3 c_28_0 rfl ?_
  refine g5 c_28_1 rfl ?_
  refine g3 c_28_2 rfl ?_
  refine g1 c_28_3 k_0 ?_
  exact g80 (As := [.int x1, .int 0]) (rest := [.int x2]) c_28_4 rfl rfl (Nat.le_of_ble_eq_true rfl) (Nat.le_of_ble_eq_true rfl) t.1 t.2
set_option maxRecDepth 20000 in
theorem t_28_7 {d : Nat} {h : ab_H} {Q : Option Value → ab_H → Prop} {x0 : Nat} {x1 : Int32} {x2 : Int32} {x3 : Int32} {s0 : Int32} {s1 : Int32} (t : ab_ok h x0 104 = true ∧ wm d 55 [.ref x0, .int x1, .int 1] h (fun r9 h9 => wq (d + 1) 28 15 [.ref x0, .int x1, .int x2, .int x3] (r9.toList ++ [.int x3, .int (s0 * s1)]) h9 Q)) : wq (d + 1) 28 7 [.ref x0, .int x1, .int x2, .int x3] [.int s1, .int s0] h Q := by
  refine g12 c_28_7 ?_
  refine g3 c_28_8 rfl ?_
  refine g5 c_28_9 rfl ?_
  refine g3 c_28_10 rfl ?_
  refine g1 c_28_11 k_1 ?_
  exact g80 (As := [.int x1, .int 1]) (rest := [.int x3, .int (s0 * s1)]) c_28_12 rfl rfl (Nat.le_of_ble_eq_true rfl) (Nat.le_of_ble_eq_true rfl) t.1 t.2
set_option maxRecDepth 20000 in
theorem t_28_15 {d : Nat} {h : ab_H} {Q : Option Value → ab_H → Prop} {x0 : Nat} {x1 : Int32} {x2 : Int32} {x3 : Int32} {s0 : Int32} {s1 : Int32} {s2 : Int32} (t : ¬ (10 : Int32) = 0 ∧ Q (some (.int ((s0 + (s1 * s2)) / 10))) h) : wq d 28 15 [.ref x0, .int x1, .int x2, .int x3] [.int s2, .int s1, .int s0] h Q := by
  refine g12 c_28_15 ?_
  refine g10 c_28_16 ?_
  refine g1 c_28_17 k_10 ?_
  obtain ⟨hy, t⟩ := t
  refine g16 c_28_19 hy ?_
  exact g90 c_28_20 t
-- method 29: MillTown$ListMaker.lackOf(LMillTown$Rows;II)I
theorem c_29_0 : pg_cd 29 0 = (1, 1, 0, 0, 0) := by decide +kernel
theorem c_29_1 : pg_cd 29 1 = (6, 1, 0, 3, 0) := by decide +kernel
theorem c_29_2 : pg_cd 29 2 = (1, 1, 0, 0, 0) := by decide +kernel
theorem c_29_3 : pg_cd 29 3 = (6, 2, 0, 4, 0) := by decide +kernel
theorem c_29_5 : pg_cd 29 5 = (3, 2, 0, 4, 0) := by decide +kernel
theorem c_29_7 : pg_cd 29 7 = (5, 1, 0, 0, 0) := by decide +kernel
theorem c_29_8 : pg_cd 29 8 = (43, 4, 15, 2, 0) := by decide +kernel
theorem c_29_11 : pg_cd 29 11 = (37, 3, 0, 3, 42) := by decide +kernel
theorem c_29_14 : pg_cd 29 14 = (5, 1, 0, 0, 0) := by decide +kernel
theorem c_29_15 : pg_cd 29 15 = (3, 2, 0, 4, 0) := by decide +kernel
theorem c_29_17 : pg_cd 29 17 = (1, 1, 0, 0, 5) := by decide +kernel
theorem c_29_18 : pg_cd 29 18 = (80, 55, 21, 0, 0) := by decide +kernel
theorem c_29_21 : pg_cd 29 21 = (6, 2, 0, 5, 0) := by decide +kernel
theorem c_29_23 : pg_cd 29 23 = (3, 1, 0, 3, 0) := by decide +kernel
theorem c_29_24 : pg_cd 29 24 = (3, 2, 0, 5, 0) := by decide +kernel
theorem c_29_26 : pg_cd 29 26 = (1, 1, 0, 0, (-1)) := by decide +kernel
theorem c_29_27 : pg_cd 29 27 = (37, 3, 0, 1, 7) := by decide +kernel
theorem c_29_30 : pg_cd 29 30 = (1, 1, 0, 0, 0) := by decide +kernel
theorem c_29_31 : pg_cd 29 31 = (38, 3, 0, 0, 14) := by decide +kernel
theorem c_29_34 : pg_cd 29 34 = (3, 2, 0, 5, 0) := by decide +kernel
theorem c_29_36 : pg_cd 29 36 = (5, 1, 0, 0, 0) := by decide +kernel
theorem c_29_37 : pg_cd 29 37 = (3, 2, 0, 4, 0) := by decide +kernel
theorem c_29_39 : pg_cd 29 39 = (3, 1, 0, 1, 0) := by decide +kernel
theorem c_29_40 : pg_cd 29 40 = (3, 1, 0, 2, 0) := by decide +kernel
theorem c_29_41 : pg_cd 29 41 = (81, 28, 48, 0, 0) := by decide +kernel
theorem c_29_44 : pg_cd 29 44 = (11, 1, 0, 0, 0) := by decide +kernel
theorem c_29_45 : pg_cd 29 45 = (10, 1, 0, 0, 0) := by decide +kernel
theorem c_29_46 : pg_cd 29 46 = (6, 1, 0, 3, 0) := by decide +kernel
theorem c_29_47 : pg_cd 29 47 = (9, 3, 0, 4, 1) := by decide +kernel
theorem c_29_50 : pg_cd 29 50 = (38, 3, 0, 0, (-45)) := by decide +kernel
theorem c_29_53 : pg_cd 29 53 = (3, 1, 0, 3, 0) := by decide +kernel
theorem c_29_54 : pg_cd 29 54 = (90, 0, 0, 0, 0) := by decide +kernel
theorem mx_29 : pg_mx 29 = 6 := by decide +kernel
theorem m_29 {d : Nat} {h : ab_H} {Q : Option Value → ab_H → Prop} {x0 : Nat} {x1 : Int32} {x2 : Int32} (t : wq d 29 0 [.ref x0, .int x1, .int x2, .retAddr 0, .retAddr 0, .retAddr 0] [] h Q) : wm d 29 [.ref x0, .int x1, .int x2] h Q := by
  unfold wm
  rw [mx_29]
  exact t
set_option maxRecDepth 20000 in
theorem t_29_0 {d : Nat} {h : ab_H} {Q : Option Value → ab_H → Prop} {x0 : Nat} {x1 : Int32} {x2 : Int32} (t : wq d 29 5 [.ref x0, .int x1, .int x2, .int 0, .int 0, .retAddr 0] [] h Q) : wq d 29 0 [.ref x0, .int x1, .int x2, .retAddr 0, .retAddr 0, .retAddr 0] [] h Q := by
  refine g1 c_29_0 k_0 ?_
  refine g6 (L' := [.ref x0, .int x1, .int x2, .int 0, .retAddr 0, .retAddr 0]) c_29_1 rfl ?_
  refine g1 c_29_2 k_0 ?_
  refine g6 (L' := [.ref x0, .int x1, .int x2, .int 0, .int 0, .retAddr 0]) c_29_3 rfl ?_
  exact t
set_option maxRecDepth 20000 in
theorem t_29_5 {d : Nat} {h : ab_H} {Q : Option Value → ab_H → Prop} {x0 : Nat} {x1 : Int32} {x2 : Int32} {x3 : Int32} {x4 : Int32} (t : ab_ok h x0 104 = true ∧ if (ab_i h x0 2) ≤ x4 then (Q (some (.int x3)) h) else (ab_ok h x0 104 = true ∧ wm d 55 [.ref x0, .int x4, .int 5] h (fun r9 h9 => wq (d + 1) 29 21 [.ref x0, .int x1, .int x2, .int x3, .int x4, .retAddr 0] (r9.toList ++ []) h9 Q))) : wq (d + 1) 29 5 [.ref x0, .int x1, .int x2, .int x3, .int x4, .retAddr 0] [] h Q := by
  refine g3 c_29_5 rfl ?_
  refine g5 c_29_7 rfl ?_
  obtain ⟨ho, t⟩ := t
  refine g43 c_29_8 ho ?_
  refine gcm c_29_11 (gbr t rfl rfl (fun hc t => ?_) (fun hc t => ?_))
  · refine g3 c_29_53 rfl ?_
    exact g90 c_29_54 t
  · refine g5 c_29_14 rfl ?_
    refine g3 c_29_15 rfl ?_
    refine g1 c_29_17 k_5 ?_
    exact g80 (As := [.int x4, .int 5]) (rest := []) c_29_18 rfl rfl (Nat.le_of_ble_eq_true rfl) (Nat.le_of_ble_eq_true rfl) t.1 t.2
set_option maxRecDepth 20000 in
theorem t_29_21 {d : Nat} {h : ab_H} {Q : Option Value → ab_H → Prop} {x0 : Nat} {x1 : Int32} {x2 : Int32} {x3 : Int32} {x4 : Int32} {s0 : Int32} (t : if s0 = (-1) then (wq (d + 1) 29 5 [.ref x0, .int x1, .int x2, .int (x3 + 0), .int (x4 + 1), .int s0] [] h Q) else (wm d 28 [.ref x0, .int x4, .int x1, .int x2] h (fun r9 h9 => wq (d + 1) 29 44 [.ref x0, .int x1, .int x2, .int x3, .int x4, .int s0] (r9.toList ++ [.int s0, .int x3]) h9 Q))) : wq (d + 1) 29 21 [.ref x0, .int x1, .int x2, .int x3, .int x4, .retAddr 0] [.int s0] h Q := by
  refine g6 (L' := [.ref x0, .int x1, .int x2, .int x3, .int x4, .int s0]) c_29_21 rfl ?_
  refine g3 c_29_23 rfl ?_
  refine g3 c_29_24 rfl ?_
  refine g1 c_29_26 k_m1 ?_
  refine gcm c_29_27 (gbn t (ab_c1 _ _) rfl (fun hc t => ?_) (fun hc t => ?_))
  · refine g1 c_29_30 k_0 ?_
    refine g38 c_29_31 rfl ?_
    refine g10 c_29_45 ?_
    refine g6 (L' := [.ref x0, .int x1, .int x2, .int (x3 + 0), .int x4, .int s0]) c_29_46 rfl ?_
    refine g9 (L' := [.ref x0, .int x1, .int x2, .int (x3 + 0), .int (x4 + 1), .int s0]) c_29_47 rfl k_1 rfl ?_
    refine g38 c_29_50 rfl ?_
    exact t
  · refine g3 c_29_34 rfl ?_
    refine g5 c_29_36 rfl ?_
    refine g3 c_29_37 rfl ?_
    refine g3 c_29_39 rfl ?_
    refine g3 c_29_40 rfl ?_
    exact g81 (As := [.ref x0, .int x4, .int x1, .int x2]) (rest := [.int s0, .int x3]) c_29_41 rfl rfl (Nat.le_of_ble_eq_true rfl) (Nat.le_of_ble_eq_true rfl) t
set_option maxRecDepth 20000 in
theorem t_29_44 {d : Nat} {h : ab_H} {Q : Option Value → ab_H → Prop} {x0 : Nat} {x1 : Int32} {x2 : Int32} {x3 : Int32} {x4 : Int32} {x5 : Int32} {s0 : Int32} {s1 : Int32} {s2 : Int32} (t : wq d 29 5 [.ref x0, .int x1, .int x2, .int (s0 + (s1 - s2)), .int (x4 + 1), .int x5] [] h Q) : wq d 29 44 [.ref x0, .int x1, .int x2, .int x3, .int x4, .int x5] [.int s2, .int s1, .int s0] h Q := by
  refine g11 c_29_44 ?_
  refine g10 c_29_45 ?_
  refine g6 (L' := [.ref x0, .int x1, .int x2, .int (s0 + (s1 - s2)), .int x4, .int x5]) c_29_46 rfl ?_
  refine g9 (L' := [.ref x0, .int x1, .int x2, .int (s0 + (s1 - s2)), .int (x4 + 1), .int x5]) c_29_47 rfl k_1 rfl ?_
  refine g38 c_29_50 rfl ?_
  exact t
-- method 30: MillTown$ListMaker.weigh(LMillTown$Rows;IIII)V
theorem c_30_0 : pg_cd 30 0 = (1, 1, 0, 0, 0) := by decide +kernel
theorem c_30_1 : pg_cd 30 1 = (6, 2, 0, 6, 0) := by decide +kernel
theorem c_30_3 : pg_cd 30 3 = (1, 1, 0, 0, 0) := by decide +kernel
theorem c_30_4 : pg_cd 30 4 = (6, 2, 0, 7, 0) := by decide +kernel
theorem c_30_6 : pg_cd 30 6 = (3, 2, 0, 7, 0) := by decide +kernel
theorem c_30_8 : pg_cd 30 8 = (5, 1, 0, 1, 0) := by decide +kernel
theorem c_30_9 : pg_cd 30 9 = (43, 4, 15, 2, 0) := by decide +kernel
theorem c_30_12 : pg_cd 30 12 = (37, 3, 0, 3, 54) := by decide +kernel
theorem c_30_15 : pg_cd 30 15 = (5, 1, 0, 1, 0) := by decide +kernel
theorem c_30_16 : pg_cd 30 16 = (3, 2, 0, 7, 0) := by decide +kernel
theorem c_30_18 : pg_cd 30 18 = (1, 1, 0, 0, 5) := by decide +kernel
theorem c_30_19 : pg_cd 30 19 = (80, 55, 21, 0, 0) := by decide +kernel
theorem c_30_22 : pg_cd 30 22 = (6, 2, 0, 8, 0) := by decide +kernel
theorem c_30_24 : pg_cd 30 24 = (3, 2, 0, 8, 0) := by decide +kernel
theorem c_30_26 : pg_cd 30 26 = (1, 1, 0, 0, (-1)) := by decide +kernel
theorem c_30_27 : pg_cd 30 27 = (37, 3, 0, 1, 7) := by decide +kernel
theorem c_30_30 : pg_cd 30 30 = (1, 1, 0, 0, 0) := by decide +kernel
theorem c_30_31 : pg_cd 30 31 = (38, 3, 0, 0, 17) := by decide +kernel
theorem c_30_34 : pg_cd 30 34 = (3, 2, 0, 8, 0) := by decide +kernel
theorem c_30_36 : pg_cd 30 36 = (3, 1, 0, 2, 0) := by decide +kernel
theorem c_30_37 : pg_cd 30 37 = (11, 1, 0, 0, 0) := by decide +kernel
theorem c_30_38 : pg_cd 30 38 = (5, 1, 0, 1, 0) := by decide +kernel
theorem c_30_39 : pg_cd 30 39 = (3, 2, 0, 7, 0) := by decide +kernel
theorem c_30_41 : pg_cd 30 41 = (3, 1, 0, 3, 0) := by decide +kernel
theorem c_30_42 : pg_cd 30 42 = (3, 2, 0, 4, 0) := by decide +kernel
theorem c_30_44 : pg_cd 30 44 = (81, 28, 48, 0, 0) := by decide +kernel
theorem c_30_47 : pg_cd 30 47 = (11, 1, 0, 0, 0) := by decide +kernel
theorem c_30_48 : pg_cd 30 48 = (6, 2, 0, 9, 0) := by decide +kernel
theorem c_30_50 : pg_cd 30 50 = (3, 2, 0, 6, 0) := by decide +kernel
theorem c_30_52 : pg_cd 30 52 = (3, 2, 0, 9, 0) := by decide +kernel
theorem c_30_54 : pg_cd 30 54 = (3, 2, 0, 9, 0) := by decide +kernel
theorem c_30_56 : pg_cd 30 56 = (12, 1, 0, 0, 0) := by decide +kernel
theorem c_30_57 : pg_cd 30 57 = (10, 1, 0, 0, 0) := by decide +kernel
theorem c_30_58 : pg_cd 30 58 = (6, 2, 0, 6, 0) := by decide +kernel
theorem c_30_60 : pg_cd 30 60 = (9, 3, 0, 7, 1) := by decide +kernel
theorem c_30_63 : pg_cd 30 63 = (38, 3, 0, 0, (-57)) := by decide +kernel
theorem c_30_66 : pg_cd 30 66 = (5, 1, 0, 0, 0) := by decide +kernel
theorem c_30_67 : pg_cd 30 67 = (3, 2, 0, 6, 0) := by decide +kernel
theorem c_30_69 : pg_cd 30 69 = (3, 2, 0, 5, 0) := by decide +kernel
theorem c_30_71 : pg_cd 30 71 = (3, 1, 0, 2, 0) := by decide +kernel
theorem c_30_72 : pg_cd 30 72 = (3, 1, 0, 3, 0) := by decide +kernel
theorem c_30_73 : pg_cd 30 73 = (3, 2, 0, 4, 0) := by decide +kernel
theorem c_30_75 : pg_cd 30 75 = (80, 31, 52, 0, 0) := by decide +kernel
theorem c_30_78 : pg_cd 30 78 = (36, 3, 0, 0, 39) := by decide +kernel
theorem c_30_81 : pg_cd 30 81 = (5, 1, 0, 0, 0) := by decide +kernel
theorem c_30_82 : pg_cd 30 82 = (45, 2, 9, 0, 0) := by decide +kernel
theorem c_30_85 : pg_cd 30 85 = (1, 1, 0, 0, 0) := by decide +kernel
theorem c_30_86 : pg_cd 30 86 = (3, 1, 0, 2, 0) := by decide +kernel
theorem c_30_87 : pg_cd 30 87 = (54, 1, 0, 0, 0) := by decide +kernel
theorem c_30_88 : pg_cd 30 88 = (5, 1, 0, 0, 0) := by decide +kernel
theorem c_30_89 : pg_cd 30 89 = (45, 2, 9, 0, 0) := by decide +kernel
theorem c_30_92 : pg_cd 30 92 = (1, 1, 0, 0, 1) := by decide +kernel
theorem c_30_93 : pg_cd 30 93 = (3, 1, 0, 3, 0) := by decide +kernel
theorem c_30_94 : pg_cd 30 94 = (54, 1, 0, 0, 0) := by decide +kernel
theorem c_30_95 : pg_cd 30 95 = (5, 1, 0, 0, 0) := by decide +kernel
theorem c_30_96 : pg_cd 30 96 = (45, 2, 9, 0, 0) := by decide +kernel
theorem c_30_99 : pg_cd 30 99 = (1, 1, 0, 0, 2) := by decide +kernel
theorem c_30_100 : pg_cd 30 100 = (3, 2, 0, 4, 0) := by decide +kernel
theorem c_30_102 : pg_cd 30 102 = (54, 1, 0, 0, 0) := by decide +kernel
theorem c_30_103 : pg_cd 30 103 = (5, 1, 0, 0, 0) := by decide +kernel
theorem c_30_104 : pg_cd 30 104 = (45, 2, 9, 0, 0) := by decide +kernel
theorem c_30_107 : pg_cd 30 107 = (1, 1, 0, 0, 3) := by decide +kernel
theorem c_30_108 : pg_cd 30 108 = (3, 2, 0, 6, 0) := by decide +kernel
theorem c_30_110 : pg_cd 30 110 = (54, 1, 0, 0, 0) := by decide +kernel
theorem c_30_111 : pg_cd 30 111 = (5, 1, 0, 0, 0) := by decide +kernel
theorem c_30_112 : pg_cd 30 112 = (3, 2, 0, 5, 0) := by decide +kernel
theorem c_30_114 : pg_cd 30 114 = (46, 2, 56, 1, 0) := by decide +kernel
theorem c_30_117 : pg_cd 30 117 = (94, 0, 0, 0, 0) := by decide +kernel
theorem mx_30 : pg_mx 30 = 10 := by decide +kernel
theorem m_30 {d : Nat} {h : ab_H} {Q : Option Value → ab_H → Prop} {x0 : Nat} {x1 : Nat} {x2 : Int32} {x3 : Int32} {x4 : Int32} {x5 : Int32} (t : wq d 30 0 [.ref x0, .ref x1, .int x2, .int x3, .int x4, .int x5, .retAddr 0, .retAddr 0, .retAddr 0, .retAddr 0] [] h Q) : wm d 30 [.ref x0, .ref x1, .int x2, .int x3, .int x4, .int x5] h Q := by
  unfold wm
  rw [mx_30]
  exact t
set_option maxRecDepth 20000 in
theorem t_30_0 {d : Nat} {h : ab_H} {Q : Option Value → ab_H → Prop} {x0 : Nat} {x1 : Nat} {x2 : Int32} {x3 : Int32} {x4 : Int32} {x5 : Int32} (t : wq d 30 6 [.ref x0, .ref x1, .int x2, .int x3, .int x4, .int x5, .int 0, .int 0, .retAddr 0, .retAddr 0] [] h Q) : wq d 30 0 [.ref x0, .ref x1, .int x2, .int x3, .int x4, .int x5, .retAddr 0, .retAddr 0, .retAddr 0, .retAddr 0] [] h Q := by
  refine g1 c_30_0 k_0 ?_
  refine g6 (L' := [.ref x0, .ref x1, .int x2, .int x3, .int x4, .int x5, .int 0, .retAddr 0, .retAddr 0, .retAddr 0]) c_30_1 rfl ?_
  refine g1 c_30_3 k_0 ?_
  refine g6 (L' := [.ref x0, .ref x1, .int x2, .int x3, .int x4, .int x5, .int 0, .int 0, .retAddr 0, .retAddr 0]) c_30_4 rfl ?_
  exact t
set_option maxRecDepth 20000 in
theorem t_30_6 {d : Nat} {h : ab_H} {Q : Option Value → ab_H → Prop} {x0 : Nat} {x1 : Nat} {x2 : Int32} {x3 : Int32} {x4 : Int32} {x5 : Int32} {x6 : Int32} {x7 : Int32} (t : ab_ok h x1 104 = true ∧ if (ab_i h x1 2) ≤ x7 then (ab_ok h x0 102 = true ∧ wm d 31 [.ref x0, .int x6, .int x5, .int x2, .int x3, .int x4] h (fun r9 h9 => wq (d + 1) 30 78 [.ref x0, .ref x1, .int x2, .int x3, .int x4, .int x5, .int x6, .int x7, .retAddr 0, .retAddr 0] (r9.toList ++ []) h9 Q)) else (ab_ok h x1 104 = true ∧ wm d 55 [.ref x1, .int x7, .int 5] h (fun r9 h9 => wq (d + 1) 30 22 [.ref x0, .ref x1, .int x2, .int x3, .int x4, .int x5, .int x6, .int x7, .retAddr 0, .retAddr 0] (r9.toList ++ []) h9 Q))) : wq (d + 1) 30 6 [.ref x0, .ref x1, .int x2, .int x3, .int x4, .int x5, .int x6, .int x7, .retAddr 0, .retAddr 0] [] h Q := by
  refine g3 c_30_6 rfl ?_
  refine g5 c_30_8 rfl ?_
  obtain ⟨ho, t⟩ := t
  refine g43 c_30_9 ho ?_
  refine gcm c_30_12 (gbr t rfl rfl (fun hc t => ?_) (fun hc t => ?_))
  · refine g5 c_30_66 rfl ?_
    refine g3 c_30_67 rfl ?_
    refine g3 c_30_69 rfl ?_
    refine g3 c_30_71 rfl ?_
    refine g3 c_30_72 rfl ?_
    refine g3 c_30_73 rfl ?_
    exact g80 (As := [.int x6, .int x5, .int x2, .int x3, .int x4]) (rest := []) c_30_75 rfl rfl (Nat.le_of_ble_eq_true rfl) (Nat.le_of_ble_eq_true rfl) t.1 t.2
  · refine g5 c_30_15 rfl ?_
    refine g3 c_30_16 rfl ?_
    refine g1 c_30_18 k_5 ?_
    exact g80 (As := [.int x7, .int 5]) (rest := []) c_30_19 rfl rfl (Nat.le_of_ble_eq_true rfl) (Nat.le_of_ble_eq_true rfl) t.1 t.2
set_option maxRecDepth 20000 in
theorem t_30_22 {d : Nat} {h : ab_H} {Q : Option Value → ab_H → Prop} {x0 : Nat} {x1 : Nat} {x2 : Int32} {x3 : Int32} {x4 : Int32} {x5 : Int32} {x6 : Int32} {x7 : Int32} {s0 : Int32} (t : if s0 = (-1) then (wq (d + 1) 30 6 [.ref x0, .ref x1, .int x2, .int x3, .int x4, .int x5, .int (x6 + (0 * 0)), .int (x7 + 1), .int s0, .int 0] [] h Q) else (wm d 28 [.ref x1, .int x7, .int x3, .int x4] h (fun r9 h9 => wq (d + 1) 30 47 [.ref x0, .ref x1, .int x2, .int x3, .int x4, .int x5, .int x6, .int x7, .int s0, .retAddr 0] (r9.toList ++ [.int (s0 - x2)]) h9 Q))) : wq (d + 1) 30 22 [.ref x0, .ref x1, .int x2, .int x3, .int x4, .int x5, .int x6, .int x7, .retAddr 0, .retAddr 0] [.int s0] h Q := by
  refine g6 (L' := [.ref x0, .ref x1, .int x2, .int x3, .int x4, .int x5, .int x6, .int x7, .int s0, .retAddr 0]) c_30_22 rfl ?_
  refine g3 c_30_24 rfl ?_
  refine g1 c_30_26 k_m1 ?_
  refine gcm c_30_27 (gbn t (ab_c1 _ _) rfl (fun hc t => ?_) (fun hc t => ?_))
  · refine g1 c_30_30 k_0 ?_
    refine g38 c_30_31 rfl ?_
    refine g6 (L' := [.ref x0, .ref x1, .int x2, .int x3, .int x4, .int x5, .int x6, .int x7, .int s0, .int 0]) c_30_48 rfl ?_
    refine g3 c_30_50 rfl ?_
    refine g3 c_30_52 rfl ?_
    refine g3 c_30_54 rfl ?_
    refine g12 c_30_56 ?_
    refine g10 c_30_57 ?_
    refine g6 (L' := [.ref x0, .ref x1, .int x2, .int x3, .int x4, .int x5, .int (x6 + (0 * 0)), .int x7, .int s0, .int 0]) c_30_58 rfl ?_
    refine g9 (L' := [.ref x0, .ref x1, .int x2, .int x3, .int x4, .int x5, .int (x6 + (0 * 0)), .int (x7 + 1), .int s0, .int 0]) c_30_60 rfl k_1 rfl ?_
    refine g38 c_30_63 rfl ?_
    exact t
  · refine g3 c_30_34 rfl ?_
    refine g3 c_30_36 rfl ?_
    refine g11 c_30_37 ?_
    refine g5 c_30_38 rfl ?_
    refine g3 c_30_39 rfl ?_
    refine g3 c_30_41 rfl ?_
    refine g3 c_30_42 rfl ?_
    exact g81 (As := [.ref x1, .int x7, .int x3, .int x4]) (rest := [.int (s0 - x2)]) c_30_44 rfl rfl (Nat.le_of_ble_eq_true rfl) (Nat.le_of_ble_eq_true rfl) t
set_option maxRecDepth 20000 in
theorem t_30_47 {d : Nat} {h : ab_H} {Q : Option Value → ab_H → Prop} {x0 : Nat} {x1 : Nat} {x2 : Int32} {x3 : Int32} {x4 : Int32} {x5 : Int32} {x6 : Int32} {x7 : Int32} {x8 : Int32} {s0 : Int32} {s1 : Int32} (t : wq d 30 6 [.ref x0, .ref x1, .int x2, .int x3, .int x4, .int x5, .int (x6 + ((s0 - s1) * (s0 - s1))), .int (x7 + 1), .int x8, .int (s0 - s1)] [] h Q) : wq d 30 47 [.ref x0, .ref x1, .int x2, .int x3, .int x4, .int x5, .int x6, .int x7, .int x8, .retAddr 0] [.int s1, .int s0] h Q := by
  refine g11 c_30_47 ?_
  refine g6 (L' := [.ref x0, .ref x1, .int x2, .int x3, .int x4, .int x5, .int x6, .int x7, .int x8, .int (s0 - s1)]) c_30_48 rfl ?_
  refine g3 c_30_50 rfl ?_
  refine g3 c_30_52 rfl ?_
  refine g3 c_30_54 rfl ?_
  refine g12 c_30_56 ?_
  refine g10 c_30_57 ?_
  refine g6 (L' := [.ref x0, .ref x1, .int x2, .int x3, .int x4, .int x5, .int (x6 + ((s0 - s1) * (s0 - s1))), .int x7, .int x8, .int (s0 - s1)]) c_30_58 rfl ?_
  refine g9 (L' := [.ref x0, .ref x1, .int x2, .int x3, .int x4, .int x5, .int (x6 + ((s0 - s1) * (s0 - s1))), .int (x7 + 1), .int x8, .int (s0 - s1)]) c_30_60 rfl k_1 rfl ?_
  refine g38 c_30_63 rfl ?_
  exact t
set_option maxRecDepth 20000 in
theorem t_30_78 {d : Nat} {h : ab_H} {Q : Option Value → ab_H → Prop} {x0 : Nat} {x1 : Nat} {x2 : Int32} {x3 : Int32} {x4 : Int32} {x5 : Int32} {x6 : Int32} {x7 : Int32} {s0 : Int32} (t : if s0 = 0 then (Q none h) else (ab_ok h x0 102 = true ∧ ∃ j1 : Nat, ab_r h x0 0 = some j1 ∧ (ab_ok h j1 0 = true ∧ ab_in (0 : Int32) (ab_s h j1).2 = true) ∧ ∀ h2 : ab_H, h2 = ab_pi h j1 (Int32.toNatClampNeg (0 : Int32)) x2 → ab_ok h2 x0 102 = true ∧ ∃ j3 : Nat, ab_r h2 x0 0 = some j3 ∧ (ab_ok h2 j3 0 = true ∧ ab_in (1 : Int32) (ab_s h2 j3).2 = true) ∧ ∀ h4 : ab_H, h4 = ab_pi h2 j3 (Int32.toNatClampNeg (1 : Int32)) x3 → ab_ok h4 x0 102 = true ∧ ∃ j5 : Nat, ab_r h4 x0 0 = some j5 ∧ (ab_ok h4 j5 0 = true ∧ ab_in (2 : Int32) (ab_s h4 j5).2 = true) ∧ ∀ h6 : ab_H, h6 = ab_pi h4 j5 (Int32.toNatClampNeg (2 : Int32)) x4 → ab_ok h6 x0 102 = true ∧ ∃ j7 : Nat, ab_r h6 x0 0 = some j7 ∧ (ab_ok h6 j7 0 = true ∧ ab_in (3 : Int32) (ab_s h6 j7).2 = true) ∧ ∀ h8 : ab_H, h8 = ab_pi h6 j7 (Int32.toNatClampNeg (3 : Int32)) x6 → ab_ok h8 x0 102 = true ∧ ∀ h9 : ab_H, h9 = ab_pi h8 x0 1 x5 → Q none h9)) : wq d 30 78 [.ref x0, .ref x1, .int x2, .int x3, .int x4, .int x5, .int x6, .int x7, .retAddr 0, .retAddr 0] [.int s0] h Q := by
  refine gif c_30_78 (gbr t rfl rfl (fun hc t => ?_) (fun hc t => ?_))
  · exact g94 c_30_117 t
  · refine g5 c_30_81 rfl ?_
    obtain ⟨ho, j1, hr, t⟩ := t
    refine g45 c_30_82 ho hr ?_
    refine g1 c_30_85 k_0 ?_
    refine g3 c_30_86 rfl ?_
    obtain ⟨ho, t⟩ := t
    refine g54 c_30_87 ho (fun h2 eh2 => ?_)
    have t := t h2 eh2
    refine g5 c_30_88 rfl ?_
    obtain ⟨ho, j3, hr, t⟩ := t
    refine g45 c_30_89 ho hr ?_
    refine g1 c_30_92 k_1 ?_
    refine g3 c_30_93 rfl ?_
    obtain ⟨ho, t⟩ := t
    refine g54 c_30_94 ho (fun h4 eh4 => ?_)
    have t := t h4 eh4
    refine g5 c_30_95 rfl ?_
    obtain ⟨ho, j5, hr, t⟩ := t
    refine g45 c_30_96 ho hr ?_
    refine g1 c_30_99 k_2 ?_
    refine g3 c_30_100 rfl ?_
    obtain ⟨ho, t⟩ := t
    refine g54 c_30_102 ho (fun h6 eh6 => ?_)
    have t := t h6 eh6
    refine g5 c_30_103 rfl ?_
    obtain ⟨ho, j7, hr, t⟩ := t
    refine g45 c_30_104 ho hr ?_
    refine g1 c_30_107 k_3 ?_
    refine g3 c_30_108 rfl ?_
    obtain ⟨ho, t⟩ := t
    refine g54 c_30_110 ho (fun h8 eh8 => ?_)
    have t := t h8 eh8
    refine g5 c_30_111 rfl ?_
    refine g3 c_30_112 rfl ?_
    obtain ⟨ho, t⟩ := t
    refine g46 c_30_114 ho (fun h9 eh9 => ?_)
    have t := t h9 eh9
    exact g94 c_30_117 t
-- method 31: MillTown$ListMaker.isBetter(IIIII)Z
theorem c_31_0 : pg_cd 31 0 = (5, 1, 0, 0, 0) := by decide +kernel
theorem c_31_1 : pg_cd 31 1 = (45, 2, 9, 0, 0) := by decide +kernel
theorem c_31_4 : pg_cd 31 4 = (1, 1, 0, 0, 3) := by decide +kernel
theorem c_31_5 : pg_cd 31 5 = (50, 1, 0, 0, 0) := by decide +kernel
theorem c_31_6 : pg_cd 31 6 = (1, 1, 0, 0, (-1)) := by decide +kernel
theorem c_31_7 : pg_cd 31 7 = (37, 3, 0, 0, 13) := by decide +kernel
theorem c_31_10 : pg_cd 31 10 = (3, 1, 0, 1, 0) := by decide +kernel
theorem c_31_11 : pg_cd 31 11 = (5, 1, 0, 0, 0) := by decide +kernel
theorem c_31_12 : pg_cd 31 12 = (45, 2, 9, 0, 0) := by decide +kernel
theorem c_31_15 : pg_cd 31 15 = (1, 1, 0, 0, 3) := by decide +kernel
theorem c_31_16 : pg_cd 31 16 = (50, 1, 0, 0, 0) := by decide +kernel
theorem c_31_17 : pg_cd 31 17 = (37, 3, 0, 0, 29) := by decide +kernel
theorem c_31_20 : pg_cd 31 20 = (5, 1, 0, 0, 0) := by decide +kernel
theorem c_31_21 : pg_cd 31 21 = (45, 2, 9, 0, 0) := by decide +kernel
theorem c_31_24 : pg_cd 31 24 = (1, 1, 0, 0, 3) := by decide +kernel
theorem c_31_25 : pg_cd 31 25 = (50, 1, 0, 0, 0) := by decide +kernel
theorem c_31_26 : pg_cd 31 26 = (1, 1, 0, 0, (-1)) := by decide +kernel
theorem c_31_27 : pg_cd 31 27 = (37, 3, 0, 0, 13) := by decide +kernel
theorem c_31_30 : pg_cd 31 30 = (3, 1, 0, 1, 0) := by decide +kernel
theorem c_31_31 : pg_cd 31 31 = (5, 1, 0, 0, 0) := by decide +kernel
theorem c_31_32 : pg_cd 31 32 = (45, 2, 9, 0, 0) := by decide +kernel
theorem c_31_35 : pg_cd 31 35 = (1, 1, 0, 0, 3) := by decide +kernel
theorem c_31_36 : pg_cd 31 36 = (50, 1, 0, 0, 0) := by decide +kernel
theorem c_31_37 : pg_cd 31 37 = (37, 3, 0, 3, 7) := by decide +kernel
theorem c_31_40 : pg_cd 31 40 = (1, 1, 0, 0, 1) := by decide +kernel
theorem c_31_41 : pg_cd 31 41 = (38, 3, 0, 0, 4) := by decide +kernel
theorem c_31_44 : pg_cd 31 44 = (1, 1, 0, 0, 0) := by decide +kernel
theorem c_31_45 : pg_cd 31 45 = (91, 0, 0, 0, 0) := by decide +kernel
theorem c_31_46 : pg_cd 31 46 = (3, 1, 0, 2, 0) := by decide +kernel
theorem c_31_47 : pg_cd 31 47 = (5, 1, 0, 0, 0) := by decide +kernel
theorem c_31_48 : pg_cd 31 48 = (43, 2, 56, 1, 0) := by decide +kernel
theorem c_31_51 : pg_cd 31 51 = (37, 3, 0, 0, 17) := by decide +kernel
theorem c_31_54 : pg_cd 31 54 = (3, 1, 0, 2, 0) := by decide +kernel
theorem c_31_55 : pg_cd 31 55 = (5, 1, 0, 0, 0) := by decide +kernel
theorem c_31_56 : pg_cd 31 56 = (43, 2, 56, 1, 0) := by decide +kernel
theorem c_31_59 : pg_cd 31 59 = (37, 3, 0, 3, 7) := by decide +kernel
theorem c_31_62 : pg_cd 31 62 = (1, 1, 0, 0, 1) := by decide +kernel
theorem c_31_63 : pg_cd 31 63 = (38, 3, 0, 0, 4) := by decide +kernel
theorem c_31_66 : pg_cd 31 66 = (1, 1, 0, 0, 0) := by decide +kernel
theorem c_31_67 : pg_cd 31 67 = (91, 0, 0, 0, 0) := by decide +kernel
theorem c_31_68 : pg_cd 31 68 = (3, 1, 0, 3, 0) := by decide +kernel
theorem c_31_69 : pg_cd 31 69 = (5, 1, 0, 0, 0) := by decide +kernel
theorem c_31_70 : pg_cd 31 70 = (45, 2, 9, 0, 0) := by decide +kernel
theorem c_31_73 : pg_cd 31 73 = (1, 1, 0, 0, 0) := by decide +kernel
theorem c_31_74 : pg_cd 31 74 = (50, 1, 0, 0, 0) := by decide +kernel
theorem c_31_75 : pg_cd 31 75 = (37, 3, 0, 0, 19) := by decide +kernel
theorem c_31_78 : pg_cd 31 78 = (3, 1, 0, 3, 0) := by decide +kernel
theorem c_31_79 : pg_cd 31 79 = (5, 1, 0, 0, 0) := by decide +kernel
theorem c_31_80 : pg_cd 31 80 = (45, 2, 9, 0, 0) := by decide +kernel
theorem c_31_83 : pg_cd 31 83 = (1, 1, 0, 0, 0) := by decide +kernel
theorem c_31_84 : pg_cd 31 84 = (50, 1, 0, 0, 0) := by decide +kernel
theorem c_31_85 : pg_cd 31 85 = (37, 3, 0, 3, 7) := by decide +kernel
theorem c_31_88 : pg_cd 31 88 = (1, 1, 0, 0, 1) := by decide +kernel
theorem c_31_89 : pg_cd 31 89 = (38, 3, 0, 0, 4) := by decide +kernel
theorem c_31_92 : pg_cd 31 92 = (1, 1, 0, 0, 0) := by decide +kernel
theorem c_31_93 : pg_cd 31 93 = (91, 0, 0, 0, 0) := by decide +kernel
theorem c_31_94 : pg_cd 31 94 = (3, 2, 0, 4, 0) := by decide +kernel
theorem c_31_96 : pg_cd 31 96 = (5, 1, 0, 0, 0) := by decide +kernel
theorem c_31_97 : pg_cd 31 97 = (45, 2, 9, 0, 0) := by decide +kernel
theorem c_31_100 : pg_cd 31 100 = (1, 1, 0, 0, 1) := by decide +kernel
theorem c_31_101 : pg_cd 31 101 = (50, 1, 0, 0, 0) := by decide +kernel
theorem c_31_102 : pg_cd 31 102 = (37, 3, 0, 0, 22) := by decide +kernel
theorem c_31_105 : pg_cd 31 105 = (3, 2, 0, 4, 0) := by decide +kernel
theorem c_31_107 : pg_cd 31 107 = (5, 1, 0, 0, 0) := by decide +kernel
theorem c_31_108 : pg_cd 31 108 = (45, 2, 9, 0, 0) := by decide +kernel
theorem c_31_111 : pg_cd 31 111 = (1, 1, 0, 0, 1) := by decide +kernel
theorem c_31_112 : pg_cd 31 112 = (50, 1, 0, 0, 0) := by decide +kernel
theorem c_31_113 : pg_cd 31 113 = (37, 3, 0, 3, 7) := by decide +kernel
theorem c_31_116 : pg_cd 31 116 = (1, 1, 0, 0, 1) := by decide +kernel
theorem c_31_117 : pg_cd 31 117 = (38, 3, 0, 0, 23) := by decide +kernel
theorem c_31_120 : pg_cd 31 120 = (1, 1, 0, 0, 0) := by decide +kernel
theorem c_31_121 : pg_cd 31 121 = (38, 3, 0, 0, 19) := by decide +kernel
theorem c_31_124 : pg_cd 31 124 = (3, 2, 0, 5, 0) := by decide +kernel
theorem c_31_126 : pg_cd 31 126 = (5, 1, 0, 0, 0) := by decide +kernel
theorem c_31_127 : pg_cd 31 127 = (45, 2, 9, 0, 0) := by decide +kernel
theorem c_31_130 : pg_cd 31 130 = (1, 1, 0, 0, 2) := by decide +kernel
theorem c_31_131 : pg_cd 31 131 = (50, 1, 0, 0, 0) := by decide +kernel
theorem c_31_132 : pg_cd 31 132 = (37, 3, 0, 3, 7) := by decide +kernel
theorem c_31_135 : pg_cd 31 135 = (1, 1, 0, 0, 1) := by decide +kernel
theorem c_31_136 : pg_cd 31 136 = (38, 3, 0, 0, 4) := by decide +kernel
theorem c_31_139 : pg_cd 31 139 = (1, 1, 0, 0, 0) := by decide +kernel
theorem c_31_140 : pg_cd 31 140 = (91, 0, 0, 0, 0) := by decide +kernel
theorem mx_31 : pg_mx 31 = 6 := by decide +kernel
theorem m_31 {d : Nat} {h : ab_H} {Q : Option Value → ab_H → Prop} {x0 : Nat} {x1 : Int32} {x2 : Int32} {x3 : Int32} {x4 : Int32} {x5 : Int32} (t : wq d 31 0 [.ref x0, .int x1, .int x2, .int x3, .int x4, .int x5] [] h Q) : wm d 31 [.ref x0, .int x1, .int x2, .int x3, .int x4, .int x5] h Q := by
  unfold wm
  rw [mx_31]
  exact t
set_option maxRecDepth 20000 in
theorem t_31_0 {d : Nat} {h : ab_H} {Q : Option Value → ab_H → Prop} {x0 : Nat} {x1 : Int32} {x2 : Int32} {x3 : Int32} {x4 : Int32} {x5 : Int32} (t : ab_ok h x0 102 = true ∧ ∃ j1 : Nat, ab_r h x0 0 = some j1 ∧ ((j1 = 0 ∨ ab_ok h j1 0 = true) ∧ ab_in (3 : Int32) (ab_s h j1).2 = true) ∧ if (ab_i h j1 (Int32.toNatClampNeg (3 : Int32))) = (-1) then (ab_ok h x0 102 = true ∧ ∃ j2 : Nat, ab_r h x0 0 = some j2 ∧ ((j2 = 0 ∨ ab_ok h j2 0 = true) ∧ ab_in (3 : Int32) (ab_s h j2).2 = true) ∧ if (ab_i h j2 (Int32.toNatClampNeg (3 : Int32))) = (-1) then (Q (some (.int 1)) h) else (ab_ok h x0 102 = true ∧ ∃ j3 : Nat, ab_r h x0 0 = some j3 ∧ ((j3 = 0 ∨ ab_ok h j3 0 = true) ∧ ab_in (3 : Int32) (ab_s h j3).2 = true) ∧ if (ab_i h j3 (Int32.toNatClampNeg (3 : Int32))) ≤ x1 then (Q (some (.int 0)) h) else (Q (some (.int 1)) h))) else (ab_ok h x0 102 = true ∧ ∃ j4 : Nat, ab_r h x0 0 = some j4 ∧ ((j4 = 0 ∨ ab_ok h j4 0 = true) ∧ ab_in (3 : Int32) (ab_s h j4).2 = true) ∧ if x1 = (ab_i h j4 (Int32.toNatClampNeg (3 : Int32))) then (ab_ok h x0 102 = true ∧ if x2 = (ab_i h x0 1) then (ab_ok h x0 102 = true ∧ ∃ j5 : Nat, ab_r h x0 0 = some j5 ∧ ((j5 = 0 ∨ ab_ok h j5 0 = true) ∧ ab_in (0 : Int32) (ab_s h j5).2 = true) ∧ if x3 = (ab_i h j5 (Int32.toNatClampNeg (0 : Int32))) then (ab_ok h x0 102 = true ∧ ∃ j6 : Nat, ab_r h x0 0 = some j6 ∧ ((j6 = 0 ∨ ab_ok h j6 0 = true) ∧ ab_in (1 : Int32) (ab_s h j6).2 = true) ∧ if x4 = (ab_i h j6 (Int32.toNatClampNeg (1 : Int32))) then (ab_ok h x0 102 = true ∧ ∃ j7 : Nat, ab_r h x0 0 = some j7 ∧ ((j7 = 0 ∨ ab_ok h j7 0 = true) ∧ ab_in (2 : Int32) (ab_s h j7).2 = true) ∧ if (ab_i h j7 (Int32.toNatClampNeg (2 : Int32))) ≤ x5 then (Q (some (.int 0)) h) else (Q (some (.int 1)) h)) else (ab_ok h x0 102 = true ∧ ∃ j8 : Nat, ab_r h x0 0 = some j8 ∧ ((j8 = 0 ∨ ab_ok h j8 0 = true) ∧ ab_in (1 : Int32) (ab_s h j8).2 = true) ∧ if (ab_i h j8 (Int32.toNatClampNeg (1 : Int32))) ≤ x4 then (Q (some (.int 0)) h) else (Q (some (.int 1)) h))) else (ab_ok h x0 102 = true ∧ ∃ j9 : Nat, ab_r h x0 0 = some j9 ∧ ((j9 = 0 ∨ ab_ok h j9 0 = true) ∧ ab_in (0 : Int32) (ab_s h j9).2 = true) ∧ if (ab_i h j9 (Int32.toNatClampNeg (0 : Int32))) ≤ x3 then (Q (some (.int 0)) h) else (Q (some (.int 1)) h))) else (ab_ok h x0 102 = true ∧ if (ab_i h x0 1) ≤ x2 then (Q (some (.int 0)) h) else (Q (some (.int 1)) h))) else (ab_ok h x0 102 = true ∧ ∃ j10 : Nat, ab_r h x0 0 = some j10 ∧ ((j10 = 0 ∨ ab_ok h j10 0 = true) ∧ ab_in (3 : Int32) (ab_s h j10).2 = true) ∧ if (ab_i h j10 (Int32.toNatClampNeg (3 : Int32))) = (-1) then (Q (some (.int 1)) h) else (ab_ok h x0 102 = true ∧ ∃ j11 : Nat, ab_r h x0 0 = some j11 ∧ ((j11 = 0 ∨ ab_ok h j11 0 = true) ∧ ab_in (3 : Int32) (ab_s h j11).2 = true) ∧ if (ab_i h j11 (Int32.toNatClampNeg (3 : Int32))) ≤ x1 then (Q (some (.int 0)) h) else (Q (some (.int 1)) h))))) : wq d 31 0 [.ref x0, .int x1, .int x2, .int x3, .int x4, .int x5] [] h Q := by
  refine g5 c_31_0 rfl ?_
  obtain ⟨ho, j1, hr, t⟩ := t
  refine g45 c_31_1 ho hr ?_
  refine g1 c_31_4 k_3 ?_
  obtain ⟨ho, t⟩ := t
  refine g50 c_31_5 ho ?_
  refine g1 c_31_6 k_m1 ?_
  refine gcm c_31_7 (gbr t rfl rfl (fun hc t => ?_) (fun hc t => ?_))
  · refine g5 c_31_20 rfl ?_
    obtain ⟨ho, j2, hr, t⟩ := t
    refine g45 c_31_21 ho hr ?_
    refine g1 c_31_24 k_3 ?_
    obtain ⟨ho, t⟩ := t
    refine g50 c_31_25 ho ?_
    refine g1 c_31_26 k_m1 ?_
    refine gcm c_31_27 (gbr t rfl rfl (fun hc t => ?_) (fun hc t => ?_))
    · refine g1 c_31_40 k_1 ?_
      refine g38 c_31_41 rfl ?_
      exact g91 c_31_45 ⟨by decide, t⟩
    · refine g3 c_31_30 rfl ?_
      refine g5 c_31_31 rfl ?_
      obtain ⟨ho, j3, hr, t⟩ := t
      refine g45 c_31_32 ho hr ?_
      refine g1 c_31_35 k_3 ?_
      obtain ⟨ho, t⟩ := t
      refine g50 c_31_36 ho ?_
      refine gcm c_31_37 (gbr t rfl rfl (fun hc t => ?_) (fun hc t => ?_))
      · refine g1 c_31_44 k_0 ?_
        exact g91 c_31_45 ⟨by decide, t⟩
      · refine g1 c_31_40 k_1 ?_
        refine g38 c_31_41 rfl ?_
        exact g91 c_31_45 ⟨by decide, t⟩
  · refine g3 c_31_10 rfl ?_
    refine g5 c_31_11 rfl ?_
    obtain ⟨ho, j4, hr, t⟩ := t
    refine g45 c_31_12 ho hr ?_
    refine g1 c_31_15 k_3 ?_
    obtain ⟨ho, t⟩ := t
    refine g50 c_31_16 ho ?_
    refine gcm c_31_17 (gbr t rfl rfl (fun hc t => ?_) (fun hc t => ?_))
    · refine g3 c_31_46 rfl ?_
      refine g5 c_31_47 rfl ?_
      obtain ⟨ho, t⟩ := t
      refine g43 c_31_48 ho ?_
      refine gcm c_31_51 (gbr t rfl rfl (fun hc t => ?_) (fun hc t => ?_))
      · refine g3 c_31_68 rfl ?_
        refine g5 c_31_69 rfl ?_
        obtain ⟨ho, j5, hr, t⟩ := t
        refine g45 c_31_70 ho hr ?_
        refine g1 c_31_73 k_0 ?_
        obtain ⟨ho, t⟩ := t
        refine g50 c_31_74 ho ?_
        refine gcm c_31_75 (gbr t rfl rfl (fun hc t => ?_) (fun hc t => ?_))
        · refine g3 c_31_94 rfl ?_
          refine g5 c_31_96 rfl ?_
          obtain ⟨ho, j6, hr, t⟩ := t
          refine g45 c_31_97 ho hr ?_
          refine g1 c_31_100 k_1 ?_
          obtain ⟨ho, t⟩ := t
          refine g50 c_31_101 ho ?_
          refine gcm c_31_102 (gbr t rfl rfl (fun hc t => ?_) (fun hc t => ?_))
          · refine g3 c_31_124 rfl ?_
            refine g5 c_31_126 rfl ?_
            obtain ⟨ho, j7, hr, t⟩ := t
            refine g45 c_31_127 ho hr ?_
            refine g1 c_31_130 k_2 ?_
            obtain ⟨ho, t⟩ := t
            refine g50 c_31_131 ho ?_
            refine gcm c_31_132 (gbr t rfl rfl (fun hc t => ?_) (fun hc t => ?_))
            · refine g1 c_31_139 k_0 ?_
              exact g91 c_31_140 ⟨by decide, t⟩
            · refine g1 c_31_135 k_1 ?_
              refine g38 c_31_136 rfl ?_
              exact g91 c_31_140 ⟨by decide, t⟩
          · refine g3 c_31_105 rfl ?_
            refine g5 c_31_107 rfl ?_
            obtain ⟨ho, j8, hr, t⟩ := t
            refine g45 c_31_108 ho hr ?_
            refine g1 c_31_111 k_1 ?_
            obtain ⟨ho, t⟩ := t
            refine g50 c_31_112 ho ?_
            refine gcm c_31_113 (gbr t rfl rfl (fun hc t => ?_) (fun hc t => ?_))
            · refine g1 c_31_120 k_0 ?_
              refine g38 c_31_121 rfl ?_
              exact g91 c_31_140 ⟨by decide, t⟩
            · refine g1 c_31_116 k_1 ?_
              refine g38 c_31_117 rfl ?_
              exact g91 c_31_140 ⟨by decide, t⟩
        · refine g3 c_31_78 rfl ?_
          refine g5 c_31_79 rfl ?_
          obtain ⟨ho, j9, hr, t⟩ := t
          refine g45 c_31_80 ho hr ?_
          refine g1 c_31_83 k_0 ?_
          obtain ⟨ho, t⟩ := t
          refine g50 c_31_84 ho ?_
          refine gcm c_31_85 (gbr t rfl rfl (fun hc t => ?_) (fun hc t => ?_))
          · refine g1 c_31_92 k_0 ?_
            exact g91 c_31_93 ⟨by decide, t⟩
          · refine g1 c_31_88 k_1 ?_
            refine g38 c_31_89 rfl ?_
            exact g91 c_31_93 ⟨by decide, t⟩
      · refine g3 c_31_54 rfl ?_
        refine g5 c_31_55 rfl ?_
        obtain ⟨ho, t⟩ := t
        refine g43 c_31_56 ho ?_
        refine gcm c_31_59 (gbr t rfl rfl (fun hc t => ?_) (fun hc t => ?_))
        · refine g1 c_31_66 k_0 ?_
          exact g91 c_31_67 ⟨by decide, t⟩
        · refine g1 c_31_62 k_1 ?_
          refine g38 c_31_63 rfl ?_
          exact g91 c_31_67 ⟨by decide, t⟩
    · refine g5 c_31_20 rfl ?_
      obtain ⟨ho, j10, hr, t⟩ := t
      refine g45 c_31_21 ho hr ?_
      refine g1 c_31_24 k_3 ?_
      obtain ⟨ho, t⟩ := t
      refine g50 c_31_25 ho ?_
      refine g1 c_31_26 k_m1 ?_
      refine gcm c_31_27 (gbr t rfl rfl (fun hc t => ?_) (fun hc t => ?_))
      · refine g1 c_31_40 k_1 ?_
        refine g38 c_31_41 rfl ?_
        exact g91 c_31_45 ⟨by decide, t⟩
      · refine g3 c_31_30 rfl ?_
        refine g5 c_31_31 rfl ?_
        obtain ⟨ho, j11, hr, t⟩ := t
        refine g45 c_31_32 ho hr ?_
        refine g1 c_31_35 k_3 ?_
        obtain ⟨ho, t⟩ := t
        refine g50 c_31_36 ho ?_
        refine gcm c_31_37 (gbr t rfl rfl (fun hc t => ?_) (fun hc t => ?_))
        · refine g1 c_31_44 k_0 ?_
          exact g91 c_31_45 ⟨by decide, t⟩
        · refine g1 c_31_40 k_1 ?_
          refine g38 c_31_41 rfl ?_
          exact g91 c_31_45 ⟨by decide, t⟩
-- method 52: MillTown$Rows.<init>(II)V
theorem c_52_0 : pg_cd 52 0 = (5, 1, 0, 0, 0) := by decide +kernel
theorem c_52_1 : pg_cd 52 1 = (61, 0, 3, 0, 0) := by decide +kernel
theorem c_52_4 : pg_cd 52 4 = (5, 1, 0, 0, 0) := by decide +kernel
theorem c_52_5 : pg_cd 52 5 = (3, 1, 0, 2, 0) := by decide +kernel
theorem c_52_6 : pg_cd 52 6 = (46, 4, 9, 0, 0) := by decide +kernel
theorem c_52_9 : pg_cd 52 9 = (5, 1, 0, 0, 0) := by decide +kernel
theorem c_52_10 : pg_cd 52 10 = (3, 1, 0, 1, 0) := by decide +kernel
theorem c_52_11 : pg_cd 52 11 = (3, 1, 0, 2, 0) := by decide +kernel
theorem c_52_12 : pg_cd 52 12 = (12, 1, 0, 0, 0) := by decide +kernel
theorem c_52_13 : pg_cd 52 13 = (59, 2, 0, 0, 0) := by decide +kernel
theorem c_52_15 : pg_cd 52 15 = (49, 4, 15, 1, 0) := by decide +kernel
theorem c_52_18 : pg_cd 52 18 = (94, 0, 0, 0, 0) := by decide +kernel
theorem mx_52 : pg_mx 52 = 3 := by decide +kernel
theorem m_52 {d : Nat} {h : ab_H} {Q : Option Value → ab_H → Prop} {x0 : Nat} {x1 : Int32} {x2 : Int32} (t : wq d 52 0 [.ref x0, .int x1, .int x2] [] h Q) : wm d 52 [.ref x0, .int x1, .int x2] h Q := by
  unfold wm
  rw [mx_52]
  exact t
set_option maxRecDepth 20000 in
theorem t_52_0 {d : Nat} {h : ab_H} {Q : Option Value → ab_H → Prop} {x0 : Nat} {x1 : Int32} {x2 : Int32} (t : ab_ok h x0 104 = true ∧ ∀ h1 : ab_H, h1 = ab_pi h x0 0 x2 → (¬ (x1 * x2) < 0 ∧ Int32.toNatClampNeg (x1 * x2) ≤ 1000000) ∧ ∀ h2 : ab_H, h2 = ab_new h1 0 (Int32.toNatClampNeg (x1 * x2)) (Int32.toNatClampNeg (x1 * x2)) → ab_ok h2 x0 104 = true ∧ ∀ h3 : ab_H, h3 = ab_pr h2 x0 1 (some (ab_n h1)) → Q none h3) : wq d 52 0 [.ref x0, .int x1, .int x2] [] h Q := by
  refine g5 c_52_0 rfl ?_
  refine g61 c_52_1 (Nat.le_of_ble_eq_true rfl) ?_
  refine g5 c_52_4 rfl ?_
  refine g3 c_52_5 rfl ?_
  obtain ⟨ho, t⟩ := t
  refine g46 c_52_6 ho (fun h1 eh1 => ?_)
  have t := t h1 eh1
  refine g5 c_52_9 rfl ?_
  refine g3 c_52_10 rfl ?_
  refine g3 c_52_11 rfl ?_
  refine g12 c_52_12 ?_
  obtain ⟨ho, t⟩ := t
  refine g59 c_52_13 ho (fun h2 eh2 => ?_)
  have t := t h2 eh2
  obtain ⟨ho, t⟩ := t
  refine g49 c_52_15 ho (fun h3 eh3 => ?_)
  have t := t h3 eh3
  exact g94 c_52_18 t
-- method 53: MillTown$Rows.has(I)Z
theorem c_53_0 : pg_cd 53 0 = (3, 1, 0, 1, 0) := by decide +kernel
theorem c_53_1 : pg_cd 53 1 = (36, 3, 0, 2, 15) := by decide +kernel
theorem c_53_4 : pg_cd 53 4 = (3, 1, 0, 1, 0) := by decide +kernel
theorem c_53_5 : pg_cd 53 5 = (5, 1, 0, 0, 0) := by decide +kernel
theorem c_53_6 : pg_cd 53 6 = (43, 4, 19, 2, 0) := by decide +kernel
theorem c_53_9 : pg_cd 53 9 = (37, 3, 0, 3, 7) := by decide +kernel
theorem c_53_12 : pg_cd 53 12 = (1, 1, 0, 0, 1) := by decide +kernel
theorem c_53_13 : pg_cd 53 13 = (38, 3, 0, 0, 4) := by decide +kernel
theorem c_53_16 : pg_cd 53 16 = (1, 1, 0, 0, 0) := by decide +kernel
theorem c_53_17 : pg_cd 53 17 = (91, 0, 0, 0, 0) := by decide +kernel
theorem mx_53 : pg_mx 53 = 2 := by decide +kernel
theorem m_53 {d : Nat} {h : ab_H} {Q : Option Value → ab_H → Prop} {x0 : Nat} {x1 : Int32} (t : wq d 53 0 [.ref x0, .int x1] [] h Q) : wm d 53 [.ref x0, .int x1] h Q := by
  unfold wm
  rw [mx_53]
  exact t
set_option maxRecDepth 20000 in
theorem t_53_0 {d : Nat} {h : ab_H} {Q : Option Value → ab_H → Prop} {x0 : Nat} {x1 : Int32} (t : if x1 < 0 then (Q (some (.int 0)) h) else (ab_ok h x0 104 = true ∧ if (ab_i h x0 2) ≤ x1 then (Q (some (.int 0)) h) else (Q (some (.int 1)) h))) : wq d 53 0 [.ref x0, .int x1] [] h Q := by
  refine g3 c_53_0 rfl ?_
  refine gif c_53_1 (gbr t rfl rfl (fun hc t => ?_) (fun hc t => ?_))
  · refine g1 c_53_16 k_0 ?_
    exact g91 c_53_17 ⟨by decide, t⟩
  · refine g3 c_53_4 rfl ?_
    refine g5 c_53_5 rfl ?_
    obtain ⟨ho, t⟩ := t
    refine g43 c_53_6 ho ?_
    refine gcm c_53_9 (gbr t rfl rfl (fun hc t => ?_) (fun hc t => ?_))
    · refine g1 c_53_16 k_0 ?_
      exact g91 c_53_17 ⟨by decide, t⟩
    · refine g1 c_53_12 k_1 ?_
      refine g38 c_53_13 rfl ?_
      exact g91 c_53_17 ⟨by decide, t⟩
-- method 54: MillTown$Rows.add()I
theorem c_54_0 : pg_cd 54 0 = (5, 1, 0, 0, 0) := by decide +kernel
theorem c_54_1 : pg_cd 54 1 = (43, 4, 19, 2, 0) := by decide +kernel
theorem c_54_4 : pg_cd 54 4 = (5, 1, 0, 0, 0) := by decide +kernel
theorem c_54_5 : pg_cd 54 5 = (43, 4, 9, 0, 0) := by decide +kernel
theorem c_54_8 : pg_cd 54 8 = (12, 1, 0, 0, 0) := by decide +kernel
theorem c_54_9 : pg_cd 54 9 = (6, 1, 0, 1, 0) := by decide +kernel
theorem c_54_10 : pg_cd 54 10 = (3, 1, 0, 1, 0) := by decide +kernel
theorem c_54_11 : pg_cd 54 11 = (5, 1, 0, 0, 0) := by decide +kernel
theorem c_54_12 : pg_cd 54 12 = (43, 4, 9, 0, 0) := by decide +kernel
theorem c_54_15 : pg_cd 54 15 = (10, 1, 0, 0, 0) := by decide +kernel
theorem c_54_16 : pg_cd 54 16 = (5, 1, 0, 0, 0) := by decide +kernel
theorem c_54_17 : pg_cd 54 17 = (45, 4, 15, 1, 0) := by decide +kernel
theorem c_54_20 : pg_cd 54 20 = (58, 0, 0, 0, 0) := by decide +kernel
theorem c_54_21 : pg_cd 54 21 = (37, 3, 0, 5, 5) := by decide +kernel
theorem c_54_24 : pg_cd 54 24 = (1, 1, 0, 0, (-1)) := by decide +kernel
theorem c_54_25 : pg_cd 54 25 = (90, 0, 0, 0, 0) := by decide +kernel
theorem c_54_26 : pg_cd 54 26 = (5, 1, 0, 0, 0) := by decide +kernel
theorem c_54_27 : pg_cd 54 27 = (45, 4, 15, 1, 0) := by decide +kernel
theorem c_54_30 : pg_cd 54 30 = (3, 1, 0, 1, 0) := by decide +kernel
theorem c_54_31 : pg_cd 54 31 = (3, 1, 0, 1, 0) := by decide +kernel
theorem c_54_32 : pg_cd 54 32 = (5, 1, 0, 0, 0) := by decide +kernel
theorem c_54_33 : pg_cd 54 33 = (43, 4, 9, 0, 0) := by decide +kernel
theorem c_54_36 : pg_cd 54 36 = (10, 1, 0, 0, 0) := by decide +kernel
theorem c_54_37 : pg_cd 54 37 = (1, 1, 0, 0, 0) := by decide +kernel
theorem c_54_38 : pg_cd 54 38 = (81, 330, 22, 0, 0) := by decide +kernel
theorem c_54_41 : pg_cd 54 41 = (5, 1, 0, 0, 0) := by decide +kernel
theorem c_54_42 : pg_cd 54 42 = (33, 1, 0, 0, 0) := by decide +kernel
theorem c_54_43 : pg_cd 54 43 = (43, 4, 19, 2, 0) := by decide +kernel
theorem c_54_46 : pg_cd 54 46 = (1, 1, 0, 0, 1) := by decide +kernel
theorem c_54_47 : pg_cd 54 47 = (10, 1, 0, 0, 0) := by decide +kernel
theorem c_54_48 : pg_cd 54 48 = (46, 4, 19, 2, 0) := by decide +kernel
theorem c_54_51 : pg_cd 54 51 = (5, 1, 0, 0, 0) := by decide +kernel
theorem c_54_52 : pg_cd 54 52 = (43, 4, 19, 2, 0) := by decide +kernel
theorem c_54_55 : pg_cd 54 55 = (1, 1, 0, 0, 1) := by decide +kernel
theorem c_54_56 : pg_cd 54 56 = (11, 1, 0, 0, 0) := by decide +kernel
theorem c_54_57 : pg_cd 54 57 = (90, 0, 0, 0, 0) := by decide +kernel
theorem mx_54 : pg_mx 54 = 2 := by decide +kernel
theorem m_54 {d : Nat} {h : ab_H} {Q : Option Value → ab_H → Prop} {x0 : Nat} (t : wq d 54 0 [.ref x0, .retAddr 0] [] h Q) : wm d 54 [.ref x0] h Q := by
  unfold wm
  rw [mx_54]
  exact t
set_option maxRecDepth 20000 in
theorem t_54_0 {d : Nat} {h : ab_H} {Q : Option Value → ab_H → Prop} {x0 : Nat} (t : ab_ok h x0 104 = true ∧ ab_ok h x0 104 = true ∧ ab_ok h x0 104 = true ∧ ab_ok h x0 104 = true ∧ ∃ j1 : Nat, ab_r h x0 1 = some j1 ∧ ((j1 = 0 ∧ 0 = 0) ∨ ab_ok h j1 0 = true) ∧ if (((ab_i h x0 2) * (ab_i h x0 0)) + (ab_i h x0 0)) ≤ (Int32.ofNat (ab_s h j1).2) then (ab_ok h x0 104 = true ∧ ∃ j2 : Nat, ab_r h x0 1 = some j2 ∧ ab_ok h x0 104 = true ∧ wm d 330 [.ref j2, .int ((ab_i h x0 2) * (ab_i h x0 0)), .int (((ab_i h x0 2) * (ab_i h x0 0)) + (ab_i h x0 0)), .int 0] h (fun r9 h9 => wq (d + 1) 54 41 [.ref x0, .int ((ab_i h x0 2) * (ab_i h x0 0))] (r9.toList ++ []) h9 Q)) else (Q (some (.int (-1))) h)) : wq (d + 1) 54 0 [.ref x0, .retAddr 0] [] h Q := by
  refine g5 c_54_0 rfl ?_
  obtain ⟨ho, t⟩ := t
  refine g43 c_54_1 ho ?_
  refine g5 c_54_4 rfl ?_
  obtain ⟨ho, t⟩ := t
  refine g43 c_54_5 ho ?_
  refine g12 c_54_8 ?_
  refine g6 (L' := [.ref x0, .int ((ab_i h x0 2) * (ab_i h x0 0))]) c_54_9 rfl ?_
  refine g3 c_54_10 rfl ?_
  refine g5 c_54_11 rfl ?_
  obtain ⟨ho, t⟩ := t
  refine g43 c_54_12 ho ?_
  refine g10 c_54_15 ?_
  refine g5 c_54_16 rfl ?_
  obtain ⟨ho, j1, hr, t⟩ := t
  refine g45 c_54_17 ho hr ?_
  obtain ⟨ho, t⟩ := t
  refine g58 c_54_20 ho ?_
  refine gcm c_54_21 (gbr t rfl rfl (fun hc t => ?_) (fun hc t => ?_))
  · refine g5 c_54_26 rfl ?_
    obtain ⟨ho, j2, hr, t⟩ := t
    refine g45 c_54_27 ho hr ?_
    refine g3 c_54_30 rfl ?_
    refine g3 c_54_31 rfl ?_
    refine g5 c_54_32 rfl ?_
    obtain ⟨ho, t⟩ := t
    refine g43 c_54_33 ho ?_
    refine g10 c_54_36 ?_
    refine g1 c_54_37 k_0 ?_
    exact g81 (As := [.ref j2, .int ((ab_i h x0 2) * (ab_i h x0 0)), .int (((ab_i h x0 2) * (ab_i h x0 0)) + (ab_i h x0 0)), .int 0]) (rest := []) c_54_38 rfl rfl (Nat.le_of_ble_eq_true rfl) (Nat.le_of_ble_eq_true rfl) t
  · refine g1 c_54_24 k_m1 ?_
    exact g90 c_54_25 t
set_option maxRecDepth 20000 in
theorem t_54_41 {d : Nat} {h : ab_H} {Q : Option Value → ab_H → Prop} {x0 : Nat} {x1 : Int32} (t : ab_ok h x0 104 = true ∧ ab_ok h x0 104 = true ∧ ∀ h1 : ab_H, h1 = ab_pi h x0 2 ((ab_i h x0 2) + 1) → ab_ok h1 x0 104 = true ∧ Q (some (.int ((ab_i h1 x0 2) - 1))) h1) : wq d 54 41 [.ref x0, .int x1] [] h Q := by
  refine g5 c_54_41 rfl ?_
  refine g33a c_54_42 ?_
  obtain ⟨ho, t⟩ := t
  refine g43 c_54_43 ho ?_
  refine g1 c_54_46 k_1 ?_
  refine g10 c_54_47 ?_
  obtain ⟨ho, t⟩ := t
  refine g46 c_54_48 ho (fun h1 eh1 => ?_)
  have t := t h1 eh1
  refine g5 c_54_51 rfl ?_
  obtain ⟨ho, t⟩ := t
  refine g43 c_54_52 ho ?_
  refine g1 c_54_55 k_1 ?_
  refine g11 c_54_56 ?_
  exact g90 c_54_57 t
-- method 55: MillTown$Rows.at(II)I
theorem c_55_0 : pg_cd 55 0 = (3, 1, 0, 1, 0) := by decide +kernel
theorem c_55_1 : pg_cd 55 1 = (36, 3, 0, 2, 23) := by decide +kernel
theorem c_55_4 : pg_cd 55 4 = (3, 1, 0, 1, 0) := by decide +kernel
theorem c_55_5 : pg_cd 55 5 = (5, 1, 0, 0, 0) := by decide +kernel
theorem c_55_6 : pg_cd 55 6 = (43, 4, 19, 2, 0) := by decide +kernel
theorem c_55_9 : pg_cd 55 9 = (37, 3, 0, 3, 15) := by decide +kernel
theorem c_55_12 : pg_cd 55 12 = (3, 1, 0, 2, 0) := by decide +kernel
theorem c_55_13 : pg_cd 55 13 = (36, 3, 0, 2, 11) := by decide +kernel
theorem c_55_16 : pg_cd 55 16 = (3, 1, 0, 2, 0) := by decide +kernel
theorem c_55_17 : pg_cd 55 17 = (5, 1, 0, 0, 0) := by decide +kernel
theorem c_55_18 : pg_cd 55 18 = (43, 4, 9, 0, 0) := by decide +kernel
theorem c_55_21 : pg_cd 55 21 = (37, 3, 0, 2, 5) := by decide +kernel
theorem c_55_24 : pg_cd 55 24 = (1, 1, 0, 0, (-1)) := by decide +kernel
theorem c_55_25 : pg_cd 55 25 = (90, 0, 0, 0, 0) := by decide +kernel
theorem c_55_26 : pg_cd 55 26 = (5, 1, 0, 0, 0) := by decide +kernel
theorem c_55_27 : pg_cd 55 27 = (45, 4, 15, 1, 0) := by decide +kernel
theorem c_55_30 : pg_cd 55 30 = (3, 1, 0, 1, 0) := by decide +kernel
theorem c_55_31 : pg_cd 55 31 = (5, 1, 0, 0, 0) := by decide +kernel
theorem c_55_32 : pg_cd 55 32 = (43, 4, 9, 0, 0) := by decide +kernel
theorem c_55_35 : pg_cd 55 35 = (12, 1, 0, 0, 0) := by decide +kernel
theorem c_55_36 : pg_cd 55 36 = (3, 1, 0, 2, 0) := by decide +kernel
theorem c_55_37 : pg_cd 55 37 = (10, 1, 0, 0, 0) := by decide +kernel
theorem c_55_38 : pg_cd 55 38 = (50, 1, 0, 0, 0) := by decide +kernel
theorem c_55_39 : pg_cd 55 39 = (90, 0, 0, 0, 0) := by decide +kernel
theorem mx_55 : pg_mx 55 = 3 := by decide +kernel
theorem m_55 {d : Nat} {h : ab_H} {Q : Option Value → ab_H → Prop} {x0 : Nat} {x1 : Int32} {x2 : Int32} (t : wq d 55 0 [.ref x0, .int x1, .int x2] [] h Q) : wm d 55 [.ref x0, .int x1, .int x2] h Q := by
  unfold wm
  rw [mx_55]
  exact t
set_option maxRecDepth 20000 in
theorem t_55_0 {d : Nat} {h : ab_H} {Q : Option Value → ab_H → Prop} {x0 : Nat} {x1 : Int32} {x2 : Int32} (t : if x1 < 0 then (Q (some (.int (-1))) h) else (ab_ok h x0 104 = true ∧ if (ab_i h x0 2) ≤ x1 then (Q (some (.int (-1))) h) else (if x2 < 0 then (Q (some (.int (-1))) h) else (ab_ok h x0 104 = true ∧ if x2 < (ab_i h x0 0) then (ab_ok h x0 104 = true ∧ ∃ j1 : Nat, ab_r h x0 1 = some j1 ∧ ab_ok h x0 104 = true ∧ ((j1 = 0 ∨ ab_ok h j1 0 = true) ∧ ab_in ((x1 * (ab_i h x0 0)) + x2) (ab_s h j1).2 = true) ∧ Q (some (.int (ab_i h j1 (Int32.toNatClampNeg ((x1 * (ab_i h x0 0)) + x2))))) h) else (Q (some (.int (-1))) h))))) : wq d 55 0 [.ref x0, .int x1, .int x2] [] h Q := by
  refine g3 c_55_0 rfl ?_
  refine gif c_55_1 (gbr t rfl rfl (fun hc t => ?_) (fun hc t => ?_))
  · refine g1 c_55_24 k_m1 ?_
    exact g90 c_55_25 t
  · refine g3 c_55_4 rfl ?_
    refine g5 c_55_5 rfl ?_
    obtain ⟨ho, t⟩ := t
    refine g43 c_55_6 ho ?_
    refine gcm c_55_9 (gbr t rfl rfl (fun hc t => ?_) (fun hc t => ?_))
    · refine g1 c_55_24 k_m1 ?_
      exact g90 c_55_25 t
    · refine g3 c_55_12 rfl ?_
      refine gif c_55_13 (gbr t rfl rfl (fun hc t => ?_) (fun hc t => ?_))
      · refine g1 c_55_24 k_m1 ?_
        exact g90 c_55_25 t
      · refine g3 c_55_16 rfl ?_
        refine g5 c_55_17 rfl ?_
        obtain ⟨ho, t⟩ := t
        refine g43 c_55_18 ho ?_
        refine gcm c_55_21 (gbr t rfl rfl (fun hc t => ?_) (fun hc t => ?_))
        · refine g5 c_55_26 rfl ?_
          obtain ⟨ho, j1, hr, t⟩ := t
          refine g45 c_55_27 ho hr ?_
          refine g3 c_55_30 rfl ?_
          refine g5 c_55_31 rfl ?_
          obtain ⟨ho, t⟩ := t
          refine g43 c_55_32 ho ?_
          refine g12 c_55_35 ?_
          refine g3 c_55_36 rfl ?_
          refine g10 c_55_37 ?_
          obtain ⟨ho, t⟩ := t
          refine g50 c_55_38 ho ?_
          exact g90 c_55_39 t
        · refine g1 c_55_24 k_m1 ?_
          exact g90 c_55_25 t
-- method 56: MillTown$Rows.put(III)V
theorem c_56_0 : pg_cd 56 0 = (3, 1, 0, 1, 0) := by decide +kernel
theorem c_56_1 : pg_cd 56 1 = (36, 3, 0, 2, 37) := by decide +kernel
theorem c_56_4 : pg_cd 56 4 = (3, 1, 0, 1, 0) := by decide +kernel
theorem c_56_5 : pg_cd 56 5 = (5, 1, 0, 0, 0) := by decide +kernel
theorem c_56_6 : pg_cd 56 6 = (43, 4, 19, 2, 0) := by decide +kernel
theorem c_56_9 : pg_cd 56 9 = (37, 3, 0, 3, 29) := by decide +kernel
theorem c_56_12 : pg_cd 56 12 = (3, 1, 0, 2, 0) := by decide +kernel
theorem c_56_13 : pg_cd 56 13 = (36, 3, 0, 2, 25) := by decide +kernel
theorem c_56_16 : pg_cd 56 16 = (3, 1, 0, 2, 0) := by decide +kernel
theorem c_56_17 : pg_cd 56 17 = (5, 1, 0, 0, 0) := by decide +kernel
theorem c_56_18 : pg_cd 56 18 = (43, 4, 9, 0, 0) := by decide +kernel
theorem c_56_21 : pg_cd 56 21 = (37, 3, 0, 3, 17) := by decide +kernel
theorem c_56_24 : pg_cd 56 24 = (5, 1, 0, 0, 0) := by decide +kernel
theorem c_56_25 : pg_cd 56 25 = (45, 4, 15, 1, 0) := by decide +kernel
theorem c_56_28 : pg_cd 56 28 = (3, 1, 0, 1, 0) := by decide +kernel
theorem c_56_29 : pg_cd 56 29 = (5, 1, 0, 0, 0) := by decide +kernel
theorem c_56_30 : pg_cd 56 30 = (43, 4, 9, 0, 0) := by decide +kernel
theorem c_56_33 : pg_cd 56 33 = (12, 1, 0, 0, 0) := by decide +kernel
theorem c_56_34 : pg_cd 56 34 = (3, 1, 0, 2, 0) := by decide +kernel
theorem c_56_35 : pg_cd 56 35 = (10, 1, 0, 0, 0) := by decide +kernel
theorem c_56_36 : pg_cd 56 36 = (3, 1, 0, 3, 0) := by decide +kernel
theorem c_56_37 : pg_cd 56 37 = (54, 1, 0, 0, 0) := by decide +kernel
theorem c_56_38 : pg_cd 56 38 = (94, 0, 0, 0, 0) := by decide +kernel
theorem mx_56 : pg_mx 56 = 4 := by decide +kernel
theorem m_56 {d : Nat} {h : ab_H} {Q : Option Value → ab_H → Prop} {x0 : Nat} {x1 : Int32} {x2 : Int32} {x3 : Int32} (t : wq d 56 0 [.ref x0, .int x1, .int x2, .int x3] [] h Q) : wm d 56 [.ref x0, .int x1, .int x2, .int x3] h Q := by
  unfold wm
  rw [mx_56]
  exact t
set_option maxRecDepth 20000 in
theorem t_56_0 {d : Nat} {h : ab_H} {Q : Option Value → ab_H → Prop} {x0 : Nat} {x1 : Int32} {x2 : Int32} {x3 : Int32} (t : if x1 < 0 then (Q none h) else (ab_ok h x0 104 = true ∧ if (ab_i h x0 2) ≤ x1 then (Q none h) else (if x2 < 0 then (Q none h) else (ab_ok h x0 104 = true ∧ if (ab_i h x0 0) ≤ x2 then (Q none h) else (ab_ok h x0 104 = true ∧ ∃ j1 : Nat, ab_r h x0 1 = some j1 ∧ ab_ok h x0 104 = true ∧ (ab_ok h j1 0 = true ∧ ab_in ((x1 * (ab_i h x0 0)) + x2) (ab_s h j1).2 = true) ∧ ∀ h2 : ab_H, h2 = ab_pi h j1 (Int32.toNatClampNeg ((x1 * (ab_i h x0 0)) + x2)) x3 → Q none h2))))) : wq d 56 0 [.ref x0, .int x1, .int x2, .int x3] [] h Q := by
  refine g3 c_56_0 rfl ?_
  refine gif c_56_1 (gbr t rfl rfl (fun hc t => ?_) (fun hc t => ?_))
  · exact g94 c_56_38 t
  · refine g3 c_56_4 rfl ?_
    refine g5 c_56_5 rfl ?_
    obtain ⟨ho, t⟩ := t
    refine g43 c_56_6 ho ?_
    refine gcm c_56_9 (gbr t rfl rfl (fun hc t => ?_) (fun hc t => ?_))
    · exact g94 c_56_38 t
    · refine g3 c_56_12 rfl ?_
      refine gif c_56_13 (gbr t rfl rfl (fun hc t => ?_) (fun hc t => ?_))
      · exact g94 c_56_38 t
      · refine g3 c_56_16 rfl ?_
        refine g5 c_56_17 rfl ?_
        obtain ⟨ho, t⟩ := t
        refine g43 c_56_18 ho ?_
        refine gcm c_56_21 (gbr t rfl rfl (fun hc t => ?_) (fun hc t => ?_))
        · exact g94 c_56_38 t
        · refine g5 c_56_24 rfl ?_
          obtain ⟨ho, j1, hr, t⟩ := t
          refine g45 c_56_25 ho hr ?_
          refine g3 c_56_28 rfl ?_
          refine g5 c_56_29 rfl ?_
          obtain ⟨ho, t⟩ := t
          refine g43 c_56_30 ho ?_
          refine g12 c_56_33 ?_
          refine g3 c_56_34 rfl ?_
          refine g10 c_56_35 ?_
          refine g3 c_56_36 rfl ?_
          obtain ⟨ho, t⟩ := t
          refine g54 c_56_37 ho (fun h2 eh2 => ?_)
          have t := t h2 eh2
          exact g94 c_56_38 t
-- method 57: MillTown$Rows.raise(III)V
theorem c_57_0 : pg_cd 57 0 = (3, 1, 0, 1, 0) := by decide +kernel
theorem c_57_1 : pg_cd 57 1 = (36, 3, 0, 2, 40) := by decide +kernel
theorem c_57_4 : pg_cd 57 4 = (3, 1, 0, 1, 0) := by decide +kernel
theorem c_57_5 : pg_cd 57 5 = (5, 1, 0, 0, 0) := by decide +kernel
theorem c_57_6 : pg_cd 57 6 = (43, 4, 19, 2, 0) := by decide +kernel
theorem c_57_9 : pg_cd 57 9 = (37, 3, 0, 3, 32) := by decide +kernel
theorem c_57_12 : pg_cd 57 12 = (3, 1, 0, 2, 0) := by decide +kernel
theorem c_57_13 : pg_cd 57 13 = (36, 3, 0, 2, 28) := by decide +kernel
theorem c_57_16 : pg_cd 57 16 = (3, 1, 0, 2, 0) := by decide +kernel
theorem c_57_17 : pg_cd 57 17 = (5, 1, 0, 0, 0) := by decide +kernel
theorem c_57_18 : pg_cd 57 18 = (43, 4, 9, 0, 0) := by decide +kernel
theorem c_57_21 : pg_cd 57 21 = (37, 3, 0, 3, 20) := by decide +kernel
theorem c_57_24 : pg_cd 57 24 = (5, 1, 0, 0, 0) := by decide +kernel
theorem c_57_25 : pg_cd 57 25 = (45, 4, 15, 1, 0) := by decide +kernel
theorem c_57_28 : pg_cd 57 28 = (3, 1, 0, 1, 0) := by decide +kernel
theorem c_57_29 : pg_cd 57 29 = (5, 1, 0, 0, 0) := by decide +kernel
theorem c_57_30 : pg_cd 57 30 = (43, 4, 9, 0, 0) := by decide +kernel
theorem c_57_33 : pg_cd 57 33 = (12, 1, 0, 0, 0) := by decide +kernel
theorem c_57_34 : pg_cd 57 34 = (3, 1, 0, 2, 0) := by decide +kernel
theorem c_57_35 : pg_cd 57 35 = (10, 1, 0, 0, 0) := by decide +kernel
theorem c_57_36 : pg_cd 57 36 = (34, 1, 0, 0, 0) := by decide +kernel
theorem c_57_37 : pg_cd 57 37 = (50, 1, 0, 0, 0) := by decide +kernel
theorem c_57_38 : pg_cd 57 38 = (3, 1, 0, 3, 0) := by decide +kernel
theorem c_57_39 : pg_cd 57 39 = (10, 1, 0, 0, 0) := by decide +kernel
theorem c_57_40 : pg_cd 57 40 = (54, 1, 0, 0, 0) := by decide +kernel
theorem c_57_41 : pg_cd 57 41 = (94, 0, 0, 0, 0) := by decide +kernel
theorem mx_57 : pg_mx 57 = 4 := by decide +kernel
theorem m_57 {d : Nat} {h : ab_H} {Q : Option Value → ab_H → Prop} {x0 : Nat} {x1 : Int32} {x2 : Int32} {x3 : Int32} (t : wq d 57 0 [.ref x0, .int x1, .int x2, .int x3] [] h Q) : wm d 57 [.ref x0, .int x1, .int x2, .int x3] h Q := by
  unfold wm
  rw [mx_57]
  exact t
set_option maxRecDepth 20000 in
theorem t_57_0 {d : Nat} {h : ab_H} {Q : Option Value → ab_H → Prop} {x0 : Nat} {x1 : Int32} {x2 : Int32} {x3 : Int32} (t : if x1 < 0 then (Q none h) else (ab_ok h x0 104 = true ∧ if (ab_i h x0 2) ≤ x1 then (Q none h) else (if x2 < 0 then (Q none h) else (ab_ok h x0 104 = true ∧ if (ab_i h x0 0) ≤ x2 then (Q none h) else (ab_ok h x0 104 = true ∧ ∃ j1 : Nat, ab_r h x0 1 = some j1 ∧ ab_ok h x0 104 = true ∧ ((j1 = 0 ∨ ab_ok h j1 0 = true) ∧ ab_in ((x1 * (ab_i h x0 0)) + x2) (ab_s h j1).2 = true) ∧ (ab_ok h j1 0 = true ∧ ab_in ((x1 * (ab_i h x0 0)) + x2) (ab_s h j1).2 = true) ∧ ∀ h2 : ab_H, h2 = ab_pi h j1 (Int32.toNatClampNeg ((x1 * (ab_i h x0 0)) + x2)) ((ab_i h j1 (Int32.toNatClampNeg ((x1 * (ab_i h x0 0)) + x2))) + x3) → Q none h2))))) : wq d 57 0 [.ref x0, .int x1, .int x2, .int x3] [] h Q := by
  refine g3 c_57_0 rfl ?_
  refine gif c_57_1 (gbr t rfl rfl (fun hc t => ?_) (fun hc t => ?_))
  · exact g94 c_57_41 t
  · refine g3 c_57_4 rfl ?_
    refine g5 c_57_5 rfl ?_
    obtain ⟨ho, t⟩ := t
    refine g43 c_57_6 ho ?_
    refine gcm c_57_9 (gbr t rfl rfl (fun hc t => ?_) (fun hc t => ?_))
    · exact g94 c_57_41 t
    · refine g3 c_57_12 rfl ?_
      refine gif c_57_13 (gbr t rfl rfl (fun hc t => ?_) (fun hc t => ?_))
      · exact g94 c_57_41 t
      · refine g3 c_57_16 rfl ?_
        refine g5 c_57_17 rfl ?_
        obtain ⟨ho, t⟩ := t
        refine g43 c_57_18 ho ?_
        refine gcm c_57_21 (gbr t rfl rfl (fun hc t => ?_) (fun hc t => ?_))
        · exact g94 c_57_41 t
        · refine g5 c_57_24 rfl ?_
          obtain ⟨ho, j1, hr, t⟩ := t
          refine g45 c_57_25 ho hr ?_
          refine g3 c_57_28 rfl ?_
          refine g5 c_57_29 rfl ?_
          obtain ⟨ho, t⟩ := t
          refine g43 c_57_30 ho ?_
          refine g12 c_57_33 ?_
          refine g3 c_57_34 rfl ?_
          refine g10 c_57_35 ?_
          refine g34a c_57_36 ?_
          obtain ⟨ho, t⟩ := t
          refine g50 c_57_37 ho ?_
          refine g3 c_57_38 rfl ?_
          refine g10 c_57_39 ?_
          obtain ⟨ho, t⟩ := t
          refine g54 c_57_40 ho (fun h2 eh2 => ?_)
          have t := t h2 eh2
          exact g94 c_57_41 t
-- method 58: MillTown$Rows.total(I)I
theorem c_58_0 : pg_cd 58 0 = (1, 1, 0, 0, 0) := by decide +kernel
theorem c_58_1 : pg_cd 58 1 = (6, 1, 0, 2, 0) := by decide +kernel
theorem c_58_2 : pg_cd 58 2 = (1, 1, 0, 0, 0) := by decide +kernel
theorem c_58_3 : pg_cd 58 3 = (6, 1, 0, 3, 0) := by decide +kernel
theorem c_58_4 : pg_cd 58 4 = (3, 1, 0, 3, 0) := by decide +kernel
theorem c_58_5 : pg_cd 58 5 = (5, 1, 0, 0, 0) := by decide +kernel
theorem c_58_6 : pg_cd 58 6 = (43, 4, 19, 2, 0) := by decide +kernel
theorem c_58_9 : pg_cd 58 9 = (37, 3, 0, 3, 18) := by decide +kernel
theorem c_58_12 : pg_cd 58 12 = (3, 1, 0, 2, 0) := by decide +kernel
theorem c_58_13 : pg_cd 58 13 = (5, 1, 0, 0, 0) := by decide +kernel
theorem c_58_14 : pg_cd 58 14 = (3, 1, 0, 3, 0) := by decide +kernel
theorem c_58_15 : pg_cd 58 15 = (3, 1, 0, 1, 0) := by decide +kernel
theorem c_58_16 : pg_cd 58 16 = (80, 55, 28, 0, 0) := by decide +kernel
theorem c_58_19 : pg_cd 58 19 = (10, 1, 0, 0, 0) := by decide +kernel
theorem c_58_20 : pg_cd 58 20 = (6, 1, 0, 2, 0) := by decide +kernel
theorem c_58_21 : pg_cd 58 21 = (9, 3, 0, 3, 1) := by decide +kernel
theorem c_58_24 : pg_cd 58 24 = (38, 3, 0, 0, (-20)) := by decide +kernel
theorem c_58_27 : pg_cd 58 27 = (3, 1, 0, 2, 0) := by decide +kernel
theorem c_58_28 : pg_cd 58 28 = (90, 0, 0, 0, 0) := by decide +kernel
theorem mx_58 : pg_mx 58 = 4 := by decide +kernel
theorem m_58 {d : Nat} {h : ab_H} {Q : Option Value → ab_H → Prop} {x0 : Nat} {x1 : Int32} (t : wq d 58 0 [.ref x0, .int x1, .retAddr 0, .retAddr 0] [] h Q) : wm d 58 [.ref x0, .int x1] h Q := by
  unfold wm
  rw [mx_58]
  exact t
set_option maxRecDepth 20000 in
theorem t_58_0 {d : Nat} {h : ab_H} {Q : Option Value → ab_H → Prop} {x0 : Nat} {x1 : Int32} (t : wq d 58 4 [.ref x0, .int x1, .int 0, .int 0] [] h Q) : wq d 58 0 [.ref x0, .int x1, .retAddr 0, .retAddr 0] [] h Q := by
  refine g1 c_58_0 k_0 ?_
  refine g6 (L' := [.ref x0, .int x1, .int 0, .retAddr 0]) c_58_1 rfl ?_
  refine g1 c_58_2 k_0 ?_
  refine g6 (L' := [.ref x0, .int x1, .int 0, .int 0]) c_58_3 rfl ?_
  exact t
set_option maxRecDepth 20000 in
theorem t_58_4 {d : Nat} {h : ab_H} {Q : Option Value → ab_H → Prop} {x0 : Nat} {x1 : Int32} {x2 : Int32} {x3 : Int32} (t : ab_ok h x0 104 = true ∧ if (ab_i h x0 2) ≤ x3 then (Q (some (.int x2)) h) else (ab_ok h x0 104 = true ∧ wm d 55 [.ref x0, .int x3, .int x1] h (fun r9 h9 => wq (d + 1) 58 19 [.ref x0, .int x1, .int x2, .int x3] (r9.toList ++ [.int x2]) h9 Q))) : wq (d + 1) 58 4 [.ref x0, .int x1, .int x2, .int x3] [] h Q := by
  refine g3 c_58_4 rfl ?_
  refine g5 c_58_5 rfl ?_
  obtain ⟨ho, t⟩ := t
  refine g43 c_58_6 ho ?_
  refine gcm c_58_9 (gbr t rfl rfl (fun hc t => ?_) (fun hc t => ?_))
  · refine g3 c_58_27 rfl ?_
    exact g90 c_58_28 t
  · refine g3 c_58_12 rfl ?_
    refine g5 c_58_13 rfl ?_
    refine g3 c_58_14 rfl ?_
    refine g3 c_58_15 rfl ?_
    exact g80 (As := [.int x3, .int x1]) (rest := [.int x2]) c_58_16 rfl rfl (Nat.le_of_ble_eq_true rfl) (Nat.le_of_ble_eq_true rfl) t.1 t.2
set_option maxRecDepth 20000 in
theorem t_58_19 {d : Nat} {h : ab_H} {Q : Option Value → ab_H → Prop} {x0 : Nat} {x1 : Int32} {x2 : Int32} {x3 : Int32} {s0 : Int32} {s1 : Int32} (t : wq d 58 4 [.ref x0, .int x1, .int (s0 + s1), .int (x3 + 1)] [] h Q) : wq d 58 19 [.ref x0, .int x1, .int x2, .int x3] [.int s1, .int s0] h Q := by
  refine g10 c_58_19 ?_
  refine g6 (L' := [.ref x0, .int x1, .int (s0 + s1), .int x3]) c_58_20 rfl ?_
  refine g9 (L' := [.ref x0, .int x1, .int (s0 + s1), .int (x3 + 1)]) c_58_21 rfl k_1 rfl ?_
  refine g38 c_58_24 rfl ?_
  exact t
-- method 59: MillTown$Rows.fillColumn(II)V
theorem c_59_0 : pg_cd 59 0 = (1, 1, 0, 0, 0) := by decide +kernel
theorem c_59_1 : pg_cd 59 1 = (6, 1, 0, 3, 0) := by decide +kernel
theorem c_59_2 : pg_cd 59 2 = (3, 1, 0, 3, 0) := by decide +kernel
theorem c_59_3 : pg_cd 59 3 = (5, 1, 0, 0, 0) := by decide +kernel
theorem c_59_4 : pg_cd 59 4 = (43, 4, 19, 2, 0) := by decide +kernel
theorem c_59_7 : pg_cd 59 7 = (37, 3, 0, 3, 16) := by decide +kernel
theorem c_59_10 : pg_cd 59 10 = (5, 1, 0, 0, 0) := by decide +kernel
theorem c_59_11 : pg_cd 59 11 = (3, 1, 0, 3, 0) := by decide +kernel
theorem c_59_12 : pg_cd 59 12 = (3, 1, 0, 1, 0) := by decide +kernel
theorem c_59_13 : pg_cd 59 13 = (3, 1, 0, 2, 0) := by decide +kernel
theorem c_59_14 : pg_cd 59 14 = (80, 56, 32, 0, 0) := by decide +kernel
theorem c_59_17 : pg_cd 59 17 = (9, 3, 0, 3, 1) := by decide +kernel
theorem c_59_20 : pg_cd 59 20 = (38, 3, 0, 0, (-18)) := by decide +kernel
theorem c_59_23 : pg_cd 59 23 = (94, 0, 0, 0, 0) := by decide +kernel
theorem mx_59 : pg_mx 59 = 4 := by decide +kernel
theorem m_59 {d : Nat} {h : ab_H} {Q : Option Value → ab_H → Prop} {x0 : Nat} {x1 : Int32} {x2 : Int32} (t : wq d 59 0 [.ref x0, .int x1, .int x2, .retAddr 0] [] h Q) : wm d 59 [.ref x0, .int x1, .int x2] h Q := by
  unfold wm
  rw [mx_59]
  exact t
set_option maxRecDepth 20000 in
theorem t_59_0 {d : Nat} {h : ab_H} {Q : Option Value → ab_H → Prop} {x0 : Nat} {x1 : Int32} {x2 : Int32} (t : wq d 59 2 [.ref x0, .int x1, .int x2, .int 0] [] h Q) : wq d 59 0 [.ref x0, .int x1, .int x2, .retAddr 0] [] h Q := by
  refine g1 c_59_0 k_0 ?_
  refine g6 (L' := [.ref x0, .int x1, .int x2, .int 0]) c_59_1 rfl ?_
  exact t
set_option maxRecDepth 20000 in
theorem t_59_2 {d : Nat} {h : ab_H} {Q : Option Value → ab_H → Prop} {x0 : Nat} {x1 : Int32} {x2 : Int32} {x3 : Int32} (t : ab_ok h x0 104 = true ∧ if (ab_i h x0 2) ≤ x3 then (Q none h) else (ab_ok h x0 104 = true ∧ wm d 56 [.ref x0, .int x3, .int x1, .int x2] h (fun r9 h9 => wq (d + 1) 59 17 [.ref x0, .int x1, .int x2, .int x3] (r9.toList ++ []) h9 Q))) : wq (d + 1) 59 2 [.ref x0, .int x1, .int x2, .int x3] [] h Q := by
  refine g3 c_59_2 rfl ?_
  refine g5 c_59_3 rfl ?_
  obtain ⟨ho, t⟩ := t
  refine g43 c_59_4 ho ?_
  refine gcm c_59_7 (gbr t rfl rfl (fun hc t => ?_) (fun hc t => ?_))
  · exact g94 c_59_23 t
  · refine g5 c_59_10 rfl ?_
    refine g3 c_59_11 rfl ?_
    refine g3 c_59_12 rfl ?_
    refine g3 c_59_13 rfl ?_
    exact g80 (As := [.int x3, .int x1, .int x2]) (rest := []) c_59_14 rfl rfl (Nat.le_of_ble_eq_true rfl) (Nat.le_of_ble_eq_true rfl) t.1 t.2
set_option maxRecDepth 20000 in
theorem t_59_17 {d : Nat} {h : ab_H} {Q : Option Value → ab_H → Prop} {x0 : Nat} {x1 : Int32} {x2 : Int32} {x3 : Int32} (t : wq d 59 2 [.ref x0, .int x1, .int x2, .int (x3 + 1)] [] h Q) : wq d 59 17 [.ref x0, .int x1, .int x2, .int x3] [] h Q := by
  refine g9 (L' := [.ref x0, .int x1, .int x2, .int (x3 + 1)]) c_59_17 rfl k_1 rfl ?_
  refine g38 c_59_20 rfl ?_
  exact t
-- method 60: MillTown$Rows.copyFrom(LMillTown$Rows;)V
theorem c_60_0 : pg_cd 60 0 = (5, 1, 0, 1, 0) := by decide +kernel
theorem c_60_1 : pg_cd 60 1 = (43, 4, 19, 2, 0) := by decide +kernel
theorem c_60_4 : pg_cd 60 4 = (5, 1, 0, 1, 0) := by decide +kernel
theorem c_60_5 : pg_cd 60 5 = (43, 4, 9, 0, 0) := by decide +kernel
theorem c_60_8 : pg_cd 60 8 = (12, 1, 0, 0, 0) := by decide +kernel
theorem c_60_9 : pg_cd 60 9 = (5, 1, 0, 0, 0) := by decide +kernel
theorem c_60_10 : pg_cd 60 10 = (45, 4, 15, 1, 0) := by decide +kernel
theorem c_60_13 : pg_cd 60 13 = (58, 0, 0, 0, 0) := by decide +kernel
theorem c_60_14 : pg_cd 60 14 = (74, 0, 36, 0, 0) := by decide +kernel
theorem c_60_17 : pg_cd 60 17 = (6, 1, 0, 2, 0) := by decide +kernel
theorem c_60_18 : pg_cd 60 18 = (5, 1, 0, 1, 0) := by decide +kernel
theorem c_60_19 : pg_cd 60 19 = (45, 4, 15, 1, 0) := by decide +kernel
theorem c_60_22 : pg_cd 60 22 = (1, 1, 0, 0, 0) := by decide +kernel
theorem c_60_23 : pg_cd 60 23 = (5, 1, 0, 0, 0) := by decide +kernel
theorem c_60_24 : pg_cd 60 24 = (45, 4, 15, 1, 0) := by decide +kernel
theorem c_60_27 : pg_cd 60 27 = (1, 1, 0, 0, 0) := by decide +kernel
theorem c_60_28 : pg_cd 60 28 = (3, 1, 0, 2, 0) := by decide +kernel
theorem c_60_29 : pg_cd 60 29 = (62, 0, 41, 0, 0) := by decide +kernel
theorem c_60_32 : pg_cd 60 32 = (5, 1, 0, 0, 0) := by decide +kernel
theorem c_60_33 : pg_cd 60 33 = (5, 1, 0, 1, 0) := by decide +kernel
theorem c_60_34 : pg_cd 60 34 = (43, 4, 19, 2, 0) := by decide +kernel
theorem c_60_37 : pg_cd 60 37 = (46, 4, 19, 2, 0) := by decide +kernel
theorem c_60_40 : pg_cd 60 40 = (94, 0, 0, 0, 0) := by decide +kernel
theorem mx_60 : pg_mx 60 = 3 := by decide +kernel
theorem m_60 {d : Nat} {h : ab_H} {Q : Option Value → ab_H → Prop} {x0 : Nat} {x1 : Nat} (t : wq d 60 0 [.ref x0, .ref x1, .retAddr 0] [] h Q) : wm d 60 [.ref x0, .ref x1] h Q := by
  unfold wm
  rw [mx_60]
  exact t
set_option maxRecDepth 20000 in
theorem t_60_0 {d : Nat} {h : ab_H} {Q : Option Value → ab_H → Prop} {x0 : Nat} {x1 : Nat} (t : ab_ok h x1 104 = true ∧ ab_ok h x1 104 = true ∧ ab_ok h x0 104 = true ∧ ∃ j1 : Nat, ab_r h x0 1 = some j1 ∧ ((j1 = 0 ∧ 0 = 0) ∨ ab_ok h j1 0 = true) ∧ 7 ≤ d ∧ ∀ y2 : Int32, y2 = (if (Int32.ofNat (ab_s h j1).2) < ((ab_i h x1 2) * (ab_i h x1 0)) then (Int32.ofNat (ab_s h j1).2) else ((ab_i h x1 2) * (ab_i h x1 0))) → ab_ok h x1 104 = true ∧ ∃ j3 : Nat, ab_r h x1 1 = some j3 ∧ ab_ok h x0 104 = true ∧ ∃ j4 : Nat, ab_r h x0 1 = some j4 ∧ ((ab_ok h j3 0 = true ∧ ab_ok h j4 0 = true) ∧ (¬ (0 : Int32) < 0 ∧ ¬ (0 : Int32) < 0 ∧ ¬ y2 < 0) ∧ Int32.toNatClampNeg (0 : Int32) + Int32.toNatClampNeg y2 ≤ (ab_s h j3).2 ∧ Int32.toNatClampNeg (0 : Int32) + Int32.toNatClampNeg y2 ≤ (ab_s h j4).2) ∧ ∀ h5 : ab_H, h5 = ab_row h j4 (va_cpy (ab_i h j3) (ab_i h j4) (Int32.toNatClampNeg (0 : Int32)) (Int32.toNatClampNeg (0 : Int32)) (Int32.toNatClampNeg y2)) → ab_ok h5 x1 104 = true ∧ ab_ok h5 x0 104 = true ∧ ∀ h6 : ab_H, h6 = ab_pi h5 x0 2 (ab_i h5 x1 2) → Q none h6) : wq d 60 0 [.ref x0, .ref x1, .retAddr 0] [] h Q := by
  refine g5 c_60_0 rfl ?_
  obtain ⟨ho, t⟩ := t
  refine g43 c_60_1 ho ?_
  refine g5 c_60_4 rfl ?_
  obtain ⟨ho, t⟩ := t
  refine g43 c_60_5 ho ?_
  refine g12 c_60_8 ?_
  refine g5 c_60_9 rfl ?_
  obtain ⟨ho, j1, hr, t⟩ := t
  refine g45 c_60_10 ho hr ?_
  obtain ⟨ho, t⟩ := t
  refine g58 c_60_13 ho ?_
  obtain ⟨h7, t⟩ := t
  refine g74 c_60_14 (Nat.le_of_ble_eq_true rfl) h7 ?_
  refine g6y (Lf := fun y2 => [.ref x0, .ref x1, .int y2]) c_60_17 (fun _ => rfl) (fun y2 ey2 => ?_)
  have t := t y2 ey2
  refine g5 c_60_18 rfl ?_
  obtain ⟨ho, j3, hr, t⟩ := t
  refine g45 c_60_19 ho hr ?_
  refine g1 c_60_22 k_0 ?_
  refine g5 c_60_23 rfl ?_
  obtain ⟨ho, j4, hr, t⟩ := t
  refine g45 c_60_24 ho hr ?_
  refine g1 c_60_27 k_0 ?_
  refine g3 c_60_28 rfl ?_
  obtain ⟨ho, t⟩ := t
  refine g62 c_60_29 ⟨ho.1, ho.2.1, ho.2.2.1, ho.2.2.2, Nat.le_of_ble_eq_true rfl⟩ (fun h5 eh5 => ?_)
  have t := t h5 eh5
  refine g5 c_60_32 rfl ?_
  refine g5 c_60_33 rfl ?_
  obtain ⟨ho, t⟩ := t
  refine g43 c_60_34 ho ?_
  obtain ⟨ho, t⟩ := t
  refine g46 c_60_37 ho (fun h6 eh6 => ?_)
  have t := t h6 eh6
  exact g94 c_60_40 t
-- method 73: MillTown$Sheet.<init>()V
theorem c_73_0 : pg_cd 73 0 = (5, 1, 0, 0, 0) := by decide +kernel
theorem c_73_1 : pg_cd 73 1 = (61, 0, 3, 0, 0) := by decide +kernel
theorem c_73_4 : pg_cd 73 4 = (5, 1, 0, 0, 0) := by decide +kernel
theorem c_73_5 : pg_cd 73 5 = (1, 3, 0, 0, 192) := by decide +kernel
theorem c_73_8 : pg_cd 73 8 = (59, 2, 0, 0, 0) := by decide +kernel
theorem c_73_10 : pg_cd 73 10 = (49, 6, 9, 0, 0) := by decide +kernel
theorem c_73_13 : pg_cd 73 13 = (5, 1, 0, 0, 0) := by decide +kernel
theorem c_73_14 : pg_cd 73 14 = (1, 3, 0, 0, 192) := by decide +kernel
theorem c_73_17 : pg_cd 73 17 = (59, 2, 0, 0, 0) := by decide +kernel
theorem c_73_19 : pg_cd 73 19 = (49, 6, 15, 1, 0) := by decide +kernel
theorem c_73_22 : pg_cd 73 22 = (5, 1, 0, 0, 0) := by decide +kernel
theorem c_73_23 : pg_cd 73 23 = (1, 1, 0, 0, (-1)) := by decide +kernel
theorem c_73_24 : pg_cd 73 24 = (46, 6, 18, 2, 0) := by decide +kernel
theorem c_73_27 : pg_cd 73 27 = (94, 0, 0, 0, 0) := by decide +kernel
theorem mx_73 : pg_mx 73 = 1 := by decide +kernel
theorem m_73 {d : Nat} {h : ab_H} {Q : Option Value → ab_H → Prop} {x0 : Nat} (t : wq d 73 0 [.ref x0] [] h Q) : wm d 73 [.ref x0] h Q := by
  unfold wm
  rw [mx_73]
  exact t
set_option maxRecDepth 20000 in
theorem t_73_0 {d : Nat} {h : ab_H} {Q : Option Value → ab_H → Prop} {x0 : Nat} (t : (¬ (192 : Int32) < 0 ∧ Int32.toNatClampNeg (192 : Int32) ≤ 1000000) ∧ ∀ h1 : ab_H, h1 = ab_new h 0 (Int32.toNatClampNeg (192 : Int32)) (Int32.toNatClampNeg (192 : Int32)) → ab_ok h1 x0 106 = true ∧ ∀ h2 : ab_H, h2 = ab_pr h1 x0 0 (some (ab_n h)) → (¬ (192 : Int32) < 0 ∧ Int32.toNatClampNeg (192 : Int32) ≤ 1000000) ∧ ∀ h3 : ab_H, h3 = ab_new h2 0 (Int32.toNatClampNeg (192 : Int32)) (Int32.toNatClampNeg (192 : Int32)) → ab_ok h3 x0 106 = true ∧ ∀ h4 : ab_H, h4 = ab_pr h3 x0 1 (some (ab_n h2)) → ab_ok h4 x0 106 = true ∧ ∀ h5 : ab_H, h5 = ab_pi h4 x0 2 (-1) → Q none h5) : wq d 73 0 [.ref x0] [] h Q := by
  refine g5 c_73_0 rfl ?_
  refine g61 c_73_1 (Nat.le_of_ble_eq_true rfl) ?_
  refine g5 c_73_4 rfl ?_
  refine g1 c_73_5 k_192 ?_
  obtain ⟨ho, t⟩ := t
  refine g59 c_73_8 ho (fun h1 eh1 => ?_)
  have t := t h1 eh1
  obtain ⟨ho, t⟩ := t
  refine g49 c_73_10 ho (fun h2 eh2 => ?_)
  have t := t h2 eh2
  refine g5 c_73_13 rfl ?_
  refine g1 c_73_14 k_192 ?_
  obtain ⟨ho, t⟩ := t
  refine g59 c_73_17 ho (fun h3 eh3 => ?_)
  have t := t h3 eh3
  obtain ⟨ho, t⟩ := t
  refine g49 c_73_19 ho (fun h4 eh4 => ?_)
  have t := t h4 eh4
  refine g5 c_73_22 rfl ?_
  refine g1 c_73_23 k_m1 ?_
  obtain ⟨ho, t⟩ := t
  refine g46 c_73_24 ho (fun h5 eh5 => ?_)
  have t := t h5 eh5
  exact g94 c_73_27 t
-- method 74: MillTown$Sheet.placeOf(II)I
theorem c_74_0 : pg_cd 74 0 = (3, 1, 0, 0, 0) := by decide +kernel
theorem c_74_1 : pg_cd 74 1 = (36, 3, 0, 2, 19) := by decide +kernel
theorem c_74_4 : pg_cd 74 4 = (3, 1, 0, 0, 0) := by decide +kernel
theorem c_74_5 : pg_cd 74 5 = (1, 2, 0, 0, 8) := by decide +kernel
theorem c_74_7 : pg_cd 74 7 = (37, 3, 0, 3, 13) := by decide +kernel
theorem c_74_10 : pg_cd 74 10 = (3, 1, 0, 1, 0) := by decide +kernel
theorem c_74_11 : pg_cd 74 11 = (36, 3, 0, 2, 9) := by decide +kernel
theorem c_74_14 : pg_cd 74 14 = (3, 1, 0, 1, 0) := by decide +kernel
theorem c_74_15 : pg_cd 74 15 = (1, 2, 0, 0, 24) := by decide +kernel
theorem c_74_17 : pg_cd 74 17 = (37, 3, 0, 2, 7) := by decide +kernel
theorem c_74_20 : pg_cd 74 20 = (1, 1, 0, 0, (-1)) := by decide +kernel
theorem c_74_21 : pg_cd 74 21 = (38, 3, 0, 0, 9) := by decide +kernel
theorem c_74_24 : pg_cd 74 24 = (3, 1, 0, 0, 0) := by decide +kernel
theorem c_74_25 : pg_cd 74 25 = (1, 2, 0, 0, 24) := by decide +kernel
theorem c_74_27 : pg_cd 74 27 = (12, 1, 0, 0, 0) := by decide +kernel
theorem c_74_28 : pg_cd 74 28 = (3, 1, 0, 1, 0) := by decide +kernel
theorem c_74_29 : pg_cd 74 29 = (10, 1, 0, 0, 0) := by decide +kernel
theorem c_74_30 : pg_cd 74 30 = (90, 0, 0, 0, 0) := by decide +kernel
theorem mx_74 : pg_mx 74 = 2 := by decide +kernel
theorem m_74 {d : Nat} {h : ab_H} {Q : Option Value → ab_H → Prop} {x0 : Int32} {x1 : Int32} (t : wq d 74 0 [.int x0, .int x1] [] h Q) : wm d 74 [.int x0, .int x1] h Q := by
  unfold wm
  rw [mx_74]
  exact t
set_option maxRecDepth 20000 in
theorem t_74_0 {d : Nat} {h : ab_H} {Q : Option Value → ab_H → Prop} {x0 : Int32} {x1 : Int32} (t : if x0 < 0 then (Q (some (.int (-1))) h) else (if 8 ≤ x0 then (Q (some (.int (-1))) h) else (if x1 < 0 then (Q (some (.int (-1))) h) else (if x1 < 24 then (Q (some (.int ((x0 * 24) + x1))) h) else (Q (some (.int (-1))) h))))) : wq d 74 0 [.int x0, .int x1] [] h Q := by
  refine g3 c_74_0 rfl ?_
  refine gif c_74_1 (gbr t rfl rfl (fun hc t => ?_) (fun hc t => ?_))
  · refine g1 c_74_20 k_m1 ?_
    refine g38 c_74_21 rfl ?_
    exact g90 c_74_30 t
  · refine g3 c_74_4 rfl ?_
    refine g1 c_74_5 k_8 ?_
    refine gcm c_74_7 (gbr t rfl rfl (fun hc t => ?_) (fun hc t => ?_))
    · refine g1 c_74_20 k_m1 ?_
      refine g38 c_74_21 rfl ?_
      exact g90 c_74_30 t
    · refine g3 c_74_10 rfl ?_
      refine gif c_74_11 (gbr t rfl rfl (fun hc t => ?_) (fun hc t => ?_))
      · refine g1 c_74_20 k_m1 ?_
        refine g38 c_74_21 rfl ?_
        exact g90 c_74_30 t
      · refine g3 c_74_14 rfl ?_
        refine g1 c_74_15 k_24 ?_
        refine gcm c_74_17 (gbr t rfl rfl (fun hc t => ?_) (fun hc t => ?_))
        · refine g3 c_74_24 rfl ?_
          refine g1 c_74_25 k_24 ?_
          refine g12 c_74_27 ?_
          refine g3 c_74_28 rfl ?_
          refine g10 c_74_29 ?_
          exact g90 c_74_30 t
        · refine g1 c_74_20 k_m1 ?_
          refine g38 c_74_21 rfl ?_
          exact g90 c_74_30 t
-- method 75: MillTown$Sheet.isTaken()Z
theorem c_75_0 : pg_cd 75 0 = (5, 1, 0, 0, 0) := by decide +kernel
theorem c_75_1 : pg_cd 75 1 = (43, 6, 18, 2, 0) := by decide +kernel
theorem c_75_4 : pg_cd 75 4 = (1, 1, 0, 0, (-1)) := by decide +kernel
theorem c_75_5 : pg_cd 75 5 = (37, 3, 0, 0, 7) := by decide +kernel
theorem c_75_8 : pg_cd 75 8 = (1, 1, 0, 0, 1) := by decide +kernel
theorem c_75_9 : pg_cd 75 9 = (38, 3, 0, 0, 4) := by decide +kernel
theorem c_75_12 : pg_cd 75 12 = (1, 1, 0, 0, 0) := by decide +kernel
theorem c_75_13 : pg_cd 75 13 = (91, 0, 0, 0, 0) := by decide +kernel
theorem mx_75 : pg_mx 75 = 1 := by decide +kernel
theorem m_75 {d : Nat} {h : ab_H} {Q : Option Value → ab_H → Prop} {x0 : Nat} (t : wq d 75 0 [.ref x0] [] h Q) : wm d 75 [.ref x0] h Q := by
  unfold wm
  rw [mx_75]
  exact t
set_option maxRecDepth 20000 in
theorem t_75_0 {d : Nat} {h : ab_H} {Q : Option Value → ab_H → Prop} {x0 : Nat} (t : ab_ok h x0 106 = true ∧ if (ab_i h x0 2) = (-1) then (Q (some (.int 0)) h) else (Q (some (.int 1)) h)) : wq d 75 0 [.ref x0] [] h Q := by
  refine g5 c_75_0 rfl ?_
  obtain ⟨ho, t⟩ := t
  refine g43 c_75_1 ho ?_
  refine g1 c_75_4 k_m1 ?_
  refine gcm c_75_5 (gbr t rfl rfl (fun hc t => ?_) (fun hc t => ?_))
  · refine g1 c_75_12 k_0 ?_
    exact g91 c_75_13 ⟨by decide, t⟩
  · refine g1 c_75_8 k_1 ?_
    refine g38 c_75_9 rfl ?_
    exact g91 c_75_13 ⟨by decide, t⟩
-- method 76: MillTown$Sheet.take(LMillTown$Books;LMillTown$Town;I)V
theorem c_76_0 : pg_cd 76 0 = (5, 1, 0, 0, 0) := by decide +kernel
theorem c_76_1 : pg_cd 76 1 = (3, 1, 0, 3, 0) := by decide +kernel
theorem c_76_2 : pg_cd 76 2 = (46, 6, 18, 2, 0) := by decide +kernel
theorem c_76_5 : pg_cd 76 5 = (5, 1, 0, 1, 0) := by decide +kernel
theorem c_76_6 : pg_cd 76 6 = (5, 1, 0, 2, 0) := by decide +kernel
theorem c_76_7 : pg_cd 76 7 = (3, 1, 0, 3, 0) := by decide +kernel
theorem c_76_8 : pg_cd 76 8 = (5, 1, 0, 0, 0) := by decide +kernel
theorem c_76_9 : pg_cd 76 9 = (45, 6, 9, 0, 0) := by decide +kernel
theorem c_76_12 : pg_cd 76 12 = (80, 7, 22, 0, 0) := by decide +kernel
theorem c_76_15 : pg_cd 76 15 = (94, 0, 0, 0, 0) := by decide +kernel
theorem mx_76 : pg_mx 76 = 4 := by decide +kernel
theorem m_76 {d : Nat} {h : ab_H} {Q : Option Value → ab_H → Prop} {x0 : Nat} {x1 : Nat} {x2 : Nat} {x3 : Int32} (t : wq d 76 0 [.ref x0, .ref x1, .ref x2, .int x3] [] h Q) : wm d 76 [.ref x0, .ref x1, .ref x2, .int x3] h Q := by
  unfold wm
  rw [mx_76]
  exact t
set_option maxRecDepth 20000 in
theorem t_76_0 {d : Nat} {h : ab_H} {Q : Option Value → ab_H → Prop} {x0 : Nat} {x1 : Nat} {x2 : Nat} {x3 : Int32} (t : ab_ok h x0 106 = true ∧ ∀ h1 : ab_H, h1 = ab_pi h x0 2 x3 → ab_ok h1 x0 106 = true ∧ ∃ j2 : Nat, ab_r h1 x0 0 = some j2 ∧ ab_ok h1 x1 100 = true ∧ wm d 7 [.ref x1, .ref x2, .int x3, .ref j2] h1 (fun r9 h9 => wq (d + 1) 76 15 [.ref x0, .ref x1, .ref x2, .int x3] (r9.toList ++ []) h9 Q)) : wq (d + 1) 76 0 [.ref x0, .ref x1, .ref x2, .int x3] [] h Q := by
  refine g5 c_76_0 rfl ?_
  refine g3 c_76_1 rfl ?_
  obtain ⟨ho, t⟩ := t
  refine g46 c_76_2 ho (fun h1 eh1 => ?_)
  have t := t h1 eh1
  refine g5 c_76_5 rfl ?_
  refine g5 c_76_6 rfl ?_
  refine g3 c_76_7 rfl ?_
  refine g5 c_76_8 rfl ?_
  obtain ⟨ho, j2, hr, t⟩ := t
  refine g45 c_76_9 ho hr ?_
  exact g80 (As := [.ref x2, .int x3, .ref j2]) (rest := []) c_76_12 rfl rfl (Nat.le_of_ble_eq_true rfl) (Nat.le_of_ble_eq_true rfl) t.1 t.2
set_option maxRecDepth 20000 in
theorem t_76_15 {d : Nat} {h : ab_H} {Q : Option Value → ab_H → Prop} {x0 : Nat} {x1 : Nat} {x2 : Nat} {x3 : Int32} (t : Q none h) : wq d 76 15 [.ref x0, .ref x1, .ref x2, .int x3] [] h Q := by
  exact g94 c_76_15 t
-- method 77: MillTown$Sheet.at(II)I
theorem c_77_0 : pg_cd 77 0 = (3, 1, 0, 1, 0) := by decide +kernel
theorem c_77_1 : pg_cd 77 1 = (3, 1, 0, 2, 0) := by decide +kernel
theorem c_77_2 : pg_cd 77 2 = (81, 74, 28, 0, 0) := by decide +kernel
theorem c_77_5 : pg_cd 77 5 = (6, 1, 0, 3, 0) := by decide +kernel
theorem c_77_6 : pg_cd 77 6 = (3, 1, 0, 3, 0) := by decide +kernel
theorem c_77_7 : pg_cd 77 7 = (36, 3, 0, 2, 12) := by decide +kernel
theorem c_77_10 : pg_cd 77 10 = (3, 1, 0, 3, 0) := by decide +kernel
theorem c_77_11 : pg_cd 77 11 = (5, 1, 0, 0, 0) := by decide +kernel
theorem c_77_12 : pg_cd 77 12 = (45, 6, 9, 0, 0) := by decide +kernel
theorem c_77_15 : pg_cd 77 15 = (58, 0, 0, 0, 0) := by decide +kernel
theorem c_77_16 : pg_cd 77 16 = (37, 3, 0, 2, 7) := by decide +kernel
theorem c_77_19 : pg_cd 77 19 = (1, 1, 0, 0, (-1)) := by decide +kernel
theorem c_77_20 : pg_cd 77 20 = (38, 3, 0, 0, 9) := by decide +kernel
theorem c_77_23 : pg_cd 77 23 = (5, 1, 0, 0, 0) := by decide +kernel
theorem c_77_24 : pg_cd 77 24 = (45, 6, 9, 0, 0) := by decide +kernel
theorem c_77_27 : pg_cd 77 27 = (3, 1, 0, 3, 0) := by decide +kernel
theorem c_77_28 : pg_cd 77 28 = (50, 1, 0, 0, 0) := by decide +kernel
theorem c_77_29 : pg_cd 77 29 = (90, 0, 0, 0, 0) := by decide +kernel
theorem mx_77 : pg_mx 77 = 4 := by decide +kernel
theorem m_77 {d : Nat} {h : ab_H} {Q : Option Value → ab_H → Prop} {x0 : Nat} {x1 : Int32} {x2 : Int32} (t : wq d 77 0 [.ref x0, .int x1, .int x2, .retAddr 0] [] h Q) : wm d 77 [.ref x0, .int x1, .int x2] h Q := by
  unfold wm
  rw [mx_77]
  exact t
set_option maxRecDepth 20000 in
theorem t_77_0 {d : Nat} {h : ab_H} {Q : Option Value → ab_H → Prop} {x0 : Nat} {x1 : Int32} {x2 : Int32} (t : wm d 74 [.int x1, .int x2] h (fun r9 h9 => wq (d + 1) 77 5 [.ref x0, .int x1, .int x2, .retAddr 0] (r9.toList ++ []) h9 Q)) : wq (d + 1) 77 0 [.ref x0, .int x1, .int x2, .retAddr 0] [] h Q := by
  refine g3 c_77_0 rfl ?_
  refine g3 c_77_1 rfl ?_
  exact g81 (As := [.int x1, .int x2]) (rest := []) c_77_2 rfl rfl (Nat.le_of_ble_eq_true rfl) (Nat.le_of_ble_eq_true rfl) t
set_option maxRecDepth 20000 in
theorem t_77_5 {d : Nat} {h : ab_H} {Q : Option Value → ab_H → Prop} {x0 : Nat} {x1 : Int32} {x2 : Int32} {s0 : Int32} (t : if s0 < 0 then (Q (some (.int (-1))) h) else (ab_ok h x0 106 = true ∧ ∃ j1 : Nat, ab_r h x0 0 = some j1 ∧ ((j1 = 0 ∧ 0 = 0) ∨ ab_ok h j1 0 = true) ∧ if s0 < (Int32.ofNat (ab_s h j1).2) then (ab_ok h x0 106 = true ∧ ∃ j2 : Nat, ab_r h x0 0 = some j2 ∧ ((j2 = 0 ∨ ab_ok h j2 0 = true) ∧ ab_in s0 (ab_s h j2).2 = true) ∧ Q (some (.int (ab_i h j2 (Int32.toNatClampNeg s0)))) h) else (Q (some (.int (-1))) h))) : wq d 77 5 [.ref x0, .int x1, .int x2, .retAddr 0] [.int s0] h Q := by
  refine g6 (L' := [.ref x0, .int x1, .int x2, .int s0]) c_77_5 rfl ?_
  refine g3 c_77_6 rfl ?_
  refine gif c_77_7 (gbr t rfl rfl (fun hc t => ?_) (fun hc t => ?_))
  · refine g1 c_77_19 k_m1 ?_
    refine g38 c_77_20 rfl ?_
    exact g90 c_77_29 t
  · refine g3 c_77_10 rfl ?_
    refine g5 c_77_11 rfl ?_
    obtain ⟨ho, j1, hr, t⟩ := t
    refine g45 c_77_12 ho hr ?_
    obtain ⟨ho, t⟩ := t
    refine g58 c_77_15 ho ?_
    refine gcm c_77_16 (gbr t rfl rfl (fun hc t => ?_) (fun hc t => ?_))
    · refine g5 c_77_23 rfl ?_
      obtain ⟨ho, j2, hr, t⟩ := t
      refine g45 c_77_24 ho hr ?_
      refine g3 c_77_27 rfl ?_
      obtain ⟨ho, t⟩ := t
      refine g50 c_77_28 ho ?_
      exact g90 c_77_29 t
    · refine g1 c_77_19 k_m1 ?_
      refine g38 c_77_20 rfl ?_
      exact g90 c_77_29 t
-- method 78: MillTown$Sheet.change(III)Z
theorem c_78_0 : pg_cd 78 0 = (3, 1, 0, 1, 0) := by decide +kernel
theorem c_78_1 : pg_cd 78 1 = (3, 1, 0, 2, 0) := by decide +kernel
theorem c_78_2 : pg_cd 78 2 = (81, 74, 28, 0, 0) := by decide +kernel
theorem c_78_5 : pg_cd 78 5 = (6, 2, 0, 4, 0) := by decide +kernel
theorem c_78_7 : pg_cd 78 7 = (3, 2, 0, 4, 0) := by decide +kernel
theorem c_78_9 : pg_cd 78 9 = (36, 3, 0, 2, 13) := by decide +kernel
theorem c_78_12 : pg_cd 78 12 = (3, 2, 0, 4, 0) := by decide +kernel
theorem c_78_14 : pg_cd 78 14 = (5, 1, 0, 0, 0) := by decide +kernel
theorem c_78_15 : pg_cd 78 15 = (45, 6, 9, 0, 0) := by decide +kernel
theorem c_78_18 : pg_cd 78 18 = (58, 0, 0, 0, 0) := by decide +kernel
theorem c_78_19 : pg_cd 78 19 = (37, 3, 0, 2, 5) := by decide +kernel
theorem c_78_22 : pg_cd 78 22 = (1, 1, 0, 0, 0) := by decide +kernel
theorem c_78_23 : pg_cd 78 23 = (91, 0, 0, 0, 0) := by decide +kernel
theorem c_78_24 : pg_cd 78 24 = (5, 1, 0, 0, 0) := by decide +kernel
theorem c_78_25 : pg_cd 78 25 = (45, 6, 9, 0, 0) := by decide +kernel
theorem c_78_28 : pg_cd 78 28 = (3, 2, 0, 4, 0) := by decide +kernel
theorem c_78_30 : pg_cd 78 30 = (34, 1, 0, 0, 0) := by decide +kernel
theorem c_78_31 : pg_cd 78 31 = (50, 1, 0, 0, 0) := by decide +kernel
theorem c_78_32 : pg_cd 78 32 = (3, 1, 0, 3, 0) := by decide +kernel
theorem c_78_33 : pg_cd 78 33 = (15, 1, 0, 0, 0) := by decide +kernel
theorem c_78_34 : pg_cd 78 34 = (54, 1, 0, 0, 0) := by decide +kernel
theorem c_78_35 : pg_cd 78 35 = (1, 1, 0, 0, 1) := by decide +kernel
theorem c_78_36 : pg_cd 78 36 = (91, 0, 0, 0, 0) := by decide +kernel
theorem mx_78 : pg_mx 78 = 5 := by decide +kernel
theorem m_78 {d : Nat} {h : ab_H} {Q : Option Value → ab_H → Prop} {x0 : Nat} {x1 : Int32} {x2 : Int32} {x3 : Int32} (t : wq d 78 0 [.ref x0, .int x1, .int x2, .int x3, .retAddr 0] [] h Q) : wm d 78 [.ref x0, .int x1, .int x2, .int x3] h Q := by
  unfold wm
  rw [mx_78]
  exact t
set_option maxRecDepth 20000 in
theorem t_78_0 {d : Nat} {h : ab_H} {Q : Option Value → ab_H → Prop} {x0 : Nat} {x1 : Int32} {x2 : Int32} {x3 : Int32} (t : wm d 74 [.int x1, .int x2] h (fun r9 h9 => wq (d + 1) 78 5 [.ref x0, .int x1, .int x2, .int x3, .retAddr 0] (r9.toList ++ []) h9 Q)) : wq (d + 1) 78 0 [.ref x0, .int x1, .int x2, .int x3, .retAddr 0] [] h Q := by
  refine g3 c_78_0 rfl ?_
  refine g3 c_78_1 rfl ?_
  exact g81 (As := [.int x1, .int x2]) (rest := []) c_78_2 rfl rfl (Nat.le_of_ble_eq_true rfl) (Nat.le_of_ble_eq_true rfl) t
set_option maxRecDepth 20000 in
theorem t_78_5 {d : Nat} {h : ab_H} {Q : Option Value → ab_H → Prop} {x0 : Nat} {x1 : Int32} {x2 : Int32} {x3 : Int32} {s0 : Int32} (t : if s0 < 0 then (Q (some (.int 0)) h) else (ab_ok h x0 106 = true ∧ ∃ j1 : Nat, ab_r h x0 0 = some j1 ∧ ((j1 = 0 ∧ 0 = 0) ∨ ab_ok h j1 0 = true) ∧ if s0 < (Int32.ofNat (ab_s h j1).2) then (ab_ok h x0 106 = true ∧ ∃ j2 : Nat, ab_r h x0 0 = some j2 ∧ ((j2 = 0 ∨ ab_ok h j2 0 = true) ∧ ab_in s0 (ab_s h j2).2 = true) ∧ (ab_ok h j2 0 = true ∧ ab_in s0 (ab_s h j2).2 = true) ∧ ∀ h3 : ab_H, h3 = ab_pi h j2 (Int32.toNatClampNeg s0) ((ab_i h j2 (Int32.toNatClampNeg s0)) ^^^ x3) → Q (some (.int 1)) h3) else (Q (some (.int 0)) h))) : wq d 78 5 [.ref x0, .int x1, .int x2, .int x3, .retAddr 0] [.int s0] h Q := by
  refine g6 (L' := [.ref x0, .int x1, .int x2, .int x3, .int s0]) c_78_5 rfl ?_
  refine g3 c_78_7 rfl ?_
  refine gif c_78_9 (gbr t rfl rfl (fun hc t => ?_) (fun hc t => ?_))
  · refine g1 c_78_22 k_0 ?_
    exact g91 c_78_23 ⟨by decide, t⟩
  · refine g3 c_78_12 rfl ?_
    refine g5 c_78_14 rfl ?_
    obtain ⟨ho, j1, hr, t⟩ := t
    refine g45 c_78_15 ho hr ?_
    obtain ⟨ho, t⟩ := t
    refine g58 c_78_18 ho ?_
    refine gcm c_78_19 (gbr t rfl rfl (fun hc t => ?_) (fun hc t => ?_))
    · refine g5 c_78_24 rfl ?_
      obtain ⟨ho, j2, hr, t⟩ := t
      refine g45 c_78_25 ho hr ?_
      refine g3 c_78_28 rfl ?_
      refine g34a c_78_30 ?_
      obtain ⟨ho, t⟩ := t
      refine g50 c_78_31 ho ?_
      refine g3 c_78_32 rfl ?_
      refine g15 c_78_33 ?_
      obtain ⟨ho, t⟩ := t
      refine g54 c_78_34 ho (fun h3 eh3 => ?_)
      have t := t h3 eh3
      refine g1 c_78_35 k_1 ?_
      exact g91 c_78_36 ⟨by decide, t⟩
    · refine g1 c_78_22 k_0 ?_
      exact g91 c_78_23 ⟨by decide, t⟩
-- method 79: MillTown$Sheet.compare(LMillTown$Books;LMillTown$Town;I)I
theorem c_79_0 : pg_cd 79 0 = (5, 1, 0, 1, 0) := by decide +kernel
theorem c_79_1 : pg_cd 79 1 = (5, 1, 0, 2, 0) := by decide +kernel
theorem c_79_2 : pg_cd 79 2 = (5, 1, 0, 0, 0) := by decide +kernel
theorem c_79_3 : pg_cd 79 3 = (43, 6, 18, 2, 0) := by decide +kernel
theorem c_79_6 : pg_cd 79 6 = (5, 1, 0, 0, 0) := by decide +kernel
theorem c_79_7 : pg_cd 79 7 = (45, 6, 15, 1, 0) := by decide +kernel
theorem c_79_10 : pg_cd 79 10 = (80, 7, 22, 0, 0) := by decide +kernel
theorem c_79_13 : pg_cd 79 13 = (1, 1, 0, 0, 0) := by decide +kernel
theorem c_79_14 : pg_cd 79 14 = (6, 2, 0, 4, 0) := by decide +kernel
theorem c_79_16 : pg_cd 79 16 = (1, 1, 0, 0, (-1)) := by decide +kernel
theorem c_79_17 : pg_cd 79 17 = (6, 2, 0, 5, 0) := by decide +kernel
theorem c_79_19 : pg_cd 79 19 = (1, 1, 0, 0, 0) := by decide +kernel
theorem c_79_20 : pg_cd 79 20 = (6, 2, 0, 6, 0) := by decide +kernel
theorem c_79_22 : pg_cd 79 22 = (3, 2, 0, 6, 0) := by decide +kernel
theorem c_79_24 : pg_cd 79 24 = (5, 1, 0, 0, 0) := by decide +kernel
theorem c_79_25 : pg_cd 79 25 = (45, 6, 9, 0, 0) := by decide +kernel
theorem c_79_28 : pg_cd 79 28 = (58, 0, 0, 0, 0) := by decide +kernel
theorem c_79_29 : pg_cd 79 29 = (37, 3, 0, 3, 43) := by decide +kernel
theorem c_79_32 : pg_cd 79 32 = (3, 2, 0, 6, 0) := by decide +kernel
theorem c_79_34 : pg_cd 79 34 = (5, 1, 0, 0, 0) := by decide +kernel
theorem c_79_35 : pg_cd 79 35 = (45, 6, 15, 1, 0) := by decide +kernel
theorem c_79_38 : pg_cd 79 38 = (58, 0, 0, 0, 0) := by decide +kernel
theorem c_79_39 : pg_cd 79 39 = (37, 3, 0, 3, 33) := by decide +kernel
theorem c_79_42 : pg_cd 79 42 = (5, 1, 0, 0, 0) := by decide +kernel
theorem c_79_43 : pg_cd 79 43 = (45, 6, 9, 0, 0) := by decide +kernel
theorem c_79_46 : pg_cd 79 46 = (3, 2, 0, 6, 0) := by decide +kernel
theorem c_79_48 : pg_cd 79 48 = (50, 1, 0, 0, 0) := by decide +kernel
theorem c_79_49 : pg_cd 79 49 = (5, 1, 0, 0, 0) := by decide +kernel
theorem c_79_50 : pg_cd 79 50 = (45, 6, 15, 1, 0) := by decide +kernel
theorem c_79_53 : pg_cd 79 53 = (3, 2, 0, 6, 0) := by decide +kernel
theorem c_79_55 : pg_cd 79 55 = (50, 1, 0, 0, 0) := by decide +kernel
theorem c_79_56 : pg_cd 79 56 = (37, 3, 0, 0, 10) := by decide +kernel
theorem c_79_59 : pg_cd 79 59 = (9, 3, 0, 4, 1) := by decide +kernel
theorem c_79_62 : pg_cd 79 62 = (3, 2, 0, 6, 0) := by decide +kernel
theorem c_79_64 : pg_cd 79 64 = (6, 2, 0, 5, 0) := by decide +kernel
theorem c_79_66 : pg_cd 79 66 = (9, 3, 0, 6, 1) := by decide +kernel
theorem c_79_69 : pg_cd 79 69 = (38, 3, 0, 0, (-47)) := by decide +kernel
theorem c_79_72 : pg_cd 79 72 = (3, 1, 0, 3, 0) := by decide +kernel
theorem c_79_73 : pg_cd 79 73 = (36, 3, 0, 1, 10) := by decide +kernel
theorem c_79_76 : pg_cd 79 76 = (3, 2, 0, 4, 0) := by decide +kernel
theorem c_79_78 : pg_cd 79 78 = (1, 1, 0, 0, 2) := by decide +kernel
theorem c_79_79 : pg_cd 79 79 = (74, 0, 32, 0, 0) := by decide +kernel
theorem c_79_82 : pg_cd 79 82 = (90, 0, 0, 0, 0) := by decide +kernel
theorem c_79_83 : pg_cd 79 83 = (3, 2, 0, 4, 0) := by decide +kernel
theorem c_79_85 : pg_cd 79 85 = (1, 1, 0, 0, 1) := by decide +kernel
theorem c_79_86 : pg_cd 79 86 = (37, 3, 0, 0, 5) := by decide +kernel
theorem c_79_89 : pg_cd 79 89 = (1, 1, 0, 0, (-1)) := by decide +kernel
theorem c_79_90 : pg_cd 79 90 = (90, 0, 0, 0, 0) := by decide +kernel
theorem c_79_91 : pg_cd 79 91 = (3, 1, 0, 3, 0) := by decide +kernel
theorem c_79_92 : pg_cd 79 92 = (1, 1, 0, 0, 1) := by decide +kernel
theorem c_79_93 : pg_cd 79 93 = (37, 3, 0, 1, 11) := by decide +kernel
theorem c_79_96 : pg_cd 79 96 = (3, 2, 0, 5, 0) := by decide +kernel
theorem c_79_98 : pg_cd 79 98 = (1, 2, 0, 0, 24) := by decide +kernel
theorem c_79_100 : pg_cd 79 100 = (16, 1, 0, 0, 0) := by decide +kernel
theorem c_79_101 : pg_cd 79 101 = (38, 3, 0, 0, 8) := by decide +kernel
theorem c_79_104 : pg_cd 79 104 = (3, 2, 0, 5, 0) := by decide +kernel
theorem c_79_106 : pg_cd 79 106 = (1, 2, 0, 0, 24) := by decide +kernel
theorem c_79_108 : pg_cd 79 108 = (17, 1, 0, 0, 0) := by decide +kernel
theorem c_79_109 : pg_cd 79 109 = (90, 0, 0, 0, 0) := by decide +kernel
theorem mx_79 : pg_mx 79 = 7 := by decide +kernel
theorem m_79 {d : Nat} {h : ab_H} {Q : Option Value → ab_H → Prop} {x0 : Nat} {x1 : Nat} {x2 : Nat} {x3 : Int32} (t : wq d 79 0 [.ref x0, .ref x1, .ref x2, .int x3, .retAddr 0, .retAddr 0, .retAddr 0] [] h Q) : wm d 79 [.ref x0, .ref x1, .ref x2, .int x3] h Q := by
  unfold wm
  rw [mx_79]
  exact t
set_option maxRecDepth 20000 in
theorem t_79_0 {d : Nat} {h : ab_H} {Q : Option Value → ab_H → Prop} {x0 : Nat} {x1 : Nat} {x2 : Nat} {x3 : Int32} (t : ab_ok h x0 106 = true ∧ ab_ok h x0 106 = true ∧ ∃ j1 : Nat, ab_r h x0 1 = some j1 ∧ ab_ok h x1 100 = true ∧ wm d 7 [.ref x1, .ref x2, .int (ab_i h x0 2), .ref j1] h (fun r9 h9 => wq (d + 1) 79 13 [.ref x0, .ref x1, .ref x2, .int x3, .retAddr 0, .retAddr 0, .retAddr 0] (r9.toList ++ []) h9 Q)) : wq (d + 1) 79 0 [.ref x0, .ref x1, .ref x2, .int x3, .retAddr 0, .retAddr 0, .retAddr 0] [] h Q := by
  refine g5 c_79_0 rfl ?_
  refine g5 c_79_1 rfl ?_
  refine g5 c_79_2 rfl ?_
  obtain ⟨ho, t⟩ := t
  refine g43 c_79_3 ho ?_
  refine g5 c_79_6 rfl ?_
  obtain ⟨ho, j1, hr, t⟩ := t
  refine g45 c_79_7 ho hr ?_
  exact g80 (As := [.ref x2, .int (ab_i h x0 2), .ref j1]) (rest := []) c_79_10 rfl rfl (Nat.le_of_ble_eq_true rfl) (Nat.le_of_ble_eq_true rfl) t.1 t.2
set_option maxRecDepth 20000 in
theorem t_79_13 {d : Nat} {h : ab_H} {Q : Option Value → ab_H → Prop} {x0 : Nat} {x1 : Nat} {x2 : Nat} {x3 : Int32} (t : wq d 79 22 [.ref x0, .ref x1, .ref x2, .int x3, .int 0, .int (-1), .int 0] [] h Q) : wq d 79 13 [.ref x0, .ref x1, .ref x2, .int x3, .retAddr 0, .retAddr 0, .retAddr 0] [] h Q := by
  refine g1 c_79_13 k_0 ?_
  refine g6 (L' := [.ref x0, .ref x1, .ref x2, .int x3, .int 0, .retAddr 0, .retAddr 0]) c_79_14 rfl ?_
  refine g1 c_79_16 k_m1 ?_
  refine g6 (L' := [.ref x0, .ref x1, .ref x2, .int x3, .int 0, .int (-1), .retAddr 0]) c_79_17 rfl ?_
  refine g1 c_79_19 k_0 ?_
  refine g6 (L' := [.ref x0, .ref x1, .ref x2, .int x3, .int 0, .int (-1), .int 0]) c_79_20 rfl ?_
  exact t
set_option maxRecDepth 20000 in
theorem t_79_22 {d : Nat} {h : ab_H} {Q : Option Value → ab_H → Prop} {x0 : Nat} {x1 : Nat} {x2 : Nat} {x3 : Int32} {x4 : Int32} {x5 : Int32} {x6 : Int32} (t : ab_ok h x0 106 = true ∧ ∃ j1 : Nat, ab_r h x0 0 = some j1 ∧ ((j1 = 0 ∧ 0 = 0) ∨ ab_ok h j1 0 = true) ∧ if (Int32.ofNat (ab_s h j1).2) ≤ x6 then (if x3 = 0 then (7 ≤ d ∧ Q (some (.int (if (2 : Int32) < x4 then 2 else x4))) h) else (if x4 = 1 then (if x3 = 1 then (¬ (24 : Int32) = 0 ∧ Q (some (.int (x5 / 24))) h) else (¬ (24 : Int32) = 0 ∧ Q (some (.int (x5 - x5 / 24 * 24))) h)) else (Q (some (.int (-1))) h))) else (ab_ok h x0 106 = true ∧ ∃ j2 : Nat, ab_r h x0 1 = some j2 ∧ ((j2 = 0 ∧ 0 = 0) ∨ ab_ok h j2 0 = true) ∧ if (Int32.ofNat (ab_s h j2).2) ≤ x6 then (if x3 = 0 then (7 ≤ d ∧ Q (some (.int (if (2 : Int32) < x4 then 2 else x4))) h) else (if x4 = 1 then (if x3 = 1 then (¬ (24 : Int32) = 0 ∧ Q (some (.int (x5 / 24))) h) else (¬ (24 : Int32) = 0 ∧ Q (some (.int (x5 - x5 / 24 * 24))) h)) else (Q (some (.int (-1))) h))) else (ab_ok h x0 106 = true ∧ ∃ j3 : Nat, ab_r h x0 0 = some j3 ∧ ((j3 = 0 ∨ ab_ok h j3 0 = true) ∧ ab_in x6 (ab_s h j3).2 = true) ∧ ab_ok h x0 106 = true ∧ ∃ j4 : Nat, ab_r h x0 1 = some j4 ∧ ((j4 = 0 ∨ ab_ok h j4 0 = true) ∧ ab_in x6 (ab_s h j4).2 = true) ∧ if (ab_i h j3 (Int32.toNatClampNeg x6)) = (ab_i h j4 (Int32.toNatClampNeg x6)) then (wq d 79 22 [.ref x0, .ref x1, .ref x2, .int x3, .int x4, .int x5, .int (x6 + 1)] [] h Q) else (wq d 79 22 [.ref x0, .ref x1, .ref x2, .int x3, .int (x4 + 1), .int x6, .int (x6 + 1)] [] h Q)))) : wq d 79 22 [.ref x0, .ref x1, .ref x2, .int x3, .int x4, .int x5, .int x6] [] h Q := by
  refine g3 c_79_22 rfl ?_
  refine g5 c_79_24 rfl ?_
  obtain ⟨ho, j1, hr, t⟩ := t
  refine g45 c_79_25 ho hr ?_
  obtain ⟨ho, t⟩ := t
  refine g58 c_79_28 ho ?_
  refine gcm c_79_29 (gbr t rfl rfl (fun hc t => ?_) (fun hc t => ?_))
  · refine g3 c_79_72 rfl ?_
    refine gif c_79_73 (gbn t (ab_c1 _ _) rfl (fun hc t => ?_) (fun hc t => ?_))
    · refine g3 c_79_76 rfl ?_
      refine g1 c_79_78 k_2 ?_
      obtain ⟨h7, t⟩ := t
      refine g74 c_79_79 (Nat.le_of_ble_eq_true rfl) h7 ?_
      exact g90 c_79_82 t
    · refine g3 c_79_83 rfl ?_
      refine g1 c_79_85 k_1 ?_
      refine gcm c_79_86 (gbr t rfl rfl (fun hc t => ?_) (fun hc t => ?_))
      · refine g3 c_79_91 rfl ?_
        refine g1 c_79_92 k_1 ?_
        refine gcm c_79_93 (gbn t (ab_c1 _ _) rfl (fun hc t => ?_) (fun hc t => ?_))
        · refine g3 c_79_96 rfl ?_
          refine g1 c_79_98 k_24 ?_
          obtain ⟨hy, t⟩ := t
          refine g16 c_79_100 hy ?_
          refine g38 c_79_101 rfl ?_
          exact g90 c_79_109 t
        · refine g3 c_79_104 rfl ?_
          refine g1 c_79_106 k_24 ?_
          obtain ⟨hy, t⟩ := t
          refine g17 c_79_108 hy ?_
          exact g90 c_79_109 t
      · refine g1 c_79_89 k_m1 ?_
        exact g90 c_79_90 t
  · refine g3 c_79_32 rfl ?_
    refine g5 c_79_34 rfl ?_
    obtain ⟨ho, j2, hr, t⟩ := t
    refine g45 c_79_35 ho hr ?_
    obtain ⟨ho, t⟩ := t
    refine g58 c_79_38 ho ?_
    refine gcm c_79_39 (gbr t rfl rfl (fun hc t => ?_) (fun hc t => ?_))
    · refine g3 c_79_72 rfl ?_
      refine gif c_79_73 (gbn t (ab_c1 _ _) rfl (fun hc t => ?_) (fun hc t => ?_))
      · refine g3 c_79_76 rfl ?_
        refine g1 c_79_78 k_2 ?_
        obtain ⟨h7, t⟩ := t
        refine g74 c_79_79 (Nat.le_of_ble_eq_true rfl) h7 ?_
        exact g90 c_79_82 t
      · refine g3 c_79_83 rfl ?_
        refine g1 c_79_85 k_1 ?_
        refine gcm c_79_86 (gbr t rfl rfl (fun hc t => ?_) (fun hc t => ?_))
        · refine g3 c_79_91 rfl ?_
          refine g1 c_79_92 k_1 ?_
          refine gcm c_79_93 (gbn t (ab_c1 _ _) rfl (fun hc t => ?_) (fun hc t => ?_))
          · refine g3 c_79_96 rfl ?_
            refine g1 c_79_98 k_24 ?_
            obtain ⟨hy, t⟩ := t
            refine g16 c_79_100 hy ?_
            refine g38 c_79_101 rfl ?_
            exact g90 c_79_109 t
          · refine g3 c_79_104 rfl ?_
            refine g1 c_79_106 k_24 ?_
            obtain ⟨hy, t⟩ := t
            refine g17 c_79_108 hy ?_
            exact g90 c_79_109 t
        · refine g1 c_79_89 k_m1 ?_
          exact g90 c_79_90 t
    · refine g5 c_79_42 rfl ?_
      obtain ⟨ho, j3, hr, t⟩ := t
      refine g45 c_79_43 ho hr ?_
      refine g3 c_79_46 rfl ?_
      obtain ⟨ho, t⟩ := t
      refine g50 c_79_48 ho ?_
      refine g5 c_79_49 rfl ?_
      obtain ⟨ho, j4, hr, t⟩ := t
      refine g45 c_79_50 ho hr ?_
      refine g3 c_79_53 rfl ?_
      obtain ⟨ho, t⟩ := t
      refine g50 c_79_55 ho ?_
      refine gcm c_79_56 (gbr t rfl rfl (fun hc t => ?_) (fun hc t => ?_))
      · refine g9 (L' := [.ref x0, .ref x1, .ref x2, .int x3, .int x4, .int x5, .int (x6 + 1)]) c_79_66 rfl k_1 rfl ?_
        refine g38 c_79_69 rfl ?_
        exact t
      · refine g9 (L' := [.ref x0, .ref x1, .ref x2, .int x3, .int (x4 + 1), .int x5, .int x6]) c_79_59 rfl k_1 rfl ?_
        refine g3 c_79_62 rfl ?_
        refine g6 (L' := [.ref x0, .ref x1, .ref x2, .int x3, .int (x4 + 1), .int x6, .int x6]) c_79_64 rfl ?_
        refine g9 (L' := [.ref x0, .ref x1, .ref x2, .int x3, .int (x4 + 1), .int x6, .int (x6 + 1)]) c_79_66 rfl k_1 rfl ?_
        refine g38 c_79_69 rfl ?_
        exact t
-- method 80: MillTown$Text.<init>()V
theorem c_80_0 : pg_cd 80 0 = (5, 1, 0, 0, 0) := by decide +kernel
theorem c_80_1 : pg_cd 80 1 = (61, 0, 3, 0, 0) := by decide +kernel
theorem c_80_4 : pg_cd 80 4 = (5, 1, 0, 0, 0) := by decide +kernel
theorem c_80_5 : pg_cd 80 5 = (60, 4, 9, 3, 0) := by decide +kernel
theorem c_80_8 : pg_cd 80 8 = (33, 1, 0, 0, 0) := by decide +kernel
theorem c_80_9 : pg_cd 80 9 = (1, 2, 0, 0, 24) := by decide +kernel
theorem c_80_11 : pg_cd 80 11 = (1, 2, 0, 0, 8) := by decide +kernel
theorem c_80_13 : pg_cd 80 13 = (80, 52, 11, 0, 0) := by decide +kernel
theorem c_80_16 : pg_cd 80 16 = (49, 7, 14, 0, 0) := by decide +kernel
theorem c_80_19 : pg_cd 80 19 = (5, 1, 0, 0, 0) := by decide +kernel
theorem c_80_20 : pg_cd 80 20 = (1, 3, 0, 0, 300) := by decide +kernel
theorem c_80_23 : pg_cd 80 23 = (59, 2, 0, 0, 0) := by decide +kernel
theorem c_80_25 : pg_cd 80 25 = (49, 7, 20, 1, 0) := by decide +kernel
theorem c_80_28 : pg_cd 80 28 = (94, 0, 0, 0, 0) := by decide +kernel
theorem mx_80 : pg_mx 80 = 1 := by decide +kernel
theorem m_80 {d : Nat} {h : ab_H} {Q : Option Value → ab_H → Prop} {x0 : Nat} (t : wq d 80 0 [.ref x0] [] h Q) : wm d 80 [.ref x0] h Q := by
  unfold wm
  rw [mx_80]
  exact t
set_option maxRecDepth 20000 in
theorem t_80_0 {d : Nat} {h : ab_H} {Q : Option Value → ab_H → Prop} {x0 : Nat} (t : ∀ h1 : ab_H, h1 = ab_new h 104 0 3 → ab_ok h1 (ab_n h) 104 = true ∧ wm d 52 [.ref ((ab_n h)), .int 24, .int 8] h1 (fun r9 h9 => wq (d + 1) 80 16 [.ref x0] (r9.toList ++ [.ref (ab_n h), .ref x0]) h9 Q)) : wq (d + 1) 80 0 [.ref x0] [] h Q := by
  refine g5 c_80_0 rfl ?_
  refine g61 c_80_1 (Nat.le_of_ble_eq_true rfl) ?_
  refine g5 c_80_4 rfl ?_
  refine g60 c_80_5 (fun h1 eh1 => ?_)
  have t := t h1 eh1
  refine g33a c_80_8 ?_
  refine g1 c_80_9 k_24 ?_
  refine g1 c_80_11 k_8 ?_
  exact g80 (As := [.int 24, .int 8]) (rest := [.ref (ab_n h), .ref x0]) c_80_13 rfl rfl (Nat.le_of_ble_eq_true rfl) (Nat.le_of_ble_eq_true rfl) t.1 t.2
set_option maxRecDepth 20000 in
theorem t_80_16 {d : Nat} {h : ab_H} {Q : Option Value → ab_H → Prop} {x0 : Nat} {s0 : Nat} {s1 : Nat} (t : ab_ok h s0 107 = true ∧ ∀ h1 : ab_H, h1 = ab_pr h s0 0 (some s1) → (¬ (300 : Int32) < 0 ∧ Int32.toNatClampNeg (300 : Int32) ≤ 1000000) ∧ ∀ h2 : ab_H, h2 = ab_new h1 0 (Int32.toNatClampNeg (300 : Int32)) (Int32.toNatClampNeg (300 : Int32)) → ab_ok h2 x0 107 = true ∧ ∀ h3 : ab_H, h3 = ab_pr h2 x0 1 (some (ab_n h1)) → Q none h3) : wq d 80 16 [.ref x0] [.ref s1, .ref s0] h Q := by
  obtain ⟨ho, t⟩ := t
  refine g49 c_80_16 ho (fun h1 eh1 => ?_)
  have t := t h1 eh1
  refine g5 c_80_19 rfl ?_
  refine g1 c_80_20 k_300 ?_
  obtain ⟨ho, t⟩ := t
  refine g59 c_80_23 ho (fun h2 eh2 => ?_)
  have t := t h2 eh2
  obtain ⟨ho, t⟩ := t
  refine g49 c_80_25 ho (fun h3 eh3 => ?_)
  have t := t h3 eh3
  exact g94 c_80_28 t
-- method 81: MillTown$Text.clear()V
theorem c_81_0 : pg_cd 81 0 = (5, 1, 0, 0, 0) := by decide +kernel
theorem c_81_1 : pg_cd 81 1 = (45, 7, 14, 0, 0) := by decide +kernel
theorem c_81_4 : pg_cd 81 4 = (1, 1, 0, 0, 0) := by decide +kernel
theorem c_81_5 : pg_cd 81 5 = (46, 4, 24, 2, 0) := by decide +kernel
theorem c_81_8 : pg_cd 81 8 = (5, 1, 0, 0, 0) := by decide +kernel
theorem c_81_9 : pg_cd 81 9 = (1, 1, 0, 0, 0) := by decide +kernel
theorem c_81_10 : pg_cd 81 10 = (46, 7, 28, 2, 0) := by decide +kernel
theorem c_81_13 : pg_cd 81 13 = (5, 1, 0, 0, 0) := by decide +kernel
theorem c_81_14 : pg_cd 81 14 = (1, 1, 0, 0, 0) := by decide +kernel
theorem c_81_15 : pg_cd 81 15 = (46, 7, 31, 3, 0) := by decide +kernel
theorem c_81_18 : pg_cd 81 18 = (94, 0, 0, 0, 0) := by decide +kernel
theorem mx_81 : pg_mx 81 = 1 := by decide +kernel
theorem m_81 {d : Nat} {h : ab_H} {Q : Option Value → ab_H → Prop} {x0 : Nat} (t : wq d 81 0 [.ref x0] [] h Q) : wm d 81 [.ref x0] h Q := by
  unfold wm
  rw [mx_81]
  exact t
set_option maxRecDepth 20000 in
theorem t_81_0 {d : Nat} {h : ab_H} {Q : Option Value → ab_H → Prop} {x0 : Nat} (t : ab_ok h x0 107 = true ∧ ∃ j1 : Nat, ab_r h x0 0 = some j1 ∧ ab_ok h j1 104 = true ∧ ∀ h2 : ab_H, h2 = ab_pi h j1 2 0 → ab_ok h2 x0 107 = true ∧ ∀ h3 : ab_H, h3 = ab_pi h2 x0 2 0 → ab_ok h3 x0 107 = true ∧ ∀ h4 : ab_H, h4 = ab_pi h3 x0 3 0 → Q none h4) : wq d 81 0 [.ref x0] [] h Q := by
  refine g5 c_81_0 rfl ?_
  obtain ⟨ho, j1, hr, t⟩ := t
  refine g45 c_81_1 ho hr ?_
  refine g1 c_81_4 k_0 ?_
  obtain ⟨ho, t⟩ := t
  refine g46 c_81_5 ho (fun h2 eh2 => ?_)
  have t := t h2 eh2
  refine g5 c_81_8 rfl ?_
  refine g1 c_81_9 k_0 ?_
  obtain ⟨ho, t⟩ := t
  refine g46 c_81_10 ho (fun h3 eh3 => ?_)
  have t := t h3 eh3
  refine g5 c_81_13 rfl ?_
  refine g1 c_81_14 k_0 ?_
  obtain ⟨ho, t⟩ := t
  refine g46 c_81_15 ho (fun h4 eh4 => ?_)
  have t := t h4 eh4
  exact g94 c_81_18 t
-- method 82: MillTown$Text.open(I)I
theorem c_82_0 : pg_cd 82 0 = (5, 1, 0, 0, 0) := by decide +kernel
theorem c_82_1 : pg_cd 82 1 = (45, 7, 14, 0, 0) := by decide +kernel
theorem c_82_4 : pg_cd 82 4 = (80, 54, 34, 0, 0) := by decide +kernel
theorem c_82_7 : pg_cd 82 7 = (6, 1, 0, 2, 0) := by decide +kernel
theorem c_82_8 : pg_cd 82 8 = (5, 1, 0, 0, 0) := by decide +kernel
theorem c_82_9 : pg_cd 82 9 = (45, 7, 14, 0, 0) := by decide +kernel
theorem c_82_12 : pg_cd 82 12 = (3, 1, 0, 2, 0) := by decide +kernel
theorem c_82_13 : pg_cd 82 13 = (1, 1, 0, 0, 0) := by decide +kernel
theorem c_82_14 : pg_cd 82 14 = (3, 1, 0, 1, 0) := by decide +kernel
theorem c_82_15 : pg_cd 82 15 = (80, 56, 38, 0, 0) := by decide +kernel
theorem c_82_18 : pg_cd 82 18 = (5, 1, 0, 0, 0) := by decide +kernel
theorem c_82_19 : pg_cd 82 19 = (33, 1, 0, 0, 0) := by decide +kernel
theorem c_82_20 : pg_cd 82 20 = (43, 7, 31, 3, 0) := by decide +kernel
theorem c_82_23 : pg_cd 82 23 = (1, 1, 0, 0, 1) := by decide +kernel
theorem c_82_24 : pg_cd 82 24 = (3, 1, 0, 1, 0) := by decide +kernel
theorem c_82_25 : pg_cd 82 25 = (18, 1, 0, 0, 0) := by decide +kernel
theorem c_82_26 : pg_cd 82 26 = (14, 1, 0, 0, 0) := by decide +kernel
theorem c_82_27 : pg_cd 82 27 = (46, 7, 31, 3, 0) := by decide +kernel
theorem c_82_30 : pg_cd 82 30 = (3, 1, 0, 2, 0) := by decide +kernel
theorem c_82_31 : pg_cd 82 31 = (90, 0, 0, 0, 0) := by decide +kernel
theorem mx_82 : pg_mx 82 = 3 := by decide +kernel
theorem m_82 {d : Nat} {h : ab_H} {Q : Option Value → ab_H → Prop} {x0 : Nat} {x1 : Int32} (t : wq d 82 0 [.ref x0, .int x1, .retAddr 0] [] h Q) : wm d 82 [.ref x0, .int x1] h Q := by
  unfold wm
  rw [mx_82]
  exact t
set_option maxRecDepth 20000 in
theorem t_82_0 {d : Nat} {h : ab_H} {Q : Option Value → ab_H → Prop} {x0 : Nat} {x1 : Int32} (t : ab_ok h x0 107 = true ∧ ∃ j1 : Nat, ab_r h x0 0 = some j1 ∧ ab_ok h j1 104 = true ∧ wm d 54 [.ref j1] h (fun r9 h9 => wq (d + 1) 82 7 [.ref x0, .int x1, .retAddr 0] (r9.toList ++ []) h9 Q)) : wq (d + 1) 82 0 [.ref x0, .int x1, .retAddr 0] [] h Q := by
  refine g5 c_82_0 rfl ?_
  obtain ⟨ho, j1, hr, t⟩ := t
  refine g45 c_82_1 ho hr ?_
  exact g80 (As := []) (rest := []) c_82_4 rfl rfl (Nat.le_of_ble_eq_true rfl) (Nat.le_of_ble_eq_true rfl) t.1 t.2
set_option maxRecDepth 20000 in
theorem t_82_7 {d : Nat} {h : ab_H} {Q : Option Value → ab_H → Prop} {x0 : Nat} {x1 : Int32} {s0 : Int32} (t : ab_ok h x0 107 = true ∧ ∃ j1 : Nat, ab_r h x0 0 = some j1 ∧ ab_ok h j1 104 = true ∧ wm d 56 [.ref j1, .int s0, .int 0, .int x1] h (fun r9 h9 => wq (d + 1) 82 18 [.ref x0, .int x1, .int s0] (r9.toList ++ []) h9 Q)) : wq (d + 1) 82 7 [.ref x0, .int x1, .retAddr 0] [.int s0] h Q := by
  refine g6 (L' := [.ref x0, .int x1, .int s0]) c_82_7 rfl ?_
  refine g5 c_82_8 rfl ?_
  obtain ⟨ho, j1, hr, t⟩ := t
  refine g45 c_82_9 ho hr ?_
  refine g3 c_82_12 rfl ?_
  refine g1 c_82_13 k_0 ?_
  refine g3 c_82_14 rfl ?_
  exact g80 (As := [.int s0, .int 0, .int x1]) (rest := []) c_82_15 rfl rfl (Nat.le_of_ble_eq_true rfl) (Nat.le_of_ble_eq_true rfl) t.1 t.2
set_option maxRecDepth 20000 in
theorem t_82_18 {d : Nat} {h : ab_H} {Q : Option Value → ab_H → Prop} {x0 : Nat} {x1 : Int32} {x2 : Int32} (t : ab_ok h x0 107 = true ∧ ab_ok h x0 107 = true ∧ ∀ h1 : ab_H, h1 = ab_pi h x0 3 ((ab_i h x0 3) ||| (1 <<< (x1 &&& 31))) → Q (some (.int x2)) h1) : wq d 82 18 [.ref x0, .int x1, .int x2] [] h Q := by
  refine g5 c_82_18 rfl ?_
  refine g33a c_82_19 ?_
  obtain ⟨ho, t⟩ := t
  refine g43 c_82_20 ho ?_
  refine g1 c_82_23 k_1 ?_
  refine g3 c_82_24 rfl ?_
  refine g18 c_82_25 ?_
  refine g14 c_82_26 ?_
  obtain ⟨ho, t⟩ := t
  refine g46 c_82_27 ho (fun h1 eh1 => ?_)
  have t := t h1 eh1
  refine g3 c_82_30 rfl ?_
  exact g90 c_82_31 t
-- method 83: MillTown$Text.hasSort(I)Z
theorem c_83_0 : pg_cd 83 0 = (5, 1, 0, 0, 0) := by decide +kernel
theorem c_83_1 : pg_cd 83 1 = (43, 7, 31, 3, 0) := by decide +kernel
theorem c_83_4 : pg_cd 83 4 = (3, 1, 0, 1, 0) := by decide +kernel
theorem c_83_5 : pg_cd 83 5 = (20, 1, 0, 0, 0) := by decide +kernel
theorem c_83_6 : pg_cd 83 6 = (1, 1, 0, 0, 1) := by decide +kernel
theorem c_83_7 : pg_cd 83 7 = (13, 1, 0, 0, 0) := by decide +kernel
theorem c_83_8 : pg_cd 83 8 = (36, 3, 0, 0, 7) := by decide +kernel
theorem c_83_11 : pg_cd 83 11 = (1, 1, 0, 0, 1) := by decide +kernel
theorem c_83_12 : pg_cd 83 12 = (38, 3, 0, 0, 4) := by decide +kernel
theorem c_83_15 : pg_cd 83 15 = (1, 1, 0, 0, 0) := by decide +kernel
theorem c_83_16 : pg_cd 83 16 = (91, 0, 0, 0, 0) := by decide +kernel
theorem mx_83 : pg_mx 83 = 2 := by decide +kernel
theorem m_83 {d : Nat} {h : ab_H} {Q : Option Value → ab_H → Prop} {x0 : Nat} {x1 : Int32} (t : wq d 83 0 [.ref x0, .int x1] [] h Q) : wm d 83 [.ref x0, .int x1] h Q := by
  unfold wm
  rw [mx_83]
  exact t
set_option maxRecDepth 20000 in
theorem t_83_0 {d : Nat} {h : ab_H} {Q : Option Value → ab_H → Prop} {x0 : Nat} {x1 : Int32} (t : ab_ok h x0 107 = true ∧ if (((Int32.toUInt32 (ab_i h x0 3) >>> (Int32.toUInt32 x1 &&& Int32.toUInt32 31)).toInt32) &&& 1) = 0 then (Q (some (.int 0)) h) else (Q (some (.int 1)) h)) : wq d 83 0 [.ref x0, .int x1] [] h Q := by
  refine g5 c_83_0 rfl ?_
  obtain ⟨ho, t⟩ := t
  refine g43 c_83_1 ho ?_
  refine g3 c_83_4 rfl ?_
  refine g20 c_83_5 ?_
  refine g1 c_83_6 k_1 ?_
  refine g13 c_83_7 ?_
  refine gif c_83_8 (gbr t rfl rfl (fun hc t => ?_) (fun hc t => ?_))
  · refine g1 c_83_15 k_0 ?_
    exact g91 c_83_16 ⟨by decide, t⟩
  · refine g1 c_83_11 k_1 ?_
    refine g38 c_83_12 rfl ?_
    exact g91 c_83_16 ⟨by decide, t⟩
-- method 84: MillTown$Text.addStep(II)V
theorem c_84_0 : pg_cd 84 0 = (5, 1, 0, 0, 0) := by decide +kernel
theorem c_84_1 : pg_cd 84 1 = (43, 7, 28, 2, 0) := by decide +kernel
theorem c_84_4 : pg_cd 84 4 = (5, 1, 0, 0, 0) := by decide +kernel
theorem c_84_5 : pg_cd 84 5 = (45, 7, 20, 1, 0) := by decide +kernel
theorem c_84_8 : pg_cd 84 8 = (58, 0, 0, 0, 0) := by decide +kernel
theorem c_84_9 : pg_cd 84 9 = (37, 3, 0, 3, 29) := by decide +kernel
theorem c_84_12 : pg_cd 84 12 = (5, 1, 0, 0, 0) := by decide +kernel
theorem c_84_13 : pg_cd 84 13 = (45, 7, 20, 1, 0) := by decide +kernel
theorem c_84_16 : pg_cd 84 16 = (5, 1, 0, 0, 0) := by decide +kernel
theorem c_84_17 : pg_cd 84 17 = (43, 7, 28, 2, 0) := by decide +kernel
theorem c_84_20 : pg_cd 84 20 = (3, 1, 0, 1, 0) := by decide +kernel
theorem c_84_21 : pg_cd 84 21 = (1, 3, 0, 0, 10000) := by decide +kernel
theorem c_84_24 : pg_cd 84 24 = (12, 1, 0, 0, 0) := by decide +kernel
theorem c_84_25 : pg_cd 84 25 = (3, 1, 0, 2, 0) := by decide +kernel
theorem c_84_26 : pg_cd 84 26 = (10, 1, 0, 0, 0) := by decide +kernel
theorem c_84_27 : pg_cd 84 27 = (54, 1, 0, 0, 0) := by decide +kernel
theorem c_84_28 : pg_cd 84 28 = (5, 1, 0, 0, 0) := by decide +kernel
theorem c_84_29 : pg_cd 84 29 = (33, 1, 0, 0, 0) := by decide +kernel
theorem c_84_30 : pg_cd 84 30 = (43, 7, 28, 2, 0) := by decide +kernel
theorem c_84_33 : pg_cd 84 33 = (1, 1, 0, 0, 1) := by decide +kernel
theorem c_84_34 : pg_cd 84 34 = (10, 1, 0, 0, 0) := by decide +kernel
theorem c_84_35 : pg_cd 84 35 = (46, 7, 28, 2, 0) := by decide +kernel
theorem c_84_38 : pg_cd 84 38 = (94, 0, 0, 0, 0) := by decide +kernel
theorem mx_84 : pg_mx 84 = 3 := by decide +kernel
theorem m_84 {d : Nat} {h : ab_H} {Q : Option Value → ab_H → Prop} {x0 : Nat} {x1 : Int32} {x2 : Int32} (t : wq d 84 0 [.ref x0, .int x1, .int x2] [] h Q) : wm d 84 [.ref x0, .int x1, .int x2] h Q := by
  unfold wm
  rw [mx_84]
  exact t
set_option maxRecDepth 20000 in
theorem t_84_0 {d : Nat} {h : ab_H} {Q : Option Value → ab_H → Prop} {x0 : Nat} {x1 : Int32} {x2 : Int32} (t : ab_ok h x0 107 = true ∧ ab_ok h x0 107 = true ∧ ∃ j1 : Nat, ab_r h x0 1 = some j1 ∧ ((j1 = 0 ∧ 0 = 0) ∨ ab_ok h j1 0 = true) ∧ if (Int32.ofNat (ab_s h j1).2) ≤ (ab_i h x0 2) then (Q none h) else (ab_ok h x0 107 = true ∧ ∃ j2 : Nat, ab_r h x0 1 = some j2 ∧ ab_ok h x0 107 = true ∧ (ab_ok h j2 0 = true ∧ ab_in (ab_i h x0 2) (ab_s h j2).2 = true) ∧ ∀ h3 : ab_H, h3 = ab_pi h j2 (Int32.toNatClampNeg (ab_i h x0 2)) ((x1 * 10000) + x2) → ab_ok h3 x0 107 = true ∧ ab_ok h3 x0 107 = true ∧ ∀ h4 : ab_H, h4 = ab_pi h3 x0 2 ((ab_i h3 x0 2) + 1) → Q none h4)) : wq d 84 0 [.ref x0, .int x1, .int x2] [] h Q := by
  refine g5 c_84_0 rfl ?_
  obtain ⟨ho, t⟩ := t
  refine g43 c_84_1 ho ?_
  refine g5 c_84_4 rfl ?_
  obtain ⟨ho, j1, hr, t⟩ := t
  refine g45 c_84_5 ho hr ?_
  obtain ⟨ho, t⟩ := t
  refine g58 c_84_8 ho ?_
  refine gcm c_84_9 (gbr t rfl rfl (fun hc t => ?_) (fun hc t => ?_))
  · exact g94 c_84_38 t
  · refine g5 c_84_12 rfl ?_
    obtain ⟨ho, j2, hr, t⟩ := t
    refine g45 c_84_13 ho hr ?_
    refine g5 c_84_16 rfl ?_
    obtain ⟨ho, t⟩ := t
    refine g43 c_84_17 ho ?_
    refine g3 c_84_20 rfl ?_
    refine g1 c_84_21 k_10000 ?_
    refine g12 c_84_24 ?_
    refine g3 c_84_25 rfl ?_
    refine g10 c_84_26 ?_
    obtain ⟨ho, t⟩ := t
    refine g54 c_84_27 ho (fun h3 eh3 => ?_)
    have t := t h3 eh3
    refine g5 c_84_28 rfl ?_
    refine g33a c_84_29 ?_
    obtain ⟨ho, t⟩ := t
    refine g43 c_84_30 ho ?_
    refine g1 c_84_33 k_1 ?_
    refine g10 c_84_34 ?_
    obtain ⟨ho, t⟩ := t
    refine g46 c_84_35 ho (fun h4 eh4 => ?_)
    have t := t h4 eh4
    exact g94 c_84_38 t
-- method 85: MillTown$Text.greatest(I)I
theorem c_85_0 : pg_cd 85 0 = (1, 1, 0, 0, 0) := by decide +kernel
theorem c_85_1 : pg_cd 85 1 = (6, 1, 0, 2, 0) := by decide +kernel
theorem c_85_2 : pg_cd 85 2 = (1, 1, 0, 0, 0) := by decide +kernel
theorem c_85_3 : pg_cd 85 3 = (6, 1, 0, 3, 0) := by decide +kernel
theorem c_85_4 : pg_cd 85 4 = (3, 1, 0, 3, 0) := by decide +kernel
theorem c_85_5 : pg_cd 85 5 = (5, 1, 0, 0, 0) := by decide +kernel
theorem c_85_6 : pg_cd 85 6 = (45, 7, 14, 0, 0) := by decide +kernel
theorem c_85_9 : pg_cd 85 9 = (43, 4, 24, 2, 0) := by decide +kernel
theorem c_85_12 : pg_cd 85 12 = (37, 3, 0, 3, 36) := by decide +kernel
theorem c_85_15 : pg_cd 85 15 = (5, 1, 0, 0, 0) := by decide +kernel
theorem c_85_16 : pg_cd 85 16 = (45, 7, 14, 0, 0) := by decide +kernel
theorem c_85_19 : pg_cd 85 19 = (3, 1, 0, 3, 0) := by decide +kernel
theorem c_85_20 : pg_cd 85 20 = (1, 1, 0, 0, 0) := by decide +kernel
theorem c_85_21 : pg_cd 85 21 = (80, 55, 42, 0, 0) := by decide +kernel
theorem c_85_24 : pg_cd 85 24 = (3, 1, 0, 1, 0) := by decide +kernel
theorem c_85_25 : pg_cd 85 25 = (37, 3, 0, 1, 17) := by decide +kernel
theorem c_85_28 : pg_cd 85 28 = (3, 1, 0, 2, 0) := by decide +kernel
theorem c_85_29 : pg_cd 85 29 = (5, 1, 0, 0, 0) := by decide +kernel
theorem c_85_30 : pg_cd 85 30 = (45, 7, 14, 0, 0) := by decide +kernel
theorem c_85_33 : pg_cd 85 33 = (3, 1, 0, 3, 0) := by decide +kernel
theorem c_85_34 : pg_cd 85 34 = (1, 1, 0, 0, 1) := by decide +kernel
theorem c_85_35 : pg_cd 85 35 = (80, 55, 42, 0, 0) := by decide +kernel
theorem c_85_38 : pg_cd 85 38 = (73, 0, 46, 0, 0) := by decide +kernel
theorem c_85_41 : pg_cd 85 41 = (6, 1, 0, 2, 0) := by decide +kernel
theorem c_85_42 : pg_cd 85 42 = (9, 3, 0, 3, 1) := by decide +kernel
theorem c_85_45 : pg_cd 85 45 = (38, 3, 0, 0, (-41)) := by decide +kernel
theorem c_85_48 : pg_cd 85 48 = (3, 1, 0, 2, 0) := by decide +kernel
theorem c_85_49 : pg_cd 85 49 = (90, 0, 0, 0, 0) := by decide +kernel
theorem mx_85 : pg_mx 85 = 4 := by decide +kernel
theorem m_85 {d : Nat} {h : ab_H} {Q : Option Value → ab_H → Prop} {x0 : Nat} {x1 : Int32} (t : wq d 85 0 [.ref x0, .int x1, .retAddr 0, .retAddr 0] [] h Q) : wm d 85 [.ref x0, .int x1] h Q := by
  unfold wm
  rw [mx_85]
  exact t
set_option maxRecDepth 20000 in
theorem t_85_0 {d : Nat} {h : ab_H} {Q : Option Value → ab_H → Prop} {x0 : Nat} {x1 : Int32} (t : wq d 85 4 [.ref x0, .int x1, .int 0, .int 0] [] h Q) : wq d 85 0 [.ref x0, .int x1, .retAddr 0, .retAddr 0] [] h Q := by
  refine g1 c_85_0 k_0 ?_
  refine g6 (L' := [.ref x0, .int x1, .int 0, .retAddr 0]) c_85_1 rfl ?_
  refine g1 c_85_2 k_0 ?_
  refine g6 (L' := [.ref x0, .int x1, .int 0, .int 0]) c_85_3 rfl ?_
  exact t
set_option maxRecDepth 20000 in
theorem t_85_4 {d : Nat} {h : ab_H} {Q : Option Value → ab_H → Prop} {x0 : Nat} {x1 : Int32} {x2 : Int32} {x3 : Int32} (t : ab_ok h x0 107 = true ∧ ∃ j1 : Nat, ab_r h x0 0 = some j1 ∧ ab_ok h j1 104 = true ∧ if (ab_i h j1 2) ≤ x3 then (Q (some (.int x2)) h) else (ab_ok h x0 107 = true ∧ ∃ j2 : Nat, ab_r h x0 0 = some j2 ∧ ab_ok h j2 104 = true ∧ wm d 55 [.ref j2, .int x3, .int 0] h (fun r9 h9 => wq (d + 1) 85 24 [.ref x0, .int x1, .int x2, .int x3] (r9.toList ++ []) h9 Q))) : wq (d + 1) 85 4 [.ref x0, .int x1, .int x2, .int x3] [] h Q := by
  refine g3 c_85_4 rfl ?_
  refine g5 c_85_5 rfl ?_
  obtain ⟨ho, j1, hr, t⟩ := t
  refine g45 c_85_6 ho hr ?_
  obtain ⟨ho, t⟩ := t
  refine g43 c_85_9 ho ?_
  refine gcm c_85_12 (gbr t rfl rfl (fun hc t => ?_) (fun hc t => ?_))
  · refine g3 c_85_48 rfl ?_
    exact g90 c_85_49 t
  · refine g5 c_85_15 rfl ?_
    obtain ⟨ho, j2, hr, t⟩ := t
    refine g45 c_85_16 ho hr ?_
    refine g3 c_85_19 rfl ?_
    refine g1 c_85_20 k_0 ?_
    exact g80 (As := [.int x3, .int 0]) (rest := []) c_85_21 rfl rfl (Nat.le_of_ble_eq_true rfl) (Nat.le_of_ble_eq_true rfl) t.1 t.2
set_option maxRecDepth 20000 in
theorem t_85_24 {d : Nat} {h : ab_H} {Q : Option Value → ab_H → Prop} {x0 : Nat} {x1 : Int32} {x2 : Int32} {x3 : Int32} {s0 : Int32} (t : if s0 = x1 then (ab_ok h x0 107 = true ∧ ∃ j1 : Nat, ab_r h x0 0 = some j1 ∧ ab_ok h j1 104 = true ∧ wm d 55 [.ref j1, .int x3, .int 1] h (fun r9 h9 => wq (d + 1) 85 38 [.ref x0, .int x1, .int x2, .int x3] (r9.toList ++ [.int x2]) h9 Q)) else (wq (d + 1) 85 4 [.ref x0, .int x1, .int x2, .int (x3 + 1)] [] h Q)) : wq (d + 1) 85 24 [.ref x0, .int x1, .int x2, .int x3] [.int s0] h Q := by
  refine g3 c_85_24 rfl ?_
  refine gcm c_85_25 (gbn t (ab_c1 _ _) rfl (fun hc t => ?_) (fun hc t => ?_))
  · refine g3 c_85_28 rfl ?_
    refine g5 c_85_29 rfl ?_
    obtain ⟨ho, j1, hr, t⟩ := t
    refine g45 c_85_30 ho hr ?_
    refine g3 c_85_33 rfl ?_
    refine g1 c_85_34 k_1 ?_
    exact g80 (As := [.int x3, .int 1]) (rest := [.int x2]) c_85_35 rfl rfl (Nat.le_of_ble_eq_true rfl) (Nat.le_of_ble_eq_true rfl) t.1 t.2
  · refine g9 (L' := [.ref x0, .int x1, .int x2, .int (x3 + 1)]) c_85_42 rfl k_1 rfl ?_
    refine g38 c_85_45 rfl ?_
    exact t
set_option maxRecDepth 20000 in
theorem t_85_38 {d : Nat} {h : ab_H} {Q : Option Value → ab_H → Prop} {x0 : Nat} {x1 : Int32} {x2 : Int32} {x3 : Int32} {s0 : Int32} {s1 : Int32} (t : 7 ≤ d ∧ wq d 85 4 [.ref x0, .int x1, .int (if s0 < s1 then s1 else s0), .int (x3 + 1)] [] h Q) : wq d 85 38 [.ref x0, .int x1, .int x2, .int x3] [.int s1, .int s0] h Q := by
  obtain ⟨h7, t⟩ := t
  refine g73 c_85_38 (Nat.le_of_ble_eq_true rfl) h7 ?_
  refine g6 (L' := [.ref x0, .int x1, .int (if s0 < s1 then s1 else s0), .int x3]) c_85_41 rfl ?_
  refine g9 (L' := [.ref x0, .int x1, .int (if s0 < s1 then s1 else s0), .int (x3 + 1)]) c_85_42 rfl k_1 rfl ?_
  refine g38 c_85_45 rfl ?_
  exact t
-- method 86: MillTown$Town.<init>()V
theorem c_86_0 : pg_cd 86 0 = (5, 1, 0, 0, 0) := by decide +kernel
theorem c_86_1 : pg_cd 86 1 = (61, 0, 3, 0, 0) := by decide +kernel
theorem c_86_4 : pg_cd 86 4 = (5, 1, 0, 0, 0) := by decide +kernel
theorem c_86_5 : pg_cd 86 5 = (60, 4, 9, 3, 0) := by decide +kernel
theorem c_86_8 : pg_cd 86 8 = (33, 1, 0, 0, 0) := by decide +kernel
theorem c_86_9 : pg_cd 86 9 = (1, 2, 0, 0, 6) := by decide +kernel
theorem c_86_11 : pg_cd 86 11 = (1, 2, 0, 0, 6) := by decide +kernel
theorem c_86_13 : pg_cd 86 13 = (80, 52, 11, 0, 0) := by decide +kernel
theorem c_86_16 : pg_cd 86 16 = (49, 8, 14, 0, 0) := by decide +kernel
theorem c_86_19 : pg_cd 86 19 = (5, 1, 0, 0, 0) := by decide +kernel
theorem c_86_20 : pg_cd 86 20 = (60, 4, 9, 3, 0) := by decide +kernel
theorem c_86_23 : pg_cd 86 23 = (33, 1, 0, 0, 0) := by decide +kernel
theorem c_86_24 : pg_cd 86 24 = (1, 2, 0, 0, 8) := by decide +kernel
theorem c_86_26 : pg_cd 86 26 = (1, 3, 0, 0, 401) := by decide +kernel
theorem c_86_29 : pg_cd 86 29 = (80, 52, 11, 0, 0) := by decide +kernel
theorem c_86_32 : pg_cd 86 32 = (49, 8, 20, 1, 0) := by decide +kernel
theorem c_86_35 : pg_cd 86 35 = (5, 1, 0, 0, 0) := by decide +kernel
theorem c_86_36 : pg_cd 86 36 = (60, 4, 9, 3, 0) := by decide +kernel
theorem c_86_39 : pg_cd 86 39 = (33, 1, 0, 0, 0) := by decide +kernel
theorem c_86_40 : pg_cd 86 40 = (1, 2, 0, 0, 8) := by decide +kernel
theorem c_86_42 : pg_cd 86 42 = (1, 2, 0, 0, 13) := by decide +kernel
theorem c_86_44 : pg_cd 86 44 = (80, 52, 11, 0, 0) := by decide +kernel
theorem c_86_47 : pg_cd 86 47 = (49, 8, 23, 2, 0) := by decide +kernel
theorem c_86_50 : pg_cd 86 50 = (5, 1, 0, 0, 0) := by decide +kernel
theorem c_86_51 : pg_cd 86 51 = (60, 4, 9, 3, 0) := by decide +kernel
theorem c_86_54 : pg_cd 86 54 = (33, 1, 0, 0, 0) := by decide +kernel
theorem c_86_55 : pg_cd 86 55 = (1, 1, 0, 0, 4) := by decide +kernel
theorem c_86_56 : pg_cd 86 56 = (1, 1, 0, 0, 5) := by decide +kernel
theorem c_86_57 : pg_cd 86 57 = (80, 52, 11, 0, 0) := by decide +kernel
theorem c_86_60 : pg_cd 86 60 = (49, 8, 26, 3, 0) := by decide +kernel
theorem c_86_63 : pg_cd 86 63 = (5, 1, 0, 0, 0) := by decide +kernel
theorem c_86_64 : pg_cd 86 64 = (60, 4, 9, 3, 0) := by decide +kernel
theorem c_86_67 : pg_cd 86 67 = (33, 1, 0, 0, 0) := by decide +kernel
theorem c_86_68 : pg_cd 86 68 = (1, 2, 0, 0, 24) := by decide +kernel
theorem c_86_70 : pg_cd 86 70 = (1, 2, 0, 0, 8) := by decide +kernel
theorem c_86_72 : pg_cd 86 72 = (80, 52, 11, 0, 0) := by decide +kernel
theorem c_86_75 : pg_cd 86 75 = (49, 8, 29, 4, 0) := by decide +kernel
theorem c_86_78 : pg_cd 86 78 = (5, 1, 0, 0, 0) := by decide +kernel
theorem c_86_79 : pg_cd 86 79 = (60, 4, 9, 3, 0) := by decide +kernel
theorem c_86_82 : pg_cd 86 82 = (33, 1, 0, 0, 0) := by decide +kernel
theorem c_86_83 : pg_cd 86 83 = (1, 2, 0, 0, 60) := by decide +kernel
theorem c_86_85 : pg_cd 86 85 = (1, 2, 0, 0, 9) := by decide +kernel
theorem c_86_87 : pg_cd 86 87 = (80, 52, 11, 0, 0) := by decide +kernel
theorem c_86_90 : pg_cd 86 90 = (49, 8, 32, 5, 0) := by decide +kernel
theorem c_86_93 : pg_cd 86 93 = (5, 1, 0, 0, 0) := by decide +kernel
theorem c_86_94 : pg_cd 86 94 = (60, 4, 9, 3, 0) := by decide +kernel
theorem c_86_97 : pg_cd 86 97 = (33, 1, 0, 0, 0) := by decide +kernel
theorem c_86_98 : pg_cd 86 98 = (1, 2, 0, 0, 80) := by decide +kernel
theorem c_86_100 : pg_cd 86 100 = (1, 2, 0, 0, 6) := by decide +kernel
theorem c_86_102 : pg_cd 86 102 = (80, 52, 11, 0, 0) := by decide +kernel
theorem c_86_105 : pg_cd 86 105 = (49, 8, 35, 6, 0) := by decide +kernel
theorem c_86_108 : pg_cd 86 108 = (5, 1, 0, 0, 0) := by decide +kernel
theorem c_86_109 : pg_cd 86 109 = (60, 4, 9, 3, 0) := by decide +kernel
theorem c_86_112 : pg_cd 86 112 = (33, 1, 0, 0, 0) := by decide +kernel
theorem c_86_113 : pg_cd 86 113 = (1, 2, 0, 0, 61) := by decide +kernel
theorem c_86_115 : pg_cd 86 115 = (1, 1, 0, 0, 5) := by decide +kernel
theorem c_86_116 : pg_cd 86 116 = (80, 52, 11, 0, 0) := by decide +kernel
theorem c_86_119 : pg_cd 86 119 = (49, 8, 38, 7, 0) := by decide +kernel
theorem c_86_122 : pg_cd 86 122 = (5, 1, 0, 0, 0) := by decide +kernel
theorem c_86_123 : pg_cd 86 123 = (1, 2, 41, 0, 100000) := by decide +kernel
theorem c_86_125 : pg_cd 86 125 = (46, 8, 42, 12, 0) := by decide +kernel
theorem c_86_128 : pg_cd 86 128 = (5, 1, 0, 0, 0) := by decide +kernel
theorem c_86_129 : pg_cd 86 129 = (1, 1, 0, 0, (-1)) := by decide +kernel
theorem c_86_130 : pg_cd 86 130 = (46, 8, 46, 16, 0) := by decide +kernel
theorem c_86_133 : pg_cd 86 133 = (5, 1, 0, 0, 0) := by decide +kernel
theorem c_86_134 : pg_cd 86 134 = (1, 1, 0, 0, (-1)) := by decide +kernel
theorem c_86_135 : pg_cd 86 135 = (46, 8, 49, 17, 0) := by decide +kernel
theorem c_86_138 : pg_cd 86 138 = (1, 1, 0, 0, 0) := by decide +kernel
theorem c_86_139 : pg_cd 86 139 = (6, 1, 0, 1, 0) := by decide +kernel
theorem c_86_140 : pg_cd 86 140 = (3, 1, 0, 1, 0) := by decide +kernel
theorem c_86_141 : pg_cd 86 141 = (1, 2, 0, 0, 6) := by decide +kernel
theorem c_86_143 : pg_cd 86 143 = (37, 3, 0, 3, 40) := by decide +kernel
theorem c_86_146 : pg_cd 86 146 = (5, 1, 0, 0, 0) := by decide +kernel
theorem c_86_147 : pg_cd 86 147 = (45, 8, 14, 0, 0) := by decide +kernel
theorem c_86_150 : pg_cd 86 150 = (80, 54, 52, 0, 0) := by decide +kernel
theorem c_86_153 : pg_cd 86 153 = (35, 1, 0, 0, 0) := by decide +kernel
theorem c_86_154 : pg_cd 86 154 = (5, 1, 0, 0, 0) := by decide +kernel
theorem c_86_155 : pg_cd 86 155 = (3, 1, 0, 1, 0) := by decide +kernel
theorem c_86_156 : pg_cd 86 156 = (1, 2, 0, 0, 60) := by decide +kernel
theorem c_86_158 : pg_cd 86 158 = (1, 2, 0, 0, 30) := by decide +kernel
theorem c_86_160 : pg_cd 86 160 = (1, 2, 0, 0, 10) := by decide +kernel
theorem c_86_162 : pg_cd 86 162 = (1, 1, 0, 0, 0) := by decide +kernel
theorem c_86_163 : pg_cd 86 163 = (1, 1, 0, 0, 0) := by decide +kernel
theorem c_86_164 : pg_cd 86 164 = (80, 88, 56, 0, 0) := by decide +kernel
theorem c_86_167 : pg_cd 86 167 = (5, 1, 0, 0, 0) := by decide +kernel
theorem c_86_168 : pg_cd 86 168 = (45, 8, 14, 0, 0) := by decide +kernel
theorem c_86_171 : pg_cd 86 171 = (3, 1, 0, 1, 0) := by decide +kernel
theorem c_86_172 : pg_cd 86 172 = (1, 1, 0, 0, 5) := by decide +kernel
theorem c_86_173 : pg_cd 86 173 = (1, 1, 0, 0, (-1)) := by decide +kernel
theorem c_86_174 : pg_cd 86 174 = (80, 56, 60, 0, 0) := by decide +kernel
theorem c_86_177 : pg_cd 86 177 = (9, 3, 0, 1, 1) := by decide +kernel
theorem c_86_180 : pg_cd 86 180 = (38, 3, 0, 0, (-40)) := by decide +kernel
theorem c_86_183 : pg_cd 86 183 = (1, 1, 0, 0, 0) := by decide +kernel
theorem c_86_184 : pg_cd 86 184 = (6, 1, 0, 1, 0) := by decide +kernel
theorem c_86_185 : pg_cd 86 185 = (3, 1, 0, 1, 0) := by decide +kernel
theorem c_86_186 : pg_cd 86 186 = (1, 2, 0, 0, 8) := by decide +kernel
theorem c_86_188 : pg_cd 86 188 = (37, 3, 0, 3, 30) := by decide +kernel
theorem c_86_191 : pg_cd 86 191 = (5, 1, 0, 0, 0) := by decide +kernel
theorem c_86_192 : pg_cd 86 192 = (45, 8, 20, 1, 0) := by decide +kernel
theorem c_86_195 : pg_cd 86 195 = (80, 54, 52, 0, 0) := by decide +kernel
theorem c_86_198 : pg_cd 86 198 = (35, 1, 0, 0, 0) := by decide +kernel
theorem c_86_199 : pg_cd 86 199 = (5, 1, 0, 0, 0) := by decide +kernel
theorem c_86_200 : pg_cd 86 200 = (45, 8, 20, 1, 0) := by decide +kernel
theorem c_86_203 : pg_cd 86 203 = (3, 1, 0, 1, 0) := by decide +kernel
theorem c_86_204 : pg_cd 86 204 = (1, 3, 0, 0, 400) := by decide +kernel
theorem c_86_207 : pg_cd 86 207 = (1, 2, 0, 0, 60) := by decide +kernel
theorem c_86_209 : pg_cd 86 209 = (80, 56, 60, 0, 0) := by decide +kernel
theorem c_86_212 : pg_cd 86 212 = (9, 3, 0, 1, 1) := by decide +kernel
theorem c_86_215 : pg_cd 86 215 = (38, 3, 0, 0, (-30)) := by decide +kernel
theorem c_86_218 : pg_cd 86 218 = (5, 1, 0, 0, 0) := by decide +kernel
theorem c_86_219 : pg_cd 86 219 = (45, 8, 20, 1, 0) := by decide +kernel
theorem c_86_222 : pg_cd 86 222 = (1, 1, 0, 0, 0) := by decide +kernel
theorem c_86_223 : pg_cd 86 223 = (1, 3, 0, 0, 400) := by decide +kernel
theorem c_86_226 : pg_cd 86 226 = (1, 3, 0, 0, 1000) := by decide +kernel
theorem c_86_229 : pg_cd 86 229 = (80, 56, 60, 0, 0) := by decide +kernel
theorem c_86_232 : pg_cd 86 232 = (5, 1, 0, 0, 0) := by decide +kernel
theorem c_86_233 : pg_cd 86 233 = (45, 8, 20, 1, 0) := by decide +kernel
theorem c_86_236 : pg_cd 86 236 = (1, 1, 0, 0, 1) := by decide +kernel
theorem c_86_237 : pg_cd 86 237 = (1, 3, 0, 0, 400) := by decide +kernel
theorem c_86_240 : pg_cd 86 240 = (1, 2, 0, 0, 6) := by decide +kernel
theorem c_86_242 : pg_cd 86 242 = (80, 56, 60, 0, 0) := by decide +kernel
theorem c_86_245 : pg_cd 86 245 = (94, 0, 0, 0, 0) := by decide +kernel
theorem mx_86 : pg_mx 86 = 2 := by decide +kernel
theorem m_86 {d : Nat} {h : ab_H} {Q : Option Value → ab_H → Prop} {x0 : Nat} (t : wq d 86 0 [.ref x0, .retAddr 0] [] h Q) : wm d 86 [.ref x0] h Q := by
  unfold wm
  rw [mx_86]
  exact t
set_option maxRecDepth 20000 in
theorem t_86_0 {d : Nat} {h : ab_H} {Q : Option Value → ab_H → Prop} {x0 : Nat} (t : ∀ h1 : ab_H, h1 = ab_new h 104 0 3 → ab_ok h1 (ab_n h) 104 = true ∧ wm d 52 [.ref ((ab_n h)), .int 6, .int 6] h1 (fun r9 h9 => wq (d + 1) 86 16 [.ref x0, .retAddr 0] (r9.toList ++ [.ref (ab_n h), .ref x0]) h9 Q)) : wq (d + 1) 86 0 [.ref x0, .retAddr 0] [] h Q := by
  refine g5 c_86_0 rfl ?_
  refine g61 c_86_1 (Nat.le_of_ble_eq_true rfl) ?_
  refine g5 c_86_4 rfl ?_
  refine g60 c_86_5 (fun h1 eh1 => ?_)
  have t := t h1 eh1
  refine g33a c_86_8 ?_
  refine g1 c_86_9 k_6 ?_
  refine g1 c_86_11 k_6 ?_
  exact g80 (As := [.int 6, .int 6]) (rest := [.ref (ab_n h), .ref x0]) c_86_13 rfl rfl (Nat.le_of_ble_eq_true rfl) (Nat.le_of_ble_eq_true rfl) t.1 t.2
set_option maxRecDepth 20000 in
theorem t_86_16 {d : Nat} {h : ab_H} {Q : Option Value → ab_H → Prop} {x0 : Nat} {s0 : Nat} {s1 : Nat} (t : ab_ok h s0 108 = true ∧ ∀ h1 : ab_H, h1 = ab_pr h s0 0 (some s1) → ∀ h2 : ab_H, h2 = ab_new h1 104 0 3 → ab_ok h2 (ab_n h1) 104 = true ∧ wm d 52 [.ref ((ab_n h1)), .int 8, .int 401] h2 (fun r9 h9 => wq (d + 1) 86 32 [.ref x0, .retAddr 0] (r9.toList ++ [.ref (ab_n h1), .ref x0]) h9 Q)) : wq (d + 1) 86 16 [.ref x0, .retAddr 0] [.ref s1, .ref s0] h Q := by
  obtain ⟨ho, t⟩ := t
  refine g49 c_86_16 ho (fun h1 eh1 => ?_)
  have t := t h1 eh1
  refine g5 c_86_19 rfl ?_
  refine g60 c_86_20 (fun h2 eh2 => ?_)
  have t := t h2 eh2
  refine g33a c_86_23 ?_
  refine g1 c_86_24 k_8 ?_
  refine g1 c_86_26 k_401 ?_
  exact g80 (As := [.int 8, .int 401]) (rest := [.ref (ab_n h1), .ref x0]) c_86_29 rfl rfl (Nat.le_of_ble_eq_true rfl) (Nat.le_of_ble_eq_true rfl) t.1 t.2
set_option maxRecDepth 20000 in
theorem t_86_32 {d : Nat} {h : ab_H} {Q : Option Value → ab_H → Prop} {x0 : Nat} {s0 : Nat} {s1 : Nat} (t : ab_ok h s0 108 = true ∧ ∀ h1 : ab_H, h1 = ab_pr h s0 1 (some s1) → ∀ h2 : ab_H, h2 = ab_new h1 104 0 3 → ab_ok h2 (ab_n h1) 104 = true ∧ wm d 52 [.ref ((ab_n h1)), .int 8, .int 13] h2 (fun r9 h9 => wq (d + 1) 86 47 [.ref x0, .retAddr 0] (r9.toList ++ [.ref (ab_n h1), .ref x0]) h9 Q)) : wq (d + 1) 86 32 [.ref x0, .retAddr 0] [.ref s1, .ref s0] h Q := by
  obtain ⟨ho, t⟩ := t
  refine g49 c_86_32 ho (fun h1 eh1 => ?_)
  have t := t h1 eh1
  refine g5 c_86_35 rfl ?_
  refine g60 c_86_36 (fun h2 eh2 => ?_)
  have t := t h2 eh2
  refine g33a c_86_39 ?_
  refine g1 c_86_40 k_8 ?_
  refine g1 c_86_42 k_13 ?_
  exact g80 (As := [.int 8, .int 13]) (rest := [.ref (ab_n h1), .ref x0]) c_86_44 rfl rfl (Nat.le_of_ble_eq_true rfl) (Nat.le_of_ble_eq_true rfl) t.1 t.2
set_option maxRecDepth 20000 in
theorem t_86_47 {d : Nat} {h : ab_H} {Q : Option Value → ab_H → Prop} {x0 : Nat} {s0 : Nat} {s1 : Nat} (t : ab_ok h s0 108 = true ∧ ∀ h1 : ab_H, h1 = ab_pr h s0 2 (some s1) → ∀ h2 : ab_H, h2 = ab_new h1 104 0 3 → ab_ok h2 (ab_n h1) 104 = true ∧ wm d 52 [.ref ((ab_n h1)), .int 4, .int 5] h2 (fun r9 h9 => wq (d + 1) 86 60 [.ref x0, .retAddr 0] (r9.toList ++ [.ref (ab_n h1), .ref x0]) h9 Q)) : wq (d + 1) 86 47 [.ref x0, .retAddr 0] [.ref s1, .ref s0] h Q := by
  obtain ⟨ho, t⟩ := t
  refine g49 c_86_47 ho (fun h1 eh1 => ?_)
  have t := t h1 eh1
  refine g5 c_86_50 rfl ?_
  refine g60 c_86_51 (fun h2 eh2 => ?_)
  have t := t h2 eh2
  refine g33a c_86_54 ?_
  refine g1 c_86_55 k_4 ?_
  refine g1 c_86_56 k_5 ?_
  exact g80 (As := [.int 4, .int 5]) (rest := [.ref (ab_n h1), .ref x0]) c_86_57 rfl rfl (Nat.le_of_ble_eq_true rfl) (Nat.le_of_ble_eq_true rfl) t.1 t.2
set_option maxRecDepth 20000 in
theorem t_86_60 {d : Nat} {h : ab_H} {Q : Option Value → ab_H → Prop} {x0 : Nat} {s0 : Nat} {s1 : Nat} (t : ab_ok h s0 108 = true ∧ ∀ h1 : ab_H, h1 = ab_pr h s0 3 (some s1) → ∀ h2 : ab_H, h2 = ab_new h1 104 0 3 → ab_ok h2 (ab_n h1) 104 = true ∧ wm d 52 [.ref ((ab_n h1)), .int 24, .int 8] h2 (fun r9 h9 => wq (d + 1) 86 75 [.ref x0, .retAddr 0] (r9.toList ++ [.ref (ab_n h1), .ref x0]) h9 Q)) : wq (d + 1) 86 60 [.ref x0, .retAddr 0] [.ref s1, .ref s0] h Q := by
  obtain ⟨ho, t⟩ := t
  refine g49 c_86_60 ho (fun h1 eh1 => ?_)
  have t := t h1 eh1
  refine g5 c_86_63 rfl ?_
  refine g60 c_86_64 (fun h2 eh2 => ?_)
  have t := t h2 eh2
  refine g33a c_86_67 ?_
  refine g1 c_86_68 k_24 ?_
  refine g1 c_86_70 k_8 ?_
  exact g80 (As := [.int 24, .int 8]) (rest := [.ref (ab_n h1), .ref x0]) c_86_72 rfl rfl (Nat.le_of_ble_eq_true rfl) (Nat.le_of_ble_eq_true rfl) t.1 t.2
set_option maxRecDepth 20000 in
theorem t_86_75 {d : Nat} {h : ab_H} {Q : Option Value → ab_H → Prop} {x0 : Nat} {s0 : Nat} {s1 : Nat} (t : ab_ok h s0 108 = true ∧ ∀ h1 : ab_H, h1 = ab_pr h s0 4 (some s1) → ∀ h2 : ab_H, h2 = ab_new h1 104 0 3 → ab_ok h2 (ab_n h1) 104 = true ∧ wm d 52 [.ref ((ab_n h1)), .int 60, .int 9] h2 (fun r9 h9 => wq (d + 1) 86 90 [.ref x0, .retAddr 0] (r9.toList ++ [.ref (ab_n h1), .ref x0]) h9 Q)) : wq (d + 1) 86 75 [.ref x0, .retAddr 0] [.ref s1, .ref s0] h Q := by
  obtain ⟨ho, t⟩ := t
  refine g49 c_86_75 ho (fun h1 eh1 => ?_)
  have t := t h1 eh1
  refine g5 c_86_78 rfl ?_
  refine g60 c_86_79 (fun h2 eh2 => ?_)
  have t := t h2 eh2
  refine g33a c_86_82 ?_
  refine g1 c_86_83 k_60 ?_
  refine g1 c_86_85 k_9 ?_
  exact g80 (As := [.int 60, .int 9]) (rest := [.ref (ab_n h1), .ref x0]) c_86_87 rfl rfl (Nat.le_of_ble_eq_true rfl) (Nat.le_of_ble_eq_true rfl) t.1 t.2
set_option maxRecDepth 20000 in
theorem t_86_90 {d : Nat} {h : ab_H} {Q : Option Value → ab_H → Prop} {x0 : Nat} {s0 : Nat} {s1 : Nat} (t : ab_ok h s0 108 = true ∧ ∀ h1 : ab_H, h1 = ab_pr h s0 5 (some s1) → ∀ h2 : ab_H, h2 = ab_new h1 104 0 3 → ab_ok h2 (ab_n h1) 104 = true ∧ wm d 52 [.ref ((ab_n h1)), .int 80, .int 6] h2 (fun r9 h9 => wq (d + 1) 86 105 [.ref x0, .retAddr 0] (r9.toList ++ [.ref (ab_n h1), .ref x0]) h9 Q)) : wq (d + 1) 86 90 [.ref x0, .retAddr 0] [.ref s1, .ref s0] h Q := by
  obtain ⟨ho, t⟩ := t
  refine g49 c_86_90 ho (fun h1 eh1 => ?_)
  have t := t h1 eh1
  refine g5 c_86_93 rfl ?_
  refine g60 c_86_94 (fun h2 eh2 => ?_)
  have t := t h2 eh2
  refine g33a c_86_97 ?_
  refine g1 c_86_98 k_80 ?_
  refine g1 c_86_100 k_6 ?_
  exact g80 (As := [.int 80, .int 6]) (rest := [.ref (ab_n h1), .ref x0]) c_86_102 rfl rfl (Nat.le_of_ble_eq_true rfl) (Nat.le_of_ble_eq_true rfl) t.1 t.2
set_option maxRecDepth 20000 in
theorem t_86_105 {d : Nat} {h : ab_H} {Q : Option Value → ab_H → Prop} {x0 : Nat} {s0 : Nat} {s1 : Nat} (t : ab_ok h s0 108 = true ∧ ∀ h1 : ab_H, h1 = ab_pr h s0 6 (some s1) → ∀ h2 : ab_H, h2 = ab_new h1 104 0 3 → ab_ok h2 (ab_n h1) 104 = true ∧ wm d 52 [.ref ((ab_n h1)), .int 61, .int 5] h2 (fun r9 h9 => wq (d + 1) 86 119 [.ref x0, .retAddr 0] (r9.toList ++ [.ref (ab_n h1), .ref x0]) h9 Q)) : wq (d + 1) 86 105 [.ref x0, .retAddr 0] [.ref s1, .ref s0] h Q := by
  obtain ⟨ho, t⟩ := t
  refine g49 c_86_105 ho (fun h1 eh1 => ?_)
  have t := t h1 eh1
  refine g5 c_86_108 rfl ?_
  refine g60 c_86_109 (fun h2 eh2 => ?_)
  have t := t h2 eh2
  refine g33a c_86_112 ?_
  refine g1 c_86_113 k_61 ?_
  refine g1 c_86_115 k_5 ?_
  exact g80 (As := [.int 61, .int 5]) (rest := [.ref (ab_n h1), .ref x0]) c_86_116 rfl rfl (Nat.le_of_ble_eq_true rfl) (Nat.le_of_ble_eq_true rfl) t.1 t.2
set_option maxRecDepth 20000 in
theorem t_86_119 {d : Nat} {h : ab_H} {Q : Option Value → ab_H → Prop} {x0 : Nat} {s0 : Nat} {s1 : Nat} (t : ab_ok h s0 108 = true ∧ ∀ h1 : ab_H, h1 = ab_pr h s0 7 (some s1) → ab_ok h1 x0 108 = true ∧ ∀ h2 : ab_H, h2 = ab_pi h1 x0 12 100000 → ab_ok h2 x0 108 = true ∧ ∀ h3 : ab_H, h3 = ab_pi h2 x0 16 (-1) → ab_ok h3 x0 108 = true ∧ ∀ h4 : ab_H, h4 = ab_pi h3 x0 17 (-1) → wq d 86 140 [.ref x0, .int 0] [] h4 Q) : wq d 86 119 [.ref x0, .retAddr 0] [.ref s1, .ref s0] h Q := by
  obtain ⟨ho, t⟩ := t
  refine g49 c_86_119 ho (fun h1 eh1 => ?_)
  have t := t h1 eh1
  refine g5 c_86_122 rfl ?_
  refine g1 c_86_123 k_100000 ?_
  obtain ⟨ho, t⟩ := t
  refine g46 c_86_125 ho (fun h2 eh2 => ?_)
  have t := t h2 eh2
  refine g5 c_86_128 rfl ?_
  refine g1 c_86_129 k_m1 ?_
  obtain ⟨ho, t⟩ := t
  refine g46 c_86_130 ho (fun h3 eh3 => ?_)
  have t := t h3 eh3
  refine g5 c_86_133 rfl ?_
  refine g1 c_86_134 k_m1 ?_
  obtain ⟨ho, t⟩ := t
  refine g46 c_86_135 ho (fun h4 eh4 => ?_)
  have t := t h4 eh4
  refine g1 c_86_138 k_0 ?_
  refine g6 (L' := [.ref x0, .int 0]) c_86_139 rfl ?_
  exact t
set_option maxRecDepth 20000 in
theorem t_86_140 {d : Nat} {h : ab_H} {Q : Option Value → ab_H → Prop} {x0 : Nat} {x1 : Int32} (t : if 6 ≤ x1 then (wq (d + 1) 86 185 [.ref x0, .int 0] [] h Q) else (ab_ok h x0 108 = true ∧ ∃ j1 : Nat, ab_r h x0 0 = some j1 ∧ ab_ok h j1 104 = true ∧ wm d 54 [.ref j1] h (fun r9 h9 => wq (d + 1) 86 153 [.ref x0, .int x1] (r9.toList ++ []) h9 Q))) : wq (d + 1) 86 140 [.ref x0, .int x1] [] h Q := by
  refine g3 c_86_140 rfl ?_
  refine g1 c_86_141 k_6 ?_
  refine gcm c_86_143 (gbr t rfl rfl (fun hc t => ?_) (fun hc t => ?_))
  · refine g1 c_86_183 k_0 ?_
    refine g6 (L' := [.ref x0, .int 0]) c_86_184 rfl ?_
    exact t
  · refine g5 c_86_146 rfl ?_
    obtain ⟨ho, j1, hr, t⟩ := t
    refine g45 c_86_147 ho hr ?_
    exact g80 (As := []) (rest := []) c_86_150 rfl rfl (Nat.le_of_ble_eq_true rfl) (Nat.le_of_ble_eq_true rfl) t.1 t.2
set_option maxRecDepth 20000 in
theorem t_86_153 {d : Nat} {h : ab_H} {Q : Option Value → ab_H → Prop} {x0 : Nat} {x1 : Int32} {s0 : Int32} (t : ab_ok h x0 108 = true ∧ wm d 88 [.ref x0, .int x1, .int 60, .int 30, .int 10, .int 0, .int 0] h (fun r9 h9 => wq (d + 1) 86 167 [.ref x0, .int x1] (r9.toList ++ []) h9 Q)) : wq (d + 1) 86 153 [.ref x0, .int x1] [.int s0] h Q := by
  refine g35i c_86_153 ?_
  refine g5 c_86_154 rfl ?_
  refine g3 c_86_155 rfl ?_
  refine g1 c_86_156 k_60 ?_
  refine g1 c_86_158 k_30 ?_
  refine g1 c_86_160 k_10 ?_
  refine g1 c_86_162 k_0 ?_
  refine g1 c_86_163 k_0 ?_
  exact g80 (As := [.int x1, .int 60, .int 30, .int 10, .int 0, .int 0]) (rest := []) c_86_164 rfl rfl (Nat.le_of_ble_eq_true rfl) (Nat.le_of_ble_eq_true rfl) t.1 t.2
set_option maxRecDepth 20000 in
theorem t_86_167 {d : Nat} {h : ab_H} {Q : Option Value → ab_H → Prop} {x0 : Nat} {x1 : Int32} (t : ab_ok h x0 108 = true ∧ ∃ j1 : Nat, ab_r h x0 0 = some j1 ∧ ab_ok h j1 104 = true ∧ wm d 56 [.ref j1, .int x1, .int 5, .int (-1)] h (fun r9 h9 => wq (d + 1) 86 177 [.ref x0, .int x1] (r9.toList ++ []) h9 Q)) : wq (d + 1) 86 167 [.ref x0, .int x1] [] h Q := by
  refine g5 c_86_167 rfl ?_
  obtain ⟨ho, j1, hr, t⟩ := t
  refine g45 c_86_168 ho hr ?_
  refine g3 c_86_171 rfl ?_
  refine g1 c_86_172 k_5 ?_
  refine g1 c_86_173 k_m1 ?_
  exact g80 (As := [.int x1, .int 5, .int (-1)]) (rest := []) c_86_174 rfl rfl (Nat.le_of_ble_eq_true rfl) (Nat.le_of_ble_eq_true rfl) t.1 t.2
set_option maxRecDepth 20000 in
theorem t_86_177 {d : Nat} {h : ab_H} {Q : Option Value → ab_H → Prop} {x0 : Nat} {x1 : Int32} (t : wq d 86 140 [.ref x0, .int (x1 + 1)] [] h Q) : wq d 86 177 [.ref x0, .int x1] [] h Q := by
  refine g9 (L' := [.ref x0, .int (x1 + 1)]) c_86_177 rfl k_1 rfl ?_
  refine g38 c_86_180 rfl ?_
  exact t
set_option maxRecDepth 20000 in
theorem t_86_185 {d : Nat} {h : ab_H} {Q : Option Value → ab_H → Prop} {x0 : Nat} {x1 : Int32} (t : if 8 ≤ x1 then (ab_ok h x0 108 = true ∧ ∃ j1 : Nat, ab_r h x0 1 = some j1 ∧ ab_ok h j1 104 = true ∧ wm d 56 [.ref j1, .int 0, .int 400, .int 1000] h (fun r9 h9 => wq (d + 1) 86 232 [.ref x0, .int x1] (r9.toList ++ []) h9 Q)) else (ab_ok h x0 108 = true ∧ ∃ j2 : Nat, ab_r h x0 1 = some j2 ∧ ab_ok h j2 104 = true ∧ wm d 54 [.ref j2] h (fun r9 h9 => wq (d + 1) 86 198 [.ref x0, .int x1] (r9.toList ++ []) h9 Q))) : wq (d + 1) 86 185 [.ref x0, .int x1] [] h Q := by
  refine g3 c_86_185 rfl ?_
  refine g1 c_86_186 k_8 ?_
  refine gcm c_86_188 (gbr t rfl rfl (fun hc t => ?_) (fun hc t => ?_))
  · refine g5 c_86_218 rfl ?_
    obtain ⟨ho, j1, hr, t⟩ := t
    refine g45 c_86_219 ho hr ?_
    refine g1 c_86_222 k_0 ?_
    refine g1 c_86_223 k_400 ?_
    refine g1 c_86_226 k_1000 ?_
    exact g80 (As := [.int 0, .int 400, .int 1000]) (rest := []) c_86_229 rfl rfl (Nat.le_of_ble_eq_true rfl) (Nat.le_of_ble_eq_true rfl) t.1 t.2
  · refine g5 c_86_191 rfl ?_
    obtain ⟨ho, j2, hr, t⟩ := t
    refine g45 c_86_192 ho hr ?_
    exact g80 (As := []) (rest := []) c_86_195 rfl rfl (Nat.le_of_ble_eq_true rfl) (Nat.le_of_ble_eq_true rfl) t.1 t.2
set_option maxRecDepth 20000 in
theorem t_86_198 {d : Nat} {h : ab_H} {Q : Option Value → ab_H → Prop} {x0 : Nat} {x1 : Int32} {s0 : Int32} (t : ab_ok h x0 108 = true ∧ ∃ j1 : Nat, ab_r h x0 1 = some j1 ∧ ab_ok h j1 104 = true ∧ wm d 56 [.ref j1, .int x1, .int 400, .int 60] h (fun r9 h9 => wq (d + 1) 86 212 [.ref x0, .int x1] (r9.toList ++ []) h9 Q)) : wq (d + 1) 86 198 [.ref x0, .int x1] [.int s0] h Q := by
  refine g35i c_86_198 ?_
  refine g5 c_86_199 rfl ?_
  obtain ⟨ho, j1, hr, t⟩ := t
  refine g45 c_86_200 ho hr ?_
  refine g3 c_86_203 rfl ?_
  refine g1 c_86_204 k_400 ?_
  refine g1 c_86_207 k_60 ?_
  exact g80 (As := [.int x1, .int 400, .int 60]) (rest := []) c_86_209 rfl rfl (Nat.le_of_ble_eq_true rfl) (Nat.le_of_ble_eq_true rfl) t.1 t.2
set_option maxRecDepth 20000 in
theorem t_86_212 {d : Nat} {h : ab_H} {Q : Option Value → ab_H → Prop} {x0 : Nat} {x1 : Int32} (t : wq d 86 185 [.ref x0, .int (x1 + 1)] [] h Q) : wq d 86 212 [.ref x0, .int x1] [] h Q := by
  refine g9 (L' := [.ref x0, .int (x1 + 1)]) c_86_212 rfl k_1 rfl ?_
  refine g38 c_86_215 rfl ?_
  exact t
set_option maxRecDepth 20000 in
theorem t_86_232 {d : Nat} {h : ab_H} {Q : Option Value → ab_H → Prop} {x0 : Nat} {x1 : Int32} (t : ab_ok h x0 108 = true ∧ ∃ j1 : Nat, ab_r h x0 1 = some j1 ∧ ab_ok h j1 104 = true ∧ wm d 56 [.ref j1, .int 1, .int 400, .int 6] h (fun r9 h9 => wq (d + 1) 86 245 [.ref x0, .int x1] (r9.toList ++ []) h9 Q)) : wq (d + 1) 86 232 [.ref x0, .int x1] [] h Q := by
  refine g5 c_86_232 rfl ?_
  obtain ⟨ho, j1, hr, t⟩ := t
  refine g45 c_86_233 ho hr ?_
  refine g1 c_86_236 k_1 ?_
  refine g1 c_86_237 k_400 ?_
  refine g1 c_86_240 k_6 ?_
  exact g80 (As := [.int 1, .int 400, .int 6]) (rest := []) c_86_242 rfl rfl (Nat.le_of_ble_eq_true rfl) (Nat.le_of_ble_eq_true rfl) t.1 t.2
set_option maxRecDepth 20000 in
theorem t_86_245 {d : Nat} {h : ab_H} {Q : Option Value → ab_H → Prop} {x0 : Nat} {x1 : Int32} (t : Q none h) : wq d 86 245 [.ref x0, .int x1] [] h Q := by
  exact g94 c_86_245 t
-- method 87: MillTown$Town.copyFrom(LMillTown$Town;)V
theorem c_87_0 : pg_cd 87 0 = (5, 1, 0, 0, 0) := by decide +kernel
theorem c_87_1 : pg_cd 87 1 = (45, 8, 14, 0, 0) := by decide +kernel
theorem c_87_4 : pg_cd 87 4 = (5, 1, 0, 1, 0) := by decide +kernel
theorem c_87_5 : pg_cd 87 5 = (45, 8, 14, 0, 0) := by decide +kernel
theorem c_87_8 : pg_cd 87 8 = (80, 60, 64, 0, 0) := by decide +kernel
theorem c_87_11 : pg_cd 87 11 = (5, 1, 0, 0, 0) := by decide +kernel
theorem c_87_12 : pg_cd 87 12 = (45, 8, 20, 1, 0) := by decide +kernel
theorem c_87_15 : pg_cd 87 15 = (5, 1, 0, 1, 0) := by decide +kernel
theorem c_87_16 : pg_cd 87 16 = (45, 8, 20, 1, 0) := by decide +kernel
theorem c_87_19 : pg_cd 87 19 = (80, 60, 64, 0, 0) := by decide +kernel
theorem c_87_22 : pg_cd 87 22 = (5, 1, 0, 0, 0) := by decide +kernel
theorem c_87_23 : pg_cd 87 23 = (45, 8, 23, 2, 0) := by decide +kernel
theorem c_87_26 : pg_cd 87 26 = (5, 1, 0, 1, 0) := by decide +kernel
theorem c_87_27 : pg_cd 87 27 = (45, 8, 23, 2, 0) := by decide +kernel
theorem c_87_30 : pg_cd 87 30 = (80, 60, 64, 0, 0) := by decide +kernel
theorem c_87_33 : pg_cd 87 33 = (5, 1, 0, 0, 0) := by decide +kernel
theorem c_87_34 : pg_cd 87 34 = (45, 8, 26, 3, 0) := by decide +kernel
theorem c_87_37 : pg_cd 87 37 = (5, 1, 0, 1, 0) := by decide +kernel
theorem c_87_38 : pg_cd 87 38 = (45, 8, 26, 3, 0) := by decide +kernel
theorem c_87_41 : pg_cd 87 41 = (80, 60, 64, 0, 0) := by decide +kernel
theorem c_87_44 : pg_cd 87 44 = (5, 1, 0, 0, 0) := by decide +kernel
theorem c_87_45 : pg_cd 87 45 = (45, 8, 29, 4, 0) := by decide +kernel
theorem c_87_48 : pg_cd 87 48 = (5, 1, 0, 1, 0) := by decide +kernel
theorem c_87_49 : pg_cd 87 49 = (45, 8, 29, 4, 0) := by decide +kernel
theorem c_87_52 : pg_cd 87 52 = (80, 60, 64, 0, 0) := by decide +kernel
theorem c_87_55 : pg_cd 87 55 = (5, 1, 0, 0, 0) := by decide +kernel
theorem c_87_56 : pg_cd 87 56 = (45, 8, 32, 5, 0) := by decide +kernel
theorem c_87_59 : pg_cd 87 59 = (5, 1, 0, 1, 0) := by decide +kernel
theorem c_87_60 : pg_cd 87 60 = (45, 8, 32, 5, 0) := by decide +kernel
theorem c_87_63 : pg_cd 87 63 = (80, 60, 64, 0, 0) := by decide +kernel
theorem c_87_66 : pg_cd 87 66 = (5, 1, 0, 0, 0) := by decide +kernel
theorem c_87_67 : pg_cd 87 67 = (45, 8, 35, 6, 0) := by decide +kernel
theorem c_87_70 : pg_cd 87 70 = (5, 1, 0, 1, 0) := by decide +kernel
theorem c_87_71 : pg_cd 87 71 = (45, 8, 35, 6, 0) := by decide +kernel
theorem c_87_74 : pg_cd 87 74 = (80, 60, 64, 0, 0) := by decide +kernel
theorem c_87_77 : pg_cd 87 77 = (5, 1, 0, 0, 0) := by decide +kernel
theorem c_87_78 : pg_cd 87 78 = (45, 8, 38, 7, 0) := by decide +kernel
theorem c_87_81 : pg_cd 87 81 = (5, 1, 0, 1, 0) := by decide +kernel
theorem c_87_82 : pg_cd 87 82 = (45, 8, 38, 7, 0) := by decide +kernel
theorem c_87_85 : pg_cd 87 85 = (80, 60, 64, 0, 0) := by decide +kernel
theorem c_87_88 : pg_cd 87 88 = (5, 1, 0, 0, 0) := by decide +kernel
theorem c_87_89 : pg_cd 87 89 = (5, 1, 0, 1, 0) := by decide +kernel
theorem c_87_90 : pg_cd 87 90 = (43, 8, 68, 8, 0) := by decide +kernel
theorem c_87_93 : pg_cd 87 93 = (46, 8, 68, 8, 0) := by decide +kernel
theorem c_87_96 : pg_cd 87 96 = (5, 1, 0, 0, 0) := by decide +kernel
theorem c_87_97 : pg_cd 87 97 = (5, 1, 0, 1, 0) := by decide +kernel
theorem c_87_98 : pg_cd 87 98 = (43, 8, 71, 9, 0) := by decide +kernel
theorem c_87_101 : pg_cd 87 101 = (46, 8, 71, 9, 0) := by decide +kernel
theorem c_87_104 : pg_cd 87 104 = (5, 1, 0, 0, 0) := by decide +kernel
theorem c_87_105 : pg_cd 87 105 = (5, 1, 0, 1, 0) := by decide +kernel
theorem c_87_106 : pg_cd 87 106 = (43, 8, 74, 10, 0) := by decide +kernel
theorem c_87_109 : pg_cd 87 109 = (46, 8, 74, 10, 0) := by decide +kernel
theorem c_87_112 : pg_cd 87 112 = (5, 1, 0, 0, 0) := by decide +kernel
theorem c_87_113 : pg_cd 87 113 = (5, 1, 0, 1, 0) := by decide +kernel
theorem c_87_114 : pg_cd 87 114 = (43, 8, 77, 11, 0) := by decide +kernel
theorem c_87_117 : pg_cd 87 117 = (46, 8, 77, 11, 0) := by decide +kernel
theorem c_87_120 : pg_cd 87 120 = (5, 1, 0, 0, 0) := by decide +kernel
theorem c_87_121 : pg_cd 87 121 = (5, 1, 0, 1, 0) := by decide +kernel
theorem c_87_122 : pg_cd 87 122 = (43, 8, 42, 12, 0) := by decide +kernel
theorem c_87_125 : pg_cd 87 125 = (46, 8, 42, 12, 0) := by decide +kernel
theorem c_87_128 : pg_cd 87 128 = (5, 1, 0, 0, 0) := by decide +kernel
theorem c_87_129 : pg_cd 87 129 = (5, 1, 0, 1, 0) := by decide +kernel
theorem c_87_130 : pg_cd 87 130 = (43, 8, 80, 13, 0) := by decide +kernel
theorem c_87_133 : pg_cd 87 133 = (46, 8, 80, 13, 0) := by decide +kernel
theorem c_87_136 : pg_cd 87 136 = (5, 1, 0, 0, 0) := by decide +kernel
theorem c_87_137 : pg_cd 87 137 = (5, 1, 0, 1, 0) := by decide +kernel
theorem c_87_138 : pg_cd 87 138 = (43, 8, 83, 14, 0) := by decide +kernel
theorem c_87_141 : pg_cd 87 141 = (46, 8, 83, 14, 0) := by decide +kernel
theorem c_87_144 : pg_cd 87 144 = (5, 1, 0, 0, 0) := by decide +kernel
theorem c_87_145 : pg_cd 87 145 = (5, 1, 0, 1, 0) := by decide +kernel
theorem c_87_146 : pg_cd 87 146 = (43, 8, 86, 15, 0) := by decide +kernel
theorem c_87_149 : pg_cd 87 149 = (46, 8, 86, 15, 0) := by decide +kernel
theorem c_87_152 : pg_cd 87 152 = (5, 1, 0, 0, 0) := by decide +kernel
theorem c_87_153 : pg_cd 87 153 = (5, 1, 0, 1, 0) := by decide +kernel
theorem c_87_154 : pg_cd 87 154 = (43, 8, 46, 16, 0) := by decide +kernel
theorem c_87_157 : pg_cd 87 157 = (46, 8, 46, 16, 0) := by decide +kernel
theorem c_87_160 : pg_cd 87 160 = (5, 1, 0, 0, 0) := by decide +kernel
theorem c_87_161 : pg_cd 87 161 = (5, 1, 0, 1, 0) := by decide +kernel
theorem c_87_162 : pg_cd 87 162 = (43, 8, 49, 17, 0) := by decide +kernel
theorem c_87_165 : pg_cd 87 165 = (46, 8, 49, 17, 0) := by decide +kernel
theorem c_87_168 : pg_cd 87 168 = (94, 0, 0, 0, 0) := by decide +kernel
theorem mx_87 : pg_mx 87 = 2 := by decide +kernel
theorem m_87 {d : Nat} {h : ab_H} {Q : Option Value → ab_H → Prop} {x0 : Nat} {x1 : Nat} (t : wq d 87 0 [.ref x0, .ref x1] [] h Q) : wm d 87 [.ref x0, .ref x1] h Q := by
  unfold wm
  rw [mx_87]
  exact t
set_option maxRecDepth 20000 in
theorem t_87_0 {d : Nat} {h : ab_H} {Q : Option Value → ab_H → Prop} {x0 : Nat} {x1 : Nat} (t : ab_ok h x0 108 = true ∧ ∃ j1 : Nat, ab_r h x0 0 = some j1 ∧ ab_ok h x1 108 = true ∧ ∃ j2 : Nat, ab_r h x1 0 = some j2 ∧ ab_ok h j1 104 = true ∧ wm d 60 [.ref j1, .ref j2] h (fun r9 h9 => wq (d + 1) 87 11 [.ref x0, .ref x1] (r9.toList ++ []) h9 Q)) : wq (d + 1) 87 0 [.ref x0, .ref x1] [] h Q := by
  refine g5 c_87_0 rfl ?_
  obtain ⟨ho, j1, hr, t⟩ := t
  refine g45 c_87_1 ho hr ?_
  refine g5 c_87_4 rfl ?_
  obtain ⟨ho, j2, hr, t⟩ := t
  refine g45 c_87_5 ho hr ?_
  exact g80 (As := [.ref j2]) (rest := []) c_87_8 rfl rfl (Nat.le_of_ble_eq_true rfl) (Nat.le_of_ble_eq_true rfl) t.1 t.2
set_option maxRecDepth 20000 in
theorem t_87_11 {d : Nat} {h : ab_H} {Q : Option Value → ab_H → Prop} {x0 : Nat} {x1 : Nat} (t : ab_ok h x0 108 = true ∧ ∃ j1 : Nat, ab_r h x0 1 = some j1 ∧ ab_ok h x1 108 = true ∧ ∃ j2 : Nat, ab_r h x1 1 = some j2 ∧ ab_ok h j1 104 = true ∧ wm d 60 [.ref j1, .ref j2] h (fun r9 h9 => wq (d + 1) 87 22 [.ref x0, .ref x1] (r9.toList ++ []) h9 Q)) : wq (d + 1) 87 11 [.ref x0, .ref x1] [] h Q := by
  refine g5 c_87_11 rfl ?_
  obtain ⟨ho, j1, hr, t⟩ := t
  refine g45 c_87_12 ho hr ?_
  refine g5 c_87_15 rfl ?_
  obtain ⟨ho, j2, hr, t⟩ := t
  refine g45 c_87_16 ho hr ?_
  exact g80 (As := [.ref j2]) (rest := []) c_87_19 rfl rfl (Nat.le_of_ble_eq_true rfl) (Nat.le_of_ble_eq_true rfl) t.1 t.2
set_option maxRecDepth 20000 in
theorem t_87_22 {d : Nat} {h : ab_H} {Q : Option Value → ab_H → Prop} {x0 : Nat} {x1 : Nat} (t : ab_ok h x0 108 = true ∧ ∃ j1 : Nat, ab_r h x0 2 = some j1 ∧ ab_ok h x1 108 = true ∧ ∃ j2 : Nat, ab_r h x1 2 = some j2 ∧ ab_ok h j1 104 = true ∧ wm d 60 [.ref j1, .ref j2] h (fun r9 h9 => wq (d + 1) 87 33 [.ref x0, .ref x1] (r9.toList ++ []) h9 Q)) : wq (d + 1) 87 22 [.ref x0, .ref x1] [] h Q := by
  refine g5 c_87_22 rfl ?_
  obtain ⟨ho, j1, hr, t⟩ := t
  refine g45 c_87_23 ho hr ?_
  refine g5 c_87_26 rfl ?_
  obtain ⟨ho, j2, hr, t⟩ := t
  refine g45 c_87_27 ho hr ?_
  exact g80 (As := [.ref j2]) (rest := []) c_87_30 rfl rfl (Nat.le_of_ble_eq_true rfl) (Nat.le_of_ble_eq_true rfl) t.1 t.2
set_option maxRecDepth 20000 in
theorem t_87_33 {d : Nat} {h : ab_H} {Q : Option Value → ab_H → Prop} {x0 : Nat} {x1 : Nat} (t : ab_ok h x0 108 = true ∧ ∃ j1 : Nat, ab_r h x0 3 = some j1 ∧ ab_ok h x1 108 = true ∧ ∃ j2 : Nat, ab_r h x1 3 = some j2 ∧ ab_ok h j1 104 = true ∧ wm d 60 [.ref j1, .ref j2] h (fun r9 h9 => wq (d + 1) 87 44 [.ref x0, .ref x1] (r9.toList ++ []) h9 Q)) : wq (d + 1) 87 33 [.ref x0, .ref x1] [] h Q := by
  refine g5 c_87_33 rfl ?_
  obtain ⟨ho, j1, hr, t⟩ := t
  refine g45 c_87_34 ho hr ?_
  refine g5 c_87_37 rfl ?_
  obtain ⟨ho, j2, hr, t⟩ := t
  refine g45 c_87_38 ho hr ?_
  exact g80 (As := [.ref j2]) (rest := []) c_87_41 rfl rfl (Nat.le_of_ble_eq_true rfl) (Nat.le_of_ble_eq_true rfl) t.1 t.2
set_option maxRecDepth 20000 in
theorem t_87_44 {d : Nat} {h : ab_H} {Q : Option Value → ab_H → Prop} {x0 : Nat} {x1 : Nat} (t : ab_ok h x0 108 = true ∧ ∃ j1 : Nat, ab_r h x0 4 = some j1 ∧ ab_ok h x1 108 = true ∧ ∃ j2 : Nat, ab_r h x1 4 = some j2 ∧ ab_ok h j1 104 = true ∧ wm d 60 [.ref j1, .ref j2] h (fun r9 h9 => wq (d + 1) 87 55 [.ref x0, .ref x1] (r9.toList ++ []) h9 Q)) : wq (d + 1) 87 44 [.ref x0, .ref x1] [] h Q := by
  refine g5 c_87_44 rfl ?_
  obtain ⟨ho, j1, hr, t⟩ := t
  refine g45 c_87_45 ho hr ?_
  refine g5 c_87_48 rfl ?_
  obtain ⟨ho, j2, hr, t⟩ := t
  refine g45 c_87_49 ho hr ?_
  exact g80 (As := [.ref j2]) (rest := []) c_87_52 rfl rfl (Nat.le_of_ble_eq_true rfl) (Nat.le_of_ble_eq_true rfl) t.1 t.2
set_option maxRecDepth 20000 in
theorem t_87_55 {d : Nat} {h : ab_H} {Q : Option Value → ab_H → Prop} {x0 : Nat} {x1 : Nat} (t : ab_ok h x0 108 = true ∧ ∃ j1 : Nat, ab_r h x0 5 = some j1 ∧ ab_ok h x1 108 = true ∧ ∃ j2 : Nat, ab_r h x1 5 = some j2 ∧ ab_ok h j1 104 = true ∧ wm d 60 [.ref j1, .ref j2] h (fun r9 h9 => wq (d + 1) 87 66 [.ref x0, .ref x1] (r9.toList ++ []) h9 Q)) : wq (d + 1) 87 55 [.ref x0, .ref x1] [] h Q := by
  refine g5 c_87_55 rfl ?_
  obtain ⟨ho, j1, hr, t⟩ := t
  refine g45 c_87_56 ho hr ?_
  refine g5 c_87_59 rfl ?_
  obtain ⟨ho, j2, hr, t⟩ := t
  refine g45 c_87_60 ho hr ?_
  exact g80 (As := [.ref j2]) (rest := []) c_87_63 rfl rfl (Nat.le_of_ble_eq_true rfl) (Nat.le_of_ble_eq_true rfl) t.1 t.2
set_option maxRecDepth 20000 in
theorem t_87_66 {d : Nat} {h : ab_H} {Q : Option Value → ab_H → Prop} {x0 : Nat} {x1 : Nat} (t : ab_ok h x0 108 = true ∧ ∃ j1 : Nat, ab_r h x0 6 = some j1 ∧ ab_ok h x1 108 = true ∧ ∃ j2 : Nat, ab_r h x1 6 = some j2 ∧ ab_ok h j1 104 = true ∧ wm d 60 [.ref j1, .ref j2] h (fun r9 h9 => wq (d + 1) 87 77 [.ref x0, .ref x1] (r9.toList ++ []) h9 Q)) : wq (d + 1) 87 66 [.ref x0, .ref x1] [] h Q := by
  refine g5 c_87_66 rfl ?_
  obtain ⟨ho, j1, hr, t⟩ := t
  refine g45 c_87_67 ho hr ?_
  refine g5 c_87_70 rfl ?_
  obtain ⟨ho, j2, hr, t⟩ := t
  refine g45 c_87_71 ho hr ?_
  exact g80 (As := [.ref j2]) (rest := []) c_87_74 rfl rfl (Nat.le_of_ble_eq_true rfl) (Nat.le_of_ble_eq_true rfl) t.1 t.2
set_option maxRecDepth 20000 in
theorem t_87_77 {d : Nat} {h : ab_H} {Q : Option Value → ab_H → Prop} {x0 : Nat} {x1 : Nat} (t : ab_ok h x0 108 = true ∧ ∃ j1 : Nat, ab_r h x0 7 = some j1 ∧ ab_ok h x1 108 = true ∧ ∃ j2 : Nat, ab_r h x1 7 = some j2 ∧ ab_ok h j1 104 = true ∧ wm d 60 [.ref j1, .ref j2] h (fun r9 h9 => wq (d + 1) 87 88 [.ref x0, .ref x1] (r9.toList ++ []) h9 Q)) : wq (d + 1) 87 77 [.ref x0, .ref x1] [] h Q := by
  refine g5 c_87_77 rfl ?_
  obtain ⟨ho, j1, hr, t⟩ := t
  refine g45 c_87_78 ho hr ?_
  refine g5 c_87_81 rfl ?_
  obtain ⟨ho, j2, hr, t⟩ := t
  refine g45 c_87_82 ho hr ?_
  exact g80 (As := [.ref j2]) (rest := []) c_87_85 rfl rfl (Nat.le_of_ble_eq_true rfl) (Nat.le_of_ble_eq_true rfl) t.1 t.2
set_option maxRecDepth 20000 in
theorem t_87_88 {d : Nat} {h : ab_H} {Q : Option Value → ab_H → Prop} {x0 : Nat} {x1 : Nat} (t : ab_ok h x1 108 = true ∧ ab_ok h x0 108 = true ∧ ∀ h1 : ab_H, h1 = ab_pi h x0 8 (ab_i h x1 8) → ab_ok h1 x1 108 = true ∧ ab_ok h1 x0 108 = true ∧ ∀ h2 : ab_H, h2 = ab_pi h1 x0 9 (ab_i h1 x1 9) → ab_ok h2 x1 108 = true ∧ ab_ok h2 x0 108 = true ∧ ∀ h3 : ab_H, h3 = ab_pi h2 x0 10 (ab_i h2 x1 10) → ab_ok h3 x1 108 = true ∧ ab_ok h3 x0 108 = true ∧ ∀ h4 : ab_H, h4 = ab_pi h3 x0 11 (ab_i h3 x1 11) → ab_ok h4 x1 108 = true ∧ ab_ok h4 x0 108 = true ∧ ∀ h5 : ab_H, h5 = ab_pi h4 x0 12 (ab_i h4 x1 12) → ab_ok h5 x1 108 = true ∧ ab_ok h5 x0 108 = true ∧ ∀ h6 : ab_H, h6 = ab_pi h5 x0 13 (ab_i h5 x1 13) → ab_ok h6 x1 108 = true ∧ ab_ok h6 x0 108 = true ∧ ∀ h7 : ab_H, h7 = ab_pi h6 x0 14 (ab_i h6 x1 14) → ab_ok h7 x1 108 = true ∧ ab_ok h7 x0 108 = true ∧ ∀ h8 : ab_H, h8 = ab_pi h7 x0 15 (ab_i h7 x1 15) → ab_ok h8 x1 108 = true ∧ ab_ok h8 x0 108 = true ∧ ∀ h9 : ab_H, h9 = ab_pi h8 x0 16 (ab_i h8 x1 16) → ab_ok h9 x1 108 = true ∧ ab_ok h9 x0 108 = true ∧ ∀ h10 : ab_H, h10 = ab_pi h9 x0 17 (ab_i h9 x1 17) → Q none h10) : wq d 87 88 [.ref x0, .ref x1] [] h Q := by
  refine g5 c_87_88 rfl ?_
  refine g5 c_87_89 rfl ?_
  obtain ⟨ho, t⟩ := t
  refine g43 c_87_90 ho ?_
  obtain ⟨ho, t⟩ := t
  refine g46 c_87_93 ho (fun h1 eh1 => ?_)
  have t := t h1 eh1
  refine g5 c_87_96 rfl ?_
  refine g5 c_87_97 rfl ?_
  obtain ⟨ho, t⟩ := t
  refine g43 c_87_98 ho ?_
  obtain ⟨ho, t⟩ := t
  refine g46 c_87_101 ho (fun h2 eh2 => ?_)
  have t := t h2 eh2
  refine g5 c_87_104 rfl ?_
  refine g5 c_87_105 rfl ?_
  obtain ⟨ho, t⟩ := t
  refine g43 c_87_106 ho ?_
  obtain ⟨ho, t⟩ := t
  refine g46 c_87_109 ho (fun h3 eh3 => ?_)
  have t := t h3 eh3
  refine g5 c_87_112 rfl ?_
  refine g5 c_87_113 rfl ?_
  obtain ⟨ho, t⟩ := t
  refine g43 c_87_114 ho ?_
  obtain ⟨ho, t⟩ := t
  refine g46 c_87_117 ho (fun h4 eh4 => ?_)
  have t := t h4 eh4
  refine g5 c_87_120 rfl ?_
  refine g5 c_87_121 rfl ?_
  obtain ⟨ho, t⟩ := t
  refine g43 c_87_122 ho ?_
  obtain ⟨ho, t⟩ := t
  refine g46 c_87_125 ho (fun h5 eh5 => ?_)
  have t := t h5 eh5
  refine g5 c_87_128 rfl ?_
  refine g5 c_87_129 rfl ?_
  obtain ⟨ho, t⟩ := t
  refine g43 c_87_130 ho ?_
  obtain ⟨ho, t⟩ := t
  refine g46 c_87_133 ho (fun h6 eh6 => ?_)
  have t := t h6 eh6
  refine g5 c_87_136 rfl ?_
  refine g5 c_87_137 rfl ?_
  obtain ⟨ho, t⟩ := t
  refine g43 c_87_138 ho ?_
  obtain ⟨ho, t⟩ := t
  refine g46 c_87_141 ho (fun h7 eh7 => ?_)
  have t := t h7 eh7
  refine g5 c_87_144 rfl ?_
  refine g5 c_87_145 rfl ?_
  obtain ⟨ho, t⟩ := t
  refine g43 c_87_146 ho ?_
  obtain ⟨ho, t⟩ := t
  refine g46 c_87_149 ho (fun h8 eh8 => ?_)
  have t := t h8 eh8
  refine g5 c_87_152 rfl ?_
  refine g5 c_87_153 rfl ?_
  obtain ⟨ho, t⟩ := t
  refine g43 c_87_154 ho ?_
  obtain ⟨ho, t⟩ := t
  refine g46 c_87_157 ho (fun h9 eh9 => ?_)
  have t := t h9 eh9
  refine g5 c_87_160 rfl ?_
  refine g5 c_87_161 rfl ?_
  obtain ⟨ho, t⟩ := t
  refine g43 c_87_162 ho ?_
  obtain ⟨ho, t⟩ := t
  refine g46 c_87_165 ho (fun h10 eh10 => ?_)
  have t := t h10 eh10
  exact g94 c_87_168 t
-- method 88: MillTown$Town.tellKind(IIIIII)V
theorem c_88_0 : pg_cd 88 0 = (5, 1, 0, 0, 0) := by decide +kernel
theorem c_88_1 : pg_cd 88 1 = (45, 8, 14, 0, 0) := by decide +kernel
theorem c_88_4 : pg_cd 88 4 = (3, 1, 0, 1, 0) := by decide +kernel
theorem c_88_5 : pg_cd 88 5 = (1, 1, 0, 0, 0) := by decide +kernel
theorem c_88_6 : pg_cd 88 6 = (3, 1, 0, 2, 0) := by decide +kernel
theorem c_88_7 : pg_cd 88 7 = (80, 56, 60, 0, 0) := by decide +kernel
theorem c_88_10 : pg_cd 88 10 = (5, 1, 0, 0, 0) := by decide +kernel
theorem c_88_11 : pg_cd 88 11 = (45, 8, 14, 0, 0) := by decide +kernel
theorem c_88_14 : pg_cd 88 14 = (3, 1, 0, 1, 0) := by decide +kernel
theorem c_88_15 : pg_cd 88 15 = (1, 1, 0, 0, 1) := by decide +kernel
theorem c_88_16 : pg_cd 88 16 = (3, 1, 0, 3, 0) := by decide +kernel
theorem c_88_17 : pg_cd 88 17 = (80, 56, 60, 0, 0) := by decide +kernel
theorem c_88_20 : pg_cd 88 20 = (5, 1, 0, 0, 0) := by decide +kernel
theorem c_88_21 : pg_cd 88 21 = (45, 8, 14, 0, 0) := by decide +kernel
theorem c_88_24 : pg_cd 88 24 = (3, 1, 0, 1, 0) := by decide +kernel
theorem c_88_25 : pg_cd 88 25 = (1, 1, 0, 0, 2) := by decide +kernel
theorem c_88_26 : pg_cd 88 26 = (3, 2, 0, 4, 0) := by decide +kernel
theorem c_88_28 : pg_cd 88 28 = (80, 56, 60, 0, 0) := by decide +kernel
theorem c_88_31 : pg_cd 88 31 = (5, 1, 0, 0, 0) := by decide +kernel
theorem c_88_32 : pg_cd 88 32 = (45, 8, 14, 0, 0) := by decide +kernel
theorem c_88_35 : pg_cd 88 35 = (3, 1, 0, 1, 0) := by decide +kernel
theorem c_88_36 : pg_cd 88 36 = (1, 1, 0, 0, 3) := by decide +kernel
theorem c_88_37 : pg_cd 88 37 = (3, 2, 0, 5, 0) := by decide +kernel
theorem c_88_39 : pg_cd 88 39 = (80, 56, 60, 0, 0) := by decide +kernel
theorem c_88_42 : pg_cd 88 42 = (5, 1, 0, 0, 0) := by decide +kernel
theorem c_88_43 : pg_cd 88 43 = (45, 8, 14, 0, 0) := by decide +kernel
theorem c_88_46 : pg_cd 88 46 = (3, 1, 0, 1, 0) := by decide +kernel
theorem c_88_47 : pg_cd 88 47 = (1, 1, 0, 0, 4) := by decide +kernel
theorem c_88_48 : pg_cd 88 48 = (3, 2, 0, 6, 0) := by decide +kernel
theorem c_88_50 : pg_cd 88 50 = (80, 56, 60, 0, 0) := by decide +kernel
theorem c_88_53 : pg_cd 88 53 = (94, 0, 0, 0, 0) := by decide +kernel
theorem mx_88 : pg_mx 88 = 7 := by decide +kernel
theorem m_88 {d : Nat} {h : ab_H} {Q : Option Value → ab_H → Prop} {x0 : Nat} {x1 : Int32} {x2 : Int32} {x3 : Int32} {x4 : Int32} {x5 : Int32} {x6 : Int32} (t : wq d 88 0 [.ref x0, .int x1, .int x2, .int x3, .int x4, .int x5, .int x6] [] h Q) : wm d 88 [.ref x0, .int x1, .int x2, .int x3, .int x4, .int x5, .int x6] h Q := by
  unfold wm
  rw [mx_88]
  exact t
set_option maxRecDepth 20000 in
theorem t_88_0 {d : Nat} {h : ab_H} {Q : Option Value → ab_H → Prop} {x0 : Nat} {x1 : Int32} {x2 : Int32} {x3 : Int32} {x4 : Int32} {x5 : Int32} {x6 : Int32} (t : ab_ok h x0 108 = true ∧ ∃ j1 : Nat, ab_r h x0 0 = some j1 ∧ ab_ok h j1 104 = true ∧ wm d 56 [.ref j1, .int x1, .int 0, .int x2] h (fun r9 h9 => wq (d + 1) 88 10 [.ref x0, .int x1, .int x2, .int x3, .int x4, .int x5, .int x6] (r9.toList ++ []) h9 Q)) : wq (d + 1) 88 0 [.ref x0, .int x1, .int x2, .int x3, .int x4, .int x5, .int x6] [] h Q := by
  refine g5 c_88_0 rfl ?_
  obtain ⟨ho, j1, hr, t⟩ := t
  refine g45 c_88_1 ho hr ?_
  refine g3 c_88_4 rfl ?_
  refine g1 c_88_5 k_0 ?_
  refine g3 c_88_6 rfl ?_
  exact g80 (As := [.int x1, .int 0, .int x2]) (rest := []) c_88_7 rfl rfl (Nat.le_of_ble_eq_true rfl) (Nat.le_of_ble_eq_true rfl) t.1 t.2
set_option maxRecDepth 20000 in
theorem t_88_10 {d : Nat} {h : ab_H} {Q : Option Value → ab_H → Prop} {x0 : Nat} {x1 : Int32} {x2 : Int32} {x3 : Int32} {x4 : Int32} {x5 : Int32} {x6 : Int32} (t : ab_ok h x0 108 = true ∧ ∃ j1 : Nat, ab_r h x0 0 = some j1 ∧ ab_ok h j1 104 = true ∧ wm d 56 [.ref j1, .int x1, .int 1, .int x3] h (fun r9 h9 => wq (d + 1) 88 20 [.ref x0, .int x1, .int x2, .int x3, .int x4, .int x5, .int x6] (r9.toList ++ []) h9 Q)) : wq (d + 1) 88 10 [.ref x0, .int x1, .int x2, .int x3, .int x4, .int x5, .int x6] [] h Q := by
  refine g5 c_88_10 rfl ?_
  obtain ⟨ho, j1, hr, t⟩ := t
  refine g45 c_88_11 ho hr ?_
  refine g3 c_88_14 rfl ?_
  refine g1 c_88_15 k_1 ?_
  refine g3 c_88_16 rfl ?_
  exact g80 (As := [.int x1, .int 1, .int x3]) (rest := []) c_88_17 rfl rfl (Nat.le_of_ble_eq_true rfl) (Nat.le_of_ble_eq_true rfl) t.1 t.2
set_option maxRecDepth 20000 in
theorem t_88_20 {d : Nat} {h : ab_H} {Q : Option Value → ab_H → Prop} {x0 : Nat} {x1 : Int32} {x2 : Int32} {x3 : Int32} {x4 : Int32} {x5 : Int32} {x6 : Int32} (t : ab_ok h x0 108 = true ∧ ∃ j1 : Nat, ab_r h x0 0 = some j1 ∧ ab_ok h j1 104 = true ∧ wm d 56 [.ref j1, .int x1, .int 2, .int x4] h (fun r9 h9 => wq (d + 1) 88 31 [.ref x0, .int x1, .int x2, .int x3, .int x4, .int x5, .int x6] (r9.toList ++ []) h9 Q)) : wq (d + 1) 88 20 [.ref x0, .int x1, .int x2, .int x3, .int x4, .int x5, .int x6] [] h Q := by
  refine g5 c_88_20 rfl ?_
  obtain ⟨ho, j1, hr, t⟩ := t
  refine g45 c_88_21 ho hr ?_
  refine g3 c_88_24 rfl ?_
  refine g1 c_88_25 k_2 ?_
  refine g3 c_88_26 rfl ?_
  exact g80 (As := [.int x1, .int 2, .int x4]) (rest := []) c_88_28 rfl rfl (Nat.le_of_ble_eq_true rfl) (Nat.le_of_ble_eq_true rfl) t.1 t.2
set_option maxRecDepth 20000 in
theorem t_88_31 {d : Nat} {h : ab_H} {Q : Option Value → ab_H → Prop} {x0 : Nat} {x1 : Int32} {x2 : Int32} {x3 : Int32} {x4 : Int32} {x5 : Int32} {x6 : Int32} (t : ab_ok h x0 108 = true ∧ ∃ j1 : Nat, ab_r h x0 0 = some j1 ∧ ab_ok h j1 104 = true ∧ wm d 56 [.ref j1, .int x1, .int 3, .int x5] h (fun r9 h9 => wq (d + 1) 88 42 [.ref x0, .int x1, .int x2, .int x3, .int x4, .int x5, .int x6] (r9.toList ++ []) h9 Q)) : wq (d + 1) 88 31 [.ref x0, .int x1, .int x2, .int x3, .int x4, .int x5, .int x6] [] h Q := by
  refine g5 c_88_31 rfl ?_
  obtain ⟨ho, j1, hr, t⟩ := t
  refine g45 c_88_32 ho hr ?_
  refine g3 c_88_35 rfl ?_
  refine g1 c_88_36 k_3 ?_
  refine g3 c_88_37 rfl ?_
  exact g80 (As := [.int x1, .int 3, .int x5]) (rest := []) c_88_39 rfl rfl (Nat.le_of_ble_eq_true rfl) (Nat.le_of_ble_eq_true rfl) t.1 t.2
set_option maxRecDepth 20000 in
theorem t_88_42 {d : Nat} {h : ab_H} {Q : Option Value → ab_H → Prop} {x0 : Nat} {x1 : Int32} {x2 : Int32} {x3 : Int32} {x4 : Int32} {x5 : Int32} {x6 : Int32} (t : ab_ok h x0 108 = true ∧ ∃ j1 : Nat, ab_r h x0 0 = some j1 ∧ ab_ok h j1 104 = true ∧ wm d 56 [.ref j1, .int x1, .int 4, .int x6] h (fun r9 h9 => wq (d + 1) 88 53 [.ref x0, .int x1, .int x2, .int x3, .int x4, .int x5, .int x6] (r9.toList ++ []) h9 Q)) : wq (d + 1) 88 42 [.ref x0, .int x1, .int x2, .int x3, .int x4, .int x5, .int x6] [] h Q := by
  refine g5 c_88_42 rfl ?_
  obtain ⟨ho, j1, hr, t⟩ := t
  refine g45 c_88_43 ho hr ?_
  refine g3 c_88_46 rfl ?_
  refine g1 c_88_47 k_4 ?_
  refine g3 c_88_48 rfl ?_
  exact g80 (As := [.int x1, .int 4, .int x6]) (rest := []) c_88_50 rfl rfl (Nat.le_of_ble_eq_true rfl) (Nat.le_of_ble_eq_true rfl) t.1 t.2
set_option maxRecDepth 20000 in
theorem t_88_53 {d : Nat} {h : ab_H} {Q : Option Value → ab_H → Prop} {x0 : Nat} {x1 : Int32} {x2 : Int32} {x3 : Int32} {x4 : Int32} {x5 : Int32} {x6 : Int32} (t : Q none h) : wq d 88 53 [.ref x0, .int x1, .int x2, .int x3, .int x4, .int x5, .int x6] [] h Q := by
  exact g94 c_88_53 t
-- method 89: MillTown$Town.isOrdered(I)Z
theorem c_89_0 : pg_cd 89 0 = (1, 1, 0, 0, 0) := by decide +kernel
theorem c_89_1 : pg_cd 89 1 = (6, 1, 0, 2, 0) := by decide +kernel
theorem c_89_2 : pg_cd 89 2 = (1, 1, 0, 0, 0) := by decide +kernel
theorem c_89_3 : pg_cd 89 3 = (6, 1, 0, 3, 0) := by decide +kernel
theorem c_89_4 : pg_cd 89 4 = (3, 1, 0, 3, 0) := by decide +kernel
theorem c_89_5 : pg_cd 89 5 = (5, 1, 0, 0, 0) := by decide +kernel
theorem c_89_6 : pg_cd 89 6 = (45, 8, 35, 6, 0) := by decide +kernel
theorem c_89_9 : pg_cd 89 9 = (43, 4, 89, 2, 0) := by decide +kernel
theorem c_89_12 : pg_cd 89 12 = (37, 3, 0, 3, 32) := by decide +kernel
theorem c_89_15 : pg_cd 89 15 = (3, 1, 0, 2, 0) := by decide +kernel
theorem c_89_16 : pg_cd 89 16 = (36, 3, 0, 1, 16) := by decide +kernel
theorem c_89_19 : pg_cd 89 19 = (5, 1, 0, 0, 0) := by decide +kernel
theorem c_89_20 : pg_cd 89 20 = (45, 8, 35, 6, 0) := by decide +kernel
theorem c_89_23 : pg_cd 89 23 = (3, 1, 0, 3, 0) := by decide +kernel
theorem c_89_24 : pg_cd 89 24 = (1, 1, 0, 0, 0) := by decide +kernel
theorem c_89_25 : pg_cd 89 25 = (80, 55, 92, 0, 0) := by decide +kernel
theorem c_89_28 : pg_cd 89 28 = (3, 1, 0, 1, 0) := by decide +kernel
theorem c_89_29 : pg_cd 89 29 = (37, 3, 0, 1, 7) := by decide +kernel
theorem c_89_32 : pg_cd 89 32 = (1, 1, 0, 0, 1) := by decide +kernel
theorem c_89_33 : pg_cd 89 33 = (38, 3, 0, 0, 4) := by decide +kernel
theorem c_89_36 : pg_cd 89 36 = (1, 1, 0, 0, 0) := by decide +kernel
theorem c_89_37 : pg_cd 89 37 = (6, 1, 0, 2, 0) := by decide +kernel
theorem c_89_38 : pg_cd 89 38 = (9, 3, 0, 3, 1) := by decide +kernel
theorem c_89_41 : pg_cd 89 41 = (38, 3, 0, 0, (-37)) := by decide +kernel
theorem c_89_44 : pg_cd 89 44 = (3, 1, 0, 2, 0) := by decide +kernel
theorem c_89_45 : pg_cd 89 45 = (91, 0, 0, 0, 0) := by decide +kernel
theorem mx_89 : pg_mx 89 = 4 := by decide +kernel
theorem m_89 {d : Nat} {h : ab_H} {Q : Option Value → ab_H → Prop} {x0 : Nat} {x1 : Int32} (t : wq d 89 0 [.ref x0, .int x1, .retAddr 0, .retAddr 0] [] h Q) : wm d 89 [.ref x0, .int x1] h Q := by
  unfold wm
  rw [mx_89]
  exact t
set_option maxRecDepth 20000 in
theorem t_89_0 {d : Nat} {h : ab_H} {Q : Option Value → ab_H → Prop} {x0 : Nat} {x1 : Int32} (t : wq d 89 4 [.ref x0, .int x1, .int 0, .int 0] [] h Q) : wq d 89 0 [.ref x0, .int x1, .retAddr 0, .retAddr 0] [] h Q := by
  refine g1 c_89_0 k_0 ?_
  refine g6 (L' := [.ref x0, .int x1, .int 0, .retAddr 0]) c_89_1 rfl ?_
  refine g1 c_89_2 k_0 ?_
  refine g6 (L' := [.ref x0, .int x1, .int 0, .int 0]) c_89_3 rfl ?_
  exact t
set_option maxRecDepth 20000 in
theorem t_89_4 {d : Nat} {h : ab_H} {Q : Option Value → ab_H → Prop} {x0 : Nat} {x1 : Int32} {x2 : Int32} {x3 : Int32} (t : ab_ok h x0 108 = true ∧ ∃ j1 : Nat, ab_r h x0 6 = some j1 ∧ ab_ok h j1 104 = true ∧ if (ab_i h j1 2) ≤ x3 then ((x2 = 0 ∨ x2 = 1) ∧ Q (some (.int x2)) h) else (if x2 = 0 then (ab_ok h x0 108 = true ∧ ∃ j2 : Nat, ab_r h x0 6 = some j2 ∧ ab_ok h j2 104 = true ∧ wm d 55 [.ref j2, .int x3, .int 0] h (fun r9 h9 => wq (d + 1) 89 28 [.ref x0, .int x1, .int x2, .int x3] (r9.toList ++ []) h9 Q)) else (wq (d + 1) 89 4 [.ref x0, .int x1, .int 1, .int (x3 + 1)] [] h Q))) : wq (d + 1) 89 4 [.ref x0, .int x1, .int x2, .int x3] [] h Q := by
  refine g3 c_89_4 rfl ?_
  refine g5 c_89_5 rfl ?_
  obtain ⟨ho, j1, hr, t⟩ := t
  refine g45 c_89_6 ho hr ?_
  obtain ⟨ho, t⟩ := t
  refine g43 c_89_9 ho ?_
  refine gcm c_89_12 (gbr t rfl rfl (fun hc t => ?_) (fun hc t => ?_))
  · refine g3 c_89_44 rfl ?_
    exact g91 c_89_45 t
  · refine g3 c_89_15 rfl ?_
    refine gif c_89_16 (gbn t (ab_c1 _ _) rfl (fun hc t => ?_) (fun hc t => ?_))
    · refine g5 c_89_19 rfl ?_
      obtain ⟨ho, j2, hr, t⟩ := t
      refine g45 c_89_20 ho hr ?_
      refine g3 c_89_23 rfl ?_
      refine g1 c_89_24 k_0 ?_
      exact g80 (As := [.int x3, .int 0]) (rest := []) c_89_25 rfl rfl (Nat.le_of_ble_eq_true rfl) (Nat.le_of_ble_eq_true rfl) t.1 t.2
    · refine g1 c_89_32 k_1 ?_
      refine g38 c_89_33 rfl ?_
      refine g6 (L' := [.ref x0, .int x1, .int 1, .int x3]) c_89_37 rfl ?_
      refine g9 (L' := [.ref x0, .int x1, .int 1, .int (x3 + 1)]) c_89_38 rfl k_1 rfl ?_
      refine g38 c_89_41 rfl ?_
      exact t
set_option maxRecDepth 20000 in
theorem t_89_28 {d : Nat} {h : ab_H} {Q : Option Value → ab_H → Prop} {x0 : Nat} {x1 : Int32} {x2 : Int32} {x3 : Int32} {s0 : Int32} (t : if s0 = x1 then (wq d 89 4 [.ref x0, .int x1, .int 1, .int (x3 + 1)] [] h Q) else (wq d 89 4 [.ref x0, .int x1, .int 0, .int (x3 + 1)] [] h Q)) : wq d 89 28 [.ref x0, .int x1, .int x2, .int x3] [.int s0] h Q := by
  refine g3 c_89_28 rfl ?_
  refine gcm c_89_29 (gbn t (ab_c1 _ _) rfl (fun hc t => ?_) (fun hc t => ?_))
  · refine g1 c_89_32 k_1 ?_
    refine g38 c_89_33 rfl ?_
    refine g6 (L' := [.ref x0, .int x1, .int 1, .int x3]) c_89_37 rfl ?_
    refine g9 (L' := [.ref x0, .int x1, .int 1, .int (x3 + 1)]) c_89_38 rfl k_1 rfl ?_
    refine g38 c_89_41 rfl ?_
    exact t
  · refine g1 c_89_36 k_0 ?_
    refine g6 (L' := [.ref x0, .int x1, .int 0, .int x3]) c_89_37 rfl ?_
    refine g9 (L' := [.ref x0, .int x1, .int 0, .int (x3 + 1)]) c_89_38 rfl k_1 rfl ?_
    refine g38 c_89_41 rfl ?_
    exact t
-- method 90: MillTown$Town.priceIn(II)I
theorem c_90_0 : pg_cd 90 0 = (3, 1, 0, 2, 0) := by decide +kernel
theorem c_90_1 : pg_cd 90 1 = (6, 1, 0, 3, 0) := by decide +kernel
theorem c_90_2 : pg_cd 90 2 = (3, 1, 0, 3, 0) := by decide +kernel
theorem c_90_3 : pg_cd 90 3 = (36, 3, 0, 2, 37) := by decide +kernel
theorem c_90_6 : pg_cd 90 6 = (5, 1, 0, 0, 0) := by decide +kernel
theorem c_90_7 : pg_cd 90 7 = (45, 8, 20, 1, 0) := by decide +kernel
theorem c_90_10 : pg_cd 90 10 = (3, 1, 0, 1, 0) := by decide +kernel
theorem c_90_11 : pg_cd 90 11 = (3, 1, 0, 3, 0) := by decide +kernel
theorem c_90_12 : pg_cd 90 12 = (80, 55, 92, 0, 0) := by decide +kernel
theorem c_90_15 : pg_cd 90 15 = (6, 2, 0, 4, 0) := by decide +kernel
theorem c_90_17 : pg_cd 90 17 = (3, 2, 0, 4, 0) := by decide +kernel
theorem c_90_19 : pg_cd 90 19 = (36, 3, 0, 1, 6) := by decide +kernel
theorem c_90_22 : pg_cd 90 22 = (38, 3, 0, 0, 18) := by decide +kernel
theorem c_90_25 : pg_cd 90 25 = (3, 2, 0, 4, 0) := by decide +kernel
theorem c_90_27 : pg_cd 90 27 = (1, 1, 0, 0, (-1)) := by decide +kernel
theorem c_90_28 : pg_cd 90 28 = (37, 3, 0, 0, 6) := by decide +kernel
theorem c_90_31 : pg_cd 90 31 = (3, 2, 0, 4, 0) := by decide +kernel
theorem c_90_33 : pg_cd 90 33 = (90, 0, 0, 0, 0) := by decide +kernel
theorem c_90_34 : pg_cd 90 34 = (9, 3, 0, 3, (-1)) := by decide +kernel
theorem c_90_37 : pg_cd 90 37 = (38, 3, 0, 0, (-35)) := by decide +kernel
theorem c_90_40 : pg_cd 90 40 = (5, 1, 0, 0, 0) := by decide +kernel
theorem c_90_41 : pg_cd 90 41 = (45, 8, 20, 1, 0) := by decide +kernel
theorem c_90_44 : pg_cd 90 44 = (3, 1, 0, 1, 0) := by decide +kernel
theorem c_90_45 : pg_cd 90 45 = (1, 3, 0, 0, 400) := by decide +kernel
theorem c_90_48 : pg_cd 90 48 = (80, 55, 92, 0, 0) := by decide +kernel
theorem c_90_51 : pg_cd 90 51 = (90, 0, 0, 0, 0) := by decide +kernel
theorem mx_90 : pg_mx 90 = 5 := by decide +kernel
theorem m_90 {d : Nat} {h : ab_H} {Q : Option Value → ab_H → Prop} {x0 : Nat} {x1 : Int32} {x2 : Int32} (t : wq d 90 0 [.ref x0, .int x1, .int x2, .retAddr 0, .retAddr 0] [] h Q) : wm d 90 [.ref x0, .int x1, .int x2] h Q := by
  unfold wm
  rw [mx_90]
  exact t
set_option maxRecDepth 20000 in
theorem t_90_0 {d : Nat} {h : ab_H} {Q : Option Value → ab_H → Prop} {x0 : Nat} {x1 : Int32} {x2 : Int32} (t : wq d 90 2 [.ref x0, .int x1, .int x2, .int x2, .retAddr 0] [] h Q) : wq d 90 0 [.ref x0, .int x1, .int x2, .retAddr 0, .retAddr 0] [] h Q := by
  refine g3 c_90_0 rfl ?_
  refine g6 (L' := [.ref x0, .int x1, .int x2, .int x2, .retAddr 0]) c_90_1 rfl ?_
  exact t
set_option maxRecDepth 20000 in
theorem t_90_2 {d : Nat} {h : ab_H} {Q : Option Value → ab_H → Prop} {x0 : Nat} {x1 : Int32} {x2 : Int32} {x3 : Int32} (t : if x3 < 0 then (ab_ok h x0 108 = true ∧ ∃ j1 : Nat, ab_r h x0 1 = some j1 ∧ ab_ok h j1 104 = true ∧ wm d 55 [.ref j1, .int x1, .int 400] h (fun r9 h9 => wq (d + 1) 90 51 [.ref x0, .int x1, .int x2, .int x3, .retAddr 0] (r9.toList ++ []) h9 Q)) else (ab_ok h x0 108 = true ∧ ∃ j2 : Nat, ab_r h x0 1 = some j2 ∧ ab_ok h j2 104 = true ∧ wm d 55 [.ref j2, .int x1, .int x3] h (fun r9 h9 => wq (d + 1) 90 15 [.ref x0, .int x1, .int x2, .int x3, .retAddr 0] (r9.toList ++ []) h9 Q))) : wq (d + 1) 90 2 [.ref x0, .int x1, .int x2, .int x3, .retAddr 0] [] h Q := by
  refine g3 c_90_2 rfl ?_
  refine gif c_90_3 (gbr t rfl rfl (fun hc t => ?_) (fun hc t => ?_))
  · refine g5 c_90_40 rfl ?_
    obtain ⟨ho, j1, hr, t⟩ := t
    refine g45 c_90_41 ho hr ?_
    refine g3 c_90_44 rfl ?_
    refine g1 c_90_45 k_400 ?_
    exact g80 (As := [.int x1, .int 400]) (rest := []) c_90_48 rfl rfl (Nat.le_of_ble_eq_true rfl) (Nat.le_of_ble_eq_true rfl) t.1 t.2
  · refine g5 c_90_6 rfl ?_
    obtain ⟨ho, j2, hr, t⟩ := t
    refine g45 c_90_7 ho hr ?_
    refine g3 c_90_10 rfl ?_
    refine g3 c_90_11 rfl ?_
    exact g80 (As := [.int x1, .int x3]) (rest := []) c_90_12 rfl rfl (Nat.le_of_ble_eq_true rfl) (Nat.le_of_ble_eq_true rfl) t.1 t.2
set_option maxRecDepth 20000 in
theorem t_90_15 {d : Nat} {h : ab_H} {Q : Option Value → ab_H → Prop} {x0 : Nat} {x1 : Int32} {x2 : Int32} {x3 : Int32} {s0 : Int32} (t : if s0 = 0 then (ab_ok h x0 108 = true ∧ ∃ j1 : Nat, ab_r h x0 1 = some j1 ∧ ab_ok h j1 104 = true ∧ wm d 55 [.ref j1, .int x1, .int 400] h (fun r9 h9 => wq (d + 1) 90 51 [.ref x0, .int x1, .int x2, .int x3, .int s0] (r9.toList ++ []) h9 Q)) else (if s0 = (-1) then (wq (d + 1) 90 2 [.ref x0, .int x1, .int x2, .int (x3 + (-1)), .int s0] [] h Q) else (Q (some (.int s0)) h))) : wq (d + 1) 90 15 [.ref x0, .int x1, .int x2, .int x3, .retAddr 0] [.int s0] h Q := by
  refine g6 (L' := [.ref x0, .int x1, .int x2, .int x3, .int s0]) c_90_15 rfl ?_
  refine g3 c_90_17 rfl ?_
  refine gif c_90_19 (gbn t (ab_c1 _ _) rfl (fun hc t => ?_) (fun hc t => ?_))
  · refine g38 c_90_22 rfl ?_
    refine g5 c_90_40 rfl ?_
    obtain ⟨ho, j1, hr, t⟩ := t
    refine g45 c_90_41 ho hr ?_
    refine g3 c_90_44 rfl ?_
    refine g1 c_90_45 k_400 ?_
    exact g80 (As := [.int x1, .int 400]) (rest := []) c_90_48 rfl rfl (Nat.le_of_ble_eq_true rfl) (Nat.le_of_ble_eq_true rfl) t.1 t.2
  · refine g3 c_90_25 rfl ?_
    refine g1 c_90_27 k_m1 ?_
    refine gcm c_90_28 (gbr t rfl rfl (fun hc t => ?_) (fun hc t => ?_))
    · refine g9 (L' := [.ref x0, .int x1, .int x2, .int (x3 + (-1)), .int s0]) c_90_34 rfl k_m1 rfl ?_
      refine g38 c_90_37 rfl ?_
      exact t
    · refine g3 c_90_31 rfl ?_
      exact g90 c_90_33 t
set_option maxRecDepth 20000 in
theorem t_90_51 {d : Nat} {h : ab_H} {Q : Option Value → ab_H → Prop} {x0 : Nat} {x1 : Int32} {x2 : Int32} {x3 : Int32} {s0 : Int32} (t : Q (some (.int s0)) h) : wq d 90 51 [.ref x0, .int x1, .int x2, .int x3, .retAddr 0] [.int s0] h Q := by
  exact g90 c_90_51 t
-- method 91: MillTown$Town.addMill(IIII)I
theorem c_91_0 : pg_cd 91 0 = (5, 1, 0, 0, 0) := by decide +kernel
theorem c_91_1 : pg_cd 91 1 = (45, 8, 23, 2, 0) := by decide +kernel
theorem c_91_4 : pg_cd 91 4 = (80, 54, 52, 0, 0) := by decide +kernel
theorem c_91_7 : pg_cd 91 7 = (6, 2, 0, 5, 0) := by decide +kernel
theorem c_91_9 : pg_cd 91 9 = (5, 1, 0, 0, 0) := by decide +kernel
theorem c_91_10 : pg_cd 91 10 = (45, 8, 23, 2, 0) := by decide +kernel
theorem c_91_13 : pg_cd 91 13 = (3, 2, 0, 5, 0) := by decide +kernel
theorem c_91_15 : pg_cd 91 15 = (1, 1, 0, 0, 0) := by decide +kernel
theorem c_91_16 : pg_cd 91 16 = (3, 1, 0, 1, 0) := by decide +kernel
theorem c_91_17 : pg_cd 91 17 = (80, 56, 60, 0, 0) := by decide +kernel
theorem c_91_20 : pg_cd 91 20 = (5, 1, 0, 0, 0) := by decide +kernel
theorem c_91_21 : pg_cd 91 21 = (45, 8, 23, 2, 0) := by decide +kernel
theorem c_91_24 : pg_cd 91 24 = (3, 2, 0, 5, 0) := by decide +kernel
theorem c_91_26 : pg_cd 91 26 = (1, 2, 0, 0, 10) := by decide +kernel
theorem c_91_28 : pg_cd 91 28 = (3, 1, 0, 2, 0) := by decide +kernel
theorem c_91_29 : pg_cd 91 29 = (80, 56, 60, 0, 0) := by decide +kernel
theorem c_91_32 : pg_cd 91 32 = (5, 1, 0, 0, 0) := by decide +kernel
theorem c_91_33 : pg_cd 91 33 = (45, 8, 23, 2, 0) := by decide +kernel
theorem c_91_36 : pg_cd 91 36 = (3, 2, 0, 5, 0) := by decide +kernel
theorem c_91_38 : pg_cd 91 38 = (1, 1, 0, 0, 2) := by decide +kernel
theorem c_91_39 : pg_cd 91 39 = (3, 1, 0, 3, 0) := by decide +kernel
theorem c_91_40 : pg_cd 91 40 = (80, 56, 60, 0, 0) := by decide +kernel
theorem c_91_43 : pg_cd 91 43 = (5, 1, 0, 0, 0) := by decide +kernel
theorem c_91_44 : pg_cd 91 44 = (45, 8, 23, 2, 0) := by decide +kernel
theorem c_91_47 : pg_cd 91 47 = (3, 2, 0, 5, 0) := by decide +kernel
theorem c_91_49 : pg_cd 91 49 = (1, 2, 0, 0, 11) := by decide +kernel
theorem c_91_51 : pg_cd 91 51 = (3, 2, 0, 4, 0) := by decide +kernel
theorem c_91_53 : pg_cd 91 53 = (80, 56, 60, 0, 0) := by decide +kernel
theorem c_91_56 : pg_cd 91 56 = (5, 1, 0, 0, 0) := by decide +kernel
theorem c_91_57 : pg_cd 91 57 = (45, 8, 23, 2, 0) := by decide +kernel
theorem c_91_60 : pg_cd 91 60 = (3, 2, 0, 5, 0) := by decide +kernel
theorem c_91_62 : pg_cd 91 62 = (1, 2, 0, 0, 6) := by decide +kernel
theorem c_91_64 : pg_cd 91 64 = (1, 1, 0, 0, (-1)) := by decide +kernel
theorem c_91_65 : pg_cd 91 65 = (80, 56, 60, 0, 0) := by decide +kernel
theorem c_91_68 : pg_cd 91 68 = (5, 1, 0, 0, 0) := by decide +kernel
theorem c_91_69 : pg_cd 91 69 = (45, 8, 23, 2, 0) := by decide +kernel
theorem c_91_72 : pg_cd 91 72 = (3, 2, 0, 5, 0) := by decide +kernel
theorem c_91_74 : pg_cd 91 74 = (1, 2, 0, 0, 8) := by decide +kernel
theorem c_91_76 : pg_cd 91 76 = (1, 1, 0, 0, (-1)) := by decide +kernel
theorem c_91_77 : pg_cd 91 77 = (80, 56, 60, 0, 0) := by decide +kernel
theorem c_91_80 : pg_cd 91 80 = (3, 2, 0, 5, 0) := by decide +kernel
theorem c_91_82 : pg_cd 91 82 = (90, 0, 0, 0, 0) := by decide +kernel
theorem mx_91 : pg_mx 91 = 6 := by decide +kernel
theorem m_91 {d : Nat} {h : ab_H} {Q : Option Value → ab_H → Prop} {x0 : Nat} {x1 : Int32} {x2 : Int32} {x3 : Int32} {x4 : Int32} (t : wq d 91 0 [.ref x0, .int x1, .int x2, .int x3, .int x4, .retAddr 0] [] h Q) : wm d 91 [.ref x0, .int x1, .int x2, .int x3, .int x4] h Q := by
  unfold wm
  rw [mx_91]
  exact t
set_option maxRecDepth 20000 in
theorem t_91_0 {d : Nat} {h : ab_H} {Q : Option Value → ab_H → Prop} {x0 : Nat} {x1 : Int32} {x2 : Int32} {x3 : Int32} {x4 : Int32} (t : ab_ok h x0 108 = true ∧ ∃ j1 : Nat, ab_r h x0 2 = some j1 ∧ ab_ok h j1 104 = true ∧ wm d 54 [.ref j1] h (fun r9 h9 => wq (d + 1) 91 7 [.ref x0, .int x1, .int x2, .int x3, .int x4, .retAddr 0] (r9.toList ++ []) h9 Q)) : wq (d + 1) 91 0 [.ref x0, .int x1, .int x2, .int x3, .int x4, .retAddr 0] [] h Q := by
  refine g5 c_91_0 rfl ?_
  obtain ⟨ho, j1, hr, t⟩ := t
  refine g45 c_91_1 ho hr ?_
  exact g80 (As := []) (rest := []) c_91_4 rfl rfl (Nat.le_of_ble_eq_true rfl) (Nat.le_of_ble_eq_true rfl) t.1 t.2
set_option maxRecDepth 20000 in
theorem t_91_7 {d : Nat} {h : ab_H} {Q : Option Value → ab_H → Prop} {x0 : Nat} {x1 : Int32} {x2 : Int32} {x3 : Int32} {x4 : Int32} {s0 : Int32} (t : ab_ok h x0 108 = true ∧ ∃ j1 : Nat, ab_r h x0 2 = some j1 ∧ ab_ok h j1 104 = true ∧ wm d 56 [.ref j1, .int s0, .int 0, .int x1] h (fun r9 h9 => wq (d + 1) 91 20 [.ref x0, .int x1, .int x2, .int x3, .int x4, .int s0] (r9.toList ++ []) h9 Q)) : wq (d + 1) 91 7 [.ref x0, .int x1, .int x2, .int x3, .int x4, .retAddr 0] [.int s0] h Q := by
  refine g6 (L' := [.ref x0, .int x1, .int x2, .int x3, .int x4, .int s0]) c_91_7 rfl ?_
  refine g5 c_91_9 rfl ?_
  obtain ⟨ho, j1, hr, t⟩ := t
  refine g45 c_91_10 ho hr ?_
  refine g3 c_91_13 rfl ?_
  refine g1 c_91_15 k_0 ?_
  refine g3 c_91_16 rfl ?_
  exact g80 (As := [.int s0, .int 0, .int x1]) (rest := []) c_91_17 rfl rfl (Nat.le_of_ble_eq_true rfl) (Nat.le_of_ble_eq_true rfl) t.1 t.2
set_option maxRecDepth 20000 in
theorem t_91_20 {d : Nat} {h : ab_H} {Q : Option Value → ab_H → Prop} {x0 : Nat} {x1 : Int32} {x2 : Int32} {x3 : Int32} {x4 : Int32} {x5 : Int32} (t : ab_ok h x0 108 = true ∧ ∃ j1 : Nat, ab_r h x0 2 = some j1 ∧ ab_ok h j1 104 = true ∧ wm d 56 [.ref j1, .int x5, .int 10, .int x2] h (fun r9 h9 => wq (d + 1) 91 32 [.ref x0, .int x1, .int x2, .int x3, .int x4, .int x5] (r9.toList ++ []) h9 Q)) : wq (d + 1) 91 20 [.ref x0, .int x1, .int x2, .int x3, .int x4, .int x5] [] h Q := by
  refine g5 c_91_20 rfl ?_
  obtain ⟨ho, j1, hr, t⟩ := t
  refine g45 c_91_21 ho hr ?_
  refine g3 c_91_24 rfl ?_
  refine g1 c_91_26 k_10 ?_
  refine g3 c_91_28 rfl ?_
  exact g80 (As := [.int x5, .int 10, .int x2]) (rest := []) c_91_29 rfl rfl (Nat.le_of_ble_eq_true rfl) (Nat.le_of_ble_eq_true rfl) t.1 t.2
set_option maxRecDepth 20000 in
theorem t_91_32 {d : Nat} {h : ab_H} {Q : Option Value → ab_H → Prop} {x0 : Nat} {x1 : Int32} {x2 : Int32} {x3 : Int32} {x4 : Int32} {x5 : Int32} (t : ab_ok h x0 108 = true ∧ ∃ j1 : Nat, ab_r h x0 2 = some j1 ∧ ab_ok h j1 104 = true ∧ wm d 56 [.ref j1, .int x5, .int 2, .int x3] h (fun r9 h9 => wq (d + 1) 91 43 [.ref x0, .int x1, .int x2, .int x3, .int x4, .int x5] (r9.toList ++ []) h9 Q)) : wq (d + 1) 91 32 [.ref x0, .int x1, .int x2, .int x3, .int x4, .int x5] [] h Q := by
  refine g5 c_91_32 rfl ?_
  obtain ⟨ho, j1, hr, t⟩ := t
  refine g45 c_91_33 ho hr ?_
  refine g3 c_91_36 rfl ?_
  refine g1 c_91_38 k_2 ?_
  refine g3 c_91_39 rfl ?_
  exact g80 (As := [.int x5, .int 2, .int x3]) (rest := []) c_91_40 rfl rfl (Nat.le_of_ble_eq_true rfl) (Nat.le_of_ble_eq_true rfl) t.1 t.2
set_option maxRecDepth 20000 in
theorem t_91_43 {d : Nat} {h : ab_H} {Q : Option Value → ab_H → Prop} {x0 : Nat} {x1 : Int32} {x2 : Int32} {x3 : Int32} {x4 : Int32} {x5 : Int32} (t : ab_ok h x0 108 = true ∧ ∃ j1 : Nat, ab_r h x0 2 = some j1 ∧ ab_ok h j1 104 = true ∧ wm d 56 [.ref j1, .int x5, .int 11, .int x4] h (fun r9 h9 => wq (d + 1) 91 56 [.ref x0, .int x1, .int x2, .int x3, .int x4, .int x5] (r9.toList ++ []) h9 Q)) : wq (d + 1) 91 43 [.ref x0, .int x1, .int x2, .int x3, .int x4, .int x5] [] h Q := by
  refine g5 c_91_43 rfl ?_
  obtain ⟨ho, j1, hr, t⟩ := t
  refine g45 c_91_44 ho hr ?_
  refine g3 c_91_47 rfl ?_
  refine g1 c_91_49 k_11 ?_
  refine g3 c_91_51 rfl ?_
  exact g80 (As := [.int x5, .int 11, .int x4]) (rest := []) c_91_53 rfl rfl (Nat.le_of_ble_eq_true rfl) (Nat.le_of_ble_eq_true rfl) t.1 t.2
set_option maxRecDepth 20000 in
theorem t_91_56 {d : Nat} {h : ab_H} {Q : Option Value → ab_H → Prop} {x0 : Nat} {x1 : Int32} {x2 : Int32} {x3 : Int32} {x4 : Int32} {x5 : Int32} (t : ab_ok h x0 108 = true ∧ ∃ j1 : Nat, ab_r h x0 2 = some j1 ∧ ab_ok h j1 104 = true ∧ wm d 56 [.ref j1, .int x5, .int 6, .int (-1)] h (fun r9 h9 => wq (d + 1) 91 68 [.ref x0, .int x1, .int x2, .int x3, .int x4, .int x5] (r9.toList ++ []) h9 Q)) : wq (d + 1) 91 56 [.ref x0, .int x1, .int x2, .int x3, .int x4, .int x5] [] h Q := by
  refine g5 c_91_56 rfl ?_
  obtain ⟨ho, j1, hr, t⟩ := t
  refine g45 c_91_57 ho hr ?_
  refine g3 c_91_60 rfl ?_
  refine g1 c_91_62 k_6 ?_
  refine g1 c_91_64 k_m1 ?_
  exact g80 (As := [.int x5, .int 6, .int (-1)]) (rest := []) c_91_65 rfl rfl (Nat.le_of_ble_eq_true rfl) (Nat.le_of_ble_eq_true rfl) t.1 t.2
set_option maxRecDepth 20000 in
theorem t_91_68 {d : Nat} {h : ab_H} {Q : Option Value → ab_H → Prop} {x0 : Nat} {x1 : Int32} {x2 : Int32} {x3 : Int32} {x4 : Int32} {x5 : Int32} (t : ab_ok h x0 108 = true ∧ ∃ j1 : Nat, ab_r h x0 2 = some j1 ∧ ab_ok h j1 104 = true ∧ wm d 56 [.ref j1, .int x5, .int 8, .int (-1)] h (fun r9 h9 => wq (d + 1) 91 80 [.ref x0, .int x1, .int x2, .int x3, .int x4, .int x5] (r9.toList ++ []) h9 Q)) : wq (d + 1) 91 68 [.ref x0, .int x1, .int x2, .int x3, .int x4, .int x5] [] h Q := by
  refine g5 c_91_68 rfl ?_
  obtain ⟨ho, j1, hr, t⟩ := t
  refine g45 c_91_69 ho hr ?_
  refine g3 c_91_72 rfl ?_
  refine g1 c_91_74 k_8 ?_
  refine g1 c_91_76 k_m1 ?_
  exact g80 (As := [.int x5, .int 8, .int (-1)]) (rest := []) c_91_77 rfl rfl (Nat.le_of_ble_eq_true rfl) (Nat.le_of_ble_eq_true rfl) t.1 t.2
set_option maxRecDepth 20000 in
theorem t_91_80 {d : Nat} {h : ab_H} {Q : Option Value → ab_H → Prop} {x0 : Nat} {x1 : Int32} {x2 : Int32} {x3 : Int32} {x4 : Int32} {x5 : Int32} (t : Q (some (.int x5)) h) : wq d 91 80 [.ref x0, .int x1, .int x2, .int x3, .int x4, .int x5] [] h Q := by
  refine g3 c_91_80 rfl ?_
  exact g90 c_91_82 t
-- method 92: MillTown$Town.addShop(III)I
theorem c_92_0 : pg_cd 92 0 = (5, 1, 0, 0, 0) := by decide +kernel
theorem c_92_1 : pg_cd 92 1 = (45, 8, 26, 3, 0) := by decide +kernel
theorem c_92_4 : pg_cd 92 4 = (80, 54, 52, 0, 0) := by decide +kernel
theorem c_92_7 : pg_cd 92 7 = (6, 2, 0, 4, 0) := by decide +kernel
theorem c_92_9 : pg_cd 92 9 = (5, 1, 0, 0, 0) := by decide +kernel
theorem c_92_10 : pg_cd 92 10 = (45, 8, 26, 3, 0) := by decide +kernel
theorem c_92_13 : pg_cd 92 13 = (3, 2, 0, 4, 0) := by decide +kernel
theorem c_92_15 : pg_cd 92 15 = (1, 1, 0, 0, 0) := by decide +kernel
theorem c_92_16 : pg_cd 92 16 = (3, 1, 0, 1, 0) := by decide +kernel
theorem c_92_17 : pg_cd 92 17 = (80, 56, 60, 0, 0) := by decide +kernel
theorem c_92_20 : pg_cd 92 20 = (5, 1, 0, 0, 0) := by decide +kernel
theorem c_92_21 : pg_cd 92 21 = (45, 8, 26, 3, 0) := by decide +kernel
theorem c_92_24 : pg_cd 92 24 = (3, 2, 0, 4, 0) := by decide +kernel
theorem c_92_26 : pg_cd 92 26 = (1, 1, 0, 0, 3) := by decide +kernel
theorem c_92_27 : pg_cd 92 27 = (3, 1, 0, 2, 0) := by decide +kernel
theorem c_92_28 : pg_cd 92 28 = (80, 56, 60, 0, 0) := by decide +kernel
theorem c_92_31 : pg_cd 92 31 = (5, 1, 0, 0, 0) := by decide +kernel
theorem c_92_32 : pg_cd 92 32 = (45, 8, 26, 3, 0) := by decide +kernel
theorem c_92_35 : pg_cd 92 35 = (3, 2, 0, 4, 0) := by decide +kernel
theorem c_92_37 : pg_cd 92 37 = (1, 1, 0, 0, 4) := by decide +kernel
theorem c_92_38 : pg_cd 92 38 = (3, 1, 0, 3, 0) := by decide +kernel
theorem c_92_39 : pg_cd 92 39 = (80, 56, 60, 0, 0) := by decide +kernel
theorem c_92_42 : pg_cd 92 42 = (3, 2, 0, 4, 0) := by decide +kernel
theorem c_92_44 : pg_cd 92 44 = (90, 0, 0, 0, 0) := by decide +kernel
theorem mx_92 : pg_mx 92 = 5 := by decide +kernel
theorem m_92 {d : Nat} {h : ab_H} {Q : Option Value → ab_H → Prop} {x0 : Nat} {x1 : Int32} {x2 : Int32} {x3 : Int32} (t : wq d 92 0 [.ref x0, .int x1, .int x2, .int x3, .retAddr 0] [] h Q) : wm d 92 [.ref x0, .int x1, .int x2, .int x3] h Q := by
  unfold wm
  rw [mx_92]
  exact t
set_option maxRecDepth 20000 in
theorem t_92_0 {d : Nat} {h : ab_H} {Q : Option Value → ab_H → Prop} {x0 : Nat} {x1 : Int32} {x2 : Int32} {x3 : Int32} (t : ab_ok h x0 108 = true ∧ ∃ j1 : Nat, ab_r h x0 3 = some j1 ∧ ab_ok h j1 104 = true ∧ wm d 54 [.ref j1] h (fun r9 h9 => wq (d + 1) 92 7 [.ref x0, .int x1, .int x2, .int x3, .retAddr 0] (r9.toList ++ []) h9 Q)) : wq (d + 1) 92 0 [.ref x0, .int x1, .int x2, .int x3, .retAddr 0] [] h Q := by
  refine g5 c_92_0 rfl ?_
  obtain ⟨ho, j1, hr, t⟩ := t
  refine g45 c_92_1 ho hr ?_
  exact g80 (As := []) (rest := []) c_92_4 rfl rfl (Nat.le_of_ble_eq_true rfl) (Nat.le_of_ble_eq_true rfl) t.1 t.2
set_option maxRecDepth 20000 in
theorem t_92_7 {d : Nat} {h : ab_H} {Q : Option Value → ab_H → Prop} {x0 : Nat} {x1 : Int32} {x2 : Int32} {x3 : Int32} {s0 : Int32} (t : ab_ok h x0 108 = true ∧ ∃ j1 : Nat, ab_r h x0 3 = some j1 ∧ ab_ok h j1 104 = true ∧ wm d 56 [.ref j1, .int s0, .int 0, .int x1] h (fun r9 h9 => wq (d + 1) 92 20 [.ref x0, .int x1, .int x2, .int x3, .int s0] (r9.toList ++ []) h9 Q)) : wq (d + 1) 92 7 [.ref x0, .int x1, .int x2, .int x3, .retAddr 0] [.int s0] h Q := by
  refine g6 (L' := [.ref x0, .int x1, .int x2, .int x3, .int s0]) c_92_7 rfl ?_
  refine g5 c_92_9 rfl ?_
  obtain ⟨ho, j1, hr, t⟩ := t
  refine g45 c_92_10 ho hr ?_
  refine g3 c_92_13 rfl ?_
  refine g1 c_92_15 k_0 ?_
  refine g3 c_92_16 rfl ?_
  exact g80 (As := [.int s0, .int 0, .int x1]) (rest := []) c_92_17 rfl rfl (Nat.le_of_ble_eq_true rfl) (Nat.le_of_ble_eq_true rfl) t.1 t.2
set_option maxRecDepth 20000 in
theorem t_92_20 {d : Nat} {h : ab_H} {Q : Option Value → ab_H → Prop} {x0 : Nat} {x1 : Int32} {x2 : Int32} {x3 : Int32} {x4 : Int32} (t : ab_ok h x0 108 = true ∧ ∃ j1 : Nat, ab_r h x0 3 = some j1 ∧ ab_ok h j1 104 = true ∧ wm d 56 [.ref j1, .int x4, .int 3, .int x2] h (fun r9 h9 => wq (d + 1) 92 31 [.ref x0, .int x1, .int x2, .int x3, .int x4] (r9.toList ++ []) h9 Q)) : wq (d + 1) 92 20 [.ref x0, .int x1, .int x2, .int x3, .int x4] [] h Q := by
  refine g5 c_92_20 rfl ?_
  obtain ⟨ho, j1, hr, t⟩ := t
  refine g45 c_92_21 ho hr ?_
  refine g3 c_92_24 rfl ?_
  refine g1 c_92_26 k_3 ?_
  refine g3 c_92_27 rfl ?_
  exact g80 (As := [.int x4, .int 3, .int x2]) (rest := []) c_92_28 rfl rfl (Nat.le_of_ble_eq_true rfl) (Nat.le_of_ble_eq_true rfl) t.1 t.2
set_option maxRecDepth 20000 in
theorem t_92_31 {d : Nat} {h : ab_H} {Q : Option Value → ab_H → Prop} {x0 : Nat} {x1 : Int32} {x2 : Int32} {x3 : Int32} {x4 : Int32} (t : ab_ok h x0 108 = true ∧ ∃ j1 : Nat, ab_r h x0 3 = some j1 ∧ ab_ok h j1 104 = true ∧ wm d 56 [.ref j1, .int x4, .int 4, .int x3] h (fun r9 h9 => wq (d + 1) 92 42 [.ref x0, .int x1, .int x2, .int x3, .int x4] (r9.toList ++ []) h9 Q)) : wq (d + 1) 92 31 [.ref x0, .int x1, .int x2, .int x3, .int x4] [] h Q := by
  refine g5 c_92_31 rfl ?_
  obtain ⟨ho, j1, hr, t⟩ := t
  refine g45 c_92_32 ho hr ?_
  refine g3 c_92_35 rfl ?_
  refine g1 c_92_37 k_4 ?_
  refine g3 c_92_38 rfl ?_
  exact g80 (As := [.int x4, .int 4, .int x3]) (rest := []) c_92_39 rfl rfl (Nat.le_of_ble_eq_true rfl) (Nat.le_of_ble_eq_true rfl) t.1 t.2
set_option maxRecDepth 20000 in
theorem t_92_42 {d : Nat} {h : ab_H} {Q : Option Value → ab_H → Prop} {x0 : Nat} {x1 : Int32} {x2 : Int32} {x3 : Int32} {x4 : Int32} (t : Q (some (.int x4)) h) : wq d 92 42 [.ref x0, .int x1, .int x2, .int x3, .int x4] [] h Q := by
  refine g3 c_92_42 rfl ?_
  exact g90 c_92_44 t
-- method 93: MillTown$Town.addHome(II)I
theorem c_93_0 : pg_cd 93 0 = (5, 1, 0, 0, 0) := by decide +kernel
theorem c_93_1 : pg_cd 93 1 = (45, 8, 29, 4, 0) := by decide +kernel
theorem c_93_4 : pg_cd 93 4 = (80, 54, 52, 0, 0) := by decide +kernel
theorem c_93_7 : pg_cd 93 7 = (6, 1, 0, 3, 0) := by decide +kernel
theorem c_93_8 : pg_cd 93 8 = (5, 1, 0, 0, 0) := by decide +kernel
theorem c_93_9 : pg_cd 93 9 = (45, 8, 29, 4, 0) := by decide +kernel
theorem c_93_12 : pg_cd 93 12 = (3, 1, 0, 3, 0) := by decide +kernel
theorem c_93_13 : pg_cd 93 13 = (1, 2, 0, 0, 7) := by decide +kernel
theorem c_93_15 : pg_cd 93 15 = (3, 1, 0, 1, 0) := by decide +kernel
theorem c_93_16 : pg_cd 93 16 = (80, 56, 60, 0, 0) := by decide +kernel
theorem c_93_19 : pg_cd 93 19 = (5, 1, 0, 0, 0) := by decide +kernel
theorem c_93_20 : pg_cd 93 20 = (45, 8, 29, 4, 0) := by decide +kernel
theorem c_93_23 : pg_cd 93 23 = (3, 1, 0, 3, 0) := by decide +kernel
theorem c_93_24 : pg_cd 93 24 = (1, 1, 0, 0, 0) := by decide +kernel
theorem c_93_25 : pg_cd 93 25 = (3, 1, 0, 2, 0) := by decide +kernel
theorem c_93_26 : pg_cd 93 26 = (80, 56, 60, 0, 0) := by decide +kernel
theorem c_93_29 : pg_cd 93 29 = (3, 1, 0, 3, 0) := by decide +kernel
theorem c_93_30 : pg_cd 93 30 = (90, 0, 0, 0, 0) := by decide +kernel
theorem mx_93 : pg_mx 93 = 4 := by decide +kernel
theorem m_93 {d : Nat} {h : ab_H} {Q : Option Value → ab_H → Prop} {x0 : Nat} {x1 : Int32} {x2 : Int32} (t : wq d 93 0 [.ref x0, .int x1, .int x2, .retAddr 0] [] h Q) : wm d 93 [.ref x0, .int x1, .int x2] h Q := by
  unfold wm
  rw [mx_93]
  exact t
set_option maxRecDepth 20000 in
theorem t_93_0 {d : Nat} {h : ab_H} {Q : Option Value → ab_H → Prop} {x0 : Nat} {x1 : Int32} {x2 : Int32} (t : ab_ok h x0 108 = true ∧ ∃ j1 : Nat, ab_r h x0 4 = some j1 ∧ ab_ok h j1 104 = true ∧ wm d 54 [.ref j1] h (fun r9 h9 => wq (d + 1) 93 7 [.ref x0, .int x1, .int x2, .retAddr 0] (r9.toList ++ []) h9 Q)) : wq (d + 1) 93 0 [.ref x0, .int x1, .int x2, .retAddr 0] [] h Q := by
  refine g5 c_93_0 rfl ?_
  obtain ⟨ho, j1, hr, t⟩ := t
  refine g45 c_93_1 ho hr ?_
  exact g80 (As := []) (rest := []) c_93_4 rfl rfl (Nat.le_of_ble_eq_true rfl) (Nat.le_of_ble_eq_true rfl) t.1 t.2
set_option maxRecDepth 20000 in
theorem t_93_7 {d : Nat} {h : ab_H} {Q : Option Value → ab_H → Prop} {x0 : Nat} {x1 : Int32} {x2 : Int32} {s0 : Int32} (t : ab_ok h x0 108 = true ∧ ∃ j1 : Nat, ab_r h x0 4 = some j1 ∧ ab_ok h j1 104 = true ∧ wm d 56 [.ref j1, .int s0, .int 7, .int x1] h (fun r9 h9 => wq (d + 1) 93 19 [.ref x0, .int x1, .int x2, .int s0] (r9.toList ++ []) h9 Q)) : wq (d + 1) 93 7 [.ref x0, .int x1, .int x2, .retAddr 0] [.int s0] h Q := by
  refine g6 (L' := [.ref x0, .int x1, .int x2, .int s0]) c_93_7 rfl ?_
  refine g5 c_93_8 rfl ?_
  obtain ⟨ho, j1, hr, t⟩ := t
  refine g45 c_93_9 ho hr ?_
  refine g3 c_93_12 rfl ?_
  refine g1 c_93_13 k_7 ?_
  refine g3 c_93_15 rfl ?_
  exact g80 (As := [.int s0, .int 7, .int x1]) (rest := []) c_93_16 rfl rfl (Nat.le_of_ble_eq_true rfl) (Nat.le_of_ble_eq_true rfl) t.1 t.2
set_option maxRecDepth 20000 in
theorem t_93_19 {d : Nat} {h : ab_H} {Q : Option Value → ab_H → Prop} {x0 : Nat} {x1 : Int32} {x2 : Int32} {x3 : Int32} (t : ab_ok h x0 108 = true ∧ ∃ j1 : Nat, ab_r h x0 4 = some j1 ∧ ab_ok h j1 104 = true ∧ wm d 56 [.ref j1, .int x3, .int 0, .int x2] h (fun r9 h9 => wq (d + 1) 93 29 [.ref x0, .int x1, .int x2, .int x3] (r9.toList ++ []) h9 Q)) : wq (d + 1) 93 19 [.ref x0, .int x1, .int x2, .int x3] [] h Q := by
  refine g5 c_93_19 rfl ?_
  obtain ⟨ho, j1, hr, t⟩ := t
  refine g45 c_93_20 ho hr ?_
  refine g3 c_93_23 rfl ?_
  refine g1 c_93_24 k_0 ?_
  refine g3 c_93_25 rfl ?_
  exact g80 (As := [.int x3, .int 0, .int x2]) (rest := []) c_93_26 rfl rfl (Nat.le_of_ble_eq_true rfl) (Nat.le_of_ble_eq_true rfl) t.1 t.2
set_option maxRecDepth 20000 in
theorem t_93_29 {d : Nat} {h : ab_H} {Q : Option Value → ab_H → Prop} {x0 : Nat} {x1 : Int32} {x2 : Int32} {x3 : Int32} (t : Q (some (.int x3)) h) : wq d 93 29 [.ref x0, .int x1, .int x2, .int x3] [] h Q := by
  refine g3 c_93_29 rfl ?_
  exact g90 c_93_30 t
-- method 94: MillTown$Town.addPerson(III)I
theorem c_94_0 : pg_cd 94 0 = (5, 1, 0, 0, 0) := by decide +kernel
theorem c_94_1 : pg_cd 94 1 = (45, 8, 32, 5, 0) := by decide +kernel
theorem c_94_4 : pg_cd 94 4 = (80, 54, 52, 0, 0) := by decide +kernel
theorem c_94_7 : pg_cd 94 7 = (6, 2, 0, 4, 0) := by decide +kernel
theorem c_94_9 : pg_cd 94 9 = (3, 2, 0, 4, 0) := by decide +kernel
theorem c_94_11 : pg_cd 94 11 = (1, 1, 0, 0, (-1)) := by decide +kernel
theorem c_94_12 : pg_cd 94 12 = (37, 3, 0, 1, 5) := by decide +kernel
theorem c_94_15 : pg_cd 94 15 = (1, 1, 0, 0, (-1)) := by decide +kernel
theorem c_94_16 : pg_cd 94 16 = (90, 0, 0, 0, 0) := by decide +kernel
theorem c_94_17 : pg_cd 94 17 = (5, 1, 0, 0, 0) := by decide +kernel
theorem c_94_18 : pg_cd 94 18 = (45, 8, 32, 5, 0) := by decide +kernel
theorem c_94_21 : pg_cd 94 21 = (3, 2, 0, 4, 0) := by decide +kernel
theorem c_94_23 : pg_cd 94 23 = (1, 1, 0, 0, 0) := by decide +kernel
theorem c_94_24 : pg_cd 94 24 = (3, 1, 0, 1, 0) := by decide +kernel
theorem c_94_25 : pg_cd 94 25 = (80, 56, 60, 0, 0) := by decide +kernel
theorem c_94_28 : pg_cd 94 28 = (5, 1, 0, 0, 0) := by decide +kernel
theorem c_94_29 : pg_cd 94 29 = (45, 8, 32, 5, 0) := by decide +kernel
theorem c_94_32 : pg_cd 94 32 = (3, 2, 0, 4, 0) := by decide +kernel
theorem c_94_34 : pg_cd 94 34 = (1, 1, 0, 0, 1) := by decide +kernel
theorem c_94_35 : pg_cd 94 35 = (3, 1, 0, 2, 0) := by decide +kernel
theorem c_94_36 : pg_cd 94 36 = (80, 56, 60, 0, 0) := by decide +kernel
theorem c_94_39 : pg_cd 94 39 = (5, 1, 0, 0, 0) := by decide +kernel
theorem c_94_40 : pg_cd 94 40 = (45, 8, 32, 5, 0) := by decide +kernel
theorem c_94_43 : pg_cd 94 43 = (3, 2, 0, 4, 0) := by decide +kernel
theorem c_94_45 : pg_cd 94 45 = (1, 1, 0, 0, 2) := by decide +kernel
theorem c_94_46 : pg_cd 94 46 = (3, 1, 0, 3, 0) := by decide +kernel
theorem c_94_47 : pg_cd 94 47 = (80, 56, 60, 0, 0) := by decide +kernel
theorem c_94_50 : pg_cd 94 50 = (5, 1, 0, 0, 0) := by decide +kernel
theorem c_94_51 : pg_cd 94 51 = (3, 2, 0, 4, 0) := by decide +kernel
theorem c_94_53 : pg_cd 94 53 = (80, 102, 96, 0, 0) := by decide +kernel
theorem c_94_56 : pg_cd 94 56 = (5, 1, 0, 0, 0) := by decide +kernel
theorem c_94_57 : pg_cd 94 57 = (45, 8, 29, 4, 0) := by decide +kernel
theorem c_94_60 : pg_cd 94 60 = (3, 1, 0, 1, 0) := by decide +kernel
theorem c_94_61 : pg_cd 94 61 = (1, 1, 0, 0, 4) := by decide +kernel
theorem c_94_62 : pg_cd 94 62 = (1, 1, 0, 0, 1) := by decide +kernel
theorem c_94_63 : pg_cd 94 63 = (80, 57, 100, 0, 0) := by decide +kernel
theorem c_94_66 : pg_cd 94 66 = (5, 1, 0, 0, 0) := by decide +kernel
theorem c_94_67 : pg_cd 94 67 = (45, 8, 29, 4, 0) := by decide +kernel
theorem c_94_70 : pg_cd 94 70 = (3, 1, 0, 1, 0) := by decide +kernel
theorem c_94_71 : pg_cd 94 71 = (1, 1, 0, 0, 3) := by decide +kernel
theorem c_94_72 : pg_cd 94 72 = (3, 1, 0, 2, 0) := by decide +kernel
theorem c_94_73 : pg_cd 94 73 = (1, 2, 0, 0, 13) := by decide +kernel
theorem c_94_75 : pg_cd 94 75 = (37, 3, 0, 2, 7) := by decide +kernel
theorem c_94_78 : pg_cd 94 78 = (1, 1, 0, 0, 4) := by decide +kernel
theorem c_94_79 : pg_cd 94 79 = (38, 3, 0, 0, 4) := by decide +kernel
theorem c_94_82 : pg_cd 94 82 = (1, 1, 0, 0, 2) := by decide +kernel
theorem c_94_83 : pg_cd 94 83 = (80, 57, 100, 0, 0) := by decide +kernel
theorem c_94_86 : pg_cd 94 86 = (3, 2, 0, 4, 0) := by decide +kernel
theorem c_94_88 : pg_cd 94 88 = (90, 0, 0, 0, 0) := by decide +kernel
theorem mx_94 : pg_mx 94 = 5 := by decide +kernel
theorem m_94 {d : Nat} {h : ab_H} {Q : Option Value → ab_H → Prop} {x0 : Nat} {x1 : Int32} {x2 : Int32} {x3 : Int32} (t : wq d 94 0 [.ref x0, .int x1, .int x2, .int x3, .retAddr 0] [] h Q) : wm d 94 [.ref x0, .int x1, .int x2, .int x3] h Q := by
  unfold wm
  rw [mx_94]
  exact t
set_option maxRecDepth 20000 in
theorem t_94_0 {d : Nat} {h : ab_H} {Q : Option Value → ab_H → Prop} {x0 : Nat} {x1 : Int32} {x2 : Int32} {x3 : Int32} (t : ab_ok h x0 108 = true ∧ ∃ j1 : Nat, ab_r h x0 5 = some j1 ∧ ab_ok h j1 104 = true ∧ wm d 54 [.ref j1] h (fun r9 h9 => wq (d + 1) 94 7 [.ref x0, .int x1, .int x2, .int x3, .retAddr 0] (r9.toList ++ []) h9 Q)) : wq (d + 1) 94 0 [.ref x0, .int x1, .int x2, .int x3, .retAddr 0] [] h Q := by
  refine g5 c_94_0 rfl ?_
  obtain ⟨ho, j1, hr, t⟩ := t
  refine g45 c_94_1 ho hr ?_
  exact g80 (As := []) (rest := []) c_94_4 rfl rfl (Nat.le_of_ble_eq_true rfl) (Nat.le_of_ble_eq_true rfl) t.1 t.2
set_option maxRecDepth 20000 in
theorem t_94_7 {d : Nat} {h : ab_H} {Q : Option Value → ab_H → Prop} {x0 : Nat} {x1 : Int32} {x2 : Int32} {x3 : Int32} {s0 : Int32} (t : if s0 = (-1) then (Q (some (.int (-1))) h) else (ab_ok h x0 108 = true ∧ ∃ j1 : Nat, ab_r h x0 5 = some j1 ∧ ab_ok h j1 104 = true ∧ wm d 56 [.ref j1, .int s0, .int 0, .int x1] h (fun r9 h9 => wq (d + 1) 94 28 [.ref x0, .int x1, .int x2, .int x3, .int s0] (r9.toList ++ []) h9 Q))) : wq (d + 1) 94 7 [.ref x0, .int x1, .int x2, .int x3, .retAddr 0] [.int s0] h Q := by
  refine g6 (L' := [.ref x0, .int x1, .int x2, .int x3, .int s0]) c_94_7 rfl ?_
  refine g3 c_94_9 rfl ?_
  refine g1 c_94_11 k_m1 ?_
  refine gcm c_94_12 (gbn t (ab_c1 _ _) rfl (fun hc t => ?_) (fun hc t => ?_))
  · refine g1 c_94_15 k_m1 ?_
    exact g90 c_94_16 t
  · refine g5 c_94_17 rfl ?_
    obtain ⟨ho, j1, hr, t⟩ := t
    refine g45 c_94_18 ho hr ?_
    refine g3 c_94_21 rfl ?_
    refine g1 c_94_23 k_0 ?_
    refine g3 c_94_24 rfl ?_
    exact g80 (As := [.int s0, .int 0, .int x1]) (rest := []) c_94_25 rfl rfl (Nat.le_of_ble_eq_true rfl) (Nat.le_of_ble_eq_true rfl) t.1 t.2
set_option maxRecDepth 20000 in
theorem t_94_28 {d : Nat} {h : ab_H} {Q : Option Value → ab_H → Prop} {x0 : Nat} {x1 : Int32} {x2 : Int32} {x3 : Int32} {x4 : Int32} (t : ab_ok h x0 108 = true ∧ ∃ j1 : Nat, ab_r h x0 5 = some j1 ∧ ab_ok h j1 104 = true ∧ wm d 56 [.ref j1, .int x4, .int 1, .int x2] h (fun r9 h9 => wq (d + 1) 94 39 [.ref x0, .int x1, .int x2, .int x3, .int x4] (r9.toList ++ []) h9 Q)) : wq (d + 1) 94 28 [.ref x0, .int x1, .int x2, .int x3, .int x4] [] h Q := by
  refine g5 c_94_28 rfl ?_
  obtain ⟨ho, j1, hr, t⟩ := t
  refine g45 c_94_29 ho hr ?_
  refine g3 c_94_32 rfl ?_
  refine g1 c_94_34 k_1 ?_
  refine g3 c_94_35 rfl ?_
  exact g80 (As := [.int x4, .int 1, .int x2]) (rest := []) c_94_36 rfl rfl (Nat.le_of_ble_eq_true rfl) (Nat.le_of_ble_eq_true rfl) t.1 t.2
set_option maxRecDepth 20000 in
theorem t_94_39 {d : Nat} {h : ab_H} {Q : Option Value → ab_H → Prop} {x0 : Nat} {x1 : Int32} {x2 : Int32} {x3 : Int32} {x4 : Int32} (t : ab_ok h x0 108 = true ∧ ∃ j1 : Nat, ab_r h x0 5 = some j1 ∧ ab_ok h j1 104 = true ∧ wm d 56 [.ref j1, .int x4, .int 2, .int x3] h (fun r9 h9 => wq (d + 1) 94 50 [.ref x0, .int x1, .int x2, .int x3, .int x4] (r9.toList ++ []) h9 Q)) : wq (d + 1) 94 39 [.ref x0, .int x1, .int x2, .int x3, .int x4] [] h Q := by
  refine g5 c_94_39 rfl ?_
  obtain ⟨ho, j1, hr, t⟩ := t
  refine g45 c_94_40 ho hr ?_
  refine g3 c_94_43 rfl ?_
  refine g1 c_94_45 k_2 ?_
  refine g3 c_94_46 rfl ?_
  exact g80 (As := [.int x4, .int 2, .int x3]) (rest := []) c_94_47 rfl rfl (Nat.le_of_ble_eq_true rfl) (Nat.le_of_ble_eq_true rfl) t.1 t.2
set_option maxRecDepth 20000 in
theorem t_94_50 {d : Nat} {h : ab_H} {Q : Option Value → ab_H → Prop} {x0 : Nat} {x1 : Int32} {x2 : Int32} {x3 : Int32} {x4 : Int32} (t : ab_ok h x0 108 = true ∧ wm d 102 [.ref x0, .int x4] h (fun r9 h9 => wq (d + 1) 94 56 [.ref x0, .int x1, .int x2, .int x3, .int x4] (r9.toList ++ []) h9 Q)) : wq (d + 1) 94 50 [.ref x0, .int x1, .int x2, .int x3, .int x4] [] h Q := by
  refine g5 c_94_50 rfl ?_
  refine g3 c_94_51 rfl ?_
  exact g80 (As := [.int x4]) (rest := []) c_94_53 rfl rfl (Nat.le_of_ble_eq_true rfl) (Nat.le_of_ble_eq_true rfl) t.1 t.2
set_option maxRecDepth 20000 in
theorem t_94_56 {d : Nat} {h : ab_H} {Q : Option Value → ab_H → Prop} {x0 : Nat} {x1 : Int32} {x2 : Int32} {x3 : Int32} {x4 : Int32} (t : ab_ok h x0 108 = true ∧ ∃ j1 : Nat, ab_r h x0 4 = some j1 ∧ ab_ok h j1 104 = true ∧ wm d 57 [.ref j1, .int x1, .int 4, .int 1] h (fun r9 h9 => wq (d + 1) 94 66 [.ref x0, .int x1, .int x2, .int x3, .int x4] (r9.toList ++ []) h9 Q)) : wq (d + 1) 94 56 [.ref x0, .int x1, .int x2, .int x3, .int x4] [] h Q := by
  refine g5 c_94_56 rfl ?_
  obtain ⟨ho, j1, hr, t⟩ := t
  refine g45 c_94_57 ho hr ?_
  refine g3 c_94_60 rfl ?_
  refine g1 c_94_61 k_4 ?_
  refine g1 c_94_62 k_1 ?_
  exact g80 (As := [.int x1, .int 4, .int 1]) (rest := []) c_94_63 rfl rfl (Nat.le_of_ble_eq_true rfl) (Nat.le_of_ble_eq_true rfl) t.1 t.2
set_option maxRecDepth 20000 in
theorem t_94_66 {d : Nat} {h : ab_H} {Q : Option Value → ab_H → Prop} {x0 : Nat} {x1 : Int32} {x2 : Int32} {x3 : Int32} {x4 : Int32} (t : ab_ok h x0 108 = true ∧ ∃ j1 : Nat, ab_r h x0 4 = some j1 ∧ if x2 < 13 then (ab_ok h j1 104 = true ∧ wm d 57 [.ref j1, .int x1, .int 3, .int 2] h (fun r9 h9 => wq (d + 1) 94 86 [.ref x0, .int x1, .int x2, .int x3, .int x4] (r9.toList ++ []) h9 Q)) else (ab_ok h j1 104 = true ∧ wm d 57 [.ref j1, .int x1, .int 3, .int 4] h (fun r9 h9 => wq (d + 1) 94 86 [.ref x0, .int x1, .int x2, .int x3, .int x4] (r9.toList ++ []) h9 Q))) : wq (d + 1) 94 66 [.ref x0, .int x1, .int x2, .int x3, .int x4] [] h Q := by
  refine g5 c_94_66 rfl ?_
  obtain ⟨ho, j1, hr, t⟩ := t
  refine g45 c_94_67 ho hr ?_
  refine g3 c_94_70 rfl ?_
  refine g1 c_94_71 k_3 ?_
  refine g3 c_94_72 rfl ?_
  refine g1 c_94_73 k_13 ?_
  refine gcm c_94_75 (gbr t rfl rfl (fun hc t => ?_) (fun hc t => ?_))
  · refine g1 c_94_82 k_2 ?_
    exact g80 (As := [.int x1, .int 3, .int 2]) (rest := []) c_94_83 rfl rfl (Nat.le_of_ble_eq_true rfl) (Nat.le_of_ble_eq_true rfl) t.1 t.2
  · refine g1 c_94_78 k_4 ?_
    refine g38 c_94_79 rfl ?_
    exact g80 (As := [.int x1, .int 3, .int 4]) (rest := []) c_94_83 rfl rfl (Nat.le_of_ble_eq_true rfl) (Nat.le_of_ble_eq_true rfl) t.1 t.2
set_option maxRecDepth 20000 in
theorem t_94_86 {d : Nat} {h : ab_H} {Q : Option Value → ab_H → Prop} {x0 : Nat} {x1 : Int32} {x2 : Int32} {x3 : Int32} {x4 : Int32} (t : Q (some (.int x4)) h) : wq d 94 86 [.ref x0, .int x1, .int x2, .int x3, .int x4] [] h Q := by
  refine g3 c_94_86 rfl ?_
  exact g90 c_94_88 t
-- method 95: MillTown$Town.addForce(IIII)I
theorem c_95_0 : pg_cd 95 0 = (5, 1, 0, 0, 0) := by decide +kernel
theorem c_95_1 : pg_cd 95 1 = (45, 8, 38, 7, 0) := by decide +kernel
theorem c_95_4 : pg_cd 95 4 = (80, 54, 52, 0, 0) := by decide +kernel
theorem c_95_7 : pg_cd 95 7 = (6, 2, 0, 5, 0) := by decide +kernel
theorem c_95_9 : pg_cd 95 9 = (5, 1, 0, 0, 0) := by decide +kernel
theorem c_95_10 : pg_cd 95 10 = (45, 8, 38, 7, 0) := by decide +kernel
theorem c_95_13 : pg_cd 95 13 = (3, 2, 0, 5, 0) := by decide +kernel
theorem c_95_15 : pg_cd 95 15 = (1, 1, 0, 0, 0) := by decide +kernel
theorem c_95_16 : pg_cd 95 16 = (3, 1, 0, 1, 0) := by decide +kernel
theorem c_95_17 : pg_cd 95 17 = (80, 56, 60, 0, 0) := by decide +kernel
theorem c_95_20 : pg_cd 95 20 = (5, 1, 0, 0, 0) := by decide +kernel
theorem c_95_21 : pg_cd 95 21 = (45, 8, 38, 7, 0) := by decide +kernel
theorem c_95_24 : pg_cd 95 24 = (3, 2, 0, 5, 0) := by decide +kernel
theorem c_95_26 : pg_cd 95 26 = (1, 1, 0, 0, 1) := by decide +kernel
theorem c_95_27 : pg_cd 95 27 = (3, 1, 0, 2, 0) := by decide +kernel
theorem c_95_28 : pg_cd 95 28 = (80, 56, 60, 0, 0) := by decide +kernel
theorem c_95_31 : pg_cd 95 31 = (5, 1, 0, 0, 0) := by decide +kernel
theorem c_95_32 : pg_cd 95 32 = (45, 8, 38, 7, 0) := by decide +kernel
theorem c_95_35 : pg_cd 95 35 = (3, 2, 0, 5, 0) := by decide +kernel
theorem c_95_37 : pg_cd 95 37 = (1, 1, 0, 0, 2) := by decide +kernel
theorem c_95_38 : pg_cd 95 38 = (3, 1, 0, 3, 0) := by decide +kernel
theorem c_95_39 : pg_cd 95 39 = (80, 56, 60, 0, 0) := by decide +kernel
theorem c_95_42 : pg_cd 95 42 = (5, 1, 0, 0, 0) := by decide +kernel
theorem c_95_43 : pg_cd 95 43 = (45, 8, 38, 7, 0) := by decide +kernel
theorem c_95_46 : pg_cd 95 46 = (3, 2, 0, 5, 0) := by decide +kernel
theorem c_95_48 : pg_cd 95 48 = (1, 1, 0, 0, 3) := by decide +kernel
theorem c_95_49 : pg_cd 95 49 = (3, 2, 0, 4, 0) := by decide +kernel
theorem c_95_51 : pg_cd 95 51 = (80, 56, 60, 0, 0) := by decide +kernel
theorem c_95_54 : pg_cd 95 54 = (5, 1, 0, 0, 0) := by decide +kernel
theorem c_95_55 : pg_cd 95 55 = (45, 8, 38, 7, 0) := by decide +kernel
theorem c_95_58 : pg_cd 95 58 = (3, 2, 0, 5, 0) := by decide +kernel
theorem c_95_60 : pg_cd 95 60 = (1, 1, 0, 0, 4) := by decide +kernel
theorem c_95_61 : pg_cd 95 61 = (5, 1, 0, 0, 0) := by decide +kernel
theorem c_95_62 : pg_cd 95 62 = (43, 8, 68, 8, 0) := by decide +kernel
theorem c_95_65 : pg_cd 95 65 = (80, 56, 60, 0, 0) := by decide +kernel
theorem c_95_68 : pg_cd 95 68 = (3, 2, 0, 5, 0) := by decide +kernel
theorem c_95_70 : pg_cd 95 70 = (90, 0, 0, 0, 0) := by decide +kernel
theorem mx_95 : pg_mx 95 = 6 := by decide +kernel
theorem m_95 {d : Nat} {h : ab_H} {Q : Option Value → ab_H → Prop} {x0 : Nat} {x1 : Int32} {x2 : Int32} {x3 : Int32} {x4 : Int32} (t : wq d 95 0 [.ref x0, .int x1, .int x2, .int x3, .int x4, .retAddr 0] [] h Q) : wm d 95 [.ref x0, .int x1, .int x2, .int x3, .int x4] h Q := by
  unfold wm
  rw [mx_95]
  exact t
set_option maxRecDepth 20000 in
theorem t_95_0 {d : Nat} {h : ab_H} {Q : Option Value → ab_H → Prop} {x0 : Nat} {x1 : Int32} {x2 : Int32} {x3 : Int32} {x4 : Int32} (t : ab_ok h x0 108 = true ∧ ∃ j1 : Nat, ab_r h x0 7 = some j1 ∧ ab_ok h j1 104 = true ∧ wm d 54 [.ref j1] h (fun r9 h9 => wq (d + 1) 95 7 [.ref x0, .int x1, .int x2, .int x3, .int x4, .retAddr 0] (r9.toList ++ []) h9 Q)) : wq (d + 1) 95 0 [.ref x0, .int x1, .int x2, .int x3, .int x4, .retAddr 0] [] h Q := by
  refine g5 c_95_0 rfl ?_
  obtain ⟨ho, j1, hr, t⟩ := t
  refine g45 c_95_1 ho hr ?_
  exact g80 (As := []) (rest := []) c_95_4 rfl rfl (Nat.le_of_ble_eq_true rfl) (Nat.le_of_ble_eq_true rfl) t.1 t.2
set_option maxRecDepth 20000 in
theorem t_95_7 {d : Nat} {h : ab_H} {Q : Option Value → ab_H → Prop} {x0 : Nat} {x1 : Int32} {x2 : Int32} {x3 : Int32} {x4 : Int32} {s0 : Int32} (t : ab_ok h x0 108 = true ∧ ∃ j1 : Nat, ab_r h x0 7 = some j1 ∧ ab_ok h j1 104 = true ∧ wm d 56 [.ref j1, .int s0, .int 0, .int x1] h (fun r9 h9 => wq (d + 1) 95 20 [.ref x0, .int x1, .int x2, .int x3, .int x4, .int s0] (r9.toList ++ []) h9 Q)) : wq (d + 1) 95 7 [.ref x0, .int x1, .int x2, .int x3, .int x4, .retAddr 0] [.int s0] h Q := by
  refine g6 (L' := [.ref x0, .int x1, .int x2, .int x3, .int x4, .int s0]) c_95_7 rfl ?_
  refine g5 c_95_9 rfl ?_
  obtain ⟨ho, j1, hr, t⟩ := t
  refine g45 c_95_10 ho hr ?_
  refine g3 c_95_13 rfl ?_
  refine g1 c_95_15 k_0 ?_
  refine g3 c_95_16 rfl ?_
  exact g80 (As := [.int s0, .int 0, .int x1]) (rest := []) c_95_17 rfl rfl (Nat.le_of_ble_eq_true rfl) (Nat.le_of_ble_eq_true rfl) t.1 t.2
set_option maxRecDepth 20000 in
theorem t_95_20 {d : Nat} {h : ab_H} {Q : Option Value → ab_H → Prop} {x0 : Nat} {x1 : Int32} {x2 : Int32} {x3 : Int32} {x4 : Int32} {x5 : Int32} (t : ab_ok h x0 108 = true ∧ ∃ j1 : Nat, ab_r h x0 7 = some j1 ∧ ab_ok h j1 104 = true ∧ wm d 56 [.ref j1, .int x5, .int 1, .int x2] h (fun r9 h9 => wq (d + 1) 95 31 [.ref x0, .int x1, .int x2, .int x3, .int x4, .int x5] (r9.toList ++ []) h9 Q)) : wq (d + 1) 95 20 [.ref x0, .int x1, .int x2, .int x3, .int x4, .int x5] [] h Q := by
  refine g5 c_95_20 rfl ?_
  obtain ⟨ho, j1, hr, t⟩ := t
  refine g45 c_95_21 ho hr ?_
  refine g3 c_95_24 rfl ?_
  refine g1 c_95_26 k_1 ?_
  refine g3 c_95_27 rfl ?_
  exact g80 (As := [.int x5, .int 1, .int x2]) (rest := []) c_95_28 rfl rfl (Nat.le_of_ble_eq_true rfl) (Nat.le_of_ble_eq_true rfl) t.1 t.2
set_option maxRecDepth 20000 in
theorem t_95_31 {d : Nat} {h : ab_H} {Q : Option Value → ab_H → Prop} {x0 : Nat} {x1 : Int32} {x2 : Int32} {x3 : Int32} {x4 : Int32} {x5 : Int32} (t : ab_ok h x0 108 = true ∧ ∃ j1 : Nat, ab_r h x0 7 = some j1 ∧ ab_ok h j1 104 = true ∧ wm d 56 [.ref j1, .int x5, .int 2, .int x3] h (fun r9 h9 => wq (d + 1) 95 42 [.ref x0, .int x1, .int x2, .int x3, .int x4, .int x5] (r9.toList ++ []) h9 Q)) : wq (d + 1) 95 31 [.ref x0, .int x1, .int x2, .int x3, .int x4, .int x5] [] h Q := by
  refine g5 c_95_31 rfl ?_
  obtain ⟨ho, j1, hr, t⟩ := t
  refine g45 c_95_32 ho hr ?_
  refine g3 c_95_35 rfl ?_
  refine g1 c_95_37 k_2 ?_
  refine g3 c_95_38 rfl ?_
  exact g80 (As := [.int x5, .int 2, .int x3]) (rest := []) c_95_39 rfl rfl (Nat.le_of_ble_eq_true rfl) (Nat.le_of_ble_eq_true rfl) t.1 t.2
set_option maxRecDepth 20000 in
theorem t_95_42 {d : Nat} {h : ab_H} {Q : Option Value → ab_H → Prop} {x0 : Nat} {x1 : Int32} {x2 : Int32} {x3 : Int32} {x4 : Int32} {x5 : Int32} (t : ab_ok h x0 108 = true ∧ ∃ j1 : Nat, ab_r h x0 7 = some j1 ∧ ab_ok h j1 104 = true ∧ wm d 56 [.ref j1, .int x5, .int 3, .int x4] h (fun r9 h9 => wq (d + 1) 95 54 [.ref x0, .int x1, .int x2, .int x3, .int x4, .int x5] (r9.toList ++ []) h9 Q)) : wq (d + 1) 95 42 [.ref x0, .int x1, .int x2, .int x3, .int x4, .int x5] [] h Q := by
  refine g5 c_95_42 rfl ?_
  obtain ⟨ho, j1, hr, t⟩ := t
  refine g45 c_95_43 ho hr ?_
  refine g3 c_95_46 rfl ?_
  refine g1 c_95_48 k_3 ?_
  refine g3 c_95_49 rfl ?_
  exact g80 (As := [.int x5, .int 3, .int x4]) (rest := []) c_95_51 rfl rfl (Nat.le_of_ble_eq_true rfl) (Nat.le_of_ble_eq_true rfl) t.1 t.2
set_option maxRecDepth 20000 in
theorem t_95_54 {d : Nat} {h : ab_H} {Q : Option Value → ab_H → Prop} {x0 : Nat} {x1 : Int32} {x2 : Int32} {x3 : Int32} {x4 : Int32} {x5 : Int32} (t : ab_ok h x0 108 = true ∧ ∃ j1 : Nat, ab_r h x0 7 = some j1 ∧ ab_ok h x0 108 = true ∧ ab_ok h j1 104 = true ∧ wm d 56 [.ref j1, .int x5, .int 4, .int (ab_i h x0 8)] h (fun r9 h9 => wq (d + 1) 95 68 [.ref x0, .int x1, .int x2, .int x3, .int x4, .int x5] (r9.toList ++ []) h9 Q)) : wq (d + 1) 95 54 [.ref x0, .int x1, .int x2, .int x3, .int x4, .int x5] [] h Q := by
  refine g5 c_95_54 rfl ?_
  obtain ⟨ho, j1, hr, t⟩ := t
  refine g45 c_95_55 ho hr ?_
  refine g3 c_95_58 rfl ?_
  refine g1 c_95_60 k_4 ?_
  refine g5 c_95_61 rfl ?_
  obtain ⟨ho, t⟩ := t
  refine g43 c_95_62 ho ?_
  exact g80 (As := [.int x5, .int 4, .int (ab_i h x0 8)]) (rest := []) c_95_65 rfl rfl (Nat.le_of_ble_eq_true rfl) (Nat.le_of_ble_eq_true rfl) t.1 t.2
set_option maxRecDepth 20000 in
theorem t_95_68 {d : Nat} {h : ab_H} {Q : Option Value → ab_H → Prop} {x0 : Nat} {x1 : Int32} {x2 : Int32} {x3 : Int32} {x4 : Int32} {x5 : Int32} (t : Q (some (.int x5)) h) : wq d 95 68 [.ref x0, .int x1, .int x2, .int x3, .int x4, .int x5] [] h Q := by
  refine g3 c_95_68 rfl ?_
  exact g90 c_95_70 t
-- method 96: MillTown$Town.addOrder(IIIII)I
theorem c_96_0 : pg_cd 96 0 = (5, 1, 0, 0, 0) := by decide +kernel
theorem c_96_1 : pg_cd 96 1 = (45, 8, 35, 6, 0) := by decide +kernel
theorem c_96_4 : pg_cd 96 4 = (80, 54, 52, 0, 0) := by decide +kernel
theorem c_96_7 : pg_cd 96 7 = (6, 2, 0, 6, 0) := by decide +kernel
theorem c_96_9 : pg_cd 96 9 = (5, 1, 0, 0, 0) := by decide +kernel
theorem c_96_10 : pg_cd 96 10 = (45, 8, 35, 6, 0) := by decide +kernel
theorem c_96_13 : pg_cd 96 13 = (3, 2, 0, 6, 0) := by decide +kernel
theorem c_96_15 : pg_cd 96 15 = (1, 1, 0, 0, 0) := by decide +kernel
theorem c_96_16 : pg_cd 96 16 = (3, 1, 0, 1, 0) := by decide +kernel
theorem c_96_17 : pg_cd 96 17 = (80, 56, 60, 0, 0) := by decide +kernel
theorem c_96_20 : pg_cd 96 20 = (5, 1, 0, 0, 0) := by decide +kernel
theorem c_96_21 : pg_cd 96 21 = (45, 8, 35, 6, 0) := by decide +kernel
theorem c_96_24 : pg_cd 96 24 = (3, 2, 0, 6, 0) := by decide +kernel
theorem c_96_26 : pg_cd 96 26 = (1, 1, 0, 0, 1) := by decide +kernel
theorem c_96_27 : pg_cd 96 27 = (3, 1, 0, 2, 0) := by decide +kernel
theorem c_96_28 : pg_cd 96 28 = (80, 56, 60, 0, 0) := by decide +kernel
theorem c_96_31 : pg_cd 96 31 = (5, 1, 0, 0, 0) := by decide +kernel
theorem c_96_32 : pg_cd 96 32 = (45, 8, 35, 6, 0) := by decide +kernel
theorem c_96_35 : pg_cd 96 35 = (3, 2, 0, 6, 0) := by decide +kernel
theorem c_96_37 : pg_cd 96 37 = (1, 1, 0, 0, 2) := by decide +kernel
theorem c_96_38 : pg_cd 96 38 = (3, 1, 0, 3, 0) := by decide +kernel
theorem c_96_39 : pg_cd 96 39 = (80, 56, 60, 0, 0) := by decide +kernel
theorem c_96_42 : pg_cd 96 42 = (5, 1, 0, 0, 0) := by decide +kernel
theorem c_96_43 : pg_cd 96 43 = (45, 8, 35, 6, 0) := by decide +kernel
theorem c_96_46 : pg_cd 96 46 = (3, 2, 0, 6, 0) := by decide +kernel
theorem c_96_48 : pg_cd 96 48 = (1, 1, 0, 0, 3) := by decide +kernel
theorem c_96_49 : pg_cd 96 49 = (3, 2, 0, 4, 0) := by decide +kernel
theorem c_96_51 : pg_cd 96 51 = (80, 56, 60, 0, 0) := by decide +kernel
theorem c_96_54 : pg_cd 96 54 = (5, 1, 0, 0, 0) := by decide +kernel
theorem c_96_55 : pg_cd 96 55 = (45, 8, 35, 6, 0) := by decide +kernel
theorem c_96_58 : pg_cd 96 58 = (3, 2, 0, 6, 0) := by decide +kernel
theorem c_96_60 : pg_cd 96 60 = (1, 1, 0, 0, 4) := by decide +kernel
theorem c_96_61 : pg_cd 96 61 = (3, 2, 0, 5, 0) := by decide +kernel
theorem c_96_63 : pg_cd 96 63 = (80, 56, 60, 0, 0) := by decide +kernel
theorem c_96_66 : pg_cd 96 66 = (3, 2, 0, 6, 0) := by decide +kernel
theorem c_96_68 : pg_cd 96 68 = (90, 0, 0, 0, 0) := by decide +kernel
theorem mx_96 : pg_mx 96 = 7 := by decide +kernel
theorem m_96 {d : Nat} {h : ab_H} {Q : Option Value → ab_H → Prop} {x0 : Nat} {x1 : Int32} {x2 : Int32} {x3 : Int32} {x4 : Int32} {x5 : Int32} (t : wq d 96 0 [.ref x0, .int x1, .int x2, .int x3, .int x4, .int x5, .retAddr 0] [] h Q) : wm d 96 [.ref x0, .int x1, .int x2, .int x3, .int x4, .int x5] h Q := by
  unfold wm
  rw [mx_96]
  exact t
set_option maxRecDepth 20000 in
theorem t_96_0 {d : Nat} {h : ab_H} {Q : Option Value → ab_H → Prop} {x0 : Nat} {x1 : Int32} {x2 : Int32} {x3 : Int32} {x4 : Int32} {x5 : Int32} (t : ab_ok h x0 108 = true ∧ ∃ j1 : Nat, ab_r h x0 6 = some j1 ∧ ab_ok h j1 104 = true ∧ wm d 54 [.ref j1] h (fun r9 h9 => wq (d + 1) 96 7 [.ref x0, .int x1, .int x2, .int x3, .int x4, .int x5, .retAddr 0] (r9.toList ++ []) h9 Q)) : wq (d + 1) 96 0 [.ref x0, .int x1, .int x2, .int x3, .int x4, .int x5, .retAddr 0] [] h Q := by
  refine g5 c_96_0 rfl ?_
  obtain ⟨ho, j1, hr, t⟩ := t
  refine g45 c_96_1 ho hr ?_
  exact g80 (As := []) (rest := []) c_96_4 rfl rfl (Nat.le_of_ble_eq_true rfl) (Nat.le_of_ble_eq_true rfl) t.1 t.2
set_option maxRecDepth 20000 in
theorem t_96_7 {d : Nat} {h : ab_H} {Q : Option Value → ab_H → Prop} {x0 : Nat} {x1 : Int32} {x2 : Int32} {x3 : Int32} {x4 : Int32} {x5 : Int32} {s0 : Int32} (t : ab_ok h x0 108 = true ∧ ∃ j1 : Nat, ab_r h x0 6 = some j1 ∧ ab_ok h j1 104 = true ∧ wm d 56 [.ref j1, .int s0, .int 0, .int x1] h (fun r9 h9 => wq (d + 1) 96 20 [.ref x0, .int x1, .int x2, .int x3, .int x4, .int x5, .int s0] (r9.toList ++ []) h9 Q)) : wq (d + 1) 96 7 [.ref x0, .int x1, .int x2, .int x3, .int x4, .int x5, .retAddr 0] [.int s0] h Q := by
  refine g6 (L' := [.ref x0, .int x1, .int x2, .int x3, .int x4, .int x5, .int s0]) c_96_7 rfl ?_
  refine g5 c_96_9 rfl ?_
  obtain ⟨ho, j1, hr, t⟩ := t
  refine g45 c_96_10 ho hr ?_
  refine g3 c_96_13 rfl ?_
  refine g1 c_96_15 k_0 ?_
  refine g3 c_96_16 rfl ?_
  exact g80 (As := [.int s0, .int 0, .int x1]) (rest := []) c_96_17 rfl rfl (Nat.le_of_ble_eq_true rfl) (Nat.le_of_ble_eq_true rfl) t.1 t.2
set_option maxRecDepth 20000 in
theorem t_96_20 {d : Nat} {h : ab_H} {Q : Option Value → ab_H → Prop} {x0 : Nat} {x1 : Int32} {x2 : Int32} {x3 : Int32} {x4 : Int32} {x5 : Int32} {x6 : Int32} (t : ab_ok h x0 108 = true ∧ ∃ j1 : Nat, ab_r h x0 6 = some j1 ∧ ab_ok h j1 104 = true ∧ wm d 56 [.ref j1, .int x6, .int 1, .int x2] h (fun r9 h9 => wq (d + 1) 96 31 [.ref x0, .int x1, .int x2, .int x3, .int x4, .int x5, .int x6] (r9.toList ++ []) h9 Q)) : wq (d + 1) 96 20 [.ref x0, .int x1, .int x2, .int x3, .int x4, .int x5, .int x6] [] h Q := by
  refine g5 c_96_20 rfl ?_
  obtain ⟨ho, j1, hr, t⟩ := t
  refine g45 c_96_21 ho hr ?_
  refine g3 c_96_24 rfl ?_
  refine g1 c_96_26 k_1 ?_
  refine g3 c_96_27 rfl ?_
  exact g80 (As := [.int x6, .int 1, .int x2]) (rest := []) c_96_28 rfl rfl (Nat.le_of_ble_eq_true rfl) (Nat.le_of_ble_eq_true rfl) t.1 t.2
set_option maxRecDepth 20000 in
theorem t_96_31 {d : Nat} {h : ab_H} {Q : Option Value → ab_H → Prop} {x0 : Nat} {x1 : Int32} {x2 : Int32} {x3 : Int32} {x4 : Int32} {x5 : Int32} {x6 : Int32} (t : ab_ok h x0 108 = true ∧ ∃ j1 : Nat, ab_r h x0 6 = some j1 ∧ ab_ok h j1 104 = true ∧ wm d 56 [.ref j1, .int x6, .int 2, .int x3] h (fun r9 h9 => wq (d + 1) 96 42 [.ref x0, .int x1, .int x2, .int x3, .int x4, .int x5, .int x6] (r9.toList ++ []) h9 Q)) : wq (d + 1) 96 31 [.ref x0, .int x1, .int x2, .int x3, .int x4, .int x5, .int x6] [] h Q := by
  refine g5 c_96_31 rfl ?_
  obtain ⟨ho, j1, hr, t⟩ := t
  refine g45 c_96_32 ho hr ?_
  refine g3 c_96_35 rfl ?_
  refine g1 c_96_37 k_2 ?_
  refine g3 c_96_38 rfl ?_
  exact g80 (As := [.int x6, .int 2, .int x3]) (rest := []) c_96_39 rfl rfl (Nat.le_of_ble_eq_true rfl) (Nat.le_of_ble_eq_true rfl) t.1 t.2
set_option maxRecDepth 20000 in
theorem t_96_42 {d : Nat} {h : ab_H} {Q : Option Value → ab_H → Prop} {x0 : Nat} {x1 : Int32} {x2 : Int32} {x3 : Int32} {x4 : Int32} {x5 : Int32} {x6 : Int32} (t : ab_ok h x0 108 = true ∧ ∃ j1 : Nat, ab_r h x0 6 = some j1 ∧ ab_ok h j1 104 = true ∧ wm d 56 [.ref j1, .int x6, .int 3, .int x4] h (fun r9 h9 => wq (d + 1) 96 54 [.ref x0, .int x1, .int x2, .int x3, .int x4, .int x5, .int x6] (r9.toList ++ []) h9 Q)) : wq (d + 1) 96 42 [.ref x0, .int x1, .int x2, .int x3, .int x4, .int x5, .int x6] [] h Q := by
  refine g5 c_96_42 rfl ?_
  obtain ⟨ho, j1, hr, t⟩ := t
  refine g45 c_96_43 ho hr ?_
  refine g3 c_96_46 rfl ?_
  refine g1 c_96_48 k_3 ?_
  refine g3 c_96_49 rfl ?_
  exact g80 (As := [.int x6, .int 3, .int x4]) (rest := []) c_96_51 rfl rfl (Nat.le_of_ble_eq_true rfl) (Nat.le_of_ble_eq_true rfl) t.1 t.2
set_option maxRecDepth 20000 in
theorem t_96_54 {d : Nat} {h : ab_H} {Q : Option Value → ab_H → Prop} {x0 : Nat} {x1 : Int32} {x2 : Int32} {x3 : Int32} {x4 : Int32} {x5 : Int32} {x6 : Int32} (t : ab_ok h x0 108 = true ∧ ∃ j1 : Nat, ab_r h x0 6 = some j1 ∧ ab_ok h j1 104 = true ∧ wm d 56 [.ref j1, .int x6, .int 4, .int x5] h (fun r9 h9 => wq (d + 1) 96 66 [.ref x0, .int x1, .int x2, .int x3, .int x4, .int x5, .int x6] (r9.toList ++ []) h9 Q)) : wq (d + 1) 96 54 [.ref x0, .int x1, .int x2, .int x3, .int x4, .int x5, .int x6] [] h Q := by
  refine g5 c_96_54 rfl ?_
  obtain ⟨ho, j1, hr, t⟩ := t
  refine g45 c_96_55 ho hr ?_
  refine g3 c_96_58 rfl ?_
  refine g1 c_96_60 k_4 ?_
  refine g3 c_96_61 rfl ?_
  exact g80 (As := [.int x6, .int 4, .int x5]) (rest := []) c_96_63 rfl rfl (Nat.le_of_ble_eq_true rfl) (Nat.le_of_ble_eq_true rfl) t.1 t.2
set_option maxRecDepth 20000 in
theorem t_96_66 {d : Nat} {h : ab_H} {Q : Option Value → ab_H → Prop} {x0 : Nat} {x1 : Int32} {x2 : Int32} {x3 : Int32} {x4 : Int32} {x5 : Int32} {x6 : Int32} (t : Q (some (.int x6)) h) : wq d 96 66 [.ref x0, .int x1, .int x2, .int x3, .int x4, .int x5, .int x6] [] h Q := by
  refine g3 c_96_66 rfl ?_
  exact g90 c_96_68 t
-- method 97: MillTown$Town.isWeaver(I)Z
theorem c_97_0 : pg_cd 97 0 = (5, 1, 0, 0, 0) := by decide +kernel
theorem c_97_1 : pg_cd 97 1 = (45, 8, 32, 5, 0) := by decide +kernel
theorem c_97_4 : pg_cd 97 4 = (3, 1, 0, 1, 0) := by decide +kernel
theorem c_97_5 : pg_cd 97 5 = (1, 1, 0, 0, 3) := by decide +kernel
theorem c_97_6 : pg_cd 97 6 = (80, 55, 92, 0, 0) := by decide +kernel
theorem c_97_9 : pg_cd 97 9 = (6, 1, 0, 2, 0) := by decide +kernel
theorem c_97_10 : pg_cd 97 10 = (3, 1, 0, 2, 0) := by decide +kernel
theorem c_97_11 : pg_cd 97 11 = (1, 1, 0, 0, 1) := by decide +kernel
theorem c_97_12 : pg_cd 97 12 = (37, 3, 0, 0, 8) := by decide +kernel
theorem c_97_15 : pg_cd 97 15 = (3, 1, 0, 2, 0) := by decide +kernel
theorem c_97_16 : pg_cd 97 16 = (1, 1, 0, 0, 2) := by decide +kernel
theorem c_97_17 : pg_cd 97 17 = (37, 3, 0, 1, 7) := by decide +kernel
theorem c_97_20 : pg_cd 97 20 = (1, 1, 0, 0, 1) := by decide +kernel
theorem c_97_21 : pg_cd 97 21 = (38, 3, 0, 0, 4) := by decide +kernel
theorem c_97_24 : pg_cd 97 24 = (1, 1, 0, 0, 0) := by decide +kernel
theorem c_97_25 : pg_cd 97 25 = (91, 0, 0, 0, 0) := by decide +kernel
theorem mx_97 : pg_mx 97 = 3 := by decide +kernel
theorem m_97 {d : Nat} {h : ab_H} {Q : Option Value → ab_H → Prop} {x0 : Nat} {x1 : Int32} (t : wq d 97 0 [.ref x0, .int x1, .retAddr 0] [] h Q) : wm d 97 [.ref x0, .int x1] h Q := by
  unfold wm
  rw [mx_97]
  exact t
set_option maxRecDepth 20000 in
theorem t_97_0 {d : Nat} {h : ab_H} {Q : Option Value → ab_H → Prop} {x0 : Nat} {x1 : Int32} (t : ab_ok h x0 108 = true ∧ ∃ j1 : Nat, ab_r h x0 5 = some j1 ∧ ab_ok h j1 104 = true ∧ wm d 55 [.ref j1, .int x1, .int 3] h (fun r9 h9 => wq (d + 1) 97 9 [.ref x0, .int x1, .retAddr 0] (r9.toList ++ []) h9 Q)) : wq (d + 1) 97 0 [.ref x0, .int x1, .retAddr 0] [] h Q := by
  refine g5 c_97_0 rfl ?_
  obtain ⟨ho, j1, hr, t⟩ := t
  refine g45 c_97_1 ho hr ?_
  refine g3 c_97_4 rfl ?_
  refine g1 c_97_5 k_3 ?_
  exact g80 (As := [.int x1, .int 3]) (rest := []) c_97_6 rfl rfl (Nat.le_of_ble_eq_true rfl) (Nat.le_of_ble_eq_true rfl) t.1 t.2
set_option maxRecDepth 20000 in
theorem t_97_9 {d : Nat} {h : ab_H} {Q : Option Value → ab_H → Prop} {x0 : Nat} {x1 : Int32} {s0 : Int32} (t : if s0 = 1 then (Q (some (.int 1)) h) else (if s0 = 2 then (Q (some (.int 1)) h) else (Q (some (.int 0)) h))) : wq d 97 9 [.ref x0, .int x1, .retAddr 0] [.int s0] h Q := by
  refine g6 (L' := [.ref x0, .int x1, .int s0]) c_97_9 rfl ?_
  refine g3 c_97_10 rfl ?_
  refine g1 c_97_11 k_1 ?_
  refine gcm c_97_12 (gbr t rfl rfl (fun hc t => ?_) (fun hc t => ?_))
  · refine g1 c_97_20 k_1 ?_
    refine g38 c_97_21 rfl ?_
    exact g91 c_97_25 ⟨by decide, t⟩
  · refine g3 c_97_15 rfl ?_
    refine g1 c_97_16 k_2 ?_
    refine gcm c_97_17 (gbn t (ab_c1 _ _) rfl (fun hc t => ?_) (fun hc t => ?_))
    · refine g1 c_97_20 k_1 ?_
      refine g38 c_97_21 rfl ?_
      exact g91 c_97_25 ⟨by decide, t⟩
    · refine g1 c_97_24 k_0 ?_
      exact g91 c_97_25 ⟨by decide, t⟩
-- method 98: MillTown$Town.loomsOf(II)I
theorem c_98_0 : pg_cd 98 0 = (5, 1, 0, 0, 0) := by decide +kernel
theorem c_98_1 : pg_cd 98 1 = (3, 1, 0, 1, 0) := by decide +kernel
theorem c_98_2 : pg_cd 98 2 = (80, 97, 103, 0, 0) := by decide +kernel
theorem c_98_5 : pg_cd 98 5 = (36, 3, 0, 0, 20) := by decide +kernel
theorem c_98_8 : pg_cd 98 8 = (5, 1, 0, 0, 0) := by decide +kernel
theorem c_98_9 : pg_cd 98 9 = (45, 8, 32, 5, 0) := by decide +kernel
theorem c_98_12 : pg_cd 98 12 = (3, 1, 0, 1, 0) := by decide +kernel
theorem c_98_13 : pg_cd 98 13 = (1, 1, 0, 0, 4) := by decide +kernel
theorem c_98_14 : pg_cd 98 14 = (80, 55, 92, 0, 0) := by decide +kernel
theorem c_98_17 : pg_cd 98 17 = (3, 1, 0, 2, 0) := by decide +kernel
theorem c_98_18 : pg_cd 98 18 = (37, 3, 0, 1, 7) := by decide +kernel
theorem c_98_21 : pg_cd 98 21 = (1, 1, 0, 0, 1) := by decide +kernel
theorem c_98_22 : pg_cd 98 22 = (38, 3, 0, 0, 4) := by decide +kernel
theorem c_98_25 : pg_cd 98 25 = (1, 1, 0, 0, 0) := by decide +kernel
theorem c_98_26 : pg_cd 98 26 = (6, 1, 0, 3, 0) := by decide +kernel
theorem c_98_27 : pg_cd 98 27 = (3, 1, 0, 3, 0) := by decide +kernel
theorem c_98_28 : pg_cd 98 28 = (36, 3, 0, 0, 15) := by decide +kernel
theorem c_98_31 : pg_cd 98 31 = (5, 1, 0, 0, 0) := by decide +kernel
theorem c_98_32 : pg_cd 98 32 = (45, 8, 32, 5, 0) := by decide +kernel
theorem c_98_35 : pg_cd 98 35 = (3, 1, 0, 1, 0) := by decide +kernel
theorem c_98_36 : pg_cd 98 36 = (1, 1, 0, 0, 5) := by decide +kernel
theorem c_98_37 : pg_cd 98 37 = (80, 55, 92, 0, 0) := by decide +kernel
theorem c_98_40 : pg_cd 98 40 = (38, 3, 0, 0, 4) := by decide +kernel
theorem c_98_43 : pg_cd 98 43 = (1, 1, 0, 0, 0) := by decide +kernel
theorem c_98_44 : pg_cd 98 44 = (90, 0, 0, 0, 0) := by decide +kernel
theorem mx_98 : pg_mx 98 = 4 := by decide +kernel
theorem m_98 {d : Nat} {h : ab_H} {Q : Option Value → ab_H → Prop} {x0 : Nat} {x1 : Int32} {x2 : Int32} (t : wq d 98 0 [.ref x0, .int x1, .int x2, .retAddr 0] [] h Q) : wm d 98 [.ref x0, .int x1, .int x2] h Q := by
  unfold wm
  rw [mx_98]
  exact t
set_option maxRecDepth 20000 in
theorem t_98_0 {d : Nat} {h : ab_H} {Q : Option Value → ab_H → Prop} {x0 : Nat} {x1 : Int32} {x2 : Int32} (t : ab_ok h x0 108 = true ∧ wm d 97 [.ref x0, .int x1] h (fun r9 h9 => wq (d + 1) 98 5 [.ref x0, .int x1, .int x2, .retAddr 0] (r9.toList ++ []) h9 Q)) : wq (d + 1) 98 0 [.ref x0, .int x1, .int x2, .retAddr 0] [] h Q := by
  refine g5 c_98_0 rfl ?_
  refine g3 c_98_1 rfl ?_
  exact g80 (As := [.int x1]) (rest := []) c_98_2 rfl rfl (Nat.le_of_ble_eq_true rfl) (Nat.le_of_ble_eq_true rfl) t.1 t.2
set_option maxRecDepth 20000 in
theorem t_98_5 {d : Nat} {h : ab_H} {Q : Option Value → ab_H → Prop} {x0 : Nat} {x1 : Int32} {x2 : Int32} {s0 : Int32} (t : if s0 = 0 then (if (0 : Int32) = 0 then (Q (some (.int 0)) h) else (ab_ok h x0 108 = true ∧ ∃ j1 : Nat, ab_r h x0 5 = some j1 ∧ ab_ok h j1 104 = true ∧ wm d 55 [.ref j1, .int x1, .int 5] h (fun r9 h9 => wq (d + 1) 98 40 [.ref x0, .int x1, .int x2, .int 0] (r9.toList ++ []) h9 Q))) else (ab_ok h x0 108 = true ∧ ∃ j2 : Nat, ab_r h x0 5 = some j2 ∧ ab_ok h j2 104 = true ∧ wm d 55 [.ref j2, .int x1, .int 4] h (fun r9 h9 => wq (d + 1) 98 17 [.ref x0, .int x1, .int x2, .retAddr 0] (r9.toList ++ []) h9 Q))) : wq (d + 1) 98 5 [.ref x0, .int x1, .int x2, .retAddr 0] [.int s0] h Q := by
  refine gif c_98_5 (gbr t rfl rfl (fun hc t => ?_) (fun hc t => ?_))
  · refine g1 c_98_25 k_0 ?_
    refine g6 (L' := [.ref x0, .int x1, .int x2, .int 0]) c_98_26 rfl ?_
    refine g3 c_98_27 rfl ?_
    refine gif c_98_28 (gbr t rfl rfl (fun hc t => ?_) (fun hc t => ?_))
    · refine g1 c_98_43 k_0 ?_
      exact g90 c_98_44 t
    · refine g5 c_98_31 rfl ?_
      obtain ⟨ho, j1, hr, t⟩ := t
      refine g45 c_98_32 ho hr ?_
      refine g3 c_98_35 rfl ?_
      refine g1 c_98_36 k_5 ?_
      exact g80 (As := [.int x1, .int 5]) (rest := []) c_98_37 rfl rfl (Nat.le_of_ble_eq_true rfl) (Nat.le_of_ble_eq_true rfl) t.1 t.2
  · refine g5 c_98_8 rfl ?_
    obtain ⟨ho, j2, hr, t⟩ := t
    refine g45 c_98_9 ho hr ?_
    refine g3 c_98_12 rfl ?_
    refine g1 c_98_13 k_4 ?_
    exact g80 (As := [.int x1, .int 4]) (rest := []) c_98_14 rfl rfl (Nat.le_of_ble_eq_true rfl) (Nat.le_of_ble_eq_true rfl) t.1 t.2
set_option maxRecDepth 20000 in
theorem t_98_17 {d : Nat} {h : ab_H} {Q : Option Value → ab_H → Prop} {x0 : Nat} {x1 : Int32} {x2 : Int32} {s0 : Int32} (t : if s0 = x2 then (if (1 : Int32) = 0 then (Q (some (.int 0)) h) else (ab_ok h x0 108 = true ∧ ∃ j1 : Nat, ab_r h x0 5 = some j1 ∧ ab_ok h j1 104 = true ∧ wm d 55 [.ref j1, .int x1, .int 5] h (fun r9 h9 => wq (d + 1) 98 40 [.ref x0, .int x1, .int x2, .int 1] (r9.toList ++ []) h9 Q))) else (if (0 : Int32) = 0 then (Q (some (.int 0)) h) else (ab_ok h x0 108 = true ∧ ∃ j2 : Nat, ab_r h x0 5 = some j2 ∧ ab_ok h j2 104 = true ∧ wm d 55 [.ref j2, .int x1, .int 5] h (fun r9 h9 => wq (d + 1) 98 40 [.ref x0, .int x1, .int x2, .int 0] (r9.toList ++ []) h9 Q)))) : wq (d + 1) 98 17 [.ref x0, .int x1, .int x2, .retAddr 0] [.int s0] h Q := by
  refine g3 c_98_17 rfl ?_
  refine gcm c_98_18 (gbn t (ab_c1 _ _) rfl (fun hc t => ?_) (fun hc t => ?_))
  · refine g1 c_98_21 k_1 ?_
    refine g38 c_98_22 rfl ?_
    refine g6 (L' := [.ref x0, .int x1, .int x2, .int 1]) c_98_26 rfl ?_
    refine g3 c_98_27 rfl ?_
    refine gif c_98_28 (gbr t rfl rfl (fun hc t => ?_) (fun hc t => ?_))
    · refine g1 c_98_43 k_0 ?_
      exact g90 c_98_44 t
    · refine g5 c_98_31 rfl ?_
      obtain ⟨ho, j1, hr, t⟩ := t
      refine g45 c_98_32 ho hr ?_
      refine g3 c_98_35 rfl ?_
      refine g1 c_98_36 k_5 ?_
      exact g80 (As := [.int x1, .int 5]) (rest := []) c_98_37 rfl rfl (Nat.le_of_ble_eq_true rfl) (Nat.le_of_ble_eq_true rfl) t.1 t.2
  · refine g1 c_98_25 k_0 ?_
    refine g6 (L' := [.ref x0, .int x1, .int x2, .int 0]) c_98_26 rfl ?_
    refine g3 c_98_27 rfl ?_
    refine gif c_98_28 (gbr t rfl rfl (fun hc t => ?_) (fun hc t => ?_))
    · refine g1 c_98_43 k_0 ?_
      exact g90 c_98_44 t
    · refine g5 c_98_31 rfl ?_
      obtain ⟨ho, j2, hr, t⟩ := t
      refine g45 c_98_32 ho hr ?_
      refine g3 c_98_35 rfl ?_
      refine g1 c_98_36 k_5 ?_
      exact g80 (As := [.int x1, .int 5]) (rest := []) c_98_37 rfl rfl (Nat.le_of_ble_eq_true rfl) (Nat.le_of_ble_eq_true rfl) t.1 t.2
set_option maxRecDepth 20000 in
theorem t_98_40 {d : Nat} {h : ab_H} {Q : Option Value → ab_H → Prop} {x0 : Nat} {x1 : Int32} {x2 : Int32} {x3 : Int32} {s0 : Int32} (t : Q (some (.int s0)) h) : wq d 98 40 [.ref x0, .int x1, .int x2, .int x3] [.int s0] h Q := by
  refine g38 c_98_40 rfl ?_
  exact g90 c_98_44 t
-- method 99: MillTown$Town.loomsHad(I)I
theorem c_99_0 : pg_cd 99 0 = (1, 1, 0, 0, 0) := by decide +kernel
theorem c_99_1 : pg_cd 99 1 = (6, 1, 0, 2, 0) := by decide +kernel
theorem c_99_2 : pg_cd 99 2 = (1, 1, 0, 0, 0) := by decide +kernel
theorem c_99_3 : pg_cd 99 3 = (6, 1, 0, 3, 0) := by decide +kernel
theorem c_99_4 : pg_cd 99 4 = (3, 1, 0, 3, 0) := by decide +kernel
theorem c_99_5 : pg_cd 99 5 = (5, 1, 0, 0, 0) := by decide +kernel
theorem c_99_6 : pg_cd 99 6 = (45, 8, 32, 5, 0) := by decide +kernel
theorem c_99_9 : pg_cd 99 9 = (43, 4, 89, 2, 0) := by decide +kernel
theorem c_99_12 : pg_cd 99 12 = (37, 3, 0, 3, 18) := by decide +kernel
theorem c_99_15 : pg_cd 99 15 = (3, 1, 0, 2, 0) := by decide +kernel
theorem c_99_16 : pg_cd 99 16 = (5, 1, 0, 0, 0) := by decide +kernel
theorem c_99_17 : pg_cd 99 17 = (3, 1, 0, 3, 0) := by decide +kernel
theorem c_99_18 : pg_cd 99 18 = (3, 1, 0, 1, 0) := by decide +kernel
theorem c_99_19 : pg_cd 99 19 = (80, 98, 107, 0, 0) := by decide +kernel
theorem c_99_22 : pg_cd 99 22 = (10, 1, 0, 0, 0) := by decide +kernel
theorem c_99_23 : pg_cd 99 23 = (6, 1, 0, 2, 0) := by decide +kernel
theorem c_99_24 : pg_cd 99 24 = (9, 3, 0, 3, 1) := by decide +kernel
theorem c_99_27 : pg_cd 99 27 = (38, 3, 0, 0, (-23)) := by decide +kernel
theorem c_99_30 : pg_cd 99 30 = (3, 1, 0, 2, 0) := by decide +kernel
theorem c_99_31 : pg_cd 99 31 = (90, 0, 0, 0, 0) := by decide +kernel
theorem mx_99 : pg_mx 99 = 4 := by decide +kernel
theorem m_99 {d : Nat} {h : ab_H} {Q : Option Value → ab_H → Prop} {x0 : Nat} {x1 : Int32} (t : wq d 99 0 [.ref x0, .int x1, .retAddr 0, .retAddr 0] [] h Q) : wm d 99 [.ref x0, .int x1] h Q := by
  unfold wm
  rw [mx_99]
  exact t
set_option maxRecDepth 20000 in
theorem t_99_0 {d : Nat} {h : ab_H} {Q : Option Value → ab_H → Prop} {x0 : Nat} {x1 : Int32} (t : wq d 99 4 [.ref x0, .int x1, .int 0, .int 0] [] h Q) : wq d 99 0 [.ref x0, .int x1, .retAddr 0, .retAddr 0] [] h Q := by
  refine g1 c_99_0 k_0 ?_
  refine g6 (L' := [.ref x0, .int x1, .int 0, .retAddr 0]) c_99_1 rfl ?_
  refine g1 c_99_2 k_0 ?_
  refine g6 (L' := [.ref x0, .int x1, .int 0, .int 0]) c_99_3 rfl ?_
  exact t
set_option maxRecDepth 20000 in
theorem t_99_4 {d : Nat} {h : ab_H} {Q : Option Value → ab_H → Prop} {x0 : Nat} {x1 : Int32} {x2 : Int32} {x3 : Int32} (t : ab_ok h x0 108 = true ∧ ∃ j1 : Nat, ab_r h x0 5 = some j1 ∧ ab_ok h j1 104 = true ∧ if (ab_i h j1 2) ≤ x3 then (Q (some (.int x2)) h) else (ab_ok h x0 108 = true ∧ wm d 98 [.ref x0, .int x3, .int x1] h (fun r9 h9 => wq (d + 1) 99 22 [.ref x0, .int x1, .int x2, .int x3] (r9.toList ++ [.int x2]) h9 Q))) : wq (d + 1) 99 4 [.ref x0, .int x1, .int x2, .int x3] [] h Q := by
  refine g3 c_99_4 rfl ?_
  refine g5 c_99_5 rfl ?_
  obtain ⟨ho, j1, hr, t⟩ := t
  refine g45 c_99_6 ho hr ?_
  obtain ⟨ho, t⟩ := t
  refine g43 c_99_9 ho ?_
  refine gcm c_99_12 (gbr t rfl rfl (fun hc t => ?_) (fun hc t => ?_))
  · refine g3 c_99_30 rfl ?_
    exact g90 c_99_31 t
  · refine g3 c_99_15 rfl ?_
    refine g5 c_99_16 rfl ?_
    refine g3 c_99_17 rfl ?_
    refine g3 c_99_18 rfl ?_
    exact g80 (As := [.int x3, .int x1]) (rest := [.int x2]) c_99_19 rfl rfl (Nat.le_of_ble_eq_true rfl) (Nat.le_of_ble_eq_true rfl) t.1 t.2
set_option maxRecDepth 20000 in
theorem t_99_22 {d : Nat} {h : ab_H} {Q : Option Value → ab_H → Prop} {x0 : Nat} {x1 : Int32} {x2 : Int32} {x3 : Int32} {s0 : Int32} {s1 : Int32} (t : wq d 99 4 [.ref x0, .int x1, .int (s0 + s1), .int (x3 + 1)] [] h Q) : wq d 99 22 [.ref x0, .int x1, .int x2, .int x3] [.int s1, .int s0] h Q := by
  refine g10 c_99_22 ?_
  refine g6 (L' := [.ref x0, .int x1, .int (s0 + s1), .int x3]) c_99_23 rfl ?_
  refine g9 (L' := [.ref x0, .int x1, .int (s0 + s1), .int (x3 + 1)]) c_99_24 rfl k_1 rfl ?_
  refine g38 c_99_27 rfl ?_
  exact t
-- method 100: MillTown$Town.millOfTeacher(II)I
theorem c_100_0 : pg_cd 100 0 = (5, 1, 0, 0, 0) := by decide +kernel
theorem c_100_1 : pg_cd 100 1 = (45, 8, 32, 5, 0) := by decide +kernel
theorem c_100_4 : pg_cd 100 4 = (3, 1, 0, 2, 0) := by decide +kernel
theorem c_100_5 : pg_cd 100 5 = (80, 53, 110, 0, 0) := by decide +kernel
theorem c_100_8 : pg_cd 100 8 = (36, 3, 0, 0, 25) := by decide +kernel
theorem c_100_11 : pg_cd 100 11 = (3, 1, 0, 2, 0) := by decide +kernel
theorem c_100_12 : pg_cd 100 12 = (3, 1, 0, 1, 0) := by decide +kernel
theorem c_100_13 : pg_cd 100 13 = (37, 3, 0, 0, 20) := by decide +kernel
theorem c_100_16 : pg_cd 100 16 = (5, 1, 0, 0, 0) := by decide +kernel
theorem c_100_17 : pg_cd 100 17 = (45, 8, 32, 5, 0) := by decide +kernel
theorem c_100_20 : pg_cd 100 20 = (3, 1, 0, 2, 0) := by decide +kernel
theorem c_100_21 : pg_cd 100 21 = (1, 1, 0, 0, 3) := by decide +kernel
theorem c_100_22 : pg_cd 100 22 = (80, 55, 92, 0, 0) := by decide +kernel
theorem c_100_25 : pg_cd 100 25 = (1, 1, 0, 0, 1) := by decide +kernel
theorem c_100_26 : pg_cd 100 26 = (37, 3, 0, 1, 7) := by decide +kernel
theorem c_100_29 : pg_cd 100 29 = (1, 1, 0, 0, 1) := by decide +kernel
theorem c_100_30 : pg_cd 100 30 = (38, 3, 0, 0, 4) := by decide +kernel
theorem c_100_33 : pg_cd 100 33 = (1, 1, 0, 0, 0) := by decide +kernel
theorem c_100_34 : pg_cd 100 34 = (6, 1, 0, 3, 0) := by decide +kernel
theorem c_100_35 : pg_cd 100 35 = (3, 1, 0, 3, 0) := by decide +kernel
theorem c_100_36 : pg_cd 100 36 = (36, 3, 0, 0, 15) := by decide +kernel
theorem c_100_39 : pg_cd 100 39 = (5, 1, 0, 0, 0) := by decide +kernel
theorem c_100_40 : pg_cd 100 40 = (45, 8, 32, 5, 0) := by decide +kernel
theorem c_100_43 : pg_cd 100 43 = (3, 1, 0, 2, 0) := by decide +kernel
theorem c_100_44 : pg_cd 100 44 = (1, 1, 0, 0, 4) := by decide +kernel
theorem c_100_45 : pg_cd 100 45 = (80, 55, 92, 0, 0) := by decide +kernel
theorem c_100_48 : pg_cd 100 48 = (38, 3, 0, 0, 4) := by decide +kernel
theorem c_100_51 : pg_cd 100 51 = (1, 1, 0, 0, (-1)) := by decide +kernel
theorem c_100_52 : pg_cd 100 52 = (90, 0, 0, 0, 0) := by decide +kernel
theorem mx_100 : pg_mx 100 = 4 := by decide +kernel
theorem m_100 {d : Nat} {h : ab_H} {Q : Option Value → ab_H → Prop} {x0 : Nat} {x1 : Int32} {x2 : Int32} (t : wq d 100 0 [.ref x0, .int x1, .int x2, .retAddr 0] [] h Q) : wm d 100 [.ref x0, .int x1, .int x2] h Q := by
  unfold wm
  rw [mx_100]
  exact t
set_option maxRecDepth 20000 in
theorem t_100_0 {d : Nat} {h : ab_H} {Q : Option Value → ab_H → Prop} {x0 : Nat} {x1 : Int32} {x2 : Int32} (t : ab_ok h x0 108 = true ∧ ∃ j1 : Nat, ab_r h x0 5 = some j1 ∧ ab_ok h j1 104 = true ∧ wm d 53 [.ref j1, .int x2] h (fun r9 h9 => wq (d + 1) 100 8 [.ref x0, .int x1, .int x2, .retAddr 0] (r9.toList ++ []) h9 Q)) : wq (d + 1) 100 0 [.ref x0, .int x1, .int x2, .retAddr 0] [] h Q := by
  refine g5 c_100_0 rfl ?_
  obtain ⟨ho, j1, hr, t⟩ := t
  refine g45 c_100_1 ho hr ?_
  refine g3 c_100_4 rfl ?_
  exact g80 (As := [.int x2]) (rest := []) c_100_5 rfl rfl (Nat.le_of_ble_eq_true rfl) (Nat.le_of_ble_eq_true rfl) t.1 t.2
set_option maxRecDepth 20000 in
theorem t_100_8 {d : Nat} {h : ab_H} {Q : Option Value → ab_H → Prop} {x0 : Nat} {x1 : Int32} {x2 : Int32} {s0 : Int32} (t : if s0 = 0 then (if (0 : Int32) = 0 then (Q (some (.int (-1))) h) else (ab_ok h x0 108 = true ∧ ∃ j1 : Nat, ab_r h x0 5 = some j1 ∧ ab_ok h j1 104 = true ∧ wm d 55 [.ref j1, .int x2, .int 4] h (fun r9 h9 => wq (d + 1) 100 48 [.ref x0, .int x1, .int x2, .int 0] (r9.toList ++ []) h9 Q))) else (if x2 = x1 then (if (0 : Int32) = 0 then (Q (some (.int (-1))) h) else (ab_ok h x0 108 = true ∧ ∃ j2 : Nat, ab_r h x0 5 = some j2 ∧ ab_ok h j2 104 = true ∧ wm d 55 [.ref j2, .int x2, .int 4] h (fun r9 h9 => wq (d + 1) 100 48 [.ref x0, .int x1, .int x2, .int 0] (r9.toList ++ []) h9 Q))) else (ab_ok h x0 108 = true ∧ ∃ j3 : Nat, ab_r h x0 5 = some j3 ∧ ab_ok h j3 104 = true ∧ wm d 55 [.ref j3, .int x2, .int 3] h (fun r9 h9 => wq (d + 1) 100 25 [.ref x0, .int x1, .int x2, .retAddr 0] (r9.toList ++ []) h9 Q)))) : wq (d + 1) 100 8 [.ref x0, .int x1, .int x2, .retAddr 0] [.int s0] h Q := by
  refine gif c_100_8 (gbr t rfl rfl (fun hc t => ?_) (fun hc t => ?_))
  · refine g1 c_100_33 k_0 ?_
    refine g6 (L' := [.ref x0, .int x1, .int x2, .int 0]) c_100_34 rfl ?_
    refine g3 c_100_35 rfl ?_
    refine gif c_100_36 (gbr t rfl rfl (fun hc t => ?_) (fun hc t => ?_))
    · refine g1 c_100_51 k_m1 ?_
      exact g90 c_100_52 t
    · refine g5 c_100_39 rfl ?_
      obtain ⟨ho, j1, hr, t⟩ := t
      refine g45 c_100_40 ho hr ?_
      refine g3 c_100_43 rfl ?_
      refine g1 c_100_44 k_4 ?_
      exact g80 (As := [.int x2, .int 4]) (rest := []) c_100_45 rfl rfl (Nat.le_of_ble_eq_true rfl) (Nat.le_of_ble_eq_true rfl) t.1 t.2
  · refine g3 c_100_11 rfl ?_
    refine g3 c_100_12 rfl ?_
    refine gcm c_100_13 (gbr t rfl rfl (fun hc t => ?_) (fun hc t => ?_))
    · refine g1 c_100_33 k_0 ?_
      refine g6 (L' := [.ref x0, .int x1, .int x2, .int 0]) c_100_34 rfl ?_
      refine g3 c_100_35 rfl ?_
      refine gif c_100_36 (gbr t rfl rfl (fun hc t => ?_) (fun hc t => ?_))
      · refine g1 c_100_51 k_m1 ?_
        exact g90 c_100_52 t
      · refine g5 c_100_39 rfl ?_
        obtain ⟨ho, j2, hr, t⟩ := t
        refine g45 c_100_40 ho hr ?_
        refine g3 c_100_43 rfl ?_
        refine g1 c_100_44 k_4 ?_
        exact g80 (As := [.int x2, .int 4]) (rest := []) c_100_45 rfl rfl (Nat.le_of_ble_eq_true rfl) (Nat.le_of_ble_eq_true rfl) t.1 t.2
    · refine g5 c_100_16 rfl ?_
      obtain ⟨ho, j3, hr, t⟩ := t
      refine g45 c_100_17 ho hr ?_
      refine g3 c_100_20 rfl ?_
      refine g1 c_100_21 k_3 ?_
      exact g80 (As := [.int x2, .int 3]) (rest := []) c_100_22 rfl rfl (Nat.le_of_ble_eq_true rfl) (Nat.le_of_ble_eq_true rfl) t.1 t.2
set_option maxRecDepth 20000 in
theorem t_100_25 {d : Nat} {h : ab_H} {Q : Option Value → ab_H → Prop} {x0 : Nat} {x1 : Int32} {x2 : Int32} {s0 : Int32} (t : if s0 = 1 then (if (1 : Int32) = 0 then (Q (some (.int (-1))) h) else (ab_ok h x0 108 = true ∧ ∃ j1 : Nat, ab_r h x0 5 = some j1 ∧ ab_ok h j1 104 = true ∧ wm d 55 [.ref j1, .int x2, .int 4] h (fun r9 h9 => wq (d + 1) 100 48 [.ref x0, .int x1, .int x2, .int 1] (r9.toList ++ []) h9 Q))) else (if (0 : Int32) = 0 then (Q (some (.int (-1))) h) else (ab_ok h x0 108 = true ∧ ∃ j2 : Nat, ab_r h x0 5 = some j2 ∧ ab_ok h j2 104 = true ∧ wm d 55 [.ref j2, .int x2, .int 4] h (fun r9 h9 => wq (d + 1) 100 48 [.ref x0, .int x1, .int x2, .int 0] (r9.toList ++ []) h9 Q)))) : wq (d + 1) 100 25 [.ref x0, .int x1, .int x2, .retAddr 0] [.int s0] h Q := by
  refine g1 c_100_25 k_1 ?_
  refine gcm c_100_26 (gbn t (ab_c1 _ _) rfl (fun hc t => ?_) (fun hc t => ?_))
  · refine g1 c_100_29 k_1 ?_
    refine g38 c_100_30 rfl ?_
    refine g6 (L' := [.ref x0, .int x1, .int x2, .int 1]) c_100_34 rfl ?_
    refine g3 c_100_35 rfl ?_
    refine gif c_100_36 (gbr t rfl rfl (fun hc t => ?_) (fun hc t => ?_))
    · refine g1 c_100_51 k_m1 ?_
      exact g90 c_100_52 t
    · refine g5 c_100_39 rfl ?_
      obtain ⟨ho, j1, hr, t⟩ := t
      refine g45 c_100_40 ho hr ?_
      refine g3 c_100_43 rfl ?_
      refine g1 c_100_44 k_4 ?_
      exact g80 (As := [.int x2, .int 4]) (rest := []) c_100_45 rfl rfl (Nat.le_of_ble_eq_true rfl) (Nat.le_of_ble_eq_true rfl) t.1 t.2
  · refine g1 c_100_33 k_0 ?_
    refine g6 (L' := [.ref x0, .int x1, .int x2, .int 0]) c_100_34 rfl ?_
    refine g3 c_100_35 rfl ?_
    refine gif c_100_36 (gbr t rfl rfl (fun hc t => ?_) (fun hc t => ?_))
    · refine g1 c_100_51 k_m1 ?_
      exact g90 c_100_52 t
    · refine g5 c_100_39 rfl ?_
      obtain ⟨ho, j2, hr, t⟩ := t
      refine g45 c_100_40 ho hr ?_
      refine g3 c_100_43 rfl ?_
      refine g1 c_100_44 k_4 ?_
      exact g80 (As := [.int x2, .int 4]) (rest := []) c_100_45 rfl rfl (Nat.le_of_ble_eq_true rfl) (Nat.le_of_ble_eq_true rfl) t.1 t.2
set_option maxRecDepth 20000 in
theorem t_100_48 {d : Nat} {h : ab_H} {Q : Option Value → ab_H → Prop} {x0 : Nat} {x1 : Int32} {x2 : Int32} {x3 : Int32} {s0 : Int32} (t : Q (some (.int s0)) h) : wq d 100 48 [.ref x0, .int x1, .int x2, .int x3] [.int s0] h Q := by
  refine g38 c_100_48 rfl ?_
  exact g90 c_100_52 t
-- method 101: MillTown$Town.startWork(IIIII)V
theorem c_101_0 : pg_cd 101 0 = (5, 1, 0, 0, 0) := by decide +kernel
theorem c_101_1 : pg_cd 101 1 = (45, 8, 32, 5, 0) := by decide +kernel
theorem c_101_4 : pg_cd 101 4 = (3, 1, 0, 1, 0) := by decide +kernel
theorem c_101_5 : pg_cd 101 5 = (1, 1, 0, 0, 3) := by decide +kernel
theorem c_101_6 : pg_cd 101 6 = (3, 1, 0, 2, 0) := by decide +kernel
theorem c_101_7 : pg_cd 101 7 = (80, 56, 60, 0, 0) := by decide +kernel
theorem c_101_10 : pg_cd 101 10 = (5, 1, 0, 0, 0) := by decide +kernel
theorem c_101_11 : pg_cd 101 11 = (45, 8, 32, 5, 0) := by decide +kernel
theorem c_101_14 : pg_cd 101 14 = (3, 1, 0, 1, 0) := by decide +kernel
theorem c_101_15 : pg_cd 101 15 = (1, 1, 0, 0, 4) := by decide +kernel
theorem c_101_16 : pg_cd 101 16 = (3, 1, 0, 3, 0) := by decide +kernel
theorem c_101_17 : pg_cd 101 17 = (80, 56, 60, 0, 0) := by decide +kernel
theorem c_101_20 : pg_cd 101 20 = (5, 1, 0, 0, 0) := by decide +kernel
theorem c_101_21 : pg_cd 101 21 = (45, 8, 32, 5, 0) := by decide +kernel
theorem c_101_24 : pg_cd 101 24 = (3, 1, 0, 1, 0) := by decide +kernel
theorem c_101_25 : pg_cd 101 25 = (1, 1, 0, 0, 5) := by decide +kernel
theorem c_101_26 : pg_cd 101 26 = (3, 2, 0, 4, 0) := by decide +kernel
theorem c_101_28 : pg_cd 101 28 = (80, 56, 60, 0, 0) := by decide +kernel
theorem c_101_31 : pg_cd 101 31 = (5, 1, 0, 0, 0) := by decide +kernel
theorem c_101_32 : pg_cd 101 32 = (45, 8, 32, 5, 0) := by decide +kernel
theorem c_101_35 : pg_cd 101 35 = (3, 1, 0, 1, 0) := by decide +kernel
theorem c_101_36 : pg_cd 101 36 = (1, 2, 0, 0, 6) := by decide +kernel
theorem c_101_38 : pg_cd 101 38 = (3, 2, 0, 5, 0) := by decide +kernel
theorem c_101_40 : pg_cd 101 40 = (80, 56, 60, 0, 0) := by decide +kernel
theorem c_101_43 : pg_cd 101 43 = (94, 0, 0, 0, 0) := by decide +kernel
theorem mx_101 : pg_mx 101 = 6 := by decide +kernel
theorem m_101 {d : Nat} {h : ab_H} {Q : Option Value → ab_H → Prop} {x0 : Nat} {x1 : Int32} {x2 : Int32} {x3 : Int32} {x4 : Int32} {x5 : Int32} (t : wq d 101 0 [.ref x0, .int x1, .int x2, .int x3, .int x4, .int x5] [] h Q) : wm d 101 [.ref x0, .int x1, .int x2, .int x3, .int x4, .int x5] h Q := by
  unfold wm
  rw [mx_101]
  exact t
set_option maxRecDepth 20000 in
theorem t_101_0 {d : Nat} {h : ab_H} {Q : Option Value → ab_H → Prop} {x0 : Nat} {x1 : Int32} {x2 : Int32} {x3 : Int32} {x4 : Int32} {x5 : Int32} (t : ab_ok h x0 108 = true ∧ ∃ j1 : Nat, ab_r h x0 5 = some j1 ∧ ab_ok h j1 104 = true ∧ wm d 56 [.ref j1, .int x1, .int 3, .int x2] h (fun r9 h9 => wq (d + 1) 101 10 [.ref x0, .int x1, .int x2, .int x3, .int x4, .int x5] (r9.toList ++ []) h9 Q)) : wq (d + 1) 101 0 [.ref x0, .int x1, .int x2, .int x3, .int x4, .int x5] [] h Q := by
  refine g5 c_101_0 rfl ?_
  obtain ⟨ho, j1, hr, t⟩ := t
  refine g45 c_101_1 ho hr ?_
  refine g3 c_101_4 rfl ?_
  refine g1 c_101_5 k_3 ?_
  refine g3 c_101_6 rfl ?_
  exact g80 (As := [.int x1, .int 3, .int x2]) (rest := []) c_101_7 rfl rfl (Nat.le_of_ble_eq_true rfl) (Nat.le_of_ble_eq_true rfl) t.1 t.2
set_option maxRecDepth 20000 in
theorem t_101_10 {d : Nat} {h : ab_H} {Q : Option Value → ab_H → Prop} {x0 : Nat} {x1 : Int32} {x2 : Int32} {x3 : Int32} {x4 : Int32} {x5 : Int32} (t : ab_ok h x0 108 = true ∧ ∃ j1 : Nat, ab_r h x0 5 = some j1 ∧ ab_ok h j1 104 = true ∧ wm d 56 [.ref j1, .int x1, .int 4, .int x3] h (fun r9 h9 => wq (d + 1) 101 20 [.ref x0, .int x1, .int x2, .int x3, .int x4, .int x5] (r9.toList ++ []) h9 Q)) : wq (d + 1) 101 10 [.ref x0, .int x1, .int x2, .int x3, .int x4, .int x5] [] h Q := by
  refine g5 c_101_10 rfl ?_
  obtain ⟨ho, j1, hr, t⟩ := t
  refine g45 c_101_11 ho hr ?_
  refine g3 c_101_14 rfl ?_
  refine g1 c_101_15 k_4 ?_
  refine g3 c_101_16 rfl ?_
  exact g80 (As := [.int x1, .int 4, .int x3]) (rest := []) c_101_17 rfl rfl (Nat.le_of_ble_eq_true rfl) (Nat.le_of_ble_eq_true rfl) t.1 t.2
set_option maxRecDepth 20000 in
theorem t_101_20 {d : Nat} {h : ab_H} {Q : Option Value → ab_H → Prop} {x0 : Nat} {x1 : Int32} {x2 : Int32} {x3 : Int32} {x4 : Int32} {x5 : Int32} (t : ab_ok h x0 108 = true ∧ ∃ j1 : Nat, ab_r h x0 5 = some j1 ∧ ab_ok h j1 104 = true ∧ wm d 56 [.ref j1, .int x1, .int 5, .int x4] h (fun r9 h9 => wq (d + 1) 101 31 [.ref x0, .int x1, .int x2, .int x3, .int x4, .int x5] (r9.toList ++ []) h9 Q)) : wq (d + 1) 101 20 [.ref x0, .int x1, .int x2, .int x3, .int x4, .int x5] [] h Q := by
  refine g5 c_101_20 rfl ?_
  obtain ⟨ho, j1, hr, t⟩ := t
  refine g45 c_101_21 ho hr ?_
  refine g3 c_101_24 rfl ?_
  refine g1 c_101_25 k_5 ?_
  refine g3 c_101_26 rfl ?_
  exact g80 (As := [.int x1, .int 5, .int x4]) (rest := []) c_101_28 rfl rfl (Nat.le_of_ble_eq_true rfl) (Nat.le_of_ble_eq_true rfl) t.1 t.2
set_option maxRecDepth 20000 in
theorem t_101_31 {d : Nat} {h : ab_H} {Q : Option Value → ab_H → Prop} {x0 : Nat} {x1 : Int32} {x2 : Int32} {x3 : Int32} {x4 : Int32} {x5 : Int32} (t : ab_ok h x0 108 = true ∧ ∃ j1 : Nat, ab_r h x0 5 = some j1 ∧ ab_ok h j1 104 = true ∧ wm d 56 [.ref j1, .int x1, .int 6, .int x5] h (fun r9 h9 => wq (d + 1) 101 43 [.ref x0, .int x1, .int x2, .int x3, .int x4, .int x5] (r9.toList ++ []) h9 Q)) : wq (d + 1) 101 31 [.ref x0, .int x1, .int x2, .int x3, .int x4, .int x5] [] h Q := by
  refine g5 c_101_31 rfl ?_
  obtain ⟨ho, j1, hr, t⟩ := t
  refine g45 c_101_32 ho hr ?_
  refine g3 c_101_35 rfl ?_
  refine g1 c_101_36 k_6 ?_
  refine g3 c_101_38 rfl ?_
  exact g80 (As := [.int x1, .int 6, .int x5]) (rest := []) c_101_40 rfl rfl (Nat.le_of_ble_eq_true rfl) (Nat.le_of_ble_eq_true rfl) t.1 t.2
set_option maxRecDepth 20000 in
theorem t_101_43 {d : Nat} {h : ab_H} {Q : Option Value → ab_H → Prop} {x0 : Nat} {x1 : Int32} {x2 : Int32} {x3 : Int32} {x4 : Int32} {x5 : Int32} (t : Q none h) : wq d 101 43 [.ref x0, .int x1, .int x2, .int x3, .int x4, .int x5] [] h Q := by
  exact g94 c_101_43 t
-- method 102: MillTown$Town.clearWork(I)V
theorem c_102_0 : pg_cd 102 0 = (5, 1, 0, 0, 0) := by decide +kernel
theorem c_102_1 : pg_cd 102 1 = (3, 1, 0, 1, 0) := by decide +kernel
theorem c_102_2 : pg_cd 102 2 = (1, 1, 0, 0, 0) := by decide +kernel
theorem c_102_3 : pg_cd 102 3 = (1, 1, 0, 0, (-1)) := by decide +kernel
theorem c_102_4 : pg_cd 102 4 = (1, 1, 0, 0, 0) := by decide +kernel
theorem c_102_5 : pg_cd 102 5 = (1, 1, 0, 0, (-1)) := by decide +kernel
theorem c_102_6 : pg_cd 102 6 = (80, 101, 113, 0, 0) := by decide +kernel
theorem c_102_9 : pg_cd 102 9 = (5, 1, 0, 0, 0) := by decide +kernel
theorem c_102_10 : pg_cd 102 10 = (45, 8, 32, 5, 0) := by decide +kernel
theorem c_102_13 : pg_cd 102 13 = (3, 1, 0, 1, 0) := by decide +kernel
theorem c_102_14 : pg_cd 102 14 = (1, 2, 0, 0, 7) := by decide +kernel
theorem c_102_16 : pg_cd 102 16 = (1, 1, 0, 0, 0) := by decide +kernel
theorem c_102_17 : pg_cd 102 17 = (80, 56, 60, 0, 0) := by decide +kernel
theorem c_102_20 : pg_cd 102 20 = (94, 0, 0, 0, 0) := by decide +kernel
theorem mx_102 : pg_mx 102 = 2 := by decide +kernel
theorem m_102 {d : Nat} {h : ab_H} {Q : Option Value → ab_H → Prop} {x0 : Nat} {x1 : Int32} (t : wq d 102 0 [.ref x0, .int x1] [] h Q) : wm d 102 [.ref x0, .int x1] h Q := by
  unfold wm
  rw [mx_102]
  exact t
set_option maxRecDepth 20000 in
theorem t_102_0 {d : Nat} {h : ab_H} {Q : Option Value → ab_H → Prop} {x0 : Nat} {x1 : Int32} (t : ab_ok h x0 108 = true ∧ wm d 101 [.ref x0, .int x1, .int 0, .int (-1), .int 0, .int (-1)] h (fun r9 h9 => wq (d + 1) 102 9 [.ref x0, .int x1] (r9.toList ++ []) h9 Q)) : wq (d + 1) 102 0 [.ref x0, .int x1] [] h Q := by
  refine g5 c_102_0 rfl ?_
  refine g3 c_102_1 rfl ?_
  refine g1 c_102_2 k_0 ?_
  refine g1 c_102_3 k_m1 ?_
  refine g1 c_102_4 k_0 ?_
  refine g1 c_102_5 k_m1 ?_
  exact g80 (As := [.int x1, .int 0, .int (-1), .int 0, .int (-1)]) (rest := []) c_102_6 rfl rfl (Nat.le_of_ble_eq_true rfl) (Nat.le_of_ble_eq_true rfl) t.1 t.2
set_option maxRecDepth 20000 in
theorem t_102_9 {d : Nat} {h : ab_H} {Q : Option Value → ab_H → Prop} {x0 : Nat} {x1 : Int32} (t : ab_ok h x0 108 = true ∧ ∃ j1 : Nat, ab_r h x0 5 = some j1 ∧ ab_ok h j1 104 = true ∧ wm d 56 [.ref j1, .int x1, .int 7, .int 0] h (fun r9 h9 => wq (d + 1) 102 20 [.ref x0, .int x1] (r9.toList ++ []) h9 Q)) : wq (d + 1) 102 9 [.ref x0, .int x1] [] h Q := by
  refine g5 c_102_9 rfl ?_
  obtain ⟨ho, j1, hr, t⟩ := t
  refine g45 c_102_10 ho hr ?_
  refine g3 c_102_13 rfl ?_
  refine g1 c_102_14 k_7 ?_
  refine g1 c_102_16 k_0 ?_
  exact g80 (As := [.int x1, .int 7, .int 0]) (rest := []) c_102_17 rfl rfl (Nat.le_of_ble_eq_true rfl) (Nat.le_of_ble_eq_true rfl) t.1 t.2
set_option maxRecDepth 20000 in
theorem t_102_20 {d : Nat} {h : ab_H} {Q : Option Value → ab_H → Prop} {x0 : Nat} {x1 : Int32} (t : Q none h) : wq d 102 20 [.ref x0, .int x1] [] h Q := by
  exact g94 c_102_20 t
-- method 103: MillTown$Town.endWork(I)V
theorem c_103_0 : pg_cd 103 0 = (5, 1, 0, 0, 0) := by decide +kernel
theorem c_103_1 : pg_cd 103 1 = (45, 8, 32, 5, 0) := by decide +kernel
theorem c_103_4 : pg_cd 103 4 = (3, 1, 0, 1, 0) := by decide +kernel
theorem c_103_5 : pg_cd 103 5 = (1, 1, 0, 0, 3) := by decide +kernel
theorem c_103_6 : pg_cd 103 6 = (80, 55, 92, 0, 0) := by decide +kernel
theorem c_103_9 : pg_cd 103 9 = (1, 1, 0, 0, 1) := by decide +kernel
theorem c_103_10 : pg_cd 103 10 = (37, 3, 0, 1, 54) := by decide +kernel
theorem c_103_13 : pg_cd 103 13 = (1, 1, 0, 0, 0) := by decide +kernel
theorem c_103_14 : pg_cd 103 14 = (6, 1, 0, 2, 0) := by decide +kernel
theorem c_103_15 : pg_cd 103 15 = (3, 1, 0, 2, 0) := by decide +kernel
theorem c_103_16 : pg_cd 103 16 = (5, 1, 0, 0, 0) := by decide +kernel
theorem c_103_17 : pg_cd 103 17 = (45, 8, 32, 5, 0) := by decide +kernel
theorem c_103_20 : pg_cd 103 20 = (43, 4, 89, 2, 0) := by decide +kernel
theorem c_103_23 : pg_cd 103 23 = (37, 3, 0, 3, 41) := by decide +kernel
theorem c_103_26 : pg_cd 103 26 = (5, 1, 0, 0, 0) := by decide +kernel
theorem c_103_27 : pg_cd 103 27 = (45, 8, 32, 5, 0) := by decide +kernel
theorem c_103_30 : pg_cd 103 30 = (3, 1, 0, 2, 0) := by decide +kernel
theorem c_103_31 : pg_cd 103 31 = (1, 1, 0, 0, 3) := by decide +kernel
theorem c_103_32 : pg_cd 103 32 = (80, 55, 92, 0, 0) := by decide +kernel
theorem c_103_35 : pg_cd 103 35 = (1, 1, 0, 0, 2) := by decide +kernel
theorem c_103_36 : pg_cd 103 36 = (37, 3, 0, 1, 22) := by decide +kernel
theorem c_103_39 : pg_cd 103 39 = (5, 1, 0, 0, 0) := by decide +kernel
theorem c_103_40 : pg_cd 103 40 = (45, 8, 32, 5, 0) := by decide +kernel
theorem c_103_43 : pg_cd 103 43 = (3, 1, 0, 2, 0) := by decide +kernel
theorem c_103_44 : pg_cd 103 44 = (1, 2, 0, 0, 6) := by decide +kernel
theorem c_103_46 : pg_cd 103 46 = (80, 55, 92, 0, 0) := by decide +kernel
theorem c_103_49 : pg_cd 103 49 = (3, 1, 0, 1, 0) := by decide +kernel
theorem c_103_50 : pg_cd 103 50 = (37, 3, 0, 1, 8) := by decide +kernel
theorem c_103_53 : pg_cd 103 53 = (5, 1, 0, 0, 0) := by decide +kernel
theorem c_103_54 : pg_cd 103 54 = (3, 1, 0, 2, 0) := by decide +kernel
theorem c_103_55 : pg_cd 103 55 = (80, 102, 96, 0, 0) := by decide +kernel
theorem c_103_58 : pg_cd 103 58 = (9, 3, 0, 2, 1) := by decide +kernel
theorem c_103_61 : pg_cd 103 61 = (38, 3, 0, 0, (-46)) := by decide +kernel
theorem c_103_64 : pg_cd 103 64 = (5, 1, 0, 0, 0) := by decide +kernel
theorem c_103_65 : pg_cd 103 65 = (3, 1, 0, 1, 0) := by decide +kernel
theorem c_103_66 : pg_cd 103 66 = (80, 102, 96, 0, 0) := by decide +kernel
theorem c_103_69 : pg_cd 103 69 = (94, 0, 0, 0, 0) := by decide +kernel
theorem mx_103 : pg_mx 103 = 3 := by decide +kernel
theorem m_103 {d : Nat} {h : ab_H} {Q : Option Value → ab_H → Prop} {x0 : Nat} {x1 : Int32} (t : wq d 103 0 [.ref x0, .int x1, .retAddr 0] [] h Q) : wm d 103 [.ref x0, .int x1] h Q := by
  unfold wm
  rw [mx_103]
  exact t
set_option maxRecDepth 20000 in
theorem t_103_0 {d : Nat} {h : ab_H} {Q : Option Value → ab_H → Prop} {x0 : Nat} {x1 : Int32} (t : ab_ok h x0 108 = true ∧ ∃ j1 : Nat, ab_r h x0 5 = some j1 ∧ ab_ok h j1 104 = true ∧ wm d 55 [.ref j1, .int x1, .int 3] h (fun r9 h9 => wq (d + 1) 103 9 [.ref x0, .int x1, .retAddr 0] (r9.toList ++ []) h9 Q)) : wq (d + 1) 103 0 [.ref x0, .int x1, .retAddr 0] [] h Q := by
  refine g5 c_103_0 rfl ?_
  obtain ⟨ho, j1, hr, t⟩ := t
  refine g45 c_103_1 ho hr ?_
  refine g3 c_103_4 rfl ?_
  refine g1 c_103_5 k_3 ?_
  exact g80 (As := [.int x1, .int 3]) (rest := []) c_103_6 rfl rfl (Nat.le_of_ble_eq_true rfl) (Nat.le_of_ble_eq_true rfl) t.1 t.2
set_option maxRecDepth 20000 in
theorem t_103_9 {d : Nat} {h : ab_H} {Q : Option Value → ab_H → Prop} {x0 : Nat} {x1 : Int32} {s0 : Int32} (t : if s0 = 1 then (wq (d + 1) 103 15 [.ref x0, .int x1, .int 0] [] h Q) else (ab_ok h x0 108 = true ∧ wm d 102 [.ref x0, .int x1] h (fun r9 h9 => wq (d + 1) 103 69 [.ref x0, .int x1, .retAddr 0] (r9.toList ++ []) h9 Q))) : wq (d + 1) 103 9 [.ref x0, .int x1, .retAddr 0] [.int s0] h Q := by
  refine g1 c_103_9 k_1 ?_
  refine gcm c_103_10 (gbn t (ab_c1 _ _) rfl (fun hc t => ?_) (fun hc t => ?_))
  · refine g1 c_103_13 k_0 ?_
    refine g6 (L' := [.ref x0, .int x1, .int 0]) c_103_14 rfl ?_
    exact t
  · refine g5 c_103_64 rfl ?_
    refine g3 c_103_65 rfl ?_
    exact g80 (As := [.int x1]) (rest := []) c_103_66 rfl rfl (Nat.le_of_ble_eq_true rfl) (Nat.le_of_ble_eq_true rfl) t.1 t.2
set_option maxRecDepth 20000 in
theorem t_103_15 {d : Nat} {h : ab_H} {Q : Option Value → ab_H → Prop} {x0 : Nat} {x1 : Int32} {x2 : Int32} (t : ab_ok h x0 108 = true ∧ ∃ j1 : Nat, ab_r h x0 5 = some j1 ∧ ab_ok h j1 104 = true ∧ if (ab_i h j1 2) ≤ x2 then (ab_ok h x0 108 = true ∧ wm d 102 [.ref x0, .int x1] h (fun r9 h9 => wq (d + 1) 103 69 [.ref x0, .int x1, .int x2] (r9.toList ++ []) h9 Q)) else (ab_ok h x0 108 = true ∧ ∃ j2 : Nat, ab_r h x0 5 = some j2 ∧ ab_ok h j2 104 = true ∧ wm d 55 [.ref j2, .int x2, .int 3] h (fun r9 h9 => wq (d + 1) 103 35 [.ref x0, .int x1, .int x2] (r9.toList ++ []) h9 Q))) : wq (d + 1) 103 15 [.ref x0, .int x1, .int x2] [] h Q := by
  refine g3 c_103_15 rfl ?_
  refine g5 c_103_16 rfl ?_
  obtain ⟨ho, j1, hr, t⟩ := t
  refine g45 c_103_17 ho hr ?_
  obtain ⟨ho, t⟩ := t
  refine g43 c_103_20 ho ?_
  refine gcm c_103_23 (gbr t rfl rfl (fun hc t => ?_) (fun hc t => ?_))
  · refine g5 c_103_64 rfl ?_
    refine g3 c_103_65 rfl ?_
    exact g80 (As := [.int x1]) (rest := []) c_103_66 rfl rfl (Nat.le_of_ble_eq_true rfl) (Nat.le_of_ble_eq_true rfl) t.1 t.2
  · refine g5 c_103_26 rfl ?_
    obtain ⟨ho, j2, hr, t⟩ := t
    refine g45 c_103_27 ho hr ?_
    refine g3 c_103_30 rfl ?_
    refine g1 c_103_31 k_3 ?_
    exact g80 (As := [.int x2, .int 3]) (rest := []) c_103_32 rfl rfl (Nat.le_of_ble_eq_true rfl) (Nat.le_of_ble_eq_true rfl) t.1 t.2
set_option maxRecDepth 20000 in
theorem t_103_35 {d : Nat} {h : ab_H} {Q : Option Value → ab_H → Prop} {x0 : Nat} {x1 : Int32} {x2 : Int32} {s0 : Int32} (t : if s0 = 2 then (ab_ok h x0 108 = true ∧ ∃ j1 : Nat, ab_r h x0 5 = some j1 ∧ ab_ok h j1 104 = true ∧ wm d 55 [.ref j1, .int x2, .int 6] h (fun r9 h9 => wq (d + 1) 103 49 [.ref x0, .int x1, .int x2] (r9.toList ++ []) h9 Q)) else (wq (d + 1) 103 15 [.ref x0, .int x1, .int (x2 + 1)] [] h Q)) : wq (d + 1) 103 35 [.ref x0, .int x1, .int x2] [.int s0] h Q := by
  refine g1 c_103_35 k_2 ?_
  refine gcm c_103_36 (gbn t (ab_c1 _ _) rfl (fun hc t => ?_) (fun hc t => ?_))
  · refine g5 c_103_39 rfl ?_
    obtain ⟨ho, j1, hr, t⟩ := t
    refine g45 c_103_40 ho hr ?_
    refine g3 c_103_43 rfl ?_
    refine g1 c_103_44 k_6 ?_
    exact g80 (As := [.int x2, .int 6]) (rest := []) c_103_46 rfl rfl (Nat.le_of_ble_eq_true rfl) (Nat.le_of_ble_eq_true rfl) t.1 t.2
  · refine g9 (L' := [.ref x0, .int x1, .int (x2 + 1)]) c_103_58 rfl k_1 rfl ?_
    refine g38 c_103_61 rfl ?_
    exact t
set_option maxRecDepth 20000 in
theorem t_103_49 {d : Nat} {h : ab_H} {Q : Option Value → ab_H → Prop} {x0 : Nat} {x1 : Int32} {x2 : Int32} {s0 : Int32} (t : if s0 = x1 then (ab_ok h x0 108 = true ∧ wm d 102 [.ref x0, .int x2] h (fun r9 h9 => wq (d + 1) 103 58 [.ref x0, .int x1, .int x2] (r9.toList ++ []) h9 Q)) else (wq (d + 1) 103 15 [.ref x0, .int x1, .int (x2 + 1)] [] h Q)) : wq (d + 1) 103 49 [.ref x0, .int x1, .int x2] [.int s0] h Q := by
  refine g3 c_103_49 rfl ?_
  refine gcm c_103_50 (gbn t (ab_c1 _ _) rfl (fun hc t => ?_) (fun hc t => ?_))
  · refine g5 c_103_53 rfl ?_
    refine g3 c_103_54 rfl ?_
    exact g80 (As := [.int x2]) (rest := []) c_103_55 rfl rfl (Nat.le_of_ble_eq_true rfl) (Nat.le_of_ble_eq_true rfl) t.1 t.2
  · refine g9 (L' := [.ref x0, .int x1, .int (x2 + 1)]) c_103_58 rfl k_1 rfl ?_
    refine g38 c_103_61 rfl ?_
    exact t
set_option maxRecDepth 20000 in
theorem t_103_58 {d : Nat} {h : ab_H} {Q : Option Value → ab_H → Prop} {x0 : Nat} {x1 : Int32} {x2 : Int32} (t : wq d 103 15 [.ref x0, .int x1, .int (x2 + 1)] [] h Q) : wq d 103 58 [.ref x0, .int x1, .int x2] [] h Q := by
  refine g9 (L' := [.ref x0, .int x1, .int (x2 + 1)]) c_103_58 rfl k_1 rfl ?_
  refine g38 c_103_61 rfl ?_
  exact t
set_option maxRecDepth 20000 in
theorem t_103_69 {d : Nat} {h : ab_H} {Q : Option Value → ab_H → Prop} {x0 : Nat} {x1 : Int32} (t : Q none h) : wq d 103 69 [.ref x0, .int x1, .retAddr 0] [] h Q := by
  exact g94 c_103_69 t
-- method 104: MillTown$Town.costOf(I)I
theorem c_104_0 : pg_cd 104 0 = (5, 1, 0, 0, 0) := by decide +kernel
theorem c_104_1 : pg_cd 104 1 = (45, 8, 14, 0, 0) := by decide +kernel
theorem c_104_4 : pg_cd 104 4 = (3, 1, 0, 1, 0) := by decide +kernel
theorem c_104_5 : pg_cd 104 5 = (1, 1, 0, 0, 0) := by decide +kernel
theorem c_104_6 : pg_cd 104 6 = (80, 55, 92, 0, 0) := by decide +kernel
theorem c_104_9 : pg_cd 104 9 = (5, 1, 0, 0, 0) := by decide +kernel
theorem c_104_10 : pg_cd 104 10 = (45, 8, 14, 0, 0) := by decide +kernel
theorem c_104_13 : pg_cd 104 13 = (3, 1, 0, 1, 0) := by decide +kernel
theorem c_104_14 : pg_cd 104 14 = (1, 1, 0, 0, 1) := by decide +kernel
theorem c_104_15 : pg_cd 104 15 = (80, 55, 92, 0, 0) := by decide +kernel
theorem c_104_18 : pg_cd 104 18 = (12, 1, 0, 0, 0) := by decide +kernel
theorem c_104_19 : pg_cd 104 19 = (1, 2, 0, 0, 10) := by decide +kernel
theorem c_104_21 : pg_cd 104 21 = (5, 1, 0, 0, 0) := by decide +kernel
theorem c_104_22 : pg_cd 104 22 = (45, 8, 14, 0, 0) := by decide +kernel
theorem c_104_25 : pg_cd 104 25 = (3, 1, 0, 1, 0) := by decide +kernel
theorem c_104_26 : pg_cd 104 26 = (1, 1, 0, 0, 3) := by decide +kernel
theorem c_104_27 : pg_cd 104 27 = (80, 55, 92, 0, 0) := by decide +kernel
theorem c_104_30 : pg_cd 104 30 = (10, 1, 0, 0, 0) := by decide +kernel
theorem c_104_31 : pg_cd 104 31 = (12, 1, 0, 0, 0) := by decide +kernel
theorem c_104_32 : pg_cd 104 32 = (90, 0, 0, 0, 0) := by decide +kernel
theorem mx_104 : pg_mx 104 = 2 := by decide +kernel
theorem m_104 {d : Nat} {h : ab_H} {Q : Option Value → ab_H → Prop} {x0 : Nat} {x1 : Int32} (t : wq d 104 0 [.ref x0, .int x1] [] h Q) : wm d 104 [.ref x0, .int x1] h Q := by
  unfold wm
  rw [mx_104]
  exact t
set_option maxRecDepth 20000 in
theorem t_104_0 {d : Nat} {h : ab_H} {Q : Option Value → ab_H → Prop} {x0 : Nat} {x1 : Int32} (t : ab_ok h x0 108 = true ∧ ∃ j1 : Nat, ab_r h x0 0 = some j1 ∧ ab_ok h j1 104 = true ∧ wm d 55 [.ref j1, .int x1, .int 0] h (fun r9 h9 => wq (d + 1) 104 9 [.ref x0, .int x1] (r9.toList ++ []) h9 Q)) : wq (d + 1) 104 0 [.ref x0, .int x1] [] h Q := by
  refine g5 c_104_0 rfl ?_
  obtain ⟨ho, j1, hr, t⟩ := t
  refine g45 c_104_1 ho hr ?_
  refine g3 c_104_4 rfl ?_
  refine g1 c_104_5 k_0 ?_
  exact g80 (As := [.int x1, .int 0]) (rest := []) c_104_6 rfl rfl (Nat.le_of_ble_eq_true rfl) (Nat.le_of_ble_eq_true rfl) t.1 t.2
set_option maxRecDepth 20000 in
theorem t_104_9 {d : Nat} {h : ab_H} {Q : Option Value → ab_H → Prop} {x0 : Nat} {x1 : Int32} {s0 : Int32} (t : ab_ok h x0 108 = true ∧ ∃ j1 : Nat, ab_r h x0 0 = some j1 ∧ ab_ok h j1 104 = true ∧ wm d 55 [.ref j1, .int x1, .int 1] h (fun r9 h9 => wq (d + 1) 104 18 [.ref x0, .int x1] (r9.toList ++ [.int s0]) h9 Q)) : wq (d + 1) 104 9 [.ref x0, .int x1] [.int s0] h Q := by
  refine g5 c_104_9 rfl ?_
  obtain ⟨ho, j1, hr, t⟩ := t
  refine g45 c_104_10 ho hr ?_
  refine g3 c_104_13 rfl ?_
  refine g1 c_104_14 k_1 ?_
  exact g80 (As := [.int x1, .int 1]) (rest := [.int s0]) c_104_15 rfl rfl (Nat.le_of_ble_eq_true rfl) (Nat.le_of_ble_eq_true rfl) t.1 t.2
set_option maxRecDepth 20000 in
theorem t_104_18 {d : Nat} {h : ab_H} {Q : Option Value → ab_H → Prop} {x0 : Nat} {x1 : Int32} {s0 : Int32} {s1 : Int32} (t : ab_ok h x0 108 = true ∧ ∃ j1 : Nat, ab_r h x0 0 = some j1 ∧ ab_ok h j1 104 = true ∧ wm d 55 [.ref j1, .int x1, .int 3] h (fun r9 h9 => wq (d + 1) 104 30 [.ref x0, .int x1] (r9.toList ++ [.int 10, .int (s0 * s1)]) h9 Q)) : wq (d + 1) 104 18 [.ref x0, .int x1] [.int s1, .int s0] h Q := by
  refine g12 c_104_18 ?_
  refine g1 c_104_19 k_10 ?_
  refine g5 c_104_21 rfl ?_
  obtain ⟨ho, j1, hr, t⟩ := t
  refine g45 c_104_22 ho hr ?_
  refine g3 c_104_25 rfl ?_
  refine g1 c_104_26 k_3 ?_
  exact g80 (As := [.int x1, .int 3]) (rest := [.int 10, .int (s0 * s1)]) c_104_27 rfl rfl (Nat.le_of_ble_eq_true rfl) (Nat.le_of_ble_eq_true rfl) t.1 t.2
set_option maxRecDepth 20000 in
theorem t_104_30 {d : Nat} {h : ab_H} {Q : Option Value → ab_H → Prop} {x0 : Nat} {x1 : Int32} {s0 : Int32} {s1 : Int32} {s2 : Int32} (t : Q (some (.int (s0 * (s1 + s2)))) h) : wq d 104 30 [.ref x0, .int x1] [.int s2, .int s1, .int s0] h Q := by
  refine g10 c_104_30 ?_
  refine g12 c_104_31 ?_
  exact g90 c_104_32 t
-- method 105: MillTown$Town.pointsOf(II)I
theorem c_105_0 : pg_cd 105 0 = (5, 1, 0, 0, 0) := by decide +kernel
theorem c_105_1 : pg_cd 105 1 = (45, 8, 32, 5, 0) := by decide +kernel
theorem c_105_4 : pg_cd 105 4 = (3, 1, 0, 1, 0) := by decide +kernel
theorem c_105_5 : pg_cd 105 5 = (1, 1, 0, 0, 5) := by decide +kernel
theorem c_105_6 : pg_cd 105 6 = (80, 55, 92, 0, 0) := by decide +kernel
theorem c_105_9 : pg_cd 105 9 = (3, 1, 0, 2, 0) := by decide +kernel
theorem c_105_10 : pg_cd 105 10 = (12, 1, 0, 0, 0) := by decide +kernel
theorem c_105_11 : pg_cd 105 11 = (5, 1, 0, 0, 0) := by decide +kernel
theorem c_105_12 : pg_cd 105 12 = (45, 8, 23, 2, 0) := by decide +kernel
theorem c_105_15 : pg_cd 105 15 = (5, 1, 0, 0, 0) := by decide +kernel
theorem c_105_16 : pg_cd 105 16 = (45, 8, 32, 5, 0) := by decide +kernel
theorem c_105_19 : pg_cd 105 19 = (3, 1, 0, 1, 0) := by decide +kernel
theorem c_105_20 : pg_cd 105 20 = (1, 1, 0, 0, 4) := by decide +kernel
theorem c_105_21 : pg_cd 105 21 = (80, 55, 92, 0, 0) := by decide +kernel
theorem c_105_24 : pg_cd 105 24 = (1, 2, 0, 0, 10) := by decide +kernel
theorem c_105_26 : pg_cd 105 26 = (80, 55, 92, 0, 0) := by decide +kernel
theorem c_105_29 : pg_cd 105 29 = (12, 1, 0, 0, 0) := by decide +kernel
theorem c_105_30 : pg_cd 105 30 = (5, 1, 0, 0, 0) := by decide +kernel
theorem c_105_31 : pg_cd 105 31 = (45, 8, 32, 5, 0) := by decide +kernel
theorem c_105_34 : pg_cd 105 34 = (3, 1, 0, 1, 0) := by decide +kernel
theorem c_105_35 : pg_cd 105 35 = (1, 1, 0, 0, 2) := by decide +kernel
theorem c_105_36 : pg_cd 105 36 = (80, 55, 92, 0, 0) := by decide +kernel
theorem c_105_39 : pg_cd 105 39 = (12, 1, 0, 0, 0) := by decide +kernel
theorem c_105_40 : pg_cd 105 40 = (90, 0, 0, 0, 0) := by decide +kernel
theorem mx_105 : pg_mx 105 = 3 := by decide +kernel
theorem m_105 {d : Nat} {h : ab_H} {Q : Option Value → ab_H → Prop} {x0 : Nat} {x1 : Int32} {x2 : Int32} (t : wq d 105 0 [.ref x0, .int x1, .int x2] [] h Q) : wm d 105 [.ref x0, .int x1, .int x2] h Q := by
  unfold wm
  rw [mx_105]
  exact t
set_option maxRecDepth 20000 in
theorem t_105_0 {d : Nat} {h : ab_H} {Q : Option Value → ab_H → Prop} {x0 : Nat} {x1 : Int32} {x2 : Int32} (t : ab_ok h x0 108 = true ∧ ∃ j1 : Nat, ab_r h x0 5 = some j1 ∧ ab_ok h j1 104 = true ∧ wm d 55 [.ref j1, .int x1, .int 5] h (fun r9 h9 => wq (d + 1) 105 9 [.ref x0, .int x1, .int x2] (r9.toList ++ []) h9 Q)) : wq (d + 1) 105 0 [.ref x0, .int x1, .int x2] [] h Q := by
  refine g5 c_105_0 rfl ?_
  obtain ⟨ho, j1, hr, t⟩ := t
  refine g45 c_105_1 ho hr ?_
  refine g3 c_105_4 rfl ?_
  refine g1 c_105_5 k_5 ?_
  exact g80 (As := [.int x1, .int 5]) (rest := []) c_105_6 rfl rfl (Nat.le_of_ble_eq_true rfl) (Nat.le_of_ble_eq_true rfl) t.1 t.2
set_option maxRecDepth 20000 in
theorem t_105_9 {d : Nat} {h : ab_H} {Q : Option Value → ab_H → Prop} {x0 : Nat} {x1 : Int32} {x2 : Int32} {s0 : Int32} (t : ab_ok h x0 108 = true ∧ ∃ j1 : Nat, ab_r h x0 2 = some j1 ∧ ab_ok h x0 108 = true ∧ ∃ j2 : Nat, ab_r h x0 5 = some j2 ∧ ab_ok h j2 104 = true ∧ wm d 55 [.ref j2, .int x1, .int 4] h (fun r9 h9 => wq (d + 1) 105 24 [.ref x0, .int x1, .int x2] (r9.toList ++ [.ref j1, .int (s0 * x2)]) h9 Q)) : wq (d + 1) 105 9 [.ref x0, .int x1, .int x2] [.int s0] h Q := by
  refine g3 c_105_9 rfl ?_
  refine g12 c_105_10 ?_
  refine g5 c_105_11 rfl ?_
  obtain ⟨ho, j1, hr, t⟩ := t
  refine g45 c_105_12 ho hr ?_
  refine g5 c_105_15 rfl ?_
  obtain ⟨ho, j2, hr, t⟩ := t
  refine g45 c_105_16 ho hr ?_
  refine g3 c_105_19 rfl ?_
  refine g1 c_105_20 k_4 ?_
  exact g80 (As := [.int x1, .int 4]) (rest := [.ref j1, .int (s0 * x2)]) c_105_21 rfl rfl (Nat.le_of_ble_eq_true rfl) (Nat.le_of_ble_eq_true rfl) t.1 t.2
set_option maxRecDepth 20000 in
theorem t_105_24 {d : Nat} {h : ab_H} {Q : Option Value → ab_H → Prop} {x0 : Nat} {x1 : Int32} {x2 : Int32} {s0 : Int32} {s1 : Nat} {s2 : Int32} (t : ab_ok h s1 104 = true ∧ wm d 55 [.ref s1, .int s2, .int 10] h (fun r9 h9 => wq (d + 1) 105 29 [.ref x0, .int x1, .int x2] (r9.toList ++ [.int s0]) h9 Q)) : wq (d + 1) 105 24 [.ref x0, .int x1, .int x2] [.int s2, .ref s1, .int s0] h Q := by
  refine g1 c_105_24 k_10 ?_
  exact g80 (As := [.int s2, .int 10]) (rest := [.int s0]) c_105_26 rfl rfl (Nat.le_of_ble_eq_true rfl) (Nat.le_of_ble_eq_true rfl) t.1 t.2
set_option maxRecDepth 20000 in
theorem t_105_29 {d : Nat} {h : ab_H} {Q : Option Value → ab_H → Prop} {x0 : Nat} {x1 : Int32} {x2 : Int32} {s0 : Int32} {s1 : Int32} (t : ab_ok h x0 108 = true ∧ ∃ j1 : Nat, ab_r h x0 5 = some j1 ∧ ab_ok h j1 104 = true ∧ wm d 55 [.ref j1, .int x1, .int 2] h (fun r9 h9 => wq (d + 1) 105 39 [.ref x0, .int x1, .int x2] (r9.toList ++ [.int (s0 * s1)]) h9 Q)) : wq (d + 1) 105 29 [.ref x0, .int x1, .int x2] [.int s1, .int s0] h Q := by
  refine g12 c_105_29 ?_
  refine g5 c_105_30 rfl ?_
  obtain ⟨ho, j1, hr, t⟩ := t
  refine g45 c_105_31 ho hr ?_
  refine g3 c_105_34 rfl ?_
  refine g1 c_105_35 k_2 ?_
  exact g80 (As := [.int x1, .int 2]) (rest := [.int (s0 * s1)]) c_105_36 rfl rfl (Nat.le_of_ble_eq_true rfl) (Nat.le_of_ble_eq_true rfl) t.1 t.2
set_option maxRecDepth 20000 in
theorem t_105_39 {d : Nat} {h : ab_H} {Q : Option Value → ab_H → Prop} {x0 : Nat} {x1 : Int32} {x2 : Int32} {s0 : Int32} {s1 : Int32} (t : Q (some (.int (s0 * s1))) h) : wq d 105 39 [.ref x0, .int x1, .int x2] [.int s1, .int s0] h Q := by
  refine g12 c_105_39 ?_
  exact g90 c_105_40 t
-- method 106: MillTown$Town.piecesOf(III)I
theorem c_106_0 : pg_cd 106 0 = (5, 1, 0, 0, 0) := by decide +kernel
theorem c_106_1 : pg_cd 106 1 = (3, 1, 0, 3, 0) := by decide +kernel
theorem c_106_2 : pg_cd 106 2 = (80, 104, 117, 0, 0) := by decide +kernel
theorem c_106_5 : pg_cd 106 5 = (6, 2, 0, 4, 0) := by decide +kernel
theorem c_106_7 : pg_cd 106 7 = (3, 2, 0, 4, 0) := by decide +kernel
theorem c_106_9 : pg_cd 106 9 = (36, 3, 0, 5, 26) := by decide +kernel
theorem c_106_12 : pg_cd 106 12 = (5, 1, 0, 0, 0) := by decide +kernel
theorem c_106_13 : pg_cd 106 13 = (45, 8, 32, 5, 0) := by decide +kernel
theorem c_106_16 : pg_cd 106 16 = (3, 1, 0, 1, 0) := by decide +kernel
theorem c_106_17 : pg_cd 106 17 = (1, 2, 0, 0, 7) := by decide +kernel
theorem c_106_19 : pg_cd 106 19 = (80, 55, 92, 0, 0) := by decide +kernel
theorem c_106_22 : pg_cd 106 22 = (5, 1, 0, 0, 0) := by decide +kernel
theorem c_106_23 : pg_cd 106 23 = (3, 1, 0, 1, 0) := by decide +kernel
theorem c_106_24 : pg_cd 106 24 = (3, 1, 0, 2, 0) := by decide +kernel
theorem c_106_25 : pg_cd 106 25 = (80, 105, 121, 0, 0) := by decide +kernel
theorem c_106_28 : pg_cd 106 28 = (10, 1, 0, 0, 0) := by decide +kernel
theorem c_106_29 : pg_cd 106 29 = (3, 2, 0, 4, 0) := by decide +kernel
theorem c_106_31 : pg_cd 106 31 = (16, 1, 0, 0, 0) := by decide +kernel
theorem c_106_32 : pg_cd 106 32 = (38, 3, 0, 0, 4) := by decide +kernel
theorem c_106_35 : pg_cd 106 35 = (1, 1, 0, 0, 0) := by decide +kernel
theorem c_106_36 : pg_cd 106 36 = (90, 0, 0, 0, 0) := by decide +kernel
theorem mx_106 : pg_mx 106 = 5 := by decide +kernel
theorem m_106 {d : Nat} {h : ab_H} {Q : Option Value → ab_H → Prop} {x0 : Nat} {x1 : Int32} {x2 : Int32} {x3 : Int32} (t : wq d 106 0 [.ref x0, .int x1, .int x2, .int x3, .retAddr 0] [] h Q) : wm d 106 [.ref x0, .int x1, .int x2, .int x3] h Q := by
  unfold wm
  rw [mx_106]
  exact t
set_option maxRecDepth 20000 in
theorem t_106_0 {d : Nat} {h : ab_H} {Q : Option Value → ab_H → Prop} {x0 : Nat} {x1 : Int32} {x2 : Int32} {x3 : Int32} (t : ab_ok h x0 108 = true ∧ wm d 104 [.ref x0, .int x3] h (fun r9 h9 => wq (d + 1) 106 5 [.ref x0, .int x1, .int x2, .int x3, .retAddr 0] (r9.toList ++ []) h9 Q)) : wq (d + 1) 106 0 [.ref x0, .int x1, .int x2, .int x3, .retAddr 0] [] h Q := by
  refine g5 c_106_0 rfl ?_
  refine g3 c_106_1 rfl ?_
  exact g80 (As := [.int x3]) (rest := []) c_106_2 rfl rfl (Nat.le_of_ble_eq_true rfl) (Nat.le_of_ble_eq_true rfl) t.1 t.2
set_option maxRecDepth 20000 in
theorem t_106_5 {d : Nat} {h : ab_H} {Q : Option Value → ab_H → Prop} {x0 : Nat} {x1 : Int32} {x2 : Int32} {x3 : Int32} {s0 : Int32} (t : if s0 ≤ 0 then (Q (some (.int 0)) h) else (ab_ok h x0 108 = true ∧ ∃ j1 : Nat, ab_r h x0 5 = some j1 ∧ ab_ok h j1 104 = true ∧ wm d 55 [.ref j1, .int x1, .int 7] h (fun r9 h9 => wq (d + 1) 106 22 [.ref x0, .int x1, .int x2, .int x3, .int s0] (r9.toList ++ []) h9 Q))) : wq (d + 1) 106 5 [.ref x0, .int x1, .int x2, .int x3, .retAddr 0] [.int s0] h Q := by
  refine g6 (L' := [.ref x0, .int x1, .int x2, .int x3, .int s0]) c_106_5 rfl ?_
  refine g3 c_106_7 rfl ?_
  refine gif c_106_9 (gbr t rfl rfl (fun hc t => ?_) (fun hc t => ?_))
  · refine g1 c_106_35 k_0 ?_
    exact g90 c_106_36 t
  · refine g5 c_106_12 rfl ?_
    obtain ⟨ho, j1, hr, t⟩ := t
    refine g45 c_106_13 ho hr ?_
    refine g3 c_106_16 rfl ?_
    refine g1 c_106_17 k_7 ?_
    exact g80 (As := [.int x1, .int 7]) (rest := []) c_106_19 rfl rfl (Nat.le_of_ble_eq_true rfl) (Nat.le_of_ble_eq_true rfl) t.1 t.2
set_option maxRecDepth 20000 in
theorem t_106_22 {d : Nat} {h : ab_H} {Q : Option Value → ab_H → Prop} {x0 : Nat} {x1 : Int32} {x2 : Int32} {x3 : Int32} {x4 : Int32} {s0 : Int32} (t : ab_ok h x0 108 = true ∧ wm d 105 [.ref x0, .int x1, .int x2] h (fun r9 h9 => wq (d + 1) 106 28 [.ref x0, .int x1, .int x2, .int x3, .int x4] (r9.toList ++ [.int s0]) h9 Q)) : wq (d + 1) 106 22 [.ref x0, .int x1, .int x2, .int x3, .int x4] [.int s0] h Q := by
  refine g5 c_106_22 rfl ?_
  refine g3 c_106_23 rfl ?_
  refine g3 c_106_24 rfl ?_
  exact g80 (As := [.int x1, .int x2]) (rest := [.int s0]) c_106_25 rfl rfl (Nat.le_of_ble_eq_true rfl) (Nat.le_of_ble_eq_true rfl) t.1 t.2
set_option maxRecDepth 20000 in
theorem t_106_28 {d : Nat} {h : ab_H} {Q : Option Value → ab_H → Prop} {x0 : Nat} {x1 : Int32} {x2 : Int32} {x3 : Int32} {x4 : Int32} {s0 : Int32} {s1 : Int32} (t : ¬ (x4 : Int32) = 0 ∧ Q (some (.int ((s0 + s1) / x4))) h) : wq d 106 28 [.ref x0, .int x1, .int x2, .int x3, .int x4] [.int s1, .int s0] h Q := by
  refine g10 c_106_28 ?_
  refine g3 c_106_29 rfl ?_
  obtain ⟨hy, t⟩ := t
  refine g16 c_106_31 hy ?_
  refine g38 c_106_32 rfl ?_
  exact g90 c_106_36 t
-- method 137: MillTown$WeekBook.<init>()V
theorem c_137_0 : pg_cd 137 0 = (5, 1, 0, 0, 0) := by decide +kernel
theorem c_137_1 : pg_cd 137 1 = (61, 0, 3, 0, 0) := by decide +kernel
theorem c_137_4 : pg_cd 137 4 = (5, 1, 0, 0, 0) := by decide +kernel
theorem c_137_5 : pg_cd 137 5 = (1, 2, 0, 0, 60) := by decide +kernel
theorem c_137_7 : pg_cd 137 7 = (59, 2, 0, 0, 0) := by decide +kernel
theorem c_137_9 : pg_cd 137 9 = (49, 10, 9, 0, 0) := by decide +kernel
theorem c_137_12 : pg_cd 137 12 = (5, 1, 0, 0, 0) := by decide +kernel
theorem c_137_13 : pg_cd 137 13 = (1, 2, 0, 0, 60) := by decide +kernel
theorem c_137_15 : pg_cd 137 15 = (59, 2, 0, 0, 0) := by decide +kernel
theorem c_137_17 : pg_cd 137 17 = (49, 10, 15, 1, 0) := by decide +kernel
theorem c_137_20 : pg_cd 137 20 = (5, 1, 0, 0, 0) := by decide +kernel
theorem c_137_21 : pg_cd 137 21 = (1, 2, 0, 0, 8) := by decide +kernel
theorem c_137_23 : pg_cd 137 23 = (59, 2, 0, 0, 0) := by decide +kernel
theorem c_137_25 : pg_cd 137 25 = (49, 10, 18, 2, 0) := by decide +kernel
theorem c_137_28 : pg_cd 137 28 = (5, 1, 0, 0, 0) := by decide +kernel
theorem c_137_29 : pg_cd 137 29 = (1, 2, 0, 0, 24) := by decide +kernel
theorem c_137_31 : pg_cd 137 31 = (59, 2, 0, 0, 0) := by decide +kernel
theorem c_137_33 : pg_cd 137 33 = (49, 10, 21, 3, 0) := by decide +kernel
theorem c_137_36 : pg_cd 137 36 = (5, 1, 0, 0, 0) := by decide +kernel
theorem c_137_37 : pg_cd 137 37 = (1, 2, 0, 0, 24) := by decide +kernel
theorem c_137_39 : pg_cd 137 39 = (59, 2, 0, 0, 0) := by decide +kernel
theorem c_137_41 : pg_cd 137 41 = (49, 10, 24, 4, 0) := by decide +kernel
theorem c_137_44 : pg_cd 137 44 = (5, 1, 0, 0, 0) := by decide +kernel
theorem c_137_45 : pg_cd 137 45 = (1, 2, 0, 0, 24) := by decide +kernel
theorem c_137_47 : pg_cd 137 47 = (59, 2, 0, 0, 0) := by decide +kernel
theorem c_137_49 : pg_cd 137 49 = (49, 10, 27, 5, 0) := by decide +kernel
theorem c_137_52 : pg_cd 137 52 = (5, 1, 0, 0, 0) := by decide +kernel
theorem c_137_53 : pg_cd 137 53 = (1, 2, 0, 0, 24) := by decide +kernel
theorem c_137_55 : pg_cd 137 55 = (59, 2, 0, 0, 0) := by decide +kernel
theorem c_137_57 : pg_cd 137 57 = (49, 10, 30, 6, 0) := by decide +kernel
theorem c_137_60 : pg_cd 137 60 = (94, 0, 0, 0, 0) := by decide +kernel
theorem mx_137 : pg_mx 137 = 1 := by decide +kernel
theorem m_137 {d : Nat} {h : ab_H} {Q : Option Value → ab_H → Prop} {x0 : Nat} (t : wq d 137 0 [.ref x0] [] h Q) : wm d 137 [.ref x0] h Q := by
  unfold wm
  rw [mx_137]
  exact t
set_option maxRecDepth 20000 in
theorem t_137_0 {d : Nat} {h : ab_H} {Q : Option Value → ab_H → Prop} {x0 : Nat} (t : (¬ (60 : Int32) < 0 ∧ Int32.toNatClampNeg (60 : Int32) ≤ 1000000) ∧ ∀ h1 : ab_H, h1 = ab_new h 0 (Int32.toNatClampNeg (60 : Int32)) (Int32.toNatClampNeg (60 : Int32)) → ab_ok h1 x0 110 = true ∧ ∀ h2 : ab_H, h2 = ab_pr h1 x0 0 (some (ab_n h)) → (¬ (60 : Int32) < 0 ∧ Int32.toNatClampNeg (60 : Int32) ≤ 1000000) ∧ ∀ h3 : ab_H, h3 = ab_new h2 0 (Int32.toNatClampNeg (60 : Int32)) (Int32.toNatClampNeg (60 : Int32)) → ab_ok h3 x0 110 = true ∧ ∀ h4 : ab_H, h4 = ab_pr h3 x0 1 (some (ab_n h2)) → (¬ (8 : Int32) < 0 ∧ Int32.toNatClampNeg (8 : Int32) ≤ 1000000) ∧ ∀ h5 : ab_H, h5 = ab_new h4 0 (Int32.toNatClampNeg (8 : Int32)) (Int32.toNatClampNeg (8 : Int32)) → ab_ok h5 x0 110 = true ∧ ∀ h6 : ab_H, h6 = ab_pr h5 x0 2 (some (ab_n h4)) → (¬ (24 : Int32) < 0 ∧ Int32.toNatClampNeg (24 : Int32) ≤ 1000000) ∧ ∀ h7 : ab_H, h7 = ab_new h6 0 (Int32.toNatClampNeg (24 : Int32)) (Int32.toNatClampNeg (24 : Int32)) → ab_ok h7 x0 110 = true ∧ ∀ h8 : ab_H, h8 = ab_pr h7 x0 3 (some (ab_n h6)) → (¬ (24 : Int32) < 0 ∧ Int32.toNatClampNeg (24 : Int32) ≤ 1000000) ∧ ∀ h9 : ab_H, h9 = ab_new h8 0 (Int32.toNatClampNeg (24 : Int32)) (Int32.toNatClampNeg (24 : Int32)) → ab_ok h9 x0 110 = true ∧ ∀ h10 : ab_H, h10 = ab_pr h9 x0 4 (some (ab_n h8)) → (¬ (24 : Int32) < 0 ∧ Int32.toNatClampNeg (24 : Int32) ≤ 1000000) ∧ ∀ h11 : ab_H, h11 = ab_new h10 0 (Int32.toNatClampNeg (24 : Int32)) (Int32.toNatClampNeg (24 : Int32)) → ab_ok h11 x0 110 = true ∧ ∀ h12 : ab_H, h12 = ab_pr h11 x0 5 (some (ab_n h10)) → (¬ (24 : Int32) < 0 ∧ Int32.toNatClampNeg (24 : Int32) ≤ 1000000) ∧ ∀ h13 : ab_H, h13 = ab_new h12 0 (Int32.toNatClampNeg (24 : Int32)) (Int32.toNatClampNeg (24 : Int32)) → ab_ok h13 x0 110 = true ∧ ∀ h14 : ab_H, h14 = ab_pr h13 x0 6 (some (ab_n h12)) → Q none h14) : wq d 137 0 [.ref x0] [] h Q := by
  refine g5 c_137_0 rfl ?_
  refine g61 c_137_1 (Nat.le_of_ble_eq_true rfl) ?_
  refine g5 c_137_4 rfl ?_
  refine g1 c_137_5 k_60 ?_
  obtain ⟨ho, t⟩ := t
  refine g59 c_137_7 ho (fun h1 eh1 => ?_)
  have t := t h1 eh1
  obtain ⟨ho, t⟩ := t
  refine g49 c_137_9 ho (fun h2 eh2 => ?_)
  have t := t h2 eh2
  refine g5 c_137_12 rfl ?_
  refine g1 c_137_13 k_60 ?_
  obtain ⟨ho, t⟩ := t
  refine g59 c_137_15 ho (fun h3 eh3 => ?_)
  have t := t h3 eh3
  obtain ⟨ho, t⟩ := t
  refine g49 c_137_17 ho (fun h4 eh4 => ?_)
  have t := t h4 eh4
  refine g5 c_137_20 rfl ?_
  refine g1 c_137_21 k_8 ?_
  obtain ⟨ho, t⟩ := t
  refine g59 c_137_23 ho (fun h5 eh5 => ?_)
  have t := t h5 eh5
  obtain ⟨ho, t⟩ := t
  refine g49 c_137_25 ho (fun h6 eh6 => ?_)
  have t := t h6 eh6
  refine g5 c_137_28 rfl ?_
  refine g1 c_137_29 k_24 ?_
  obtain ⟨ho, t⟩ := t
  refine g59 c_137_31 ho (fun h7 eh7 => ?_)
  have t := t h7 eh7
  obtain ⟨ho, t⟩ := t
  refine g49 c_137_33 ho (fun h8 eh8 => ?_)
  have t := t h8 eh8
  refine g5 c_137_36 rfl ?_
  refine g1 c_137_37 k_24 ?_
  obtain ⟨ho, t⟩ := t
  refine g59 c_137_39 ho (fun h9 eh9 => ?_)
  have t := t h9 eh9
  obtain ⟨ho, t⟩ := t
  refine g49 c_137_41 ho (fun h10 eh10 => ?_)
  have t := t h10 eh10
  refine g5 c_137_44 rfl ?_
  refine g1 c_137_45 k_24 ?_
  obtain ⟨ho, t⟩ := t
  refine g59 c_137_47 ho (fun h11 eh11 => ?_)
  have t := t h11 eh11
  obtain ⟨ho, t⟩ := t
  refine g49 c_137_49 ho (fun h12 eh12 => ?_)
  have t := t h12 eh12
  refine g5 c_137_52 rfl ?_
  refine g1 c_137_53 k_24 ?_
  obtain ⟨ho, t⟩ := t
  refine g59 c_137_55 ho (fun h13 eh13 => ?_)
  have t := t h13 eh13
  obtain ⟨ho, t⟩ := t
  refine g49 c_137_57 ho (fun h14 eh14 => ?_)
  have t := t h14 eh14
  exact g94 c_137_60 t
-- method 138: MillTown$WeekBook.clear()V
theorem c_138_0 : pg_cd 138 0 = (5, 1, 0, 0, 0) := by decide +kernel
theorem c_138_1 : pg_cd 138 1 = (45, 10, 9, 0, 0) := by decide +kernel
theorem c_138_4 : pg_cd 138 4 = (1, 1, 0, 0, 0) := by decide +kernel
theorem c_138_5 : pg_cd 138 5 = (81, 329, 33, 0, 0) := by decide +kernel
theorem c_138_8 : pg_cd 138 8 = (5, 1, 0, 0, 0) := by decide +kernel
theorem c_138_9 : pg_cd 138 9 = (45, 10, 15, 1, 0) := by decide +kernel
theorem c_138_12 : pg_cd 138 12 = (1, 1, 0, 0, (-1)) := by decide +kernel
theorem c_138_13 : pg_cd 138 13 = (81, 329, 33, 0, 0) := by decide +kernel
theorem c_138_16 : pg_cd 138 16 = (5, 1, 0, 0, 0) := by decide +kernel
theorem c_138_17 : pg_cd 138 17 = (45, 10, 18, 2, 0) := by decide +kernel
theorem c_138_20 : pg_cd 138 20 = (1, 1, 0, 0, (-1)) := by decide +kernel
theorem c_138_21 : pg_cd 138 21 = (81, 329, 33, 0, 0) := by decide +kernel
theorem c_138_24 : pg_cd 138 24 = (5, 1, 0, 0, 0) := by decide +kernel
theorem c_138_25 : pg_cd 138 25 = (45, 10, 21, 3, 0) := by decide +kernel
theorem c_138_28 : pg_cd 138 28 = (1, 1, 0, 0, 0) := by decide +kernel
theorem c_138_29 : pg_cd 138 29 = (81, 329, 33, 0, 0) := by decide +kernel
theorem c_138_32 : pg_cd 138 32 = (5, 1, 0, 0, 0) := by decide +kernel
theorem c_138_33 : pg_cd 138 33 = (45, 10, 24, 4, 0) := by decide +kernel
theorem c_138_36 : pg_cd 138 36 = (1, 1, 0, 0, 0) := by decide +kernel
theorem c_138_37 : pg_cd 138 37 = (81, 329, 33, 0, 0) := by decide +kernel
theorem c_138_40 : pg_cd 138 40 = (5, 1, 0, 0, 0) := by decide +kernel
theorem c_138_41 : pg_cd 138 41 = (45, 10, 27, 5, 0) := by decide +kernel
theorem c_138_44 : pg_cd 138 44 = (1, 1, 0, 0, 0) := by decide +kernel
theorem c_138_45 : pg_cd 138 45 = (81, 329, 33, 0, 0) := by decide +kernel
theorem c_138_48 : pg_cd 138 48 = (5, 1, 0, 0, 0) := by decide +kernel
theorem c_138_49 : pg_cd 138 49 = (45, 10, 30, 6, 0) := by decide +kernel
theorem c_138_52 : pg_cd 138 52 = (1, 1, 0, 0, 0) := by decide +kernel
theorem c_138_53 : pg_cd 138 53 = (81, 329, 33, 0, 0) := by decide +kernel
theorem c_138_56 : pg_cd 138 56 = (5, 1, 0, 0, 0) := by decide +kernel
theorem c_138_57 : pg_cd 138 57 = (1, 1, 0, 0, 0) := by decide +kernel
theorem c_138_58 : pg_cd 138 58 = (46, 10, 39, 7, 0) := by decide +kernel
theorem c_138_61 : pg_cd 138 61 = (94, 0, 0, 0, 0) := by decide +kernel
theorem mx_138 : pg_mx 138 = 1 := by decide +kernel
theorem m_138 {d : Nat} {h : ab_H} {Q : Option Value → ab_H → Prop} {x0 : Nat} (t : wq d 138 0 [.ref x0] [] h Q) : wm d 138 [.ref x0] h Q := by
  unfold wm
  rw [mx_138]
  exact t
set_option maxRecDepth 20000 in
theorem t_138_0 {d : Nat} {h : ab_H} {Q : Option Value → ab_H → Prop} {x0 : Nat} (t : ab_ok h x0 110 = true ∧ ∃ j1 : Nat, ab_r h x0 0 = some j1 ∧ wm d 329 [.ref j1, .int 0] h (fun r9 h9 => wq (d + 1) 138 8 [.ref x0] (r9.toList ++ []) h9 Q)) : wq (d + 1) 138 0 [.ref x0] [] h Q := by
  refine g5 c_138_0 rfl ?_
  obtain ⟨ho, j1, hr, t⟩ := t
  refine g45 c_138_1 ho hr ?_
  refine g1 c_138_4 k_0 ?_
  exact g81 (As := [.ref j1, .int 0]) (rest := []) c_138_5 rfl rfl (Nat.le_of_ble_eq_true rfl) (Nat.le_of_ble_eq_true rfl) t
set_option maxRecDepth 20000 in
theorem t_138_8 {d : Nat} {h : ab_H} {Q : Option Value → ab_H → Prop} {x0 : Nat} (t : ab_ok h x0 110 = true ∧ ∃ j1 : Nat, ab_r h x0 1 = some j1 ∧ wm d 329 [.ref j1, .int (-1)] h (fun r9 h9 => wq (d + 1) 138 16 [.ref x0] (r9.toList ++ []) h9 Q)) : wq (d + 1) 138 8 [.ref x0] [] h Q := by
  refine g5 c_138_8 rfl ?_
  obtain ⟨ho, j1, hr, t⟩ := t
  refine g45 c_138_9 ho hr ?_
  refine g1 c_138_12 k_m1 ?_
  exact g81 (As := [.ref j1, .int (-1)]) (rest := []) c_138_13 rfl rfl (Nat.le_of_ble_eq_true rfl) (Nat.le_of_ble_eq_true rfl) t
set_option maxRecDepth 20000 in
theorem t_138_16 {d : Nat} {h : ab_H} {Q : Option Value → ab_H → Prop} {x0 : Nat} (t : ab_ok h x0 110 = true ∧ ∃ j1 : Nat, ab_r h x0 2 = some j1 ∧ wm d 329 [.ref j1, .int (-1)] h (fun r9 h9 => wq (d + 1) 138 24 [.ref x0] (r9.toList ++ []) h9 Q)) : wq (d + 1) 138 16 [.ref x0] [] h Q := by
  refine g5 c_138_16 rfl ?_
  obtain ⟨ho, j1, hr, t⟩ := t
  refine g45 c_138_17 ho hr ?_
  refine g1 c_138_20 k_m1 ?_
  exact g81 (As := [.ref j1, .int (-1)]) (rest := []) c_138_21 rfl rfl (Nat.le_of_ble_eq_true rfl) (Nat.le_of_ble_eq_true rfl) t
set_option maxRecDepth 20000 in
theorem t_138_24 {d : Nat} {h : ab_H} {Q : Option Value → ab_H → Prop} {x0 : Nat} (t : ab_ok h x0 110 = true ∧ ∃ j1 : Nat, ab_r h x0 3 = some j1 ∧ wm d 329 [.ref j1, .int 0] h (fun r9 h9 => wq (d + 1) 138 32 [.ref x0] (r9.toList ++ []) h9 Q)) : wq (d + 1) 138 24 [.ref x0] [] h Q := by
  refine g5 c_138_24 rfl ?_
  obtain ⟨ho, j1, hr, t⟩ := t
  refine g45 c_138_25 ho hr ?_
  refine g1 c_138_28 k_0 ?_
  exact g81 (As := [.ref j1, .int 0]) (rest := []) c_138_29 rfl rfl (Nat.le_of_ble_eq_true rfl) (Nat.le_of_ble_eq_true rfl) t
set_option maxRecDepth 20000 in
theorem t_138_32 {d : Nat} {h : ab_H} {Q : Option Value → ab_H → Prop} {x0 : Nat} (t : ab_ok h x0 110 = true ∧ ∃ j1 : Nat, ab_r h x0 4 = some j1 ∧ wm d 329 [.ref j1, .int 0] h (fun r9 h9 => wq (d + 1) 138 40 [.ref x0] (r9.toList ++ []) h9 Q)) : wq (d + 1) 138 32 [.ref x0] [] h Q := by
  refine g5 c_138_32 rfl ?_
  obtain ⟨ho, j1, hr, t⟩ := t
  refine g45 c_138_33 ho hr ?_
  refine g1 c_138_36 k_0 ?_
  exact g81 (As := [.ref j1, .int 0]) (rest := []) c_138_37 rfl rfl (Nat.le_of_ble_eq_true rfl) (Nat.le_of_ble_eq_true rfl) t
set_option maxRecDepth 20000 in
theorem t_138_40 {d : Nat} {h : ab_H} {Q : Option Value → ab_H → Prop} {x0 : Nat} (t : ab_ok h x0 110 = true ∧ ∃ j1 : Nat, ab_r h x0 5 = some j1 ∧ wm d 329 [.ref j1, .int 0] h (fun r9 h9 => wq (d + 1) 138 48 [.ref x0] (r9.toList ++ []) h9 Q)) : wq (d + 1) 138 40 [.ref x0] [] h Q := by
  refine g5 c_138_40 rfl ?_
  obtain ⟨ho, j1, hr, t⟩ := t
  refine g45 c_138_41 ho hr ?_
  refine g1 c_138_44 k_0 ?_
  exact g81 (As := [.ref j1, .int 0]) (rest := []) c_138_45 rfl rfl (Nat.le_of_ble_eq_true rfl) (Nat.le_of_ble_eq_true rfl) t
set_option maxRecDepth 20000 in
theorem t_138_48 {d : Nat} {h : ab_H} {Q : Option Value → ab_H → Prop} {x0 : Nat} (t : ab_ok h x0 110 = true ∧ ∃ j1 : Nat, ab_r h x0 6 = some j1 ∧ wm d 329 [.ref j1, .int 0] h (fun r9 h9 => wq (d + 1) 138 56 [.ref x0] (r9.toList ++ []) h9 Q)) : wq (d + 1) 138 48 [.ref x0] [] h Q := by
  refine g5 c_138_48 rfl ?_
  obtain ⟨ho, j1, hr, t⟩ := t
  refine g45 c_138_49 ho hr ?_
  refine g1 c_138_52 k_0 ?_
  exact g81 (As := [.ref j1, .int 0]) (rest := []) c_138_53 rfl rfl (Nat.le_of_ble_eq_true rfl) (Nat.le_of_ble_eq_true rfl) t
set_option maxRecDepth 20000 in
theorem t_138_56 {d : Nat} {h : ab_H} {Q : Option Value → ab_H → Prop} {x0 : Nat} (t : ab_ok h x0 110 = true ∧ ∀ h1 : ab_H, h1 = ab_pi h x0 7 0 → Q none h1) : wq d 138 56 [.ref x0] [] h Q := by
  refine g5 c_138_56 rfl ?_
  refine g1 c_138_57 k_0 ?_
  obtain ⟨ho, t⟩ := t
  refine g46 c_138_58 ho (fun h1 eh1 => ?_)
  have t := t h1 eh1
  exact g94 c_138_61 t
-- method 139: MillTown$WeekBook.payerOf(LMillTown$Rows;II)I
theorem c_139_0 : pg_cd 139 0 = (3, 1, 0, 2, 0) := by decide +kernel
theorem c_139_1 : pg_cd 139 1 = (36, 3, 0, 2, 19) := by decide +kernel
theorem c_139_4 : pg_cd 139 4 = (3, 1, 0, 2, 0) := by decide +kernel
theorem c_139_5 : pg_cd 139 5 = (1, 2, 0, 0, 24) := by decide +kernel
theorem c_139_7 : pg_cd 139 7 = (37, 3, 0, 3, 13) := by decide +kernel
theorem c_139_10 : pg_cd 139 10 = (3, 1, 0, 3, 0) := by decide +kernel
theorem c_139_11 : pg_cd 139 11 = (5, 1, 0, 0, 0) := by decide +kernel
theorem c_139_12 : pg_cd 139 12 = (45, 10, 27, 5, 0) := by decide +kernel
theorem c_139_15 : pg_cd 139 15 = (3, 1, 0, 2, 0) := by decide +kernel
theorem c_139_16 : pg_cd 139 16 = (50, 1, 0, 0, 0) := by decide +kernel
theorem c_139_17 : pg_cd 139 17 = (37, 3, 0, 2, 5) := by decide +kernel
theorem c_139_20 : pg_cd 139 20 = (1, 1, 0, 0, (-1)) := by decide +kernel
theorem c_139_21 : pg_cd 139 21 = (90, 0, 0, 0, 0) := by decide +kernel
theorem c_139_22 : pg_cd 139 22 = (3, 1, 0, 3, 0) := by decide +kernel
theorem c_139_23 : pg_cd 139 23 = (5, 1, 0, 0, 0) := by decide +kernel
theorem c_139_24 : pg_cd 139 24 = (43, 10, 43, 8, 0) := by decide +kernel
theorem c_139_27 : pg_cd 139 27 = (12, 1, 0, 0, 0) := by decide +kernel
theorem c_139_28 : pg_cd 139 28 = (6, 2, 0, 4, 0) := by decide +kernel
theorem c_139_30 : pg_cd 139 30 = (1, 1, 0, 0, 0) := by decide +kernel
theorem c_139_31 : pg_cd 139 31 = (6, 2, 0, 5, 0) := by decide +kernel
theorem c_139_33 : pg_cd 139 33 = (3, 2, 0, 5, 0) := by decide +kernel
theorem c_139_35 : pg_cd 139 35 = (5, 1, 0, 1, 0) := by decide +kernel
theorem c_139_36 : pg_cd 139 36 = (43, 4, 46, 2, 0) := by decide +kernel
theorem c_139_39 : pg_cd 139 39 = (37, 3, 0, 3, 54) := by decide +kernel
theorem c_139_42 : pg_cd 139 42 = (3, 2, 0, 5, 0) := by decide +kernel
theorem c_139_44 : pg_cd 139 44 = (1, 2, 0, 0, 60) := by decide +kernel
theorem c_139_46 : pg_cd 139 46 = (37, 3, 0, 3, 47) := by decide +kernel
theorem c_139_49 : pg_cd 139 49 = (5, 1, 0, 1, 0) := by decide +kernel
theorem c_139_50 : pg_cd 139 50 = (3, 2, 0, 5, 0) := by decide +kernel
theorem c_139_52 : pg_cd 139 52 = (1, 1, 0, 0, 0) := by decide +kernel
theorem c_139_53 : pg_cd 139 53 = (80, 55, 51, 0, 0) := by decide +kernel
theorem c_139_56 : pg_cd 139 56 = (3, 1, 0, 2, 0) := by decide +kernel
theorem c_139_57 : pg_cd 139 57 = (37, 3, 0, 1, 30) := by decide +kernel
theorem c_139_60 : pg_cd 139 60 = (3, 2, 0, 4, 0) := by decide +kernel
theorem c_139_62 : pg_cd 139 62 = (5, 1, 0, 0, 0) := by decide +kernel
theorem c_139_63 : pg_cd 139 63 = (45, 10, 9, 0, 0) := by decide +kernel
theorem c_139_66 : pg_cd 139 66 = (3, 2, 0, 5, 0) := by decide +kernel
theorem c_139_68 : pg_cd 139 68 = (50, 1, 0, 0, 0) := by decide +kernel
theorem c_139_69 : pg_cd 139 69 = (37, 3, 0, 3, 6) := by decide +kernel
theorem c_139_72 : pg_cd 139 72 = (3, 2, 0, 5, 0) := by decide +kernel
theorem c_139_74 : pg_cd 139 74 = (90, 0, 0, 0, 0) := by decide +kernel
theorem c_139_75 : pg_cd 139 75 = (3, 2, 0, 4, 0) := by decide +kernel
theorem c_139_77 : pg_cd 139 77 = (5, 1, 0, 0, 0) := by decide +kernel
theorem c_139_78 : pg_cd 139 78 = (45, 10, 9, 0, 0) := by decide +kernel
theorem c_139_81 : pg_cd 139 81 = (3, 2, 0, 5, 0) := by decide +kernel
theorem c_139_83 : pg_cd 139 83 = (50, 1, 0, 0, 0) := by decide +kernel
theorem c_139_84 : pg_cd 139 84 = (11, 1, 0, 0, 0) := by decide +kernel
theorem c_139_85 : pg_cd 139 85 = (6, 2, 0, 4, 0) := by decide +kernel
theorem c_139_87 : pg_cd 139 87 = (9, 3, 0, 5, 1) := by decide +kernel
theorem c_139_90 : pg_cd 139 90 = (38, 3, 0, 0, (-57)) := by decide +kernel
theorem c_139_93 : pg_cd 139 93 = (1, 1, 0, 0, (-1)) := by decide +kernel
theorem c_139_94 : pg_cd 139 94 = (90, 0, 0, 0, 0) := by decide +kernel
theorem mx_139 : pg_mx 139 = 6 := by decide +kernel
theorem m_139 {d : Nat} {h : ab_H} {Q : Option Value → ab_H → Prop} {x0 : Nat} {x1 : Nat} {x2 : Int32} {x3 : Int32} (t : wq d 139 0 [.ref x0, .ref x1, .int x2, .int x3, .retAddr 0, .retAddr 0] [] h Q) : wm d 139 [.ref x0, .ref x1, .int x2, .int x3] h Q := by
  unfold wm
  rw [mx_139]
  exact t
set_option maxRecDepth 20000 in
theorem t_139_0 {d : Nat} {h : ab_H} {Q : Option Value → ab_H → Prop} {x0 : Nat} {x1 : Nat} {x2 : Int32} {x3 : Int32} (t : if x2 < 0 then (Q (some (.int (-1))) h) else (if 24 ≤ x2 then (Q (some (.int (-1))) h) else (ab_ok h x0 110 = true ∧ ∃ j1 : Nat, ab_r h x0 5 = some j1 ∧ ((j1 = 0 ∨ ab_ok h j1 0 = true) ∧ ab_in x2 (ab_s h j1).2 = true) ∧ if x3 < (ab_i h j1 (Int32.toNatClampNeg x2)) then (ab_ok h x0 110 = true ∧ wq d 139 33 [.ref x0, .ref x1, .int x2, .int x3, .int (x3 * (ab_i h x0 8)), .int 0] [] h Q) else (Q (some (.int (-1))) h)))) : wq d 139 0 [.ref x0, .ref x1, .int x2, .int x3, .retAddr 0, .retAddr 0] [] h Q := by
  refine g3 c_139_0 rfl ?_
  refine gif c_139_1 (gbr t rfl rfl (fun hc t => ?_) (fun hc t => ?_))
  · refine g1 c_139_20 k_m1 ?_
    exact g90 c_139_21 t
  · refine g3 c_139_4 rfl ?_
    refine g1 c_139_5 k_24 ?_
    refine gcm c_139_7 (gbr t rfl rfl (fun hc t => ?_) (fun hc t => ?_))
    · refine g1 c_139_20 k_m1 ?_
      exact g90 c_139_21 t
    · refine g3 c_139_10 rfl ?_
      refine g5 c_139_11 rfl ?_
      obtain ⟨ho, j1, hr, t⟩ := t
      refine g45 c_139_12 ho hr ?_
      refine g3 c_139_15 rfl ?_
      obtain ⟨ho, t⟩ := t
      refine g50 c_139_16 ho ?_
      refine gcm c_139_17 (gbr t rfl rfl (fun hc t => ?_) (fun hc t => ?_))
      · refine g3 c_139_22 rfl ?_
        refine g5 c_139_23 rfl ?_
        obtain ⟨ho, t⟩ := t
        refine g43 c_139_24 ho ?_
        refine g12 c_139_27 ?_
        refine g6 (L' := [.ref x0, .ref x1, .int x2, .int x3, .int (x3 * (ab_i h x0 8)), .retAddr 0]) c_139_28 rfl ?_
        refine g1 c_139_30 k_0 ?_
        refine g6 (L' := [.ref x0, .ref x1, .int x2, .int x3, .int (x3 * (ab_i h x0 8)), .int 0]) c_139_31 rfl ?_
        exact t
      · refine g1 c_139_20 k_m1 ?_
        exact g90 c_139_21 t
set_option maxRecDepth 20000 in
theorem t_139_33 {d : Nat} {h : ab_H} {Q : Option Value → ab_H → Prop} {x0 : Nat} {x1 : Nat} {x2 : Int32} {x3 : Int32} {x4 : Int32} {x5 : Int32} (t : ab_ok h x1 104 = true ∧ if (ab_i h x1 2) ≤ x5 then (Q (some (.int (-1))) h) else (if 60 ≤ x5 then (Q (some (.int (-1))) h) else (ab_ok h x1 104 = true ∧ wm d 55 [.ref x1, .int x5, .int 0] h (fun r9 h9 => wq (d + 1) 139 56 [.ref x0, .ref x1, .int x2, .int x3, .int x4, .int x5] (r9.toList ++ []) h9 Q)))) : wq (d + 1) 139 33 [.ref x0, .ref x1, .int x2, .int x3, .int x4, .int x5] [] h Q := by
  refine g3 c_139_33 rfl ?_
  refine g5 c_139_35 rfl ?_
  obtain ⟨ho, t⟩ := t
  refine g43 c_139_36 ho ?_
  refine gcm c_139_39 (gbr t rfl rfl (fun hc t => ?_) (fun hc t => ?_))
  · refine g1 c_139_93 k_m1 ?_
    exact g90 c_139_94 t
  · refine g3 c_139_42 rfl ?_
    refine g1 c_139_44 k_60 ?_
    refine gcm c_139_46 (gbr t rfl rfl (fun hc t => ?_) (fun hc t => ?_))
    · refine g1 c_139_93 k_m1 ?_
      exact g90 c_139_94 t
    · refine g5 c_139_49 rfl ?_
      refine g3 c_139_50 rfl ?_
      refine g1 c_139_52 k_0 ?_
      exact g80 (As := [.int x5, .int 0]) (rest := []) c_139_53 rfl rfl (Nat.le_of_ble_eq_true rfl) (Nat.le_of_ble_eq_true rfl) t.1 t.2
set_option maxRecDepth 20000 in
theorem t_139_56 {d : Nat} {h : ab_H} {Q : Option Value → ab_H → Prop} {x0 : Nat} {x1 : Nat} {x2 : Int32} {x3 : Int32} {x4 : Int32} {x5 : Int32} {s0 : Int32} (t : if s0 = x2 then (ab_ok h x0 110 = true ∧ ∃ j1 : Nat, ab_r h x0 0 = some j1 ∧ ((j1 = 0 ∨ ab_ok h j1 0 = true) ∧ ab_in x5 (ab_s h j1).2 = true) ∧ if (ab_i h j1 (Int32.toNatClampNeg x5)) ≤ x4 then (ab_ok h x0 110 = true ∧ ∃ j2 : Nat, ab_r h x0 0 = some j2 ∧ ((j2 = 0 ∨ ab_ok h j2 0 = true) ∧ ab_in x5 (ab_s h j2).2 = true) ∧ ∀ y3 : Int32, y3 = (x4 - (ab_i h j2 (Int32.toNatClampNeg x5))) → wq d 139 33 [.ref x0, .ref x1, .int x2, .int x3, .int y3, .int (x5 + 1)] [] h Q) else (Q (some (.int x5)) h)) else (wq d 139 33 [.ref x0, .ref x1, .int x2, .int x3, .int x4, .int (x5 + 1)] [] h Q)) : wq d 139 56 [.ref x0, .ref x1, .int x2, .int x3, .int x4, .int x5] [.int s0] h Q := by
  refine g3 c_139_56 rfl ?_
  refine gcm c_139_57 (gbn t (ab_c1 _ _) rfl (fun hc t => ?_) (fun hc t => ?_))
  · refine g3 c_139_60 rfl ?_
    refine g5 c_139_62 rfl ?_
    obtain ⟨ho, j1, hr, t⟩ := t
    refine g45 c_139_63 ho hr ?_
    refine g3 c_139_66 rfl ?_
    obtain ⟨ho, t⟩ := t
    refine g50 c_139_68 ho ?_
    refine gcm c_139_69 (gbr t rfl rfl (fun hc t => ?_) (fun hc t => ?_))
    · refine g3 c_139_75 rfl ?_
      refine g5 c_139_77 rfl ?_
      obtain ⟨ho, j2, hr, t⟩ := t
      refine g45 c_139_78 ho hr ?_
      refine g3 c_139_81 rfl ?_
      obtain ⟨ho, t⟩ := t
      refine g50 c_139_83 ho ?_
      refine g11 c_139_84 ?_
      refine g6y (Lf := fun y3 => [.ref x0, .ref x1, .int x2, .int x3, .int y3, .int x5]) c_139_85 (fun _ => rfl) (fun y3 ey3 => ?_)
      have t := t y3 ey3
      refine g9 (L' := [.ref x0, .ref x1, .int x2, .int x3, .int y3, .int (x5 + 1)]) c_139_87 rfl k_1 rfl ?_
      refine g38 c_139_90 rfl ?_
      exact t
    · refine g3 c_139_72 rfl ?_
      exact g90 c_139_74 t
  · refine g9 (L' := [.ref x0, .ref x1, .int x2, .int x3, .int x4, .int (x5 + 1)]) c_139_87 rfl k_1 rfl ?_
    refine g38 c_139_90 rfl ?_
    exact t
-- method 327: java/util/Arrays.rangeCheck(III)V
theorem c_327_0 : pg_cd 327 0 = (3, 1, 0, 1, 0) := by decide +kernel
theorem c_327_1 : pg_cd 327 1 = (3, 1, 0, 2, 0) := by decide +kernel
theorem c_327_2 : pg_cd 327 2 = (37, 3, 0, 5, 44) := by decide +kernel
theorem c_327_5 : pg_cd 327 5 = (0, 0, 0, 0, 0) := by decide +kernel
theorem c_327_46 : pg_cd 327 46 = (3, 1, 0, 1, 0) := by decide +kernel
theorem c_327_47 : pg_cd 327 47 = (36, 3, 0, 3, 12) := by decide +kernel
theorem c_327_50 : pg_cd 327 50 = (0, 0, 0, 0, 0) := by decide +kernel
theorem c_327_59 : pg_cd 327 59 = (3, 1, 0, 2, 0) := by decide +kernel
theorem c_327_60 : pg_cd 327 60 = (3, 1, 0, 0, 0) := by decide +kernel
theorem c_327_61 : pg_cd 327 61 = (37, 3, 0, 5, 12) := by decide +kernel
theorem c_327_64 : pg_cd 327 64 = (0, 0, 0, 0, 0) := by decide +kernel
theorem c_327_73 : pg_cd 327 73 = (94, 0, 0, 0, 0) := by decide +kernel
theorem mx_327 : pg_mx 327 = 3 := by decide +kernel
theorem m_327 {d : Nat} {h : ab_H} {Q : Option Value → ab_H → Prop} {x0 : Int32} {x1 : Int32} {x2 : Int32} (t : wq d 327 0 [.int x0, .int x1, .int x2] [] h Q) : wm d 327 [.int x0, .int x1, .int x2] h Q := by
  unfold wm
  rw [mx_327]
  exact t
-- method 328: java/util/Arrays.fill([JJ)V
theorem c_328_0 : pg_cd 328 0 = (1, 1, 0, 0, 0) := by decide +kernel
theorem c_328_1 : pg_cd 328 1 = (6, 1, 0, 3, 0) := by decide +kernel
theorem c_328_2 : pg_cd 328 2 = (5, 1, 0, 0, 0) := by decide +kernel
theorem c_328_3 : pg_cd 328 3 = (58, 1, 0, 0, 0) := by decide +kernel
theorem c_328_4 : pg_cd 328 4 = (6, 2, 0, 4, 0) := by decide +kernel
theorem c_328_6 : pg_cd 328 6 = (3, 1, 0, 3, 0) := by decide +kernel
theorem c_328_7 : pg_cd 328 7 = (3, 2, 0, 4, 0) := by decide +kernel
theorem c_328_9 : pg_cd 328 9 = (37, 3, 0, 3, 13) := by decide +kernel
theorem c_328_12 : pg_cd 328 12 = (5, 1, 0, 0, 0) := by decide +kernel
theorem c_328_13 : pg_cd 328 13 = (3, 1, 0, 3, 0) := by decide +kernel
theorem c_328_14 : pg_cd 328 14 = (4, 1, 0, 1, 0) := by decide +kernel
theorem c_328_15 : pg_cd 328 15 = (56, 1, 0, 0, 0) := by decide +kernel
theorem c_328_16 : pg_cd 328 16 = (9, 3, 0, 3, 1) := by decide +kernel
theorem c_328_19 : pg_cd 328 19 = (38, 3, 0, 0, (-13)) := by decide +kernel
theorem c_328_22 : pg_cd 328 22 = (94, 0, 0, 0, 0) := by decide +kernel
theorem mx_328 : pg_mx 328 = 5 := by decide +kernel
theorem m_328 {d : Nat} {h : ab_H} {Q : Option Value → ab_H → Prop} {x0 : Nat} {x1 : Int64} (t : wq d 328 0 [.ref x0, .long x1, .retAddr 0, .retAddr 0, .retAddr 0] [] h Q) : wm d 328 [.ref x0, .long x1] h Q := by
  unfold wm
  rw [mx_328]
  exact t
set_option maxRecDepth 20000 in
theorem t_328_0 {d : Nat} {h : ab_H} {Q : Option Value → ab_H → Prop} {x0 : Nat} {x1 : Int64} (t : ((x0 = 0 ∧ 1 = 0) ∨ ab_ok h x0 1 = true) ∧ wq d 328 6 [.ref x0, .long x1, .retAddr 0, .int 0, .int (Int32.ofNat (ab_s h x0).2)] [] h Q) : wq d 328 0 [.ref x0, .long x1, .retAddr 0, .retAddr 0, .retAddr 0] [] h Q := by
  refine g1 c_328_0 k_0 ?_
  refine g6 (L' := [.ref x0, .long x1, .retAddr 0, .int 0, .retAddr 0]) c_328_1 rfl ?_
  refine g5 c_328_2 rfl ?_
  obtain ⟨ho, t⟩ := t
  refine g58 c_328_3 ho ?_
  refine g6 (L' := [.ref x0, .long x1, .retAddr 0, .int 0, .int (Int32.ofNat (ab_s h x0).2)]) c_328_4 rfl ?_
  exact t
set_option maxRecDepth 20000 in
theorem t_328_6 {d : Nat} {h : ab_H} {Q : Option Value → ab_H → Prop} {x0 : Nat} {x1 : Int64} {x3 : Int32} {x4 : Int32} (t : if x4 ≤ x3 then (Q none h) else ((ab_ok h x0 1 = true ∧ ab_in x3 (ab_s h x0).2 = true) ∧ ∀ h1 : ab_H, h1 = ab_pl h x0 (Int32.toNatClampNeg x3) x1 → wq d 328 6 [.ref x0, .long x1, .retAddr 0, .int (x3 + 1), .int x4] [] h1 Q)) : wq d 328 6 [.ref x0, .long x1, .retAddr 0, .int x3, .int x4] [] h Q := by
  refine g3 c_328_6 rfl ?_
  refine g3 c_328_7 rfl ?_
  refine gcm c_328_9 (gbr t rfl rfl (fun hc t => ?_) (fun hc t => ?_))
  · exact g94 c_328_22 t
  · refine g5 c_328_12 rfl ?_
    refine g3 c_328_13 rfl ?_
    refine g4 c_328_14 rfl ?_
    obtain ⟨ho, t⟩ := t
    refine g56 c_328_15 ho (fun h1 eh1 => ?_)
    have t := t h1 eh1
    refine g9 (L' := [.ref x0, .long x1, .retAddr 0, .int (x3 + 1), .int x4]) c_328_16 rfl k_1 rfl ?_
    refine g38 c_328_19 rfl ?_
    exact t
-- method 329: java/util/Arrays.fill([II)V
theorem c_329_0 : pg_cd 329 0 = (1, 1, 0, 0, 0) := by decide +kernel
theorem c_329_1 : pg_cd 329 1 = (6, 1, 0, 2, 0) := by decide +kernel
theorem c_329_2 : pg_cd 329 2 = (5, 1, 0, 0, 0) := by decide +kernel
theorem c_329_3 : pg_cd 329 3 = (58, 0, 0, 0, 0) := by decide +kernel
theorem c_329_4 : pg_cd 329 4 = (6, 1, 0, 3, 0) := by decide +kernel
theorem c_329_5 : pg_cd 329 5 = (3, 1, 0, 2, 0) := by decide +kernel
theorem c_329_6 : pg_cd 329 6 = (3, 1, 0, 3, 0) := by decide +kernel
theorem c_329_7 : pg_cd 329 7 = (37, 3, 0, 3, 13) := by decide +kernel
theorem c_329_10 : pg_cd 329 10 = (5, 1, 0, 0, 0) := by decide +kernel
theorem c_329_11 : pg_cd 329 11 = (3, 1, 0, 2, 0) := by decide +kernel
theorem c_329_12 : pg_cd 329 12 = (3, 1, 0, 1, 0) := by decide +kernel
theorem c_329_13 : pg_cd 329 13 = (54, 1, 0, 0, 0) := by decide +kernel
theorem c_329_14 : pg_cd 329 14 = (9, 3, 0, 2, 1) := by decide +kernel
theorem c_329_17 : pg_cd 329 17 = (38, 3, 0, 0, (-12)) := by decide +kernel
theorem c_329_20 : pg_cd 329 20 = (94, 0, 0, 0, 0) := by decide +kernel
theorem mx_329 : pg_mx 329 = 4 := by decide +kernel
theorem m_329 {d : Nat} {h : ab_H} {Q : Option Value → ab_H → Prop} {x0 : Nat} {x1 : Int32} (t : wq d 329 0 [.ref x0, .int x1, .retAddr 0, .retAddr 0] [] h Q) : wm d 329 [.ref x0, .int x1] h Q := by
  unfold wm
  rw [mx_329]
  exact t
set_option maxRecDepth 20000 in
theorem t_329_0 {d : Nat} {h : ab_H} {Q : Option Value → ab_H → Prop} {x0 : Nat} {x1 : Int32} (t : ((x0 = 0 ∧ 0 = 0) ∨ ab_ok h x0 0 = true) ∧ wq d 329 5 [.ref x0, .int x1, .int 0, .int (Int32.ofNat (ab_s h x0).2)] [] h Q) : wq d 329 0 [.ref x0, .int x1, .retAddr 0, .retAddr 0] [] h Q := by
  refine g1 c_329_0 k_0 ?_
  refine g6 (L' := [.ref x0, .int x1, .int 0, .retAddr 0]) c_329_1 rfl ?_
  refine g5 c_329_2 rfl ?_
  obtain ⟨ho, t⟩ := t
  refine g58 c_329_3 ho ?_
  refine g6 (L' := [.ref x0, .int x1, .int 0, .int (Int32.ofNat (ab_s h x0).2)]) c_329_4 rfl ?_
  exact t
set_option maxRecDepth 20000 in
theorem t_329_5 {d : Nat} {h : ab_H} {Q : Option Value → ab_H → Prop} {x0 : Nat} {x1 : Int32} {x2 : Int32} {x3 : Int32} (t : if x3 ≤ x2 then (Q none h) else ((ab_ok h x0 0 = true ∧ ab_in x2 (ab_s h x0).2 = true) ∧ ∀ h1 : ab_H, h1 = ab_pi h x0 (Int32.toNatClampNeg x2) x1 → wq d 329 5 [.ref x0, .int x1, .int (x2 + 1), .int x3] [] h1 Q)) : wq d 329 5 [.ref x0, .int x1, .int x2, .int x3] [] h Q := by
  refine g3 c_329_5 rfl ?_
  refine g3 c_329_6 rfl ?_
  refine gcm c_329_7 (gbr t rfl rfl (fun hc t => ?_) (fun hc t => ?_))
  · exact g94 c_329_20 t
  · refine g5 c_329_10 rfl ?_
    refine g3 c_329_11 rfl ?_
    refine g3 c_329_12 rfl ?_
    obtain ⟨ho, t⟩ := t
    refine g54 c_329_13 ho (fun h1 eh1 => ?_)
    have t := t h1 eh1
    refine g9 (L' := [.ref x0, .int x1, .int (x2 + 1), .int x3]) c_329_14 rfl k_1 rfl ?_
    refine g38 c_329_17 rfl ?_
    exact t
-- method 330: java/util/Arrays.fill([IIII)V
theorem c_330_0 : pg_cd 330 0 = (5, 1, 0, 0, 0) := by decide +kernel
theorem c_330_1 : pg_cd 330 1 = (58, 0, 0, 0, 0) := by decide +kernel
theorem c_330_2 : pg_cd 330 2 = (3, 1, 0, 1, 0) := by decide +kernel
theorem c_330_3 : pg_cd 330 3 = (3, 1, 0, 2, 0) := by decide +kernel
theorem c_330_4 : pg_cd 330 4 = (81, 327, 13, 0, 0) := by decide +kernel
theorem c_330_7 : pg_cd 330 7 = (3, 1, 0, 1, 0) := by decide +kernel
theorem c_330_8 : pg_cd 330 8 = (6, 2, 0, 4, 0) := by decide +kernel
theorem c_330_10 : pg_cd 330 10 = (3, 2, 0, 4, 0) := by decide +kernel
theorem c_330_12 : pg_cd 330 12 = (3, 1, 0, 2, 0) := by decide +kernel
theorem c_330_13 : pg_cd 330 13 = (37, 3, 0, 3, 14) := by decide +kernel
theorem c_330_16 : pg_cd 330 16 = (5, 1, 0, 0, 0) := by decide +kernel
theorem c_330_17 : pg_cd 330 17 = (3, 2, 0, 4, 0) := by decide +kernel
theorem c_330_19 : pg_cd 330 19 = (3, 1, 0, 3, 0) := by decide +kernel
theorem c_330_20 : pg_cd 330 20 = (54, 1, 0, 0, 0) := by decide +kernel
theorem c_330_21 : pg_cd 330 21 = (9, 3, 0, 4, 1) := by decide +kernel
theorem c_330_24 : pg_cd 330 24 = (38, 3, 0, 0, (-14)) := by decide +kernel
theorem c_330_27 : pg_cd 330 27 = (94, 0, 0, 0, 0) := by decide +kernel
theorem mx_330 : pg_mx 330 = 5 := by decide +kernel
theorem m_330 {d : Nat} {h : ab_H} {Q : Option Value → ab_H → Prop} {x0 : Nat} {x1 : Int32} {x2 : Int32} {x3 : Int32} (t : wq d 330 0 [.ref x0, .int x1, .int x2, .int x3, .retAddr 0] [] h Q) : wm d 330 [.ref x0, .int x1, .int x2, .int x3] h Q := by
  unfold wm
  rw [mx_330]
  exact t
set_option maxRecDepth 20000 in
theorem t_330_0 {d : Nat} {h : ab_H} {Q : Option Value → ab_H → Prop} {x0 : Nat} {x1 : Int32} {x2 : Int32} {x3 : Int32} (t : ((x0 = 0 ∧ 0 = 0) ∨ ab_ok h x0 0 = true) ∧ wm d 327 [.int (Int32.ofNat (ab_s h x0).2), .int x1, .int x2] h (fun r9 h9 => wq (d + 1) 330 7 [.ref x0, .int x1, .int x2, .int x3, .retAddr 0] (r9.toList ++ []) h9 Q)) : wq (d + 1) 330 0 [.ref x0, .int x1, .int x2, .int x3, .retAddr 0] [] h Q := by
  refine g5 c_330_0 rfl ?_
  obtain ⟨ho, t⟩ := t
  refine g58 c_330_1 ho ?_
  refine g3 c_330_2 rfl ?_
  refine g3 c_330_3 rfl ?_
  exact g81 (As := [.int (Int32.ofNat (ab_s h x0).2), .int x1, .int x2]) (rest := []) c_330_4 rfl rfl (Nat.le_of_ble_eq_true rfl) (Nat.le_of_ble_eq_true rfl) t
set_option maxRecDepth 20000 in
theorem t_330_7 {d : Nat} {h : ab_H} {Q : Option Value → ab_H → Prop} {x0 : Nat} {x1 : Int32} {x2 : Int32} {x3 : Int32} (t : wq d 330 10 [.ref x0, .int x1, .int x2, .int x3, .int x1] [] h Q) : wq d 330 7 [.ref x0, .int x1, .int x2, .int x3, .retAddr 0] [] h Q := by
  refine g3 c_330_7 rfl ?_
  refine g6 (L' := [.ref x0, .int x1, .int x2, .int x3, .int x1]) c_330_8 rfl ?_
  exact t
set_option maxRecDepth 20000 in
theorem t_330_10 {d : Nat} {h : ab_H} {Q : Option Value → ab_H → Prop} {x0 : Nat} {x1 : Int32} {x2 : Int32} {x3 : Int32} {x4 : Int32} (t : if x2 ≤ x4 then (Q none h) else ((ab_ok h x0 0 = true ∧ ab_in x4 (ab_s h x0).2 = true) ∧ ∀ h1 : ab_H, h1 = ab_pi h x0 (Int32.toNatClampNeg x4) x3 → wq d 330 10 [.ref x0, .int x1, .int x2, .int x3, .int (x4 + 1)] [] h1 Q)) : wq d 330 10 [.ref x0, .int x1, .int x2, .int x3, .int x4] [] h Q := by
  refine g3 c_330_10 rfl ?_
  refine g3 c_330_12 rfl ?_
  refine gcm c_330_13 (gbr t rfl rfl (fun hc t => ?_) (fun hc t => ?_))
  · exact g94 c_330_27 t
  · refine g5 c_330_16 rfl ?_
    refine g3 c_330_17 rfl ?_
    refine g3 c_330_19 rfl ?_
    obtain ⟨ho, t⟩ := t
    refine g54 c_330_20 ho (fun h1 eh1 => ?_)
    have t := t h1 eh1
    refine g9 (L' := [.ref x0, .int x1, .int x2, .int x3, .int (x4 + 1)]) c_330_21 rfl k_1 rfl ?_
    refine g38 c_330_24 rfl ?_
    exact t
