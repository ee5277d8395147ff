/-! the segments of the program, printed by wip/whole/segs.py -/
-- method 8: MillTown$Law.<init>()V
theorem c_8_0 : pg_cd 8 0 = (5, 1, 0, 0, 0) := by decide +kernel
theorem c_8_1 : pg_cd 8 1 = (61, 0, 3, 0, 0) := by decide +kernel
theorem c_8_4 : pg_cd 8 4 = (5, 1, 0, 0, 0) := by decide +kernel
theorem c_8_5 : pg_cd 8 5 = (1, 2, 0, 0, 20) := by decide +kernel
theorem c_8_7 : pg_cd 8 7 = (59, 3, 9, 10, 0) := by decide +kernel
theorem c_8_10 : pg_cd 8 10 = (49, 1, 11, 0, 0) := by decide +kernel
theorem c_8_13 : pg_cd 8 13 = (5, 1, 0, 0, 0) := by decide +kernel
theorem c_8_14 : pg_cd 8 14 = (1, 2, 0, 0, 64) := by decide +kernel
theorem c_8_16 : pg_cd 8 16 = (59, 2, 0, 1, 0) := by decide +kernel
theorem c_8_18 : pg_cd 8 18 = (49, 1, 17, 1, 0) := by decide +kernel
theorem c_8_21 : pg_cd 8 21 = (5, 1, 0, 0, 0) := by decide +kernel
theorem c_8_22 : pg_cd 8 22 = (1, 2, 0, 0, 64) := by decide +kernel
theorem c_8_24 : pg_cd 8 24 = (59, 2, 0, 1, 0) := by decide +kernel
theorem c_8_26 : pg_cd 8 26 = (49, 1, 21, 2, 0) := by decide +kernel
theorem c_8_29 : pg_cd 8 29 = (5, 1, 0, 0, 0) := by decide +kernel
theorem c_8_30 : pg_cd 8 30 = (1, 2, 0, 0, 24) := by decide +kernel
theorem c_8_32 : pg_cd 8 32 = (59, 2, 0, 0, 0) := by decide +kernel
theorem c_8_34 : pg_cd 8 34 = (49, 1, 24, 3, 0) := by decide +kernel
theorem c_8_37 : pg_cd 8 37 = (5, 1, 0, 0, 0) := by decide +kernel
theorem c_8_38 : pg_cd 8 38 = (1, 1, 0, 0, (-1)) := by decide +kernel
theorem c_8_39 : pg_cd 8 39 = (46, 1, 28, 5, 0) := by decide +kernel
theorem c_8_42 : pg_cd 8 42 = (94, 0, 0, 0, 0) := by decide +kernel
theorem mx_8 : pg_mx 8 = 1 := by decide +kernel
theorem m_8 {d : Nat} {h : ab_H} {Q : Option Value → ab_H → Prop} {x0 : Nat} (t : wq d 8 0 [.ref x0] [] h Q) : wm d 8 [.ref x0] h Q := by
  unfold wm
  rw [mx_8]
  exact t
set_option maxRecDepth 20000 in
theorem t_8_0 {d : Nat} {h : ab_H} {Q : Option Value → ab_H → Prop} {x0 : Nat} (t : (¬ (20 : Int32) < 0 ∧ Int32.toNatClampNeg (20 : Int32) ≤ 1000000) ∧ ∀ h1 : ab_H, h1 = ab_new h 10 (Int32.toNatClampNeg (20 : Int32)) (Int32.toNatClampNeg (20 : Int32)) → ab_ok h1 x0 101 = true ∧ ∀ h2 : ab_H, h2 = ab_pr h1 x0 0 (some (ab_n h)) → (¬ (64 : Int32) < 0 ∧ Int32.toNatClampNeg (64 : Int32) ≤ 1000000) ∧ ∀ h3 : ab_H, h3 = ab_new h2 1 (Int32.toNatClampNeg (64 : Int32)) (Int32.toNatClampNeg (64 : Int32)) → ab_ok h3 x0 101 = true ∧ ∀ h4 : ab_H, h4 = ab_pr h3 x0 1 (some (ab_n h2)) → (¬ (64 : Int32) < 0 ∧ Int32.toNatClampNeg (64 : Int32) ≤ 1000000) ∧ ∀ h5 : ab_H, h5 = ab_new h4 1 (Int32.toNatClampNeg (64 : Int32)) (Int32.toNatClampNeg (64 : Int32)) → ab_ok h5 x0 101 = true ∧ ∀ h6 : ab_H, h6 = ab_pr h5 x0 2 (some (ab_n h4)) → (¬ (24 : Int32) < 0 ∧ Int32.toNatClampNeg (24 : Int32) ≤ 1000000) ∧ ∀ h7 : ab_H, h7 = ab_new h6 0 (Int32.toNatClampNeg (24 : Int32)) (Int32.toNatClampNeg (24 : Int32)) → ab_ok h7 x0 101 = true ∧ ∀ h8 : ab_H, h8 = ab_pr h7 x0 3 (some (ab_n h6)) → ab_ok h8 x0 101 = true ∧ ∀ h9 : ab_H, h9 = ab_pi h8 x0 5 (-1) → Q none h9) : wq d 8 0 [.ref x0] [] h Q := by
  refine g5 c_8_0 rfl ?_
  refine g61 c_8_1 (Nat.le_of_ble_eq_true rfl) ?_
  refine g5 c_8_4 rfl ?_
  refine g1 c_8_5 k_20 ?_
  obtain ⟨ho, t⟩ := t
  refine g59 c_8_7 ho (fun h1 eh1 => ?_)
  have t := t h1 eh1
  obtain ⟨ho, t⟩ := t
  refine g49 c_8_10 ho (fun h2 eh2 => ?_)
  have t := t h2 eh2
  refine g5 c_8_13 rfl ?_
  refine g1 c_8_14 k_64 ?_
  obtain ⟨ho, t⟩ := t
  refine g59 c_8_16 ho (fun h3 eh3 => ?_)
  have t := t h3 eh3
  obtain ⟨ho, t⟩ := t
  refine g49 c_8_18 ho (fun h4 eh4 => ?_)
  have t := t h4 eh4
  refine g5 c_8_21 rfl ?_
  refine g1 c_8_22 k_64 ?_
  obtain ⟨ho, t⟩ := t
  refine g59 c_8_24 ho (fun h5 eh5 => ?_)
  have t := t h5 eh5
  obtain ⟨ho, t⟩ := t
  refine g49 c_8_26 ho (fun h6 eh6 => ?_)
  have t := t h6 eh6
  refine g5 c_8_29 rfl ?_
  refine g1 c_8_30 k_24 ?_
  obtain ⟨ho, t⟩ := t
  refine g59 c_8_32 ho (fun h7 eh7 => ?_)
  have t := t h7 eh7
  obtain ⟨ho, t⟩ := t
  refine g49 c_8_34 ho (fun h8 eh8 => ?_)
  have t := t h8 eh8
  refine g5 c_8_37 rfl ?_
  refine g1 c_8_38 k_m1 ?_
  obtain ⟨ho, t⟩ := t
  refine g46 c_8_39 ho (fun h9 eh9 => ?_)
  have t := t h9 eh9
  exact g94 c_8_42 t
-- method 9: MillTown$Law.freeText(I)LMillTown$Text;
theorem c_9_0 : pg_cd 9 0 = (3, 1, 0, 1, 0) := by decide +kernel
theorem c_9_1 : pg_cd 9 1 = (36, 3, 0, 2, 12) := by decide +kernel
theorem c_9_4 : pg_cd 9 4 = (3, 1, 0, 1, 0) := by decide +kernel
theorem c_9_5 : pg_cd 9 5 = (5, 1, 0, 0, 0) := by decide +kernel
theorem c_9_6 : pg_cd 9 6 = (45, 1, 11, 0, 0) := by decide +kernel
theorem c_9_9 : pg_cd 9 9 = (58, 10, 0, 0, 0) := by decide +kernel
theorem c_9_10 : pg_cd 9 10 = (37, 3, 0, 2, 5) := by decide +kernel
theorem c_9_13 : pg_cd 9 13 = (41, 1, 0, 0, 0) := by decide +kernel
theorem c_9_14 : pg_cd 9 14 = (93, 0, 0, 0, 0) := by decide +kernel
theorem c_9_15 : pg_cd 9 15 = (5, 1, 0, 0, 0) := by decide +kernel
theorem c_9_16 : pg_cd 9 16 = (45, 1, 11, 0, 0) := by decide +kernel
theorem c_9_19 : pg_cd 9 19 = (3, 1, 0, 1, 0) := by decide +kernel
theorem c_9_20 : pg_cd 9 20 = (53, 7, 0, 0, 0) := by decide +kernel
theorem c_9_21 : pg_cd 9 21 = (40, 3, 0, 0, 16) := by decide +kernel
theorem c_9_24 : pg_cd 9 24 = (5, 1, 0, 0, 0) := by decide +kernel
theorem c_9_25 : pg_cd 9 25 = (45, 1, 11, 0, 0) := by decide +kernel
theorem c_9_28 : pg_cd 9 28 = (3, 1, 0, 1, 0) := by decide +kernel
theorem c_9_29 : pg_cd 9 29 = (60, 7, 9, 4, 0) := by decide +kernel
theorem c_9_32 : pg_cd 9 32 = (33, 1, 0, 0, 0) := by decide +kernel
theorem c_9_33 : pg_cd 9 33 = (80, 80, 32, 0, 0) := by decide +kernel
theorem c_9_36 : pg_cd 9 36 = (57, 7, 0, 0, 0) := by decide +kernel
theorem c_9_37 : pg_cd 9 37 = (5, 1, 0, 0, 0) := by decide +kernel
theorem c_9_38 : pg_cd 9 38 = (45, 1, 11, 0, 0) := by decide +kernel
theorem c_9_41 : pg_cd 9 41 = (3, 1, 0, 1, 0) := by decide +kernel
theorem c_9_42 : pg_cd 9 42 = (53, 7, 0, 0, 0) := by decide +kernel
theorem c_9_43 : pg_cd 9 43 = (93, 0, 0, 0, 0) := by decide +kernel
theorem mx_9 : pg_mx 9 = 2 := by decide +kernel
theorem m_9 {d : Nat} {h : ab_H} {Q : Option Value → ab_H → Prop} {x0 : Nat} {x1 : Int32} (t : wq d 9 0 [.ref x0, .int x1] [] h Q) : wm d 9 [.ref x0, .int x1] h Q := by
  unfold wm
  rw [mx_9]
  exact t
set_option maxRecDepth 20000 in
theorem t_9_0 {d : Nat} {h : ab_H} {Q : Option Value → ab_H → Prop} {x0 : Nat} {x1 : Int32} (t : if x1 < 0 then (Q (some (.null)) h) else (ab_ok h x0 101 = true ∧ ∃ j1 : Nat, ab_r h x0 0 = some j1 ∧ ((j1 = 0 ∧ 10 = 0) ∨ ab_ok h j1 10 = true) ∧ if x1 < (Int32.ofNat (ab_s h j1).2) then (ab_ok h x0 101 = true ∧ ∃ j2 : Nat, ab_r h x0 0 = some j2 ∧ (ab_ok h j2 10 = true ∧ ab_in x1 (ab_s h j2).2 = true) ∧ ((ab_r h j2 (Int32.toNatClampNeg x1) = none → ab_ok h x0 101 = true ∧ ∃ j4 : Nat, ab_r h x0 0 = some j4 ∧ ∀ h5 : ab_H, h5 = ab_new h 107 0 4 → ab_ok h5 (ab_n h) 107 = true ∧ wm d 80 [.ref ((ab_n h))] h5 (fun r9 h9 => wq (d + 1) 9 36 [.ref x0, .int x1] (r9.toList ++ [.ref (ab_n h), .int x1, .ref j4]) h9 Q)) ∧ ∀ j3 : Nat, ab_r h j2 (Int32.toNatClampNeg x1) = some j3 → ab_ok h x0 101 = true ∧ ∃ j6 : Nat, ab_r h x0 0 = some j6 ∧ (ab_ok h j6 10 = true ∧ ab_in x1 (ab_s h j6).2 = true) ∧ ((ab_r h j6 (Int32.toNatClampNeg x1) = none → Q (some (.null)) h) ∧ ∀ j7 : Nat, ab_r h j6 (Int32.toNatClampNeg x1) = some j7 → Q (some (.ref j7)) h))) else (Q (some (.null)) h))) : wq (d + 1) 9 0 [.ref x0, .int x1] [] h Q := by
  refine g3 c_9_0 rfl ?_
  refine gif c_9_1 (gbr t rfl rfl (fun hc t => ?_) (fun hc t => ?_))
  · refine g41 c_9_13 ?_
    exact g93n c_9_14 t
  · refine g3 c_9_4 rfl ?_
    refine g5 c_9_5 rfl ?_
    obtain ⟨ho, j1, hr, t⟩ := t
    refine g45 c_9_6 ho hr ?_
    obtain ⟨ho, t⟩ := t
    refine g58 c_9_9 ho ?_
    refine gcm c_9_10 (gbr t rfl rfl (fun hc t => ?_) (fun hc t => ?_))
    · refine g5 c_9_15 rfl ?_
      obtain ⟨ho, j2, hr, t⟩ := t
      refine g45 c_9_16 ho hr ?_
      refine g3 c_9_19 rfl ?_
      obtain ⟨ho, t⟩ := t
      refine g53b c_9_20 ho (fun hr => ?_) (fun j3 hr => ?_)
      · have t := t.1 hr
        refine g40n c_9_21 ?_
        refine g5 c_9_24 rfl ?_
        obtain ⟨ho, j4, hr, t⟩ := t
        refine g45 c_9_25 ho hr ?_
        refine g3 c_9_28 rfl ?_
        refine g60 c_9_29 (fun h5 eh5 => ?_)
        have t := t h5 eh5
        refine g33a c_9_32 ?_
        exact g80 (As := []) (rest := [.ref (ab_n h), .int x1, .ref j4]) c_9_33 rfl rfl (Nat.le_of_ble_eq_true rfl) (Nat.le_of_ble_eq_true rfl) t.1 t.2
      · have t := t.2 _ hr
        refine g40a c_9_21 rfl ?_
        refine g5 c_9_37 rfl ?_
        obtain ⟨ho, j6, hr, t⟩ := t
        refine g45 c_9_38 ho hr ?_
        refine g3 c_9_41 rfl ?_
        obtain ⟨ho, t⟩ := t
        refine g53b c_9_42 ho (fun hr => ?_) (fun j7 hr => ?_)
        · have t := t.1 hr
          exact g93n c_9_43 t
        · have t := t.2 _ hr
          exact g93a c_9_43 t
    · refine g41 c_9_13 ?_
      exact g93n c_9_14 t
set_option maxRecDepth 20000 in
theorem t_9_36 {d : Nat} {h : ab_H} {Q : Option Value → ab_H → Prop} {x0 : Nat} {x1 : Int32} {s0 : Nat} {s1 : Int32} {s2 : Nat} (t : ((ab_ok h s0 10 = true ∧ ab_ok h s2 107 = true) ∧ ab_in s1 (ab_s h s0).2 = true) ∧ ∀ h1 : ab_H, h1 = ab_pr h s0 (Int32.toNatClampNeg s1) (some s2) → ab_ok h1 x0 101 = true ∧ ∃ j2 : Nat, ab_r h1 x0 0 = some j2 ∧ (ab_ok h1 j2 10 = true ∧ ab_in x1 (ab_s h1 j2).2 = true) ∧ ((ab_r h1 j2 (Int32.toNatClampNeg x1) = none → Q (some (.null)) h1) ∧ ∀ j3 : Nat, ab_r h1 j2 (Int32.toNatClampNeg x1) = some j3 → Q (some (.ref j3)) h1)) : wq d 9 36 [.ref x0, .int x1] [.ref s2, .int s1, .ref s0] h Q := by
  obtain ⟨ho, t⟩ := t
  refine g57 c_9_36 ho (fun h1 eh1 => ?_)
  have t := t h1 eh1
  refine g5 c_9_37 rfl ?_
  obtain ⟨ho, j2, hr, t⟩ := t
  refine g45 c_9_38 ho hr ?_
  refine g3 c_9_41 rfl ?_
  obtain ⟨ho, t⟩ := t
  refine g53b c_9_42 ho (fun hr => ?_) (fun j3 hr => ?_)
  · have t := t.1 hr
    exact g93n c_9_43 t
  · have t := t.2 _ hr
    exact g93a c_9_43 t
-- method 10: MillTown$Law.textAt(I)LMillTown$Text;
theorem c_10_0 : pg_cd 10 0 = (3, 1, 0, 1, 0) := by decide +kernel
theorem c_10_1 : pg_cd 10 1 = (36, 3, 0, 2, 21) := by decide +kernel
theorem c_10_4 : pg_cd 10 4 = (3, 1, 0, 1, 0) := by decide +kernel
theorem c_10_5 : pg_cd 10 5 = (5, 1, 0, 0, 0) := by decide +kernel
theorem c_10_6 : pg_cd 10 6 = (45, 1, 11, 0, 0) := by decide +kernel
theorem c_10_9 : pg_cd 10 9 = (58, 10, 0, 0, 0) := by decide +kernel
theorem c_10_10 : pg_cd 10 10 = (37, 3, 0, 3, 12) := by decide +kernel
theorem c_10_13 : pg_cd 10 13 = (5, 1, 0, 0, 0) := by decide +kernel
theorem c_10_14 : pg_cd 10 14 = (45, 1, 11, 0, 0) := by decide +kernel
theorem c_10_17 : pg_cd 10 17 = (3, 1, 0, 1, 0) := by decide +kernel
theorem c_10_18 : pg_cd 10 18 = (53, 7, 0, 0, 0) := by decide +kernel
theorem c_10_19 : pg_cd 10 19 = (38, 3, 0, 0, 4) := by decide +kernel
theorem c_10_22 : pg_cd 10 22 = (41, 1, 0, 0, 0) := by decide +kernel
theorem c_10_23 : pg_cd 10 23 = (93, 0, 0, 0, 0) := by decide +kernel
theorem mx_10 : pg_mx 10 = 2 := by decide +kernel
theorem m_10 {d : Nat} {h : ab_H} {Q : Option Value → ab_H → Prop} {x0 : Nat} {x1 : Int32} (t : wq d 10 0 [.ref x0, .int x1] [] h Q) : wm d 10 [.ref x0, .int x1] h Q := by
  unfold wm
  rw [mx_10]
  exact t
set_option maxRecDepth 20000 in
theorem t_10_0 {d : Nat} {h : ab_H} {Q : Option Value → ab_H → Prop} {x0 : Nat} {x1 : Int32} (t : if x1 < 0 then (Q (some (.null)) h) else (ab_ok h x0 101 = true ∧ ∃ j1 : Nat, ab_r h x0 0 = some j1 ∧ ((j1 = 0 ∧ 10 = 0) ∨ ab_ok h j1 10 = true) ∧ if (Int32.ofNat (ab_s h j1).2) ≤ x1 then (Q (some (.null)) h) else (ab_ok h x0 101 = true ∧ ∃ j2 : Nat, ab_r h x0 0 = some j2 ∧ (ab_ok h j2 10 = true ∧ ab_in x1 (ab_s h j2).2 = true) ∧ ((ab_r h j2 (Int32.toNatClampNeg x1) = none → Q (some (.null)) h) ∧ ∀ j3 : Nat, ab_r h j2 (Int32.toNatClampNeg x1) = some j3 → Q (some (.ref j3)) h)))) : wq d 10 0 [.ref x0, .int x1] [] h Q := by
  refine g3 c_10_0 rfl ?_
  refine gif c_10_1 (gbr t rfl rfl (fun hc t => ?_) (fun hc t => ?_))
  · refine g41 c_10_22 ?_
    exact g93n c_10_23 t
  · refine g3 c_10_4 rfl ?_
    refine g5 c_10_5 rfl ?_
    obtain ⟨ho, j1, hr, t⟩ := t
    refine g45 c_10_6 ho hr ?_
    obtain ⟨ho, t⟩ := t
    refine g58 c_10_9 ho ?_
    refine gcm c_10_10 (gbr t rfl rfl (fun hc t => ?_) (fun hc t => ?_))
    · refine g41 c_10_22 ?_
      exact g93n c_10_23 t
    · refine g5 c_10_13 rfl ?_
      obtain ⟨ho, j2, hr, t⟩ := t
      refine g45 c_10_14 ho hr ?_
      refine g3 c_10_17 rfl ?_
      obtain ⟨ho, t⟩ := t
      refine g53b c_10_18 ho (fun hr => ?_) (fun j3 hr => ?_)
      · have t := t.1 hr
        refine g38 c_10_19 rfl ?_
        exact g93n c_10_23 t
      · have t := t.2 _ hr
        refine g38 c_10_19 rfl ?_
        exact g93a c_10_23 t
-- method 11: MillTown$Law.clausesOf(I)I
theorem c_11_0 : pg_cd 11 0 = (5, 1, 0, 0, 0) := by decide +kernel
theorem c_11_1 : pg_cd 11 1 = (3, 1, 0, 1, 0) := by decide +kernel
theorem c_11_2 : pg_cd 11 2 = (80, 10, 33, 0, 0) := by decide +kernel
theorem c_11_5 : pg_cd 11 5 = (8, 1, 0, 2, 0) := by decide +kernel
theorem c_11_6 : pg_cd 11 6 = (5, 1, 0, 2, 0) := by decide +kernel
theorem c_11_7 : pg_cd 11 7 = (40, 3, 0, 0, 7) := by decide +kernel
theorem c_11_10 : pg_cd 11 10 = (1, 1, 0, 0, (-1)) := by decide +kernel
theorem c_11_11 : pg_cd 11 11 = (38, 3, 0, 0, 10) := by decide +kernel
theorem c_11_14 : pg_cd 11 14 = (5, 1, 0, 2, 0) := by decide +kernel
theorem c_11_15 : pg_cd 11 15 = (45, 7, 37, 0, 0) := by decide +kernel
theorem c_11_18 : pg_cd 11 18 = (43, 4, 41, 2, 0) := by decide +kernel
theorem c_11_21 : pg_cd 11 21 = (90, 0, 0, 0, 0) := by decide +kernel
theorem mx_11 : pg_mx 11 = 3 := by decide +kernel
theorem m_11 {d : Nat} {h : ab_H} {Q : Option Value → ab_H → Prop} {x0 : Nat} {x1 : Int32} (t : wq d 11 0 [.ref x0, .int x1, .retAddr 0] [] h Q) : wm d 11 [.ref x0, .int x1] h Q := by
  unfold wm
  rw [mx_11]
  exact t
set_option maxRecDepth 20000 in
theorem t_11_0 {d : Nat} {h : ab_H} {Q : Option Value → ab_H → Prop} {x0 : Nat} {x1 : Int32} (t : ab_ok h x0 101 = true ∧ wm d 10 [.ref x0, .int x1] h (fun r9 h9 => wq (d + 1) 11 5 [.ref x0, .int x1, .retAddr 0] (r9.toList ++ []) h9 Q)) : wq (d + 1) 11 0 [.ref x0, .int x1, .retAddr 0] [] h Q := by
  refine g5 c_11_0 rfl ?_
  refine g3 c_11_1 rfl ?_
  exact g80 (As := [.int x1]) (rest := []) c_11_2 rfl rfl (Nat.le_of_ble_eq_true rfl) (Nat.le_of_ble_eq_true rfl) t.1 t.2
set_option maxRecDepth 20000 in
theorem t_11_5 {d : Nat} {h : ab_H} {Q : Option Value → ab_H → Prop} {x0 : Nat} {x1 : Int32} {s0 : Nat} (t : ab_ok h s0 107 = true ∧ ∃ j1 : Nat, ab_r h s0 0 = some j1 ∧ ab_ok h j1 104 = true ∧ Q (some (.int (ab_i h j1 2))) h) : wq d 11 5 [.ref x0, .int x1, .retAddr 0] [.ref s0] h Q := by
  refine g8 (L' := [.ref x0, .int x1, .ref s0]) c_11_5 rfl ?_
  refine g5 c_11_6 rfl ?_
  refine g40a c_11_7 rfl ?_
  refine g5 c_11_14 rfl ?_
  obtain ⟨ho, j1, hr, t⟩ := t
  refine g45 c_11_15 ho hr ?_
  obtain ⟨ho, t⟩ := t
  refine g43 c_11_18 ho ?_
  exact g90 c_11_21 t
-- method 12: MillTown$Law.forceFor(LMillTown$Town;IIII)I
theorem c_12_0 : pg_cd 12 0 = (5, 1, 0, 1, 0) := by decide +kernel
theorem c_12_1 : pg_cd 12 1 = (45, 8, 46, 7, 0) := by decide +kernel
theorem c_12_4 : pg_cd 12 4 = (8, 2, 0, 6, 0) := by decide +kernel
theorem c_12_6 : pg_cd 12 6 = (5, 2, 0, 6, 0) := by decide +kernel
theorem c_12_8 : pg_cd 12 8 = (43, 4, 41, 2, 0) := by decide +kernel
theorem c_12_11 : pg_cd 12 11 = (1, 1, 0, 0, 1) := by decide +kernel
theorem c_12_12 : pg_cd 12 12 = (11, 1, 0, 0, 0) := by decide +kernel
theorem c_12_13 : pg_cd 12 13 = (6, 2, 0, 7, 0) := by decide +kernel
theorem c_12_15 : pg_cd 12 15 = (3, 2, 0, 7, 0) := by decide +kernel
theorem c_12_17 : pg_cd 12 17 = (36, 3, 0, 2, 101) := by decide +kernel
theorem c_12_20 : pg_cd 12 20 = (5, 2, 0, 6, 0) := by decide +kernel
theorem c_12_22 : pg_cd 12 22 = (3, 2, 0, 7, 0) := by decide +kernel
theorem c_12_24 : pg_cd 12 24 = (1, 1, 0, 0, 1) := by decide +kernel
theorem c_12_25 : pg_cd 12 25 = (80, 55, 51, 0, 0) := by decide +kernel
theorem c_12_28 : pg_cd 12 28 = (6, 2, 0, 8, 0) := by decide +kernel
theorem c_12_30 : pg_cd 12 30 = (5, 1, 0, 0, 0) := by decide +kernel
theorem c_12_31 : pg_cd 12 31 = (5, 2, 0, 6, 0) := by decide +kernel
theorem c_12_33 : pg_cd 12 33 = (3, 2, 0, 7, 0) := by decide +kernel
theorem c_12_35 : pg_cd 12 35 = (1, 1, 0, 0, 0) := by decide +kernel
theorem c_12_36 : pg_cd 12 36 = (80, 55, 51, 0, 0) := by decide +kernel
theorem c_12_39 : pg_cd 12 39 = (80, 10, 33, 0, 0) := by decide +kernel
theorem c_12_42 : pg_cd 12 42 = (8, 2, 0, 9, 0) := by decide +kernel
theorem c_12_44 : pg_cd 12 44 = (3, 2, 0, 8, 0) := by decide +kernel
theorem c_12_46 : pg_cd 12 46 = (1, 1, 0, 0, (-1)) := by decide +kernel
theorem c_12_47 : pg_cd 12 47 = (37, 3, 0, 0, 9) := by decide +kernel
theorem c_12_50 : pg_cd 12 50 = (3, 2, 0, 8, 0) := by decide +kernel
theorem c_12_52 : pg_cd 12 52 = (3, 1, 0, 3, 0) := by decide +kernel
theorem c_12_53 : pg_cd 12 53 = (37, 3, 0, 1, 59) := by decide +kernel
theorem c_12_56 : pg_cd 12 56 = (5, 2, 0, 6, 0) := by decide +kernel
theorem c_12_58 : pg_cd 12 58 = (3, 2, 0, 7, 0) := by decide +kernel
theorem c_12_60 : pg_cd 12 60 = (1, 1, 0, 0, 4) := by decide +kernel
theorem c_12_61 : pg_cd 12 61 = (80, 55, 51, 0, 0) := by decide +kernel
theorem c_12_64 : pg_cd 12 64 = (3, 2, 0, 5, 0) := by decide +kernel
theorem c_12_66 : pg_cd 12 66 = (37, 3, 0, 4, 46) := by decide +kernel
theorem c_12_69 : pg_cd 12 69 = (5, 2, 0, 6, 0) := by decide +kernel
theorem c_12_71 : pg_cd 12 71 = (3, 2, 0, 7, 0) := by decide +kernel
theorem c_12_73 : pg_cd 12 73 = (1, 1, 0, 0, 2) := by decide +kernel
theorem c_12_74 : pg_cd 12 74 = (80, 55, 51, 0, 0) := by decide +kernel
theorem c_12_77 : pg_cd 12 77 = (3, 2, 0, 4, 0) := by decide +kernel
theorem c_12_79 : pg_cd 12 79 = (37, 3, 0, 4, 33) := by decide +kernel
theorem c_12_82 : pg_cd 12 82 = (3, 2, 0, 4, 0) := by decide +kernel
theorem c_12_84 : pg_cd 12 84 = (5, 2, 0, 6, 0) := by decide +kernel
theorem c_12_86 : pg_cd 12 86 = (3, 2, 0, 7, 0) := by decide +kernel
theorem c_12_88 : pg_cd 12 88 = (1, 1, 0, 0, 3) := by decide +kernel
theorem c_12_89 : pg_cd 12 89 = (80, 55, 51, 0, 0) := by decide +kernel
theorem c_12_92 : pg_cd 12 92 = (37, 3, 0, 4, 20) := by decide +kernel
theorem c_12_95 : pg_cd 12 95 = (5, 2, 0, 9, 0) := by decide +kernel
theorem c_12_97 : pg_cd 12 97 = (39, 3, 0, 0, 15) := by decide +kernel
theorem c_12_100 : pg_cd 12 100 = (5, 2, 0, 9, 0) := by decide +kernel
theorem c_12_102 : pg_cd 12 102 = (3, 1, 0, 2, 0) := by decide +kernel
theorem c_12_103 : pg_cd 12 103 = (80, 83, 55, 0, 0) := by decide +kernel
theorem c_12_106 : pg_cd 12 106 = (36, 3, 0, 0, 6) := by decide +kernel
theorem c_12_109 : pg_cd 12 109 = (3, 2, 0, 7, 0) := by decide +kernel
theorem c_12_111 : pg_cd 12 111 = (90, 0, 0, 0, 0) := by decide +kernel
theorem c_12_112 : pg_cd 12 112 = (9, 3, 0, 7, (-1)) := by decide +kernel
theorem c_12_115 : pg_cd 12 115 = (38, 3, 0, 0, (-100)) := by decide +kernel
theorem c_12_118 : pg_cd 12 118 = (1, 1, 0, 0, (-1)) := by decide +kernel
theorem c_12_119 : pg_cd 12 119 = (90, 0, 0, 0, 0) := by decide +kernel
theorem mx_12 : pg_mx 12 = 10 := by decide +kernel
theorem m_12 {d : Nat} {h : ab_H} {Q : Option Value → ab_H → Prop} {x0 : Nat} {x1 : Nat} {x2 : Int32} {x3 : Int32} {x4 : Int32} {x5 : Int32} (t : wq d 12 0 [.ref x0, .ref x1, .int x2, .int x3, .int x4, .int x5, .retAddr 0, .retAddr 0, .retAddr 0, .retAddr 0] [] h Q) : wm d 12 [.ref x0, .ref x1, .int x2, .int x3, .int x4, .int x5] h Q := by
  unfold wm
  rw [mx_12]
  exact t
set_option maxRecDepth 20000 in
theorem t_12_0 {d : Nat} {h : ab_H} {Q : Option Value → ab_H → Prop} {x0 : Nat} {x1 : Nat} {x2 : Int32} {x3 : Int32} {x4 : Int32} {x5 : Int32} (t : ab_ok h x1 108 = true ∧ ∃ j1 : Nat, ab_r h x1 7 = some j1 ∧ ab_ok h j1 104 = true ∧ wq d 12 15 [.ref x0, .ref x1, .int x2, .int x3, .int x4, .int x5, .ref j1, .int ((ab_i h j1 2) - 1), .retAddr 0, .retAddr 0] [] h Q) : wq d 12 0 [.ref x0, .ref x1, .int x2, .int x3, .int x4, .int x5, .retAddr 0, .retAddr 0, .retAddr 0, .retAddr 0] [] h Q := by
  refine g5 c_12_0 rfl ?_
  obtain ⟨ho, j1, hr, t⟩ := t
  refine g45 c_12_1 ho hr ?_
  refine g8 (L' := [.ref x0, .ref x1, .int x2, .int x3, .int x4, .int x5, .ref j1, .retAddr 0, .retAddr 0, .retAddr 0]) c_12_4 rfl ?_
  refine g5 c_12_6 rfl ?_
  obtain ⟨ho, t⟩ := t
  refine g43 c_12_8 ho ?_
  refine g1 c_12_11 k_1 ?_
  refine g11 c_12_12 ?_
  refine g6 (L' := [.ref x0, .ref x1, .int x2, .int x3, .int x4, .int x5, .ref j1, .int ((ab_i h j1 2) - 1), .retAddr 0, .retAddr 0]) c_12_13 rfl ?_
  exact t
set_option maxRecDepth 20000 in
theorem t_12_15 {d : Nat} {h : ab_H} {Q : Option Value → ab_H → Prop} {x0 : Nat} {x1 : Nat} {x2 : Int32} {x3 : Int32} {x4 : Int32} {x5 : Int32} {x6 : Nat} {x7 : Int32} (t : if x7 < 0 then (Q (some (.int (-1))) h) else (ab_ok h x6 104 = true ∧ wm d 55 [.ref x6, .int x7, .int 1] h (fun r9 h9 => wq (d + 1) 12 28 [.ref x0, .ref x1, .int x2, .int x3, .int x4, .int x5, .ref x6, .int x7, .retAddr 0, .retAddr 0] (r9.toList ++ []) h9 Q))) : wq (d + 1) 12 15 [.ref x0, .ref x1, .int x2, .int x3, .int x4, .int x5, .ref x6, .int x7, .retAddr 0, .retAddr 0] [] h Q := by
  refine g3 c_12_15 rfl ?_
  refine gif c_12_17 (gbr t rfl rfl (fun hc t => ?_) (fun hc t => ?_))
  · refine g1 c_12_118 k_m1 ?_
    exact g90 c_12_119 t
  · refine g5 c_12_20 rfl ?_
    refine g3 c_12_22 rfl ?_
    refine g1 c_12_24 k_1 ?_
    exact g80 (As := [.int x7, .int 1]) (rest := []) c_12_25 rfl rfl (Nat.le_of_ble_eq_true rfl) (Nat.le_of_ble_eq_true rfl) t.1 t.2
set_option maxRecDepth 20000 in
theorem t_12_28 {d : Nat} {h : ab_H} {Q : Option Value → ab_H → Prop} {x0 : Nat} {x1 : Nat} {x2 : Int32} {x3 : Int32} {x4 : Int32} {x5 : Int32} {x6 : Nat} {x7 : Int32} {s0 : Int32} (t : ab_ok h x6 104 = true ∧ wm d 55 [.ref x6, .int x7, .int 0] h (fun r9 h9 => wq (d + 1) 12 39 [.ref x0, .ref x1, .int x2, .int x3, .int x4, .int x5, .ref x6, .int x7, .int s0, .retAddr 0] (r9.toList ++ [.ref x0]) h9 Q)) : wq (d + 1) 12 28 [.ref x0, .ref x1, .int x2, .int x3, .int x4, .int x5, .ref x6, .int x7, .retAddr 0, .retAddr 0] [.int s0] h Q := by
  refine g6 (L' := [.ref x0, .ref x1, .int x2, .int x3, .int x4, .int x5, .ref x6, .int x7, .int s0, .retAddr 0]) c_12_28 rfl ?_
  refine g5 c_12_30 rfl ?_
  refine g5 c_12_31 rfl ?_
  refine g3 c_12_33 rfl ?_
  refine g1 c_12_35 k_0 ?_
  exact g80 (As := [.int x7, .int 0]) (rest := [.ref x0]) c_12_36 rfl rfl (Nat.le_of_ble_eq_true rfl) (Nat.le_of_ble_eq_true rfl) t.1 t.2
set_option maxRecDepth 20000 in
theorem t_12_39 {d : Nat} {h : ab_H} {Q : Option Value → ab_H → Prop} {x0 : Nat} {x1 : Nat} {x2 : Int32} {x3 : Int32} {x4 : Int32} {x5 : Int32} {x6 : Nat} {x7 : Int32} {x8 : Int32} {s0 : Nat} {s1 : Int32} (t : ab_ok h s0 101 = true ∧ wm d 10 [.ref s0, .int s1] h (fun r9 h9 => wq (d + 1) 12 42 [.ref x0, .ref x1, .int x2, .int x3, .int x4, .int x5, .ref x6, .int x7, .int x8, .retAddr 0] (r9.toList ++ []) h9 Q)) : wq (d + 1) 12 39 [.ref x0, .ref x1, .int x2, .int x3, .int x4, .int x5, .ref x6, .int x7, .int x8, .retAddr 0] [.int s1, .ref s0] h Q := by
  exact g80 (As := [.int s1]) (rest := []) c_12_39 rfl rfl (Nat.le_of_ble_eq_true rfl) (Nat.le_of_ble_eq_true rfl) t.1 t.2
set_option maxRecDepth 20000 in
theorem t_12_42 {d : Nat} {h : ab_H} {Q : Option Value → ab_H → Prop} {x0 : Nat} {x1 : Nat} {x2 : Int32} {x3 : Int32} {x4 : Int32} {x5 : Int32} {x6 : Nat} {x7 : Int32} {x8 : Int32} {s0 : Nat} (t : if x8 = (-1) then (ab_ok h x6 104 = true ∧ wm d 55 [.ref x6, .int x7, .int 4] h (fun r9 h9 => wq (d + 1) 12 64 [.ref x0, .ref x1, .int x2, .int x3, .int x4, .int x5, .ref x6, .int x7, .int x8, .ref s0] (r9.toList ++ []) h9 Q)) else (if x8 = x3 then (ab_ok h x6 104 = true ∧ wm d 55 [.ref x6, .int x7, .int 4] h (fun r9 h9 => wq (d + 1) 12 64 [.ref x0, .ref x1, .int x2, .int x3, .int x4, .int x5, .ref x6, .int x7, .int x8, .ref s0] (r9.toList ++ []) h9 Q)) else (wq (d + 1) 12 15 [.ref x0, .ref x1, .int x2, .int x3, .int x4, .int x5, .ref x6, .int (x7 + (-1)), .int x8, .ref s0] [] h Q))) : wq (d + 1) 12 42 [.ref x0, .ref x1, .int x2, .int x3, .int x4, .int x5, .ref x6, .int x7, .int x8, .retAddr 0] [.ref s0] h Q := by
  refine g8 (L' := [.ref x0, .ref x1, .int x2, .int x3, .int x4, .int x5, .ref x6, .int x7, .int x8, .ref s0]) c_12_42 rfl ?_
  refine g3 c_12_44 rfl ?_
  refine g1 c_12_46 k_m1 ?_
  refine gcm c_12_47 (gbr t rfl rfl (fun hc t => ?_) (fun hc t => ?_))
  · refine g5 c_12_56 rfl ?_
    refine g3 c_12_58 rfl ?_
    refine g1 c_12_60 k_4 ?_
    exact g80 (As := [.int x7, .int 4]) (rest := []) c_12_61 rfl rfl (Nat.le_of_ble_eq_true rfl) (Nat.le_of_ble_eq_true rfl) t.1 t.2
  · refine g3 c_12_50 rfl ?_
    refine g3 c_12_52 rfl ?_
    refine gcm c_12_53 (gbn t (ab_c1 _ _) rfl (fun hc t => ?_) (fun hc t => ?_))
    · refine g5 c_12_56 rfl ?_
      refine g3 c_12_58 rfl ?_
      refine g1 c_12_60 k_4 ?_
      exact g80 (As := [.int x7, .int 4]) (rest := []) c_12_61 rfl rfl (Nat.le_of_ble_eq_true rfl) (Nat.le_of_ble_eq_true rfl) t.1 t.2
    · refine g9 (L' := [.ref x0, .ref x1, .int x2, .int x3, .int x4, .int x5, .ref x6, .int (x7 + (-1)), .int x8, .ref s0]) c_12_112 rfl k_m1 rfl ?_
      refine g38 c_12_115 rfl ?_
      exact t
set_option maxRecDepth 20000 in
theorem t_12_64 {d : Nat} {h : ab_H} {Q : Option Value → ab_H → Prop} {x0 : Nat} {x1 : Nat} {x2 : Int32} {x3 : Int32} {x4 : Int32} {x5 : Int32} {x6 : Nat} {x7 : Int32} {x8 : Int32} {x9 : Nat} {s0 : Int32} (t : if x5 < s0 then (wq (d + 1) 12 15 [.ref x0, .ref x1, .int x2, .int x3, .int x4, .int x5, .ref x6, .int (x7 + (-1)), .int x8, .ref x9] [] h Q) else (ab_ok h x6 104 = true ∧ wm d 55 [.ref x6, .int x7, .int 2] h (fun r9 h9 => wq (d + 1) 12 77 [.ref x0, .ref x1, .int x2, .int x3, .int x4, .int x5, .ref x6, .int x7, .int x8, .ref x9] (r9.toList ++ []) h9 Q))) : wq (d + 1) 12 64 [.ref x0, .ref x1, .int x2, .int x3, .int x4, .int x5, .ref x6, .int x7, .int x8, .ref x9] [.int s0] h Q := by
  refine g3 c_12_64 rfl ?_
  refine gcm c_12_66 (gbr t rfl rfl (fun hc t => ?_) (fun hc t => ?_))
  · refine g9 (L' := [.ref x0, .ref x1, .int x2, .int x3, .int x4, .int x5, .ref x6, .int (x7 + (-1)), .int x8, .ref x9]) c_12_112 rfl k_m1 rfl ?_
    refine g38 c_12_115 rfl ?_
    exact t
  · refine g5 c_12_69 rfl ?_
    refine g3 c_12_71 rfl ?_
    refine g1 c_12_73 k_2 ?_
    exact g80 (As := [.int x7, .int 2]) (rest := []) c_12_74 rfl rfl (Nat.le_of_ble_eq_true rfl) (Nat.le_of_ble_eq_true rfl) t.1 t.2
set_option maxRecDepth 20000 in
theorem t_12_77 {d : Nat} {h : ab_H} {Q : Option Value → ab_H → Prop} {x0 : Nat} {x1 : Nat} {x2 : Int32} {x3 : Int32} {x4 : Int32} {x5 : Int32} {x6 : Nat} {x7 : Int32} {x8 : Int32} {x9 : Nat} {s0 : Int32} (t : if x4 < s0 then (wq (d + 1) 12 15 [.ref x0, .ref x1, .int x2, .int x3, .int x4, .int x5, .ref x6, .int (x7 + (-1)), .int x8, .ref x9] [] h Q) else (ab_ok h x6 104 = true ∧ wm d 55 [.ref x6, .int x7, .int 3] h (fun r9 h9 => wq (d + 1) 12 92 [.ref x0, .ref x1, .int x2, .int x3, .int x4, .int x5, .ref x6, .int x7, .int x8, .ref x9] (r9.toList ++ [.int x4]) h9 Q))) : wq (d + 1) 12 77 [.ref x0, .ref x1, .int x2, .int x3, .int x4, .int x5, .ref x6, .int x7, .int x8, .ref x9] [.int s0] h Q := by
  refine g3 c_12_77 rfl ?_
  refine gcm c_12_79 (gbr t rfl rfl (fun hc t => ?_) (fun hc t => ?_))
  · refine g9 (L' := [.ref x0, .ref x1, .int x2, .int x3, .int x4, .int x5, .ref x6, .int (x7 + (-1)), .int x8, .ref x9]) c_12_112 rfl k_m1 rfl ?_
    refine g38 c_12_115 rfl ?_
    exact t
  · refine g3 c_12_82 rfl ?_
    refine g5 c_12_84 rfl ?_
    refine g3 c_12_86 rfl ?_
    refine g1 c_12_88 k_3 ?_
    exact g80 (As := [.int x7, .int 3]) (rest := [.int x4]) c_12_89 rfl rfl (Nat.le_of_ble_eq_true rfl) (Nat.le_of_ble_eq_true rfl) t.1 t.2
set_option maxRecDepth 20000 in
theorem t_12_92 {d : Nat} {h : ab_H} {Q : Option Value → ab_H → Prop} {x0 : Nat} {x1 : Nat} {x2 : Int32} {x3 : Int32} {x4 : Int32} {x5 : Int32} {x6 : Nat} {x7 : Int32} {x8 : Int32} {x9 : Nat} {s0 : Int32} {s1 : Int32} (t : if s1 < s0 then (wq (d + 1) 12 15 [.ref x0, .ref x1, .int x2, .int x3, .int x4, .int x5, .ref x6, .int (x7 + (-1)), .int x8, .ref x9] [] h Q) else (ab_ok h x9 107 = true ∧ wm d 83 [.ref x9, .int x2] h (fun r9 h9 => wq (d + 1) 12 106 [.ref x0, .ref x1, .int x2, .int x3, .int x4, .int x5, .ref x6, .int x7, .int x8, .ref x9] (r9.toList ++ []) h9 Q))) : wq (d + 1) 12 92 [.ref x0, .ref x1, .int x2, .int x3, .int x4, .int x5, .ref x6, .int x7, .int x8, .ref x9] [.int s1, .int s0] h Q := by
  refine gcm c_12_92 (gbr t rfl rfl (fun hc t => ?_) (fun hc t => ?_))
  · refine g9 (L' := [.ref x0, .ref x1, .int x2, .int x3, .int x4, .int x5, .ref x6, .int (x7 + (-1)), .int x8, .ref x9]) c_12_112 rfl k_m1 rfl ?_
    refine g38 c_12_115 rfl ?_
    exact t
  · refine g5 c_12_95 rfl ?_
    refine g39a c_12_97 ?_
    refine g5 c_12_100 rfl ?_
    refine g3 c_12_102 rfl ?_
    exact g80 (As := [.int x2]) (rest := []) c_12_103 rfl rfl (Nat.le_of_ble_eq_true rfl) (Nat.le_of_ble_eq_true rfl) t.1 t.2
set_option maxRecDepth 20000 in
theorem t_12_106 {d : Nat} {h : ab_H} {Q : Option Value → ab_H → Prop} {x0 : Nat} {x1 : Nat} {x2 : Int32} {x3 : Int32} {x4 : Int32} {x5 : Int32} {x6 : Nat} {x7 : Int32} {x8 : Int32} {x9 : Nat} {s0 : Int32} (t : if s0 = 0 then (wq d 12 15 [.ref x0, .ref x1, .int x2, .int x3, .int x4, .int x5, .ref x6, .int (x7 + (-1)), .int x8, .ref x9] [] h Q) else (Q (some (.int x7)) h)) : wq d 12 106 [.ref x0, .ref x1, .int x2, .int x3, .int x4, .int x5, .ref x6, .int x7, .int x8, .ref x9] [.int s0] h Q := by
  refine gif c_12_106 (gbr t rfl rfl (fun hc t => ?_) (fun hc t => ?_))
  · refine g9 (L' := [.ref x0, .ref x1, .int x2, .int x3, .int x4, .int x5, .ref x6, .int (x7 + (-1)), .int x8, .ref x9]) c_12_112 rfl k_m1 rfl ?_
    refine g38 c_12_115 rfl ?_
    exact t
  · refine g3 c_12_109 rfl ?_
    exact g90 c_12_111 t
-- method 13: MillTown$Law.textFor(LMillTown$Town;IIII)LMillTown$Text;
theorem c_13_0 : pg_cd 13 0 = (5, 1, 0, 0, 0) := by decide +kernel
theorem c_13_1 : pg_cd 13 1 = (5, 1, 0, 1, 0) := by decide +kernel
theorem c_13_2 : pg_cd 13 2 = (45, 8, 46, 7, 0) := by decide +kernel
theorem c_13_5 : pg_cd 13 5 = (5, 1, 0, 0, 0) := by decide +kernel
theorem c_13_6 : pg_cd 13 6 = (5, 1, 0, 1, 0) := by decide +kernel
theorem c_13_7 : pg_cd 13 7 = (3, 1, 0, 2, 0) := by decide +kernel
theorem c_13_8 : pg_cd 13 8 = (3, 1, 0, 3, 0) := by decide +kernel
theorem c_13_9 : pg_cd 13 9 = (3, 2, 0, 4, 0) := by decide +kernel
theorem c_13_11 : pg_cd 13 11 = (3, 2, 0, 5, 0) := by decide +kernel
theorem c_13_13 : pg_cd 13 13 = (80, 12, 59, 0, 0) := by decide +kernel
theorem c_13_16 : pg_cd 13 16 = (1, 1, 0, 0, 0) := by decide +kernel
theorem c_13_17 : pg_cd 13 17 = (80, 55, 51, 0, 0) := by decide +kernel
theorem c_13_20 : pg_cd 13 20 = (80, 10, 33, 0, 0) := by decide +kernel
theorem c_13_23 : pg_cd 13 23 = (93, 0, 0, 0, 0) := by decide +kernel
theorem mx_13 : pg_mx 13 = 6 := by decide +kernel
theorem m_13 {d : Nat} {h : ab_H} {Q : Option Value → ab_H → Prop} {x0 : Nat} {x1 : Nat} {x2 : Int32} {x3 : Int32} {x4 : Int32} {x5 : Int32} (t : wq d 13 0 [.ref x0, .ref x1, .int x2, .int x3, .int x4, .int x5] [] h Q) : wm d 13 [.ref x0, .ref x1, .int x2, .int x3, .int x4, .int x5] h Q := by
  unfold wm
  rw [mx_13]
  exact t
set_option maxRecDepth 20000 in
theorem t_13_0 {d : Nat} {h : ab_H} {Q : Option Value → ab_H → Prop} {x0 : Nat} {x1 : Nat} {x2 : Int32} {x3 : Int32} {x4 : Int32} {x5 : Int32} (t : ab_ok h x1 108 = true ∧ ∃ j1 : Nat, ab_r h x1 7 = some j1 ∧ ab_ok h x0 101 = true ∧ wm d 12 [.ref x0, .ref x1, .int x2, .int x3, .int x4, .int x5] h (fun r9 h9 => wq (d + 1) 13 16 [.ref x0, .ref x1, .int x2, .int x3, .int x4, .int x5] (r9.toList ++ [.ref j1, .ref x0]) h9 Q)) : wq (d + 1) 13 0 [.ref x0, .ref x1, .int x2, .int x3, .int x4, .int x5] [] h Q := by
  refine g5 c_13_0 rfl ?_
  refine g5 c_13_1 rfl ?_
  obtain ⟨ho, j1, hr, t⟩ := t
  refine g45 c_13_2 ho hr ?_
  refine g5 c_13_5 rfl ?_
  refine g5 c_13_6 rfl ?_
  refine g3 c_13_7 rfl ?_
  refine g3 c_13_8 rfl ?_
  refine g3 c_13_9 rfl ?_
  refine g3 c_13_11 rfl ?_
  exact g80 (As := [.ref x1, .int x2, .int x3, .int x4, .int x5]) (rest := [.ref j1, .ref x0]) c_13_13 rfl rfl (Nat.le_of_ble_eq_true rfl) (Nat.le_of_ble_eq_true rfl) t.1 t.2
set_option maxRecDepth 20000 in
theorem t_13_16 {d : Nat} {h : ab_H} {Q : Option Value → ab_H → Prop} {x0 : Nat} {x1 : Nat} {x2 : Int32} {x3 : Int32} {x4 : Int32} {x5 : Int32} {s0 : Nat} {s1 : Nat} {s2 : Int32} (t : ab_ok h s1 104 = true ∧ wm d 55 [.ref s1, .int s2, .int 0] h (fun r9 h9 => wq (d + 1) 13 20 [.ref x0, .ref x1, .int x2, .int x3, .int x4, .int x5] (r9.toList ++ [.ref s0]) h9 Q)) : wq (d + 1) 13 16 [.ref x0, .ref x1, .int x2, .int x3, .int x4, .int x5] [.int s2, .ref s1, .ref s0] h Q := by
  refine g1 c_13_16 k_0 ?_
  exact g80 (As := [.int s2, .int 0]) (rest := [.ref s0]) c_13_17 rfl rfl (Nat.le_of_ble_eq_true rfl) (Nat.le_of_ble_eq_true rfl) t.1 t.2
set_option maxRecDepth 20000 in
theorem t_13_20 {d : Nat} {h : ab_H} {Q : Option Value → ab_H → Prop} {x0 : Nat} {x1 : Nat} {x2 : Int32} {x3 : Int32} {x4 : Int32} {x5 : Int32} {s0 : Nat} {s1 : Int32} (t : ab_ok h s0 101 = true ∧ wm d 10 [.ref s0, .int s1] h (fun r9 h9 => wq (d + 1) 13 23 [.ref x0, .ref x1, .int x2, .int x3, .int x4, .int x5] (r9.toList ++ []) h9 Q)) : wq (d + 1) 13 20 [.ref x0, .ref x1, .int x2, .int x3, .int x4, .int x5] [.int s1, .ref s0] h Q := by
  exact g80 (As := [.int s1]) (rest := []) c_13_20 rfl rfl (Nat.le_of_ble_eq_true rfl) (Nat.le_of_ble_eq_true rfl) t.1 t.2
set_option maxRecDepth 20000 in
theorem t_13_23 {d : Nat} {h : ab_H} {Q : Option Value → ab_H → Prop} {x0 : Nat} {x1 : Nat} {x2 : Int32} {x3 : Int32} {x4 : Int32} {x5 : Int32} {s0 : Nat} (t : Q (some (.ref s0)) h) : wq d 13 23 [.ref x0, .ref x1, .int x2, .int x3, .int x4, .int x5] [.ref s0] h Q := by
  exact g93a c_13_23 t
-- method 14: MillTown$Law.hoursAt(LMillTown$Town;IIII)I
theorem c_14_0 : pg_cd 14 0 = (5, 1, 0, 0, 0) := by decide +kernel
theorem c_14_1 : pg_cd 14 1 = (5, 1, 0, 1, 0) := by decide +kernel
theorem c_14_2 : pg_cd 14 2 = (1, 2, 0, 0, 7) := by decide +kernel
theorem c_14_4 : pg_cd 14 4 = (3, 1, 0, 3, 0) := by decide +kernel
theorem c_14_5 : pg_cd 14 5 = (3, 2, 0, 4, 0) := by decide +kernel
theorem c_14_7 : pg_cd 14 7 = (3, 2, 0, 5, 0) := by decide +kernel
theorem c_14_9 : pg_cd 14 9 = (80, 13, 63, 0, 0) := by decide +kernel
theorem c_14_12 : pg_cd 14 12 = (8, 2, 0, 6, 0) := by decide +kernel
theorem c_14_14 : pg_cd 14 14 = (5, 2, 0, 6, 0) := by decide +kernel
theorem c_14_16 : pg_cd 14 16 = (5, 1, 0, 0, 0) := by decide +kernel
theorem c_14_17 : pg_cd 14 17 = (5, 1, 0, 1, 0) := by decide +kernel
theorem c_14_18 : pg_cd 14 18 = (3, 1, 0, 3, 0) := by decide +kernel
theorem c_14_19 : pg_cd 14 19 = (3, 2, 0, 4, 0) := by decide +kernel
theorem c_14_21 : pg_cd 14 21 = (3, 2, 0, 5, 0) := by decide +kernel
theorem c_14_23 : pg_cd 14 23 = (80, 15, 67, 0, 0) := by decide +kernel
theorem c_14_26 : pg_cd 14 26 = (3, 1, 0, 2, 0) := by decide +kernel
theorem c_14_27 : pg_cd 14 27 = (81, 16, 71, 0, 0) := by decide +kernel
theorem c_14_30 : pg_cd 14 30 = (90, 0, 0, 0, 0) := by decide +kernel
theorem mx_14 : pg_mx 14 = 7 := by decide +kernel
theorem m_14 {d : Nat} {h : ab_H} {Q : Option Value → ab_H → Prop} {x0 : Nat} {x1 : Nat} {x2 : Int32} {x3 : Int32} {x4 : Int32} {x5 : Int32} (t : wq d 14 0 [.ref x0, .ref x1, .int x2, .int x3, .int x4, .int x5, .retAddr 0] [] h Q) : wm d 14 [.ref x0, .ref x1, .int x2, .int x3, .int x4, .int x5] h Q := by
  unfold wm
  rw [mx_14]
  exact t
set_option maxRecDepth 20000 in
theorem t_14_0 {d : Nat} {h : ab_H} {Q : Option Value → ab_H → Prop} {x0 : Nat} {x1 : Nat} {x2 : Int32} {x3 : Int32} {x4 : Int32} {x5 : Int32} (t : ab_ok h x0 101 = true ∧ wm d 13 [.ref x0, .ref x1, .int 7, .int x3, .int x4, .int x5] h (fun r9 h9 => wq (d + 1) 14 12 [.ref x0, .ref x1, .int x2, .int x3, .int x4, .int x5, .retAddr 0] (r9.toList ++ []) h9 Q)) : wq (d + 1) 14 0 [.ref x0, .ref x1, .int x2, .int x3, .int x4, .int x5, .retAddr 0] [] h Q := by
  refine g5 c_14_0 rfl ?_
  refine g5 c_14_1 rfl ?_
  refine g1 c_14_2 k_7 ?_
  refine g3 c_14_4 rfl ?_
  refine g3 c_14_5 rfl ?_
  refine g3 c_14_7 rfl ?_
  exact g80 (As := [.ref x1, .int 7, .int x3, .int x4, .int x5]) (rest := []) c_14_9 rfl rfl (Nat.le_of_ble_eq_true rfl) (Nat.le_of_ble_eq_true rfl) t.1 t.2
set_option maxRecDepth 20000 in
theorem t_14_12 {d : Nat} {h : ab_H} {Q : Option Value → ab_H → Prop} {x0 : Nat} {x1 : Nat} {x2 : Int32} {x3 : Int32} {x4 : Int32} {x5 : Int32} {s0 : Nat} (t : ab_ok h x0 101 = true ∧ wm d 15 [.ref x0, .ref x1, .int x3, .int x4, .int x5] h (fun r9 h9 => wq (d + 1) 14 26 [.ref x0, .ref x1, .int x2, .int x3, .int x4, .int x5, .ref s0] (r9.toList ++ [.ref s0]) h9 Q)) : wq (d + 1) 14 12 [.ref x0, .ref x1, .int x2, .int x3, .int x4, .int x5, .retAddr 0] [.ref s0] h Q := by
  refine g8 (L' := [.ref x0, .ref x1, .int x2, .int x3, .int x4, .int x5, .ref s0]) c_14_12 rfl ?_
  refine g5 c_14_14 rfl ?_
  refine g5 c_14_16 rfl ?_
  refine g5 c_14_17 rfl ?_
  refine g3 c_14_18 rfl ?_
  refine g3 c_14_19 rfl ?_
  refine g3 c_14_21 rfl ?_
  exact g80 (As := [.ref x1, .int x3, .int x4, .int x5]) (rest := [.ref s0]) c_14_23 rfl rfl (Nat.le_of_ble_eq_true rfl) (Nat.le_of_ble_eq_true rfl) t.1 t.2
set_option maxRecDepth 20000 in
theorem t_14_26 {d : Nat} {h : ab_H} {Q : Option Value → ab_H → Prop} {x0 : Nat} {x1 : Nat} {x2 : Int32} {x3 : Int32} {x4 : Int32} {x5 : Int32} {x6 : Nat} {s0 : Nat} {s1 : Int32} (t : wm d 16 [.ref s0, .int s1, .int x2] h (fun r9 h9 => wq (d + 1) 14 30 [.ref x0, .ref x1, .int x2, .int x3, .int x4, .int x5, .ref x6] (r9.toList ++ []) h9 Q)) : wq (d + 1) 14 26 [.ref x0, .ref x1, .int x2, .int x3, .int x4, .int x5, .ref x6] [.int s1, .ref s0] h Q := by
  refine g3 c_14_26 rfl ?_
  exact g81 (As := [.ref s0, .int s1, .int x2]) (rest := []) c_14_27 rfl rfl (Nat.le_of_ble_eq_true rfl) (Nat.le_of_ble_eq_true rfl) t
set_option maxRecDepth 20000 in
theorem t_14_30 {d : Nat} {h : ab_H} {Q : Option Value → ab_H → Prop} {x0 : Nat} {x1 : Nat} {x2 : Int32} {x3 : Int32} {x4 : Int32} {x5 : Int32} {x6 : Nat} {s0 : Int32} (t : Q (some (.int s0)) h) : wq d 14 30 [.ref x0, .ref x1, .int x2, .int x3, .int x4, .int x5, .ref x6] [.int s0] h Q := by
  exact g90 c_14_30 t
-- method 15: MillTown$Law.breaksAt(LMillTown$Town;III)I
theorem c_15_0 : pg_cd 15 0 = (5, 1, 0, 0, 0) := by decide +kernel
theorem c_15_1 : pg_cd 15 1 = (5, 1, 0, 1, 0) := by decide +kernel
theorem c_15_2 : pg_cd 15 2 = (1, 2, 0, 0, 8) := by decide +kernel
theorem c_15_4 : pg_cd 15 4 = (3, 1, 0, 2, 0) := by decide +kernel
theorem c_15_5 : pg_cd 15 5 = (3, 1, 0, 3, 0) := by decide +kernel
theorem c_15_6 : pg_cd 15 6 = (3, 2, 0, 4, 0) := by decide +kernel
theorem c_15_8 : pg_cd 15 8 = (80, 13, 63, 0, 0) := by decide +kernel
theorem c_15_11 : pg_cd 15 11 = (8, 2, 0, 5, 0) := by decide +kernel
theorem c_15_13 : pg_cd 15 13 = (5, 1, 0, 0, 0) := by decide +kernel
theorem c_15_14 : pg_cd 15 14 = (5, 1, 0, 1, 0) := by decide +kernel
theorem c_15_15 : pg_cd 15 15 = (1, 2, 0, 0, 9) := by decide +kernel
theorem c_15_17 : pg_cd 15 17 = (3, 1, 0, 2, 0) := by decide +kernel
theorem c_15_18 : pg_cd 15 18 = (3, 1, 0, 3, 0) := by decide +kernel
theorem c_15_19 : pg_cd 15 19 = (3, 2, 0, 4, 0) := by decide +kernel
theorem c_15_21 : pg_cd 15 21 = (80, 13, 63, 0, 0) := by decide +kernel
theorem c_15_24 : pg_cd 15 24 = (8, 2, 0, 6, 0) := by decide +kernel
theorem c_15_26 : pg_cd 15 26 = (5, 2, 0, 5, 0) := by decide +kernel
theorem c_15_28 : pg_cd 15 28 = (40, 3, 0, 0, 7) := by decide +kernel
theorem c_15_31 : pg_cd 15 31 = (1, 1, 0, 0, 0) := by decide +kernel
theorem c_15_32 : pg_cd 15 32 = (38, 3, 0, 0, 10) := by decide +kernel
theorem c_15_35 : pg_cd 15 35 = (5, 2, 0, 5, 0) := by decide +kernel
theorem c_15_37 : pg_cd 15 37 = (1, 2, 0, 0, 8) := by decide +kernel
theorem c_15_39 : pg_cd 15 39 = (80, 85, 75, 0, 0) := by decide +kernel
theorem c_15_42 : pg_cd 15 42 = (6, 2, 0, 7, 0) := by decide +kernel
theorem c_15_44 : pg_cd 15 44 = (5, 2, 0, 6, 0) := by decide +kernel
theorem c_15_46 : pg_cd 15 46 = (40, 3, 0, 0, 8) := by decide +kernel
theorem c_15_49 : pg_cd 15 49 = (3, 2, 0, 7, 0) := by decide +kernel
theorem c_15_51 : pg_cd 15 51 = (38, 3, 0, 0, 13) := by decide +kernel
theorem c_15_54 : pg_cd 15 54 = (3, 2, 0, 7, 0) := by decide +kernel
theorem c_15_56 : pg_cd 15 56 = (5, 2, 0, 6, 0) := by decide +kernel
theorem c_15_58 : pg_cd 15 58 = (1, 2, 0, 0, 9) := by decide +kernel
theorem c_15_60 : pg_cd 15 60 = (80, 85, 75, 0, 0) := by decide +kernel
theorem c_15_63 : pg_cd 15 63 = (10, 1, 0, 0, 0) := by decide +kernel
theorem c_15_64 : pg_cd 15 64 = (90, 0, 0, 0, 0) := by decide +kernel
theorem mx_15 : pg_mx 15 = 8 := by decide +kernel
theorem m_15 {d : Nat} {h : ab_H} {Q : Option Value → ab_H → Prop} {x0 : Nat} {x1 : Nat} {x2 : Int32} {x3 : Int32} {x4 : Int32} (t : wq d 15 0 [.ref x0, .ref x1, .int x2, .int x3, .int x4, .retAddr 0, .retAddr 0, .retAddr 0] [] h Q) : wm d 15 [.ref x0, .ref x1, .int x2, .int x3, .int x4] h Q := by
  unfold wm
  rw [mx_15]
  exact t
set_option maxRecDepth 20000 in
theorem t_15_0 {d : Nat} {h : ab_H} {Q : Option Value → ab_H → Prop} {x0 : Nat} {x1 : Nat} {x2 : Int32} {x3 : Int32} {x4 : Int32} (t : ab_ok h x0 101 = true ∧ wm d 13 [.ref x0, .ref x1, .int 8, .int x2, .int x3, .int x4] h (fun r9 h9 => wq (d + 1) 15 11 [.ref x0, .ref x1, .int x2, .int x3, .int x4, .retAddr 0, .retAddr 0, .retAddr 0] (r9.toList ++ []) h9 Q)) : wq (d + 1) 15 0 [.ref x0, .ref x1, .int x2, .int x3, .int x4, .retAddr 0, .retAddr 0, .retAddr 0] [] h Q := by
  refine g5 c_15_0 rfl ?_
  refine g5 c_15_1 rfl ?_
  refine g1 c_15_2 k_8 ?_
  refine g3 c_15_4 rfl ?_
  refine g3 c_15_5 rfl ?_
  refine g3 c_15_6 rfl ?_
  exact g80 (As := [.ref x1, .int 8, .int x2, .int x3, .int x4]) (rest := []) c_15_8 rfl rfl (Nat.le_of_ble_eq_true rfl) (Nat.le_of_ble_eq_true rfl) t.1 t.2
set_option maxRecDepth 20000 in
theorem t_15_11 {d : Nat} {h : ab_H} {Q : Option Value → ab_H → Prop} {x0 : Nat} {x1 : Nat} {x2 : Int32} {x3 : Int32} {x4 : Int32} {s0 : Nat} (t : ab_ok h x0 101 = true ∧ wm d 13 [.ref x0, .ref x1, .int 9, .int x2, .int x3, .int x4] h (fun r9 h9 => wq (d + 1) 15 24 [.ref x0, .ref x1, .int x2, .int x3, .int x4, .ref s0, .retAddr 0, .retAddr 0] (r9.toList ++ []) h9 Q)) : wq (d + 1) 15 11 [.ref x0, .ref x1, .int x2, .int x3, .int x4, .retAddr 0, .retAddr 0, .retAddr 0] [.ref s0] h Q := by
  refine g8 (L' := [.ref x0, .ref x1, .int x2, .int x3, .int x4, .ref s0, .retAddr 0, .retAddr 0]) c_15_11 rfl ?_
  refine g5 c_15_13 rfl ?_
  refine g5 c_15_14 rfl ?_
  refine g1 c_15_15 k_9 ?_
  refine g3 c_15_17 rfl ?_
  refine g3 c_15_18 rfl ?_
  refine g3 c_15_19 rfl ?_
  exact g80 (As := [.ref x1, .int 9, .int x2, .int x3, .int x4]) (rest := []) c_15_21 rfl rfl (Nat.le_of_ble_eq_true rfl) (Nat.le_of_ble_eq_true rfl) t.1 t.2
set_option maxRecDepth 20000 in
theorem t_15_24 {d : Nat} {h : ab_H} {Q : Option Value → ab_H → Prop} {x0 : Nat} {x1 : Nat} {x2 : Int32} {x3 : Int32} {x4 : Int32} {x5 : Nat} {s0 : Nat} (t : ab_ok h x5 107 = true ∧ wm d 85 [.ref x5, .int 8] h (fun r9 h9 => wq (d + 1) 15 42 [.ref x0, .ref x1, .int x2, .int x3, .int x4, .ref x5, .ref s0, .retAddr 0] (r9.toList ++ []) h9 Q)) : wq (d + 1) 15 24 [.ref x0, .ref x1, .int x2, .int x3, .int x4, .ref x5, .retAddr 0, .retAddr 0] [.ref s0] h Q := by
  refine g8 (L' := [.ref x0, .ref x1, .int x2, .int x3, .int x4, .ref x5, .ref s0, .retAddr 0]) c_15_24 rfl ?_
  refine g5 c_15_26 rfl ?_
  refine g40a c_15_28 rfl ?_
  refine g5 c_15_35 rfl ?_
  refine g1 c_15_37 k_8 ?_
  exact g80 (As := [.int 8]) (rest := []) c_15_39 rfl rfl (Nat.le_of_ble_eq_true rfl) (Nat.le_of_ble_eq_true rfl) t.1 t.2
set_option maxRecDepth 20000 in
theorem t_15_42 {d : Nat} {h : ab_H} {Q : Option Value → ab_H → Prop} {x0 : Nat} {x1 : Nat} {x2 : Int32} {x3 : Int32} {x4 : Int32} {x5 : Nat} {x6 : Nat} {s0 : Int32} (t : ab_ok h x6 107 = true ∧ wm d 85 [.ref x6, .int 9] h (fun r9 h9 => wq (d + 1) 15 63 [.ref x0, .ref x1, .int x2, .int x3, .int x4, .ref x5, .ref x6, .int s0] (r9.toList ++ [.int s0]) h9 Q)) : wq (d + 1) 15 42 [.ref x0, .ref x1, .int x2, .int x3, .int x4, .ref x5, .ref x6, .retAddr 0] [.int s0] h Q := by
  refine g6 (L' := [.ref x0, .ref x1, .int x2, .int x3, .int x4, .ref x5, .ref x6, .int s0]) c_15_42 rfl ?_
  refine g5 c_15_44 rfl ?_
  refine g40a c_15_46 rfl ?_
  refine g3 c_15_54 rfl ?_
  refine g5 c_15_56 rfl ?_
  refine g1 c_15_58 k_9 ?_
  exact g80 (As := [.int 9]) (rest := [.int s0]) c_15_60 rfl rfl (Nat.le_of_ble_eq_true rfl) (Nat.le_of_ble_eq_true rfl) t.1 t.2
set_option maxRecDepth 20000 in
theorem t_15_63 {d : Nat} {h : ab_H} {Q : Option Value → ab_H → Prop} {x0 : Nat} {x1 : Nat} {x2 : Int32} {x3 : Int32} {x4 : Int32} {x5 : Nat} {x6 : Nat} {x7 : Int32} {s0 : Int32} {s1 : Int32} (t : Q (some (.int (s0 + s1))) h) : wq d 15 63 [.ref x0, .ref x1, .int x2, .int x3, .int x4, .ref x5, .ref x6, .int x7] [.int s1, .int s0] h Q := by
  refine g10 c_15_63 ?_
  exact g90 c_15_64 t
-- method 16: MillTown$Law.hoursBy(LMillTown$Text;II)I
theorem c_16_0 : pg_cd 16 0 = (5, 1, 0, 0, 0) := by decide +kernel
theorem c_16_1 : pg_cd 16 1 = (40, 3, 0, 0, 12) := by decide +kernel
theorem c_16_4 : pg_cd 16 4 = (1, 2, 0, 0, 60) := by decide +kernel
theorem c_16_6 : pg_cd 16 6 = (3, 1, 0, 1, 0) := by decide +kernel
theorem c_16_7 : pg_cd 16 7 = (11, 1, 0, 0, 0) := by decide +kernel
theorem c_16_8 : pg_cd 16 8 = (1, 1, 0, 0, 0) := by decide +kernel
theorem c_16_9 : pg_cd 16 9 = (73, 0, 79, 0, 0) := by decide +kernel
theorem c_16_12 : pg_cd 16 12 = (90, 0, 0, 0, 0) := by decide +kernel
theorem c_16_13 : pg_cd 16 13 = (5, 1, 0, 0, 0) := by decide +kernel
theorem c_16_14 : pg_cd 16 14 = (45, 7, 37, 0, 0) := by decide +kernel
theorem c_16_17 : pg_cd 16 17 = (8, 1, 0, 3, 0) := by decide +kernel
theorem c_16_18 : pg_cd 16 18 = (1, 1, 0, 0, 0) := by decide +kernel
theorem c_16_19 : pg_cd 16 19 = (6, 2, 0, 4, 0) := by decide +kernel
theorem c_16_21 : pg_cd 16 21 = (3, 2, 0, 4, 0) := by decide +kernel
theorem c_16_23 : pg_cd 16 23 = (5, 1, 0, 3, 0) := by decide +kernel
theorem c_16_24 : pg_cd 16 24 = (43, 4, 41, 2, 0) := by decide +kernel
theorem c_16_27 : pg_cd 16 27 = (37, 3, 0, 3, 57) := by decide +kernel
theorem c_16_30 : pg_cd 16 30 = (5, 1, 0, 3, 0) := by decide +kernel
theorem c_16_31 : pg_cd 16 31 = (3, 2, 0, 4, 0) := by decide +kernel
theorem c_16_33 : pg_cd 16 33 = (1, 1, 0, 0, 0) := by decide +kernel
theorem c_16_34 : pg_cd 16 34 = (80, 55, 51, 0, 0) := by decide +kernel
theorem c_16_37 : pg_cd 16 37 = (1, 2, 0, 0, 7) := by decide +kernel
theorem c_16_39 : pg_cd 16 39 = (37, 3, 0, 1, 39) := by decide +kernel
theorem c_16_42 : pg_cd 16 42 = (5, 1, 0, 3, 0) := by decide +kernel
theorem c_16_43 : pg_cd 16 43 = (3, 2, 0, 4, 0) := by decide +kernel
theorem c_16_45 : pg_cd 16 45 = (1, 1, 0, 0, 1) := by decide +kernel
theorem c_16_46 : pg_cd 16 46 = (80, 55, 51, 0, 0) := by decide +kernel
theorem c_16_49 : pg_cd 16 49 = (3, 1, 0, 2, 0) := by decide +kernel
theorem c_16_50 : pg_cd 16 50 = (37, 3, 0, 4, 28) := by decide +kernel
theorem c_16_53 : pg_cd 16 53 = (3, 1, 0, 2, 0) := by decide +kernel
theorem c_16_54 : pg_cd 16 54 = (5, 1, 0, 3, 0) := by decide +kernel
theorem c_16_55 : pg_cd 16 55 = (3, 2, 0, 4, 0) := by decide +kernel
theorem c_16_57 : pg_cd 16 57 = (1, 1, 0, 0, 2) := by decide +kernel
theorem c_16_58 : pg_cd 16 58 = (80, 55, 51, 0, 0) := by decide +kernel
theorem c_16_61 : pg_cd 16 61 = (37, 3, 0, 4, 17) := by decide +kernel
theorem c_16_64 : pg_cd 16 64 = (5, 1, 0, 3, 0) := by decide +kernel
theorem c_16_65 : pg_cd 16 65 = (3, 2, 0, 4, 0) := by decide +kernel
theorem c_16_67 : pg_cd 16 67 = (1, 1, 0, 0, 3) := by decide +kernel
theorem c_16_68 : pg_cd 16 68 = (80, 55, 51, 0, 0) := by decide +kernel
theorem c_16_71 : pg_cd 16 71 = (3, 1, 0, 1, 0) := by decide +kernel
theorem c_16_72 : pg_cd 16 72 = (11, 1, 0, 0, 0) := by decide +kernel
theorem c_16_73 : pg_cd 16 73 = (1, 1, 0, 0, 0) := by decide +kernel
theorem c_16_74 : pg_cd 16 74 = (73, 0, 79, 0, 0) := by decide +kernel
theorem c_16_77 : pg_cd 16 77 = (90, 0, 0, 0, 0) := by decide +kernel
theorem c_16_78 : pg_cd 16 78 = (9, 3, 0, 4, 1) := by decide +kernel
theorem c_16_81 : pg_cd 16 81 = (38, 3, 0, 0, (-60)) := by decide +kernel
theorem c_16_84 : pg_cd 16 84 = (1, 1, 0, 0, 0) := by decide +kernel
theorem c_16_85 : pg_cd 16 85 = (90, 0, 0, 0, 0) := by decide +kernel
theorem mx_16 : pg_mx 16 = 5 := by decide +kernel
theorem m_16 {d : Nat} {h : ab_H} {Q : Option Value → ab_H → Prop} {x0 : Nat} {x1 : Int32} {x2 : Int32} (t : wq d 16 0 [.ref x0, .int x1, .int x2, .retAddr 0, .retAddr 0] [] h Q) : wm d 16 [.ref x0, .int x1, .int x2] h Q := by
  unfold wm
  rw [mx_16]
  exact t
set_option maxRecDepth 20000 in
theorem t_16_0 {d : Nat} {h : ab_H} {Q : Option Value → ab_H → Prop} {x0 : Nat} {x1 : Int32} {x2 : Int32} (t : ab_ok h x0 107 = true ∧ ∃ j1 : Nat, ab_r h x0 0 = some j1 ∧ wq d 16 21 [.ref x0, .int x1, .int x2, .ref j1, .int 0] [] h Q) : wq d 16 0 [.ref x0, .int x1, .int x2, .retAddr 0, .retAddr 0] [] h Q := by
  refine g5 c_16_0 rfl ?_
  refine g40a c_16_1 rfl ?_
  refine g5 c_16_13 rfl ?_
  obtain ⟨ho, j1, hr, t⟩ := t
  refine g45 c_16_14 ho hr ?_
  refine g8 (L' := [.ref x0, .int x1, .int x2, .ref j1, .retAddr 0]) c_16_17 rfl ?_
  refine g1 c_16_18 k_0 ?_
  refine g6 (L' := [.ref x0, .int x1, .int x2, .ref j1, .int 0]) c_16_19 rfl ?_
  exact t
set_option maxRecDepth 20000 in
theorem t_16_21 {d : Nat} {h : ab_H} {Q : Option Value → ab_H → Prop} {x0 : Nat} {x1 : Int32} {x2 : Int32} {x3 : Nat} {x4 : Int32} (t : ab_ok h x3 104 = true ∧ if (ab_i h x3 2) ≤ x4 then (Q (some (.int 0)) h) else (ab_ok h x3 104 = true ∧ wm d 55 [.ref x3, .int x4, .int 0] h (fun r9 h9 => wq (d + 1) 16 37 [.ref x0, .int x1, .int x2, .ref x3, .int x4] (r9.toList ++ []) h9 Q))) : wq (d + 1) 16 21 [.ref x0, .int x1, .int x2, .ref x3, .int x4] [] h Q := by
  refine g3 c_16_21 rfl ?_
  refine g5 c_16_23 rfl ?_
  obtain ⟨ho, t⟩ := t
  refine g43 c_16_24 ho ?_
  refine gcm c_16_27 (gbr t rfl rfl (fun hc t => ?_) (fun hc t => ?_))
  · refine g1 c_16_84 k_0 ?_
    exact g90 c_16_85 t
  · refine g5 c_16_30 rfl ?_
    refine g3 c_16_31 rfl ?_
    refine g1 c_16_33 k_0 ?_
    exact g80 (As := [.int x4, .int 0]) (rest := []) c_16_34 rfl rfl (Nat.le_of_ble_eq_true rfl) (Nat.le_of_ble_eq_true rfl) t.1 t.2
set_option maxRecDepth 20000 in
theorem t_16_37 {d : Nat} {h : ab_H} {Q : Option Value → ab_H → Prop} {x0 : Nat} {x1 : Int32} {x2 : Int32} {x3 : Nat} {x4 : Int32} {s0 : Int32} (t : if s0 = 7 then (ab_ok h x3 104 = true ∧ wm d 55 [.ref x3, .int x4, .int 1] h (fun r9 h9 => wq (d + 1) 16 49 [.ref x0, .int x1, .int x2, .ref x3, .int x4] (r9.toList ++ []) h9 Q)) else (wq (d + 1) 16 21 [.ref x0, .int x1, .int x2, .ref x3, .int (x4 + 1)] [] h Q)) : wq (d + 1) 16 37 [.ref x0, .int x1, .int x2, .ref x3, .int x4] [.int s0] h Q := by
  refine g1 c_16_37 k_7 ?_
  refine gcm c_16_39 (gbn t (ab_c1 _ _) rfl (fun hc t => ?_) (fun hc t => ?_))
  · refine g5 c_16_42 rfl ?_
    refine g3 c_16_43 rfl ?_
    refine g1 c_16_45 k_1 ?_
    exact g80 (As := [.int x4, .int 1]) (rest := []) c_16_46 rfl rfl (Nat.le_of_ble_eq_true rfl) (Nat.le_of_ble_eq_true rfl) t.1 t.2
  · refine g9 (L' := [.ref x0, .int x1, .int x2, .ref x3, .int (x4 + 1)]) c_16_78 rfl k_1 rfl ?_
    refine g38 c_16_81 rfl ?_
    exact t
set_option maxRecDepth 20000 in
theorem t_16_49 {d : Nat} {h : ab_H} {Q : Option Value → ab_H → Prop} {x0 : Nat} {x1 : Int32} {x2 : Int32} {x3 : Nat} {x4 : Int32} {s0 : Int32} (t : if x2 < s0 then (wq (d + 1) 16 21 [.ref x0, .int x1, .int x2, .ref x3, .int (x4 + 1)] [] h Q) else (ab_ok h x3 104 = true ∧ wm d 55 [.ref x3, .int x4, .int 2] h (fun r9 h9 => wq (d + 1) 16 61 [.ref x0, .int x1, .int x2, .ref x3, .int x4] (r9.toList ++ [.int x2]) h9 Q))) : wq (d + 1) 16 49 [.ref x0, .int x1, .int x2, .ref x3, .int x4] [.int s0] h Q := by
  refine g3 c_16_49 rfl ?_
  refine gcm c_16_50 (gbr t rfl rfl (fun hc t => ?_) (fun hc t => ?_))
  · refine g9 (L' := [.ref x0, .int x1, .int x2, .ref x3, .int (x4 + 1)]) c_16_78 rfl k_1 rfl ?_
    refine g38 c_16_81 rfl ?_
    exact t
  · refine g3 c_16_53 rfl ?_
    refine g5 c_16_54 rfl ?_
    refine g3 c_16_55 rfl ?_
    refine g1 c_16_57 k_2 ?_
    exact g80 (As := [.int x4, .int 2]) (rest := [.int x2]) c_16_58 rfl rfl (Nat.le_of_ble_eq_true rfl) (Nat.le_of_ble_eq_true rfl) t.1 t.2
set_option maxRecDepth 20000 in
theorem t_16_61 {d : Nat} {h : ab_H} {Q : Option Value → ab_H → Prop} {x0 : Nat} {x1 : Int32} {x2 : Int32} {x3 : Nat} {x4 : Int32} {s0 : Int32} {s1 : Int32} (t : if s1 < s0 then (wq (d + 1) 16 21 [.ref x0, .int x1, .int x2, .ref x3, .int (x4 + 1)] [] h Q) else (ab_ok h x3 104 = true ∧ wm d 55 [.ref x3, .int x4, .int 3] h (fun r9 h9 => wq (d + 1) 16 71 [.ref x0, .int x1, .int x2, .ref x3, .int x4] (r9.toList ++ []) h9 Q))) : wq (d + 1) 16 61 [.ref x0, .int x1, .int x2, .ref x3, .int x4] [.int s1, .int s0] h Q := by
  refine gcm c_16_61 (gbr t rfl rfl (fun hc t => ?_) (fun hc t => ?_))
  · refine g9 (L' := [.ref x0, .int x1, .int x2, .ref x3, .int (x4 + 1)]) c_16_78 rfl k_1 rfl ?_
    refine g38 c_16_81 rfl ?_
    exact t
  · refine g5 c_16_64 rfl ?_
    refine g3 c_16_65 rfl ?_
    refine g1 c_16_67 k_3 ?_
    exact g80 (As := [.int x4, .int 3]) (rest := []) c_16_68 rfl rfl (Nat.le_of_ble_eq_true rfl) (Nat.le_of_ble_eq_true rfl) t.1 t.2
set_option maxRecDepth 20000 in
theorem t_16_71 {d : Nat} {h : ab_H} {Q : Option Value → ab_H → Prop} {x0 : Nat} {x1 : Int32} {x2 : Int32} {x3 : Nat} {x4 : Int32} {s0 : Int32} (t : 7 ≤ d ∧ Q (some (.int (if (s0 - x1) < (0 : Int32) then 0 else (s0 - x1)))) h) : wq d 16 71 [.ref x0, .int x1, .int x2, .ref x3, .int x4] [.int s0] h Q := by
  refine g3 c_16_71 rfl ?_
  refine g11 c_16_72 ?_
  refine g1 c_16_73 k_0 ?_
  obtain ⟨h7, t⟩ := t
  refine g73 c_16_74 (Nat.le_of_ble_eq_true rfl) h7 ?_
  exact g90 c_16_77 t
-- method 17: MillTown$Law.forceOfPay()I
theorem c_17_0 : pg_cd 17 0 = (5, 1, 0, 0, 0) := by decide +kernel
theorem c_17_1 : pg_cd 17 1 = (43, 1, 28, 5, 0) := by decide +kernel
theorem c_17_4 : pg_cd 17 4 = (90, 0, 0, 0, 0) := by decide +kernel
theorem mx_17 : pg_mx 17 = 1 := by decide +kernel
theorem m_17 {d : Nat} {h : ab_H} {Q : Option Value → ab_H → Prop} {x0 : Nat} (t : wq d 17 0 [.ref x0] [] h Q) : wm d 17 [.ref x0] h Q := by
  unfold wm
  rw [mx_17]
  exact t
set_option maxRecDepth 20000 in
theorem t_17_0 {d : Nat} {h : ab_H} {Q : Option Value → ab_H → Prop} {x0 : Nat} (t : ab_ok h x0 101 = true ∧ Q (some (.int (ab_i h x0 5))) h) : wq d 17 0 [.ref x0] [] h Q := by
  refine g5 c_17_0 rfl ?_
  obtain ⟨ho, t⟩ := t
  refine g43 c_17_1 ho ?_
  exact g90 c_17_4 t
-- method 18: MillTown$Law.countedClause(I)I
theorem c_18_0 : pg_cd 18 0 = (3, 1, 0, 1, 0) := by decide +kernel
theorem c_18_1 : pg_cd 18 1 = (36, 3, 0, 2, 29) := by decide +kernel
theorem c_18_4 : pg_cd 18 4 = (3, 1, 0, 1, 0) := by decide +kernel
theorem c_18_5 : pg_cd 18 5 = (5, 1, 0, 0, 0) := by decide +kernel
theorem c_18_6 : pg_cd 18 6 = (43, 1, 84, 4, 0) := by decide +kernel
theorem c_18_9 : pg_cd 18 9 = (37, 3, 0, 3, 21) := by decide +kernel
theorem c_18_12 : pg_cd 18 12 = (3, 1, 0, 1, 0) := by decide +kernel
theorem c_18_13 : pg_cd 18 13 = (5, 1, 0, 0, 0) := by decide +kernel
theorem c_18_14 : pg_cd 18 14 = (45, 1, 24, 3, 0) := by decide +kernel
theorem c_18_17 : pg_cd 18 17 = (58, 0, 0, 0, 0) := by decide +kernel
theorem c_18_18 : pg_cd 18 18 = (37, 3, 0, 3, 12) := by decide +kernel
theorem c_18_21 : pg_cd 18 21 = (5, 1, 0, 0, 0) := by decide +kernel
theorem c_18_22 : pg_cd 18 22 = (45, 1, 24, 3, 0) := by decide +kernel
theorem c_18_25 : pg_cd 18 25 = (3, 1, 0, 1, 0) := by decide +kernel
theorem c_18_26 : pg_cd 18 26 = (50, 1, 0, 0, 0) := by decide +kernel
theorem c_18_27 : pg_cd 18 27 = (38, 3, 0, 0, 4) := by decide +kernel
theorem c_18_30 : pg_cd 18 30 = (1, 1, 0, 0, (-1)) := by decide +kernel
theorem c_18_31 : pg_cd 18 31 = (90, 0, 0, 0, 0) := by decide +kernel
theorem mx_18 : pg_mx 18 = 2 := by decide +kernel
theorem m_18 {d : Nat} {h : ab_H} {Q : Option Value → ab_H → Prop} {x0 : Nat} {x1 : Int32} (t : wq d 18 0 [.ref x0, .int x1] [] h Q) : wm d 18 [.ref x0, .int x1] h Q := by
  unfold wm
  rw [mx_18]
  exact t
set_option maxRecDepth 20000 in
theorem t_18_0 {d : Nat} {h : ab_H} {Q : Option Value → ab_H → Prop} {x0 : Nat} {x1 : Int32} (t : if x1 < 0 then (Q (some (.int (-1))) h) else (ab_ok h x0 101 = true ∧ if (ab_i h x0 4) ≤ x1 then (Q (some (.int (-1))) h) else (ab_ok h x0 101 = true ∧ ∃ j1 : Nat, ab_r h x0 3 = some j1 ∧ ((j1 = 0 ∧ 0 = 0) ∨ ab_ok h j1 0 = true) ∧ if (Int32.ofNat (ab_s h j1).2) ≤ x1 then (Q (some (.int (-1))) h) else (ab_ok h x0 101 = true ∧ ∃ j2 : Nat, ab_r h x0 3 = some j2 ∧ ((j2 = 0 ∨ ab_ok h j2 0 = true) ∧ ab_in x1 (ab_s h j2).2 = true) ∧ Q (some (.int (ab_i h j2 (Int32.toNatClampNeg x1)))) h)))) : wq d 18 0 [.ref x0, .int x1] [] h Q := by
  refine g3 c_18_0 rfl ?_
  refine gif c_18_1 (gbr t rfl rfl (fun hc t => ?_) (fun hc t => ?_))
  · refine g1 c_18_30 k_m1 ?_
    exact g90 c_18_31 t
  · refine g3 c_18_4 rfl ?_
    refine g5 c_18_5 rfl ?_
    obtain ⟨ho, t⟩ := t
    refine g43 c_18_6 ho ?_
    refine gcm c_18_9 (gbr t rfl rfl (fun hc t => ?_) (fun hc t => ?_))
    · refine g1 c_18_30 k_m1 ?_
      exact g90 c_18_31 t
    · refine g3 c_18_12 rfl ?_
      refine g5 c_18_13 rfl ?_
      obtain ⟨ho, j1, hr, t⟩ := t
      refine g45 c_18_14 ho hr ?_
      obtain ⟨ho, t⟩ := t
      refine g58 c_18_17 ho ?_
      refine gcm c_18_18 (gbr t rfl rfl (fun hc t => ?_) (fun hc t => ?_))
      · refine g1 c_18_30 k_m1 ?_
        exact g90 c_18_31 t
      · refine g5 c_18_21 rfl ?_
        obtain ⟨ho, j2, hr, t⟩ := t
        refine g45 c_18_22 ho hr ?_
        refine g3 c_18_25 rfl ?_
        obtain ⟨ho, t⟩ := t
        refine g50 c_18_26 ho ?_
        refine g38 c_18_27 rfl ?_
        exact g90 c_18_31 t
-- method 19: MillTown$Law.payAt(LMillTown$Town;IIII)I
theorem c_19_0 : pg_cd 19 0 = (5, 1, 0, 0, 0) := by decide +kernel
theorem c_19_1 : pg_cd 19 1 = (1, 1, 0, 0, 0) := by decide +kernel
theorem c_19_2 : pg_cd 19 2 = (46, 1, 84, 4, 0) := by decide +kernel
theorem c_19_5 : pg_cd 19 5 = (5, 1, 0, 0, 0) := by decide +kernel
theorem c_19_6 : pg_cd 19 6 = (5, 1, 0, 0, 0) := by decide +kernel
theorem c_19_7 : pg_cd 19 7 = (5, 1, 0, 1, 0) := by decide +kernel
theorem c_19_8 : pg_cd 19 8 = (1, 1, 0, 0, 3) := by decide +kernel
theorem c_19_9 : pg_cd 19 9 = (3, 1, 0, 3, 0) := by decide +kernel
theorem c_19_10 : pg_cd 19 10 = (3, 2, 0, 4, 0) := by decide +kernel
theorem c_19_12 : pg_cd 19 12 = (3, 2, 0, 5, 0) := by decide +kernel
theorem c_19_14 : pg_cd 19 14 = (80, 12, 59, 0, 0) := by decide +kernel
theorem c_19_17 : pg_cd 19 17 = (46, 1, 28, 5, 0) := by decide +kernel
theorem c_19_20 : pg_cd 19 20 = (5, 1, 0, 0, 0) := by decide +kernel
theorem c_19_21 : pg_cd 19 21 = (5, 1, 0, 1, 0) := by decide +kernel
theorem c_19_22 : pg_cd 19 22 = (45, 8, 46, 7, 0) := by decide +kernel
theorem c_19_25 : pg_cd 19 25 = (5, 1, 0, 0, 0) := by decide +kernel
theorem c_19_26 : pg_cd 19 26 = (43, 1, 28, 5, 0) := by decide +kernel
theorem c_19_29 : pg_cd 19 29 = (1, 1, 0, 0, 0) := by decide +kernel
theorem c_19_30 : pg_cd 19 30 = (80, 55, 51, 0, 0) := by decide +kernel
theorem c_19_33 : pg_cd 19 33 = (80, 10, 33, 0, 0) := by decide +kernel
theorem c_19_36 : pg_cd 19 36 = (8, 2, 0, 6, 0) := by decide +kernel
theorem c_19_38 : pg_cd 19 38 = (5, 2, 0, 6, 0) := by decide +kernel
theorem c_19_40 : pg_cd 19 40 = (40, 3, 0, 0, 5) := by decide +kernel
theorem c_19_43 : pg_cd 19 43 = (1, 1, 0, 0, 0) := by decide +kernel
theorem c_19_44 : pg_cd 19 44 = (90, 0, 0, 0, 0) := by decide +kernel
theorem c_19_45 : pg_cd 19 45 = (5, 1, 0, 0, 0) := by decide +kernel
theorem c_19_46 : pg_cd 19 46 = (45, 1, 17, 1, 0) := by decide +kernel
theorem c_19_49 : pg_cd 19 49 = (1, 1, 0, 0, 0) := by decide +kernel
theorem c_19_50 : pg_cd 19 50 = (2, 1, 0, 0, 0) := by decide +kernel
theorem c_19_51 : pg_cd 19 51 = (56, 1, 0, 0, 0) := by decide +kernel
theorem c_19_52 : pg_cd 19 52 = (5, 1, 0, 0, 0) := by decide +kernel
theorem c_19_53 : pg_cd 19 53 = (45, 1, 21, 2, 0) := by decide +kernel
theorem c_19_56 : pg_cd 19 56 = (1, 1, 0, 0, 0) := by decide +kernel
theorem c_19_57 : pg_cd 19 57 = (2, 1, 0, 0, 1) := by decide +kernel
theorem c_19_58 : pg_cd 19 58 = (56, 1, 0, 0, 0) := by decide +kernel
theorem c_19_59 : pg_cd 19 59 = (5, 1, 0, 0, 0) := by decide +kernel
theorem c_19_60 : pg_cd 19 60 = (5, 2, 0, 6, 0) := by decide +kernel
theorem c_19_62 : pg_cd 19 62 = (5, 1, 0, 1, 0) := by decide +kernel
theorem c_19_63 : pg_cd 19 63 = (45, 8, 87, 0, 0) := by decide +kernel
theorem c_19_66 : pg_cd 19 66 = (3, 1, 0, 2, 0) := by decide +kernel
theorem c_19_67 : pg_cd 19 67 = (1, 1, 0, 0, 1) := by decide +kernel
theorem c_19_68 : pg_cd 19 68 = (80, 20, 90, 0, 0) := by decide +kernel
theorem c_19_71 : pg_cd 19 71 = (5, 1, 0, 0, 0) := by decide +kernel
theorem c_19_72 : pg_cd 19 72 = (5, 2, 0, 6, 0) := by decide +kernel
theorem c_19_74 : pg_cd 19 74 = (5, 1, 0, 1, 0) := by decide +kernel
theorem c_19_75 : pg_cd 19 75 = (45, 8, 87, 0, 0) := by decide +kernel
theorem c_19_78 : pg_cd 19 78 = (3, 1, 0, 2, 0) := by decide +kernel
theorem c_19_79 : pg_cd 19 79 = (1, 1, 0, 0, 0) := by decide +kernel
theorem c_19_80 : pg_cd 19 80 = (80, 20, 90, 0, 0) := by decide +kernel
theorem c_19_83 : pg_cd 19 83 = (5, 1, 0, 0, 0) := by decide +kernel
theorem c_19_84 : pg_cd 19 84 = (45, 1, 21, 2, 0) := by decide +kernel
theorem c_19_87 : pg_cd 19 87 = (1, 1, 0, 0, 0) := by decide +kernel
theorem c_19_88 : pg_cd 19 88 = (52, 1, 0, 0, 0) := by decide +kernel
theorem c_19_89 : pg_cd 19 89 = (2, 1, 0, 0, 0) := by decide +kernel
theorem c_19_90 : pg_cd 19 90 = (28, 1, 0, 0, 0) := by decide +kernel
theorem c_19_91 : pg_cd 19 91 = (36, 3, 0, 1, 10) := by decide +kernel
theorem c_19_94 : pg_cd 19 94 = (5, 1, 0, 0, 0) := by decide +kernel
theorem c_19_95 : pg_cd 19 95 = (1, 1, 0, 0, 0) := by decide +kernel
theorem c_19_96 : pg_cd 19 96 = (46, 1, 84, 4, 0) := by decide +kernel
theorem c_19_99 : pg_cd 19 99 = (1, 1, 0, 0, 0) := by decide +kernel
theorem c_19_100 : pg_cd 19 100 = (90, 0, 0, 0, 0) := by decide +kernel
theorem c_19_101 : pg_cd 19 101 = (5, 1, 0, 0, 0) := by decide +kernel
theorem c_19_102 : pg_cd 19 102 = (45, 1, 17, 1, 0) := by decide +kernel
theorem c_19_105 : pg_cd 19 105 = (1, 1, 0, 0, 0) := by decide +kernel
theorem c_19_106 : pg_cd 19 106 = (52, 1, 0, 0, 0) := by decide +kernel
theorem c_19_107 : pg_cd 19 107 = (5, 1, 0, 0, 0) := by decide +kernel
theorem c_19_108 : pg_cd 19 108 = (45, 1, 21, 2, 0) := by decide +kernel
theorem c_19_111 : pg_cd 19 111 = (1, 1, 0, 0, 0) := by decide +kernel
theorem c_19_112 : pg_cd 19 112 = (52, 1, 0, 0, 0) := by decide +kernel
theorem c_19_113 : pg_cd 19 113 = (26, 1, 0, 0, 0) := by decide +kernel
theorem c_19_114 : pg_cd 19 114 = (5, 2, 0, 6, 0) := by decide +kernel
theorem c_19_116 : pg_cd 19 116 = (1, 2, 0, 0, 6) := by decide +kernel
theorem c_19_118 : pg_cd 19 118 = (80, 85, 75, 0, 0) := by decide +kernel
theorem c_19_121 : pg_cd 19 121 = (31, 1, 0, 0, 0) := by decide +kernel
theorem c_19_122 : pg_cd 19 122 = (76, 0, 93, 0, 0) := by decide +kernel
theorem c_19_125 : pg_cd 19 125 = (7, 2, 0, 7, 0) := by decide +kernel
theorem c_19_127 : pg_cd 19 127 = (4, 2, 0, 7, 0) := by decide +kernel
theorem c_19_129 : pg_cd 19 129 = (2, 3, 96, 0, 100000) := by decide +kernel
theorem c_19_132 : pg_cd 19 132 = (77, 0, 98, 0, 0) := by decide +kernel
theorem c_19_135 : pg_cd 19 135 = (30, 1, 0, 0, 0) := by decide +kernel
theorem c_19_136 : pg_cd 19 136 = (90, 0, 0, 0, 0) := by decide +kernel
theorem mx_19 : pg_mx 19 = 9 := by decide +kernel
theorem m_19 {d : Nat} {h : ab_H} {Q : Option Value → ab_H → Prop} {x0 : Nat} {x1 : Nat} {x2 : Int32} {x3 : Int32} {x4 : Int32} {x5 : Int32} (t : wq d 19 0 [.ref x0, .ref x1, .int x2, .int x3, .int x4, .int x5, .retAddr 0, .retAddr 0, .retAddr 0] [] h Q) : wm d 19 [.ref x0, .ref x1, .int x2, .int x3, .int x4, .int x5] h Q := by
  unfold wm
  rw [mx_19]
  exact t
set_option maxRecDepth 20000 in
theorem t_19_0 {d : Nat} {h : ab_H} {Q : Option Value → ab_H → Prop} {x0 : Nat} {x1 : Nat} {x2 : Int32} {x3 : Int32} {x4 : Int32} {x5 : Int32} (t : ab_ok h x0 101 = true ∧ ∀ h1 : ab_H, h1 = ab_pi h x0 4 0 → ab_ok h1 x0 101 = true ∧ wm d 12 [.ref x0, .ref x1, .int 3, .int x3, .int x4, .int x5] h1 (fun r9 h9 => wq (d + 1) 19 17 [.ref x0, .ref x1, .int x2, .int x3, .int x4, .int x5, .retAddr 0, .retAddr 0, .retAddr 0] (r9.toList ++ [.ref x0]) h9 Q)) : wq (d + 1) 19 0 [.ref x0, .ref x1, .int x2, .int x3, .int x4, .int x5, .retAddr 0, .retAddr 0, .retAddr 0] [] h Q := by
  refine g5 c_19_0 rfl ?_
  refine g1 c_19_1 k_0 ?_
  obtain ⟨ho, t⟩ := t
  refine g46 c_19_2 ho (fun h1 eh1 => ?_)
  have t := t h1 eh1
  refine g5 c_19_5 rfl ?_
  refine g5 c_19_6 rfl ?_
  refine g5 c_19_7 rfl ?_
  refine g1 c_19_8 k_3 ?_
  refine g3 c_19_9 rfl ?_
  refine g3 c_19_10 rfl ?_
  refine g3 c_19_12 rfl ?_
  exact g80 (As := [.ref x1, .int 3, .int x3, .int x4, .int x5]) (rest := [.ref x0]) c_19_14 rfl rfl (Nat.le_of_ble_eq_true rfl) (Nat.le_of_ble_eq_true rfl) t.1 t.2
set_option maxRecDepth 20000 in
theorem t_19_17 {d : Nat} {h : ab_H} {Q : Option Value → ab_H → Prop} {x0 : Nat} {x1 : Nat} {x2 : Int32} {x3 : Int32} {x4 : Int32} {x5 : Int32} {s0 : Nat} {s1 : Int32} (t : ab_ok h s0 101 = true ∧ ∀ h1 : ab_H, h1 = ab_pi h s0 5 s1 → ab_ok h1 x1 108 = true ∧ ∃ j2 : Nat, ab_r h1 x1 7 = some j2 ∧ ab_ok h1 x0 101 = true ∧ ab_ok h1 j2 104 = true ∧ wm d 55 [.ref j2, .int (ab_i h1 x0 5), .int 0] h1 (fun r9 h9 => wq (d + 1) 19 33 [.ref x0, .ref x1, .int x2, .int x3, .int x4, .int x5, .retAddr 0, .retAddr 0, .retAddr 0] (r9.toList ++ [.ref x0]) h9 Q)) : wq (d + 1) 19 17 [.ref x0, .ref x1, .int x2, .int x3, .int x4, .int x5, .retAddr 0, .retAddr 0, .retAddr 0] [.int s1, .ref s0] h Q := by
  obtain ⟨ho, t⟩ := t
  refine g46 c_19_17 ho (fun h1 eh1 => ?_)
  have t := t h1 eh1
  refine g5 c_19_20 rfl ?_
  refine g5 c_19_21 rfl ?_
  obtain ⟨ho, j2, hr, t⟩ := t
  refine g45 c_19_22 ho hr ?_
  refine g5 c_19_25 rfl ?_
  obtain ⟨ho, t⟩ := t
  refine g43 c_19_26 ho ?_
  refine g1 c_19_29 k_0 ?_
  exact g80 (As := [.int (ab_i h1 x0 5), .int 0]) (rest := [.ref x0]) c_19_30 rfl rfl (Nat.le_of_ble_eq_true rfl) (Nat.le_of_ble_eq_true rfl) t.1 t.2
set_option maxRecDepth 20000 in
theorem t_19_33 {d : Nat} {h : ab_H} {Q : Option Value → ab_H → Prop} {x0 : Nat} {x1 : Nat} {x2 : Int32} {x3 : Int32} {x4 : Int32} {x5 : Int32} {s0 : Nat} {s1 : Int32} (t : ab_ok h s0 101 = true ∧ wm d 10 [.ref s0, .int s1] h (fun r9 h9 => wq (d + 1) 19 36 [.ref x0, .ref x1, .int x2, .int x3, .int x4, .int x5, .retAddr 0, .retAddr 0, .retAddr 0] (r9.toList ++ []) h9 Q)) : wq (d + 1) 19 33 [.ref x0, .ref x1, .int x2, .int x3, .int x4, .int x5, .retAddr 0, .retAddr 0, .retAddr 0] [.int s1, .ref s0] h Q := by
  exact g80 (As := [.int s1]) (rest := []) c_19_33 rfl rfl (Nat.le_of_ble_eq_true rfl) (Nat.le_of_ble_eq_true rfl) t.1 t.2
set_option maxRecDepth 20000 in
theorem t_19_36 {d : Nat} {h : ab_H} {Q : Option Value → ab_H → Prop} {x0 : Nat} {x1 : Nat} {x2 : Int32} {x3 : Int32} {x4 : Int32} {x5 : Int32} {s0 : Nat} (t : ab_ok h x0 101 = true ∧ ∃ j1 : Nat, ab_r h x0 1 = some j1 ∧ (ab_ok h j1 1 = true ∧ ab_in (0 : Int32) (ab_s h j1).2 = true) ∧ ∀ h2 : ab_H, h2 = ab_pl h j1 (Int32.toNatClampNeg (0 : Int32)) 0 → ab_ok h2 x0 101 = true ∧ ∃ j3 : Nat, ab_r h2 x0 2 = some j3 ∧ (ab_ok h2 j3 1 = true ∧ ab_in (0 : Int32) (ab_s h2 j3).2 = true) ∧ ∀ h4 : ab_H, h4 = ab_pl h2 j3 (Int32.toNatClampNeg (0 : Int32)) 1 → ab_ok h4 x1 108 = true ∧ ∃ j5 : Nat, ab_r h4 x1 0 = some j5 ∧ ab_ok h4 x0 101 = true ∧ wm d 20 [.ref x0, .ref s0, .ref j5, .int x2, .int 1] h4 (fun r9 h9 => wq (d + 1) 19 71 [.ref x0, .ref x1, .int x2, .int x3, .int x4, .int x5, .ref s0, .retAddr 0, .retAddr 0] (r9.toList ++ []) h9 Q)) : wq (d + 1) 19 36 [.ref x0, .ref x1, .int x2, .int x3, .int x4, .int x5, .retAddr 0, .retAddr 0, .retAddr 0] [.ref s0] h Q := by
  refine g8 (L' := [.ref x0, .ref x1, .int x2, .int x3, .int x4, .int x5, .ref s0, .retAddr 0, .retAddr 0]) c_19_36 rfl ?_
  refine g5 c_19_38 rfl ?_
  refine g40a c_19_40 rfl ?_
  refine g5 c_19_45 rfl ?_
  obtain ⟨ho, j1, hr, t⟩ := t
  refine g45 c_19_46 ho hr ?_
  refine g1 c_19_49 k_0 ?_
  refine g2 c_19_50 kl_0 ?_
  obtain ⟨ho, t⟩ := t
  refine g56 c_19_51 ho (fun h2 eh2 => ?_)
  have t := t h2 eh2
  refine g5 c_19_52 rfl ?_
  obtain ⟨ho, j3, hr, t⟩ := t
  refine g45 c_19_53 ho hr ?_
  refine g1 c_19_56 k_0 ?_
  refine g2 c_19_57 kl_1 ?_
  obtain ⟨ho, t⟩ := t
  refine g56 c_19_58 ho (fun h4 eh4 => ?_)
  have t := t h4 eh4
  refine g5 c_19_59 rfl ?_
  refine g5 c_19_60 rfl ?_
  refine g5 c_19_62 rfl ?_
  obtain ⟨ho, j5, hr, t⟩ := t
  refine g45 c_19_63 ho hr ?_
  refine g3 c_19_66 rfl ?_
  refine g1 c_19_67 k_1 ?_
  exact g80 (As := [.ref s0, .ref j5, .int x2, .int 1]) (rest := []) c_19_68 rfl rfl (Nat.le_of_ble_eq_true rfl) (Nat.le_of_ble_eq_true rfl) t.1 t.2
set_option maxRecDepth 20000 in
theorem t_19_71 {d : Nat} {h : ab_H} {Q : Option Value → ab_H → Prop} {x0 : Nat} {x1 : Nat} {x2 : Int32} {x3 : Int32} {x4 : Int32} {x5 : Int32} {x6 : Nat} (t : ab_ok h x1 108 = true ∧ ∃ j1 : Nat, ab_r h x1 0 = some j1 ∧ ab_ok h x0 101 = true ∧ wm d 20 [.ref x0, .ref x6, .ref j1, .int x2, .int 0] h (fun r9 h9 => wq (d + 1) 19 83 [.ref x0, .ref x1, .int x2, .int x3, .int x4, .int x5, .ref x6, .retAddr 0, .retAddr 0] (r9.toList ++ []) h9 Q)) : wq (d + 1) 19 71 [.ref x0, .ref x1, .int x2, .int x3, .int x4, .int x5, .ref x6, .retAddr 0, .retAddr 0] [] h Q := by
  refine g5 c_19_71 rfl ?_
  refine g5 c_19_72 rfl ?_
  refine g5 c_19_74 rfl ?_
  obtain ⟨ho, j1, hr, t⟩ := t
  refine g45 c_19_75 ho hr ?_
  refine g3 c_19_78 rfl ?_
  refine g1 c_19_79 k_0 ?_
  exact g80 (As := [.ref x6, .ref j1, .int x2, .int 0]) (rest := []) c_19_80 rfl rfl (Nat.le_of_ble_eq_true rfl) (Nat.le_of_ble_eq_true rfl) t.1 t.2
set_option maxRecDepth 20000 in
theorem t_19_83 {d : Nat} {h : ab_H} {Q : Option Value → ab_H → Prop} {x0 : Nat} {x1 : Nat} {x2 : Int32} {x3 : Int32} {x4 : Int32} {x5 : Int32} {x6 : Nat} (t : ab_ok h x0 101 = true ∧ ∃ j1 : Nat, ab_r h x0 2 = some j1 ∧ (ab_ok h j1 1 = true ∧ ab_in (0 : Int32) (ab_s h j1).2 = true) ∧ if (lg_cmp (ab_l h j1 (Int32.toNatClampNeg (0 : Int32))) 0) = 0 then (ab_ok h x0 101 = true ∧ ∀ h2 : ab_H, h2 = ab_pi h x0 4 0 → Q (some (.int 0)) h2) else (ab_ok h x0 101 = true ∧ ∃ j3 : Nat, ab_r h x0 1 = some j3 ∧ (ab_ok h j3 1 = true ∧ ab_in (0 : Int32) (ab_s h j3).2 = true) ∧ ab_ok h x0 101 = true ∧ ∃ j4 : Nat, ab_r h x0 2 = some j4 ∧ (ab_ok h j4 1 = true ∧ ab_in (0 : Int32) (ab_s h j4).2 = true) ∧ ¬ (ab_l h j4 (Int32.toNatClampNeg (0 : Int32)) : Int64) = 0 ∧ ab_ok h x6 107 = true ∧ wm d 85 [.ref x6, .int 6] h (fun r9 h9 => wq (d + 1) 19 121 [.ref x0, .ref x1, .int x2, .int x3, .int x4, .int x5, .ref x6, .retAddr 0, .retAddr 0] (r9.toList ++ [.long ((ab_l h j3 (Int32.toNatClampNeg (0 : Int32))) / (ab_l h j4 (Int32.toNatClampNeg (0 : Int32))))]) h9 Q))) : wq (d + 1) 19 83 [.ref x0, .ref x1, .int x2, .int x3, .int x4, .int x5, .ref x6, .retAddr 0, .retAddr 0] [] h Q := by
  refine g5 c_19_83 rfl ?_
  obtain ⟨ho, j1, hr, t⟩ := t
  refine g45 c_19_84 ho hr ?_
  refine g1 c_19_87 k_0 ?_
  obtain ⟨ho, t⟩ := t
  refine g52 c_19_88 ho ?_
  refine g2 c_19_89 kl_0 ?_
  refine g28 c_19_90 ?_
  refine gif c_19_91 (gbn t (ab_c1 _ _) rfl (fun hc t => ?_) (fun hc t => ?_))
  · refine g5 c_19_94 rfl ?_
    refine g1 c_19_95 k_0 ?_
    obtain ⟨ho, t⟩ := t
    refine g46 c_19_96 ho (fun h2 eh2 => ?_)
    have t := t h2 eh2
    refine g1 c_19_99 k_0 ?_
    exact g90 c_19_100 t
  · refine g5 c_19_101 rfl ?_
    obtain ⟨ho, j3, hr, t⟩ := t
    refine g45 c_19_102 ho hr ?_
    refine g1 c_19_105 k_0 ?_
    obtain ⟨ho, t⟩ := t
    refine g52 c_19_106 ho ?_
    refine g5 c_19_107 rfl ?_
    obtain ⟨ho, j4, hr, t⟩ := t
    refine g45 c_19_108 ho hr ?_
    refine g1 c_19_111 k_0 ?_
    obtain ⟨ho, t⟩ := t
    refine g52 c_19_112 ho ?_
    obtain ⟨hy, t⟩ := t
    refine g26 c_19_113 hy ?_
    refine g5 c_19_114 rfl ?_
    refine g1 c_19_116 k_6 ?_
    exact g80 (As := [.int 6]) (rest := [.long ((ab_l h j3 (Int32.toNatClampNeg (0 : Int32))) / (ab_l h j4 (Int32.toNatClampNeg (0 : Int32))))]) c_19_118 rfl rfl (Nat.le_of_ble_eq_true rfl) (Nat.le_of_ble_eq_true rfl) t.1 t.2
set_option maxRecDepth 20000 in
theorem t_19_121 {d : Nat} {h : ab_H} {Q : Option Value → ab_H → Prop} {x0 : Nat} {x1 : Nat} {x2 : Int32} {x3 : Int32} {x4 : Int32} {x5 : Int32} {x6 : Nat} {s0 : Int64} {s1 : Int32} (t : 7 ≤ d ∧ ∀ y1 : Int64, y1 = (if (Int32.toInt64 s1) < s0 then s0 else (Int32.toInt64 s1)) → 7 ≤ d ∧ Q (some (.int (Int64.toInt32 (if 100000 < y1 then 100000 else y1)))) h) : wq d 19 121 [.ref x0, .ref x1, .int x2, .int x3, .int x4, .int x5, .ref x6, .retAddr 0, .retAddr 0] [.int s1, .long s0] h Q := by
  refine g31 c_19_121 ?_
  obtain ⟨h7, t⟩ := t
  refine g76 c_19_122 (Nat.le_of_ble_eq_true rfl) h7 ?_
  refine g7y (Lf := fun y1 => [.ref x0, .ref x1, .int x2, .int x3, .int x4, .int x5, .ref x6, .long y1, .retAddr 0]) c_19_125 (fun _ => rfl) (fun y1 ey1 => ?_)
  have t := t y1 ey1
  refine g4 c_19_127 rfl ?_
  refine g2 c_19_129 kl_100000 ?_
  obtain ⟨h7, t⟩ := t
  refine g77 c_19_132 (Nat.le_of_ble_eq_true rfl) h7 ?_
  refine g30 c_19_135 ?_
  exact g90 c_19_136 t
-- method 20: MillTown$Law.count(LMillTown$Text;LMillTown$Rows;IZ)V
theorem c_20_0 : pg_cd 20 0 = (1, 1, 0, 0, 0) := by decide +kernel
theorem c_20_1 : pg_cd 20 1 = (6, 2, 0, 5, 0) := by decide +kernel
theorem c_20_3 : pg_cd 20 3 = (3, 2, 0, 5, 0) := by decide +kernel
theorem c_20_5 : pg_cd 20 5 = (5, 1, 0, 1, 0) := by decide +kernel
theorem c_20_6 : pg_cd 20 6 = (45, 7, 37, 0, 0) := by decide +kernel
theorem c_20_9 : pg_cd 20 9 = (43, 4, 41, 2, 0) := by decide +kernel
theorem c_20_12 : pg_cd 20 12 = (37, 3, 0, 3, 216) := by decide +kernel
theorem c_20_15 : pg_cd 20 15 = (5, 1, 0, 1, 0) := by decide +kernel
theorem c_20_16 : pg_cd 20 16 = (45, 7, 37, 0, 0) := by decide +kernel
theorem c_20_19 : pg_cd 20 19 = (3, 2, 0, 5, 0) := by decide +kernel
theorem c_20_21 : pg_cd 20 21 = (1, 1, 0, 0, 0) := by decide +kernel
theorem c_20_22 : pg_cd 20 22 = (80, 55, 51, 0, 0) := by decide +kernel
theorem c_20_25 : pg_cd 20 25 = (6, 2, 0, 6, 0) := by decide +kernel
theorem c_20_27 : pg_cd 20 27 = (5, 1, 0, 1, 0) := by decide +kernel
theorem c_20_28 : pg_cd 20 28 = (45, 7, 37, 0, 0) := by decide +kernel
theorem c_20_31 : pg_cd 20 31 = (3, 2, 0, 5, 0) := by decide +kernel
theorem c_20_33 : pg_cd 20 33 = (1, 2, 0, 0, 6) := by decide +kernel
theorem c_20_35 : pg_cd 20 35 = (80, 55, 51, 0, 0) := by decide +kernel
theorem c_20_38 : pg_cd 20 38 = (6, 2, 0, 7, 0) := by decide +kernel
theorem c_20_40 : pg_cd 20 40 = (3, 2, 0, 4, 0) := by decide +kernel
theorem c_20_42 : pg_cd 20 42 = (36, 3, 0, 0, 13) := by decide +kernel
theorem c_20_45 : pg_cd 20 45 = (3, 2, 0, 6, 0) := by decide +kernel
theorem c_20_47 : pg_cd 20 47 = (1, 1, 0, 0, 3) := by decide +kernel
theorem c_20_48 : pg_cd 20 48 = (37, 3, 0, 1, 7) := by decide +kernel
theorem c_20_51 : pg_cd 20 51 = (1, 1, 0, 0, 1) := by decide +kernel
theorem c_20_52 : pg_cd 20 52 = (38, 3, 0, 0, 4) := by decide +kernel
theorem c_20_55 : pg_cd 20 55 = (1, 1, 0, 0, 0) := by decide +kernel
theorem c_20_56 : pg_cd 20 56 = (6, 2, 0, 8, 0) := by decide +kernel
theorem c_20_58 : pg_cd 20 58 = (3, 2, 0, 4, 0) := by decide +kernel
theorem c_20_60 : pg_cd 20 60 = (36, 3, 0, 1, 41) := by decide +kernel
theorem c_20_63 : pg_cd 20 63 = (3, 2, 0, 6, 0) := by decide +kernel
theorem c_20_65 : pg_cd 20 65 = (1, 1, 0, 0, 4) := by decide +kernel
theorem c_20_66 : pg_cd 20 66 = (37, 3, 0, 1, 35) := by decide +kernel
theorem c_20_69 : pg_cd 20 69 = (5, 1, 0, 2, 0) := by decide +kernel
theorem c_20_70 : pg_cd 20 70 = (3, 1, 0, 3, 0) := by decide +kernel
theorem c_20_71 : pg_cd 20 71 = (1, 1, 0, 0, 4) := by decide +kernel
theorem c_20_72 : pg_cd 20 72 = (80, 55, 51, 0, 0) := by decide +kernel
theorem c_20_75 : pg_cd 20 75 = (5, 1, 0, 1, 0) := by decide +kernel
theorem c_20_76 : pg_cd 20 76 = (45, 7, 37, 0, 0) := by decide +kernel
theorem c_20_79 : pg_cd 20 79 = (3, 2, 0, 5, 0) := by decide +kernel
theorem c_20_81 : pg_cd 20 81 = (1, 1, 0, 0, 1) := by decide +kernel
theorem c_20_82 : pg_cd 20 82 = (80, 55, 51, 0, 0) := by decide +kernel
theorem c_20_85 : pg_cd 20 85 = (20, 1, 0, 0, 0) := by decide +kernel
theorem c_20_86 : pg_cd 20 86 = (1, 1, 0, 0, 1) := by decide +kernel
theorem c_20_87 : pg_cd 20 87 = (13, 1, 0, 0, 0) := by decide +kernel
theorem c_20_88 : pg_cd 20 88 = (36, 3, 0, 0, 7) := by decide +kernel
theorem c_20_91 : pg_cd 20 91 = (1, 1, 0, 0, 1) := by decide +kernel
theorem c_20_92 : pg_cd 20 92 = (38, 3, 0, 0, 4) := by decide +kernel
theorem c_20_95 : pg_cd 20 95 = (1, 1, 0, 0, 0) := by decide +kernel
theorem c_20_96 : pg_cd 20 96 = (6, 2, 0, 8, 0) := by decide +kernel
theorem c_20_98 : pg_cd 20 98 = (38, 3, 0, 0, 51) := by decide +kernel
theorem c_20_101 : pg_cd 20 101 = (3, 2, 0, 4, 0) := by decide +kernel
theorem c_20_103 : pg_cd 20 103 = (36, 3, 0, 1, 46) := by decide +kernel
theorem c_20_106 : pg_cd 20 106 = (3, 2, 0, 6, 0) := by decide +kernel
theorem c_20_108 : pg_cd 20 108 = (1, 1, 0, 0, 5) := by decide +kernel
theorem c_20_109 : pg_cd 20 109 = (37, 3, 0, 1, 40) := by decide +kernel
theorem c_20_112 : pg_cd 20 112 = (5, 1, 0, 0, 0) := by decide +kernel
theorem c_20_113 : pg_cd 20 113 = (5, 1, 0, 1, 0) := by decide +kernel
theorem c_20_114 : pg_cd 20 114 = (5, 1, 0, 1, 0) := by decide +kernel
theorem c_20_115 : pg_cd 20 115 = (45, 7, 37, 0, 0) := by decide +kernel
theorem c_20_118 : pg_cd 20 118 = (3, 2, 0, 5, 0) := by decide +kernel
theorem c_20_120 : pg_cd 20 120 = (1, 1, 0, 0, 5) := by decide +kernel
theorem c_20_121 : pg_cd 20 121 = (80, 55, 51, 0, 0) := by decide +kernel
theorem c_20_124 : pg_cd 20 124 = (3, 2, 0, 7, 0) := by decide +kernel
theorem c_20_126 : pg_cd 20 126 = (5, 1, 0, 2, 0) := by decide +kernel
theorem c_20_127 : pg_cd 20 127 = (3, 1, 0, 3, 0) := by decide +kernel
theorem c_20_128 : pg_cd 20 128 = (80, 21, 101, 0, 0) := by decide +kernel
theorem c_20_131 : pg_cd 20 131 = (5, 1, 0, 0, 0) := by decide +kernel
theorem c_20_132 : pg_cd 20 132 = (45, 1, 17, 1, 0) := by decide +kernel
theorem c_20_135 : pg_cd 20 135 = (1, 1, 0, 0, 1) := by decide +kernel
theorem c_20_136 : pg_cd 20 136 = (52, 1, 0, 0, 0) := by decide +kernel
theorem c_20_137 : pg_cd 20 137 = (2, 1, 0, 0, 0) := by decide +kernel
theorem c_20_138 : pg_cd 20 138 = (28, 1, 0, 0, 0) := by decide +kernel
theorem c_20_139 : pg_cd 20 139 = (36, 3, 0, 0, 7) := by decide +kernel
theorem c_20_142 : pg_cd 20 142 = (1, 1, 0, 0, 1) := by decide +kernel
theorem c_20_143 : pg_cd 20 143 = (38, 3, 0, 0, 4) := by decide +kernel
theorem c_20_146 : pg_cd 20 146 = (1, 1, 0, 0, 0) := by decide +kernel
theorem c_20_147 : pg_cd 20 147 = (6, 2, 0, 8, 0) := by decide +kernel
theorem c_20_149 : pg_cd 20 149 = (3, 2, 0, 8, 0) := by decide +kernel
theorem c_20_151 : pg_cd 20 151 = (36, 3, 0, 0, 71) := by decide +kernel
theorem c_20_154 : pg_cd 20 154 = (5, 1, 0, 0, 0) := by decide +kernel
theorem c_20_155 : pg_cd 20 155 = (43, 1, 84, 4, 0) := by decide +kernel
theorem c_20_158 : pg_cd 20 158 = (5, 1, 0, 0, 0) := by decide +kernel
theorem c_20_159 : pg_cd 20 159 = (45, 1, 24, 3, 0) := by decide +kernel
theorem c_20_162 : pg_cd 20 162 = (58, 0, 0, 0, 0) := by decide +kernel
theorem c_20_163 : pg_cd 20 163 = (37, 3, 0, 3, 59) := by decide +kernel
theorem c_20_166 : pg_cd 20 166 = (5, 1, 0, 0, 0) := by decide +kernel
theorem c_20_167 : pg_cd 20 167 = (5, 1, 0, 1, 0) := by decide +kernel
theorem c_20_168 : pg_cd 20 168 = (3, 2, 0, 7, 0) := by decide +kernel
theorem c_20_170 : pg_cd 20 170 = (5, 1, 0, 1, 0) := by decide +kernel
theorem c_20_171 : pg_cd 20 171 = (45, 7, 37, 0, 0) := by decide +kernel
theorem c_20_174 : pg_cd 20 174 = (3, 2, 0, 5, 0) := by decide +kernel
theorem c_20_176 : pg_cd 20 176 = (1, 2, 0, 0, 7) := by decide +kernel
theorem c_20_178 : pg_cd 20 178 = (80, 55, 51, 0, 0) := by decide +kernel
theorem c_20_181 : pg_cd 20 181 = (5, 1, 0, 2, 0) := by decide +kernel
theorem c_20_182 : pg_cd 20 182 = (3, 1, 0, 3, 0) := by decide +kernel
theorem c_20_183 : pg_cd 20 183 = (80, 21, 101, 0, 0) := by decide +kernel
theorem c_20_186 : pg_cd 20 186 = (5, 1, 0, 0, 0) := by decide +kernel
theorem c_20_187 : pg_cd 20 187 = (5, 1, 0, 1, 0) := by decide +kernel
theorem c_20_188 : pg_cd 20 188 = (45, 7, 37, 0, 0) := by decide +kernel
theorem c_20_191 : pg_cd 20 191 = (3, 2, 0, 5, 0) := by decide +kernel
theorem c_20_193 : pg_cd 20 193 = (1, 1, 0, 0, 4) := by decide +kernel
theorem c_20_194 : pg_cd 20 194 = (80, 55, 51, 0, 0) := by decide +kernel
theorem c_20_197 : pg_cd 20 197 = (1, 1, 0, 0, 0) := by decide +kernel
theorem c_20_198 : pg_cd 20 198 = (80, 22, 105, 0, 0) := by decide +kernel
theorem c_20_201 : pg_cd 20 201 = (5, 1, 0, 0, 0) := by decide +kernel
theorem c_20_202 : pg_cd 20 202 = (45, 1, 24, 3, 0) := by decide +kernel
theorem c_20_205 : pg_cd 20 205 = (5, 1, 0, 0, 0) := by decide +kernel
theorem c_20_206 : pg_cd 20 206 = (43, 1, 84, 4, 0) := by decide +kernel
theorem c_20_209 : pg_cd 20 209 = (3, 2, 0, 5, 0) := by decide +kernel
theorem c_20_211 : pg_cd 20 211 = (54, 1, 0, 0, 0) := by decide +kernel
theorem c_20_212 : pg_cd 20 212 = (5, 1, 0, 0, 0) := by decide +kernel
theorem c_20_213 : pg_cd 20 213 = (33, 1, 0, 0, 0) := by decide +kernel
theorem c_20_214 : pg_cd 20 214 = (43, 1, 84, 4, 0) := by decide +kernel
theorem c_20_217 : pg_cd 20 217 = (1, 1, 0, 0, 1) := by decide +kernel
theorem c_20_218 : pg_cd 20 218 = (10, 1, 0, 0, 0) := by decide +kernel
theorem c_20_219 : pg_cd 20 219 = (46, 1, 84, 4, 0) := by decide +kernel
theorem c_20_222 : pg_cd 20 222 = (9, 3, 0, 5, 1) := by decide +kernel
theorem c_20_225 : pg_cd 20 225 = (38, 3, 0, 0, (-222)) := by decide +kernel
theorem c_20_228 : pg_cd 20 228 = (94, 0, 0, 0, 0) := by decide +kernel
theorem mx_20 : pg_mx 20 = 9 := by decide +kernel
theorem m_20 {d : Nat} {h : ab_H} {Q : Option Value → ab_H → Prop} {x0 : Nat} {x1 : Nat} {x2 : Nat} {x3 : Int32} {x4 : Int32} (t : wq d 20 0 [.ref x0, .ref x1, .ref x2, .int x3, .int x4, .retAddr 0, .retAddr 0, .retAddr 0, .retAddr 0] [] h Q) : wm d 20 [.ref x0, .ref x1, .ref x2, .int x3, .int x4] h Q := by
  unfold wm
  rw [mx_20]
  exact t
set_option maxRecDepth 20000 in
theorem t_20_0 {d : Nat} {h : ab_H} {Q : Option Value → ab_H → Prop} {x0 : Nat} {x1 : Nat} {x2 : Nat} {x3 : Int32} {x4 : Int32} (t : wq d 20 3 [.ref x0, .ref x1, .ref x2, .int x3, .int x4, .int 0, .retAddr 0, .retAddr 0, .retAddr 0] [] h Q) : wq d 20 0 [.ref x0, .ref x1, .ref x2, .int x3, .int x4, .retAddr 0, .retAddr 0, .retAddr 0, .retAddr 0] [] h Q := by
  refine g1 c_20_0 k_0 ?_
  refine g6 (L' := [.ref x0, .ref x1, .ref x2, .int x3, .int x4, .int 0, .retAddr 0, .retAddr 0, .retAddr 0]) c_20_1 rfl ?_
  exact t
set_option maxRecDepth 20000 in
theorem t_20_3 {d : Nat} {h : ab_H} {Q : Option Value → ab_H → Prop} {x0 : Nat} {x1 : Nat} {x2 : Nat} {x3 : Int32} {x4 : Int32} {x5 : Int32} (t : ab_ok h x1 107 = true ∧ ∃ j1 : Nat, ab_r h x1 0 = some j1 ∧ ab_ok h j1 104 = true ∧ if (ab_i h j1 2) ≤ x5 then (Q none h) else (ab_ok h x1 107 = true ∧ ∃ j2 : Nat, ab_r h x1 0 = some j2 ∧ ab_ok h j2 104 = true ∧ wm d 55 [.ref j2, .int x5, .int 0] h (fun r9 h9 => wq (d + 1) 20 25 [.ref x0, .ref x1, .ref x2, .int x3, .int x4, .int x5, .retAddr 0, .retAddr 0, .retAddr 0] (r9.toList ++ []) h9 Q))) : wq (d + 1) 20 3 [.ref x0, .ref x1, .ref x2, .int x3, .int x4, .int x5, .retAddr 0, .retAddr 0, .retAddr 0] [] h Q := by
  refine g3 c_20_3 rfl ?_
  refine g5 c_20_5 rfl ?_
  obtain ⟨ho, j1, hr, t⟩ := t
  refine g45 c_20_6 ho hr ?_
  obtain ⟨ho, t⟩ := t
  refine g43 c_20_9 ho ?_
  refine gcm c_20_12 (gbr t rfl rfl (fun hc t => ?_) (fun hc t => ?_))
  · exact g94 c_20_228 t
  · refine g5 c_20_15 rfl ?_
    obtain ⟨ho, j2, hr, t⟩ := t
    refine g45 c_20_16 ho hr ?_
    refine g3 c_20_19 rfl ?_
    refine g1 c_20_21 k_0 ?_
    exact g80 (As := [.int x5, .int 0]) (rest := []) c_20_22 rfl rfl (Nat.le_of_ble_eq_true rfl) (Nat.le_of_ble_eq_true rfl) t.1 t.2
set_option maxRecDepth 20000 in
theorem t_20_25 {d : Nat} {h : ab_H} {Q : Option Value → ab_H → Prop} {x0 : Nat} {x1 : Nat} {x2 : Nat} {x3 : Int32} {x4 : Int32} {x5 : Int32} {s0 : Int32} (t : ab_ok h x1 107 = true ∧ ∃ j1 : Nat, ab_r h x1 0 = some j1 ∧ ab_ok h j1 104 = true ∧ wm d 55 [.ref j1, .int x5, .int 6] h (fun r9 h9 => wq (d + 1) 20 38 [.ref x0, .ref x1, .ref x2, .int x3, .int x4, .int x5, .int s0, .retAddr 0, .retAddr 0] (r9.toList ++ []) h9 Q)) : wq (d + 1) 20 25 [.ref x0, .ref x1, .ref x2, .int x3, .int x4, .int x5, .retAddr 0, .retAddr 0, .retAddr 0] [.int s0] h Q := by
  refine g6 (L' := [.ref x0, .ref x1, .ref x2, .int x3, .int x4, .int x5, .int s0, .retAddr 0, .retAddr 0]) c_20_25 rfl ?_
  refine g5 c_20_27 rfl ?_
  obtain ⟨ho, j1, hr, t⟩ := t
  refine g45 c_20_28 ho hr ?_
  refine g3 c_20_31 rfl ?_
  refine g1 c_20_33 k_6 ?_
  exact g80 (As := [.int x5, .int 6]) (rest := []) c_20_35 rfl rfl (Nat.le_of_ble_eq_true rfl) (Nat.le_of_ble_eq_true rfl) t.1 t.2
set_option maxRecDepth 20000 in
theorem t_20_38 {d : Nat} {h : ab_H} {Q : Option Value → ab_H → Prop} {x0 : Nat} {x1 : Nat} {x2 : Nat} {x3 : Int32} {x4 : Int32} {x5 : Int32} {x6 : Int32} {s0 : Int32} (t : if x4 = 0 then (wq d 20 55 [.ref x0, .ref x1, .ref x2, .int x3, .int x4, .int x5, .int x6, .int s0, .retAddr 0] [] h Q) else (if x6 = 3 then (wq d 20 56 [.ref x0, .ref x1, .ref x2, .int x3, .int x4, .int x5, .int x6, .int s0, .retAddr 0] [.int 1] h Q) else (wq d 20 55 [.ref x0, .ref x1, .ref x2, .int x3, .int x4, .int x5, .int x6, .int s0, .retAddr 0] [] h Q))) : wq d 20 38 [.ref x0, .ref x1, .ref x2, .int x3, .int x4, .int x5, .int x6, .retAddr 0, .retAddr 0] [.int s0] h Q := by
  refine g6 (L' := [.ref x0, .ref x1, .ref x2, .int x3, .int x4, .int x5, .int x6, .int s0, .retAddr 0]) c_20_38 rfl ?_
  refine g3 c_20_40 rfl ?_
  refine gif c_20_42 (gbr t rfl rfl (fun hc t => ?_) (fun hc t => ?_))
  · exact t
  · refine g3 c_20_45 rfl ?_
    refine g1 c_20_47 k_3 ?_
    refine gcm c_20_48 (gbn t (ab_c1 _ _) rfl (fun hc t => ?_) (fun hc t => ?_))
    · refine g1 c_20_51 k_1 ?_
      refine g38 c_20_52 rfl ?_
      exact t
    · exact t
set_option maxRecDepth 20000 in
theorem t_20_55 {d : Nat} {h : ab_H} {Q : Option Value → ab_H → Prop} {x0 : Nat} {x1 : Nat} {x2 : Nat} {x3 : Int32} {x4 : Int32} {x5 : Int32} {x6 : Int32} {x7 : Int32} (t : wq d 20 56 [.ref x0, .ref x1, .ref x2, .int x3, .int x4, .int x5, .int x6, .int x7, .retAddr 0] [.int 0] h Q) : wq d 20 55 [.ref x0, .ref x1, .ref x2, .int x3, .int x4, .int x5, .int x6, .int x7, .retAddr 0] [] h Q := by
  refine g1 c_20_55 k_0 ?_
  exact t
set_option maxRecDepth 20000 in
theorem t_20_56 {d : Nat} {h : ab_H} {Q : Option Value → ab_H → Prop} {x0 : Nat} {x1 : Nat} {x2 : Nat} {x3 : Int32} {x4 : Int32} {x5 : Int32} {x6 : Int32} {x7 : Int32} {s0 : Int32} (t : if x4 = 0 then (if x6 = 4 then (ab_ok h x2 104 = true ∧ wm d 55 [.ref x2, .int x3, .int 4] h (fun r9 h9 => wq (d + 1) 20 75 [.ref x0, .ref x1, .ref x2, .int x3, .int x4, .int x5, .int x6, .int x7, .int s0] (r9.toList ++ []) h9 Q)) else (wq (d + 1) 20 101 [.ref x0, .ref x1, .ref x2, .int x3, .int x4, .int x5, .int x6, .int x7, .int s0] [] h Q)) else (wq (d + 1) 20 101 [.ref x0, .ref x1, .ref x2, .int x3, .int x4, .int x5, .int x6, .int x7, .int s0] [] h Q)) : wq (d + 1) 20 56 [.ref x0, .ref x1, .ref x2, .int x3, .int x4, .int x5, .int x6, .int x7, .retAddr 0] [.int s0] h Q := by
  refine g6 (L' := [.ref x0, .ref x1, .ref x2, .int x3, .int x4, .int x5, .int x6, .int x7, .int s0]) c_20_56 rfl ?_
  refine g3 c_20_58 rfl ?_
  refine gif c_20_60 (gbn t (ab_c1 _ _) rfl (fun hc t => ?_) (fun hc t => ?_))
  · refine g3 c_20_63 rfl ?_
    refine g1 c_20_65 k_4 ?_
    refine gcm c_20_66 (gbn t (ab_c1 _ _) rfl (fun hc t => ?_) (fun hc t => ?_))
    · refine g5 c_20_69 rfl ?_
      refine g3 c_20_70 rfl ?_
      refine g1 c_20_71 k_4 ?_
      exact g80 (As := [.int x3, .int 4]) (rest := []) c_20_72 rfl rfl (Nat.le_of_ble_eq_true rfl) (Nat.le_of_ble_eq_true rfl) t.1 t.2
    · exact t
  · exact t
set_option maxRecDepth 20000 in
theorem t_20_75 {d : Nat} {h : ab_H} {Q : Option Value → ab_H → Prop} {x0 : Nat} {x1 : Nat} {x2 : Nat} {x3 : Int32} {x4 : Int32} {x5 : Int32} {x6 : Int32} {x7 : Int32} {x8 : Int32} {s0 : Int32} (t : ab_ok h x1 107 = true ∧ ∃ j1 : Nat, ab_r h x1 0 = some j1 ∧ ab_ok h j1 104 = true ∧ wm d 55 [.ref j1, .int x5, .int 1] h (fun r9 h9 => wq (d + 1) 20 85 [.ref x0, .ref x1, .ref x2, .int x3, .int x4, .int x5, .int x6, .int x7, .int x8] (r9.toList ++ [.int s0]) h9 Q)) : wq (d + 1) 20 75 [.ref x0, .ref x1, .ref x2, .int x3, .int x4, .int x5, .int x6, .int x7, .int x8] [.int s0] h Q := by
  refine g5 c_20_75 rfl ?_
  obtain ⟨ho, j1, hr, t⟩ := t
  refine g45 c_20_76 ho hr ?_
  refine g3 c_20_79 rfl ?_
  refine g1 c_20_81 k_1 ?_
  exact g80 (As := [.int x5, .int 1]) (rest := [.int s0]) c_20_82 rfl rfl (Nat.le_of_ble_eq_true rfl) (Nat.le_of_ble_eq_true rfl) t.1 t.2
set_option maxRecDepth 20000 in
theorem t_20_85 {d : Nat} {h : ab_H} {Q : Option Value → ab_H → Prop} {x0 : Nat} {x1 : Nat} {x2 : Nat} {x3 : Int32} {x4 : Int32} {x5 : Int32} {x6 : Int32} {x7 : Int32} {x8 : Int32} {s0 : Int32} {s1 : Int32} (t : if (((Int32.toUInt32 s0 >>> (Int32.toUInt32 s1 &&& Int32.toUInt32 31)).toInt32) &&& 1) = 0 then (wq d 20 96 [.ref x0, .ref x1, .ref x2, .int x3, .int x4, .int x5, .int x6, .int x7, .int x8] [.int 0] h Q) else (wq d 20 96 [.ref x0, .ref x1, .ref x2, .int x3, .int x4, .int x5, .int x6, .int x7, .int x8] [.int 1] h Q)) : wq d 20 85 [.ref x0, .ref x1, .ref x2, .int x3, .int x4, .int x5, .int x6, .int x7, .int x8] [.int s1, .int s0] h Q := by
  refine g20 c_20_85 ?_
  refine g1 c_20_86 k_1 ?_
  refine g13 c_20_87 ?_
  refine gif c_20_88 (gbr t rfl rfl (fun hc t => ?_) (fun hc t => ?_))
  · refine g1 c_20_95 k_0 ?_
    exact t
  · refine g1 c_20_91 k_1 ?_
    refine g38 c_20_92 rfl ?_
    exact t
set_option maxRecDepth 20000 in
theorem t_20_96 {d : Nat} {h : ab_H} {Q : Option Value → ab_H → Prop} {x0 : Nat} {x1 : Nat} {x2 : Nat} {x3 : Int32} {x4 : Int32} {x5 : Int32} {x6 : Int32} {x7 : Int32} {x8 : Int32} {s0 : Int32} (t : wq d 20 149 [.ref x0, .ref x1, .ref x2, .int x3, .int x4, .int x5, .int x6, .int x7, .int s0] [] h Q) : wq d 20 96 [.ref x0, .ref x1, .ref x2, .int x3, .int x4, .int x5, .int x6, .int x7, .int x8] [.int s0] h Q := by
  refine g6 (L' := [.ref x0, .ref x1, .ref x2, .int x3, .int x4, .int x5, .int x6, .int x7, .int s0]) c_20_96 rfl ?_
  refine g38 c_20_98 rfl ?_
  exact t
set_option maxRecDepth 20000 in
theorem t_20_101 {d : Nat} {h : ab_H} {Q : Option Value → ab_H → Prop} {x0 : Nat} {x1 : Nat} {x2 : Nat} {x3 : Int32} {x4 : Int32} {x5 : Int32} {x6 : Int32} {x7 : Int32} {x8 : Int32} (t : if x4 = 0 then (if x6 = 5 then (ab_ok h x1 107 = true ∧ ∃ j1 : Nat, ab_r h x1 0 = some j1 ∧ ab_ok h j1 104 = true ∧ wm d 55 [.ref j1, .int x5, .int 5] h (fun r9 h9 => wq (d + 1) 20 124 [.ref x0, .ref x1, .ref x2, .int x3, .int x4, .int x5, .int x6, .int x7, .int x8] (r9.toList ++ [.ref x1, .ref x0]) h9 Q)) else (wq (d + 1) 20 149 [.ref x0, .ref x1, .ref x2, .int x3, .int x4, .int x5, .int x6, .int x7, .int x8] [] h Q)) else (wq (d + 1) 20 149 [.ref x0, .ref x1, .ref x2, .int x3, .int x4, .int x5, .int x6, .int x7, .int x8] [] h Q)) : wq (d + 1) 20 101 [.ref x0, .ref x1, .ref x2, .int x3, .int x4, .int x5, .int x6, .int x7, .int x8] [] h Q := by
  refine g3 c_20_101 rfl ?_
  refine gif c_20_103 (gbn t (ab_c1 _ _) rfl (fun hc t => ?_) (fun hc t => ?_))
  · refine g3 c_20_106 rfl ?_
    refine g1 c_20_108 k_5 ?_
    refine gcm c_20_109 (gbn t (ab_c1 _ _) rfl (fun hc t => ?_) (fun hc t => ?_))
    · refine g5 c_20_112 rfl ?_
      refine g5 c_20_113 rfl ?_
      refine g5 c_20_114 rfl ?_
      obtain ⟨ho, j1, hr, t⟩ := t
      refine g45 c_20_115 ho hr ?_
      refine g3 c_20_118 rfl ?_
      refine g1 c_20_120 k_5 ?_
      exact g80 (As := [.int x5, .int 5]) (rest := [.ref x1, .ref x0]) c_20_121 rfl rfl (Nat.le_of_ble_eq_true rfl) (Nat.le_of_ble_eq_true rfl) t.1 t.2
    · exact t
  · exact t
set_option maxRecDepth 20000 in
theorem t_20_124 {d : Nat} {h : ab_H} {Q : Option Value → ab_H → Prop} {x0 : Nat} {x1 : Nat} {x2 : Nat} {x3 : Int32} {x4 : Int32} {x5 : Int32} {x6 : Int32} {x7 : Int32} {x8 : Int32} {s0 : Nat} {s1 : Nat} {s2 : Int32} (t : ab_ok h s0 101 = true ∧ wm d 21 [.ref s0, .ref s1, .int s2, .int x7, .ref x2, .int x3] h (fun r9 h9 => wq (d + 1) 20 131 [.ref x0, .ref x1, .ref x2, .int x3, .int x4, .int x5, .int x6, .int x7, .int x8] (r9.toList ++ []) h9 Q)) : wq (d + 1) 20 124 [.ref x0, .ref x1, .ref x2, .int x3, .int x4, .int x5, .int x6, .int x7, .int x8] [.int s2, .ref s1, .ref s0] h Q := by
  refine g3 c_20_124 rfl ?_
  refine g5 c_20_126 rfl ?_
  refine g3 c_20_127 rfl ?_
  exact g80 (As := [.ref s1, .int s2, .int x7, .ref x2, .int x3]) (rest := []) c_20_128 rfl rfl (Nat.le_of_ble_eq_true rfl) (Nat.le_of_ble_eq_true rfl) t.1 t.2
set_option maxRecDepth 20000 in
theorem t_20_131 {d : Nat} {h : ab_H} {Q : Option Value → ab_H → Prop} {x0 : Nat} {x1 : Nat} {x2 : Nat} {x3 : Int32} {x4 : Int32} {x5 : Int32} {x6 : Int32} {x7 : Int32} {x8 : Int32} (t : ab_ok h x0 101 = true ∧ ∃ j1 : Nat, ab_r h x0 1 = some j1 ∧ (ab_ok h j1 1 = true ∧ ab_in (1 : Int32) (ab_s h j1).2 = true) ∧ if (lg_cmp (ab_l h j1 (Int32.toNatClampNeg (1 : Int32))) 0) = 0 then (wq d 20 147 [.ref x0, .ref x1, .ref x2, .int x3, .int x4, .int x5, .int x6, .int x7, .int x8] [.int 0] h Q) else (wq d 20 147 [.ref x0, .ref x1, .ref x2, .int x3, .int x4, .int x5, .int x6, .int x7, .int x8] [.int 1] h Q)) : wq d 20 131 [.ref x0, .ref x1, .ref x2, .int x3, .int x4, .int x5, .int x6, .int x7, .int x8] [] h Q := by
  refine g5 c_20_131 rfl ?_
  obtain ⟨ho, j1, hr, t⟩ := t
  refine g45 c_20_132 ho hr ?_
  refine g1 c_20_135 k_1 ?_
  obtain ⟨ho, t⟩ := t
  refine g52 c_20_136 ho ?_
  refine g2 c_20_137 kl_0 ?_
  refine g28 c_20_138 ?_
  refine gif c_20_139 (gbr t rfl rfl (fun hc t => ?_) (fun hc t => ?_))
  · refine g1 c_20_146 k_0 ?_
    exact t
  · refine g1 c_20_142 k_1 ?_
    refine g38 c_20_143 rfl ?_
    exact t
set_option maxRecDepth 20000 in
theorem t_20_147 {d : Nat} {h : ab_H} {Q : Option Value → ab_H → Prop} {x0 : Nat} {x1 : Nat} {x2 : Nat} {x3 : Int32} {x4 : Int32} {x5 : Int32} {x6 : Int32} {x7 : Int32} {x8 : Int32} {s0 : Int32} (t : wq d 20 149 [.ref x0, .ref x1, .ref x2, .int x3, .int x4, .int x5, .int x6, .int x7, .int s0] [] h Q) : wq d 20 147 [.ref x0, .ref x1, .ref x2, .int x3, .int x4, .int x5, .int x6, .int x7, .int x8] [.int s0] h Q := by
  refine g6 (L' := [.ref x0, .ref x1, .ref x2, .int x3, .int x4, .int x5, .int x6, .int x7, .int s0]) c_20_147 rfl ?_
  exact t
set_option maxRecDepth 20000 in
theorem t_20_149 {d : Nat} {h : ab_H} {Q : Option Value → ab_H → Prop} {x0 : Nat} {x1 : Nat} {x2 : Nat} {x3 : Int32} {x4 : Int32} {x5 : Int32} {x6 : Int32} {x7 : Int32} {x8 : Int32} (t : if x8 = 0 then (wq (d + 1) 20 222 [.ref x0, .ref x1, .ref x2, .int x3, .int x4, .int x5, .int x6, .int x7, .int x8] [] h Q) else (ab_ok h x0 101 = true ∧ ab_ok h x0 101 = true ∧ ∃ j1 : Nat, ab_r h x0 3 = some j1 ∧ ((j1 = 0 ∧ 0 = 0) ∨ ab_ok h j1 0 = true) ∧ if (Int32.ofNat (ab_s h j1).2) ≤ (ab_i h x0 4) then (wq (d + 1) 20 222 [.ref x0, .ref x1, .ref x2, .int x3, .int x4, .int x5, .int x6, .int x7, .int x8] [] h Q) else (ab_ok h x1 107 = true ∧ ∃ j2 : Nat, ab_r h x1 0 = some j2 ∧ ab_ok h j2 104 = true ∧ wm d 55 [.ref j2, .int x5, .int 7] h (fun r9 h9 => wq (d + 1) 20 181 [.ref x0, .ref x1, .ref x2, .int x3, .int x4, .int x5, .int x6, .int x7, .int x8] (r9.toList ++ [.int x7, .ref x1, .ref x0]) h9 Q)))) : wq (d + 1) 20 149 [.ref x0, .ref x1, .ref x2, .int x3, .int x4, .int x5, .int x6, .int x7, .int x8] [] h Q := by
  refine g3 c_20_149 rfl ?_
  refine gif c_20_151 (gbr t rfl rfl (fun hc t => ?_) (fun hc t => ?_))
  · exact t
  · refine g5 c_20_154 rfl ?_
    obtain ⟨ho, t⟩ := t
    refine g43 c_20_155 ho ?_
    refine g5 c_20_158 rfl ?_
    obtain ⟨ho, j1, hr, t⟩ := t
    refine g45 c_20_159 ho hr ?_
    obtain ⟨ho, t⟩ := t
    refine g58 c_20_162 ho ?_
    refine gcm c_20_163 (gbr t rfl rfl (fun hc t => ?_) (fun hc t => ?_))
    · exact t
    · refine g5 c_20_166 rfl ?_
      refine g5 c_20_167 rfl ?_
      refine g3 c_20_168 rfl ?_
      refine g5 c_20_170 rfl ?_
      obtain ⟨ho, j2, hr, t⟩ := t
      refine g45 c_20_171 ho hr ?_
      refine g3 c_20_174 rfl ?_
      refine g1 c_20_176 k_7 ?_
      exact g80 (As := [.int x5, .int 7]) (rest := [.int x7, .ref x1, .ref x0]) c_20_178 rfl rfl (Nat.le_of_ble_eq_true rfl) (Nat.le_of_ble_eq_true rfl) t.1 t.2
set_option maxRecDepth 20000 in
theorem t_20_181 {d : Nat} {h : ab_H} {Q : Option Value → ab_H → Prop} {x0 : Nat} {x1 : Nat} {x2 : Nat} {x3 : Int32} {x4 : Int32} {x5 : Int32} {x6 : Int32} {x7 : Int32} {x8 : Int32} {s0 : Nat} {s1 : Nat} {s2 : Int32} {s3 : Int32} (t : ab_ok h s0 101 = true ∧ wm d 21 [.ref s0, .ref s1, .int s2, .int s3, .ref x2, .int x3] h (fun r9 h9 => wq (d + 1) 20 186 [.ref x0, .ref x1, .ref x2, .int x3, .int x4, .int x5, .int x6, .int x7, .int x8] (r9.toList ++ []) h9 Q)) : wq (d + 1) 20 181 [.ref x0, .ref x1, .ref x2, .int x3, .int x4, .int x5, .int x6, .int x7, .int x8] [.int s3, .int s2, .ref s1, .ref s0] h Q := by
  refine g5 c_20_181 rfl ?_
  refine g3 c_20_182 rfl ?_
  exact g80 (As := [.ref s1, .int s2, .int s3, .ref x2, .int x3]) (rest := []) c_20_183 rfl rfl (Nat.le_of_ble_eq_true rfl) (Nat.le_of_ble_eq_true rfl) t.1 t.2
set_option maxRecDepth 20000 in
theorem t_20_186 {d : Nat} {h : ab_H} {Q : Option Value → ab_H → Prop} {x0 : Nat} {x1 : Nat} {x2 : Nat} {x3 : Int32} {x4 : Int32} {x5 : Int32} {x6 : Int32} {x7 : Int32} {x8 : Int32} (t : ab_ok h x1 107 = true ∧ ∃ j1 : Nat, ab_r h x1 0 = some j1 ∧ ab_ok h j1 104 = true ∧ wm d 55 [.ref j1, .int x5, .int 4] h (fun r9 h9 => wq (d + 1) 20 197 [.ref x0, .ref x1, .ref x2, .int x3, .int x4, .int x5, .int x6, .int x7, .int x8] (r9.toList ++ [.ref x0]) h9 Q)) : wq (d + 1) 20 186 [.ref x0, .ref x1, .ref x2, .int x3, .int x4, .int x5, .int x6, .int x7, .int x8] [] h Q := by
  refine g5 c_20_186 rfl ?_
  refine g5 c_20_187 rfl ?_
  obtain ⟨ho, j1, hr, t⟩ := t
  refine g45 c_20_188 ho hr ?_
  refine g3 c_20_191 rfl ?_
  refine g1 c_20_193 k_4 ?_
  exact g80 (As := [.int x5, .int 4]) (rest := [.ref x0]) c_20_194 rfl rfl (Nat.le_of_ble_eq_true rfl) (Nat.le_of_ble_eq_true rfl) t.1 t.2
set_option maxRecDepth 20000 in
theorem t_20_197 {d : Nat} {h : ab_H} {Q : Option Value → ab_H → Prop} {x0 : Nat} {x1 : Nat} {x2 : Nat} {x3 : Int32} {x4 : Int32} {x5 : Int32} {x6 : Int32} {x7 : Int32} {x8 : Int32} {s0 : Nat} {s1 : Int32} (t : ab_ok h s0 101 = true ∧ wm d 22 [.ref s0, .int s1, .int 0] h (fun r9 h9 => wq (d + 1) 20 201 [.ref x0, .ref x1, .ref x2, .int x3, .int x4, .int x5, .int x6, .int x7, .int x8] (r9.toList ++ []) h9 Q)) : wq (d + 1) 20 197 [.ref x0, .ref x1, .ref x2, .int x3, .int x4, .int x5, .int x6, .int x7, .int x8] [.int s1, .ref s0] h Q := by
  refine g1 c_20_197 k_0 ?_
  exact g80 (As := [.int s1, .int 0]) (rest := []) c_20_198 rfl rfl (Nat.le_of_ble_eq_true rfl) (Nat.le_of_ble_eq_true rfl) t.1 t.2
set_option maxRecDepth 20000 in
theorem t_20_201 {d : Nat} {h : ab_H} {Q : Option Value → ab_H → Prop} {x0 : Nat} {x1 : Nat} {x2 : Nat} {x3 : Int32} {x4 : Int32} {x5 : Int32} {x6 : Int32} {x7 : Int32} {x8 : Int32} (t : ab_ok h x0 101 = true ∧ ∃ j1 : Nat, ab_r h x0 3 = some j1 ∧ ab_ok h x0 101 = true ∧ (ab_ok h j1 0 = true ∧ ab_in (ab_i h x0 4) (ab_s h j1).2 = true) ∧ ∀ h2 : ab_H, h2 = ab_pi h j1 (Int32.toNatClampNeg (ab_i h x0 4)) x5 → ab_ok h2 x0 101 = true ∧ ab_ok h2 x0 101 = true ∧ ∀ h3 : ab_H, h3 = ab_pi h2 x0 4 ((ab_i h2 x0 4) + 1) → wq d 20 222 [.ref x0, .ref x1, .ref x2, .int x3, .int x4, .int x5, .int x6, .int x7, .int x8] [] h3 Q) : wq d 20 201 [.ref x0, .ref x1, .ref x2, .int x3, .int x4, .int x5, .int x6, .int x7, .int x8] [] h Q := by
  refine g5 c_20_201 rfl ?_
  obtain ⟨ho, j1, hr, t⟩ := t
  refine g45 c_20_202 ho hr ?_
  refine g5 c_20_205 rfl ?_
  obtain ⟨ho, t⟩ := t
  refine g43 c_20_206 ho ?_
  refine g3 c_20_209 rfl ?_
  obtain ⟨ho, t⟩ := t
  refine g54 c_20_211 ho (fun h2 eh2 => ?_)
  have t := t h2 eh2
  refine g5 c_20_212 rfl ?_
  refine g33a c_20_213 ?_
  obtain ⟨ho, t⟩ := t
  refine g43 c_20_214 ho ?_
  refine g1 c_20_217 k_1 ?_
  refine g10 c_20_218 ?_
  obtain ⟨ho, t⟩ := t
  refine g46 c_20_219 ho (fun h3 eh3 => ?_)
  have t := t h3 eh3
  exact t
set_option maxRecDepth 20000 in
theorem t_20_222 {d : Nat} {h : ab_H} {Q : Option Value → ab_H → Prop} {x0 : Nat} {x1 : Nat} {x2 : Nat} {x3 : Int32} {x4 : Int32} {x5 : Int32} {x6 : Int32} {x7 : Int32} {x8 : Int32} (t : wq d 20 3 [.ref x0, .ref x1, .ref x2, .int x3, .int x4, .int (x5 + 1), .int x6, .int x7, .int x8] [] h Q) : wq d 20 222 [.ref x0, .ref x1, .ref x2, .int x3, .int x4, .int x5, .int x6, .int x7, .int x8] [] h Q := by
  refine g9 (L' := [.ref x0, .ref x1, .ref x2, .int x3, .int x4, .int (x5 + 1), .int x6, .int x7, .int x8]) c_20_222 rfl k_1 rfl ?_
  refine g38 c_20_225 rfl ?_
  exact t
-- method 21: MillTown$Law.run(LMillTown$Text;IILMillTown$Rows;I)V
theorem c_21_0 : pg_cd 21 0 = (1, 1, 0, 0, 0) := by decide +kernel
theorem c_21_1 : pg_cd 21 1 = (6, 2, 0, 6, 0) := by decide +kernel
theorem c_21_3 : pg_cd 21 3 = (3, 1, 0, 2, 0) := by decide +kernel
theorem c_21_4 : pg_cd 21 4 = (6, 2, 0, 7, 0) := by decide +kernel
theorem c_21_6 : pg_cd 21 6 = (3, 2, 0, 7, 0) := by decide +kernel
theorem c_21_8 : pg_cd 21 8 = (36, 3, 0, 2, 192) := by decide +kernel
theorem c_21_11 : pg_cd 21 11 = (3, 2, 0, 7, 0) := by decide +kernel
theorem c_21_13 : pg_cd 21 13 = (3, 1, 0, 3, 0) := by decide +kernel
theorem c_21_14 : pg_cd 21 14 = (37, 3, 0, 3, 186) := by decide +kernel
theorem c_21_17 : pg_cd 21 17 = (3, 2, 0, 7, 0) := by decide +kernel
theorem c_21_19 : pg_cd 21 19 = (5, 1, 0, 1, 0) := by decide +kernel
theorem c_21_20 : pg_cd 21 20 = (43, 7, 109, 2, 0) := by decide +kernel
theorem c_21_23 : pg_cd 21 23 = (37, 3, 0, 3, 177) := by decide +kernel
theorem c_21_26 : pg_cd 21 26 = (5, 1, 0, 1, 0) := by decide +kernel
theorem c_21_27 : pg_cd 21 27 = (45, 7, 112, 1, 0) := by decide +kernel
theorem c_21_30 : pg_cd 21 30 = (3, 2, 0, 7, 0) := by decide +kernel
theorem c_21_32 : pg_cd 21 32 = (50, 1, 0, 0, 0) := by decide +kernel
theorem c_21_33 : pg_cd 21 33 = (1, 3, 0, 0, 10000) := by decide +kernel
theorem c_21_36 : pg_cd 21 36 = (16, 1, 0, 0, 0) := by decide +kernel
theorem c_21_37 : pg_cd 21 37 = (6, 2, 0, 8, 0) := by decide +kernel
theorem c_21_39 : pg_cd 21 39 = (3, 2, 0, 8, 0) := by decide +kernel
theorem c_21_41 : pg_cd 21 41 = (1, 1, 0, 0, 2) := by decide +kernel
theorem c_21_42 : pg_cd 21 42 = (37, 3, 0, 0, 17) := by decide +kernel
theorem c_21_45 : pg_cd 21 45 = (3, 2, 0, 8, 0) := by decide +kernel
theorem c_21_47 : pg_cd 21 47 = (1, 2, 0, 0, 17) := by decide +kernel
theorem c_21_49 : pg_cd 21 49 = (37, 3, 0, 2, 77) := by decide +kernel
theorem c_21_52 : pg_cd 21 52 = (3, 2, 0, 8, 0) := by decide +kernel
theorem c_21_54 : pg_cd 21 54 = (1, 2, 0, 0, 20) := by decide +kernel
theorem c_21_56 : pg_cd 21 56 = (37, 3, 0, 4, 70) := by decide +kernel
theorem c_21_59 : pg_cd 21 59 = (3, 2, 0, 6, 0) := by decide +kernel
theorem c_21_61 : pg_cd 21 61 = (1, 1, 0, 0, 1) := by decide +kernel
theorem c_21_62 : pg_cd 21 62 = (10, 1, 0, 0, 0) := by decide +kernel
theorem c_21_63 : pg_cd 21 63 = (1, 2, 0, 0, 64) := by decide +kernel
theorem c_21_65 : pg_cd 21 65 = (37, 3, 0, 2, 4) := by decide +kernel
theorem c_21_68 : pg_cd 21 68 = (94, 0, 0, 0, 0) := by decide +kernel
theorem c_21_69 : pg_cd 21 69 = (9, 3, 0, 6, 1) := by decide +kernel
theorem c_21_72 : pg_cd 21 72 = (5, 1, 0, 0, 0) := by decide +kernel
theorem c_21_73 : pg_cd 21 73 = (45, 1, 17, 1, 0) := by decide +kernel
theorem c_21_76 : pg_cd 21 76 = (3, 2, 0, 6, 0) := by decide +kernel
theorem c_21_78 : pg_cd 21 78 = (3, 2, 0, 8, 0) := by decide +kernel
theorem c_21_80 : pg_cd 21 80 = (1, 1, 0, 0, 2) := by decide +kernel
theorem c_21_81 : pg_cd 21 81 = (37, 3, 0, 1, 18) := by decide +kernel
theorem c_21_84 : pg_cd 21 84 = (5, 1, 0, 1, 0) := by decide +kernel
theorem c_21_85 : pg_cd 21 85 = (45, 7, 112, 1, 0) := by decide +kernel
theorem c_21_88 : pg_cd 21 88 = (3, 2, 0, 7, 0) := by decide +kernel
theorem c_21_90 : pg_cd 21 90 = (50, 1, 0, 0, 0) := by decide +kernel
theorem c_21_91 : pg_cd 21 91 = (1, 3, 0, 0, 10000) := by decide +kernel
theorem c_21_94 : pg_cd 21 94 = (17, 1, 0, 0, 0) := by decide +kernel
theorem c_21_95 : pg_cd 21 95 = (31, 1, 0, 0, 0) := by decide +kernel
theorem c_21_96 : pg_cd 21 96 = (38, 3, 0, 0, 18) := by decide +kernel
theorem c_21_99 : pg_cd 21 99 = (5, 2, 0, 4, 0) := by decide +kernel
theorem c_21_101 : pg_cd 21 101 = (3, 2, 0, 5, 0) := by decide +kernel
theorem c_21_103 : pg_cd 21 103 = (1, 1, 0, 0, 0) := by decide +kernel
theorem c_21_104 : pg_cd 21 104 = (3, 2, 0, 8, 0) := by decide +kernel
theorem c_21_106 : pg_cd 21 106 = (10, 1, 0, 0, 0) := by decide +kernel
theorem c_21_107 : pg_cd 21 107 = (1, 2, 0, 0, 17) := by decide +kernel
theorem c_21_109 : pg_cd 21 109 = (11, 1, 0, 0, 0) := by decide +kernel
theorem c_21_110 : pg_cd 21 110 = (80, 55, 51, 0, 0) := by decide +kernel
theorem c_21_113 : pg_cd 21 113 = (31, 1, 0, 0, 0) := by decide +kernel
theorem c_21_114 : pg_cd 21 114 = (56, 1, 0, 0, 0) := by decide +kernel
theorem c_21_115 : pg_cd 21 115 = (5, 1, 0, 0, 0) := by decide +kernel
theorem c_21_116 : pg_cd 21 116 = (45, 1, 21, 2, 0) := by decide +kernel
theorem c_21_119 : pg_cd 21 119 = (3, 2, 0, 6, 0) := by decide +kernel
theorem c_21_121 : pg_cd 21 121 = (2, 1, 0, 0, 1) := by decide +kernel
theorem c_21_122 : pg_cd 21 122 = (56, 1, 0, 0, 0) := by decide +kernel
theorem c_21_123 : pg_cd 21 123 = (38, 3, 0, 0, 71) := by decide +kernel
theorem c_21_126 : pg_cd 21 126 = (3, 2, 0, 8, 0) := by decide +kernel
theorem c_21_128 : pg_cd 21 128 = (1, 2, 0, 0, 37) := by decide +kernel
theorem c_21_130 : pg_cd 21 130 = (37, 3, 0, 1, 21) := by decide +kernel
theorem c_21_133 : pg_cd 21 133 = (5, 1, 0, 0, 0) := by decide +kernel
theorem c_21_134 : pg_cd 21 134 = (45, 1, 17, 1, 0) := by decide +kernel
theorem c_21_137 : pg_cd 21 137 = (3, 2, 0, 6, 0) := by decide +kernel
theorem c_21_139 : pg_cd 21 139 = (5, 1, 0, 0, 0) := by decide +kernel
theorem c_21_140 : pg_cd 21 140 = (45, 1, 17, 1, 0) := by decide +kernel
theorem c_21_143 : pg_cd 21 143 = (3, 2, 0, 6, 0) := by decide +kernel
theorem c_21_145 : pg_cd 21 145 = (52, 1, 0, 0, 0) := by decide +kernel
theorem c_21_146 : pg_cd 21 146 = (29, 1, 0, 0, 0) := by decide +kernel
theorem c_21_147 : pg_cd 21 147 = (56, 1, 0, 0, 0) := by decide +kernel
theorem c_21_148 : pg_cd 21 148 = (38, 3, 0, 0, 46) := by decide +kernel
theorem c_21_151 : pg_cd 21 151 = (3, 2, 0, 8, 0) := by decide +kernel
theorem c_21_153 : pg_cd 21 153 = (1, 2, 0, 0, 16) := by decide +kernel
theorem c_21_155 : pg_cd 21 155 = (37, 3, 0, 1, 22) := by decide +kernel
theorem c_21_158 : pg_cd 21 158 = (5, 1, 0, 0, 0) := by decide +kernel
theorem c_21_159 : pg_cd 21 159 = (45, 1, 17, 1, 0) := by decide +kernel
theorem c_21_162 : pg_cd 21 162 = (3, 2, 0, 6, 0) := by decide +kernel
theorem c_21_164 : pg_cd 21 164 = (2, 1, 0, 0, 1) := by decide +kernel
theorem c_21_165 : pg_cd 21 165 = (5, 1, 0, 0, 0) := by decide +kernel
theorem c_21_166 : pg_cd 21 166 = (45, 1, 17, 1, 0) := by decide +kernel
theorem c_21_169 : pg_cd 21 169 = (3, 2, 0, 6, 0) := by decide +kernel
theorem c_21_171 : pg_cd 21 171 = (52, 1, 0, 0, 0) := by decide +kernel
theorem c_21_172 : pg_cd 21 172 = (23, 1, 0, 0, 0) := by decide +kernel
theorem c_21_173 : pg_cd 21 173 = (56, 1, 0, 0, 0) := by decide +kernel
theorem c_21_174 : pg_cd 21 174 = (38, 3, 0, 0, 20) := by decide +kernel
theorem c_21_177 : pg_cd 21 177 = (3, 2, 0, 6, 0) := by decide +kernel
theorem c_21_179 : pg_cd 21 179 = (1, 1, 0, 0, 2) := by decide +kernel
theorem c_21_180 : pg_cd 21 180 = (37, 3, 0, 2, 14) := by decide +kernel
theorem c_21_183 : pg_cd 21 183 = (9, 3, 0, 6, (-1)) := by decide +kernel
theorem c_21_186 : pg_cd 21 186 = (5, 1, 0, 0, 0) := by decide +kernel
theorem c_21_187 : pg_cd 21 187 = (3, 2, 0, 8, 0) := by decide +kernel
theorem c_21_189 : pg_cd 21 189 = (3, 2, 0, 6, 0) := by decide +kernel
theorem c_21_191 : pg_cd 21 191 = (80, 22, 105, 0, 0) := by decide +kernel
theorem c_21_194 : pg_cd 21 194 = (9, 3, 0, 7, 1) := by decide +kernel
theorem c_21_197 : pg_cd 21 197 = (38, 3, 0, 0, (-191)) := by decide +kernel
theorem c_21_200 : pg_cd 21 200 = (94, 0, 0, 0, 0) := by decide +kernel
theorem mx_21 : pg_mx 21 = 9 := by decide +kernel
theorem m_21 {d : Nat} {h : ab_H} {Q : Option Value → ab_H → Prop} {x0 : Nat} {x1 : Nat} {x2 : Int32} {x3 : Int32} {x4 : Nat} {x5 : Int32} (t : wq d 21 0 [.ref x0, .ref x1, .int x2, .int x3, .ref x4, .int x5, .retAddr 0, .retAddr 0, .retAddr 0] [] h Q) : wm d 21 [.ref x0, .ref x1, .int x2, .int x3, .ref x4, .int x5] h Q := by
  unfold wm
  rw [mx_21]
  exact t
set_option maxRecDepth 20000 in
theorem t_21_0 {d : Nat} {h : ab_H} {Q : Option Value → ab_H → Prop} {x0 : Nat} {x1 : Nat} {x2 : Int32} {x3 : Int32} {x4 : Nat} {x5 : Int32} (t : wq d 21 6 [.ref x0, .ref x1, .int x2, .int x3, .ref x4, .int x5, .int 0, .int x2, .retAddr 0] [] h Q) : wq d 21 0 [.ref x0, .ref x1, .int x2, .int x3, .ref x4, .int x5, .retAddr 0, .retAddr 0, .retAddr 0] [] h Q := by
  refine g1 c_21_0 k_0 ?_
  refine g6 (L' := [.ref x0, .ref x1, .int x2, .int x3, .ref x4, .int x5, .int 0, .retAddr 0, .retAddr 0]) c_21_1 rfl ?_
  refine g3 c_21_3 rfl ?_
  refine g6 (L' := [.ref x0, .ref x1, .int x2, .int x3, .ref x4, .int x5, .int 0, .int x2, .retAddr 0]) c_21_4 rfl ?_
  exact t
set_option maxRecDepth 20000 in
theorem t_21_6 {d : Nat} {h : ab_H} {Q : Option Value → ab_H → Prop} {x0 : Nat} {x1 : Nat} {x2 : Int32} {x3 : Int32} {x4 : Nat} {x5 : Int32} {x6 : Int32} {x7 : Int32} (t : if x7 < 0 then (wq d 21 200 [.ref x0, .ref x1, .int x2, .int x3, .ref x4, .int x5, .int x6, .int x7, .retAddr 0] [] h Q) else (if x3 ≤ x7 then (wq d 21 200 [.ref x0, .ref x1, .int x2, .int x3, .ref x4, .int x5, .int x6, .int x7, .retAddr 0] [] h Q) else (ab_ok h x1 107 = true ∧ if (ab_i h x1 2) ≤ x7 then (wq d 21 200 [.ref x0, .ref x1, .int x2, .int x3, .ref x4, .int x5, .int x6, .int x7, .retAddr 0] [] h Q) else (ab_ok h x1 107 = true ∧ ∃ j1 : Nat, ab_r h x1 1 = some j1 ∧ ((j1 = 0 ∨ ab_ok h j1 0 = true) ∧ ab_in x7 (ab_s h j1).2 = true) ∧ ¬ (10000 : Int32) = 0 ∧ ∀ y2 : Int32, y2 = ((ab_i h j1 (Int32.toNatClampNeg x7)) / 10000) → if y2 = 2 then (wq d 21 59 [.ref x0, .ref x1, .int x2, .int x3, .ref x4, .int x5, .int x6, .int x7, .int y2] [] h Q) else (if y2 < 17 then (wq d 21 126 [.ref x0, .ref x1, .int x2, .int x3, .ref x4, .int x5, .int x6, .int x7, .int y2] [] h Q) else (if 20 < y2 then (wq d 21 126 [.ref x0, .ref x1, .int x2, .int x3, .ref x4, .int x5, .int x6, .int x7, .int y2] [] h Q) else (wq d 21 59 [.ref x0, .ref x1, .int x2, .int x3, .ref x4, .int x5, .int x6, .int x7, .int y2] [] h Q))))))) : wq d 21 6 [.ref x0, .ref x1, .int x2, .int x3, .ref x4, .int x5, .int x6, .int x7, .retAddr 0] [] h Q := by
  refine g3 c_21_6 rfl ?_
  refine gif c_21_8 (gbr t rfl rfl (fun hc t => ?_) (fun hc t => ?_))
  · exact t
  · refine g3 c_21_11 rfl ?_
    refine g3 c_21_13 rfl ?_
    refine gcm c_21_14 (gbr t rfl rfl (fun hc t => ?_) (fun hc t => ?_))
    · exact t
    · refine g3 c_21_17 rfl ?_
      refine g5 c_21_19 rfl ?_
      obtain ⟨ho, t⟩ := t
      refine g43 c_21_20 ho ?_
      refine gcm c_21_23 (gbr t rfl rfl (fun hc t => ?_) (fun hc t => ?_))
      · exact t
      · refine g5 c_21_26 rfl ?_
        obtain ⟨ho, j1, hr, t⟩ := t
        refine g45 c_21_27 ho hr ?_
        refine g3 c_21_30 rfl ?_
        obtain ⟨ho, t⟩ := t
        refine g50 c_21_32 ho ?_
        refine g1 c_21_33 k_10000 ?_
        obtain ⟨hy, t⟩ := t
        refine g16 c_21_36 hy ?_
        refine g6y (Lf := fun y2 => [.ref x0, .ref x1, .int x2, .int x3, .ref x4, .int x5, .int x6, .int x7, .int y2]) c_21_37 (fun _ => rfl) (fun y2 ey2 => ?_)
        have t := t y2 ey2
        refine g3 c_21_39 rfl ?_
        refine g1 c_21_41 k_2 ?_
        refine gcm c_21_42 (gbr t rfl rfl (fun hc t => ?_) (fun hc t => ?_))
        · exact t
        · refine g3 c_21_45 rfl ?_
          refine g1 c_21_47 k_17 ?_
          refine gcm c_21_49 (gbr t rfl rfl (fun hc t => ?_) (fun hc t => ?_))
          · exact t
          · refine g3 c_21_52 rfl ?_
            refine g1 c_21_54 k_20 ?_
            refine gcm c_21_56 (gbr t rfl rfl (fun hc t => ?_) (fun hc t => ?_))
            · exact t
            · exact t
set_option maxRecDepth 20000 in
theorem t_21_59 {d : Nat} {h : ab_H} {Q : Option Value → ab_H → Prop} {x0 : Nat} {x1 : Nat} {x2 : Int32} {x3 : Int32} {x4 : Nat} {x5 : Int32} {x6 : Int32} {x7 : Int32} {x8 : Int32} (t : if (x6 + 1) < 64 then (ab_ok h x0 101 = true ∧ ∃ j1 : Nat, ab_r h x0 1 = some j1 ∧ if x8 = 2 then (ab_ok h x1 107 = true ∧ ∃ j2 : Nat, ab_r h x1 1 = some j2 ∧ ((j2 = 0 ∨ ab_ok h j2 0 = true) ∧ ab_in x7 (ab_s h j2).2 = true) ∧ ¬ (10000 : Int32) = 0 ∧ wq (d + 1) 21 114 [.ref x0, .ref x1, .int x2, .int x3, .ref x4, .int x5, .int (x6 + 1), .int x7, .int x8] [.long (Int32.toInt64 ((ab_i h j2 (Int32.toNatClampNeg x7)) - (ab_i h j2 (Int32.toNatClampNeg x7)) / 10000 * 10000)), .int (x6 + 1), .ref j1] h Q) else (ab_ok h x4 104 = true ∧ wm d 55 [.ref x4, .int x5, .int ((0 + x8) - 17)] h (fun r9 h9 => wq (d + 1) 21 113 [.ref x0, .ref x1, .int x2, .int x3, .ref x4, .int x5, .int (x6 + 1), .int x7, .int x8] (r9.toList ++ [.int (x6 + 1), .ref j1]) h9 Q))) else (Q none h)) : wq (d + 1) 21 59 [.ref x0, .ref x1, .int x2, .int x3, .ref x4, .int x5, .int x6, .int x7, .int x8] [] h Q := by
  refine g3 c_21_59 rfl ?_
  refine g1 c_21_61 k_1 ?_
  refine g10 c_21_62 ?_
  refine g1 c_21_63 k_64 ?_
  refine gcm c_21_65 (gbr t rfl rfl (fun hc t => ?_) (fun hc t => ?_))
  · refine g9 (L' := [.ref x0, .ref x1, .int x2, .int x3, .ref x4, .int x5, .int (x6 + 1), .int x7, .int x8]) c_21_69 rfl k_1 rfl ?_
    refine g5 c_21_72 rfl ?_
    obtain ⟨ho, j1, hr, t⟩ := t
    refine g45 c_21_73 ho hr ?_
    refine g3 c_21_76 rfl ?_
    refine g3 c_21_78 rfl ?_
    refine g1 c_21_80 k_2 ?_
    refine gcm c_21_81 (gbn t (ab_c1 _ _) rfl (fun hc t => ?_) (fun hc t => ?_))
    · refine g5 c_21_84 rfl ?_
      obtain ⟨ho, j2, hr, t⟩ := t
      refine g45 c_21_85 ho hr ?_
      refine g3 c_21_88 rfl ?_
      obtain ⟨ho, t⟩ := t
      refine g50 c_21_90 ho ?_
      refine g1 c_21_91 k_10000 ?_
      obtain ⟨hy, t⟩ := t
      refine g17 c_21_94 hy ?_
      refine g31 c_21_95 ?_
      refine g38 c_21_96 rfl ?_
      exact t
    · refine g5 c_21_99 rfl ?_
      refine g3 c_21_101 rfl ?_
      refine g1 c_21_103 k_0 ?_
      refine g3 c_21_104 rfl ?_
      refine g10 c_21_106 ?_
      refine g1 c_21_107 k_17 ?_
      refine g11 c_21_109 ?_
      exact g80 (As := [.int x5, .int ((0 + x8) - 17)]) (rest := [.int (x6 + 1), .ref j1]) c_21_110 rfl rfl (Nat.le_of_ble_eq_true rfl) (Nat.le_of_ble_eq_true rfl) t.1 t.2
  · exact g94 c_21_68 t
set_option maxRecDepth 20000 in
theorem t_21_113 {d : Nat} {h : ab_H} {Q : Option Value → ab_H → Prop} {x0 : Nat} {x1 : Nat} {x2 : Int32} {x3 : Int32} {x4 : Nat} {x5 : Int32} {x6 : Int32} {x7 : Int32} {x8 : Int32} {s0 : Nat} {s1 : Int32} {s2 : Int32} (t : wq d 21 114 [.ref x0, .ref x1, .int x2, .int x3, .ref x4, .int x5, .int x6, .int x7, .int x8] [.long (Int32.toInt64 s2), .int s1, .ref s0] h Q) : wq d 21 113 [.ref x0, .ref x1, .int x2, .int x3, .ref x4, .int x5, .int x6, .int x7, .int x8] [.int s2, .int s1, .ref s0] h Q := by
  refine g31 c_21_113 ?_
  exact t
set_option maxRecDepth 20000 in
theorem t_21_114 {d : Nat} {h : ab_H} {Q : Option Value → ab_H → Prop} {x0 : Nat} {x1 : Nat} {x2 : Int32} {x3 : Int32} {x4 : Nat} {x5 : Int32} {x6 : Int32} {x7 : Int32} {x8 : Int32} {s0 : Nat} {s1 : Int32} {s2 : Int64} (t : (ab_ok h s0 1 = true ∧ ab_in s1 (ab_s h s0).2 = true) ∧ ∀ h1 : ab_H, h1 = ab_pl h s0 (Int32.toNatClampNeg s1) s2 → ab_ok h1 x0 101 = true ∧ ∃ j2 : Nat, ab_r h1 x0 2 = some j2 ∧ (ab_ok h1 j2 1 = true ∧ ab_in x6 (ab_s h1 j2).2 = true) ∧ ∀ h3 : ab_H, h3 = ab_pl h1 j2 (Int32.toNatClampNeg x6) 1 → wq d 21 194 [.ref x0, .ref x1, .int x2, .int x3, .ref x4, .int x5, .int x6, .int x7, .int x8] [] h3 Q) : wq d 21 114 [.ref x0, .ref x1, .int x2, .int x3, .ref x4, .int x5, .int x6, .int x7, .int x8] [.long s2, .int s1, .ref s0] h Q := by
  obtain ⟨ho, t⟩ := t
  refine g56 c_21_114 ho (fun h1 eh1 => ?_)
  have t := t h1 eh1
  refine g5 c_21_115 rfl ?_
  obtain ⟨ho, j2, hr, t⟩ := t
  refine g45 c_21_116 ho hr ?_
  refine g3 c_21_119 rfl ?_
  refine g2 c_21_121 kl_1 ?_
  obtain ⟨ho, t⟩ := t
  refine g56 c_21_122 ho (fun h3 eh3 => ?_)
  have t := t h3 eh3
  refine g38 c_21_123 rfl ?_
  exact t
set_option maxRecDepth 20000 in
theorem t_21_126 {d : Nat} {h : ab_H} {Q : Option Value → ab_H → Prop} {x0 : Nat} {x1 : Nat} {x2 : Int32} {x3 : Int32} {x4 : Nat} {x5 : Int32} {x6 : Int32} {x7 : Int32} {x8 : Int32} (t : if x8 = 37 then (ab_ok h x0 101 = true ∧ ∃ j1 : Nat, ab_r h x0 1 = some j1 ∧ ab_ok h x0 101 = true ∧ ∃ j2 : Nat, ab_r h x0 1 = some j2 ∧ (ab_ok h j2 1 = true ∧ ab_in x6 (ab_s h j2).2 = true) ∧ (ab_ok h j1 1 = true ∧ ab_in x6 (ab_s h j1).2 = true) ∧ ∀ h3 : ab_H, h3 = ab_pl h j1 (Int32.toNatClampNeg x6) (-(ab_l h j2 (Int32.toNatClampNeg x6))) → wq (d + 1) 21 194 [.ref x0, .ref x1, .int x2, .int x3, .ref x4, .int x5, .int x6, .int x7, .int x8] [] h3 Q) else (if x8 = 16 then (ab_ok h x0 101 = true ∧ ∃ j4 : Nat, ab_r h x0 1 = some j4 ∧ ab_ok h x0 101 = true ∧ ∃ j5 : Nat, ab_r h x0 1 = some j5 ∧ (ab_ok h j5 1 = true ∧ ab_in x6 (ab_s h j5).2 = true) ∧ (ab_ok h j4 1 = true ∧ ab_in x6 (ab_s h j4).2 = true) ∧ ∀ h6 : ab_H, h6 = ab_pl h j4 (Int32.toNatClampNeg x6) (1 - (ab_l h j5 (Int32.toNatClampNeg x6))) → wq (d + 1) 21 194 [.ref x0, .ref x1, .int x2, .int x3, .ref x4, .int x5, .int x6, .int x7, .int x8] [] h6 Q) else (if x6 < 2 then (wq (d + 1) 21 194 [.ref x0, .ref x1, .int x2, .int x3, .ref x4, .int x5, .int x6, .int x7, .int x8] [] h Q) else (ab_ok h x0 101 = true ∧ wm d 22 [.ref x0, .int x8, .int (x6 + (-1))] h (fun r9 h9 => wq (d + 1) 21 194 [.ref x0, .ref x1, .int x2, .int x3, .ref x4, .int x5, .int (x6 + (-1)), .int x7, .int x8] (r9.toList ++ []) h9 Q))))) : wq (d + 1) 21 126 [.ref x0, .ref x1, .int x2, .int x3, .ref x4, .int x5, .int x6, .int x7, .int x8] [] h Q := by
  refine g3 c_21_126 rfl ?_
  refine g1 c_21_128 k_37 ?_
  refine gcm c_21_130 (gbn t (ab_c1 _ _) rfl (fun hc t => ?_) (fun hc t => ?_))
  · refine g5 c_21_133 rfl ?_
    obtain ⟨ho, j1, hr, t⟩ := t
    refine g45 c_21_134 ho hr ?_
    refine g3 c_21_137 rfl ?_
    refine g5 c_21_139 rfl ?_
    obtain ⟨ho, j2, hr, t⟩ := t
    refine g45 c_21_140 ho hr ?_
    refine g3 c_21_143 rfl ?_
    obtain ⟨ho, t⟩ := t
    refine g52 c_21_145 ho ?_
    refine g29 c_21_146 ?_
    obtain ⟨ho, t⟩ := t
    refine g56 c_21_147 ho (fun h3 eh3 => ?_)
    have t := t h3 eh3
    refine g38 c_21_148 rfl ?_
    exact t
  · refine g3 c_21_151 rfl ?_
    refine g1 c_21_153 k_16 ?_
    refine gcm c_21_155 (gbn t (ab_c1 _ _) rfl (fun hc t => ?_) (fun hc t => ?_))
    · refine g5 c_21_158 rfl ?_
      obtain ⟨ho, j4, hr, t⟩ := t
      refine g45 c_21_159 ho hr ?_
      refine g3 c_21_162 rfl ?_
      refine g2 c_21_164 kl_1 ?_
      refine g5 c_21_165 rfl ?_
      obtain ⟨ho, j5, hr, t⟩ := t
      refine g45 c_21_166 ho hr ?_
      refine g3 c_21_169 rfl ?_
      obtain ⟨ho, t⟩ := t
      refine g52 c_21_171 ho ?_
      refine g23 c_21_172 ?_
      obtain ⟨ho, t⟩ := t
      refine g56 c_21_173 ho (fun h6 eh6 => ?_)
      have t := t h6 eh6
      refine g38 c_21_174 rfl ?_
      exact t
    · refine g3 c_21_177 rfl ?_
      refine g1 c_21_179 k_2 ?_
      refine gcm c_21_180 (gbr t rfl rfl (fun hc t => ?_) (fun hc t => ?_))
      · exact t
      · refine g9 (L' := [.ref x0, .ref x1, .int x2, .int x3, .ref x4, .int x5, .int (x6 + (-1)), .int x7, .int x8]) c_21_183 rfl k_m1 rfl ?_
        refine g5 c_21_186 rfl ?_
        refine g3 c_21_187 rfl ?_
        refine g3 c_21_189 rfl ?_
        exact g80 (As := [.int x8, .int (x6 + (-1))]) (rest := []) c_21_191 rfl rfl (Nat.le_of_ble_eq_true rfl) (Nat.le_of_ble_eq_true rfl) t.1 t.2
set_option maxRecDepth 20000 in
theorem t_21_194 {d : Nat} {h : ab_H} {Q : Option Value → ab_H → Prop} {x0 : Nat} {x1 : Nat} {x2 : Int32} {x3 : Int32} {x4 : Nat} {x5 : Int32} {x6 : Int32} {x7 : Int32} {x8 : Int32} (t : wq d 21 6 [.ref x0, .ref x1, .int x2, .int x3, .ref x4, .int x5, .int x6, .int (x7 + 1), .int x8] [] h Q) : wq d 21 194 [.ref x0, .ref x1, .int x2, .int x3, .ref x4, .int x5, .int x6, .int x7, .int x8] [] h Q := by
  refine g9 (L' := [.ref x0, .ref x1, .int x2, .int x3, .ref x4, .int x5, .int x6, .int (x7 + 1), .int x8]) c_21_194 rfl k_1 rfl ?_
  refine g38 c_21_197 rfl ?_
  exact t
set_option maxRecDepth 20000 in
theorem t_21_200 {d : Nat} {h : ab_H} {Q : Option Value → ab_H → Prop} {x0 : Nat} {x1 : Nat} {x2 : Int32} {x3 : Int32} {x4 : Nat} {x5 : Int32} {x6 : Int32} {x7 : Int32} (t : Q none h) : wq d 21 200 [.ref x0, .ref x1, .int x2, .int x3, .ref x4, .int x5, .int x6, .int x7, .retAddr 0] [] h Q := by
  exact g94 c_21_200 t
-- method 22: MillTown$Law.join(II)V
theorem c_22_0 : pg_cd 22 0 = (3, 1, 0, 2, 0) := by decide +kernel
theorem c_22_1 : pg_cd 22 1 = (36, 3, 0, 2, 11) := by decide +kernel
theorem c_22_4 : pg_cd 22 4 = (3, 1, 0, 2, 0) := by decide +kernel
theorem c_22_5 : pg_cd 22 5 = (1, 1, 0, 0, 1) := by decide +kernel
theorem c_22_6 : pg_cd 22 6 = (10, 1, 0, 0, 0) := by decide +kernel
theorem c_22_7 : pg_cd 22 7 = (1, 2, 0, 0, 64) := by decide +kernel
theorem c_22_9 : pg_cd 22 9 = (37, 3, 0, 2, 4) := by decide +kernel
theorem c_22_12 : pg_cd 22 12 = (94, 0, 0, 0, 0) := by decide +kernel
theorem c_22_13 : pg_cd 22 13 = (5, 1, 0, 0, 0) := by decide +kernel
theorem c_22_14 : pg_cd 22 14 = (45, 1, 17, 1, 0) := by decide +kernel
theorem c_22_17 : pg_cd 22 17 = (3, 1, 0, 2, 0) := by decide +kernel
theorem c_22_18 : pg_cd 22 18 = (52, 1, 0, 0, 0) := by decide +kernel
theorem c_22_19 : pg_cd 22 19 = (5, 1, 0, 0, 0) := by decide +kernel
theorem c_22_20 : pg_cd 22 20 = (45, 1, 21, 2, 0) := by decide +kernel
theorem c_22_23 : pg_cd 22 23 = (3, 1, 0, 2, 0) := by decide +kernel
theorem c_22_24 : pg_cd 22 24 = (1, 1, 0, 0, 1) := by decide +kernel
theorem c_22_25 : pg_cd 22 25 = (10, 1, 0, 0, 0) := by decide +kernel
theorem c_22_26 : pg_cd 22 26 = (52, 1, 0, 0, 0) := by decide +kernel
theorem c_22_27 : pg_cd 22 27 = (24, 1, 0, 0, 0) := by decide +kernel
theorem c_22_28 : pg_cd 22 28 = (7, 1, 0, 3, 0) := by decide +kernel
theorem c_22_29 : pg_cd 22 29 = (5, 1, 0, 0, 0) := by decide +kernel
theorem c_22_30 : pg_cd 22 30 = (45, 1, 17, 1, 0) := by decide +kernel
theorem c_22_33 : pg_cd 22 33 = (3, 1, 0, 2, 0) := by decide +kernel
theorem c_22_34 : pg_cd 22 34 = (1, 1, 0, 0, 1) := by decide +kernel
theorem c_22_35 : pg_cd 22 35 = (10, 1, 0, 0, 0) := by decide +kernel
theorem c_22_36 : pg_cd 22 36 = (52, 1, 0, 0, 0) := by decide +kernel
theorem c_22_37 : pg_cd 22 37 = (5, 1, 0, 0, 0) := by decide +kernel
theorem c_22_38 : pg_cd 22 38 = (45, 1, 21, 2, 0) := by decide +kernel
theorem c_22_41 : pg_cd 22 41 = (3, 1, 0, 2, 0) := by decide +kernel
theorem c_22_42 : pg_cd 22 42 = (52, 1, 0, 0, 0) := by decide +kernel
theorem c_22_43 : pg_cd 22 43 = (24, 1, 0, 0, 0) := by decide +kernel
theorem c_22_44 : pg_cd 22 44 = (7, 2, 0, 5, 0) := by decide +kernel
theorem c_22_46 : pg_cd 22 46 = (5, 1, 0, 0, 0) := by decide +kernel
theorem c_22_47 : pg_cd 22 47 = (45, 1, 21, 2, 0) := by decide +kernel
theorem c_22_50 : pg_cd 22 50 = (3, 1, 0, 2, 0) := by decide +kernel
theorem c_22_51 : pg_cd 22 51 = (52, 1, 0, 0, 0) := by decide +kernel
theorem c_22_52 : pg_cd 22 52 = (5, 1, 0, 0, 0) := by decide +kernel
theorem c_22_53 : pg_cd 22 53 = (45, 1, 21, 2, 0) := by decide +kernel
theorem c_22_56 : pg_cd 22 56 = (3, 1, 0, 2, 0) := by decide +kernel
theorem c_22_57 : pg_cd 22 57 = (1, 1, 0, 0, 1) := by decide +kernel
theorem c_22_58 : pg_cd 22 58 = (10, 1, 0, 0, 0) := by decide +kernel
theorem c_22_59 : pg_cd 22 59 = (52, 1, 0, 0, 0) := by decide +kernel
theorem c_22_60 : pg_cd 22 60 = (24, 1, 0, 0, 0) := by decide +kernel
theorem c_22_61 : pg_cd 22 61 = (7, 2, 0, 7, 0) := by decide +kernel
theorem c_22_63 : pg_cd 22 63 = (4, 2, 0, 7, 0) := by decide +kernel
theorem c_22_65 : pg_cd 22 65 = (2, 1, 0, 0, 0) := by decide +kernel
theorem c_22_66 : pg_cd 22 66 = (28, 1, 0, 0, 0) := by decide +kernel
theorem c_22_67 : pg_cd 22 67 = (36, 3, 0, 0, 7) := by decide +kernel
theorem c_22_70 : pg_cd 22 70 = (1, 1, 0, 0, 1) := by decide +kernel
theorem c_22_71 : pg_cd 22 71 = (38, 3, 0, 0, 4) := by decide +kernel
theorem c_22_74 : pg_cd 22 74 = (1, 1, 0, 0, 0) := by decide +kernel
theorem c_22_75 : pg_cd 22 75 = (6, 2, 0, 9, 0) := by decide +kernel
theorem c_22_77 : pg_cd 22 77 = (3, 1, 0, 1, 0) := by decide +kernel
theorem c_22_78 : pg_cd 22 78 = (42, 0, 90, 0, 0) := by decide +kernel
theorem c_22_168 : pg_cd 22 168 = (5, 1, 0, 0, 0) := by decide +kernel
theorem c_22_169 : pg_cd 22 169 = (3, 1, 0, 2, 0) := by decide +kernel
theorem c_22_170 : pg_cd 22 170 = (4, 1, 0, 3, 0) := by decide +kernel
theorem c_22_171 : pg_cd 22 171 = (4, 2, 0, 5, 0) := by decide +kernel
theorem c_22_173 : pg_cd 22 173 = (22, 1, 0, 0, 0) := by decide +kernel
theorem c_22_174 : pg_cd 22 174 = (4, 2, 0, 7, 0) := by decide +kernel
theorem c_22_176 : pg_cd 22 176 = (80, 24, 115, 0, 0) := by decide +kernel
theorem c_22_179 : pg_cd 22 179 = (38, 3, 0, 0, 170) := by decide +kernel
theorem c_22_182 : pg_cd 22 182 = (5, 1, 0, 0, 0) := by decide +kernel
theorem c_22_183 : pg_cd 22 183 = (3, 1, 0, 2, 0) := by decide +kernel
theorem c_22_184 : pg_cd 22 184 = (4, 1, 0, 3, 0) := by decide +kernel
theorem c_22_185 : pg_cd 22 185 = (4, 2, 0, 5, 0) := by decide +kernel
theorem c_22_187 : pg_cd 22 187 = (23, 1, 0, 0, 0) := by decide +kernel
theorem c_22_188 : pg_cd 22 188 = (4, 2, 0, 7, 0) := by decide +kernel
theorem c_22_190 : pg_cd 22 190 = (80, 24, 115, 0, 0) := by decide +kernel
theorem c_22_193 : pg_cd 22 193 = (38, 3, 0, 0, 156) := by decide +kernel
theorem c_22_196 : pg_cd 22 196 = (5, 1, 0, 0, 0) := by decide +kernel
theorem c_22_197 : pg_cd 22 197 = (3, 1, 0, 2, 0) := by decide +kernel
theorem c_22_198 : pg_cd 22 198 = (5, 1, 0, 0, 0) := by decide +kernel
theorem c_22_199 : pg_cd 22 199 = (45, 1, 17, 1, 0) := by decide +kernel
theorem c_22_202 : pg_cd 22 202 = (3, 1, 0, 2, 0) := by decide +kernel
theorem c_22_203 : pg_cd 22 203 = (52, 1, 0, 0, 0) := by decide +kernel
theorem c_22_204 : pg_cd 22 204 = (5, 1, 0, 0, 0) := by decide +kernel
theorem c_22_205 : pg_cd 22 205 = (45, 1, 17, 1, 0) := by decide +kernel
theorem c_22_208 : pg_cd 22 208 = (3, 1, 0, 2, 0) := by decide +kernel
theorem c_22_209 : pg_cd 22 209 = (1, 1, 0, 0, 1) := by decide +kernel
theorem c_22_210 : pg_cd 22 210 = (10, 1, 0, 0, 0) := by decide +kernel
theorem c_22_211 : pg_cd 22 211 = (52, 1, 0, 0, 0) := by decide +kernel
theorem c_22_212 : pg_cd 22 212 = (24, 1, 0, 0, 0) := by decide +kernel
theorem c_22_213 : pg_cd 22 213 = (4, 2, 0, 7, 0) := by decide +kernel
theorem c_22_215 : pg_cd 22 215 = (80, 24, 115, 0, 0) := by decide +kernel
theorem c_22_218 : pg_cd 22 218 = (38, 3, 0, 0, 131) := by decide +kernel
theorem c_22_221 : pg_cd 22 221 = (5, 1, 0, 0, 0) := by decide +kernel
theorem c_22_222 : pg_cd 22 222 = (3, 1, 0, 2, 0) := by decide +kernel
theorem c_22_223 : pg_cd 22 223 = (4, 1, 0, 3, 0) := by decide +kernel
theorem c_22_224 : pg_cd 22 224 = (3, 2, 0, 9, 0) := by decide +kernel
theorem c_22_226 : pg_cd 22 226 = (36, 3, 0, 0, 8) := by decide +kernel
theorem c_22_229 : pg_cd 22 229 = (4, 2, 0, 5, 0) := by decide +kernel
theorem c_22_231 : pg_cd 22 231 = (38, 3, 0, 0, 4) := by decide +kernel
theorem c_22_234 : pg_cd 22 234 = (2, 1, 0, 0, 0) := by decide +kernel
theorem c_22_235 : pg_cd 22 235 = (80, 24, 115, 0, 0) := by decide +kernel
theorem c_22_238 : pg_cd 22 238 = (38, 3, 0, 0, 111) := by decide +kernel
theorem c_22_241 : pg_cd 22 241 = (5, 1, 0, 0, 0) := by decide +kernel
theorem c_22_242 : pg_cd 22 242 = (3, 1, 0, 2, 0) := by decide +kernel
theorem c_22_243 : pg_cd 22 243 = (4, 1, 0, 3, 0) := by decide +kernel
theorem c_22_244 : pg_cd 22 244 = (4, 2, 0, 5, 0) := by decide +kernel
theorem c_22_246 : pg_cd 22 246 = (77, 0, 98, 0, 0) := by decide +kernel
theorem c_22_249 : pg_cd 22 249 = (4, 2, 0, 7, 0) := by decide +kernel
theorem c_22_251 : pg_cd 22 251 = (80, 24, 115, 0, 0) := by decide +kernel
theorem c_22_254 : pg_cd 22 254 = (38, 3, 0, 0, 95) := by decide +kernel
theorem c_22_257 : pg_cd 22 257 = (5, 1, 0, 0, 0) := by decide +kernel
theorem c_22_258 : pg_cd 22 258 = (3, 1, 0, 2, 0) := by decide +kernel
theorem c_22_259 : pg_cd 22 259 = (4, 1, 0, 3, 0) := by decide +kernel
theorem c_22_260 : pg_cd 22 260 = (4, 2, 0, 5, 0) := by decide +kernel
theorem c_22_262 : pg_cd 22 262 = (76, 0, 93, 0, 0) := by decide +kernel
theorem c_22_265 : pg_cd 22 265 = (4, 2, 0, 7, 0) := by decide +kernel
theorem c_22_267 : pg_cd 22 267 = (80, 24, 115, 0, 0) := by decide +kernel
theorem c_22_270 : pg_cd 22 270 = (38, 3, 0, 0, 79) := by decide +kernel
theorem c_22_273 : pg_cd 22 273 = (5, 1, 0, 0, 0) := by decide +kernel
theorem c_22_274 : pg_cd 22 274 = (3, 1, 0, 2, 0) := by decide +kernel
theorem c_22_275 : pg_cd 22 275 = (5, 1, 0, 0, 0) := by decide +kernel
theorem c_22_276 : pg_cd 22 276 = (45, 1, 17, 1, 0) := by decide +kernel
theorem c_22_279 : pg_cd 22 279 = (3, 1, 0, 2, 0) := by decide +kernel
theorem c_22_280 : pg_cd 22 280 = (52, 1, 0, 0, 0) := by decide +kernel
theorem c_22_281 : pg_cd 22 281 = (5, 1, 0, 0, 0) := by decide +kernel
theorem c_22_282 : pg_cd 22 282 = (45, 1, 17, 1, 0) := by decide +kernel
theorem c_22_285 : pg_cd 22 285 = (3, 1, 0, 2, 0) := by decide +kernel
theorem c_22_286 : pg_cd 22 286 = (1, 1, 0, 0, 1) := by decide +kernel
theorem c_22_287 : pg_cd 22 287 = (10, 1, 0, 0, 0) := by decide +kernel
theorem c_22_288 : pg_cd 22 288 = (52, 1, 0, 0, 0) := by decide +kernel
theorem c_22_289 : pg_cd 22 289 = (24, 1, 0, 0, 0) := by decide +kernel
theorem c_22_290 : pg_cd 22 290 = (2, 1, 0, 0, 1) := by decide +kernel
theorem c_22_291 : pg_cd 22 291 = (80, 24, 115, 0, 0) := by decide +kernel
theorem c_22_294 : pg_cd 22 294 = (38, 3, 0, 0, 55) := by decide +kernel
theorem c_22_297 : pg_cd 22 297 = (5, 1, 0, 0, 0) := by decide +kernel
theorem c_22_298 : pg_cd 22 298 = (3, 1, 0, 2, 0) := by decide +kernel
theorem c_22_299 : pg_cd 22 299 = (5, 1, 0, 0, 0) := by decide +kernel
theorem c_22_300 : pg_cd 22 300 = (45, 1, 17, 1, 0) := by decide +kernel
theorem c_22_303 : pg_cd 22 303 = (3, 1, 0, 2, 0) := by decide +kernel
theorem c_22_304 : pg_cd 22 304 = (52, 1, 0, 0, 0) := by decide +kernel
theorem c_22_305 : pg_cd 22 305 = (5, 1, 0, 0, 0) := by decide +kernel
theorem c_22_306 : pg_cd 22 306 = (45, 1, 17, 1, 0) := by decide +kernel
theorem c_22_309 : pg_cd 22 309 = (3, 1, 0, 2, 0) := by decide +kernel
theorem c_22_310 : pg_cd 22 310 = (1, 1, 0, 0, 1) := by decide +kernel
theorem c_22_311 : pg_cd 22 311 = (10, 1, 0, 0, 0) := by decide +kernel
theorem c_22_312 : pg_cd 22 312 = (52, 1, 0, 0, 0) := by decide +kernel
theorem c_22_313 : pg_cd 22 313 = (76, 0, 93, 0, 0) := by decide +kernel
theorem c_22_316 : pg_cd 22 316 = (2, 1, 0, 0, 1) := by decide +kernel
theorem c_22_317 : pg_cd 22 317 = (80, 24, 115, 0, 0) := by decide +kernel
theorem c_22_320 : pg_cd 22 320 = (38, 3, 0, 0, 29) := by decide +kernel
theorem c_22_323 : pg_cd 22 323 = (5, 1, 0, 0, 0) := by decide +kernel
theorem c_22_324 : pg_cd 22 324 = (3, 1, 0, 2, 0) := by decide +kernel
theorem c_22_325 : pg_cd 22 325 = (3, 2, 0, 9, 0) := by decide +kernel
theorem c_22_327 : pg_cd 22 327 = (36, 3, 0, 0, 17) := by decide +kernel
theorem c_22_330 : pg_cd 22 330 = (3, 1, 0, 1, 0) := by decide +kernel
theorem c_22_331 : pg_cd 22 331 = (4, 1, 0, 3, 0) := by decide +kernel
theorem c_22_332 : pg_cd 22 332 = (4, 2, 0, 5, 0) := by decide +kernel
theorem c_22_334 : pg_cd 22 334 = (81, 23, 119, 0, 0) := by decide +kernel
theorem c_22_337 : pg_cd 22 337 = (36, 3, 0, 0, 7) := by decide +kernel
theorem c_22_340 : pg_cd 22 340 = (2, 1, 0, 0, 1) := by decide +kernel
theorem c_22_341 : pg_cd 22 341 = (38, 3, 0, 0, 4) := by decide +kernel
theorem c_22_344 : pg_cd 22 344 = (2, 1, 0, 0, 0) := by decide +kernel
theorem c_22_345 : pg_cd 22 345 = (2, 1, 0, 0, 1) := by decide +kernel
theorem c_22_346 : pg_cd 22 346 = (80, 24, 115, 0, 0) := by decide +kernel
theorem c_22_349 : pg_cd 22 349 = (94, 0, 0, 0, 0) := by decide +kernel
theorem mx_22 : pg_mx 22 = 10 := by decide +kernel
theorem m_22 {d : Nat} {h : ab_H} {Q : Option Value → ab_H → Prop} {x0 : Nat} {x1 : Int32} {x2 : Int32} (t : wq d 22 0 [.ref x0, .int x1, .int x2, .retAddr 0, .retAddr 0, .retAddr 0, .retAddr 0, .retAddr 0, .retAddr 0, .retAddr 0] [] h Q) : wm d 22 [.ref x0, .int x1, .int x2] h Q := by
  unfold wm
  rw [mx_22]
  exact t
set_option maxRecDepth 20000 in
theorem t_22_0 {d : Nat} {h : ab_H} {Q : Option Value → ab_H → Prop} {x0 : Nat} {x1 : Int32} {x2 : Int32} (t : if x2 < 0 then (wq d 22 12 [.ref x0, .int x1, .int x2, .retAddr 0, .retAddr 0, .retAddr 0, .retAddr 0, .retAddr 0, .retAddr 0, .retAddr 0] [] h Q) else (if (x2 + 1) < 64 then (ab_ok h x0 101 = true ∧ ∃ j1 : Nat, ab_r h x0 1 = some j1 ∧ (ab_ok h j1 1 = true ∧ ab_in x2 (ab_s h j1).2 = true) ∧ ab_ok h x0 101 = true ∧ ∃ j2 : Nat, ab_r h x0 2 = some j2 ∧ (ab_ok h j2 1 = true ∧ ab_in (x2 + 1) (ab_s h j2).2 = true) ∧ ∀ y3 : Int64, y3 = ((ab_l h j1 (Int32.toNatClampNeg x2)) * (ab_l h j2 (Int32.toNatClampNeg (x2 + 1)))) → ab_ok h x0 101 = true ∧ ∃ j4 : Nat, ab_r h x0 1 = some j4 ∧ (ab_ok h j4 1 = true ∧ ab_in (x2 + 1) (ab_s h j4).2 = true) ∧ ab_ok h x0 101 = true ∧ ∃ j5 : Nat, ab_r h x0 2 = some j5 ∧ (ab_ok h j5 1 = true ∧ ab_in x2 (ab_s h j5).2 = true) ∧ ∀ y6 : Int64, y6 = ((ab_l h j4 (Int32.toNatClampNeg (x2 + 1))) * (ab_l h j5 (Int32.toNatClampNeg x2))) → ab_ok h x0 101 = true ∧ ∃ j7 : Nat, ab_r h x0 2 = some j7 ∧ (ab_ok h j7 1 = true ∧ ab_in x2 (ab_s h j7).2 = true) ∧ ab_ok h x0 101 = true ∧ ∃ j8 : Nat, ab_r h x0 2 = some j8 ∧ (ab_ok h j8 1 = true ∧ ab_in (x2 + 1) (ab_s h j8).2 = true) ∧ ∀ y9 : Int64, y9 = ((ab_l h j7 (Int32.toNatClampNeg x2)) * (ab_l h j8 (Int32.toNatClampNeg (x2 + 1)))) → if (lg_cmp y9 0) = 0 then (wq d 22 75 [.ref x0, .int x1, .int x2, .long y3, .retAddr 0, .long y6, .retAddr 0, .long y9, .retAddr 0, .retAddr 0] [.int 0] h Q) else (wq d 22 75 [.ref x0, .int x1, .int x2, .long y3, .retAddr 0, .long y6, .retAddr 0, .long y9, .retAddr 0, .retAddr 0] [.int 1] h Q)) else (wq d 22 12 [.ref x0, .int x1, .int x2, .retAddr 0, .retAddr 0, .retAddr 0, .retAddr 0, .retAddr 0, .retAddr 0, .retAddr 0] [] h Q))) : wq d 22 0 [.ref x0, .int x1, .int x2, .retAddr 0, .retAddr 0, .retAddr 0, .retAddr 0, .retAddr 0, .retAddr 0, .retAddr 0] [] h Q := by
  refine g3 c_22_0 rfl ?_
  refine gif c_22_1 (gbr t rfl rfl (fun hc t => ?_) (fun hc t => ?_))
  · exact t
  · refine g3 c_22_4 rfl ?_
    refine g1 c_22_5 k_1 ?_
    refine g10 c_22_6 ?_
    refine g1 c_22_7 k_64 ?_
    refine gcm c_22_9 (gbr t rfl rfl (fun hc t => ?_) (fun hc t => ?_))
    · refine g5 c_22_13 rfl ?_
      obtain ⟨ho, j1, hr, t⟩ := t
      refine g45 c_22_14 ho hr ?_
      refine g3 c_22_17 rfl ?_
      obtain ⟨ho, t⟩ := t
      refine g52 c_22_18 ho ?_
      refine g5 c_22_19 rfl ?_
      obtain ⟨ho, j2, hr, t⟩ := t
      refine g45 c_22_20 ho hr ?_
      refine g3 c_22_23 rfl ?_
      refine g1 c_22_24 k_1 ?_
      refine g10 c_22_25 ?_
      obtain ⟨ho, t⟩ := t
      refine g52 c_22_26 ho ?_
      refine g24 c_22_27 ?_
      refine g7y (Lf := fun y3 => [.ref x0, .int x1, .int x2, .long y3, .retAddr 0, .retAddr 0, .retAddr 0, .retAddr 0, .retAddr 0, .retAddr 0]) c_22_28 (fun _ => rfl) (fun y3 ey3 => ?_)
      have t := t y3 ey3
      refine g5 c_22_29 rfl ?_
      obtain ⟨ho, j4, hr, t⟩ := t
      refine g45 c_22_30 ho hr ?_
      refine g3 c_22_33 rfl ?_
      refine g1 c_22_34 k_1 ?_
      refine g10 c_22_35 ?_
      obtain ⟨ho, t⟩ := t
      refine g52 c_22_36 ho ?_
      refine g5 c_22_37 rfl ?_
      obtain ⟨ho, j5, hr, t⟩ := t
      refine g45 c_22_38 ho hr ?_
      refine g3 c_22_41 rfl ?_
      obtain ⟨ho, t⟩ := t
      refine g52 c_22_42 ho ?_
      refine g24 c_22_43 ?_
      refine g7y (Lf := fun y6 => [.ref x0, .int x1, .int x2, .long y3, .retAddr 0, .long y6, .retAddr 0, .retAddr 0, .retAddr 0, .retAddr 0]) c_22_44 (fun _ => rfl) (fun y6 ey6 => ?_)
      have t := t y6 ey6
      refine g5 c_22_46 rfl ?_
      obtain ⟨ho, j7, hr, t⟩ := t
      refine g45 c_22_47 ho hr ?_
      refine g3 c_22_50 rfl ?_
      obtain ⟨ho, t⟩ := t
      refine g52 c_22_51 ho ?_
      refine g5 c_22_52 rfl ?_
      obtain ⟨ho, j8, hr, t⟩ := t
      refine g45 c_22_53 ho hr ?_
      refine g3 c_22_56 rfl ?_
      refine g1 c_22_57 k_1 ?_
      refine g10 c_22_58 ?_
      obtain ⟨ho, t⟩ := t
      refine g52 c_22_59 ho ?_
      refine g24 c_22_60 ?_
      refine g7y (Lf := fun y9 => [.ref x0, .int x1, .int x2, .long y3, .retAddr 0, .long y6, .retAddr 0, .long y9, .retAddr 0, .retAddr 0]) c_22_61 (fun _ => rfl) (fun y9 ey9 => ?_)
      have t := t y9 ey9
      refine g4 c_22_63 rfl ?_
      refine g2 c_22_65 kl_0 ?_
      refine g28 c_22_66 ?_
      refine gif c_22_67 (gbr t rfl rfl (fun hc t => ?_) (fun hc t => ?_))
      · refine g1 c_22_74 k_0 ?_
        exact t
      · refine g1 c_22_70 k_1 ?_
        refine g38 c_22_71 rfl ?_
        exact t
    · exact t
set_option maxRecDepth 20000 in
theorem t_22_12 {d : Nat} {h : ab_H} {Q : Option Value → ab_H → Prop} {x0 : Nat} {x1 : Int32} {x2 : Int32} (t : Q none h) : wq d 22 12 [.ref x0, .int x1, .int x2, .retAddr 0, .retAddr 0, .retAddr 0, .retAddr 0, .retAddr 0, .retAddr 0, .retAddr 0] [] h Q := by
  exact g94 c_22_12 t
set_option maxRecDepth 20000 in
theorem t_22_75 {d : Nat} {h : ab_H} {Q : Option Value → ab_H → Prop} {x0 : Nat} {x1 : Int32} {x2 : Int32} {x3 : Int64} {x5 : Int64} {x7 : Int64} {s0 : Int32} (t : if x1 = 14 then (ab_ok h x0 101 = true ∧ ∃ j1 : Nat, ab_r h x0 1 = some j1 ∧ (ab_ok h j1 1 = true ∧ ab_in x2 (ab_s h j1).2 = true) ∧ ab_ok h x0 101 = true ∧ ∃ j2 : Nat, ab_r h x0 1 = some j2 ∧ (ab_ok h j2 1 = true ∧ ab_in (x2 + 1) (ab_s h j2).2 = true) ∧ 7 ≤ (d + 1) ∧ ab_ok h x0 101 = true ∧ wm d 24 [.ref x0, .int x2, .long (if (ab_l h j2 (Int32.toNatClampNeg (x2 + 1))) < (ab_l h j1 (Int32.toNatClampNeg x2)) then (ab_l h j1 (Int32.toNatClampNeg x2)) else (ab_l h j2 (Int32.toNatClampNeg (x2 + 1)))), .long 1] h (fun r9 h9 => wq (d + 1) 22 320 [.ref x0, .int x1, .int x2, .long x3, .retAddr 0, .long x5, .retAddr 0, .long x7, .retAddr 0, .int s0] (r9.toList ++ []) h9 Q)) else (if x1 = 15 then (ab_ok h x0 101 = true ∧ ∃ j3 : Nat, ab_r h x0 1 = some j3 ∧ (ab_ok h j3 1 = true ∧ ab_in x2 (ab_s h j3).2 = true) ∧ ab_ok h x0 101 = true ∧ ∃ j4 : Nat, ab_r h x0 1 = some j4 ∧ (ab_ok h j4 1 = true ∧ ab_in (x2 + 1) (ab_s h j4).2 = true) ∧ ab_ok h x0 101 = true ∧ wm d 24 [.ref x0, .int x2, .long ((ab_l h j3 (Int32.toNatClampNeg x2)) * (ab_l h j4 (Int32.toNatClampNeg (x2 + 1)))), .long 1] h (fun r9 h9 => wq (d + 1) 22 294 [.ref x0, .int x1, .int x2, .long x3, .retAddr 0, .long x5, .retAddr 0, .long x7, .retAddr 0, .int s0] (r9.toList ++ []) h9 Q)) else (if x1 = 16 then (if s0 = 0 then (wq (d + 1) 22 344 [.ref x0, .int x1, .int x2, .long x3, .retAddr 0, .long x5, .retAddr 0, .long x7, .retAddr 0, .int s0] [.int x2, .ref x0] h Q) else (wm d 23 [.int x1, .long x3, .long x5] h (fun r9 h9 => wq (d + 1) 22 337 [.ref x0, .int x1, .int x2, .long x3, .retAddr 0, .long x5, .retAddr 0, .long x7, .retAddr 0, .int s0] (r9.toList ++ [.int x2, .ref x0]) h9 Q))) else (if x1 = 17 then (if s0 = 0 then (wq (d + 1) 22 344 [.ref x0, .int x1, .int x2, .long x3, .retAddr 0, .long x5, .retAddr 0, .long x7, .retAddr 0, .int s0] [.int x2, .ref x0] h Q) else (wm d 23 [.int x1, .long x3, .long x5] h (fun r9 h9 => wq (d + 1) 22 337 [.ref x0, .int x1, .int x2, .long x3, .retAddr 0, .long x5, .retAddr 0, .long x7, .retAddr 0, .int s0] (r9.toList ++ [.int x2, .ref x0]) h9 Q))) else (if x1 = 18 then (if s0 = 0 then (wq (d + 1) 22 344 [.ref x0, .int x1, .int x2, .long x3, .retAddr 0, .long x5, .retAddr 0, .long x7, .retAddr 0, .int s0] [.int x2, .ref x0] h Q) else (wm d 23 [.int x1, .long x3, .long x5] h (fun r9 h9 => wq (d + 1) 22 337 [.ref x0, .int x1, .int x2, .long x3, .retAddr 0, .long x5, .retAddr 0, .long x7, .retAddr 0, .int s0] (r9.toList ++ [.int x2, .ref x0]) h9 Q))) else (if x1 = 19 then (if s0 = 0 then (wq (d + 1) 22 344 [.ref x0, .int x1, .int x2, .long x3, .retAddr 0, .long x5, .retAddr 0, .long x7, .retAddr 0, .int s0] [.int x2, .ref x0] h Q) else (wm d 23 [.int x1, .long x3, .long x5] h (fun r9 h9 => wq (d + 1) 22 337 [.ref x0, .int x1, .int x2, .long x3, .retAddr 0, .long x5, .retAddr 0, .long x7, .retAddr 0, .int s0] (r9.toList ++ [.int x2, .ref x0]) h9 Q))) else (if x1 = 20 then (if s0 = 0 then (wq (d + 1) 22 344 [.ref x0, .int x1, .int x2, .long x3, .retAddr 0, .long x5, .retAddr 0, .long x7, .retAddr 0, .int s0] [.int x2, .ref x0] h Q) else (wm d 23 [.int x1, .long x3, .long x5] h (fun r9 h9 => wq (d + 1) 22 337 [.ref x0, .int x1, .int x2, .long x3, .retAddr 0, .long x5, .retAddr 0, .long x7, .retAddr 0, .int s0] (r9.toList ++ [.int x2, .ref x0]) h9 Q))) else (if x1 = 21 then (7 ≤ (d + 1) ∧ ab_ok h x0 101 = true ∧ wm d 24 [.ref x0, .int x2, .long (if x5 < x3 then x5 else x3), .long x7] h (fun r9 h9 => wq (d + 1) 22 254 [.ref x0, .int x1, .int x2, .long x3, .retAddr 0, .long x5, .retAddr 0, .long x7, .retAddr 0, .int s0] (r9.toList ++ []) h9 Q)) else (if x1 = 22 then (7 ≤ (d + 1) ∧ ab_ok h x0 101 = true ∧ wm d 24 [.ref x0, .int x2, .long (if x5 < x3 then x3 else x5), .long x7] h (fun r9 h9 => wq (d + 1) 22 270 [.ref x0, .int x1, .int x2, .long x3, .retAddr 0, .long x5, .retAddr 0, .long x7, .retAddr 0, .int s0] (r9.toList ++ []) h9 Q)) else (if x1 = 23 then (if s0 = 0 then (wq (d + 1) 22 344 [.ref x0, .int x1, .int x2, .long x3, .retAddr 0, .long x5, .retAddr 0, .long x7, .retAddr 0, .int s0] [.int x2, .ref x0] h Q) else (wm d 23 [.int x1, .long x3, .long x5] h (fun r9 h9 => wq (d + 1) 22 337 [.ref x0, .int x1, .int x2, .long x3, .retAddr 0, .long x5, .retAddr 0, .long x7, .retAddr 0, .int s0] (r9.toList ++ [.int x2, .ref x0]) h9 Q))) else (if x1 = 24 then (if s0 = 0 then (wq (d + 1) 22 344 [.ref x0, .int x1, .int x2, .long x3, .retAddr 0, .long x5, .retAddr 0, .long x7, .retAddr 0, .int s0] [.int x2, .ref x0] h Q) else (wm d 23 [.int x1, .long x3, .long x5] h (fun r9 h9 => wq (d + 1) 22 337 [.ref x0, .int x1, .int x2, .long x3, .retAddr 0, .long x5, .retAddr 0, .long x7, .retAddr 0, .int s0] (r9.toList ++ [.int x2, .ref x0]) h9 Q))) else (if x1 = 25 then (if s0 = 0 then (wq (d + 1) 22 344 [.ref x0, .int x1, .int x2, .long x3, .retAddr 0, .long x5, .retAddr 0, .long x7, .retAddr 0, .int s0] [.int x2, .ref x0] h Q) else (wm d 23 [.int x1, .long x3, .long x5] h (fun r9 h9 => wq (d + 1) 22 337 [.ref x0, .int x1, .int x2, .long x3, .retAddr 0, .long x5, .retAddr 0, .long x7, .retAddr 0, .int s0] (r9.toList ++ [.int x2, .ref x0]) h9 Q))) else (if x1 = 26 then (if s0 = 0 then (wq (d + 1) 22 344 [.ref x0, .int x1, .int x2, .long x3, .retAddr 0, .long x5, .retAddr 0, .long x7, .retAddr 0, .int s0] [.int x2, .ref x0] h Q) else (wm d 23 [.int x1, .long x3, .long x5] h (fun r9 h9 => wq (d + 1) 22 337 [.ref x0, .int x1, .int x2, .long x3, .retAddr 0, .long x5, .retAddr 0, .long x7, .retAddr 0, .int s0] (r9.toList ++ [.int x2, .ref x0]) h9 Q))) else (if x1 = 27 then (if s0 = 0 then (wq (d + 1) 22 344 [.ref x0, .int x1, .int x2, .long x3, .retAddr 0, .long x5, .retAddr 0, .long x7, .retAddr 0, .int s0] [.int x2, .ref x0] h Q) else (wm d 23 [.int x1, .long x3, .long x5] h (fun r9 h9 => wq (d + 1) 22 337 [.ref x0, .int x1, .int x2, .long x3, .retAddr 0, .long x5, .retAddr 0, .long x7, .retAddr 0, .int s0] (r9.toList ++ [.int x2, .ref x0]) h9 Q))) else (if x1 = 28 then (if s0 = 0 then (wq (d + 1) 22 344 [.ref x0, .int x1, .int x2, .long x3, .retAddr 0, .long x5, .retAddr 0, .long x7, .retAddr 0, .int s0] [.int x2, .ref x0] h Q) else (wm d 23 [.int x1, .long x3, .long x5] h (fun r9 h9 => wq (d + 1) 22 337 [.ref x0, .int x1, .int x2, .long x3, .retAddr 0, .long x5, .retAddr 0, .long x7, .retAddr 0, .int s0] (r9.toList ++ [.int x2, .ref x0]) h9 Q))) else (if x1 = 29 then (ab_ok h x0 101 = true ∧ wm d 24 [.ref x0, .int x2, .long (x3 + x5), .long x7] h (fun r9 h9 => wq (d + 1) 22 179 [.ref x0, .int x1, .int x2, .long x3, .retAddr 0, .long x5, .retAddr 0, .long x7, .retAddr 0, .int s0] (r9.toList ++ []) h9 Q)) else (if x1 = 30 then (ab_ok h x0 101 = true ∧ wm d 24 [.ref x0, .int x2, .long (x3 - x5), .long x7] h (fun r9 h9 => wq (d + 1) 22 193 [.ref x0, .int x1, .int x2, .long x3, .retAddr 0, .long x5, .retAddr 0, .long x7, .retAddr 0, .int s0] (r9.toList ++ []) h9 Q)) else (if x1 = 31 then (ab_ok h x0 101 = true ∧ ∃ j5 : Nat, ab_r h x0 1 = some j5 ∧ (ab_ok h j5 1 = true ∧ ab_in x2 (ab_s h j5).2 = true) ∧ ab_ok h x0 101 = true ∧ ∃ j6 : Nat, ab_r h x0 1 = some j6 ∧ (ab_ok h j6 1 = true ∧ ab_in (x2 + 1) (ab_s h j6).2 = true) ∧ ab_ok h x0 101 = true ∧ wm d 24 [.ref x0, .int x2, .long ((ab_l h j5 (Int32.toNatClampNeg x2)) * (ab_l h j6 (Int32.toNatClampNeg (x2 + 1)))), .long x7] h (fun r9 h9 => wq (d + 1) 22 218 [.ref x0, .int x1, .int x2, .long x3, .retAddr 0, .long x5, .retAddr 0, .long x7, .retAddr 0, .int s0] (r9.toList ++ []) h9 Q)) else (if x1 = 32 then (if s0 = 0 then (wq (d + 1) 22 235 [.ref x0, .int x1, .int x2, .long x3, .retAddr 0, .long x5, .retAddr 0, .long x7, .retAddr 0, .int s0] [.long 0, .long x3, .int x2, .ref x0] h Q) else (wq (d + 1) 22 235 [.ref x0, .int x1, .int x2, .long x3, .retAddr 0, .long x5, .retAddr 0, .long x7, .retAddr 0, .int s0] [.long x5, .long x3, .int x2, .ref x0] h Q)) else (if s0 = 0 then (wq (d + 1) 22 344 [.ref x0, .int x1, .int x2, .long x3, .retAddr 0, .long x5, .retAddr 0, .long x7, .retAddr 0, .int s0] [.int x2, .ref x0] h Q) else (wm d 23 [.int x1, .long x3, .long x5] h (fun r9 h9 => wq (d + 1) 22 337 [.ref x0, .int x1, .int x2, .long x3, .retAddr 0, .long x5, .retAddr 0, .long x7, .retAddr 0, .int s0] (r9.toList ++ [.int x2, .ref x0]) h9 Q)))))))))))))))))))))) : wq (d + 1) 22 75 [.ref x0, .int x1, .int x2, .long x3, .retAddr 0, .long x5, .retAddr 0, .long x7, .retAddr 0, .retAddr 0] [.int s0] h Q := by
  refine g6 (L' := [.ref x0, .int x1, .int x2, .long x3, .retAddr 0, .long x5, .retAddr 0, .long x7, .retAddr 0, .int s0]) c_22_75 rfl ?_
  refine g3 c_22_77 rfl ?_
  by_cases e0 : x1 = 14
  · rw [if_pos e0] at t
    refine g42 (o := 219) c_22_78 sw_0 (by rw [e0]; decide) (by rw [e0]; decide) rfl ?_
    refine g5 c_22_297 rfl ?_
    refine g3 c_22_298 rfl ?_
    refine g5 c_22_299 rfl ?_
    obtain ⟨ho, j1, hr, t⟩ := t
    refine g45 c_22_300 ho hr ?_
    refine g3 c_22_303 rfl ?_
    obtain ⟨ho, t⟩ := t
    refine g52 c_22_304 ho ?_
    refine g5 c_22_305 rfl ?_
    obtain ⟨ho, j2, hr, t⟩ := t
    refine g45 c_22_306 ho hr ?_
    refine g3 c_22_309 rfl ?_
    refine g1 c_22_310 k_1 ?_
    refine g10 c_22_311 ?_
    obtain ⟨ho, t⟩ := t
    refine g52 c_22_312 ho ?_
    obtain ⟨h7, t⟩ := t
    refine g76 c_22_313 (Nat.le_of_ble_eq_true rfl) h7 ?_
    refine g2 c_22_316 kl_1 ?_
    exact g80 (As := [.int x2, .long (if (ab_l h j2 (Int32.toNatClampNeg (x2 + 1))) < (ab_l h j1 (Int32.toNatClampNeg x2)) then (ab_l h j1 (Int32.toNatClampNeg x2)) else (ab_l h j2 (Int32.toNatClampNeg (x2 + 1)))), .long 1]) (rest := []) c_22_317 rfl rfl (Nat.le_of_ble_eq_true rfl) (Nat.le_of_ble_eq_true rfl) t.1 t.2
  rw [if_neg e0] at t
  by_cases e1 : x1 = 15
  · rw [if_pos e1] at t
    refine g42 (o := 195) c_22_78 sw_0 (by rw [e1]; decide) (by rw [e1]; decide) rfl ?_
    refine g5 c_22_273 rfl ?_
    refine g3 c_22_274 rfl ?_
    refine g5 c_22_275 rfl ?_
    obtain ⟨ho, j3, hr, t⟩ := t
    refine g45 c_22_276 ho hr ?_
    refine g3 c_22_279 rfl ?_
    obtain ⟨ho, t⟩ := t
    refine g52 c_22_280 ho ?_
    refine g5 c_22_281 rfl ?_
    obtain ⟨ho, j4, hr, t⟩ := t
    refine g45 c_22_282 ho hr ?_
    refine g3 c_22_285 rfl ?_
    refine g1 c_22_286 k_1 ?_
    refine g10 c_22_287 ?_
    obtain ⟨ho, t⟩ := t
    refine g52 c_22_288 ho ?_
    refine g24 c_22_289 ?_
    refine g2 c_22_290 kl_1 ?_
    exact g80 (As := [.int x2, .long ((ab_l h j3 (Int32.toNatClampNeg x2)) * (ab_l h j4 (Int32.toNatClampNeg (x2 + 1)))), .long 1]) (rest := []) c_22_291 rfl rfl (Nat.le_of_ble_eq_true rfl) (Nat.le_of_ble_eq_true rfl) t.1 t.2
  rw [if_neg e1] at t
  by_cases e2 : x1 = 16
  · rw [if_pos e2] at t
    refine g42 (o := 245) c_22_78 sw_0 (by rw [e2]; decide) (by rw [e2]; decide) rfl ?_
    refine g5 c_22_323 rfl ?_
    refine g3 c_22_324 rfl ?_
    refine g3 c_22_325 rfl ?_
    refine gif c_22_327 (gbr t rfl rfl (fun hc t => ?_) (fun hc t => ?_))
    · exact t
    · refine g3 c_22_330 rfl ?_
      refine g4 c_22_331 rfl ?_
      refine g4 c_22_332 rfl ?_
      exact g81 (As := [.int x1, .long x3, .long x5]) (rest := [.int x2, .ref x0]) c_22_334 rfl rfl (Nat.le_of_ble_eq_true rfl) (Nat.le_of_ble_eq_true rfl) t
  rw [if_neg e2] at t
  by_cases e3 : x1 = 17
  · rw [if_pos e3] at t
    refine g42 (o := 245) c_22_78 sw_0 (by rw [e3]; decide) (by rw [e3]; decide) rfl ?_
    refine g5 c_22_323 rfl ?_
    refine g3 c_22_324 rfl ?_
    refine g3 c_22_325 rfl ?_
    refine gif c_22_327 (gbr t rfl rfl (fun hc t => ?_) (fun hc t => ?_))
    · exact t
    · refine g3 c_22_330 rfl ?_
      refine g4 c_22_331 rfl ?_
      refine g4 c_22_332 rfl ?_
      exact g81 (As := [.int x1, .long x3, .long x5]) (rest := [.int x2, .ref x0]) c_22_334 rfl rfl (Nat.le_of_ble_eq_true rfl) (Nat.le_of_ble_eq_true rfl) t
  rw [if_neg e3] at t
  by_cases e4 : x1 = 18
  · rw [if_pos e4] at t
    refine g42 (o := 245) c_22_78 sw_0 (by rw [e4]; decide) (by rw [e4]; decide) rfl ?_
    refine g5 c_22_323 rfl ?_
    refine g3 c_22_324 rfl ?_
    refine g3 c_22_325 rfl ?_
    refine gif c_22_327 (gbr t rfl rfl (fun hc t => ?_) (fun hc t => ?_))
    · exact t
    · refine g3 c_22_330 rfl ?_
      refine g4 c_22_331 rfl ?_
      refine g4 c_22_332 rfl ?_
      exact g81 (As := [.int x1, .long x3, .long x5]) (rest := [.int x2, .ref x0]) c_22_334 rfl rfl (Nat.le_of_ble_eq_true rfl) (Nat.le_of_ble_eq_true rfl) t
  rw [if_neg e4] at t
  by_cases e5 : x1 = 19
  · rw [if_pos e5] at t
    refine g42 (o := 245) c_22_78 sw_0 (by rw [e5]; decide) (by rw [e5]; decide) rfl ?_
    refine g5 c_22_323 rfl ?_
    refine g3 c_22_324 rfl ?_
    refine g3 c_22_325 rfl ?_
    refine gif c_22_327 (gbr t rfl rfl (fun hc t => ?_) (fun hc t => ?_))
    · exact t
    · refine g3 c_22_330 rfl ?_
      refine g4 c_22_331 rfl ?_
      refine g4 c_22_332 rfl ?_
      exact g81 (As := [.int x1, .long x3, .long x5]) (rest := [.int x2, .ref x0]) c_22_334 rfl rfl (Nat.le_of_ble_eq_true rfl) (Nat.le_of_ble_eq_true rfl) t
  rw [if_neg e5] at t
  by_cases e6 : x1 = 20
  · rw [if_pos e6] at t
    refine g42 (o := 245) c_22_78 sw_0 (by rw [e6]; decide) (by rw [e6]; decide) rfl ?_
    refine g5 c_22_323 rfl ?_
    refine g3 c_22_324 rfl ?_
    refine g3 c_22_325 rfl ?_
    refine gif c_22_327 (gbr t rfl rfl (fun hc t => ?_) (fun hc t => ?_))
    · exact t
    · refine g3 c_22_330 rfl ?_
      refine g4 c_22_331 rfl ?_
      refine g4 c_22_332 rfl ?_
      exact g81 (As := [.int x1, .long x3, .long x5]) (rest := [.int x2, .ref x0]) c_22_334 rfl rfl (Nat.le_of_ble_eq_true rfl) (Nat.le_of_ble_eq_true rfl) t
  rw [if_neg e6] at t
  by_cases e7 : x1 = 21
  · rw [if_pos e7] at t
    refine g42 (o := 163) c_22_78 sw_0 (by rw [e7]; decide) (by rw [e7]; decide) rfl ?_
    refine g5 c_22_241 rfl ?_
    refine g3 c_22_242 rfl ?_
    refine g4 c_22_243 rfl ?_
    refine g4 c_22_244 rfl ?_
    obtain ⟨h7, t⟩ := t
    refine g77 c_22_246 (Nat.le_of_ble_eq_true rfl) h7 ?_
    refine g4 c_22_249 rfl ?_
    exact g80 (As := [.int x2, .long (if x5 < x3 then x5 else x3), .long x7]) (rest := []) c_22_251 rfl rfl (Nat.le_of_ble_eq_true rfl) (Nat.le_of_ble_eq_true rfl) t.1 t.2
  rw [if_neg e7] at t
  by_cases e8 : x1 = 22
  · rw [if_pos e8] at t
    refine g42 (o := 179) c_22_78 sw_0 (by rw [e8]; decide) (by rw [e8]; decide) rfl ?_
    refine g5 c_22_257 rfl ?_
    refine g3 c_22_258 rfl ?_
    refine g4 c_22_259 rfl ?_
    refine g4 c_22_260 rfl ?_
    obtain ⟨h7, t⟩ := t
    refine g76 c_22_262 (Nat.le_of_ble_eq_true rfl) h7 ?_
    refine g4 c_22_265 rfl ?_
    exact g80 (As := [.int x2, .long (if x5 < x3 then x3 else x5), .long x7]) (rest := []) c_22_267 rfl rfl (Nat.le_of_ble_eq_true rfl) (Nat.le_of_ble_eq_true rfl) t.1 t.2
  rw [if_neg e8] at t
  by_cases e9 : x1 = 23
  · rw [if_pos e9] at t
    refine g42 (o := 245) c_22_78 sw_0 (by rw [e9]; decide) (by rw [e9]; decide) rfl ?_
    refine g5 c_22_323 rfl ?_
    refine g3 c_22_324 rfl ?_
    refine g3 c_22_325 rfl ?_
    refine gif c_22_327 (gbr t rfl rfl (fun hc t => ?_) (fun hc t => ?_))
    · exact t
    · refine g3 c_22_330 rfl ?_
      refine g4 c_22_331 rfl ?_
      refine g4 c_22_332 rfl ?_
      exact g81 (As := [.int x1, .long x3, .long x5]) (rest := [.int x2, .ref x0]) c_22_334 rfl rfl (Nat.le_of_ble_eq_true rfl) (Nat.le_of_ble_eq_true rfl) t
  rw [if_neg e9] at t
  by_cases e10 : x1 = 24
  · rw [if_pos e10] at t
    refine g42 (o := 245) c_22_78 sw_0 (by rw [e10]; decide) (by rw [e10]; decide) rfl ?_
    refine g5 c_22_323 rfl ?_
    refine g3 c_22_324 rfl ?_
    refine g3 c_22_325 rfl ?_
    refine gif c_22_327 (gbr t rfl rfl (fun hc t => ?_) (fun hc t => ?_))
    · exact t
    · refine g3 c_22_330 rfl ?_
      refine g4 c_22_331 rfl ?_
      refine g4 c_22_332 rfl ?_
      exact g81 (As := [.int x1, .long x3, .long x5]) (rest := [.int x2, .ref x0]) c_22_334 rfl rfl (Nat.le_of_ble_eq_true rfl) (Nat.le_of_ble_eq_true rfl) t
  rw [if_neg e10] at t
  by_cases e11 : x1 = 25
  · rw [if_pos e11] at t
    refine g42 (o := 245) c_22_78 sw_0 (by rw [e11]; decide) (by rw [e11]; decide) rfl ?_
    refine g5 c_22_323 rfl ?_
    refine g3 c_22_324 rfl ?_
    refine g3 c_22_325 rfl ?_
    refine gif c_22_327 (gbr t rfl rfl (fun hc t => ?_) (fun hc t => ?_))
    · exact t
    · refine g3 c_22_330 rfl ?_
      refine g4 c_22_331 rfl ?_
      refine g4 c_22_332 rfl ?_
      exact g81 (As := [.int x1, .long x3, .long x5]) (rest := [.int x2, .ref x0]) c_22_334 rfl rfl (Nat.le_of_ble_eq_true rfl) (Nat.le_of_ble_eq_true rfl) t
  rw [if_neg e11] at t
  by_cases e12 : x1 = 26
  · rw [if_pos e12] at t
    refine g42 (o := 245) c_22_78 sw_0 (by rw [e12]; decide) (by rw [e12]; decide) rfl ?_
    refine g5 c_22_323 rfl ?_
    refine g3 c_22_324 rfl ?_
    refine g3 c_22_325 rfl ?_
    refine gif c_22_327 (gbr t rfl rfl (fun hc t => ?_) (fun hc t => ?_))
    · exact t
    · refine g3 c_22_330 rfl ?_
      refine g4 c_22_331 rfl ?_
      refine g4 c_22_332 rfl ?_
      exact g81 (As := [.int x1, .long x3, .long x5]) (rest := [.int x2, .ref x0]) c_22_334 rfl rfl (Nat.le_of_ble_eq_true rfl) (Nat.le_of_ble_eq_true rfl) t
  rw [if_neg e12] at t
  by_cases e13 : x1 = 27
  · rw [if_pos e13] at t
    refine g42 (o := 245) c_22_78 sw_0 (by rw [e13]; decide) (by rw [e13]; decide) rfl ?_
    refine g5 c_22_323 rfl ?_
    refine g3 c_22_324 rfl ?_
    refine g3 c_22_325 rfl ?_
    refine gif c_22_327 (gbr t rfl rfl (fun hc t => ?_) (fun hc t => ?_))
    · exact t
    · refine g3 c_22_330 rfl ?_
      refine g4 c_22_331 rfl ?_
      refine g4 c_22_332 rfl ?_
      exact g81 (As := [.int x1, .long x3, .long x5]) (rest := [.int x2, .ref x0]) c_22_334 rfl rfl (Nat.le_of_ble_eq_true rfl) (Nat.le_of_ble_eq_true rfl) t
  rw [if_neg e13] at t
  by_cases e14 : x1 = 28
  · rw [if_pos e14] at t
    refine g42 (o := 245) c_22_78 sw_0 (by rw [e14]; decide) (by rw [e14]; decide) rfl ?_
    refine g5 c_22_323 rfl ?_
    refine g3 c_22_324 rfl ?_
    refine g3 c_22_325 rfl ?_
    refine gif c_22_327 (gbr t rfl rfl (fun hc t => ?_) (fun hc t => ?_))
    · exact t
    · refine g3 c_22_330 rfl ?_
      refine g4 c_22_331 rfl ?_
      refine g4 c_22_332 rfl ?_
      exact g81 (As := [.int x1, .long x3, .long x5]) (rest := [.int x2, .ref x0]) c_22_334 rfl rfl (Nat.le_of_ble_eq_true rfl) (Nat.le_of_ble_eq_true rfl) t
  rw [if_neg e14] at t
  by_cases e15 : x1 = 29
  · rw [if_pos e15] at t
    refine g42 (o := 90) c_22_78 sw_0 (by rw [e15]; decide) (by rw [e15]; decide) rfl ?_
    refine g5 c_22_168 rfl ?_
    refine g3 c_22_169 rfl ?_
    refine g4 c_22_170 rfl ?_
    refine g4 c_22_171 rfl ?_
    refine g22 c_22_173 ?_
    refine g4 c_22_174 rfl ?_
    exact g80 (As := [.int x2, .long (x3 + x5), .long x7]) (rest := []) c_22_176 rfl rfl (Nat.le_of_ble_eq_true rfl) (Nat.le_of_ble_eq_true rfl) t.1 t.2
  rw [if_neg e15] at t
  by_cases e16 : x1 = 30
  · rw [if_pos e16] at t
    refine g42 (o := 104) c_22_78 sw_0 (by rw [e16]; decide) (by rw [e16]; decide) rfl ?_
    refine g5 c_22_182 rfl ?_
    refine g3 c_22_183 rfl ?_
    refine g4 c_22_184 rfl ?_
    refine g4 c_22_185 rfl ?_
    refine g23 c_22_187 ?_
    refine g4 c_22_188 rfl ?_
    exact g80 (As := [.int x2, .long (x3 - x5), .long x7]) (rest := []) c_22_190 rfl rfl (Nat.le_of_ble_eq_true rfl) (Nat.le_of_ble_eq_true rfl) t.1 t.2
  rw [if_neg e16] at t
  by_cases e17 : x1 = 31
  · rw [if_pos e17] at t
    refine g42 (o := 118) c_22_78 sw_0 (by rw [e17]; decide) (by rw [e17]; decide) rfl ?_
    refine g5 c_22_196 rfl ?_
    refine g3 c_22_197 rfl ?_
    refine g5 c_22_198 rfl ?_
    obtain ⟨ho, j5, hr, t⟩ := t
    refine g45 c_22_199 ho hr ?_
    refine g3 c_22_202 rfl ?_
    obtain ⟨ho, t⟩ := t
    refine g52 c_22_203 ho ?_
    refine g5 c_22_204 rfl ?_
    obtain ⟨ho, j6, hr, t⟩ := t
    refine g45 c_22_205 ho hr ?_
    refine g3 c_22_208 rfl ?_
    refine g1 c_22_209 k_1 ?_
    refine g10 c_22_210 ?_
    obtain ⟨ho, t⟩ := t
    refine g52 c_22_211 ho ?_
    refine g24 c_22_212 ?_
    refine g4 c_22_213 rfl ?_
    exact g80 (As := [.int x2, .long ((ab_l h j5 (Int32.toNatClampNeg x2)) * (ab_l h j6 (Int32.toNatClampNeg (x2 + 1)))), .long x7]) (rest := []) c_22_215 rfl rfl (Nat.le_of_ble_eq_true rfl) (Nat.le_of_ble_eq_true rfl) t.1 t.2
  rw [if_neg e17] at t
  by_cases e18 : x1 = 32
  · rw [if_pos e18] at t
    refine g42 (o := 143) c_22_78 sw_0 (by rw [e18]; decide) (by rw [e18]; decide) rfl ?_
    refine g5 c_22_221 rfl ?_
    refine g3 c_22_222 rfl ?_
    refine g4 c_22_223 rfl ?_
    refine g3 c_22_224 rfl ?_
    refine gif c_22_226 (gbr t rfl rfl (fun hc t => ?_) (fun hc t => ?_))
    · refine g2 c_22_234 kl_0 ?_
      exact t
    · refine g4 c_22_229 rfl ?_
      refine g38 c_22_231 rfl ?_
      exact t
  rw [if_neg e18] at t
  refine g42d c_22_78 sw_0 (gsw_out (n := 19) (by decide) (by decide) (fun i hi => ?_)) rfl ?_
  · rcases (show i = 0 ∨ i = 1 ∨ i = 2 ∨ i = 3 ∨ i = 4 ∨ i = 5 ∨ i = 6 ∨ i = 7 ∨ i = 8 ∨ i = 9 ∨ i = 10 ∨ i = 11 ∨ i = 12 ∨ i = 13 ∨ i = 14 ∨ i = 15 ∨ i = 16 ∨ i = 17 ∨ i = 18 by omega) with rfl | rfl | rfl | rfl | rfl | rfl | rfl | rfl | rfl | rfl | rfl | rfl | rfl | rfl | rfl | rfl | rfl | rfl | rfl
    · exact fun q => e0 (q.trans k_14)
    · exact fun q => e1 (q.trans k_15)
    · exact fun q => e2 (q.trans k_16)
    · exact fun q => e3 (q.trans k_17)
    · exact fun q => e4 (q.trans k_18)
    · exact fun q => e5 (q.trans k_19)
    · exact fun q => e6 (q.trans k_20)
    · exact fun q => e7 (q.trans k_21)
    · exact fun q => e8 (q.trans k_22)
    · exact fun q => e9 (q.trans k_23)
    · exact fun q => e10 (q.trans k_24)
    · exact fun q => e11 (q.trans k_25)
    · exact fun q => e12 (q.trans k_26)
    · exact fun q => e13 (q.trans k_27)
    · exact fun q => e14 (q.trans k_28)
    · exact fun q => e15 (q.trans k_29)
    · exact fun q => e16 (q.trans k_30)
    · exact fun q => e17 (q.trans k_31)
    · exact fun q => e18 (q.trans k_32)
  refine g5 c_22_323 rfl ?_
  refine g3 c_22_324 rfl ?_
  refine g3 c_22_325 rfl ?_
  refine gif c_22_327 (gbr t rfl rfl (fun hc t => ?_) (fun hc t => ?_))
  · exact t
  · refine g3 c_22_330 rfl ?_
    refine g4 c_22_331 rfl ?_
    refine g4 c_22_332 rfl ?_
    exact g81 (As := [.int x1, .long x3, .long x5]) (rest := [.int x2, .ref x0]) c_22_334 rfl rfl (Nat.le_of_ble_eq_true rfl) (Nat.le_of_ble_eq_true rfl) t
set_option maxRecDepth 20000 in
theorem t_22_179 {d : Nat} {h : ab_H} {Q : Option Value → ab_H → Prop} {x0 : Nat} {x1 : Int32} {x2 : Int32} {x3 : Int64} {x5 : Int64} {x7 : Int64} {x9 : Int32} (t : wq d 22 349 [.ref x0, .int x1, .int x2, .long x3, .retAddr 0, .long x5, .retAddr 0, .long x7, .retAddr 0, .int x9] [] h Q) : wq d 22 179 [.ref x0, .int x1, .int x2, .long x3, .retAddr 0, .long x5, .retAddr 0, .long x7, .retAddr 0, .int x9] [] h Q := by
  refine g38 c_22_179 rfl ?_
  exact t
set_option maxRecDepth 20000 in
theorem t_22_193 {d : Nat} {h : ab_H} {Q : Option Value → ab_H → Prop} {x0 : Nat} {x1 : Int32} {x2 : Int32} {x3 : Int64} {x5 : Int64} {x7 : Int64} {x9 : Int32} (t : wq d 22 349 [.ref x0, .int x1, .int x2, .long x3, .retAddr 0, .long x5, .retAddr 0, .long x7, .retAddr 0, .int x9] [] h Q) : wq d 22 193 [.ref x0, .int x1, .int x2, .long x3, .retAddr 0, .long x5, .retAddr 0, .long x7, .retAddr 0, .int x9] [] h Q := by
  refine g38 c_22_193 rfl ?_
  exact t
set_option maxRecDepth 20000 in
theorem t_22_218 {d : Nat} {h : ab_H} {Q : Option Value → ab_H → Prop} {x0 : Nat} {x1 : Int32} {x2 : Int32} {x3 : Int64} {x5 : Int64} {x7 : Int64} {x9 : Int32} (t : wq d 22 349 [.ref x0, .int x1, .int x2, .long x3, .retAddr 0, .long x5, .retAddr 0, .long x7, .retAddr 0, .int x9] [] h Q) : wq d 22 218 [.ref x0, .int x1, .int x2, .long x3, .retAddr 0, .long x5, .retAddr 0, .long x7, .retAddr 0, .int x9] [] h Q := by
  refine g38 c_22_218 rfl ?_
  exact t
set_option maxRecDepth 20000 in
theorem t_22_235 {d : Nat} {h : ab_H} {Q : Option Value → ab_H → Prop} {x0 : Nat} {x1 : Int32} {x2 : Int32} {x3 : Int64} {x5 : Int64} {x7 : Int64} {x9 : Int32} {s0 : Nat} {s1 : Int32} {s2 : Int64} {s3 : Int64} (t : ab_ok h s0 101 = true ∧ wm d 24 [.ref s0, .int s1, .long s2, .long s3] h (fun r9 h9 => wq (d + 1) 22 238 [.ref x0, .int x1, .int x2, .long x3, .retAddr 0, .long x5, .retAddr 0, .long x7, .retAddr 0, .int x9] (r9.toList ++ []) h9 Q)) : wq (d + 1) 22 235 [.ref x0, .int x1, .int x2, .long x3, .retAddr 0, .long x5, .retAddr 0, .long x7, .retAddr 0, .int x9] [.long s3, .long s2, .int s1, .ref s0] h Q := by
  exact g80 (As := [.int s1, .long s2, .long s3]) (rest := []) c_22_235 rfl rfl (Nat.le_of_ble_eq_true rfl) (Nat.le_of_ble_eq_true rfl) t.1 t.2
set_option maxRecDepth 20000 in
theorem t_22_238 {d : Nat} {h : ab_H} {Q : Option Value → ab_H → Prop} {x0 : Nat} {x1 : Int32} {x2 : Int32} {x3 : Int64} {x5 : Int64} {x7 : Int64} {x9 : Int32} (t : wq d 22 349 [.ref x0, .int x1, .int x2, .long x3, .retAddr 0, .long x5, .retAddr 0, .long x7, .retAddr 0, .int x9] [] h Q) : wq d 22 238 [.ref x0, .int x1, .int x2, .long x3, .retAddr 0, .long x5, .retAddr 0, .long x7, .retAddr 0, .int x9] [] h Q := by
  refine g38 c_22_238 rfl ?_
  exact t
set_option maxRecDepth 20000 in
theorem t_22_254 {d : Nat} {h : ab_H} {Q : Option Value → ab_H → Prop} {x0 : Nat} {x1 : Int32} {x2 : Int32} {x3 : Int64} {x5 : Int64} {x7 : Int64} {x9 : Int32} (t : wq d 22 349 [.ref x0, .int x1, .int x2, .long x3, .retAddr 0, .long x5, .retAddr 0, .long x7, .retAddr 0, .int x9] [] h Q) : wq d 22 254 [.ref x0, .int x1, .int x2, .long x3, .retAddr 0, .long x5, .retAddr 0, .long x7, .retAddr 0, .int x9] [] h Q := by
  refine g38 c_22_254 rfl ?_
  exact t
set_option maxRecDepth 20000 in
theorem t_22_270 {d : Nat} {h : ab_H} {Q : Option Value → ab_H → Prop} {x0 : Nat} {x1 : Int32} {x2 : Int32} {x3 : Int64} {x5 : Int64} {x7 : Int64} {x9 : Int32} (t : wq d 22 349 [.ref x0, .int x1, .int x2, .long x3, .retAddr 0, .long x5, .retAddr 0, .long x7, .retAddr 0, .int x9] [] h Q) : wq d 22 270 [.ref x0, .int x1, .int x2, .long x3, .retAddr 0, .long x5, .retAddr 0, .long x7, .retAddr 0, .int x9] [] h Q := by
  refine g38 c_22_270 rfl ?_
  exact t
set_option maxRecDepth 20000 in
theorem t_22_294 {d : Nat} {h : ab_H} {Q : Option Value → ab_H → Prop} {x0 : Nat} {x1 : Int32} {x2 : Int32} {x3 : Int64} {x5 : Int64} {x7 : Int64} {x9 : Int32} (t : wq d 22 349 [.ref x0, .int x1, .int x2, .long x3, .retAddr 0, .long x5, .retAddr 0, .long x7, .retAddr 0, .int x9] [] h Q) : wq d 22 294 [.ref x0, .int x1, .int x2, .long x3, .retAddr 0, .long x5, .retAddr 0, .long x7, .retAddr 0, .int x9] [] h Q := by
  refine g38 c_22_294 rfl ?_
  exact t
set_option maxRecDepth 20000 in
theorem t_22_320 {d : Nat} {h : ab_H} {Q : Option Value → ab_H → Prop} {x0 : Nat} {x1 : Int32} {x2 : Int32} {x3 : Int64} {x5 : Int64} {x7 : Int64} {x9 : Int32} (t : wq d 22 349 [.ref x0, .int x1, .int x2, .long x3, .retAddr 0, .long x5, .retAddr 0, .long x7, .retAddr 0, .int x9] [] h Q) : wq d 22 320 [.ref x0, .int x1, .int x2, .long x3, .retAddr 0, .long x5, .retAddr 0, .long x7, .retAddr 0, .int x9] [] h Q := by
  refine g38 c_22_320 rfl ?_
  exact t
set_option maxRecDepth 20000 in
theorem t_22_337 {d : Nat} {h : ab_H} {Q : Option Value → ab_H → Prop} {x0 : Nat} {x1 : Int32} {x2 : Int32} {x3 : Int64} {x5 : Int64} {x7 : Int64} {x9 : Int32} {s0 : Nat} {s1 : Int32} {s2 : Int32} (t : if s2 = 0 then (wq d 22 344 [.ref x0, .int x1, .int x2, .long x3, .retAddr 0, .long x5, .retAddr 0, .long x7, .retAddr 0, .int x9] [.int s1, .ref s0] h Q) else (wq d 22 345 [.ref x0, .int x1, .int x2, .long x3, .retAddr 0, .long x5, .retAddr 0, .long x7, .retAddr 0, .int x9] [.long 1, .int s1, .ref s0] h Q)) : wq d 22 337 [.ref x0, .int x1, .int x2, .long x3, .retAddr 0, .long x5, .retAddr 0, .long x7, .retAddr 0, .int x9] [.int s2, .int s1, .ref s0] h Q := by
  refine gif c_22_337 (gbr t rfl rfl (fun hc t => ?_) (fun hc t => ?_))
  · exact t
  · refine g2 c_22_340 kl_1 ?_
    refine g38 c_22_341 rfl ?_
    exact t
set_option maxRecDepth 20000 in
theorem t_22_344 {d : Nat} {h : ab_H} {Q : Option Value → ab_H → Prop} {x0 : Nat} {x1 : Int32} {x2 : Int32} {x3 : Int64} {x5 : Int64} {x7 : Int64} {x9 : Int32} {s0 : Nat} {s1 : Int32} (t : wq d 22 345 [.ref x0, .int x1, .int x2, .long x3, .retAddr 0, .long x5, .retAddr 0, .long x7, .retAddr 0, .int x9] [.long 0, .int s1, .ref s0] h Q) : wq d 22 344 [.ref x0, .int x1, .int x2, .long x3, .retAddr 0, .long x5, .retAddr 0, .long x7, .retAddr 0, .int x9] [.int s1, .ref s0] h Q := by
  refine g2 c_22_344 kl_0 ?_
  exact t
set_option maxRecDepth 20000 in
theorem t_22_345 {d : Nat} {h : ab_H} {Q : Option Value → ab_H → Prop} {x0 : Nat} {x1 : Int32} {x2 : Int32} {x3 : Int64} {x5 : Int64} {x7 : Int64} {x9 : Int32} {s0 : Nat} {s1 : Int32} {s2 : Int64} (t : ab_ok h s0 101 = true ∧ wm d 24 [.ref s0, .int s1, .long s2, .long 1] h (fun r9 h9 => wq (d + 1) 22 349 [.ref x0, .int x1, .int x2, .long x3, .retAddr 0, .long x5, .retAddr 0, .long x7, .retAddr 0, .int x9] (r9.toList ++ []) h9 Q)) : wq (d + 1) 22 345 [.ref x0, .int x1, .int x2, .long x3, .retAddr 0, .long x5, .retAddr 0, .long x7, .retAddr 0, .int x9] [.long s2, .int s1, .ref s0] h Q := by
  refine g2 c_22_345 kl_1 ?_
  exact g80 (As := [.int s1, .long s2, .long 1]) (rest := []) c_22_346 rfl rfl (Nat.le_of_ble_eq_true rfl) (Nat.le_of_ble_eq_true rfl) t.1 t.2
set_option maxRecDepth 20000 in
theorem t_22_349 {d : Nat} {h : ab_H} {Q : Option Value → ab_H → Prop} {x0 : Nat} {x1 : Int32} {x2 : Int32} {x3 : Int64} {x5 : Int64} {x7 : Int64} {x9 : Int32} (t : Q none h) : wq d 22 349 [.ref x0, .int x1, .int x2, .long x3, .retAddr 0, .long x5, .retAddr 0, .long x7, .retAddr 0, .int x9] [] h Q := by
  exact g94 c_22_349 t
-- method 23: MillTown$Law.isSo(IJJ)Z
theorem c_23_0 : pg_cd 23 0 = (3, 1, 0, 0, 0) := by decide +kernel
theorem c_23_1 : pg_cd 23 1 = (42, 1, 35, 0, 0) := by decide +kernel
theorem c_23_36 : pg_cd 23 36 = (4, 1, 0, 1, 0) := by decide +kernel
theorem c_23_37 : pg_cd 23 37 = (4, 1, 0, 3, 0) := by decide +kernel
theorem c_23_38 : pg_cd 23 38 = (28, 1, 0, 0, 0) := by decide +kernel
theorem c_23_39 : pg_cd 23 39 = (36, 3, 0, 3, 7) := by decide +kernel
theorem c_23_42 : pg_cd 23 42 = (1, 1, 0, 0, 1) := by decide +kernel
theorem c_23_43 : pg_cd 23 43 = (38, 3, 0, 0, 4) := by decide +kernel
theorem c_23_46 : pg_cd 23 46 = (1, 1, 0, 0, 0) := by decide +kernel
theorem c_23_47 : pg_cd 23 47 = (91, 0, 0, 0, 0) := by decide +kernel
theorem c_23_48 : pg_cd 23 48 = (4, 1, 0, 1, 0) := by decide +kernel
theorem c_23_49 : pg_cd 23 49 = (4, 1, 0, 3, 0) := by decide +kernel
theorem c_23_50 : pg_cd 23 50 = (28, 1, 0, 0, 0) := by decide +kernel
theorem c_23_51 : pg_cd 23 51 = (36, 3, 0, 4, 7) := by decide +kernel
theorem c_23_54 : pg_cd 23 54 = (1, 1, 0, 0, 1) := by decide +kernel
theorem c_23_55 : pg_cd 23 55 = (38, 3, 0, 0, 4) := by decide +kernel
theorem c_23_58 : pg_cd 23 58 = (1, 1, 0, 0, 0) := by decide +kernel
theorem c_23_59 : pg_cd 23 59 = (91, 0, 0, 0, 0) := by decide +kernel
theorem c_23_60 : pg_cd 23 60 = (4, 1, 0, 1, 0) := by decide +kernel
theorem c_23_61 : pg_cd 23 61 = (4, 1, 0, 3, 0) := by decide +kernel
theorem c_23_62 : pg_cd 23 62 = (28, 1, 0, 0, 0) := by decide +kernel
theorem c_23_63 : pg_cd 23 63 = (36, 3, 0, 5, 7) := by decide +kernel
theorem c_23_66 : pg_cd 23 66 = (1, 1, 0, 0, 1) := by decide +kernel
theorem c_23_67 : pg_cd 23 67 = (38, 3, 0, 0, 4) := by decide +kernel
theorem c_23_70 : pg_cd 23 70 = (1, 1, 0, 0, 0) := by decide +kernel
theorem c_23_71 : pg_cd 23 71 = (91, 0, 0, 0, 0) := by decide +kernel
theorem c_23_72 : pg_cd 23 72 = (4, 1, 0, 1, 0) := by decide +kernel
theorem c_23_73 : pg_cd 23 73 = (4, 1, 0, 3, 0) := by decide +kernel
theorem c_23_74 : pg_cd 23 74 = (28, 1, 0, 0, 0) := by decide +kernel
theorem c_23_75 : pg_cd 23 75 = (36, 3, 0, 2, 7) := by decide +kernel
theorem c_23_78 : pg_cd 23 78 = (1, 1, 0, 0, 1) := by decide +kernel
theorem c_23_79 : pg_cd 23 79 = (38, 3, 0, 0, 4) := by decide +kernel
theorem c_23_82 : pg_cd 23 82 = (1, 1, 0, 0, 0) := by decide +kernel
theorem c_23_83 : pg_cd 23 83 = (91, 0, 0, 0, 0) := by decide +kernel
theorem c_23_84 : pg_cd 23 84 = (4, 1, 0, 1, 0) := by decide +kernel
theorem c_23_85 : pg_cd 23 85 = (4, 1, 0, 3, 0) := by decide +kernel
theorem c_23_86 : pg_cd 23 86 = (28, 1, 0, 0, 0) := by decide +kernel
theorem c_23_87 : pg_cd 23 87 = (36, 3, 0, 1, 7) := by decide +kernel
theorem c_23_90 : pg_cd 23 90 = (1, 1, 0, 0, 1) := by decide +kernel
theorem c_23_91 : pg_cd 23 91 = (38, 3, 0, 0, 4) := by decide +kernel
theorem c_23_94 : pg_cd 23 94 = (1, 1, 0, 0, 0) := by decide +kernel
theorem c_23_95 : pg_cd 23 95 = (91, 0, 0, 0, 0) := by decide +kernel
theorem c_23_96 : pg_cd 23 96 = (4, 1, 0, 1, 0) := by decide +kernel
theorem c_23_97 : pg_cd 23 97 = (4, 1, 0, 3, 0) := by decide +kernel
theorem c_23_98 : pg_cd 23 98 = (28, 1, 0, 0, 0) := by decide +kernel
theorem c_23_99 : pg_cd 23 99 = (36, 3, 0, 0, 7) := by decide +kernel
theorem c_23_102 : pg_cd 23 102 = (1, 1, 0, 0, 1) := by decide +kernel
theorem c_23_103 : pg_cd 23 103 = (38, 3, 0, 0, 4) := by decide +kernel
theorem c_23_106 : pg_cd 23 106 = (1, 1, 0, 0, 0) := by decide +kernel
theorem c_23_107 : pg_cd 23 107 = (91, 0, 0, 0, 0) := by decide +kernel
theorem mx_23 : pg_mx 23 = 5 := by decide +kernel
theorem m_23 {d : Nat} {h : ab_H} {Q : Option Value → ab_H → Prop} {x0 : Int32} {x1 : Int64} {x3 : Int64} (t : wq d 23 0 [.int x0, .long x1, .retAddr 0, .long x3, .retAddr 0] [] h Q) : wm d 23 [.int x0, .long x1, .long x3] h Q := by
  unfold wm
  rw [mx_23]
  exact t
set_option maxRecDepth 20000 in
theorem t_23_0 {d : Nat} {h : ab_H} {Q : Option Value → ab_H → Prop} {x0 : Int32} {x1 : Int64} {x3 : Int64} (t : if x0 = 23 then (if 0 ≤ (lg_cmp x1 x3) then (Q (some (.int 0)) h) else (Q (some (.int 1)) h)) else (if x0 = 24 then (if 0 < (lg_cmp x1 x3) then (Q (some (.int 0)) h) else (Q (some (.int 1)) h)) else (if x0 = 25 then (if (lg_cmp x1 x3) ≤ 0 then (Q (some (.int 0)) h) else (Q (some (.int 1)) h)) else (if x0 = 26 then (if (lg_cmp x1 x3) < 0 then (Q (some (.int 0)) h) else (Q (some (.int 1)) h)) else (if x0 = 27 then (if (lg_cmp x1 x3) = 0 then (Q (some (.int 1)) h) else (Q (some (.int 0)) h)) else (if (lg_cmp x1 x3) = 0 then (Q (some (.int 0)) h) else (Q (some (.int 1)) h))))))) : wq d 23 0 [.int x0, .long x1, .retAddr 0, .long x3, .retAddr 0] [] h Q := by
  refine g3 c_23_0 rfl ?_
  by_cases e0 : x0 = 23
  · rw [if_pos e0] at t
    refine g42 (o := 35) c_23_1 sw_1 (by rw [e0]; decide) (by rw [e0]; decide) rfl ?_
    refine g4 c_23_36 rfl ?_
    refine g4 c_23_37 rfl ?_
    refine g28 c_23_38 ?_
    refine gif c_23_39 (gbr t rfl rfl (fun hc t => ?_) (fun hc t => ?_))
    · refine g1 c_23_46 k_0 ?_
      exact g91 c_23_47 ⟨by decide, t⟩
    · refine g1 c_23_42 k_1 ?_
      refine g38 c_23_43 rfl ?_
      exact g91 c_23_47 ⟨by decide, t⟩
  rw [if_neg e0] at t
  by_cases e1 : x0 = 24
  · rw [if_pos e1] at t
    refine g42 (o := 47) c_23_1 sw_1 (by rw [e1]; decide) (by rw [e1]; decide) rfl ?_
    refine g4 c_23_48 rfl ?_
    refine g4 c_23_49 rfl ?_
    refine g28 c_23_50 ?_
    refine gif c_23_51 (gbr t rfl rfl (fun hc t => ?_) (fun hc t => ?_))
    · refine g1 c_23_58 k_0 ?_
      exact g91 c_23_59 ⟨by decide, t⟩
    · refine g1 c_23_54 k_1 ?_
      refine g38 c_23_55 rfl ?_
      exact g91 c_23_59 ⟨by decide, t⟩
  rw [if_neg e1] at t
  by_cases e2 : x0 = 25
  · rw [if_pos e2] at t
    refine g42 (o := 59) c_23_1 sw_1 (by rw [e2]; decide) (by rw [e2]; decide) rfl ?_
    refine g4 c_23_60 rfl ?_
    refine g4 c_23_61 rfl ?_
    refine g28 c_23_62 ?_
    refine gif c_23_63 (gbr t rfl rfl (fun hc t => ?_) (fun hc t => ?_))
    · refine g1 c_23_70 k_0 ?_
      exact g91 c_23_71 ⟨by decide, t⟩
    · refine g1 c_23_66 k_1 ?_
      refine g38 c_23_67 rfl ?_
      exact g91 c_23_71 ⟨by decide, t⟩
  rw [if_neg e2] at t
  by_cases e3 : x0 = 26
  · rw [if_pos e3] at t
    refine g42 (o := 71) c_23_1 sw_1 (by rw [e3]; decide) (by rw [e3]; decide) rfl ?_
    refine g4 c_23_72 rfl ?_
    refine g4 c_23_73 rfl ?_
    refine g28 c_23_74 ?_
    refine gif c_23_75 (gbr t rfl rfl (fun hc t => ?_) (fun hc t => ?_))
    · refine g1 c_23_82 k_0 ?_
      exact g91 c_23_83 ⟨by decide, t⟩
    · refine g1 c_23_78 k_1 ?_
      refine g38 c_23_79 rfl ?_
      exact g91 c_23_83 ⟨by decide, t⟩
  rw [if_neg e3] at t
  by_cases e4 : x0 = 27
  · rw [if_pos e4] at t
    refine g42 (o := 83) c_23_1 sw_1 (by rw [e4]; decide) (by rw [e4]; decide) rfl ?_
    refine g4 c_23_84 rfl ?_
    refine g4 c_23_85 rfl ?_
    refine g28 c_23_86 ?_
    refine gif c_23_87 (gbn t (ab_c1 _ _) rfl (fun hc t => ?_) (fun hc t => ?_))
    · refine g1 c_23_90 k_1 ?_
      refine g38 c_23_91 rfl ?_
      exact g91 c_23_95 ⟨by decide, t⟩
    · refine g1 c_23_94 k_0 ?_
      exact g91 c_23_95 ⟨by decide, t⟩
  rw [if_neg e4] at t
  refine g42d c_23_1 sw_1 (gsw_out (n := 5) (by decide) (by decide) (fun i hi => ?_)) rfl ?_
  · rcases (show i = 0 ∨ i = 1 ∨ i = 2 ∨ i = 3 ∨ i = 4 by omega) with rfl | rfl | rfl | rfl | rfl
    · exact fun q => e0 (q.trans k_23)
    · exact fun q => e1 (q.trans k_24)
    · exact fun q => e2 (q.trans k_25)
    · exact fun q => e3 (q.trans k_26)
    · exact fun q => e4 (q.trans k_27)
  refine g4 c_23_96 rfl ?_
  refine g4 c_23_97 rfl ?_
  refine g28 c_23_98 ?_
  refine gif c_23_99 (gbr t rfl rfl (fun hc t => ?_) (fun hc t => ?_))
  · refine g1 c_23_106 k_0 ?_
    exact g91 c_23_107 ⟨by decide, t⟩
  · refine g1 c_23_102 k_1 ?_
    refine g38 c_23_103 rfl ?_
    exact g91 c_23_107 ⟨by decide, t⟩
-- method 24: MillTown$Law.settle(IJJ)V
theorem c_24_0 : pg_cd 24 0 = (5, 1, 0, 0, 0) := by decide +kernel
theorem c_24_1 : pg_cd 24 1 = (45, 1, 17, 1, 0) := by decide +kernel
theorem c_24_4 : pg_cd 24 4 = (3, 1, 0, 1, 0) := by decide +kernel
theorem c_24_5 : pg_cd 24 5 = (2, 1, 0, 0, 0) := by decide +kernel
theorem c_24_6 : pg_cd 24 6 = (56, 1, 0, 0, 0) := by decide +kernel
theorem c_24_7 : pg_cd 24 7 = (5, 1, 0, 0, 0) := by decide +kernel
theorem c_24_8 : pg_cd 24 8 = (45, 1, 21, 2, 0) := by decide +kernel
theorem c_24_11 : pg_cd 24 11 = (3, 1, 0, 1, 0) := by decide +kernel
theorem c_24_12 : pg_cd 24 12 = (2, 1, 0, 0, 0) := by decide +kernel
theorem c_24_13 : pg_cd 24 13 = (56, 1, 0, 0, 0) := by decide +kernel
theorem c_24_14 : pg_cd 24 14 = (4, 2, 0, 4, 0) := by decide +kernel
theorem c_24_16 : pg_cd 24 16 = (2, 1, 0, 0, 0) := by decide +kernel
theorem c_24_17 : pg_cd 24 17 = (28, 1, 0, 0, 0) := by decide +kernel
theorem c_24_18 : pg_cd 24 18 = (36, 3, 0, 1, 4) := by decide +kernel
theorem c_24_21 : pg_cd 24 21 = (94, 0, 0, 0, 0) := by decide +kernel
theorem c_24_22 : pg_cd 24 22 = (4, 1, 0, 2, 0) := by decide +kernel
theorem c_24_23 : pg_cd 24 23 = (7, 2, 0, 6, 0) := by decide +kernel
theorem c_24_25 : pg_cd 24 25 = (4, 2, 0, 4, 0) := by decide +kernel
theorem c_24_27 : pg_cd 24 27 = (7, 2, 0, 8, 0) := by decide +kernel
theorem c_24_29 : pg_cd 24 29 = (1, 1, 0, 0, 0) := by decide +kernel
theorem c_24_30 : pg_cd 24 30 = (6, 2, 0, 10, 0) := by decide +kernel
theorem c_24_32 : pg_cd 24 32 = (3, 2, 0, 10, 0) := by decide +kernel
theorem c_24_34 : pg_cd 24 34 = (1, 3, 0, 0, 200) := by decide +kernel
theorem c_24_37 : pg_cd 24 37 = (37, 3, 0, 3, 31) := by decide +kernel
theorem c_24_40 : pg_cd 24 40 = (4, 2, 0, 8, 0) := by decide +kernel
theorem c_24_42 : pg_cd 24 42 = (2, 1, 0, 0, 0) := by decide +kernel
theorem c_24_43 : pg_cd 24 43 = (28, 1, 0, 0, 0) := by decide +kernel
theorem c_24_44 : pg_cd 24 44 = (36, 3, 0, 0, 24) := by decide +kernel
theorem c_24_47 : pg_cd 24 47 = (4, 2, 0, 6, 0) := by decide +kernel
theorem c_24_49 : pg_cd 24 49 = (4, 2, 0, 8, 0) := by decide +kernel
theorem c_24_51 : pg_cd 24 51 = (27, 1, 0, 0, 0) := by decide +kernel
theorem c_24_52 : pg_cd 24 52 = (7, 2, 0, 11, 0) := by decide +kernel
theorem c_24_54 : pg_cd 24 54 = (4, 2, 0, 8, 0) := by decide +kernel
theorem c_24_56 : pg_cd 24 56 = (7, 2, 0, 6, 0) := by decide +kernel
theorem c_24_58 : pg_cd 24 58 = (4, 2, 0, 11, 0) := by decide +kernel
theorem c_24_60 : pg_cd 24 60 = (7, 2, 0, 8, 0) := by decide +kernel
theorem c_24_62 : pg_cd 24 62 = (9, 3, 0, 10, 1) := by decide +kernel
theorem c_24_65 : pg_cd 24 65 = (38, 3, 0, 0, (-33)) := by decide +kernel
theorem c_24_68 : pg_cd 24 68 = (4, 2, 0, 6, 0) := by decide +kernel
theorem c_24_70 : pg_cd 24 70 = (2, 1, 0, 0, 0) := by decide +kernel
theorem c_24_71 : pg_cd 24 71 = (28, 1, 0, 0, 0) := by decide +kernel
theorem c_24_72 : pg_cd 24 72 = (36, 3, 0, 3, 7) := by decide +kernel
theorem c_24_75 : pg_cd 24 75 = (1, 1, 0, 0, 1) := by decide +kernel
theorem c_24_76 : pg_cd 24 76 = (38, 3, 0, 0, 4) := by decide +kernel
theorem c_24_79 : pg_cd 24 79 = (1, 1, 0, 0, 0) := by decide +kernel
theorem c_24_80 : pg_cd 24 80 = (4, 2, 0, 4, 0) := by decide +kernel
theorem c_24_82 : pg_cd 24 82 = (2, 1, 0, 0, 0) := by decide +kernel
theorem c_24_83 : pg_cd 24 83 = (28, 1, 0, 0, 0) := by decide +kernel
theorem c_24_84 : pg_cd 24 84 = (36, 3, 0, 3, 7) := by decide +kernel
theorem c_24_87 : pg_cd 24 87 = (1, 1, 0, 0, 1) := by decide +kernel
theorem c_24_88 : pg_cd 24 88 = (38, 3, 0, 0, 4) := by decide +kernel
theorem c_24_91 : pg_cd 24 91 = (1, 1, 0, 0, 0) := by decide +kernel
theorem c_24_92 : pg_cd 24 92 = (37, 3, 0, 0, 8) := by decide +kernel
theorem c_24_95 : pg_cd 24 95 = (4, 2, 0, 6, 0) := by decide +kernel
theorem c_24_97 : pg_cd 24 97 = (29, 1, 0, 0, 0) := by decide +kernel
theorem c_24_98 : pg_cd 24 98 = (7, 2, 0, 6, 0) := by decide +kernel
theorem c_24_100 : pg_cd 24 100 = (4, 2, 0, 6, 0) := by decide +kernel
theorem c_24_102 : pg_cd 24 102 = (2, 1, 0, 0, 0) := by decide +kernel
theorem c_24_103 : pg_cd 24 103 = (28, 1, 0, 0, 0) := by decide +kernel
theorem c_24_104 : pg_cd 24 104 = (36, 3, 0, 1, 4) := by decide +kernel
theorem c_24_107 : pg_cd 24 107 = (94, 0, 0, 0, 0) := by decide +kernel
theorem c_24_108 : pg_cd 24 108 = (4, 1, 0, 2, 0) := by decide +kernel
theorem c_24_109 : pg_cd 24 109 = (4, 2, 0, 6, 0) := by decide +kernel
theorem c_24_111 : pg_cd 24 111 = (26, 1, 0, 0, 0) := by decide +kernel
theorem c_24_112 : pg_cd 24 112 = (7, 2, 0, 10, 0) := by decide +kernel
theorem c_24_114 : pg_cd 24 114 = (4, 2, 0, 4, 0) := by decide +kernel
theorem c_24_116 : pg_cd 24 116 = (4, 2, 0, 6, 0) := by decide +kernel
theorem c_24_118 : pg_cd 24 118 = (26, 1, 0, 0, 0) := by decide +kernel
theorem c_24_119 : pg_cd 24 119 = (7, 2, 0, 12, 0) := by decide +kernel
theorem c_24_121 : pg_cd 24 121 = (4, 2, 0, 10, 0) := by decide +kernel
theorem c_24_123 : pg_cd 24 123 = (2, 3, 123, 0, 1000000000) := by decide +kernel
theorem c_24_126 : pg_cd 24 126 = (28, 1, 0, 0, 0) := by decide +kernel
theorem c_24_127 : pg_cd 24 127 = (36, 3, 0, 4, 37) := by decide +kernel
theorem c_24_130 : pg_cd 24 130 = (4, 2, 0, 10, 0) := by decide +kernel
theorem c_24_132 : pg_cd 24 132 = (2, 3, 125, 0, (-1000000000)) := by decide +kernel
theorem c_24_135 : pg_cd 24 135 = (28, 1, 0, 0, 0) := by decide +kernel
theorem c_24_136 : pg_cd 24 136 = (36, 3, 0, 2, 28) := by decide +kernel
theorem c_24_139 : pg_cd 24 139 = (4, 2, 0, 12, 0) := by decide +kernel
theorem c_24_141 : pg_cd 24 141 = (2, 3, 123, 0, 1000000000) := by decide +kernel
theorem c_24_144 : pg_cd 24 144 = (28, 1, 0, 0, 0) := by decide +kernel
theorem c_24_145 : pg_cd 24 145 = (36, 3, 0, 4, 19) := by decide +kernel
theorem c_24_148 : pg_cd 24 148 = (5, 1, 0, 0, 0) := by decide +kernel
theorem c_24_149 : pg_cd 24 149 = (45, 1, 17, 1, 0) := by decide +kernel
theorem c_24_152 : pg_cd 24 152 = (3, 1, 0, 1, 0) := by decide +kernel
theorem c_24_153 : pg_cd 24 153 = (4, 2, 0, 10, 0) := by decide +kernel
theorem c_24_155 : pg_cd 24 155 = (56, 1, 0, 0, 0) := by decide +kernel
theorem c_24_156 : pg_cd 24 156 = (5, 1, 0, 0, 0) := by decide +kernel
theorem c_24_157 : pg_cd 24 157 = (45, 1, 21, 2, 0) := by decide +kernel
theorem c_24_160 : pg_cd 24 160 = (3, 1, 0, 1, 0) := by decide +kernel
theorem c_24_161 : pg_cd 24 161 = (4, 2, 0, 12, 0) := by decide +kernel
theorem c_24_163 : pg_cd 24 163 = (56, 1, 0, 0, 0) := by decide +kernel
theorem c_24_164 : pg_cd 24 164 = (94, 0, 0, 0, 0) := by decide +kernel
theorem mx_24 : pg_mx 24 = 14 := by decide +kernel
theorem m_24 {d : Nat} {h : ab_H} {Q : Option Value → ab_H → Prop} {x0 : Nat} {x1 : Int32} {x2 : Int64} {x4 : Int64} (t : wq d 24 0 [.ref x0, .int x1, .long x2, .retAddr 0, .long x4, .retAddr 0, .retAddr 0, .retAddr 0, .retAddr 0, .retAddr 0, .retAddr 0, .retAddr 0, .retAddr 0, .retAddr 0] [] h Q) : wm d 24 [.ref x0, .int x1, .long x2, .long x4] h Q := by
  unfold wm
  rw [mx_24]
  exact t
set_option maxRecDepth 20000 in
theorem t_24_0 {d : Nat} {h : ab_H} {Q : Option Value → ab_H → Prop} {x0 : Nat} {x1 : Int32} {x2 : Int64} {x4 : Int64} (t : ab_ok h x0 101 = true ∧ ∃ j1 : Nat, ab_r h x0 1 = some j1 ∧ (ab_ok h j1 1 = true ∧ ab_in x1 (ab_s h j1).2 = true) ∧ ∀ h2 : ab_H, h2 = ab_pl h j1 (Int32.toNatClampNeg x1) 0 → ab_ok h2 x0 101 = true ∧ ∃ j3 : Nat, ab_r h2 x0 2 = some j3 ∧ (ab_ok h2 j3 1 = true ∧ ab_in x1 (ab_s h2 j3).2 = true) ∧ ∀ h4 : ab_H, h4 = ab_pl h2 j3 (Int32.toNatClampNeg x1) 0 → if (lg_cmp x4 0) = 0 then (Q none h4) else (wq d 24 32 [.ref x0, .int x1, .long x2, .retAddr 0, .long x4, .retAddr 0, .long x2, .retAddr 0, .long x4, .retAddr 0, .int 0, .retAddr 0, .retAddr 0, .retAddr 0] [] h4 Q)) : wq d 24 0 [.ref x0, .int x1, .long x2, .retAddr 0, .long x4, .retAddr 0, .retAddr 0, .retAddr 0, .retAddr 0, .retAddr 0, .retAddr 0, .retAddr 0, .retAddr 0, .retAddr 0] [] h Q := by
  refine g5 c_24_0 rfl ?_
  obtain ⟨ho, j1, hr, t⟩ := t
  refine g45 c_24_1 ho hr ?_
  refine g3 c_24_4 rfl ?_
  refine g2 c_24_5 kl_0 ?_
  obtain ⟨ho, t⟩ := t
  refine g56 c_24_6 ho (fun h2 eh2 => ?_)
  have t := t h2 eh2
  refine g5 c_24_7 rfl ?_
  obtain ⟨ho, j3, hr, t⟩ := t
  refine g45 c_24_8 ho hr ?_
  refine g3 c_24_11 rfl ?_
  refine g2 c_24_12 kl_0 ?_
  obtain ⟨ho, t⟩ := t
  refine g56 c_24_13 ho (fun h4 eh4 => ?_)
  have t := t h4 eh4
  refine g4 c_24_14 rfl ?_
  refine g2 c_24_16 kl_0 ?_
  refine g28 c_24_17 ?_
  refine gif c_24_18 (gbn t (ab_c1 _ _) rfl (fun hc t => ?_) (fun hc t => ?_))
  · exact g94 c_24_21 t
  · refine g4 c_24_22 rfl ?_
    refine g7 (L' := [.ref x0, .int x1, .long x2, .retAddr 0, .long x4, .retAddr 0, .long x2, .retAddr 0, .retAddr 0, .retAddr 0, .retAddr 0, .retAddr 0, .retAddr 0, .retAddr 0]) c_24_23 rfl ?_
    refine g4 c_24_25 rfl ?_
    refine g7 (L' := [.ref x0, .int x1, .long x2, .retAddr 0, .long x4, .retAddr 0, .long x2, .retAddr 0, .long x4, .retAddr 0, .retAddr 0, .retAddr 0, .retAddr 0, .retAddr 0]) c_24_27 rfl ?_
    refine g1 c_24_29 k_0 ?_
    refine g6 (L' := [.ref x0, .int x1, .long x2, .retAddr 0, .long x4, .retAddr 0, .long x2, .retAddr 0, .long x4, .retAddr 0, .int 0, .retAddr 0, .retAddr 0, .retAddr 0]) c_24_30 rfl ?_
    exact t
set_option maxRecDepth 20000 in
theorem t_24_32 {d : Nat} {h : ab_H} {Q : Option Value → ab_H → Prop} {x0 : Nat} {x1 : Int32} {x2 : Int64} {x4 : Int64} {x6 : Int64} {x8 : Int64} {x10 : Int32} (t : if 200 ≤ x10 then (wq d 24 68 [.ref x0, .int x1, .long x2, .retAddr 0, .long x4, .retAddr 0, .long x6, .retAddr 0, .long x8, .retAddr 0, .int x10, .retAddr 0, .retAddr 0, .retAddr 0] [] h Q) else (if (lg_cmp x8 0) = 0 then (wq d 24 68 [.ref x0, .int x1, .long x2, .retAddr 0, .long x4, .retAddr 0, .long x6, .retAddr 0, .long x8, .retAddr 0, .int x10, .retAddr 0, .retAddr 0, .retAddr 0] [] h Q) else (¬ (x8 : Int64) = 0 ∧ wq d 24 32 [.ref x0, .int x1, .long x2, .retAddr 0, .long x4, .retAddr 0, .long x8, .retAddr 0, .long (x6 - x6 / x8 * x8), .retAddr 0, .int (x10 + 1), .long (x6 - x6 / x8 * x8), .retAddr 0, .retAddr 0] [] h Q))) : wq d 24 32 [.ref x0, .int x1, .long x2, .retAddr 0, .long x4, .retAddr 0, .long x6, .retAddr 0, .long x8, .retAddr 0, .int x10, .retAddr 0, .retAddr 0, .retAddr 0] [] h Q := by
  refine g3 c_24_32 rfl ?_
  refine g1 c_24_34 k_200 ?_
  refine gcm c_24_37 (gbr t rfl rfl (fun hc t => ?_) (fun hc t => ?_))
  · exact t
  · refine g4 c_24_40 rfl ?_
    refine g2 c_24_42 kl_0 ?_
    refine g28 c_24_43 ?_
    refine gif c_24_44 (gbr t rfl rfl (fun hc t => ?_) (fun hc t => ?_))
    · exact t
    · refine g4 c_24_47 rfl ?_
      refine g4 c_24_49 rfl ?_
      obtain ⟨hy, t⟩ := t
      refine g27 c_24_51 hy ?_
      refine g7 (L' := [.ref x0, .int x1, .long x2, .retAddr 0, .long x4, .retAddr 0, .long x6, .retAddr 0, .long x8, .retAddr 0, .int x10, .long (x6 - x6 / x8 * x8), .retAddr 0, .retAddr 0]) c_24_52 rfl ?_
      refine g4 c_24_54 rfl ?_
      refine g7 (L' := [.ref x0, .int x1, .long x2, .retAddr 0, .long x4, .retAddr 0, .long x8, .retAddr 0, .long x8, .retAddr 0, .int x10, .long (x6 - x6 / x8 * x8), .retAddr 0, .retAddr 0]) c_24_56 rfl ?_
      refine g4 c_24_58 rfl ?_
      refine g7 (L' := [.ref x0, .int x1, .long x2, .retAddr 0, .long x4, .retAddr 0, .long x8, .retAddr 0, .long (x6 - x6 / x8 * x8), .retAddr 0, .int x10, .long (x6 - x6 / x8 * x8), .retAddr 0, .retAddr 0]) c_24_60 rfl ?_
      refine g9 (L' := [.ref x0, .int x1, .long x2, .retAddr 0, .long x4, .retAddr 0, .long x8, .retAddr 0, .long (x6 - x6 / x8 * x8), .retAddr 0, .int (x10 + 1), .long (x6 - x6 / x8 * x8), .retAddr 0, .retAddr 0]) c_24_62 rfl k_1 rfl ?_
      refine g38 c_24_65 rfl ?_
      exact t
set_option maxRecDepth 20000 in
theorem t_24_68 {d : Nat} {h : ab_H} {Q : Option Value → ab_H → Prop} {x0 : Nat} {x1 : Int32} {x2 : Int64} {x4 : Int64} {x6 : Int64} {x8 : Int64} {x10 : Int32} (t : if 0 ≤ (lg_cmp x6 0) then (wq d 24 80 [.ref x0, .int x1, .long x2, .retAddr 0, .long x4, .retAddr 0, .long x6, .retAddr 0, .long x8, .retAddr 0, .int x10, .retAddr 0, .retAddr 0, .retAddr 0] [.int 0] h Q) else (wq d 24 80 [.ref x0, .int x1, .long x2, .retAddr 0, .long x4, .retAddr 0, .long x6, .retAddr 0, .long x8, .retAddr 0, .int x10, .retAddr 0, .retAddr 0, .retAddr 0] [.int 1] h Q)) : wq d 24 68 [.ref x0, .int x1, .long x2, .retAddr 0, .long x4, .retAddr 0, .long x6, .retAddr 0, .long x8, .retAddr 0, .int x10, .retAddr 0, .retAddr 0, .retAddr 0] [] h Q := by
  refine g4 c_24_68 rfl ?_
  refine g2 c_24_70 kl_0 ?_
  refine g28 c_24_71 ?_
  refine gif c_24_72 (gbr t rfl rfl (fun hc t => ?_) (fun hc t => ?_))
  · refine g1 c_24_79 k_0 ?_
    exact t
  · refine g1 c_24_75 k_1 ?_
    refine g38 c_24_76 rfl ?_
    exact t
set_option maxRecDepth 20000 in
theorem t_24_80 {d : Nat} {h : ab_H} {Q : Option Value → ab_H → Prop} {x0 : Nat} {x1 : Int32} {x2 : Int64} {x4 : Int64} {x6 : Int64} {x8 : Int64} {x10 : Int32} {s0 : Int32} (t : if 0 ≤ (lg_cmp x4 0) then (wq d 24 92 [.ref x0, .int x1, .long x2, .retAddr 0, .long x4, .retAddr 0, .long x6, .retAddr 0, .long x8, .retAddr 0, .int x10, .retAddr 0, .retAddr 0, .retAddr 0] [.int 0, .int s0] h Q) else (wq d 24 92 [.ref x0, .int x1, .long x2, .retAddr 0, .long x4, .retAddr 0, .long x6, .retAddr 0, .long x8, .retAddr 0, .int x10, .retAddr 0, .retAddr 0, .retAddr 0] [.int 1, .int s0] h Q)) : wq d 24 80 [.ref x0, .int x1, .long x2, .retAddr 0, .long x4, .retAddr 0, .long x6, .retAddr 0, .long x8, .retAddr 0, .int x10, .retAddr 0, .retAddr 0, .retAddr 0] [.int s0] h Q := by
  refine g4 c_24_80 rfl ?_
  refine g2 c_24_82 kl_0 ?_
  refine g28 c_24_83 ?_
  refine gif c_24_84 (gbr t rfl rfl (fun hc t => ?_) (fun hc t => ?_))
  · refine g1 c_24_91 k_0 ?_
    exact t
  · refine g1 c_24_87 k_1 ?_
    refine g38 c_24_88 rfl ?_
    exact t
set_option maxRecDepth 20000 in
theorem t_24_92 {d : Nat} {h : ab_H} {Q : Option Value → ab_H → Prop} {x0 : Nat} {x1 : Int32} {x2 : Int64} {x4 : Int64} {x6 : Int64} {x8 : Int64} {x10 : Int32} {s0 : Int32} {s1 : Int32} (t : if s0 = s1 then (wq d 24 100 [.ref x0, .int x1, .long x2, .retAddr 0, .long x4, .retAddr 0, .long x6, .retAddr 0, .long x8, .retAddr 0, .int x10, .retAddr 0, .retAddr 0, .retAddr 0] [] h Q) else (wq d 24 100 [.ref x0, .int x1, .long x2, .retAddr 0, .long x4, .retAddr 0, .long (-x6), .retAddr 0, .long x8, .retAddr 0, .int x10, .retAddr 0, .retAddr 0, .retAddr 0] [] h Q)) : wq d 24 92 [.ref x0, .int x1, .long x2, .retAddr 0, .long x4, .retAddr 0, .long x6, .retAddr 0, .long x8, .retAddr 0, .int x10, .retAddr 0, .retAddr 0, .retAddr 0] [.int s1, .int s0] h Q := by
  refine gcm c_24_92 (gbr t rfl rfl (fun hc t => ?_) (fun hc t => ?_))
  · exact t
  · refine g4 c_24_95 rfl ?_
    refine g29 c_24_97 ?_
    refine g7 (L' := [.ref x0, .int x1, .long x2, .retAddr 0, .long x4, .retAddr 0, .long (-x6), .retAddr 0, .long x8, .retAddr 0, .int x10, .retAddr 0, .retAddr 0, .retAddr 0]) c_24_98 rfl ?_
    exact t
set_option maxRecDepth 20000 in
theorem t_24_100 {d : Nat} {h : ab_H} {Q : Option Value → ab_H → Prop} {x0 : Nat} {x1 : Int32} {x2 : Int64} {x4 : Int64} {x6 : Int64} {x8 : Int64} {x10 : Int32} (t : if (lg_cmp x6 0) = 0 then (Q none h) else (¬ (x6 : Int64) = 0 ∧ ¬ (x6 : Int64) = 0 ∧ if 0 < (lg_cmp (x2 / x6) 1000000000) then (wq d 24 164 [.ref x0, .int x1, .long x2, .retAddr 0, .long x4, .retAddr 0, .long x6, .retAddr 0, .long x8, .retAddr 0, .long (x2 / x6), .retAddr 0, .long (x4 / x6), .retAddr 0] [] h Q) else (if (lg_cmp (x2 / x6) (-1000000000)) < 0 then (wq d 24 164 [.ref x0, .int x1, .long x2, .retAddr 0, .long x4, .retAddr 0, .long x6, .retAddr 0, .long x8, .retAddr 0, .long (x2 / x6), .retAddr 0, .long (x4 / x6), .retAddr 0] [] h Q) else (if 0 < (lg_cmp (x4 / x6) 1000000000) then (wq d 24 164 [.ref x0, .int x1, .long x2, .retAddr 0, .long x4, .retAddr 0, .long x6, .retAddr 0, .long x8, .retAddr 0, .long (x2 / x6), .retAddr 0, .long (x4 / x6), .retAddr 0] [] h Q) else (ab_ok h x0 101 = true ∧ ∃ j1 : Nat, ab_r h x0 1 = some j1 ∧ (ab_ok h j1 1 = true ∧ ab_in x1 (ab_s h j1).2 = true) ∧ ∀ h2 : ab_H, h2 = ab_pl h j1 (Int32.toNatClampNeg x1) (x2 / x6) → ab_ok h2 x0 101 = true ∧ ∃ j3 : Nat, ab_r h2 x0 2 = some j3 ∧ (ab_ok h2 j3 1 = true ∧ ab_in x1 (ab_s h2 j3).2 = true) ∧ ∀ h4 : ab_H, h4 = ab_pl h2 j3 (Int32.toNatClampNeg x1) (x4 / x6) → wq d 24 164 [.ref x0, .int x1, .long x2, .retAddr 0, .long x4, .retAddr 0, .long x6, .retAddr 0, .long x8, .retAddr 0, .long (x2 / x6), .retAddr 0, .long (x4 / x6), .retAddr 0] [] h4 Q))))) : wq d 24 100 [.ref x0, .int x1, .long x2, .retAddr 0, .long x4, .retAddr 0, .long x6, .retAddr 0, .long x8, .retAddr 0, .int x10, .retAddr 0, .retAddr 0, .retAddr 0] [] h Q := by
  refine g4 c_24_100 rfl ?_
  refine g2 c_24_102 kl_0 ?_
  refine g28 c_24_103 ?_
  refine gif c_24_104 (gbn t (ab_c1 _ _) rfl (fun hc t => ?_) (fun hc t => ?_))
  · exact g94 c_24_107 t
  · refine g4 c_24_108 rfl ?_
    refine g4 c_24_109 rfl ?_
    obtain ⟨hy, t⟩ := t
    refine g26 c_24_111 hy ?_
    refine g7 (L' := [.ref x0, .int x1, .long x2, .retAddr 0, .long x4, .retAddr 0, .long x6, .retAddr 0, .long x8, .retAddr 0, .long (x2 / x6), .retAddr 0, .retAddr 0, .retAddr 0]) c_24_112 rfl ?_
    refine g4 c_24_114 rfl ?_
    refine g4 c_24_116 rfl ?_
    obtain ⟨hy, t⟩ := t
    refine g26 c_24_118 hy ?_
    refine g7 (L' := [.ref x0, .int x1, .long x2, .retAddr 0, .long x4, .retAddr 0, .long x6, .retAddr 0, .long x8, .retAddr 0, .long (x2 / x6), .retAddr 0, .long (x4 / x6), .retAddr 0]) c_24_119 rfl ?_
    refine g4 c_24_121 rfl ?_
    refine g2 c_24_123 kl_1000000000 ?_
    refine g28 c_24_126 ?_
    refine gif c_24_127 (gbr t rfl rfl (fun hc t => ?_) (fun hc t => ?_))
    · exact t
    · refine g4 c_24_130 rfl ?_
      refine g2 c_24_132 kl_m1000000000 ?_
      refine g28 c_24_135 ?_
      refine gif c_24_136 (gbr t rfl rfl (fun hc t => ?_) (fun hc t => ?_))
      · exact t
      · refine g4 c_24_139 rfl ?_
        refine g2 c_24_141 kl_1000000000 ?_
        refine g28 c_24_144 ?_
        refine gif c_24_145 (gbr t rfl rfl (fun hc t => ?_) (fun hc t => ?_))
        · exact t
        · refine g5 c_24_148 rfl ?_
          obtain ⟨ho, j1, hr, t⟩ := t
          refine g45 c_24_149 ho hr ?_
          refine g3 c_24_152 rfl ?_
          refine g4 c_24_153 rfl ?_
          obtain ⟨ho, t⟩ := t
          refine g56 c_24_155 ho (fun h2 eh2 => ?_)
          have t := t h2 eh2
          refine g5 c_24_156 rfl ?_
          obtain ⟨ho, j3, hr, t⟩ := t
          refine g45 c_24_157 ho hr ?_
          refine g3 c_24_160 rfl ?_
          refine g4 c_24_161 rfl ?_
          obtain ⟨ho, t⟩ := t
          refine g56 c_24_163 ho (fun h4 eh4 => ?_)
          have t := t h4 eh4
          exact t
set_option maxRecDepth 20000 in
theorem t_24_164 {d : Nat} {h : ab_H} {Q : Option Value → ab_H → Prop} {x0 : Nat} {x1 : Int32} {x2 : Int64} {x4 : Int64} {x6 : Int64} {x8 : Int64} {x10 : Int64} {x12 : Int64} (t : Q none h) : wq d 24 164 [.ref x0, .int x1, .long x2, .retAddr 0, .long x4, .retAddr 0, .long x6, .retAddr 0, .long x8, .retAddr 0, .long x10, .retAddr 0, .long x12, .retAddr 0] [] h Q := by
  exact g94 c_24_164 t
