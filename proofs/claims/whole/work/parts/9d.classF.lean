/-! ===== a WEEK of the class: WAGES (segments printed by wip/whole, contracts own work) ===== -/
theorem wk_e_hi {a : Int → Int} (hJ : Jv a) {q p : Int} (hq : 0 ≤ q ∧ q < a 4) (hp : a 4 ≤ p) : wk_e a q p = 0 := by
  have hP := jP hJ q hq.1 hq.2
  unfold wk_e
  rw [if_neg (by omega), if_neg (by omega)]
  rfl
theorem wk_v_no2 {a : Int → Int} {q : Int} (h : a (3652 + 12 * q + 4) < 0 ∨ ¬ wk_D a (a (3652 + 12 * q + 4))) (p : Int) : wk_e a q p = 0 := by
  have e : wk_v a q = 0 := by
    unfold wk_v wk_vx
    rw [if_neg (fun x => by
      rcases h with h | h
      · omega
      · exact h x.2)]
  unfold wk_e wk_o
  rw [e]
  repeat' split
  all_goals first | rfl | decide
theorem AW1_e {f : Int → Int} {p n x : Int} (hp : 0 ≤ p ∧ p < 60) : AW1 f p n x = f x + if x = p then n else 0 := by
  unfold AW1
  rw [if_pos hp]
  by_cases e : x = p
  · subst e; rw [u1_s, if_pos rfl]
  · rw [u1_n e, if_neg e, Int.add_zero]
-- method 125: MillTown$Week.earnPieces(LMillTown$Town;II)V
theorem c_125_0 : pg_cd 125 0 = (5, 1, 0, 1, 0) := by decide +kernel
theorem c_125_1 : pg_cd 125 1 = (45, 8, 143, 5, 0) := by decide +kernel
theorem c_125_4 : pg_cd 125 4 = (3, 1, 0, 2, 0) := by decide +kernel
theorem c_125_5 : pg_cd 125 5 = (1, 1, 0, 0, 4) := by decide +kernel
theorem c_125_6 : pg_cd 125 6 = (80, 55, 118, 0, 0) := by decide +kernel
theorem c_125_9 : pg_cd 125 9 = (6, 2, 0, 4, 0) := by decide +kernel
theorem c_125_11 : pg_cd 125 11 = (3, 1, 0, 3, 0) := by decide +kernel
theorem c_125_12 : pg_cd 125 12 = (5, 1, 0, 0, 0) := by decide +kernel
theorem c_125_13 : pg_cd 125 13 = (3, 2, 0, 4, 0) := by decide +kernel
theorem c_125_15 : pg_cd 125 15 = (5, 1, 0, 1, 0) := by decide +kernel
theorem c_125_16 : pg_cd 125 16 = (45, 8, 115, 2, 0) := by decide +kernel
theorem c_125_19 : pg_cd 125 19 = (3, 2, 0, 4, 0) := by decide +kernel
theorem c_125_21 : pg_cd 125 21 = (1, 2, 0, 0, 6) := by decide +kernel
theorem c_125_23 : pg_cd 125 23 = (80, 55, 118, 0, 0) := by decide +kernel
theorem c_125_26 : pg_cd 125 26 = (80, 114, 161, 0, 0) := by decide +kernel
theorem c_125_29 : pg_cd 125 29 = (12, 1, 0, 0, 0) := by decide +kernel
theorem c_125_30 : pg_cd 125 30 = (6, 2, 0, 5, 0) := by decide +kernel
theorem c_125_32 : pg_cd 125 32 = (5, 1, 0, 1, 0) := by decide +kernel
theorem c_125_33 : pg_cd 125 33 = (45, 8, 143, 5, 0) := by decide +kernel
theorem c_125_36 : pg_cd 125 36 = (3, 1, 0, 2, 0) := by decide +kernel
theorem c_125_37 : pg_cd 125 37 = (1, 2, 0, 0, 6) := by decide +kernel
theorem c_125_39 : pg_cd 125 39 = (80, 55, 118, 0, 0) := by decide +kernel
theorem c_125_42 : pg_cd 125 42 = (6, 2, 0, 6, 0) := by decide +kernel
theorem c_125_44 : pg_cd 125 44 = (3, 2, 0, 6, 0) := by decide +kernel
theorem c_125_46 : pg_cd 125 46 = (1, 1, 0, 0, (-1)) := by decide +kernel
theorem c_125_47 : pg_cd 125 47 = (37, 3, 0, 1, 8) := by decide +kernel
theorem c_125_50 : pg_cd 125 50 = (3, 2, 0, 5, 0) := by decide +kernel
theorem c_125_52 : pg_cd 125 52 = (38, 3, 0, 0, 7) := by decide +kernel
theorem c_125_55 : pg_cd 125 55 = (3, 2, 0, 5, 0) := by decide +kernel
theorem c_125_57 : pg_cd 125 57 = (1, 1, 0, 0, 3) := by decide +kernel
theorem c_125_58 : pg_cd 125 58 = (16, 1, 0, 0, 0) := by decide +kernel
theorem c_125_59 : pg_cd 125 59 = (6, 2, 0, 7, 0) := by decide +kernel
theorem c_125_61 : pg_cd 125 61 = (5, 1, 0, 0, 0) := by decide +kernel
theorem c_125_62 : pg_cd 125 62 = (3, 1, 0, 2, 0) := by decide +kernel
theorem c_125_63 : pg_cd 125 63 = (3, 2, 0, 7, 0) := by decide +kernel
theorem c_125_65 : pg_cd 125 65 = (80, 126, 220, 0, 0) := by decide +kernel
theorem c_125_68 : pg_cd 125 68 = (5, 1, 0, 0, 0) := by decide +kernel
theorem c_125_69 : pg_cd 125 69 = (3, 2, 0, 6, 0) := by decide +kernel
theorem c_125_71 : pg_cd 125 71 = (3, 2, 0, 5, 0) := by decide +kernel
theorem c_125_73 : pg_cd 125 73 = (3, 2, 0, 7, 0) := by decide +kernel
theorem c_125_75 : pg_cd 125 75 = (11, 1, 0, 0, 0) := by decide +kernel
theorem c_125_76 : pg_cd 125 76 = (80, 126, 220, 0, 0) := by decide +kernel
theorem c_125_79 : pg_cd 125 79 = (94, 0, 0, 0, 0) := by decide +kernel
theorem mi_125 : pg_mc 125 = 9 ∧ pg_na 125 = 3 ∧ pg_mx 125 = 8 := by decide +kernel
set_option maxRecDepth 20000 in
theorem u_125_0 {d : Nat} {S : zS} {σ τ : zI} {Q : zQ} {x1 : Nat} {x2 : Int} {x3 : Int} (hx1 : tw x1) (t : (rg x2) ∧ (0 ≤ (rt_ (σ (x1 + 11) 2) (σ (x1 + 12)) 9 4 x2) ∧ (rt_ (σ (x1 + 11) 2) (σ (x1 + 12)) 9 4 x2) < (8 : Int)) ∧ (0 ≤ (rt_ (σ (x1 + 5) 2) (σ (x1 + 6)) 13 6 (rt_ (σ (x1 + 11) 2) (σ (x1 + 12)) 9 4 x2)) ∧ (rt_ (σ (x1 + 5) 2) (σ (x1 + 6)) 13 6 (rt_ (σ (x1 + 11) 2) (σ (x1 + 12)) 9 4 x2)) < (6 : Int)) ∧ if (rt_ (σ (x1 + 11) 2) (σ (x1 + 12)) 9 6 x2) = (-1) then ((0 ≤ x2 ∧ x2 < (60 : Int) → rg (σ 61 x2 + (x3 * (σ 62 ((rt_ (σ (x1 + 11) 2) (σ (x1 + 12)) 9 4 x2) * 6 + (rt_ (σ (x1 + 5) 2) (σ (x1 + 6)) 13 6 (rt_ (σ (x1 + 11) 2) (σ (x1 + 12)) 9 4 x2))))))) ∧ (0 ≤ (rt_ (σ (x1 + 11) 2) (σ (x1 + 12)) 9 6 x2) ∧ (rt_ (σ (x1 + 11) 2) (σ (x1 + 12)) 9 6 x2) < (60 : Int) → rg ((uc σ 61 (AW1 ((σ 61)) x2 (x3 * (σ 62 ((rt_ (σ (x1 + 11) 2) (σ (x1 + 12)) 9 4 x2) * 6 + (rt_ (σ (x1 + 5) 2) (σ (x1 + 6)) 13 6 (rt_ (σ (x1 + 11) 2) (σ (x1 + 12)) 9 4 x2))))))) 61 (rt_ (σ (x1 + 11) 2) (σ (x1 + 12)) 9 6 x2) + ((x3 * (σ 62 ((rt_ (σ (x1 + 11) 2) (σ (x1 + 12)) 9 4 x2) * 6 + (rt_ (σ (x1 + 5) 2) (σ (x1 + 6)) 13 6 (rt_ (σ (x1 + 11) 2) (σ (x1 + 12)) 9 4 x2))))) - (x3 * (σ 62 ((rt_ (σ (x1 + 11) 2) (σ (x1 + 12)) 9 4 x2) * 6 + (rt_ (σ (x1 + 5) 2) (σ (x1 + 6)) 13 6 (rt_ (σ (x1 + 11) 2) (σ (x1 + 12)) 9 4 x2)))))))) ∧ Q none S (uc σ 61 (AW1 ((AW1 ((σ 61)) x2 (x3 * (σ 62 ((rt_ (σ (x1 + 11) 2) (σ (x1 + 12)) 9 4 x2) * 6 + (rt_ (σ (x1 + 5) 2) (σ (x1 + 6)) 13 6 (rt_ (σ (x1 + 11) 2) (σ (x1 + 12)) 9 4 x2))))))) (rt_ (σ (x1 + 11) 2) (σ (x1 + 12)) 9 6 x2) ((x3 * (σ 62 ((rt_ (σ (x1 + 11) 2) (σ (x1 + 12)) 9 4 x2) * 6 + (rt_ (σ (x1 + 5) 2) (σ (x1 + 6)) 13 6 (rt_ (σ (x1 + 11) 2) (σ (x1 + 12)) 9 4 x2))))) - (x3 * (σ 62 ((rt_ (σ (x1 + 11) 2) (σ (x1 + 12)) 9 4 x2) * 6 + (rt_ (σ (x1 + 5) 2) (σ (x1 + 6)) 13 6 (rt_ (σ (x1 + 11) 2) (σ (x1 + 12)) 9 4 x2)))))))) τ) else ((rg (x3 * (σ 62 ((rt_ (σ (x1 + 11) 2) (σ (x1 + 12)) 9 4 x2) * 6 + (rt_ (σ (x1 + 5) 2) (σ (x1 + 6)) 13 6 (rt_ (σ (x1 + 11) 2) (σ (x1 + 12)) 9 4 x2)))))) ∧ (0 ≤ x2 ∧ x2 < (60 : Int) → rg (σ 61 x2 + (Int.tdiv (x3 * (σ 62 ((rt_ (σ (x1 + 11) 2) (σ (x1 + 12)) 9 4 x2) * 6 + (rt_ (σ (x1 + 5) 2) (σ (x1 + 6)) 13 6 (rt_ (σ (x1 + 11) 2) (σ (x1 + 12)) 9 4 x2))))) 3))) ∧ (0 ≤ (rt_ (σ (x1 + 11) 2) (σ (x1 + 12)) 9 6 x2) ∧ (rt_ (σ (x1 + 11) 2) (σ (x1 + 12)) 9 6 x2) < (60 : Int) → rg ((uc σ 61 (AW1 ((σ 61)) x2 (Int.tdiv (x3 * (σ 62 ((rt_ (σ (x1 + 11) 2) (σ (x1 + 12)) 9 4 x2) * 6 + (rt_ (σ (x1 + 5) 2) (σ (x1 + 6)) 13 6 (rt_ (σ (x1 + 11) 2) (σ (x1 + 12)) 9 4 x2))))) 3))) 61 (rt_ (σ (x1 + 11) 2) (σ (x1 + 12)) 9 6 x2) + ((x3 * (σ 62 ((rt_ (σ (x1 + 11) 2) (σ (x1 + 12)) 9 4 x2) * 6 + (rt_ (σ (x1 + 5) 2) (σ (x1 + 6)) 13 6 (rt_ (σ (x1 + 11) 2) (σ (x1 + 12)) 9 4 x2))))) - (Int.tdiv (x3 * (σ 62 ((rt_ (σ (x1 + 11) 2) (σ (x1 + 12)) 9 4 x2) * 6 + (rt_ (σ (x1 + 5) 2) (σ (x1 + 6)) 13 6 (rt_ (σ (x1 + 11) 2) (σ (x1 + 12)) 9 4 x2))))) 3)))) ∧ Q none S (uc σ 61 (AW1 ((AW1 ((σ 61)) x2 (Int.tdiv (x3 * (σ 62 ((rt_ (σ (x1 + 11) 2) (σ (x1 + 12)) 9 4 x2) * 6 + (rt_ (σ (x1 + 5) 2) (σ (x1 + 6)) 13 6 (rt_ (σ (x1 + 11) 2) (σ (x1 + 12)) 9 4 x2))))) 3))) (rt_ (σ (x1 + 11) 2) (σ (x1 + 12)) 9 6 x2) ((x3 * (σ 62 ((rt_ (σ (x1 + 11) 2) (σ (x1 + 12)) 9 4 x2) * 6 + (rt_ (σ (x1 + 5) 2) (σ (x1 + 6)) 13 6 (rt_ (σ (x1 + 11) 2) (σ (x1 + 12)) 9 4 x2))))) - (Int.tdiv (x3 * (σ 62 ((rt_ (σ (x1 + 11) 2) (σ (x1 + 12)) 9 4 x2) * 6 + (rt_ (σ (x1 + 5) 2) (σ (x1 + 6)) 13 6 (rt_ (σ (x1 + 11) 2) (σ (x1 + 12)) 9 4 x2))))) 3)))) τ)) : wi (d + 1) 125 0 [.ref 53, .ref x1, .int (wI x2), .int (wI x3), .retAddr 0, .retAddr 0, .retAddr 0, .retAddr 0] [] S σ τ Q := by
  obtain ⟨r1, t⟩ := t
  refine i5 c_125_0 rfl (i45 c_125_1 (lo (lyt_0 hx1) (by have := tw_b hx1; omega)) (lro (lrt_5 hx1)) (i3 c_125_4 rfl (i1 c_125_5 (wi_ok (fun K2 => ?_)))))
  refine i80 (As := [.int (wI x2), .int (wI 4)]) (rest := []) c_125_6 mi_55 rfl rfl (Nat.le_of_ble_eq_true rfl) (Nat.le_of_ble_eq_true rfl) (lo (lyt_11 hx1) (by have := tw_b hx1; omega)) (q_at (ow_persons hx1) r1 (by decide) ?_)
  show wi (d + 1) 125 9 [.ref 53, .ref x1, .int (wI x2), .int (wI x3), .retAddr 0, .retAddr 0, .retAddr 0, .retAddr 0] [.int (wI (rt_ (σ (x1 + 11) 2) (σ (x1 + 12)) 9 4 x2))] S σ τ Q
  refine i6 (L' := [.ref 53, .ref x1, .int (wI x2), .int (wI x3), .int (wI (rt_ (σ (x1 + 11) 2) (σ (x1 + 12)) 9 4 x2)), .retAddr 0, .retAddr 0, .retAddr 0]) c_125_9 rfl (i3 c_125_11 rfl (i5 c_125_12 rfl (i3 c_125_13 rfl (i5 c_125_15 rfl (i45 c_125_16 (lo (lyt_0 hx1) (by have := tw_b hx1; omega)) (lro (lrt_2 hx1)) (i3 c_125_19 rfl (i1 c_125_21 ?_)))))))
  refine i80 (As := [.int (wI (rt_ (σ (x1 + 11) 2) (σ (x1 + 12)) 9 4 x2)), .int (wI 6)]) (rest := [.int (wI (rt_ (σ (x1 + 11) 2) (σ (x1 + 12)) 9 4 x2)), .ref 53, .int (wI x3)]) c_125_23 mi_55 rfl rfl (Nat.le_of_ble_eq_true rfl) (Nat.le_of_ble_eq_true rfl) (lo (lyt_5 hx1) (by have := tw_b hx1; omega)) (q_at (ow_mills hx1) (rg_rt_ (fun k => kO_r K2 _ k) _ _ _ _) (by decide) ?_)
  show wi (d + 1) 125 26 [.ref 53, .ref x1, .int (wI x2), .int (wI x3), .int (wI (rt_ (σ (x1 + 11) 2) (σ (x1 + 12)) 9 4 x2)), .retAddr 0, .retAddr 0, .retAddr 0] [.int (wI (rt_ (σ (x1 + 5) 2) (σ (x1 + 6)) 13 6 (rt_ (σ (x1 + 11) 2) (σ (x1 + 12)) 9 4 x2))), .int (wI (rt_ (σ (x1 + 11) 2) (σ (x1 + 12)) 9 4 x2)), .ref 53, .int (wI x3)] S σ τ Q
  obtain ⟨p3, t⟩ := t
  obtain ⟨p4, t⟩ := t
  refine i80 (As := [.int (wI (rt_ (σ (x1 + 11) 2) (σ (x1 + 12)) 9 4 x2)), .int (wI (rt_ (σ (x1 + 5) 2) (σ (x1 + 6)) 13 6 (rt_ (σ (x1 + 11) 2) (σ (x1 + 12)) 9 4 x2)))]) (rest := [.int (wI x3)]) c_125_26 mi_114 rfl rfl (Nat.le_of_ble_eq_true rfl) (Nat.le_of_ble_eq_true rfl) (lo (c := 53) (kd := 109) (n := 0) rfl (by decide)) (q_114 p3 p4 ?_)
  show wi (d + 1) 125 29 [.ref 53, .ref x1, .int (wI x2), .int (wI x3), .int (wI (rt_ (σ (x1 + 11) 2) (σ (x1 + 12)) 9 4 x2)), .retAddr 0, .retAddr 0, .retAddr 0] [.int (wI (σ 62 ((rt_ (σ (x1 + 11) 2) (σ (x1 + 12)) 9 4 x2) * 6 + (rt_ (σ (x1 + 5) 2) (σ (x1 + 6)) 13 6 (rt_ (σ (x1 + 11) 2) (σ (x1 + 12)) 9 4 x2))))), .int (wI x3)] S σ τ Q
  refine i12 c_125_29 (i6 (L' := [.ref 53, .ref x1, .int (wI x2), .int (wI x3), .int (wI (rt_ (σ (x1 + 11) 2) (σ (x1 + 12)) 9 4 x2)), .int (wI (x3 * (σ 62 ((rt_ (σ (x1 + 11) 2) (σ (x1 + 12)) 9 4 x2) * 6 + (rt_ (σ (x1 + 5) 2) (σ (x1 + 6)) 13 6 (rt_ (σ (x1 + 11) 2) (σ (x1 + 12)) 9 4 x2)))))), .retAddr 0, .retAddr 0]) c_125_30 rfl (i5 c_125_32 rfl (i45 c_125_33 (lo (lyt_0 hx1) (by have := tw_b hx1; omega)) (lro (lrt_5 hx1)) (i3 c_125_36 rfl (i1 c_125_37 ?_)))))
  refine i80 (As := [.int (wI x2), .int (wI 6)]) (rest := []) c_125_39 mi_55 rfl rfl (Nat.le_of_ble_eq_true rfl) (Nat.le_of_ble_eq_true rfl) (lo (lyt_11 hx1) (by have := tw_b hx1; omega)) (q_at (ow_persons hx1) r1 (by decide) ?_)
  show wi (d + 1) 125 42 [.ref 53, .ref x1, .int (wI x2), .int (wI x3), .int (wI (rt_ (σ (x1 + 11) 2) (σ (x1 + 12)) 9 4 x2)), .int (wI (x3 * (σ 62 ((rt_ (σ (x1 + 11) 2) (σ (x1 + 12)) 9 4 x2) * 6 + (rt_ (σ (x1 + 5) 2) (σ (x1 + 6)) 13 6 (rt_ (σ (x1 + 11) 2) (σ (x1 + 12)) 9 4 x2)))))), .retAddr 0, .retAddr 0] [.int (wI (rt_ (σ (x1 + 11) 2) (σ (x1 + 12)) 9 6 x2))] S σ τ Q
  refine i6 (L' := [.ref 53, .ref x1, .int (wI x2), .int (wI x3), .int (wI (rt_ (σ (x1 + 11) 2) (σ (x1 + 12)) 9 4 x2)), .int (wI (x3 * (σ 62 ((rt_ (σ (x1 + 11) 2) (σ (x1 + 12)) 9 4 x2) * 6 + (rt_ (σ (x1 + 5) 2) (σ (x1 + 6)) 13 6 (rt_ (σ (x1 + 11) 2) (σ (x1 + 12)) 9 4 x2)))))), .int (wI (rt_ (σ (x1 + 11) 2) (σ (x1 + 12)) 9 6 x2)), .retAddr 0]) c_125_42 rfl (i3 c_125_44 rfl (i1 c_125_46 ?_))
  refine i37 c_125_47 (rg_rt_ (fun k => kO_r K2 _ k) _ _ _ _) (by decide) rfl (fun hc => ?_) (fun hc => ?_)
  · have t := iF t hc
    have ha5 : ¬ ((rt_ (σ (x1 + 11) 2) (σ (x1 + 12)) 9 6 x2) = (-1)) := hc
    obtain ⟨r6, t⟩ := t
    obtain ⟨p7, t⟩ := t
    refine i3 c_125_55 rfl (i1 c_125_57 (i16 c_125_58 r6 (by decide) (by decide) (i6 (L' := [.ref 53, .ref x1, .int (wI x2), .int (wI x3), .int (wI (rt_ (σ (x1 + 11) 2) (σ (x1 + 12)) 9 4 x2)), .int (wI (x3 * (σ 62 ((rt_ (σ (x1 + 11) 2) (σ (x1 + 12)) 9 4 x2) * 6 + (rt_ (σ (x1 + 5) 2) (σ (x1 + 6)) 13 6 (rt_ (σ (x1 + 11) 2) (σ (x1 + 12)) 9 4 x2)))))), .int (wI (rt_ (σ (x1 + 11) 2) (σ (x1 + 12)) 9 6 x2)), .int (wI (Int.tdiv (x3 * (σ 62 ((rt_ (σ (x1 + 11) 2) (σ (x1 + 12)) 9 4 x2) * 6 + (rt_ (σ (x1 + 5) 2) (σ (x1 + 6)) 13 6 (rt_ (σ (x1 + 11) 2) (σ (x1 + 12)) 9 4 x2))))) 3))]) c_125_59 rfl (i5 c_125_61 rfl (i3 c_125_62 rfl (i3 c_125_63 rfl ?_))))))
    refine i80 (As := [.int (wI x2), .int (wI (Int.tdiv (x3 * (σ 62 ((rt_ (σ (x1 + 11) 2) (σ (x1 + 12)) 9 4 x2) * 6 + (rt_ (σ (x1 + 5) 2) (σ (x1 + 6)) 13 6 (rt_ (σ (x1 + 11) 2) (σ (x1 + 12)) 9 4 x2))))) 3))]) (rest := []) c_125_65 mi_126 rfl rfl (Nat.le_of_ble_eq_true rfl) (Nat.le_of_ble_eq_true rfl) (lo (c := 53) (kd := 109) (n := 0) rfl (by decide)) (q_126 r1 p7 ?_)
    show wi (d + 1) 125 68 [.ref 53, .ref x1, .int (wI x2), .int (wI x3), .int (wI (rt_ (σ (x1 + 11) 2) (σ (x1 + 12)) 9 4 x2)), .int (wI (x3 * (σ 62 ((rt_ (σ (x1 + 11) 2) (σ (x1 + 12)) 9 4 x2) * 6 + (rt_ (σ (x1 + 5) 2) (σ (x1 + 6)) 13 6 (rt_ (σ (x1 + 11) 2) (σ (x1 + 12)) 9 4 x2)))))), .int (wI (rt_ (σ (x1 + 11) 2) (σ (x1 + 12)) 9 6 x2)), .int (wI (Int.tdiv (x3 * (σ 62 ((rt_ (σ (x1 + 11) 2) (σ (x1 + 12)) 9 4 x2) * 6 + (rt_ (σ (x1 + 5) 2) (σ (x1 + 6)) 13 6 (rt_ (σ (x1 + 11) 2) (σ (x1 + 12)) 9 4 x2))))) 3))] [] S (uc σ 61 (AW1 ((σ 61)) x2 (Int.tdiv (x3 * (σ 62 ((rt_ (σ (x1 + 11) 2) (σ (x1 + 12)) 9 4 x2) * 6 + (rt_ (σ (x1 + 5) 2) (σ (x1 + 6)) 13 6 (rt_ (σ (x1 + 11) 2) (σ (x1 + 12)) 9 4 x2))))) 3))) τ Q
    obtain ⟨p8, t⟩ := t
    refine i5 c_125_68 rfl (i3 c_125_69 rfl (i3 c_125_71 rfl (i3 c_125_73 rfl (i11 c_125_75 ?_))))
    refine i80 (As := [.int (wI (rt_ (σ (x1 + 11) 2) (σ (x1 + 12)) 9 6 x2)), .int (wI ((x3 * (σ 62 ((rt_ (σ (x1 + 11) 2) (σ (x1 + 12)) 9 4 x2) * 6 + (rt_ (σ (x1 + 5) 2) (σ (x1 + 6)) 13 6 (rt_ (σ (x1 + 11) 2) (σ (x1 + 12)) 9 4 x2))))) - (Int.tdiv (x3 * (σ 62 ((rt_ (σ (x1 + 11) 2) (σ (x1 + 12)) 9 4 x2) * 6 + (rt_ (σ (x1 + 5) 2) (σ (x1 + 6)) 13 6 (rt_ (σ (x1 + 11) 2) (σ (x1 + 12)) 9 4 x2))))) 3)))]) (rest := []) c_125_76 mi_126 rfl rfl (Nat.le_of_ble_eq_true rfl) (Nat.le_of_ble_eq_true rfl) (lo (c := 53) (kd := 109) (n := 0) rfl (by decide)) (q_126 (rg_rt_ (fun k => kO_r K2 _ k) _ _ _ _) p8 ?_)
    show wi (d + 1) 125 79 [.ref 53, .ref x1, .int (wI x2), .int (wI x3), .int (wI (rt_ (σ (x1 + 11) 2) (σ (x1 + 12)) 9 4 x2)), .int (wI (x3 * (σ 62 ((rt_ (σ (x1 + 11) 2) (σ (x1 + 12)) 9 4 x2) * 6 + (rt_ (σ (x1 + 5) 2) (σ (x1 + 6)) 13 6 (rt_ (σ (x1 + 11) 2) (σ (x1 + 12)) 9 4 x2)))))), .int (wI (rt_ (σ (x1 + 11) 2) (σ (x1 + 12)) 9 6 x2)), .int (wI (Int.tdiv (x3 * (σ 62 ((rt_ (σ (x1 + 11) 2) (σ (x1 + 12)) 9 4 x2) * 6 + (rt_ (σ (x1 + 5) 2) (σ (x1 + 6)) 13 6 (rt_ (σ (x1 + 11) 2) (σ (x1 + 12)) 9 4 x2))))) 3))] [] S (uc (uc σ 61 (AW1 ((σ 61)) x2 (Int.tdiv (x3 * (σ 62 ((rt_ (σ (x1 + 11) 2) (σ (x1 + 12)) 9 4 x2) * 6 + (rt_ (σ (x1 + 5) 2) (σ (x1 + 6)) 13 6 (rt_ (σ (x1 + 11) 2) (σ (x1 + 12)) 9 4 x2))))) 3))) 61 (AW1 ((uc σ 61 (AW1 ((σ 61)) x2 (Int.tdiv (x3 * (σ 62 ((rt_ (σ (x1 + 11) 2) (σ (x1 + 12)) 9 4 x2) * 6 + (rt_ (σ (x1 + 5) 2) (σ (x1 + 6)) 13 6 (rt_ (σ (x1 + 11) 2) (σ (x1 + 12)) 9 4 x2))))) 3))) 61) (rt_ (σ (x1 + 11) 2) (σ (x1 + 12)) 9 6 x2) ((x3 * (σ 62 ((rt_ (σ (x1 + 11) 2) (σ (x1 + 12)) 9 4 x2) * 6 + (rt_ (σ (x1 + 5) 2) (σ (x1 + 6)) 13 6 (rt_ (σ (x1 + 11) 2) (σ (x1 + 12)) 9 4 x2))))) - (Int.tdiv (x3 * (σ 62 ((rt_ (σ (x1 + 11) 2) (σ (x1 + 12)) 9 4 x2) * 6 + (rt_ (σ (x1 + 5) 2) (σ (x1 + 6)) 13 6 (rt_ (σ (x1 + 11) 2) (σ (x1 + 12)) 9 4 x2))))) 3)))) τ Q
    refine wi_s (σ1 := uc σ 61 (AW1 ((AW1 ((σ 61)) x2 (Int.tdiv (x3 * (σ 62 ((rt_ (σ (x1 + 11) 2) (σ (x1 + 12)) 9 4 x2) * 6 + (rt_ (σ (x1 + 5) 2) (σ (x1 + 6)) 13 6 (rt_ (σ (x1 + 11) 2) (σ (x1 + 12)) 9 4 x2))))) 3))) (rt_ (σ (x1 + 11) 2) (σ (x1 + 12)) 9 6 x2) ((x3 * (σ 62 ((rt_ (σ (x1 + 11) 2) (σ (x1 + 12)) 9 4 x2) * 6 + (rt_ (σ (x1 + 5) 2) (σ (x1 + 6)) 13 6 (rt_ (σ (x1 + 11) 2) (σ (x1 + 12)) 9 4 x2))))) - (Int.tdiv (x3 * (σ 62 ((rt_ (σ (x1 + 11) 2) (σ (x1 + 12)) 9 4 x2) * 6 + (rt_ (σ (x1 + 5) 2) (σ (x1 + 6)) 13 6 (rt_ (σ (x1 + 11) 2) (σ (x1 + 12)) 9 4 x2))))) 3)))) (by funext j; by_cases h0 : j = 61 <;> simp [uc, h0]) ?_
    exact i94 c_125_79 t
  · have t := iT t (Decidable.not_not.mp hc)
    have ha5 : (rt_ (σ (x1 + 11) 2) (σ (x1 + 12)) 9 6 x2) = (-1) := Decidable.not_not.mp hc
    obtain ⟨p9, t⟩ := t
    refine i3 c_125_50 rfl (i38 c_125_52 rfl (i6 (L' := [.ref 53, .ref x1, .int (wI x2), .int (wI x3), .int (wI (rt_ (σ (x1 + 11) 2) (σ (x1 + 12)) 9 4 x2)), .int (wI (x3 * (σ 62 ((rt_ (σ (x1 + 11) 2) (σ (x1 + 12)) 9 4 x2) * 6 + (rt_ (σ (x1 + 5) 2) (σ (x1 + 6)) 13 6 (rt_ (σ (x1 + 11) 2) (σ (x1 + 12)) 9 4 x2)))))), .int (wI (rt_ (σ (x1 + 11) 2) (σ (x1 + 12)) 9 6 x2)), .int (wI (x3 * (σ 62 ((rt_ (σ (x1 + 11) 2) (σ (x1 + 12)) 9 4 x2) * 6 + (rt_ (σ (x1 + 5) 2) (σ (x1 + 6)) 13 6 (rt_ (σ (x1 + 11) 2) (σ (x1 + 12)) 9 4 x2))))))]) c_125_59 rfl (i5 c_125_61 rfl (i3 c_125_62 rfl (i3 c_125_63 rfl ?_)))))
    refine i80 (As := [.int (wI x2), .int (wI (x3 * (σ 62 ((rt_ (σ (x1 + 11) 2) (σ (x1 + 12)) 9 4 x2) * 6 + (rt_ (σ (x1 + 5) 2) (σ (x1 + 6)) 13 6 (rt_ (σ (x1 + 11) 2) (σ (x1 + 12)) 9 4 x2))))))]) (rest := []) c_125_65 mi_126 rfl rfl (Nat.le_of_ble_eq_true rfl) (Nat.le_of_ble_eq_true rfl) (lo (c := 53) (kd := 109) (n := 0) rfl (by decide)) (q_126 r1 p9 ?_)
    show wi (d + 1) 125 68 [.ref 53, .ref x1, .int (wI x2), .int (wI x3), .int (wI (rt_ (σ (x1 + 11) 2) (σ (x1 + 12)) 9 4 x2)), .int (wI (x3 * (σ 62 ((rt_ (σ (x1 + 11) 2) (σ (x1 + 12)) 9 4 x2) * 6 + (rt_ (σ (x1 + 5) 2) (σ (x1 + 6)) 13 6 (rt_ (σ (x1 + 11) 2) (σ (x1 + 12)) 9 4 x2)))))), .int (wI (rt_ (σ (x1 + 11) 2) (σ (x1 + 12)) 9 6 x2)), .int (wI (x3 * (σ 62 ((rt_ (σ (x1 + 11) 2) (σ (x1 + 12)) 9 4 x2) * 6 + (rt_ (σ (x1 + 5) 2) (σ (x1 + 6)) 13 6 (rt_ (σ (x1 + 11) 2) (σ (x1 + 12)) 9 4 x2))))))] [] S (uc σ 61 (AW1 ((σ 61)) x2 (x3 * (σ 62 ((rt_ (σ (x1 + 11) 2) (σ (x1 + 12)) 9 4 x2) * 6 + (rt_ (σ (x1 + 5) 2) (σ (x1 + 6)) 13 6 (rt_ (σ (x1 + 11) 2) (σ (x1 + 12)) 9 4 x2))))))) τ Q
    obtain ⟨p10, t⟩ := t
    refine i5 c_125_68 rfl (i3 c_125_69 rfl (i3 c_125_71 rfl (i3 c_125_73 rfl (i11 c_125_75 ?_))))
    refine i80 (As := [.int (wI (rt_ (σ (x1 + 11) 2) (σ (x1 + 12)) 9 6 x2)), .int (wI ((x3 * (σ 62 ((rt_ (σ (x1 + 11) 2) (σ (x1 + 12)) 9 4 x2) * 6 + (rt_ (σ (x1 + 5) 2) (σ (x1 + 6)) 13 6 (rt_ (σ (x1 + 11) 2) (σ (x1 + 12)) 9 4 x2))))) - (x3 * (σ 62 ((rt_ (σ (x1 + 11) 2) (σ (x1 + 12)) 9 4 x2) * 6 + (rt_ (σ (x1 + 5) 2) (σ (x1 + 6)) 13 6 (rt_ (σ (x1 + 11) 2) (σ (x1 + 12)) 9 4 x2)))))))]) (rest := []) c_125_76 mi_126 rfl rfl (Nat.le_of_ble_eq_true rfl) (Nat.le_of_ble_eq_true rfl) (lo (c := 53) (kd := 109) (n := 0) rfl (by decide)) (q_126 (rg_rt_ (fun k => kO_r K2 _ k) _ _ _ _) p10 ?_)
    show wi (d + 1) 125 79 [.ref 53, .ref x1, .int (wI x2), .int (wI x3), .int (wI (rt_ (σ (x1 + 11) 2) (σ (x1 + 12)) 9 4 x2)), .int (wI (x3 * (σ 62 ((rt_ (σ (x1 + 11) 2) (σ (x1 + 12)) 9 4 x2) * 6 + (rt_ (σ (x1 + 5) 2) (σ (x1 + 6)) 13 6 (rt_ (σ (x1 + 11) 2) (σ (x1 + 12)) 9 4 x2)))))), .int (wI (rt_ (σ (x1 + 11) 2) (σ (x1 + 12)) 9 6 x2)), .int (wI (x3 * (σ 62 ((rt_ (σ (x1 + 11) 2) (σ (x1 + 12)) 9 4 x2) * 6 + (rt_ (σ (x1 + 5) 2) (σ (x1 + 6)) 13 6 (rt_ (σ (x1 + 11) 2) (σ (x1 + 12)) 9 4 x2))))))] [] S (uc (uc σ 61 (AW1 ((σ 61)) x2 (x3 * (σ 62 ((rt_ (σ (x1 + 11) 2) (σ (x1 + 12)) 9 4 x2) * 6 + (rt_ (σ (x1 + 5) 2) (σ (x1 + 6)) 13 6 (rt_ (σ (x1 + 11) 2) (σ (x1 + 12)) 9 4 x2))))))) 61 (AW1 ((uc σ 61 (AW1 ((σ 61)) x2 (x3 * (σ 62 ((rt_ (σ (x1 + 11) 2) (σ (x1 + 12)) 9 4 x2) * 6 + (rt_ (σ (x1 + 5) 2) (σ (x1 + 6)) 13 6 (rt_ (σ (x1 + 11) 2) (σ (x1 + 12)) 9 4 x2))))))) 61) (rt_ (σ (x1 + 11) 2) (σ (x1 + 12)) 9 6 x2) ((x3 * (σ 62 ((rt_ (σ (x1 + 11) 2) (σ (x1 + 12)) 9 4 x2) * 6 + (rt_ (σ (x1 + 5) 2) (σ (x1 + 6)) 13 6 (rt_ (σ (x1 + 11) 2) (σ (x1 + 12)) 9 4 x2))))) - (x3 * (σ 62 ((rt_ (σ (x1 + 11) 2) (σ (x1 + 12)) 9 4 x2) * 6 + (rt_ (σ (x1 + 5) 2) (σ (x1 + 6)) 13 6 (rt_ (σ (x1 + 11) 2) (σ (x1 + 12)) 9 4 x2)))))))) τ Q
    refine wi_s (σ1 := uc σ 61 (AW1 ((AW1 ((σ 61)) x2 (x3 * (σ 62 ((rt_ (σ (x1 + 11) 2) (σ (x1 + 12)) 9 4 x2) * 6 + (rt_ (σ (x1 + 5) 2) (σ (x1 + 6)) 13 6 (rt_ (σ (x1 + 11) 2) (σ (x1 + 12)) 9 4 x2))))))) (rt_ (σ (x1 + 11) 2) (σ (x1 + 12)) 9 6 x2) ((x3 * (σ 62 ((rt_ (σ (x1 + 11) 2) (σ (x1 + 12)) 9 4 x2) * 6 + (rt_ (σ (x1 + 5) 2) (σ (x1 + 6)) 13 6 (rt_ (σ (x1 + 11) 2) (σ (x1 + 12)) 9 4 x2))))) - (x3 * (σ 62 ((rt_ (σ (x1 + 11) 2) (σ (x1 + 12)) 9 4 x2) * 6 + (rt_ (σ (x1 + 5) 2) (σ (x1 + 6)) 13 6 (rt_ (σ (x1 + 11) 2) (σ (x1 + 12)) 9 4 x2)))))))) (by funext j; by_cases h0 : j = 61 <;> simp [uc, h0]) ?_
    exact i94 c_125_79 t
theorem q_125 {d : Nat} {S : zS} {σ τ : zI} {Q : zQ} {tn : Nat} {p : Int} {n : Int} {a : Int → Int} {PE : Int → Int → Int} {MI : Int → Int → Int} {TK : Int → Int} {OD : Int → Int → Int} {m : Int} (htn : tw tn) (p0 : CS σ tn a PE MI TK OD) (p1 : Jv a) (p2 : jv_T a) (p3 : a 0 ≤ 399) (p4 : 0 ≤ p ∧ p < a 4) (p5 : wk_wv a m p ∧ wk_D a m) (p6 : sP a PE ∧ MI m 7 = wk_ls a m) (p7 : n = wk_nx a m p) (p8 : PYk σ a) (p9 : (∀ x, 0 ≤ x → x < 60 → 0 ≤ σ 61 x ∧ σ 61 x ≤ 330000000)) (t : ∀ (σ1 : zI), (∀ c, c ≠ 61 → σ1 c = σ c) → (∀ x, 0 ≤ x → x < 60 → σ1 61 x = σ 61 x + wk_e a p x) → Q none S σ1 τ) : wc (d + 1) 125 [.ref 53, .ref tn, .int (wI p), .int (wI n)] S σ τ Q := by
  have hC := jC p1
  unfold jv_C at hC
  have hP := jP p1 p p4.1 p4.2
  obtain ⟨hw, hD⟩ := p5
  have hm : 0 ≤ m ∧ m < a 1 := by have := hw.1; omega
  have yb := wk_by_b p1 p2 p3 hm hD
  have vb := wk_v_b p1 p2 p3 p4
  have pay := wk_pay p1 p2 p3 hm hD p8
  have v4 : rt_ (σ (tn + 11) 2) (σ (tn + 12)) 9 4 p = m := by rw [vp p0 p4 (by omega), p6.1 p 4 (by omega) (by omega) (by omega) (by omega) (by omega) (by omega)]; exact hw.1
  have v6 : rt_ (σ (tn + 11) 2) (σ (tn + 12)) 9 6 p = a (3652 + 12 * p + 6) := by rw [vp p0 p4 (by omega), p6.1 p 6 (by omega) (by omega) (by omega) (by omega) (by omega) (by omega)]
  have k6 : rt_ (σ (tn + 5) 2) (σ (tn + 6)) 13 6 m = wk_ls a m := by rw [vm p0 hm (show mcR 6 7 by omega), p6.2]
  have ev : n * wk_pm a m = wk_v a p := by
    unfold wk_v; rw [hw.1]; unfold wk_vx; rw [if_pos ⟨hm.1, hD⟩, if_neg (by omega), p7]; unfold wk_np; rw [hw.1]
  have wp := p9 p p4.1 (by omega)
  refine wc_of mi_125 rfl (u_125_0 htn ?_)
  rw [v4, v6, k6, pay, ev]
  refine ⟨by omega, by omega, by omega, ifI (fun e => ?_) (fun e => ?_)⟩
  · have s2 : a (3652 + 12 * p + 3) ≠ 2 := fun z => by have := hP.2.2.2.2.2.2.2.2.2.2.2.1 z; omega
    have eo : wk_o a p = wk_v a p := if_neg s2
    rw [e]
    refine ⟨fun _ => by omega, fun z => by omega, ?_⟩
    refine t _ (fun c hc => by rw [uc_n hc]) (fun x x0 x1 => ?_)
    rw [uc_s]
    unfold AW1
    rw [if_neg (by omega), if_pos (by omega)]
    unfold wk_e
    rw [eo, if_neg (fun z : a (3652 + 12 * p + 3) = 2 ∧ a (3652 + 12 * p + 6) = x => s2 z.1)]
    by_cases ex : x = p
    · subst ex; rw [u1_s, if_pos rfl]; omega
    · rw [u1_n ex, if_neg (fun z => ex z.symm)]; omega
  · have s2 : a (3652 + 12 * p + 3) = 2 := by
      by_cases z : a (3652 + 12 * p + 3) = 2
      · exact z
      · exact absurd (hP.2.2.2.2.2.2.2.2.2.2.2.2.1 z) e
    have ht := hP.2.2.2.2.2.2.2.2.2.2.2.1 s2
    have eo : wk_o a p = (wk_v a p).tdiv 3 := if_pos s2
    have wt := p9 (a (3652 + 12 * p + 6)) (by omega) (by omega)
    have tne : a (3652 + 12 * p + 6) ≠ p := fun z => by rw [z] at ht; omega
    rw [← eo]
    refine ⟨by omega, fun _ => by omega, fun z => ?_, ?_⟩
    · rw [uc_s, AW1_e ⟨p4.1, by omega⟩, if_neg tne]; omega
    · refine t _ (fun c hc => by rw [uc_n hc]) (fun x x0 x1 => ?_)
      rw [uc_s, AW1_e (by omega), AW1_e (by omega)]
      unfold wk_e
      have e1 : (if x = p then wk_o a p else 0) = (if p = x then wk_o a p else 0) := by
        by_cases z : x = p
        · rw [if_pos z, if_pos z.symm]
        · rw [if_neg z, if_neg (fun w => z w.symm)]
      have e2 : (if x = a (3652 + 12 * p + 6) then wk_v a p - wk_o a p else 0) = (if a (3652 + 12 * p + 3) = 2 ∧ a (3652 + 12 * p + 6) = x then wk_v a p - wk_o a p else 0) := by
        by_cases z : x = a (3652 + 12 * p + 6)
        · rw [if_pos z, if_pos ⟨s2, z.symm⟩]
        · rw [if_neg z, if_neg (fun w => z w.2.symm)]
      rw [e1, e2]; omega
-- method 122: MillTown$Week.runMills(LMillTown$Town;)V
theorem c_122_0 : pg_cd 122 0 = (1, 1, 0, 0, 0) := by decide +kernel
theorem c_122_1 : pg_cd 122 1 = (6, 1, 0, 2, 0) := by decide +kernel
theorem c_122_2 : pg_cd 122 2 = (3, 1, 0, 2, 0) := by decide +kernel
theorem c_122_3 : pg_cd 122 3 = (5, 1, 0, 1, 0) := by decide +kernel
theorem c_122_4 : pg_cd 122 4 = (45, 8, 143, 5, 0) := by decide +kernel
theorem c_122_7 : pg_cd 122 7 = (43, 4, 121, 2, 0) := by decide +kernel
theorem c_122_10 : pg_cd 122 10 = (37, 3, 0, 3, 122) := by decide +kernel
theorem c_122_13 : pg_cd 122 13 = (3, 1, 0, 2, 0) := by decide +kernel
theorem c_122_14 : pg_cd 122 14 = (1, 2, 0, 0, 60) := by decide +kernel
theorem c_122_16 : pg_cd 122 16 = (37, 3, 0, 3, 116) := by decide +kernel
theorem c_122_19 : pg_cd 122 19 = (5, 1, 0, 1, 0) := by decide +kernel
theorem c_122_20 : pg_cd 122 20 = (45, 8, 143, 5, 0) := by decide +kernel
theorem c_122_23 : pg_cd 122 23 = (3, 1, 0, 2, 0) := by decide +kernel
theorem c_122_24 : pg_cd 122 24 = (1, 1, 0, 0, 4) := by decide +kernel
theorem c_122_25 : pg_cd 122 25 = (80, 55, 118, 0, 0) := by decide +kernel
theorem c_122_28 : pg_cd 122 28 = (6, 1, 0, 3, 0) := by decide +kernel
theorem c_122_29 : pg_cd 122 29 = (3, 1, 0, 3, 0) := by decide +kernel
theorem c_122_30 : pg_cd 122 30 = (1, 1, 0, 0, (-1)) := by decide +kernel
theorem c_122_31 : pg_cd 122 31 = (37, 3, 0, 1, 7) := by decide +kernel
theorem c_122_34 : pg_cd 122 34 = (1, 1, 0, 0, 0) := by decide +kernel
theorem c_122_35 : pg_cd 122 35 = (38, 3, 0, 0, 13) := by decide +kernel
theorem c_122_38 : pg_cd 122 38 = (5, 1, 0, 1, 0) := by decide +kernel
theorem c_122_39 : pg_cd 122 39 = (45, 8, 115, 2, 0) := by decide +kernel
theorem c_122_42 : pg_cd 122 42 = (3, 1, 0, 3, 0) := by decide +kernel
theorem c_122_43 : pg_cd 122 43 = (1, 2, 0, 0, 7) := by decide +kernel
theorem c_122_45 : pg_cd 122 45 = (80, 55, 118, 0, 0) := by decide +kernel
theorem c_122_48 : pg_cd 122 48 = (6, 2, 0, 4, 0) := by decide +kernel
theorem c_122_50 : pg_cd 122 50 = (3, 2, 0, 4, 0) := by decide +kernel
theorem c_122_52 : pg_cd 122 52 = (36, 3, 0, 0, 74) := by decide +kernel
theorem c_122_55 : pg_cd 122 55 = (3, 2, 0, 4, 0) := by decide +kernel
theorem c_122_57 : pg_cd 122 57 = (1, 1, 0, 0, 2) := by decide +kernel
theorem c_122_58 : pg_cd 122 58 = (37, 3, 0, 1, 12) := by decide +kernel
theorem c_122_61 : pg_cd 122 61 = (5, 1, 0, 0, 0) := by decide +kernel
theorem c_122_62 : pg_cd 122 62 = (45, 9, 25, 2, 0) := by decide +kernel
theorem c_122_65 : pg_cd 122 65 = (3, 1, 0, 2, 0) := by decide +kernel
theorem c_122_66 : pg_cd 122 66 = (50, 1, 0, 0, 0) := by decide +kernel
theorem c_122_67 : pg_cd 122 67 = (38, 3, 0, 0, 11) := by decide +kernel
theorem c_122_70 : pg_cd 122 70 = (5, 1, 0, 0, 0) := by decide +kernel
theorem c_122_71 : pg_cd 122 71 = (45, 9, 25, 2, 0) := by decide +kernel
theorem c_122_74 : pg_cd 122 74 = (3, 1, 0, 2, 0) := by decide +kernel
theorem c_122_75 : pg_cd 122 75 = (50, 1, 0, 0, 0) := by decide +kernel
theorem c_122_76 : pg_cd 122 76 = (1, 1, 0, 0, 2) := by decide +kernel
theorem c_122_77 : pg_cd 122 77 = (16, 1, 0, 0, 0) := by decide +kernel
theorem c_122_78 : pg_cd 122 78 = (6, 2, 0, 5, 0) := by decide +kernel
theorem c_122_80 : pg_cd 122 80 = (5, 1, 0, 1, 0) := by decide +kernel
theorem c_122_81 : pg_cd 122 81 = (3, 1, 0, 2, 0) := by decide +kernel
theorem c_122_82 : pg_cd 122 82 = (80, 97, 193, 0, 0) := by decide +kernel
theorem c_122_85 : pg_cd 122 85 = (36, 3, 0, 0, 20) := by decide +kernel
theorem c_122_88 : pg_cd 122 88 = (5, 1, 0, 0, 0) := by decide +kernel
theorem c_122_89 : pg_cd 122 89 = (5, 1, 0, 1, 0) := by decide +kernel
theorem c_122_90 : pg_cd 122 90 = (3, 1, 0, 2, 0) := by decide +kernel
theorem c_122_91 : pg_cd 122 91 = (5, 1, 0, 0, 0) := by decide +kernel
theorem c_122_92 : pg_cd 122 92 = (5, 1, 0, 1, 0) := by decide +kernel
theorem c_122_93 : pg_cd 122 93 = (3, 1, 0, 2, 0) := by decide +kernel
theorem c_122_94 : pg_cd 122 94 = (3, 2, 0, 5, 0) := by decide +kernel
theorem c_122_96 : pg_cd 122 96 = (80, 123, 201, 0, 0) := by decide +kernel
theorem c_122_99 : pg_cd 122 99 = (80, 125, 204, 0, 0) := by decide +kernel
theorem c_122_102 : pg_cd 122 102 = (38, 3, 0, 0, 24) := by decide +kernel
theorem c_122_105 : pg_cd 122 105 = (5, 1, 0, 0, 0) := by decide +kernel
theorem c_122_106 : pg_cd 122 106 = (45, 9, 29, 3, 0) := by decide +kernel
theorem c_122_109 : pg_cd 122 109 = (3, 1, 0, 2, 0) := by decide +kernel
theorem c_122_110 : pg_cd 122 110 = (34, 1, 0, 0, 0) := by decide +kernel
theorem c_122_111 : pg_cd 122 111 = (50, 1, 0, 0, 0) := by decide +kernel
theorem c_122_112 : pg_cd 122 112 = (3, 2, 0, 5, 0) := by decide +kernel
theorem c_122_114 : pg_cd 122 114 = (5, 1, 0, 1, 0) := by decide +kernel
theorem c_122_115 : pg_cd 122 115 = (45, 8, 143, 5, 0) := by decide +kernel
theorem c_122_118 : pg_cd 122 118 = (3, 1, 0, 2, 0) := by decide +kernel
theorem c_122_119 : pg_cd 122 119 = (1, 1, 0, 0, 5) := by decide +kernel
theorem c_122_120 : pg_cd 122 120 = (80, 55, 118, 0, 0) := by decide +kernel
theorem c_122_123 : pg_cd 122 123 = (12, 1, 0, 0, 0) := by decide +kernel
theorem c_122_124 : pg_cd 122 124 = (10, 1, 0, 0, 0) := by decide +kernel
theorem c_122_125 : pg_cd 122 125 = (54, 1, 0, 0, 0) := by decide +kernel
theorem c_122_126 : pg_cd 122 126 = (9, 3, 0, 2, 1) := by decide +kernel
theorem c_122_129 : pg_cd 122 129 = (38, 3, 0, 0, (-127)) := by decide +kernel
theorem c_122_132 : pg_cd 122 132 = (94, 0, 0, 0, 0) := by decide +kernel
theorem mi_122 : pg_mc 122 = 9 ∧ pg_na 122 = 1 ∧ pg_mx 122 = 6 := by decide +kernel
set_option maxRecDepth 20000 in
theorem u_122_0 {d : Nat} {S : zS} {σ τ : zI} {Q : zQ} {x1 : Nat} (hx1 : tw x1) (t : wi (d + 10) 122 2 [.ref 53, .ref x1, .int (wI 0), .retAddr 0, .retAddr 0, .retAddr 0] [] S σ τ Q) : wi (d + 10) 122 0 [.ref 53, .ref x1, .retAddr 0, .retAddr 0, .retAddr 0, .retAddr 0] [] S σ τ Q := by
  refine i1 c_122_0 (i6 (L' := [.ref 53, .ref x1, .int (wI 0), .retAddr 0, .retAddr 0, .retAddr 0]) c_122_1 rfl t)
set_option maxRecDepth 20000 in
theorem u_122_2 {d : Nat} {S : zS} {σ τ : zI} {Q : zQ} {x1 : Nat} {x2 : Int} {y3 : Value} {y4 : Value} {y5 : Value} (hx1 : tw x1) (t : (rg x2) ∧ if (σ (x1 + 11) 2) ≤ x2 then (Q none S σ τ) else (if (60 : Int) ≤ x2 then (Q none S σ τ) else (if (rt_ (σ (x1 + 11) 2) (σ (x1 + 12)) 9 4 x2) = (-1) then (wi (d + 10) 122 2 [.ref 53, .ref x1, .int (wI (x2 + 1)), .int (wI (rt_ (σ (x1 + 11) 2) (σ (x1 + 12)) 9 4 x2)), .int (wI 0), y5] [] S σ τ Q) else (if (rt_ (σ (x1 + 5) 2) (σ (x1 + 6)) 13 7 (rt_ (σ (x1 + 11) 2) (σ (x1 + 12)) 9 4 x2)) = 0 then (wi (d + 10) 122 2 [.ref 53, .ref x1, .int (wI (x2 + 1)), .int (wI (rt_ (σ (x1 + 11) 2) (σ (x1 + 12)) 9 4 x2)), .int (wI (rt_ (σ (x1 + 5) 2) (σ (x1 + 6)) 13 7 (rt_ (σ (x1 + 11) 2) (σ (x1 + 12)) 9 4 x2))), y5] [] S σ τ Q) else (if (rt_ (σ (x1 + 5) 2) (σ (x1 + 6)) 13 7 (rt_ (σ (x1 + 11) 2) (σ (x1 + 12)) 9 4 x2)) = 2 then ((0 ≤ x2 ∧ x2 < 60) ∧ if rt_ (σ (x1 + 11) 2) (σ (x1 + 12)) 9 3 x2 = 1 ∨ rt_ (σ (x1 + 11) 2) (σ (x1 + 12)) 9 3 x2 = 2 then (∃ a49 : Int → Int, ∃ m50 : Int, (CTq σ x1 a49 x2) ∧ (Jv a49) ∧ (jv_T a49) ∧ (a49 0 ≤ 399) ∧ (0 ≤ x2 ∧ x2 < a49 4) ∧ (wk_wv a49 m50 x2 ∧ wk_D a49 m50) ∧ ((σ 60 x2) = wk_hn a49 x2) ∧ (σ 53 5 = wk_ct a49) ∧ ∀ (σ159 : zI) (v60 : Int), (∀ c, c ≠ x1 + 6 → c ≠ x1 + 12 → σ159 c = σ c) → CTq σ159 x1 a49 (x2 + 1) → v60 = wk_nx a49 m50 x2 → ∃ a64 : Int → Int, ∃ PE65 : Int → Int → Int, ∃ MI66 : Int → Int → Int, ∃ TK67 : Int → Int, ∃ OD68 : Int → Int → Int, ∃ m69 : Int, (CS σ159 x1 a64 PE65 MI66 TK67 OD68) ∧ (Jv a64) ∧ (jv_T a64) ∧ (a64 0 ≤ 399) ∧ (0 ≤ x2 ∧ x2 < a64 4) ∧ (wk_wv a64 m69 x2 ∧ wk_D a64 m69) ∧ (sP a64 PE65 ∧ MI66 m69 7 = wk_ls a64 m69) ∧ (v60 = wk_nx a64 m69 x2) ∧ (PYk σ159 a64) ∧ (∀ x, 0 ≤ x → x < 60 → 0 ≤ σ159 61 x ∧ σ159 61 x ≤ 330000000) ∧ ∀ (σ180 : zI), (∀ c, c ≠ 61 → σ180 c = σ159 c) → (∀ x, 0 ≤ x → x < 60 → σ180 61 x = σ159 61 x + wk_e a64 x2 x) → wi (d + 10) 122 2 [.ref 53, .ref x1, .int (wI (x2 + 1)), .int (wI (rt_ (σ (x1 + 11) 2) (σ (x1 + 12)) 9 4 x2)), .int (wI (rt_ (σ (x1 + 5) 2) (σ (x1 + 6)) 13 7 (rt_ (σ (x1 + 11) 2) (σ (x1 + 12)) 9 4 x2))), .int (wI (σ 60 x2))] [] S σ180 τ Q) else (∃ w83 : Int, wI w83 = wI ((σ 61 x2) + ((σ 60 x2) * (rt_ (σ (x1 + 11) 2) (σ (x1 + 12)) 9 5 x2))) ∧ rg w83 ∧ wi (d + 10) 122 2 [.ref 53, .ref x1, .int (wI (x2 + 1)), .int (wI (rt_ (σ (x1 + 11) 2) (σ (x1 + 12)) 9 4 x2)), .int (wI (rt_ (σ (x1 + 5) 2) (σ (x1 + 6)) 13 7 (rt_ (σ (x1 + 11) 2) (σ (x1 + 12)) 9 4 x2))), .int (wI (σ 60 x2))] [] S (uc σ 61 (u1 (σ 61) x2 w83)) τ Q)) else ((0 ≤ x2 ∧ x2 < 60) ∧ if rt_ (σ (x1 + 11) 2) (σ (x1 + 12)) 9 3 x2 = 1 ∨ rt_ (σ (x1 + 11) 2) (σ (x1 + 12)) 9 3 x2 = 2 then (∃ a10 : Int → Int, ∃ m11 : Int, (CTq σ x1 a10 x2) ∧ (Jv a10) ∧ (jv_T a10) ∧ (a10 0 ≤ 399) ∧ (0 ≤ x2 ∧ x2 < a10 4) ∧ (wk_wv a10 m11 x2 ∧ wk_D a10 m11) ∧ ((Int.tdiv (σ 60 x2) 2) = wk_hn a10 x2) ∧ (σ 53 5 = wk_ct a10) ∧ ∀ (σ120 : zI) (v21 : Int), (∀ c, c ≠ x1 + 6 → c ≠ x1 + 12 → σ120 c = σ c) → CTq σ120 x1 a10 (x2 + 1) → v21 = wk_nx a10 m11 x2 → ∃ a25 : Int → Int, ∃ PE26 : Int → Int → Int, ∃ MI27 : Int → Int → Int, ∃ TK28 : Int → Int, ∃ OD29 : Int → Int → Int, ∃ m30 : Int, (CS σ120 x1 a25 PE26 MI27 TK28 OD29) ∧ (Jv a25) ∧ (jv_T a25) ∧ (a25 0 ≤ 399) ∧ (0 ≤ x2 ∧ x2 < a25 4) ∧ (wk_wv a25 m30 x2 ∧ wk_D a25 m30) ∧ (sP a25 PE26 ∧ MI27 m30 7 = wk_ls a25 m30) ∧ (v21 = wk_nx a25 m30 x2) ∧ (PYk σ120 a25) ∧ (∀ x, 0 ≤ x → x < 60 → 0 ≤ σ120 61 x ∧ σ120 61 x ≤ 330000000) ∧ ∀ (σ141 : zI), (∀ c, c ≠ 61 → σ141 c = σ120 c) → (∀ x, 0 ≤ x → x < 60 → σ141 61 x = σ120 61 x + wk_e a25 x2 x) → wi (d + 10) 122 2 [.ref 53, .ref x1, .int (wI (x2 + 1)), .int (wI (rt_ (σ (x1 + 11) 2) (σ (x1 + 12)) 9 4 x2)), .int (wI (rt_ (σ (x1 + 5) 2) (σ (x1 + 6)) 13 7 (rt_ (σ (x1 + 11) 2) (σ (x1 + 12)) 9 4 x2))), .int (wI (Int.tdiv (σ 60 x2) 2))] [] S σ141 τ Q) else (∃ w44 : Int, wI w44 = wI ((σ 61 x2) + ((Int.tdiv (σ 60 x2) 2) * (rt_ (σ (x1 + 11) 2) (σ (x1 + 12)) 9 5 x2))) ∧ rg w44 ∧ wi (d + 10) 122 2 [.ref 53, .ref x1, .int (wI (x2 + 1)), .int (wI (rt_ (σ (x1 + 11) 2) (σ (x1 + 12)) 9 4 x2)), .int (wI (rt_ (σ (x1 + 5) 2) (σ (x1 + 6)) 13 7 (rt_ (σ (x1 + 11) 2) (σ (x1 + 12)) 9 4 x2))), .int (wI (Int.tdiv (σ 60 x2) 2))] [] S (uc σ 61 (u1 (σ 61) x2 w44)) τ Q))))))) : wi (d + 10) 122 2 [.ref 53, .ref x1, .int (wI x2), y3, y4, y5] [] S σ τ Q := by
  refine i3 c_122_2 rfl (i5 c_122_3 rfl (i45 c_122_4 (lo (lyt_0 hx1) (by have := tw_b hx1; omega)) (lro (lrt_5 hx1)) (wi_ok (fun K1 => ?_))))
  obtain ⟨r2, t⟩ := t
  refine i43 (v := σ (x1 + 11) 2) c_122_7 (lo (lyt_11 hx1) (by have := tw_b hx1; omega)) rfl ?_
  refine i37 c_122_10 r2 (rge_ K1 rfl) rfl (fun hc => ?_) (fun hc => ?_)
  · have t := iT t hc
    have ha3 : (σ (x1 + 11) 2) ≤ x2 := hc
    exact i94 c_122_132 t
  · have t := iF t hc
    have ha3 : ¬ ((σ (x1 + 11) 2) ≤ x2) := hc
    refine i3 c_122_13 rfl (i1 c_122_14 ?_)
    refine i37 c_122_16 r2 (by decide) rfl (fun hc => ?_) (fun hc => ?_)
    · have t := iT t hc
      have ha4 : (60 : Int) ≤ x2 := hc
      exact i94 c_122_132 t
    · have t := iF t hc
      have ha4 : ¬ ((60 : Int) ≤ x2) := hc
      refine i5 c_122_19 rfl (i45 c_122_20 (lo (lyt_0 hx1) (by have := tw_b hx1; omega)) (lro (lrt_5 hx1)) (i3 c_122_23 rfl (i1 c_122_24 ?_)))
      refine i80 (As := [.int (wI x2), .int (wI 4)]) (rest := []) c_122_25 mi_55 rfl rfl (Nat.le_of_ble_eq_true rfl) (Nat.le_of_ble_eq_true rfl) (lo (lyt_11 hx1) (by have := tw_b hx1; omega)) (q_at (ow_persons hx1) r2 (by decide) ?_)
      show wi (d + 10) 122 28 [.ref 53, .ref x1, .int (wI x2), y3, y4, y5] [.int (wI (rt_ (σ (x1 + 11) 2) (σ (x1 + 12)) 9 4 x2))] S σ τ Q
      refine i6 (L' := [.ref 53, .ref x1, .int (wI x2), .int (wI (rt_ (σ (x1 + 11) 2) (σ (x1 + 12)) 9 4 x2)), y4, y5]) c_122_28 rfl (i3 c_122_29 rfl (i1 c_122_30 ?_))
      refine i37 c_122_31 (rg_rt_ (fun k => kO_r K1 _ k) _ _ _ _) (by decide) rfl (fun hc => ?_) (fun hc => ?_)
      · have t := iF t hc
        have ha5 : ¬ ((rt_ (σ (x1 + 11) 2) (σ (x1 + 12)) 9 4 x2) = (-1)) := hc
        refine i5 c_122_38 rfl (i45 c_122_39 (lo (lyt_0 hx1) (by have := tw_b hx1; omega)) (lro (lrt_2 hx1)) (i3 c_122_42 rfl (i1 c_122_43 ?_)))
        refine i80 (As := [.int (wI (rt_ (σ (x1 + 11) 2) (σ (x1 + 12)) 9 4 x2)), .int (wI 7)]) (rest := []) c_122_45 mi_55 rfl rfl (Nat.le_of_ble_eq_true rfl) (Nat.le_of_ble_eq_true rfl) (lo (lyt_5 hx1) (by have := tw_b hx1; omega)) (q_at (ow_mills hx1) (rg_rt_ (fun k => kO_r K1 _ k) _ _ _ _) (by decide) ?_)
        show wi (d + 10) 122 48 [.ref 53, .ref x1, .int (wI x2), .int (wI (rt_ (σ (x1 + 11) 2) (σ (x1 + 12)) 9 4 x2)), y4, y5] [.int (wI (rt_ (σ (x1 + 5) 2) (σ (x1 + 6)) 13 7 (rt_ (σ (x1 + 11) 2) (σ (x1 + 12)) 9 4 x2)))] S σ τ Q
        refine i6 (L' := [.ref 53, .ref x1, .int (wI x2), .int (wI (rt_ (σ (x1 + 11) 2) (σ (x1 + 12)) 9 4 x2)), .int (wI (rt_ (σ (x1 + 5) 2) (σ (x1 + 6)) 13 7 (rt_ (σ (x1 + 11) 2) (σ (x1 + 12)) 9 4 x2))), y5]) c_122_48 rfl (i3 c_122_50 rfl ?_)
        refine i36 c_122_52 (rg_rt_ (fun k => kO_r K1 _ k) _ _ _ _) rfl (fun hc => ?_) (fun hc => ?_)
        · have t := iT t hc
          have ha6 : (rt_ (σ (x1 + 5) 2) (σ (x1 + 6)) 13 7 (rt_ (σ (x1 + 11) 2) (σ (x1 + 12)) 9 4 x2)) = 0 := hc
          refine i9 (L' := [.ref 53, .ref x1, .int (wI (x2 + 1)), .int (wI (rt_ (σ (x1 + 11) 2) (σ (x1 + 12)) 9 4 x2)), .int (wI (rt_ (σ (x1 + 5) 2) (σ (x1 + 6)) 13 7 (rt_ (σ (x1 + 11) 2) (σ (x1 + 12)) 9 4 x2))), y5]) c_122_126 rfl rfl (i38 c_122_129 rfl t)
        · have t := iF t hc
          have ha6 : ¬ ((rt_ (σ (x1 + 5) 2) (σ (x1 + 6)) 13 7 (rt_ (σ (x1 + 11) 2) (σ (x1 + 12)) 9 4 x2)) = 0) := hc
          refine i3 c_122_55 rfl (i1 c_122_57 ?_)
          refine i37 c_122_58 (rg_rt_ (fun k => kO_r K1 _ k) _ _ _ _) (by decide) rfl (fun hc => ?_) (fun hc => ?_)
          · have t := iF t hc
            have ha7 : ¬ ((rt_ (σ (x1 + 5) 2) (σ (x1 + 6)) 13 7 (rt_ (σ (x1 + 11) 2) (σ (x1 + 12)) 9 4 x2)) = 2) := hc
            obtain ⟨r8, t⟩ := t
            refine i5 c_122_70 rfl (i45 c_122_71 (lo (c := 53) (kd := 109) (n := 0) rfl (by decide)) (lro (c := 53) (k := 2) (j := 60) (by decide)) (i3 c_122_74 rfl (i50 (v := σ 60 x2) c_122_75 (lo (c := 60) (kd := 0) (n := 60) rfl (by decide)) (by decide) r8 rfl (i1 c_122_76 (i16 c_122_77 (rge_ K1 rfl) (by decide) (by decide) (i6 (L' := [.ref 53, .ref x1, .int (wI x2), .int (wI (rt_ (σ (x1 + 11) 2) (σ (x1 + 12)) 9 4 x2)), .int (wI (rt_ (σ (x1 + 5) 2) (σ (x1 + 6)) 13 7 (rt_ (σ (x1 + 11) 2) (σ (x1 + 12)) 9 4 x2))), .int (wI (Int.tdiv (σ 60 x2) 2))]) c_122_78 rfl (i5 c_122_80 rfl (i3 c_122_81 rfl ?_))))))))
            refine i80 (As := [.int (wI x2)]) (rest := []) c_122_82 mi_97 rfl rfl (Nat.le_of_ble_eq_true rfl) (Nat.le_of_ble_eq_true rfl) (lo (lyt_0 hx1) (by have := tw_b hx1; omega)) (q_97 hx1 r2 ?_)
            show wi (d + 10) 122 85 [.ref 53, .ref x1, .int (wI x2), .int (wI (rt_ (σ (x1 + 11) 2) (σ (x1 + 12)) 9 4 x2)), .int (wI (rt_ (σ (x1 + 5) 2) (σ (x1 + 6)) 13 7 (rt_ (σ (x1 + 11) 2) (σ (x1 + 12)) 9 4 x2))), .int (wI (Int.tdiv (σ 60 x2) 2))] [.int (wI (if rt_ (σ (x1 + 11) 2) (σ (x1 + 12)) 9 3 x2 = 1 ∨ rt_ (σ (x1 + 11) 2) (σ (x1 + 12)) 9 3 x2 = 2 then 1 else 0))] S σ τ Q
            refine i36e c_122_85 rfl (fun hc => ?_) (fun hc => ?_)
            · have t := iT t hc
              have ha9 : rt_ (σ (x1 + 11) 2) (σ (x1 + 12)) 9 3 x2 = 1 ∨ rt_ (σ (x1 + 11) 2) (σ (x1 + 12)) 9 3 x2 = 2 := hc
              obtain ⟨a10, t⟩ := t
              obtain ⟨m11, t⟩ := t
              obtain ⟨p12, t⟩ := t
              obtain ⟨p13, t⟩ := t
              obtain ⟨p14, t⟩ := t
              obtain ⟨p15, t⟩ := t
              obtain ⟨p16, t⟩ := t
              obtain ⟨p17, t⟩ := t
              obtain ⟨p18, t⟩ := t
              obtain ⟨p19, t⟩ := t
              refine i5 c_122_88 rfl (i5 c_122_89 rfl (i3 c_122_90 rfl (i5 c_122_91 rfl (i5 c_122_92 rfl (i3 c_122_93 rfl (i3 c_122_94 rfl ?_))))))
              refine i80 (As := [.ref x1, .int (wI x2), .int (wI (Int.tdiv (σ 60 x2) 2))]) (rest := [.int (wI x2), .ref x1, .ref 53]) c_122_96 mi_123 rfl rfl (Nat.le_of_ble_eq_true rfl) (Nat.le_of_ble_eq_true rfl) (lo (c := 53) (kd := 109) (n := 0) rfl (by decide)) (q_123 (a := a10) (m := m11) hx1 p12 p13 p14 p15 p16 p17 p18 p19 (fun σ120 v21 q22 q23 q24 => ?_))
              have t := t σ120 v21 q22 q23 q24
              show wi (d + 10) 122 99 [.ref 53, .ref x1, .int (wI x2), .int (wI (rt_ (σ (x1 + 11) 2) (σ (x1 + 12)) 9 4 x2)), .int (wI (rt_ (σ (x1 + 5) 2) (σ (x1 + 6)) 13 7 (rt_ (σ (x1 + 11) 2) (σ (x1 + 12)) 9 4 x2))), .int (wI (Int.tdiv (σ 60 x2) 2))] [.int (wI v21), .int (wI x2), .ref x1, .ref 53] S σ120 τ Q
              obtain ⟨a25, t⟩ := t
              obtain ⟨PE26, t⟩ := t
              obtain ⟨MI27, t⟩ := t
              obtain ⟨TK28, t⟩ := t
              obtain ⟨OD29, t⟩ := t
              obtain ⟨m30, t⟩ := t
              obtain ⟨p31, t⟩ := t
              obtain ⟨p32, t⟩ := t
              obtain ⟨p33, t⟩ := t
              obtain ⟨p34, t⟩ := t
              obtain ⟨p35, t⟩ := t
              obtain ⟨p36, t⟩ := t
              obtain ⟨p37, t⟩ := t
              obtain ⟨p38, t⟩ := t
              obtain ⟨p39, t⟩ := t
              obtain ⟨p40, t⟩ := t
              refine i80 (As := [.ref x1, .int (wI x2), .int (wI v21)]) (rest := []) c_122_99 mi_125 rfl rfl (Nat.le_of_ble_eq_true rfl) (Nat.le_of_ble_eq_true rfl) (lo (c := 53) (kd := 109) (n := 0) rfl (by decide)) (q_125 (a := a25) (PE := PE26) (MI := MI27) (TK := TK28) (OD := OD29) (m := m30) hx1 p31 p32 p33 p34 p35 p36 p37 p38 p39 p40 (fun σ141 q42 q43 => ?_))
              have t := t σ141 q42 q43
              show wi (d + 10) 122 102 [.ref 53, .ref x1, .int (wI x2), .int (wI (rt_ (σ (x1 + 11) 2) (σ (x1 + 12)) 9 4 x2)), .int (wI (rt_ (σ (x1 + 5) 2) (σ (x1 + 6)) 13 7 (rt_ (σ (x1 + 11) 2) (σ (x1 + 12)) 9 4 x2))), .int (wI (Int.tdiv (σ 60 x2) 2))] [] S σ141 τ Q
              refine i38 c_122_102 rfl (i9 (L' := [.ref 53, .ref x1, .int (wI (x2 + 1)), .int (wI (rt_ (σ (x1 + 11) 2) (σ (x1 + 12)) 9 4 x2)), .int (wI (rt_ (σ (x1 + 5) 2) (σ (x1 + 6)) 13 7 (rt_ (σ (x1 + 11) 2) (σ (x1 + 12)) 9 4 x2))), .int (wI (Int.tdiv (σ 60 x2) 2))]) c_122_126 rfl rfl (i38 c_122_129 rfl t))
            · have t := iF t hc
              have ha9 : ¬ (rt_ (σ (x1 + 11) 2) (σ (x1 + 12)) 9 3 x2 = 1 ∨ rt_ (σ (x1 + 11) 2) (σ (x1 + 12)) 9 3 x2 = 2) := hc
              refine i5 c_122_105 rfl (i45 c_122_106 (lo (c := 53) (kd := 109) (n := 0) rfl (by decide)) (lro (c := 53) (k := 3) (j := 61) (by decide)) (i3 c_122_109 rfl (i34a c_122_110 (i50 (v := σ 61 x2) c_122_111 (lo (c := 61) (kd := 0) (n := 60) rfl (by decide)) (by decide) r8 rfl (i3 c_122_112 rfl (i5 c_122_114 rfl (i45 c_122_115 (lo (lyt_0 hx1) (by have := tw_b hx1; omega)) (lro (lrt_5 hx1)) (i3 c_122_118 rfl (i1 c_122_119 ?_)))))))))
              refine i80 (As := [.int (wI x2), .int (wI 5)]) (rest := [.int (wI (Int.tdiv (σ 60 x2) 2)), .int (wI (σ 61 x2)), .int (wI x2), .ref 61]) c_122_120 mi_55 rfl rfl (Nat.le_of_ble_eq_true rfl) (Nat.le_of_ble_eq_true rfl) (lo (lyt_11 hx1) (by have := tw_b hx1; omega)) (q_at (ow_persons hx1) r2 (by decide) ?_)
              show wi (d + 10) 122 123 [.ref 53, .ref x1, .int (wI x2), .int (wI (rt_ (σ (x1 + 11) 2) (σ (x1 + 12)) 9 4 x2)), .int (wI (rt_ (σ (x1 + 5) 2) (σ (x1 + 6)) 13 7 (rt_ (σ (x1 + 11) 2) (σ (x1 + 12)) 9 4 x2))), .int (wI (Int.tdiv (σ 60 x2) 2))] [.int (wI (rt_ (σ (x1 + 11) 2) (σ (x1 + 12)) 9 5 x2)), .int (wI (Int.tdiv (σ 60 x2) 2)), .int (wI (σ 61 x2)), .int (wI x2), .ref 61] S σ τ Q
              obtain ⟨w44, e45, r46, t⟩ := t
              refine i12 c_122_123 (i10 c_122_124 (i54 (σ1 := uc σ 61 (u1 (σ 61) x2 w44)) c_122_125 (lo (c := 61) (kd := 0) (n := 60) rfl (by decide)) (by decide) r8 (by decide) e45 r46 (wr_ rfl rfl) (i9 (L' := [.ref 53, .ref x1, .int (wI (x2 + 1)), .int (wI (rt_ (σ (x1 + 11) 2) (σ (x1 + 12)) 9 4 x2)), .int (wI (rt_ (σ (x1 + 5) 2) (σ (x1 + 6)) 13 7 (rt_ (σ (x1 + 11) 2) (σ (x1 + 12)) 9 4 x2))), .int (wI (Int.tdiv (σ 60 x2) 2))]) c_122_126 rfl rfl (i38 c_122_129 rfl t))))
          · have t := iT t (Decidable.not_not.mp hc)
            have ha7 : (rt_ (σ (x1 + 5) 2) (σ (x1 + 6)) 13 7 (rt_ (σ (x1 + 11) 2) (σ (x1 + 12)) 9 4 x2)) = 2 := Decidable.not_not.mp hc
            obtain ⟨r47, t⟩ := t
            refine i5 c_122_61 rfl (i45 c_122_62 (lo (c := 53) (kd := 109) (n := 0) rfl (by decide)) (lro (c := 53) (k := 2) (j := 60) (by decide)) (i3 c_122_65 rfl (i50 (v := σ 60 x2) c_122_66 (lo (c := 60) (kd := 0) (n := 60) rfl (by decide)) (by decide) r47 rfl (i38 c_122_67 rfl (i6 (L' := [.ref 53, .ref x1, .int (wI x2), .int (wI (rt_ (σ (x1 + 11) 2) (σ (x1 + 12)) 9 4 x2)), .int (wI (rt_ (σ (x1 + 5) 2) (σ (x1 + 6)) 13 7 (rt_ (σ (x1 + 11) 2) (σ (x1 + 12)) 9 4 x2))), .int (wI (σ 60 x2))]) c_122_78 rfl (i5 c_122_80 rfl (i3 c_122_81 rfl ?_)))))))
            refine i80 (As := [.int (wI x2)]) (rest := []) c_122_82 mi_97 rfl rfl (Nat.le_of_ble_eq_true rfl) (Nat.le_of_ble_eq_true rfl) (lo (lyt_0 hx1) (by have := tw_b hx1; omega)) (q_97 hx1 r2 ?_)
            show wi (d + 10) 122 85 [.ref 53, .ref x1, .int (wI x2), .int (wI (rt_ (σ (x1 + 11) 2) (σ (x1 + 12)) 9 4 x2)), .int (wI (rt_ (σ (x1 + 5) 2) (σ (x1 + 6)) 13 7 (rt_ (σ (x1 + 11) 2) (σ (x1 + 12)) 9 4 x2))), .int (wI (σ 60 x2))] [.int (wI (if rt_ (σ (x1 + 11) 2) (σ (x1 + 12)) 9 3 x2 = 1 ∨ rt_ (σ (x1 + 11) 2) (σ (x1 + 12)) 9 3 x2 = 2 then 1 else 0))] S σ τ Q
            refine i36e c_122_85 rfl (fun hc => ?_) (fun hc => ?_)
            · have t := iT t hc
              have ha48 : rt_ (σ (x1 + 11) 2) (σ (x1 + 12)) 9 3 x2 = 1 ∨ rt_ (σ (x1 + 11) 2) (σ (x1 + 12)) 9 3 x2 = 2 := hc
              obtain ⟨a49, t⟩ := t
              obtain ⟨m50, t⟩ := t
              obtain ⟨p51, t⟩ := t
              obtain ⟨p52, t⟩ := t
              obtain ⟨p53, t⟩ := t
              obtain ⟨p54, t⟩ := t
              obtain ⟨p55, t⟩ := t
              obtain ⟨p56, t⟩ := t
              obtain ⟨p57, t⟩ := t
              obtain ⟨p58, t⟩ := t
              refine i5 c_122_88 rfl (i5 c_122_89 rfl (i3 c_122_90 rfl (i5 c_122_91 rfl (i5 c_122_92 rfl (i3 c_122_93 rfl (i3 c_122_94 rfl ?_))))))
              refine i80 (As := [.ref x1, .int (wI x2), .int (wI (σ 60 x2))]) (rest := [.int (wI x2), .ref x1, .ref 53]) c_122_96 mi_123 rfl rfl (Nat.le_of_ble_eq_true rfl) (Nat.le_of_ble_eq_true rfl) (lo (c := 53) (kd := 109) (n := 0) rfl (by decide)) (q_123 (a := a49) (m := m50) hx1 p51 p52 p53 p54 p55 p56 p57 p58 (fun σ159 v60 q61 q62 q63 => ?_))
              have t := t σ159 v60 q61 q62 q63
              show wi (d + 10) 122 99 [.ref 53, .ref x1, .int (wI x2), .int (wI (rt_ (σ (x1 + 11) 2) (σ (x1 + 12)) 9 4 x2)), .int (wI (rt_ (σ (x1 + 5) 2) (σ (x1 + 6)) 13 7 (rt_ (σ (x1 + 11) 2) (σ (x1 + 12)) 9 4 x2))), .int (wI (σ 60 x2))] [.int (wI v60), .int (wI x2), .ref x1, .ref 53] S σ159 τ Q
              obtain ⟨a64, t⟩ := t
              obtain ⟨PE65, t⟩ := t
              obtain ⟨MI66, t⟩ := t
              obtain ⟨TK67, t⟩ := t
              obtain ⟨OD68, t⟩ := t
              obtain ⟨m69, t⟩ := t
              obtain ⟨p70, t⟩ := t
              obtain ⟨p71, t⟩ := t
              obtain ⟨p72, t⟩ := t
              obtain ⟨p73, t⟩ := t
              obtain ⟨p74, t⟩ := t
              obtain ⟨p75, t⟩ := t
              obtain ⟨p76, t⟩ := t
              obtain ⟨p77, t⟩ := t
              obtain ⟨p78, t⟩ := t
              obtain ⟨p79, t⟩ := t
              refine i80 (As := [.ref x1, .int (wI x2), .int (wI v60)]) (rest := []) c_122_99 mi_125 rfl rfl (Nat.le_of_ble_eq_true rfl) (Nat.le_of_ble_eq_true rfl) (lo (c := 53) (kd := 109) (n := 0) rfl (by decide)) (q_125 (a := a64) (PE := PE65) (MI := MI66) (TK := TK67) (OD := OD68) (m := m69) hx1 p70 p71 p72 p73 p74 p75 p76 p77 p78 p79 (fun σ180 q81 q82 => ?_))
              have t := t σ180 q81 q82
              show wi (d + 10) 122 102 [.ref 53, .ref x1, .int (wI x2), .int (wI (rt_ (σ (x1 + 11) 2) (σ (x1 + 12)) 9 4 x2)), .int (wI (rt_ (σ (x1 + 5) 2) (σ (x1 + 6)) 13 7 (rt_ (σ (x1 + 11) 2) (σ (x1 + 12)) 9 4 x2))), .int (wI (σ 60 x2))] [] S σ180 τ Q
              refine i38 c_122_102 rfl (i9 (L' := [.ref 53, .ref x1, .int (wI (x2 + 1)), .int (wI (rt_ (σ (x1 + 11) 2) (σ (x1 + 12)) 9 4 x2)), .int (wI (rt_ (σ (x1 + 5) 2) (σ (x1 + 6)) 13 7 (rt_ (σ (x1 + 11) 2) (σ (x1 + 12)) 9 4 x2))), .int (wI (σ 60 x2))]) c_122_126 rfl rfl (i38 c_122_129 rfl t))
            · have t := iF t hc
              have ha48 : ¬ (rt_ (σ (x1 + 11) 2) (σ (x1 + 12)) 9 3 x2 = 1 ∨ rt_ (σ (x1 + 11) 2) (σ (x1 + 12)) 9 3 x2 = 2) := hc
              refine i5 c_122_105 rfl (i45 c_122_106 (lo (c := 53) (kd := 109) (n := 0) rfl (by decide)) (lro (c := 53) (k := 3) (j := 61) (by decide)) (i3 c_122_109 rfl (i34a c_122_110 (i50 (v := σ 61 x2) c_122_111 (lo (c := 61) (kd := 0) (n := 60) rfl (by decide)) (by decide) r47 rfl (i3 c_122_112 rfl (i5 c_122_114 rfl (i45 c_122_115 (lo (lyt_0 hx1) (by have := tw_b hx1; omega)) (lro (lrt_5 hx1)) (i3 c_122_118 rfl (i1 c_122_119 ?_)))))))))
              refine i80 (As := [.int (wI x2), .int (wI 5)]) (rest := [.int (wI (σ 60 x2)), .int (wI (σ 61 x2)), .int (wI x2), .ref 61]) c_122_120 mi_55 rfl rfl (Nat.le_of_ble_eq_true rfl) (Nat.le_of_ble_eq_true rfl) (lo (lyt_11 hx1) (by have := tw_b hx1; omega)) (q_at (ow_persons hx1) r2 (by decide) ?_)
              show wi (d + 10) 122 123 [.ref 53, .ref x1, .int (wI x2), .int (wI (rt_ (σ (x1 + 11) 2) (σ (x1 + 12)) 9 4 x2)), .int (wI (rt_ (σ (x1 + 5) 2) (σ (x1 + 6)) 13 7 (rt_ (σ (x1 + 11) 2) (σ (x1 + 12)) 9 4 x2))), .int (wI (σ 60 x2))] [.int (wI (rt_ (σ (x1 + 11) 2) (σ (x1 + 12)) 9 5 x2)), .int (wI (σ 60 x2)), .int (wI (σ 61 x2)), .int (wI x2), .ref 61] S σ τ Q
              obtain ⟨w83, e84, r85, t⟩ := t
              refine i12 c_122_123 (i10 c_122_124 (i54 (σ1 := uc σ 61 (u1 (σ 61) x2 w83)) c_122_125 (lo (c := 61) (kd := 0) (n := 60) rfl (by decide)) (by decide) r47 (by decide) e84 r85 (wr_ rfl rfl) (i9 (L' := [.ref 53, .ref x1, .int (wI (x2 + 1)), .int (wI (rt_ (σ (x1 + 11) 2) (σ (x1 + 12)) 9 4 x2)), .int (wI (rt_ (σ (x1 + 5) 2) (σ (x1 + 6)) 13 7 (rt_ (σ (x1 + 11) 2) (σ (x1 + 12)) 9 4 x2))), .int (wI (σ 60 x2))]) c_122_126 rfl rfl (i38 c_122_129 rfl t))))
      · have t := iT t (Decidable.not_not.mp hc)
        have ha5 : (rt_ (σ (x1 + 11) 2) (σ (x1 + 12)) 9 4 x2) = (-1) := Decidable.not_not.mp hc
        refine i1 c_122_34 (i38 c_122_35 rfl (i6 (L' := [.ref 53, .ref x1, .int (wI x2), .int (wI (rt_ (σ (x1 + 11) 2) (σ (x1 + 12)) 9 4 x2)), .int (wI 0), y5]) c_122_48 rfl (i3 c_122_50 rfl (i36k (pc1 := 126) c_122_52 (by decide) (i9 (L' := [.ref 53, .ref x1, .int (wI (x2 + 1)), .int (wI (rt_ (σ (x1 + 11) 2) (σ (x1 + 12)) 9 4 x2)), .int (wI 0), y5]) c_122_126 rfl rfl (i38 c_122_129 rfl t))))))
theorem q_122 {d : Nat} {S : zS} {σ τ : zI} {Q : zQ} {tn : Nat} {a : Int → Int} (htn : tw tn) (p0 : CTq σ tn a 0) (p1 : Jv a) (p2 : jv_T a) (p3 : a 0 ≤ 399) (p4 : σ 53 5 = wk_ct a) (p5 : PYk σ a) (p6 : (∀ p, 0 ≤ p → p < a 4 → σ 60 p = wk_h a p)) (p7 : (∀ p, 0 ≤ p → p < 60 → σ 61 p = 0)) (t : ∀ (σ1 : zI), (∀ c, c ≠ 61 → c ≠ tn + 6 → c ≠ tn + 12 → σ1 c = σ c) → CTq σ1 tn a (a 4) → (∀ p, 0 ≤ p → p < 60 → σ1 61 p = wk_Wq a (a 4) p) → Q none S σ1 τ) : wc (d + 10) 122 [.ref 53, .ref tn] S σ τ Q := by
  have hC := jC p1
  unfold jv_C at hC
  have tb := tw_b htn
  refine wc_of mi_122 rfl (u_122_0 htn ?_)
  have key : ∀ q, 0 ≤ q → q ≤ a 4 → ∀ σ' : zI, (∀ c, c ≠ 61 → c ≠ tn + 6 → c ≠ tn + 12 → σ' c = σ c) → CTq σ' tn a q → (∀ p, 0 ≤ p → p < 60 → σ' 61 p = wk_Wq a q p) → ∀ y3 y4 y5, wi (d + 10) 122 2 [.ref 53, .ref tn, .int (wI q), y3, y4, y5] [] S σ' τ Q := by
    refine lp_up (fun q q0 q1 ih => ?_)
    intro σ' f cs w y3 y4 y5
    have cs' := cs
    unfold CTq at cs'
    refine u_122_2 htn ?_
    rw [(cs_P cs').1]
    refine ⟨by omega, ifI (fun e => ?_) (fun e => ifI (fun e2 => by omega) (fun e2 => ?_))⟩
    · have e : q = a 4 := by omega
      subst e
      exact t σ' f cs w
    · have ih := ih (by omega)
      have hP := jP p1 q q0 (by omega)
      have v : ∀ k, 0 ≤ k → k ≤ 6 → rt_ (a 4) (σ' (tn + 12)) 9 k q = a (3652 + 12 * q + k) := fun k k0 k1 => by
        have := vp cs' (p := q) (k := k) ⟨q0, by omega⟩ (by omega)
        rw [(cs_P cs').1] at this
        rw [this]
        exact sP_q q k (by omega) (by omega) k0 (by omega) (by omega) (by omega)
      rw [v 4 (by omega) (by omega), v 3 (by omega) (by omega), v 5 (by omega) (by omega)]
      obtain ⟨m, hm⟩ : ∃ m, m = a (3652 + 12 * q + 4) := ⟨_, rfl⟩
      rw [← hm]
      have no : (m < 0 ∨ ¬ wk_D a m) → ∀ y3 y4 y5, wi (d + 10) 122 2 [.ref 53, .ref tn, .int (wI (q + 1)), y3, y4, y5] [] S σ' τ Q := fun hD y3 y4 y5 => by
        refine ih σ' f (CTq_no p1 ⟨q0, by omega⟩ (fun x hx hw => by
          rcases hD with h | h
          · have := hw.2; omega
          · exact h (by rw [hm, hw.1]; exact hx)) cs) (fun p r0 r1 => ?_) _ _ _
        rw [wk_Wq_s q0, wk_v_no2 (by rw [← hm]; exact hD) p, Int.add_zero]
        exact w p r0 r1
      refine ifI (fun e3 => no (Or.inl (by omega)) _ _ _) (fun e3 => ?_)
      have mb : 0 ≤ m ∧ m < a 1 := by omega
      have v7 : rt_ (σ' (tn + 5) 2) (σ' (tn + 6)) 13 7 m = wk_ht a m := by rw [vm cs' mb (show mcR 7 8 by omega), MIq_k mb.2 (by omega), if_neg (by omega), if_pos rfl]
      rw [v7, f 60 (by omega) (by omega) (by omega), p6 q q0 (by omega)]
      refine ifI (fun e4 => no (Or.inr (fun z => by have := wk_ht_D z; omega)) _ _ _) (fun e4 => ?_)
      have hD : wk_D a m := by
        by_cases z : wk_D a m
        · exact z
        · exact absurd (wk_ht_N z) e4
      have hb := wk_h_b (Jl_of p1) p2 q
      have Wb := wk_Wq_b p1 p2 p3 (q := q) (p := q) ⟨q0, q1⟩
      have vb := wk_v_b p1 p2 p3 (p := q) ⟨q0, by omega⟩
      have ehn : wk_hn a q = if wk_ht a m = 2 then wk_h a q else (wk_h a q).tdiv 2 := by
        unfold wk_hn; rw [← hm]; unfold wk_hm; rw [if_neg (by omega), if_neg e4]
      -- a weaver
      have wv2 : (a (3652 + 12 * q + 3) = 1 ∨ a (3652 + 12 * q + 3) = 2) → ∀ σ2 : zI, (∀ c, c ≠ tn + 6 → c ≠ tn + 12 → σ2 c = σ' c) → CTq σ2 tn a (q + 1) → ∀ v, v = wk_nx a m q → ∀ x5, ∃ (a0 : Int → Int) (PE MI : Int → Int → Int) (TK : Int → Int) (OD : Int → Int → Int) (m0 : Int), CS σ2 tn a0 PE MI TK OD ∧ Jv a0 ∧ jv_T a0 ∧ a0 0 ≤ 399 ∧ (0 ≤ q ∧ q < a0 4) ∧ (wk_wv a0 m0 q ∧ wk_D a0 m0) ∧ (sP a0 PE ∧ MI m0 7 = wk_ls a0 m0) ∧ v = wk_nx a0 m0 q ∧ PYk σ2 a0 ∧ (∀ x, 0 ≤ x → x < 60 → 0 ≤ σ2 61 x ∧ σ2 61 x ≤ 330000000) ∧ ∀ (σ3 : zI), (∀ c, c ≠ 61 → σ3 c = σ2 c) → (∀ x, 0 ≤ x → x < 60 → σ3 61 x = σ2 61 x + wk_e a0 q x) → wi (d + 10) 122 2 [.ref 53, .ref tn, .int (wI (q + 1)), .int (wI m), .int (wI (wk_ht a m)), .int (wI x5)] [] S σ3 τ Q := fun hs σ2 f2 cs2 v hv x5 => by
        refine ⟨a, _, _, _, _, m, cs2, p1, p2, p3, ⟨q0, by omega⟩, ⟨⟨hm.symm, by omega⟩, hD⟩, ⟨sP_q, by rw [MIq_k mb.2 (by omega), if_pos rfl]⟩, hv, ?_, fun x x0 x1 => ?_, fun σ3 f3 w3 => ?_⟩
        · intro o x o0 o1 x0 x1 op cr
          rw [f2 62 (by omega) (by omega), f 62 (by omega) (by omega) (by omega)]; exact p5 o x o0 o1 x0 x1 op cr
        · rw [f2 61 (by omega) (by omega), w x x0 x1]; exact wk_Wq_b p1 p2 p3 ⟨q0, q1⟩
        · refine ih σ3 (fun c h1 h2 h3 => by rw [f3 c h1, f2 c h2 h3]; exact f c h1 h2 h3) (CS_f (fun c hc => f3 c (by omega)) cs2) (fun p r0 r1 => ?_) _ _ _
          rw [w3 p r0 r1, f2 61 (by omega) (by omega), w p r0 r1, wk_Wq_s q0]
      -- others
      have day : ¬ (a (3652 + 12 * q + 3) = 1 ∨ a (3652 + 12 * q + 3) = 2) → ∀ h, h = wk_hn a q → ∀ x5, ∃ w9, wI w9 = wI (σ' 61 q + h * a (3652 + 12 * q + 5)) ∧ rg w9 ∧ wi (d + 10) 122 2 [.ref 53, .ref tn, .int (wI (q + 1)), .int (wI m), .int (wI (wk_ht a m)), .int (wI x5)] [] S (uc σ' 61 (u1 (σ' 61) q w9)) τ Q := fun hs h hh x5 => by
        have s3 : 3 ≤ a (3652 + 12 * q + 3) := by omega
        have ev : wk_v a q = h * a (3652 + 12 * q + 5) := by
          unfold wk_v; rw [← hm]; unfold wk_vx; rw [if_pos ⟨mb.1, hD⟩, if_pos s3, hh]
        have eo : wk_o a q = wk_v a q := if_neg (by omega)
        rw [← ev, w q q0 (by omega)]
        refine ⟨wk_Wq a q q + wk_v a q, rfl, by omega, ih _ (fun c h1 h2 h3 => by rw [uc_n h1]; exact f c h1 h2 h3) (CS_f (fun c hc => uc_n (by omega)) (CTq_no p1 ⟨q0, by omega⟩ (fun x hx hw => by have := hw.2; omega) cs)) (fun p r0 r1 => ?_) _ _ _⟩
        rw [uc_s, wk_Wq_s q0]
        unfold wk_e
        rw [eo, if_neg (fun z : a (3652 + 12 * q + 3) = 2 ∧ a (3652 + 12 * q + 6) = p => by omega)]
        by_cases ex : p = q
        · subst ex; rw [u1_s, if_pos rfl]; omega
        · rw [u1_n ex, if_neg (fun z => ex z.symm), w p r0 r1]; omega
      have w53 : σ' 53 5 = wk_ct a := by rw [f 53 (by omega) (by omega) (by omega)]; exact p4
      refine ifI (fun e5 => ⟨by omega, ifI (fun e6 => ?_) (fun e6 => day e6 _ ?_ _)⟩) (fun e5 => ⟨by omega, ifI (fun e6 => ?_) (fun e6 => day e6 _ ?_ _)⟩)
      · exact ⟨a, m, cs, p1, p2, p3, ⟨q0, by omega⟩, ⟨⟨hm.symm, by omega⟩, hD⟩, by rw [ehn, if_pos e5], w53, fun σ2 v f2 cs2 hv => wv2 e6 σ2 f2 cs2 v hv _⟩
      · rw [ehn, if_pos e5]
      · exact ⟨a, m, cs, p1, p2, p3, ⟨q0, by omega⟩, ⟨⟨hm.symm, by omega⟩, hD⟩, by rw [ehn, if_neg e5], w53, fun σ2 v f2 cs2 hv => wv2 e6 σ2 f2 cs2 v hv _⟩
      · rw [ehn, if_neg e5]
  exact key 0 (by omega) (by omega) σ (fun _ _ _ _ => rfl) p0 (fun p r0 r1 => p7 p r0 r1) _ _ _
