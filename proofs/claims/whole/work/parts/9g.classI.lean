/-! ===== a WEEK of the class: HOMES, one by one (segments printed by wip/whole, contracts own work) ===== -/
-- method 133: MillTown$Week.payDebt(LMillTown$Town;I)V
theorem c_133_0 : pg_cd 133 0 = (5, 1, 0, 0, 0) := by decide +kernel
theorem c_133_1 : pg_cd 133 1 = (45, 8, 244, 4, 0) := by decide +kernel
theorem c_133_4 : pg_cd 133 4 = (3, 1, 0, 1, 0) := by decide +kernel
theorem c_133_5 : pg_cd 133 5 = (1, 2, 0, 0, 7) := by decide +kernel
theorem c_133_7 : pg_cd 133 7 = (80, 55, 118, 0, 0) := by decide +kernel
theorem c_133_10 : pg_cd 133 10 = (6, 1, 0, 2, 0) := by decide +kernel
theorem c_133_11 : pg_cd 133 11 = (5, 1, 0, 0, 0) := by decide +kernel
theorem c_133_12 : pg_cd 133 12 = (45, 8, 244, 4, 0) := by decide +kernel
theorem c_133_15 : pg_cd 133 15 = (3, 1, 0, 1, 0) := by decide +kernel
theorem c_133_16 : pg_cd 133 16 = (1, 1, 0, 0, 0) := by decide +kernel
theorem c_133_17 : pg_cd 133 17 = (80, 55, 118, 0, 0) := by decide +kernel
theorem c_133_20 : pg_cd 133 20 = (5, 1, 0, 0, 0) := by decide +kernel
theorem c_133_21 : pg_cd 133 21 = (45, 8, 244, 4, 0) := by decide +kernel
theorem c_133_24 : pg_cd 133 24 = (3, 1, 0, 1, 0) := by decide +kernel
theorem c_133_25 : pg_cd 133 25 = (1, 1, 0, 0, 1) := by decide +kernel
theorem c_133_26 : pg_cd 133 26 = (80, 55, 118, 0, 0) := by decide +kernel
theorem c_133_29 : pg_cd 133 29 = (74, 0, 182, 0, 0) := by decide +kernel
theorem c_133_32 : pg_cd 133 32 = (6, 1, 0, 3, 0) := by decide +kernel
theorem c_133_33 : pg_cd 133 33 = (5, 1, 0, 0, 0) := by decide +kernel
theorem c_133_34 : pg_cd 133 34 = (45, 8, 244, 4, 0) := by decide +kernel
theorem c_133_37 : pg_cd 133 37 = (3, 1, 0, 1, 0) := by decide +kernel
theorem c_133_38 : pg_cd 133 38 = (1, 1, 0, 0, 0) := by decide +kernel
theorem c_133_39 : pg_cd 133 39 = (3, 1, 0, 3, 0) := by decide +kernel
theorem c_133_40 : pg_cd 133 40 = (21, 1, 0, 0, 0) := by decide +kernel
theorem c_133_41 : pg_cd 133 41 = (80, 57, 190, 0, 0) := by decide +kernel
theorem c_133_44 : pg_cd 133 44 = (5, 1, 0, 0, 0) := by decide +kernel
theorem c_133_45 : pg_cd 133 45 = (45, 8, 244, 4, 0) := by decide +kernel
theorem c_133_48 : pg_cd 133 48 = (3, 1, 0, 1, 0) := by decide +kernel
theorem c_133_49 : pg_cd 133 49 = (1, 1, 0, 0, 1) := by decide +kernel
theorem c_133_50 : pg_cd 133 50 = (3, 1, 0, 3, 0) := by decide +kernel
theorem c_133_51 : pg_cd 133 51 = (21, 1, 0, 0, 0) := by decide +kernel
theorem c_133_52 : pg_cd 133 52 = (80, 57, 190, 0, 0) := by decide +kernel
theorem c_133_55 : pg_cd 133 55 = (5, 1, 0, 0, 0) := by decide +kernel
theorem c_133_56 : pg_cd 133 56 = (45, 8, 272, 3, 0) := by decide +kernel
theorem c_133_59 : pg_cd 133 59 = (3, 1, 0, 2, 0) := by decide +kernel
theorem c_133_60 : pg_cd 133 60 = (1, 1, 0, 0, 1) := by decide +kernel
theorem c_133_61 : pg_cd 133 61 = (3, 1, 0, 3, 0) := by decide +kernel
theorem c_133_62 : pg_cd 133 62 = (21, 1, 0, 0, 0) := by decide +kernel
theorem c_133_63 : pg_cd 133 63 = (80, 57, 190, 0, 0) := by decide +kernel
theorem c_133_66 : pg_cd 133 66 = (5, 1, 0, 0, 0) := by decide +kernel
theorem c_133_67 : pg_cd 133 67 = (45, 8, 272, 3, 0) := by decide +kernel
theorem c_133_70 : pg_cd 133 70 = (3, 1, 0, 2, 0) := by decide +kernel
theorem c_133_71 : pg_cd 133 71 = (1, 1, 0, 0, 0) := by decide +kernel
theorem c_133_72 : pg_cd 133 72 = (3, 1, 0, 3, 0) := by decide +kernel
theorem c_133_73 : pg_cd 133 73 = (80, 57, 190, 0, 0) := by decide +kernel
theorem c_133_76 : pg_cd 133 76 = (94, 0, 0, 0, 0) := by decide +kernel
theorem mi_133 : pg_mc 133 = 9 ∧ pg_na 133 = 2 ∧ pg_mx 133 = 4 := by decide +kernel
set_option maxRecDepth 20000 in
theorem u_133_0 {d : Nat} {S : zS} {σ τ : zI} {Q : zQ} {x0 : Nat} {x1 : Int} (hx0 : tw x0) (t : (rg x1) ∧ (0 ≤ x1 ∧ x1 < (σ (x0 + 9) 2)) ∧ ∃ w4 : Int, wI w4 = wI ((σ (x0 + 10) (x1 * 8 + 0)) + (-(min (rt_ (σ (x0 + 9) 2) (σ (x0 + 10)) 8 0 x1) (rt_ (σ (x0 + 9) 2) (σ (x0 + 10)) 8 1 x1)))) ∧ rg w4 ∧ ((x1 * 8 + 1) ≠ (x1 * 8 + 0)) ∧ ∃ w9 : Int, wI w9 = wI ((σ (x0 + 10) (x1 * 8 + 1)) + (-(min (rt_ (σ (x0 + 9) 2) (σ (x0 + 10)) 8 0 x1) (rt_ (σ (x0 + 9) 2) (σ (x0 + 10)) 8 1 x1)))) ∧ rg w9 ∧ (0 ≤ rt_ (σ (x0 + 9) 2) (σ (x0 + 10)) 8 7 x1 ∧ rt_ (σ (x0 + 9) 2) (σ (x0 + 10)) 8 7 x1 < (σ (x0 + 7) 2)) ∧ ∃ w14 : Int, wI w14 = wI ((σ (x0 + 8) ((rt_ (σ (x0 + 9) 2) (σ (x0 + 10)) 8 7 x1) * 5 + 1)) + (-(min (rt_ (σ (x0 + 9) 2) (σ (x0 + 10)) 8 0 x1) (rt_ (σ (x0 + 9) 2) (σ (x0 + 10)) 8 1 x1)))) ∧ rg w14 ∧ (((rt_ (σ (x0 + 9) 2) (σ (x0 + 10)) 8 7 x1) * 5 + 0) ≠ ((rt_ (σ (x0 + 9) 2) (σ (x0 + 10)) 8 7 x1) * 5 + 1)) ∧ ∃ w19 : Int, wI w19 = wI ((σ (x0 + 8) ((rt_ (σ (x0 + 9) 2) (σ (x0 + 10)) 8 7 x1) * 5 + 0)) + (min (rt_ (σ (x0 + 9) 2) (σ (x0 + 10)) 8 0 x1) (rt_ (σ (x0 + 9) 2) (σ (x0 + 10)) 8 1 x1))) ∧ rg w19 ∧ Q none S (uc (uc σ (x0 + 10) (u1 (u1 (σ (x0 + 10)) (x1 * 8 + 0) w4) (x1 * 8 + 1) w9)) (x0 + 8) (u1 (u1 (σ (x0 + 8)) ((rt_ (σ (x0 + 9) 2) (σ (x0 + 10)) 8 7 x1) * 5 + 1) w14) ((rt_ (σ (x0 + 9) 2) (σ (x0 + 10)) 8 7 x1) * 5 + 0) w19)) τ) : wi (d + 8) 133 0 [.ref x0, .int (wI x1), .retAddr 0, .retAddr 0] [] S σ τ Q := by
  obtain ⟨r1, t⟩ := t
  refine i5 c_133_0 rfl (i45 c_133_1 (lo (lyt_0 hx0) (by have := tw_b hx0; omega)) (lro (lrt_4 hx0)) (i3 c_133_4 rfl (i1 c_133_5 (wi_ok (fun K2 => ?_)))))
  refine i80 (As := [.int (wI x1), .int (wI 7)]) (rest := []) c_133_7 mi_55 rfl rfl (Nat.le_of_ble_eq_true rfl) (Nat.le_of_ble_eq_true rfl) (lo (lyt_9 hx0) (by have := tw_b hx0; omega)) (q_at (ow_homes hx0) r1 (by decide) ?_)
  show wi (d + 8) 133 10 [.ref x0, .int (wI x1), .retAddr 0, .retAddr 0] [.int (wI (rt_ (σ (x0 + 9) 2) (σ (x0 + 10)) 8 7 x1))] S σ τ Q
  refine i6 (L' := [.ref x0, .int (wI x1), .int (wI (rt_ (σ (x0 + 9) 2) (σ (x0 + 10)) 8 7 x1)), .retAddr 0]) c_133_10 rfl (i5 c_133_11 rfl (i45 c_133_12 (lo (lyt_0 hx0) (by have := tw_b hx0; omega)) (lro (lrt_4 hx0)) (i3 c_133_15 rfl (i1 c_133_16 ?_))))
  refine i80 (As := [.int (wI x1), .int (wI 0)]) (rest := []) c_133_17 mi_55 rfl rfl (Nat.le_of_ble_eq_true rfl) (Nat.le_of_ble_eq_true rfl) (lo (lyt_9 hx0) (by have := tw_b hx0; omega)) (q_at (ow_homes hx0) r1 (by decide) ?_)
  show wi (d + 8) 133 20 [.ref x0, .int (wI x1), .int (wI (rt_ (σ (x0 + 9) 2) (σ (x0 + 10)) 8 7 x1)), .retAddr 0] [.int (wI (rt_ (σ (x0 + 9) 2) (σ (x0 + 10)) 8 0 x1))] S σ τ Q
  refine i5 c_133_20 rfl (i45 c_133_21 (lo (lyt_0 hx0) (by have := tw_b hx0; omega)) (lro (lrt_4 hx0)) (i3 c_133_24 rfl (i1 c_133_25 ?_)))
  refine i80 (As := [.int (wI x1), .int (wI 1)]) (rest := [.int (wI (rt_ (σ (x0 + 9) 2) (σ (x0 + 10)) 8 0 x1))]) c_133_26 mi_55 rfl rfl (Nat.le_of_ble_eq_true rfl) (Nat.le_of_ble_eq_true rfl) (lo (lyt_9 hx0) (by have := tw_b hx0; omega)) (q_at (ow_homes hx0) r1 (by decide) ?_)
  show wi (d + 8) 133 29 [.ref x0, .int (wI x1), .int (wI (rt_ (σ (x0 + 9) 2) (σ (x0 + 10)) 8 7 x1)), .retAddr 0] [.int (wI (rt_ (σ (x0 + 9) 2) (σ (x0 + 10)) 8 1 x1)), .int (wI (rt_ (σ (x0 + 9) 2) (σ (x0 + 10)) 8 0 x1))] S σ τ Q
  obtain ⟨b3, t⟩ := t
  obtain ⟨w4, e5, r6, t⟩ := t
  refine i74 c_133_29 (Nat.le_of_ble_eq_true rfl) (by omega) (rg_rt_ (fun k => kO_r K2 _ k) _ _ _ _) (rg_rt_ (fun k => kO_r K2 _ k) _ _ _ _) (i6 (L' := [.ref x0, .int (wI x1), .int (wI (rt_ (σ (x0 + 9) 2) (σ (x0 + 10)) 8 7 x1)), .int (wI (min (rt_ (σ (x0 + 9) 2) (σ (x0 + 10)) 8 0 x1) (rt_ (σ (x0 + 9) 2) (σ (x0 + 10)) 8 1 x1)))]) c_133_32 rfl (i5 c_133_33 rfl (i45 c_133_34 (lo (lyt_0 hx0) (by have := tw_b hx0; omega)) (lro (lrt_4 hx0)) (i3 c_133_37 rfl (i1 c_133_38 (i3 c_133_39 rfl (i21 c_133_40 ?_)))))))
  refine i80 (As := [.int (wI x1), .int (wI 0), .int (wI (-(min (rt_ (σ (x0 + 9) 2) (σ (x0 + 10)) 8 0 x1) (rt_ (σ (x0 + 9) 2) (σ (x0 + 10)) 8 1 x1))))]) (rest := []) c_133_41 mi_57 rfl rfl (Nat.le_of_ble_eq_true rfl) (Nat.le_of_ble_eq_true rfl) (lo (lyt_9 hx0) (by have := tw_b hx0; omega)) (q_raise (v2 := w4) (ow_homes hx0) r1 b3 (by decide) e5 r6 ?_)
  show wi (d + 8) 133 44 [.ref x0, .int (wI x1), .int (wI (rt_ (σ (x0 + 9) 2) (σ (x0 + 10)) 8 7 x1)), .int (wI (min (rt_ (σ (x0 + 9) 2) (σ (x0 + 10)) 8 0 x1) (rt_ (σ (x0 + 9) 2) (σ (x0 + 10)) 8 1 x1)))] [] S (uc σ (x0 + 10) (u1 (σ (x0 + 10)) (x1 * 8 + 0) w4)) τ Q
  obtain ⟨n7, t⟩ := t
  refine i5 c_133_44 rfl (i45 c_133_45 (lo (lyt_0 hx0) (by have := tw_b hx0; omega)) (lro (lrt_4 hx0)) (i3 c_133_48 rfl (i1 c_133_49 (i3 c_133_50 rfl (i21 c_133_51 (wi_ok (fun K8 => ?_)))))))
  obtain ⟨w9, e10, r11, t⟩ := t
  refine i80 (As := [.int (wI x1), .int (wI 1), .int (wI (-(min (rt_ (σ (x0 + 9) 2) (σ (x0 + 10)) 8 0 x1) (rt_ (σ (x0 + 9) 2) (σ (x0 + 10)) 8 1 x1))))]) (rest := []) c_133_52 mi_57 rfl rfl (Nat.le_of_ble_eq_true rfl) (Nat.le_of_ble_eq_true rfl) (lo (lyt_9 hx0) (by have := tw_b hx0; omega)) (q_raise (v2 := w9) (ow_homes hx0) r1 (show 0 ≤ x1 ∧ x1 < (uc σ (x0 + 10) (u1 (σ (x0 + 10)) (x1 * 8 + 0) w4)) (x0 + 9) 2 by rw [(congrFun (uc_ns rfl (by have := tw_b hx0; have := tw_b hx0; omega)) _)]; exact b3) (by decide) (Eq.trans (show wI w9 = wI ((σ (x0 + 10) (x1 * 8 + 1)) + (-(min (rt_ (σ (x0 + 9) 2) (σ (x0 + 10)) 8 0 x1) (rt_ (σ (x0 + 9) 2) (σ (x0 + 10)) 8 1 x1)))) from e10) (congrArg (fun q => wI (q + (-(min (rt_ (σ (x0 + 9) 2) (σ (x0 + 10)) 8 0 x1) (rt_ (σ (x0 + 9) 2) (σ (x0 + 10)) 8 1 x1))))) (Eq.symm ((congrFun (uc_s _ _ _) _).trans (u1_n n7))))) r11 ?_)
  show wi (d + 8) 133 55 [.ref x0, .int (wI x1), .int (wI (rt_ (σ (x0 + 9) 2) (σ (x0 + 10)) 8 7 x1)), .int (wI (min (rt_ (σ (x0 + 9) 2) (σ (x0 + 10)) 8 0 x1) (rt_ (σ (x0 + 9) 2) (σ (x0 + 10)) 8 1 x1)))] [] S (uc (uc σ (x0 + 10) (u1 (σ (x0 + 10)) (x1 * 8 + 0) w4)) (x0 + 10) (u1 ((uc σ (x0 + 10) (u1 (σ (x0 + 10)) (x1 * 8 + 0) w4)) (x0 + 10)) (x1 * 8 + 1) w9)) τ Q
  obtain ⟨b12, t⟩ := t
  refine wi_s (σ1 := uc σ (x0 + 10) (u1 (u1 (σ (x0 + 10)) (x1 * 8 + 0) w4) (x1 * 8 + 1) w9)) (wr_ (uc_s _ _ _) (uc_uc _ _ _ _)) (i5 c_133_55 rfl (i45 c_133_56 (lo (lyt_0 hx0) (by have := tw_b hx0; omega)) (lro (lrt_3 hx0)) (i3 c_133_59 rfl (i1 c_133_60 (i3 c_133_61 rfl (i21 c_133_62 (wi_ok (fun K13 => ?_))))))))
  obtain ⟨w14, e15, r16, t⟩ := t
  refine i80 (As := [.int (wI (rt_ (σ (x0 + 9) 2) (σ (x0 + 10)) 8 7 x1)), .int (wI 1), .int (wI (-(min (rt_ (σ (x0 + 9) 2) (σ (x0 + 10)) 8 0 x1) (rt_ (σ (x0 + 9) 2) (σ (x0 + 10)) 8 1 x1))))]) (rest := []) c_133_63 mi_57 rfl rfl (Nat.le_of_ble_eq_true rfl) (Nat.le_of_ble_eq_true rfl) (lo (lyt_7 hx0) (by have := tw_b hx0; omega)) (q_raise (v2 := w14) (ow_shops hx0) (rg_rt_ (fun k => kO_r K2 _ k) _ _ _ _) (show 0 ≤ rt_ (σ (x0 + 9) 2) (σ (x0 + 10)) 8 7 x1 ∧ rt_ (σ (x0 + 9) 2) (σ (x0 + 10)) 8 7 x1 < (uc σ (x0 + 10) (u1 (u1 (σ (x0 + 10)) (x1 * 8 + 0) w4) (x1 * 8 + 1) w9)) (x0 + 7) 2 by rw [(congrFun (uc_ns rfl (by have := tw_b hx0; have := tw_b hx0; omega)) _)]; exact b12) (by decide) (Eq.trans (show wI w14 = wI ((σ (x0 + 8) ((rt_ (σ (x0 + 9) 2) (σ (x0 + 10)) 8 7 x1) * 5 + 1)) + (-(min (rt_ (σ (x0 + 9) 2) (σ (x0 + 10)) 8 0 x1) (rt_ (σ (x0 + 9) 2) (σ (x0 + 10)) 8 1 x1)))) from e15) (congrArg (fun q => wI (q + (-(min (rt_ (σ (x0 + 9) 2) (σ (x0 + 10)) 8 0 x1) (rt_ (σ (x0 + 9) 2) (σ (x0 + 10)) 8 1 x1))))) (Eq.symm (congrFun (uc_ns rfl (by have := tw_b hx0; have := tw_b hx0; omega)) _)))) r16 ?_)
  show wi (d + 8) 133 66 [.ref x0, .int (wI x1), .int (wI (rt_ (σ (x0 + 9) 2) (σ (x0 + 10)) 8 7 x1)), .int (wI (min (rt_ (σ (x0 + 9) 2) (σ (x0 + 10)) 8 0 x1) (rt_ (σ (x0 + 9) 2) (σ (x0 + 10)) 8 1 x1)))] [] S (uc (uc σ (x0 + 10) (u1 (u1 (σ (x0 + 10)) (x1 * 8 + 0) w4) (x1 * 8 + 1) w9)) (x0 + 8) (u1 ((uc σ (x0 + 10) (u1 (u1 (σ (x0 + 10)) (x1 * 8 + 0) w4) (x1 * 8 + 1) w9)) (x0 + 8)) ((rt_ (σ (x0 + 9) 2) (σ (x0 + 10)) 8 7 x1) * 5 + 1) w14)) τ Q
  obtain ⟨n17, t⟩ := t
  refine wi_s (σ1 := uc (uc σ (x0 + 10) (u1 (u1 (σ (x0 + 10)) (x1 * 8 + 0) w4) (x1 * 8 + 1) w9)) (x0 + 8) (u1 (σ (x0 + 8)) ((rt_ (σ (x0 + 9) 2) (σ (x0 + 10)) 8 7 x1) * 5 + 1) w14)) (wr_ (uc_ns rfl (by have := tw_b hx0; have := tw_b hx0; omega)) rfl) (i5 c_133_66 rfl (i45 c_133_67 (lo (lyt_0 hx0) (by have := tw_b hx0; omega)) (lro (lrt_3 hx0)) (i3 c_133_70 rfl (i1 c_133_71 (i3 c_133_72 rfl (wi_ok (fun K18 => ?_)))))))
  obtain ⟨w19, e20, r21, t⟩ := t
  refine i80 (As := [.int (wI (rt_ (σ (x0 + 9) 2) (σ (x0 + 10)) 8 7 x1)), .int (wI 0), .int (wI (min (rt_ (σ (x0 + 9) 2) (σ (x0 + 10)) 8 0 x1) (rt_ (σ (x0 + 9) 2) (σ (x0 + 10)) 8 1 x1)))]) (rest := []) c_133_73 mi_57 rfl rfl (Nat.le_of_ble_eq_true rfl) (Nat.le_of_ble_eq_true rfl) (lo (lyt_7 hx0) (by have := tw_b hx0; omega)) (q_raise (v2 := w19) (ow_shops hx0) (rg_rt_ (fun k => kO_r K2 _ k) _ _ _ _) (show 0 ≤ rt_ (σ (x0 + 9) 2) (σ (x0 + 10)) 8 7 x1 ∧ rt_ (σ (x0 + 9) 2) (σ (x0 + 10)) 8 7 x1 < (uc (uc σ (x0 + 10) (u1 (u1 (σ (x0 + 10)) (x1 * 8 + 0) w4) (x1 * 8 + 1) w9)) (x0 + 8) (u1 (σ (x0 + 8)) ((rt_ (σ (x0 + 9) 2) (σ (x0 + 10)) 8 7 x1) * 5 + 1) w14)) (x0 + 7) 2 by rw [(congrFun (uc_ns (uc_ns rfl (by have := tw_b hx0; have := tw_b hx0; omega)) (by have := tw_b hx0; have := tw_b hx0; omega)) _)]; exact b12) (by decide) (Eq.trans (show wI w19 = wI ((σ (x0 + 8) ((rt_ (σ (x0 + 9) 2) (σ (x0 + 10)) 8 7 x1) * 5 + 0)) + (min (rt_ (σ (x0 + 9) 2) (σ (x0 + 10)) 8 0 x1) (rt_ (σ (x0 + 9) 2) (σ (x0 + 10)) 8 1 x1))) from e20) (congrArg (fun q => wI (q + (min (rt_ (σ (x0 + 9) 2) (σ (x0 + 10)) 8 0 x1) (rt_ (σ (x0 + 9) 2) (σ (x0 + 10)) 8 1 x1)))) (Eq.symm ((congrFun (uc_s _ _ _) _).trans (u1_n n17))))) r21 ?_)
  show wi (d + 8) 133 76 [.ref x0, .int (wI x1), .int (wI (rt_ (σ (x0 + 9) 2) (σ (x0 + 10)) 8 7 x1)), .int (wI (min (rt_ (σ (x0 + 9) 2) (σ (x0 + 10)) 8 0 x1) (rt_ (σ (x0 + 9) 2) (σ (x0 + 10)) 8 1 x1)))] [] S (uc (uc (uc σ (x0 + 10) (u1 (u1 (σ (x0 + 10)) (x1 * 8 + 0) w4) (x1 * 8 + 1) w9)) (x0 + 8) (u1 (σ (x0 + 8)) ((rt_ (σ (x0 + 9) 2) (σ (x0 + 10)) 8 7 x1) * 5 + 1) w14)) (x0 + 8) (u1 ((uc (uc σ (x0 + 10) (u1 (u1 (σ (x0 + 10)) (x1 * 8 + 0) w4) (x1 * 8 + 1) w9)) (x0 + 8) (u1 (σ (x0 + 8)) ((rt_ (σ (x0 + 9) 2) (σ (x0 + 10)) 8 7 x1) * 5 + 1) w14)) (x0 + 8)) ((rt_ (σ (x0 + 9) 2) (σ (x0 + 10)) 8 7 x1) * 5 + 0) w19)) τ Q
  refine wi_s (σ1 := uc (uc σ (x0 + 10) (u1 (u1 (σ (x0 + 10)) (x1 * 8 + 0) w4) (x1 * 8 + 1) w9)) (x0 + 8) (u1 (u1 (σ (x0 + 8)) ((rt_ (σ (x0 + 9) 2) (σ (x0 + 10)) 8 7 x1) * 5 + 1) w14) ((rt_ (σ (x0 + 9) 2) (σ (x0 + 10)) 8 7 x1) * 5 + 0) w19)) (wr_ (uc_s _ _ _) (uc_uc _ _ _ _)) ?_
  exact i94 c_133_76 t
theorem q_133 {d : Nat} {S : zS} {σ τ : zI} {Q : zQ} {tn : Nat} {h : Int} {P0 : Int} {D0 : Int} {s : Int} {C0 : Int} {E0 : Int} (htn : tw tn) (p0 : 0 ≤ h ∧ h < σ (tn + 9) 2 ∧ σ (tn + 9) 2 ≤ 24) (p1 : σ (tn + 10) (h * 8 + 0) = P0 ∧ σ (tn + 10) (h * 8 + 1) = D0 ∧ σ (tn + 10) (h * 8 + 7) = s) (p2 : 0 ≤ s ∧ s < σ (tn + 7) 2 ∧ σ (tn + 7) 2 ≤ 4) (p3 : σ (tn + 8) (s * 5 + 0) = C0 ∧ σ (tn + 8) (s * 5 + 1) = E0) (p4 : (0 ≤ P0 ∧ P0 ≤ 2000000000) ∧ (0 ≤ D0 ∧ D0 ≤ 500000) ∧ (-1000 ≤ C0 ∧ C0 ≤ 500000) ∧ -5000000 ≤ E0 ∧ E0 ≤ 5000000) (t : Q none S (uc (uc σ (tn + 10) (u1 (u1 (σ (tn + 10)) (h * 8 + 0) (P0 - min P0 D0)) (h * 8 + 1) (D0 - min P0 D0))) (tn + 8) (u1 (u1 (σ (tn + 8)) (s * 5 + 1) (E0 - min P0 D0)) (s * 5 + 0) (C0 + min P0 D0))) τ) : wc (d + 8) 133 [.ref tn, .int (wI h)] S σ τ Q := by
  have e0 : rt_ (σ (tn + 9) 2) (σ (tn + 10)) 8 0 h = P0 := by rw [rt_p ⟨p0.1, p0.2.1⟩]; exact p1.1
  have e1 : rt_ (σ (tn + 9) 2) (σ (tn + 10)) 8 1 h = D0 := by rw [rt_p ⟨p0.1, p0.2.1⟩]; exact p1.2.1
  have e7 : rt_ (σ (tn + 9) 2) (σ (tn + 10)) 8 7 h = s := by rw [rt_p ⟨p0.1, p0.2.1⟩]; exact p1.2.2
  refine wc_of mi_133 rfl (u_133_0 htn ?_)
  rw [e0, e1, e7, p1.1, p1.2.1, p3.1, p3.2]
  exact ⟨by omega, by omega, P0 - min P0 D0, rfl, by omega, by omega, D0 - min P0 D0, rfl, by omega, by omega, E0 - min P0 D0, rfl, by omega, by omega, C0 + min P0 D0, rfl, by omega, t⟩
/-- a SHOP and a HOME when j loaves are trusted -/
def TR_ (σ σ' : zI) (tn : Nat) (h s C0 E0 D0 x : Int) : Prop := (∀ c, c ≠ tn + 8 → c ≠ tn + 10 → σ' c = σ c) ∧ (∀ k, k ≠ s * 5 + 0 → k ≠ s * 5 + 1 → σ' (tn + 8) k = σ (tn + 8) k) ∧ (σ' (tn + 8) (s * 5 + 0) = C0 - x ∧ σ' (tn + 8) (s * 5 + 1) = E0 + x) ∧ (∀ k, k ≠ h * 8 + 1 → σ' (tn + 10) k = σ (tn + 10) k) ∧ σ' (tn + 10) (h * 8 + 1) = D0 + x
-- method 132: MillTown$Week.trust(LMillTown$Town;III)I
theorem c_132_0 : pg_cd 132 0 = (5, 1, 0, 1, 0) := by decide +kernel
theorem c_132_1 : pg_cd 132 1 = (45, 8, 244, 4, 0) := by decide +kernel
theorem c_132_4 : pg_cd 132 4 = (3, 1, 0, 2, 0) := by decide +kernel
theorem c_132_5 : pg_cd 132 5 = (1, 2, 0, 0, 7) := by decide +kernel
theorem c_132_7 : pg_cd 132 7 = (80, 55, 118, 0, 0) := by decide +kernel
theorem c_132_10 : pg_cd 132 10 = (6, 2, 0, 5, 0) := by decide +kernel
theorem c_132_12 : pg_cd 132 12 = (2, 1, 0, 0, 0) := by decide +kernel
theorem c_132_13 : pg_cd 132 13 = (7, 2, 0, 6, 0) := by decide +kernel
theorem c_132_15 : pg_cd 132 15 = (5, 1, 0, 1, 0) := by decide +kernel
theorem c_132_16 : pg_cd 132 16 = (43, 8, 48, 8, 0) := by decide +kernel
theorem c_132_19 : pg_cd 132 19 = (1, 1, 0, 0, 3) := by decide +kernel
theorem c_132_20 : pg_cd 132 20 = (11, 1, 0, 0, 0) := by decide +kernel
theorem c_132_21 : pg_cd 132 21 = (6, 2, 0, 8, 0) := by decide +kernel
theorem c_132_23 : pg_cd 132 23 = (3, 2, 0, 8, 0) := by decide +kernel
theorem c_132_25 : pg_cd 132 25 = (5, 1, 0, 1, 0) := by decide +kernel
theorem c_132_26 : pg_cd 132 26 = (43, 8, 48, 8, 0) := by decide +kernel
theorem c_132_29 : pg_cd 132 29 = (37, 3, 0, 4, 25) := by decide +kernel
theorem c_132_32 : pg_cd 132 32 = (4, 2, 0, 6, 0) := by decide +kernel
theorem c_132_34 : pg_cd 132 34 = (5, 1, 0, 0, 0) := by decide +kernel
theorem c_132_35 : pg_cd 132 35 = (45, 9, 21, 1, 0) := by decide +kernel
theorem c_132_38 : pg_cd 132 38 = (3, 2, 0, 8, 0) := by decide +kernel
theorem c_132_40 : pg_cd 132 40 = (3, 1, 0, 2, 0) := by decide +kernel
theorem c_132_41 : pg_cd 132 41 = (80, 3, 269, 0, 0) := by decide +kernel
theorem c_132_44 : pg_cd 132 44 = (31, 1, 0, 0, 0) := by decide +kernel
theorem c_132_45 : pg_cd 132 45 = (22, 1, 0, 0, 0) := by decide +kernel
theorem c_132_46 : pg_cd 132 46 = (7, 2, 0, 6, 0) := by decide +kernel
theorem c_132_48 : pg_cd 132 48 = (9, 3, 0, 8, 1) := by decide +kernel
theorem c_132_51 : pg_cd 132 51 = (38, 3, 0, 0, (-28)) := by decide +kernel
theorem c_132_54 : pg_cd 132 54 = (5, 1, 0, 1, 0) := by decide +kernel
theorem c_132_55 : pg_cd 132 55 = (45, 8, 272, 3, 0) := by decide +kernel
theorem c_132_58 : pg_cd 132 58 = (3, 2, 0, 5, 0) := by decide +kernel
theorem c_132_60 : pg_cd 132 60 = (1, 1, 0, 0, 3) := by decide +kernel
theorem c_132_61 : pg_cd 132 61 = (80, 55, 118, 0, 0) := by decide +kernel
theorem c_132_64 : pg_cd 132 64 = (31, 1, 0, 0, 0) := by decide +kernel
theorem c_132_65 : pg_cd 132 65 = (4, 2, 0, 6, 0) := by decide +kernel
theorem c_132_67 : pg_cd 132 67 = (24, 1, 0, 0, 0) := by decide +kernel
theorem c_132_68 : pg_cd 132 68 = (2, 3, 275, 0, 400) := by decide +kernel
theorem c_132_71 : pg_cd 132 71 = (26, 1, 0, 0, 0) := by decide +kernel
theorem c_132_72 : pg_cd 132 72 = (7, 2, 0, 8, 0) := by decide +kernel
theorem c_132_74 : pg_cd 132 74 = (1, 1, 0, 0, 0) := by decide +kernel
theorem c_132_75 : pg_cd 132 75 = (6, 2, 0, 10, 0) := by decide +kernel
theorem c_132_77 : pg_cd 132 77 = (1, 1, 0, 0, 0) := by decide +kernel
theorem c_132_78 : pg_cd 132 78 = (6, 2, 0, 11, 0) := by decide +kernel
theorem c_132_80 : pg_cd 132 80 = (3, 2, 0, 11, 0) := by decide +kernel
theorem c_132_82 : pg_cd 132 82 = (3, 1, 0, 3, 0) := by decide +kernel
theorem c_132_83 : pg_cd 132 83 = (37, 3, 0, 3, 95) := by decide +kernel
theorem c_132_86 : pg_cd 132 86 = (5, 1, 0, 1, 0) := by decide +kernel
theorem c_132_87 : pg_cd 132 87 = (45, 8, 272, 3, 0) := by decide +kernel
theorem c_132_90 : pg_cd 132 90 = (3, 2, 0, 5, 0) := by decide +kernel
theorem c_132_92 : pg_cd 132 92 = (1, 1, 0, 0, 2) := by decide +kernel
theorem c_132_93 : pg_cd 132 93 = (80, 55, 118, 0, 0) := by decide +kernel
theorem c_132_96 : pg_cd 132 96 = (36, 3, 0, 1, 82) := by decide +kernel
theorem c_132_99 : pg_cd 132 99 = (5, 1, 0, 1, 0) := by decide +kernel
theorem c_132_100 : pg_cd 132 100 = (45, 8, 272, 3, 0) := by decide +kernel
theorem c_132_103 : pg_cd 132 103 = (3, 2, 0, 5, 0) := by decide +kernel
theorem c_132_105 : pg_cd 132 105 = (1, 1, 0, 0, 0) := by decide +kernel
theorem c_132_106 : pg_cd 132 106 = (80, 55, 118, 0, 0) := by decide +kernel
theorem c_132_109 : pg_cd 132 109 = (3, 2, 0, 4, 0) := by decide +kernel
theorem c_132_111 : pg_cd 132 111 = (37, 3, 0, 2, 61) := by decide +kernel
theorem c_132_114 : pg_cd 132 114 = (5, 1, 0, 1, 0) := by decide +kernel
theorem c_132_115 : pg_cd 132 115 = (45, 8, 244, 4, 0) := by decide +kernel
theorem c_132_118 : pg_cd 132 118 = (3, 1, 0, 2, 0) := by decide +kernel
theorem c_132_119 : pg_cd 132 119 = (1, 1, 0, 0, 1) := by decide +kernel
theorem c_132_120 : pg_cd 132 120 = (80, 55, 118, 0, 0) := by decide +kernel
theorem c_132_123 : pg_cd 132 123 = (3, 2, 0, 4, 0) := by decide +kernel
theorem c_132_125 : pg_cd 132 125 = (10, 1, 0, 0, 0) := by decide +kernel
theorem c_132_126 : pg_cd 132 126 = (31, 1, 0, 0, 0) := by decide +kernel
theorem c_132_127 : pg_cd 132 127 = (4, 2, 0, 8, 0) := by decide +kernel
theorem c_132_129 : pg_cd 132 129 = (28, 1, 0, 0, 0) := by decide +kernel
theorem c_132_130 : pg_cd 132 130 = (36, 3, 0, 4, 42) := by decide +kernel
theorem c_132_133 : pg_cd 132 133 = (5, 1, 0, 1, 0) := by decide +kernel
theorem c_132_134 : pg_cd 132 134 = (45, 8, 272, 3, 0) := by decide +kernel
theorem c_132_137 : pg_cd 132 137 = (3, 2, 0, 5, 0) := by decide +kernel
theorem c_132_139 : pg_cd 132 139 = (1, 1, 0, 0, 0) := by decide +kernel
theorem c_132_140 : pg_cd 132 140 = (3, 2, 0, 4, 0) := by decide +kernel
theorem c_132_142 : pg_cd 132 142 = (21, 1, 0, 0, 0) := by decide +kernel
theorem c_132_143 : pg_cd 132 143 = (80, 57, 190, 0, 0) := by decide +kernel
theorem c_132_146 : pg_cd 132 146 = (5, 1, 0, 1, 0) := by decide +kernel
theorem c_132_147 : pg_cd 132 147 = (45, 8, 272, 3, 0) := by decide +kernel
theorem c_132_150 : pg_cd 132 150 = (3, 2, 0, 5, 0) := by decide +kernel
theorem c_132_152 : pg_cd 132 152 = (1, 1, 0, 0, 1) := by decide +kernel
theorem c_132_153 : pg_cd 132 153 = (3, 2, 0, 4, 0) := by decide +kernel
theorem c_132_155 : pg_cd 132 155 = (80, 57, 190, 0, 0) := by decide +kernel
theorem c_132_158 : pg_cd 132 158 = (5, 1, 0, 1, 0) := by decide +kernel
theorem c_132_159 : pg_cd 132 159 = (45, 8, 244, 4, 0) := by decide +kernel
theorem c_132_162 : pg_cd 132 162 = (3, 1, 0, 2, 0) := by decide +kernel
theorem c_132_163 : pg_cd 132 163 = (1, 1, 0, 0, 1) := by decide +kernel
theorem c_132_164 : pg_cd 132 164 = (3, 2, 0, 4, 0) := by decide +kernel
theorem c_132_166 : pg_cd 132 166 = (80, 57, 190, 0, 0) := by decide +kernel
theorem c_132_169 : pg_cd 132 169 = (9, 3, 0, 10, 1) := by decide +kernel
theorem c_132_172 : pg_cd 132 172 = (9, 3, 0, 11, 1) := by decide +kernel
theorem c_132_175 : pg_cd 132 175 = (38, 3, 0, 0, (-95)) := by decide +kernel
theorem c_132_178 : pg_cd 132 178 = (3, 2, 0, 10, 0) := by decide +kernel
theorem c_132_180 : pg_cd 132 180 = (90, 0, 0, 0, 0) := by decide +kernel
theorem mi_132 : pg_mc 132 = 9 ∧ pg_na 132 = 4 ∧ pg_mx 132 = 12 := by decide +kernel
set_option maxRecDepth 20000 in
theorem u_132_0 {d : Nat} {S : zS} {σ τ : zI} {Q : zQ} {x1 : Nat} {x2 : Int} {x3 : Int} {x4 : Int} (hx1 : tw x1) (t : (rg x2) ∧ wi (d + 2) 132 23 [.ref 53, .ref x1, .int (wI x2), .int (wI x3), .int (wI x4), .int (wI (rt_ (σ (x1 + 9) 2) (σ (x1 + 10)) 8 7 x2)), .long (wJ 0), .retAddr 0, .int (wI ((σ x1 8) - 3)), .retAddr 0, .retAddr 0, .retAddr 0] [] S σ τ Q) : wi (d + 2) 132 0 [.ref 53, .ref x1, .int (wI x2), .int (wI x3), .int (wI x4), .retAddr 0, .retAddr 0, .retAddr 0, .retAddr 0, .retAddr 0, .retAddr 0, .retAddr 0] [] S σ τ Q := by
  obtain ⟨r1, t⟩ := t
  refine i5 c_132_0 rfl (i45 c_132_1 (lo (lyt_0 hx1) (by have := tw_b hx1; omega)) (lro (lrt_4 hx1)) (i3 c_132_4 rfl (i1 c_132_5 (wi_ok (fun K2 => ?_)))))
  refine i80 (As := [.int (wI x2), .int (wI 7)]) (rest := []) c_132_7 mi_55 rfl rfl (Nat.le_of_ble_eq_true rfl) (Nat.le_of_ble_eq_true rfl) (lo (lyt_9 hx1) (by have := tw_b hx1; omega)) (q_at (ow_homes hx1) r1 (by decide) ?_)
  show wi (d + 2) 132 10 [.ref 53, .ref x1, .int (wI x2), .int (wI x3), .int (wI x4), .retAddr 0, .retAddr 0, .retAddr 0, .retAddr 0, .retAddr 0, .retAddr 0, .retAddr 0] [.int (wI (rt_ (σ (x1 + 9) 2) (σ (x1 + 10)) 8 7 x2))] S σ τ Q
  refine i6 (L' := [.ref 53, .ref x1, .int (wI x2), .int (wI x3), .int (wI x4), .int (wI (rt_ (σ (x1 + 9) 2) (σ (x1 + 10)) 8 7 x2)), .retAddr 0, .retAddr 0, .retAddr 0, .retAddr 0, .retAddr 0, .retAddr 0]) c_132_10 rfl (i2 c_132_12 (i7 (L' := [.ref 53, .ref x1, .int (wI x2), .int (wI x3), .int (wI x4), .int (wI (rt_ (σ (x1 + 9) 2) (σ (x1 + 10)) 8 7 x2)), .long (wJ 0), .retAddr 0, .retAddr 0, .retAddr 0, .retAddr 0, .retAddr 0]) c_132_13 rfl (i5 c_132_15 rfl (i43 (v := σ x1 8) c_132_16 (lo (lyt_0 hx1) (by have := tw_b hx1; omega)) rfl (i1 c_132_19 (i11 c_132_20 (i6 (L' := [.ref 53, .ref x1, .int (wI x2), .int (wI x3), .int (wI x4), .int (wI (rt_ (σ (x1 + 9) 2) (σ (x1 + 10)) 8 7 x2)), .long (wJ 0), .retAddr 0, .int (wI ((σ x1 8) - 3)), .retAddr 0, .retAddr 0, .retAddr 0]) c_132_21 rfl t)))))))
set_option maxRecDepth 20000 in
theorem u_132_23 {d : Nat} {S : zS} {σ τ : zI} {Q : zQ} {x1 : Nat} {x2 : Int} {x3 : Int} {x4 : Int} {x5 : Int} {x6 : Int} {x8 : Int} {y9 : Value} {y10 : Value} {y11 : Value} (hx1 : tw x1) (t : (rg x8) ∧ if (σ x1 8) < x8 then ((rg x5) ∧ (rj ((rt_ (σ (x1 + 7) 2) (σ (x1 + 8)) 5 3 x5) * x6)) ∧ wi (d + 2) 132 80 [.ref 53, .ref x1, .int (wI x2), .int (wI x3), .int (wI x4), .int (wI x5), .long (wJ x6), .retAddr 0, .long (wJ (Int.tdiv ((rt_ (σ (x1 + 7) 2) (σ (x1 + 8)) 5 3 x5) * x6) 400)), .retAddr 0, .int (wI 0), .int (wI 0)] [] S σ τ Q) else ((zB S) ∧ (rg x2) ∧ (rg (eI S σ 4 x8 x2)) ∧ wi (d + 2) 132 23 [.ref 53, .ref x1, .int (wI x2), .int (wI x3), .int (wI x4), .int (wI x5), .long (wJ (x6 + (eI S σ 4 x8 x2))), .retAddr 0, .int (wI (x8 + 1)), y9, y10, y11] [] S σ τ Q)) : wi (d + 2) 132 23 [.ref 53, .ref x1, .int (wI x2), .int (wI x3), .int (wI x4), .int (wI x5), .long (wJ x6), .retAddr 0, .int (wI x8), y9, y10, y11] [] S σ τ Q := by
  refine i3 c_132_23 rfl (i5 c_132_25 rfl (wi_ok (fun K1 => ?_)))
  obtain ⟨r2, t⟩ := t
  refine i43 (v := σ x1 8) c_132_26 (lo (lyt_0 hx1) (by have := tw_b hx1; omega)) rfl ?_
  refine i37 c_132_29 r2 (rge_ K1 rfl) rfl (fun hc => ?_) (fun hc => ?_)
  · have t := iT t hc
    have ha3 : (σ x1 8) < x8 := hc
    obtain ⟨r4, t⟩ := t
    refine i5 c_132_54 rfl (i45 c_132_55 (lo (lyt_0 hx1) (by have := tw_b hx1; omega)) (lro (lrt_3 hx1)) (i3 c_132_58 rfl (i1 c_132_60 ?_)))
    refine i80 (As := [.int (wI x5), .int (wI 3)]) (rest := []) c_132_61 mi_55 rfl rfl (Nat.le_of_ble_eq_true rfl) (Nat.le_of_ble_eq_true rfl) (lo (lyt_7 hx1) (by have := tw_b hx1; omega)) (q_at (ow_shops hx1) r4 (by decide) ?_)
    show wi (d + 2) 132 64 [.ref 53, .ref x1, .int (wI x2), .int (wI x3), .int (wI x4), .int (wI x5), .long (wJ x6), .retAddr 0, .int (wI x8), y9, y10, y11] [.int (wI (rt_ (σ (x1 + 7) 2) (σ (x1 + 8)) 5 3 x5))] S σ τ Q
    obtain ⟨r5, t⟩ := t
    refine i31 c_132_64 (rg_rt_ (fun k => kO_r K1 _ k) _ _ _ _) (i4 c_132_65 rfl (i24 c_132_67 (i2 c_132_68 (i26 c_132_71 r5 (by decide) (by decide) (i7 (L' := [.ref 53, .ref x1, .int (wI x2), .int (wI x3), .int (wI x4), .int (wI x5), .long (wJ x6), .retAddr 0, .long (wJ (Int.tdiv ((rt_ (σ (x1 + 7) 2) (σ (x1 + 8)) 5 3 x5) * x6) 400)), .retAddr 0, y10, y11]) c_132_72 rfl (i1 c_132_74 (i6 (L' := [.ref 53, .ref x1, .int (wI x2), .int (wI x3), .int (wI x4), .int (wI x5), .long (wJ x6), .retAddr 0, .long (wJ (Int.tdiv ((rt_ (σ (x1 + 7) 2) (σ (x1 + 8)) 5 3 x5) * x6) 400)), .retAddr 0, .int (wI 0), y11]) c_132_75 rfl (i1 c_132_77 (i6 (L' := [.ref 53, .ref x1, .int (wI x2), .int (wI x3), .int (wI x4), .int (wI x5), .long (wJ x6), .retAddr 0, .long (wJ (Int.tdiv ((rt_ (σ (x1 + 7) 2) (σ (x1 + 8)) 5 3 x5) * x6) 400)), .retAddr 0, .int (wI 0), .int (wI 0)]) c_132_78 rfl t)))))))))
  · have t := iF t hc
    have ha3 : ¬ ((σ x1 8) < x8) := hc
    obtain ⟨p6, t⟩ := t
    obtain ⟨r7, t⟩ := t
    refine i4 c_132_32 rfl (i5 c_132_34 rfl (i45 c_132_35 (lo (c := 53) (kd := 109) (n := 0) rfl (by decide)) (lro (c := 53) (k := 1) (j := 58) (by decide)) (i3 c_132_38 rfl (i3 c_132_40 rfl ?_))))
    refine i80 (As := [.int (wI x8), .int (wI x2)]) (rest := [.long (wJ x6)]) c_132_41 mi_3 rfl rfl (Nat.le_of_ble_eq_true rfl) (Nat.le_of_ble_eq_true rfl) (lo (c := 58) (kd := 100) (n := 0) rfl (by decide)) (q_3 r2 p6 r7 ?_)
    show wi (d + 2) 132 44 [.ref 53, .ref x1, .int (wI x2), .int (wI x3), .int (wI x4), .int (wI x5), .long (wJ x6), .retAddr 0, .int (wI x8), y9, y10, y11] [.int (wI (eI S σ 4 x8 x2)), .long (wJ x6)] S σ τ Q
    obtain ⟨r8, t⟩ := t
    refine i31 c_132_44 r8 (i22 c_132_45 (i7 (L' := [.ref 53, .ref x1, .int (wI x2), .int (wI x3), .int (wI x4), .int (wI x5), .long (wJ (x6 + (eI S σ 4 x8 x2))), .retAddr 0, .int (wI x8), y9, y10, y11]) c_132_46 rfl (i9 (L' := [.ref 53, .ref x1, .int (wI x2), .int (wI x3), .int (wI x4), .int (wI x5), .long (wJ (x6 + (eI S σ 4 x8 x2))), .retAddr 0, .int (wI (x8 + 1)), y9, y10, y11]) c_132_48 rfl rfl (i38 c_132_51 rfl t))))
set_option maxRecDepth 20000 in
theorem u_132_80 {d : Nat} {S : zS} {σ τ : zI} {Q : zQ} {x1 : Nat} {x2 : Int} {x3 : Int} {x4 : Int} {x5 : Int} {x6 : Int} {x8 : Int} {x10 : Int} {x11 : Int} (hx1 : tw x1) (t : (rg x11) ∧ (rg x3) ∧ if x3 ≤ x11 then (Q (some (.int (wI x10))) S σ τ) else ((rg x5) ∧ if (rt_ (σ (x1 + 7) 2) (σ (x1 + 8)) 5 2 x5) = 0 then ((rg x4) ∧ if (rt_ (σ (x1 + 7) 2) (σ (x1 + 8)) 5 0 x5) < x4 then (wi (d + 2) 132 80 [.ref 53, .ref x1, .int (wI x2), .int (wI x3), .int (wI x4), .int (wI x5), .long (wJ x6), .retAddr 0, .long (wJ x8), .retAddr 0, .int (wI x10), .int (wI (x11 + 1))] [] S σ τ Q) else ((rg x2) ∧ (rg ((rt_ (σ (x1 + 9) 2) (σ (x1 + 10)) 8 1 x2) + x4)) ∧ (rj x8) ∧ if x8 < ((rt_ (σ (x1 + 9) 2) (σ (x1 + 10)) 8 1 x2) + x4) then (wi (d + 2) 132 80 [.ref 53, .ref x1, .int (wI x2), .int (wI x3), .int (wI x4), .int (wI x5), .long (wJ x6), .retAddr 0, .long (wJ x8), .retAddr 0, .int (wI x10), .int (wI (x11 + 1))] [] S σ τ Q) else ((0 ≤ x5 ∧ x5 < (σ (x1 + 7) 2)) ∧ ∃ w14 : Int, wI w14 = wI ((σ (x1 + 8) (x5 * 5 + 0)) + (-x4)) ∧ rg w14 ∧ ((x5 * 5 + 1) ≠ (x5 * 5 + 0)) ∧ ∃ w19 : Int, wI w19 = wI ((σ (x1 + 8) (x5 * 5 + 1)) + x4) ∧ rg w19 ∧ (0 ≤ x2 ∧ x2 < (σ (x1 + 9) 2)) ∧ ∃ w24 : Int, wI w24 = wI ((σ (x1 + 10) (x2 * 8 + 1)) + x4) ∧ rg w24 ∧ wi (d + 2) 132 80 [.ref 53, .ref x1, .int (wI x2), .int (wI x3), .int (wI x4), .int (wI x5), .long (wJ x6), .retAddr 0, .long (wJ x8), .retAddr 0, .int (wI (x10 + 1)), .int (wI (x11 + 1))] [] S (uc (uc σ (x1 + 8) (u1 (u1 (σ (x1 + 8)) (x5 * 5 + 0) w14) (x5 * 5 + 1) w19)) (x1 + 10) (u1 (σ (x1 + 10)) (x2 * 8 + 1) w24)) τ Q))) else (Q (some (.int (wI x10))) S σ τ))) : wi (d + 2) 132 80 [.ref 53, .ref x1, .int (wI x2), .int (wI x3), .int (wI x4), .int (wI x5), .long (wJ x6), .retAddr 0, .long (wJ x8), .retAddr 0, .int (wI x10), .int (wI x11)] [] S σ τ Q := by
  obtain ⟨r1, t⟩ := t
  obtain ⟨r2, t⟩ := t
  refine i3 c_132_80 rfl (i3 c_132_82 rfl ?_)
  refine i37 c_132_83 r1 r2 rfl (fun hc => ?_) (fun hc => ?_)
  · have t := iT t hc
    have ha3 : x3 ≤ x11 := hc
    refine i3 c_132_178 rfl ?_
    exact i90 c_132_180 t
  · have t := iF t hc
    have ha3 : ¬ (x3 ≤ x11) := hc
    obtain ⟨r4, t⟩ := t
    refine i5 c_132_86 rfl (i45 c_132_87 (lo (lyt_0 hx1) (by have := tw_b hx1; omega)) (lro (lrt_3 hx1)) (i3 c_132_90 rfl (i1 c_132_92 (wi_ok (fun K5 => ?_)))))
    refine i80 (As := [.int (wI x5), .int (wI 2)]) (rest := []) c_132_93 mi_55 rfl rfl (Nat.le_of_ble_eq_true rfl) (Nat.le_of_ble_eq_true rfl) (lo (lyt_7 hx1) (by have := tw_b hx1; omega)) (q_at (ow_shops hx1) r4 (by decide) ?_)
    show wi (d + 2) 132 96 [.ref 53, .ref x1, .int (wI x2), .int (wI x3), .int (wI x4), .int (wI x5), .long (wJ x6), .retAddr 0, .long (wJ x8), .retAddr 0, .int (wI x10), .int (wI x11)] [.int (wI (rt_ (σ (x1 + 7) 2) (σ (x1 + 8)) 5 2 x5))] S σ τ Q
    refine i36 c_132_96 (rg_rt_ (fun k => kO_r K5 _ k) _ _ _ _) rfl (fun hc => ?_) (fun hc => ?_)
    · have t := iF t hc
      have ha6 : ¬ ((rt_ (σ (x1 + 7) 2) (σ (x1 + 8)) 5 2 x5) = 0) := hc
      refine i3 c_132_178 rfl ?_
      exact i90 c_132_180 t
    · have t := iT t (Decidable.not_not.mp hc)
      have ha6 : (rt_ (σ (x1 + 7) 2) (σ (x1 + 8)) 5 2 x5) = 0 := Decidable.not_not.mp hc
      refine i5 c_132_99 rfl (i45 c_132_100 (lo (lyt_0 hx1) (by have := tw_b hx1; omega)) (lro (lrt_3 hx1)) (i3 c_132_103 rfl (i1 c_132_105 ?_)))
      refine i80 (As := [.int (wI x5), .int (wI 0)]) (rest := []) c_132_106 mi_55 rfl rfl (Nat.le_of_ble_eq_true rfl) (Nat.le_of_ble_eq_true rfl) (lo (lyt_7 hx1) (by have := tw_b hx1; omega)) (q_at (ow_shops hx1) r4 (by decide) ?_)
      show wi (d + 2) 132 109 [.ref 53, .ref x1, .int (wI x2), .int (wI x3), .int (wI x4), .int (wI x5), .long (wJ x6), .retAddr 0, .long (wJ x8), .retAddr 0, .int (wI x10), .int (wI x11)] [.int (wI (rt_ (σ (x1 + 7) 2) (σ (x1 + 8)) 5 0 x5))] S σ τ Q
      obtain ⟨r7, t⟩ := t
      refine i3 c_132_109 rfl ?_
      refine i37 c_132_111 (rg_rt_ (fun k => kO_r K5 _ k) _ _ _ _) r7 rfl (fun hc => ?_) (fun hc => ?_)
      · have t := iT t hc
        have ha8 : (rt_ (σ (x1 + 7) 2) (σ (x1 + 8)) 5 0 x5) < x4 := hc
        refine i9 (L' := [.ref 53, .ref x1, .int (wI x2), .int (wI x3), .int (wI x4), .int (wI x5), .long (wJ x6), .retAddr 0, .long (wJ x8), .retAddr 0, .int (wI x10), .int (wI (x11 + 1))]) c_132_172 rfl rfl (i38 c_132_175 rfl t)
      · have t := iF t hc
        have ha8 : ¬ ((rt_ (σ (x1 + 7) 2) (σ (x1 + 8)) 5 0 x5) < x4) := hc
        obtain ⟨r9, t⟩ := t
        refine i5 c_132_114 rfl (i45 c_132_115 (lo (lyt_0 hx1) (by have := tw_b hx1; omega)) (lro (lrt_4 hx1)) (i3 c_132_118 rfl (i1 c_132_119 ?_)))
        refine i80 (As := [.int (wI x2), .int (wI 1)]) (rest := []) c_132_120 mi_55 rfl rfl (Nat.le_of_ble_eq_true rfl) (Nat.le_of_ble_eq_true rfl) (lo (lyt_9 hx1) (by have := tw_b hx1; omega)) (q_at (ow_homes hx1) r9 (by decide) ?_)
        show wi (d + 2) 132 123 [.ref 53, .ref x1, .int (wI x2), .int (wI x3), .int (wI x4), .int (wI x5), .long (wJ x6), .retAddr 0, .long (wJ x8), .retAddr 0, .int (wI x10), .int (wI x11)] [.int (wI (rt_ (σ (x1 + 9) 2) (σ (x1 + 10)) 8 1 x2))] S σ τ Q
        obtain ⟨r10, t⟩ := t
        obtain ⟨r11, t⟩ := t
        refine i3 c_132_123 rfl (i10 c_132_125 (i31 c_132_126 r10 (i4 c_132_127 rfl (i28 c_132_129 ?_))))
        refine i36l c_132_130 (rj_of r10) r11 rfl (fun hc => ?_) (fun hc => ?_)
        · have t := iT t hc
          have ha12 : x8 < ((rt_ (σ (x1 + 9) 2) (σ (x1 + 10)) 8 1 x2) + x4) := hc
          refine i9 (L' := [.ref 53, .ref x1, .int (wI x2), .int (wI x3), .int (wI x4), .int (wI x5), .long (wJ x6), .retAddr 0, .long (wJ x8), .retAddr 0, .int (wI x10), .int (wI (x11 + 1))]) c_132_172 rfl rfl (i38 c_132_175 rfl t)
        · have t := iF t hc
          have ha12 : ¬ (x8 < ((rt_ (σ (x1 + 9) 2) (σ (x1 + 10)) 8 1 x2) + x4)) := hc
          obtain ⟨b13, t⟩ := t
          obtain ⟨w14, e15, r16, t⟩ := t
          refine i5 c_132_133 rfl (i45 c_132_134 (lo (lyt_0 hx1) (by have := tw_b hx1; omega)) (lro (lrt_3 hx1)) (i3 c_132_137 rfl (i1 c_132_139 (i3 c_132_140 rfl (i21 c_132_142 ?_)))))
          refine i80 (As := [.int (wI x5), .int (wI 0), .int (wI (-x4))]) (rest := []) c_132_143 mi_57 rfl rfl (Nat.le_of_ble_eq_true rfl) (Nat.le_of_ble_eq_true rfl) (lo (lyt_7 hx1) (by have := tw_b hx1; omega)) (q_raise (v2 := w14) (ow_shops hx1) r4 b13 (by decide) e15 r16 ?_)
          show wi (d + 2) 132 146 [.ref 53, .ref x1, .int (wI x2), .int (wI x3), .int (wI x4), .int (wI x5), .long (wJ x6), .retAddr 0, .long (wJ x8), .retAddr 0, .int (wI x10), .int (wI x11)] [] S (uc σ (x1 + 8) (u1 (σ (x1 + 8)) (x5 * 5 + 0) w14)) τ Q
          obtain ⟨n17, t⟩ := t
          refine i5 c_132_146 rfl (i45 c_132_147 (lo (lyt_0 hx1) (by have := tw_b hx1; omega)) (lro (lrt_3 hx1)) (i3 c_132_150 rfl (i1 c_132_152 (i3 c_132_153 rfl (wi_ok (fun K18 => ?_))))))
          obtain ⟨w19, e20, r21, t⟩ := t
          refine i80 (As := [.int (wI x5), .int (wI 1), .int (wI x4)]) (rest := []) c_132_155 mi_57 rfl rfl (Nat.le_of_ble_eq_true rfl) (Nat.le_of_ble_eq_true rfl) (lo (lyt_7 hx1) (by have := tw_b hx1; omega)) (q_raise (v2 := w19) (ow_shops hx1) r4 (show 0 ≤ x5 ∧ x5 < (uc σ (x1 + 8) (u1 (σ (x1 + 8)) (x5 * 5 + 0) w14)) (x1 + 7) 2 by rw [(congrFun (uc_ns rfl (by have := tw_b hx1; have := tw_b hx1; omega)) _)]; exact b13) (by decide) (Eq.trans (show wI w19 = wI ((σ (x1 + 8) (x5 * 5 + 1)) + x4) from e20) (congrArg (fun q => wI (q + x4)) (Eq.symm ((congrFun (uc_s _ _ _) _).trans (u1_n n17))))) r21 ?_)
          show wi (d + 2) 132 158 [.ref 53, .ref x1, .int (wI x2), .int (wI x3), .int (wI x4), .int (wI x5), .long (wJ x6), .retAddr 0, .long (wJ x8), .retAddr 0, .int (wI x10), .int (wI x11)] [] S (uc (uc σ (x1 + 8) (u1 (σ (x1 + 8)) (x5 * 5 + 0) w14)) (x1 + 8) (u1 ((uc σ (x1 + 8) (u1 (σ (x1 + 8)) (x5 * 5 + 0) w14)) (x1 + 8)) (x5 * 5 + 1) w19)) τ Q
          obtain ⟨b22, t⟩ := t
          refine wi_s (σ1 := uc σ (x1 + 8) (u1 (u1 (σ (x1 + 8)) (x5 * 5 + 0) w14) (x5 * 5 + 1) w19)) (wr_ (uc_s _ _ _) (uc_uc _ _ _ _)) (i5 c_132_158 rfl (i45 c_132_159 (lo (lyt_0 hx1) (by have := tw_b hx1; omega)) (lro (lrt_4 hx1)) (i3 c_132_162 rfl (i1 c_132_163 (i3 c_132_164 rfl (wi_ok (fun K23 => ?_)))))))
          obtain ⟨w24, e25, r26, t⟩ := t
          refine i80 (As := [.int (wI x2), .int (wI 1), .int (wI x4)]) (rest := []) c_132_166 mi_57 rfl rfl (Nat.le_of_ble_eq_true rfl) (Nat.le_of_ble_eq_true rfl) (lo (lyt_9 hx1) (by have := tw_b hx1; omega)) (q_raise (v2 := w24) (ow_homes hx1) r9 (show 0 ≤ x2 ∧ x2 < (uc σ (x1 + 8) (u1 (u1 (σ (x1 + 8)) (x5 * 5 + 0) w14) (x5 * 5 + 1) w19)) (x1 + 9) 2 by rw [(congrFun (uc_ns rfl (by have := tw_b hx1; have := tw_b hx1; omega)) _)]; exact b22) (by decide) (Eq.trans (show wI w24 = wI ((σ (x1 + 10) (x2 * 8 + 1)) + x4) from e25) (congrArg (fun q => wI (q + x4)) (Eq.symm (congrFun (uc_ns rfl (by have := tw_b hx1; have := tw_b hx1; omega)) _)))) r26 ?_)
          show wi (d + 2) 132 169 [.ref 53, .ref x1, .int (wI x2), .int (wI x3), .int (wI x4), .int (wI x5), .long (wJ x6), .retAddr 0, .long (wJ x8), .retAddr 0, .int (wI x10), .int (wI x11)] [] S (uc (uc σ (x1 + 8) (u1 (u1 (σ (x1 + 8)) (x5 * 5 + 0) w14) (x5 * 5 + 1) w19)) (x1 + 10) (u1 ((uc σ (x1 + 8) (u1 (u1 (σ (x1 + 8)) (x5 * 5 + 0) w14) (x5 * 5 + 1) w19)) (x1 + 10)) (x2 * 8 + 1) w24)) τ Q
          refine wi_s (σ1 := uc (uc σ (x1 + 8) (u1 (u1 (σ (x1 + 8)) (x5 * 5 + 0) w14) (x5 * 5 + 1) w19)) (x1 + 10) (u1 (σ (x1 + 10)) (x2 * 8 + 1) w24)) (wr_ (uc_ns rfl (by have := tw_b hx1; have := tw_b hx1; omega)) rfl) (i9 (L' := [.ref 53, .ref x1, .int (wI x2), .int (wI x3), .int (wI x4), .int (wI x5), .long (wJ x6), .retAddr 0, .long (wJ x8), .retAddr 0, .int (wI (x10 + 1)), .int (wI x11)]) c_132_169 rfl rfl (i9 (L' := [.ref 53, .ref x1, .int (wI x2), .int (wI x3), .int (wI x4), .int (wI x5), .long (wJ x6), .retAddr 0, .long (wJ x8), .retAddr 0, .int (wI (x10 + 1)), .int (wI (x11 + 1))]) c_132_172 rfl rfl (i38 c_132_175 rfl t)))
theorem q_132 {d : Nat} {S : zS} {σ τ : zI} {Q : zQ} {tn : Nat} {h : Int} {lk : Int} {pr : Int} {D0 : Int} {s : Int} {C0 : Int} {E0 : Int} {F0 : Int} {T0 : Int} {m0 : Int} (htn : tw tn) (p0 : 0 ≤ h ∧ h < σ (tn + 9) 2 ∧ σ (tn + 9) 2 ≤ 24) (p1 : σ (tn + 10) (h * 8 + 1) = D0 ∧ σ (tn + 10) (h * 8 + 7) = s) (p2 : 0 ≤ s ∧ s < σ (tn + 7) 2 ∧ σ (tn + 7) 2 ≤ 4) (p3 : (σ (tn + 8) (s * 5 + 0) = C0 ∧ σ (tn + 8) (s * 5 + 1) = E0) ∧ σ (tn + 8) (s * 5 + 2) = F0 ∧ σ (tn + 8) (s * 5 + 3) = T0) (p4 : (0 ≤ D0 ∧ D0 ≤ 500000) ∧ (-1000 ≤ C0 ∧ C0 ≤ 500000) ∧ (-5000000 ≤ E0 ∧ E0 ≤ 5000000) ∧ (0 ≤ T0 ∧ T0 ≤ 400) ∧ (0 ≤ lk ∧ lk ≤ 240) ∧ (1 ≤ pr ∧ pr ≤ 100000) ∧ 0 ≤ σ tn 8 ∧ σ tn 8 ≤ 399) (p5 : zB S) (p6 : (∀ w, w ≤ σ tn 8 → 0 ≤ eI S σ 4 w h ∧ eI S σ 4 w h ≤ 500000000)) (p7 : m0 = Int.tdiv (T0 * (eI S σ 4 (σ tn 8 - 3) h + eI S σ 4 (σ tn 8 - 2) h + eI S σ 4 (σ tn 8 - 1) h + eI S σ 4 (σ tn 8) h)) 400) (t : ∀ (σ1 : zI), TR_ σ σ1 tn h s C0 E0 D0 (wk_tr lk C0 D0 m0 pr F0 * pr) → Q (some (.int (wI (wk_tr lk C0 D0 m0 pr F0)))) S σ1 τ) : wc (d + 2) 132 [.ref 53, .ref tn, .int (wI h), .int (wI lk), .int (wI pr)] S σ τ Q := by
  have tb := tw_b htn
  have e7 : rt_ (σ (tn + 9) 2) (σ (tn + 10)) 8 7 h = s := by rw [rt_p ⟨p0.1, p0.2.1⟩]; exact p1.2
  have e3 : rt_ (σ (tn + 7) 2) (σ (tn + 8)) 5 3 s = T0 := by rw [rt_p ⟨p2.1, p2.2.1⟩]; exact p3.2.2
  have E1 := p6 (σ tn 8 - 3) (by omega)
  have E2 := p6 (σ tn 8 - 2) (by omega)
  have E3 := p6 (σ tn 8 - 1) (by omega)
  have E4 := p6 (σ tn 8) (by omega)
  have kb := wk_tr_b (lack := lk) (C := C0) (D := D0) (most := m0) (L := pr) (F := F0) (by omega) (by omega)
  have ki := fun i => wk_tr_i (lack := lk) (C := C0) (D := D0) (most := m0) (L := pr) (F := F0) (i := i) (by omega) (by omega)
  have M0 : 0 ≤ T0 * (eI S σ 4 (σ tn 8 - 3) h + eI S σ 4 (σ tn 8 - 2) h + eI S σ 4 (σ tn 8 - 1) h + eI S σ 4 (σ tn 8) h) := Int.mul_nonneg (by omega) (by omega)
  have M1 : T0 * (eI S σ 4 (σ tn 8 - 3) h + eI S σ 4 (σ tn 8 - 2) h + eI S σ 4 (σ tn 8 - 1) h + eI S σ 4 (σ tn 8) h) ≤ 400 * 2000000000 := Int.mul_le_mul (by omega) (by omega) (by omega) (by omega)
  have mb : 0 ≤ m0 ∧ m0 ≤ 2000000000 := by rw [p7, Int.tdiv_eq_ediv_of_nonneg M0]; omega
  generalize ek : wk_tr lk C0 D0 m0 pr F0 = K at *
  have loop : ∀ i, 0 ≤ i → i ≤ lk → ∀ (σ' : zI) (j : Int), (i ≤ K ∧ j = i) ∨ (K < i ∧ j = K) → TR_ σ σ' tn h s C0 E0 D0 (j * pr) → ∀ x6, wi (d + 2) 132 80 [.ref 53, .ref tn, .int (wI h), .int (wI lk), .int (wI pr), .int (wI s), .long (wJ x6), .retAddr 0, .long (wJ m0), .retAddr 0, .int (wI j), .int (wI i)] [] S σ' τ Q := by
    refine lp_up (fun i i0 i1 ih => ?_)
    intro σ' j hj R x6
    have jk : 0 ≤ j ∧ j ≤ K := by omega
    have jp0 : 0 ≤ j * pr := Int.mul_nonneg jk.1 (by omega)
    have jp1 : j * pr ≤ K * pr := Int.mul_le_mul_of_nonneg_right jk.2 (by omega)
    have jb : j * pr ≤ 500000 := by
      by_cases c : 0 < K
      · have := kb.2.1 c; omega
      · rw [show K = 0 by omega, Int.zero_mul] at jp1; omega
    obtain ⟨f, r1, ⟨r2, r3⟩, r4, r5⟩ := R
    have q := ki j jk
    have fin : j = K → Q (some (.int (wI j))) S σ' τ := fun e => by
      subst e
      exact t σ' ⟨f, r1, ⟨r2, r3⟩, r4, r5⟩
    have f7 : σ' (tn + 7) = σ (tn + 7) := f _ (by omega) (by omega)
    have f9 : σ' (tn + 9) = σ (tn + 9) := f _ (by omega) (by omega)
    have g2 : rt_ (σ (tn + 7) 2) (σ' (tn + 8)) 5 2 s = F0 := by
      rw [rt_p ⟨p2.1, p2.2.1⟩]
      show σ' (tn + 8) (s * 5 + 2) = F0
      rw [r1 _ (by omega) (by omega)]; exact p3.2.1
    have g0 : rt_ (σ (tn + 7) 2) (σ' (tn + 8)) 5 0 s = C0 - j * pr := by rw [rt_p ⟨p2.1, p2.2.1⟩]; exact r2
    have h1 : rt_ (σ (tn + 9) 2) (σ' (tn + 10)) 8 1 h = D0 + j * pr := by rw [rt_p ⟨p0.1, p0.2.1⟩]; exact r5
    refine u_132_80 htn ?_
    rw [f7, f9, g2, g0, h1, r2, r3, r5]
    refine ⟨by omega, by omega, ifI (fun e => fin (by omega)) (fun e => ⟨by omega, ifI (fun e2 => ⟨by omega, ifI (fun e3 => ?_) (fun e3 => ⟨by omega, by omega, by omega, ifI (fun e4 => ?_) (fun e4 => ?_)⟩)⟩) (fun e2 => fin ?_)⟩)⟩
    · exact ih (by omega) σ' j (by omega) ⟨f, r1, ⟨r2, r3⟩, r4, r5⟩ _
    · exact ih (by omega) σ' j (by omega) ⟨f, r1, ⟨r2, r3⟩, r4, r5⟩ _
    · have lt : j < K := by omega
      have ej : (j + 1) * pr = j * pr + pr := by rw [Int.add_mul, Int.one_mul]
      refine ⟨by omega, C0 - j * pr - pr, rfl, by omega, by omega, E0 + j * pr + pr, rfl, by omega, by omega, D0 + j * pr + pr, rfl, by omega, ih (by omega) _ (j + 1) (by omega) ⟨fun c c1 c2 => ?_, fun k k1 k2 => ?_, ⟨?_, ?_⟩, fun k k1 => ?_, ?_⟩ _⟩
      · rw [uc_n c2, uc_n c1]; exact f c c1 c2
      · rw [uc_n (by omega), uc_s, u1_n k2, u1_n k1]; exact r1 k k1 k2
      · rw [uc_n (by omega), uc_s, u1_n (by omega), u1_s]; omega
      · rw [uc_n (by omega), uc_s, u1_s]; omega
      · rw [uc_s, u1_n k1]; exact r4 k k1
      · rw [uc_s, u1_s]; omega
    · omega
  refine wc_of mi_132 rfl (u_132_0 htn ⟨by omega, ?_⟩)
  rw [e7]
  have st : ∀ w x6, -10 ≤ w → w ≤ σ tn 8 → wi (d + 2) 132 23 [.ref 53, .ref tn, .int (wI h), .int (wI lk), .int (wI pr), .int (wI s), .long (wJ (x6 + eI S σ 4 w h)), .retAddr 0, .int (wI (w + 1)), .retAddr 0, .retAddr 0, .retAddr 0] [] S σ τ Q → wi (d + 2) 132 23 [.ref 53, .ref tn, .int (wI h), .int (wI lk), .int (wI pr), .int (wI s), .long (wJ x6), .retAddr 0, .int (wI w), .retAddr 0, .retAddr 0, .retAddr 0] [] S σ τ Q := fun w x6 w0 w1 go => by
    have ew := p6 w w1
    refine u_132_23 htn ⟨by omega, ifI (fun e => by omega) (fun e => ⟨p5, by omega, by omega, go⟩)⟩
  refine st _ _ (by omega) (by omega) ?_
  rw [show σ tn 8 - 3 + 1 = σ tn 8 - 2 by omega]
  refine st _ _ (by omega) (by omega) ?_
  rw [show σ tn 8 - 2 + 1 = σ tn 8 - 1 by omega]
  refine st _ _ (by omega) (by omega) ?_
  rw [show σ tn 8 - 1 + 1 = σ tn 8 by omega]
  refine st _ _ (by omega) (by omega) ?_
  rw [show 0 + eI S σ 4 (σ tn 8 - 3) h = eI S σ 4 (σ tn 8 - 3) h by omega]
  refine u_132_23 htn ⟨by omega, ifI (fun e => ⟨by omega, ?_⟩) (fun e => by omega)⟩
  rw [e3]
  refine ⟨by omega, ?_⟩
  rw [← p7]
  exact loop 0 (by omega) (by omega) σ 0 (by omega) ⟨fun _ _ _ => rfl, fun _ _ _ => rfl, ⟨by omega, by omega⟩, fun _ _ => rfl, by omega⟩ _
