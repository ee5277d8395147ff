/-! ===== the class: what is put into a town (segments printed by wip/whole, contracts own work) ===== -/
-- method 91: MillTown$Town.addMill(IIII)I
theorem c_91_0 : pg_cd 91 0 = (5, 1, 0, 0, 0) := by decide +kernel
theorem c_91_1 : pg_cd 91 1 = (45, 8, 23, 2, 0) := by decide +kernel
theorem c_91_4 : pg_cd 91 4 = (80, 54, 52, 0, 0) := by decide +kernel
theorem c_91_7 : pg_cd 91 7 = (6, 2, 0, 5, 0) := by decide +kernel
theorem c_91_9 : pg_cd 91 9 = (5, 1, 0, 0, 0) := by decide +kernel
theorem c_91_10 : pg_cd 91 10 = (45, 8, 23, 2, 0) := by decide +kernel
theorem c_91_13 : pg_cd 91 13 = (3, 2, 0, 5, 0) := by decide +kernel
theorem c_91_15 : pg_cd 91 15 = (1, 1, 0, 0, 0) := by decide +kernel
theorem c_91_16 : pg_cd 91 16 = (3, 1, 0, 1, 0) := by decide +kernel
theorem c_91_17 : pg_cd 91 17 = (80, 56, 60, 0, 0) := by decide +kernel
theorem c_91_20 : pg_cd 91 20 = (5, 1, 0, 0, 0) := by decide +kernel
theorem c_91_21 : pg_cd 91 21 = (45, 8, 23, 2, 0) := by decide +kernel
theorem c_91_24 : pg_cd 91 24 = (3, 2, 0, 5, 0) := by decide +kernel
theorem c_91_26 : pg_cd 91 26 = (1, 2, 0, 0, 10) := by decide +kernel
theorem c_91_28 : pg_cd 91 28 = (3, 1, 0, 2, 0) := by decide +kernel
theorem c_91_29 : pg_cd 91 29 = (80, 56, 60, 0, 0) := by decide +kernel
theorem c_91_32 : pg_cd 91 32 = (5, 1, 0, 0, 0) := by decide +kernel
theorem c_91_33 : pg_cd 91 33 = (45, 8, 23, 2, 0) := by decide +kernel
theorem c_91_36 : pg_cd 91 36 = (3, 2, 0, 5, 0) := by decide +kernel
theorem c_91_38 : pg_cd 91 38 = (1, 1, 0, 0, 2) := by decide +kernel
theorem c_91_39 : pg_cd 91 39 = (3, 1, 0, 3, 0) := by decide +kernel
theorem c_91_40 : pg_cd 91 40 = (80, 56, 60, 0, 0) := by decide +kernel
theorem c_91_43 : pg_cd 91 43 = (5, 1, 0, 0, 0) := by decide +kernel
theorem c_91_44 : pg_cd 91 44 = (45, 8, 23, 2, 0) := by decide +kernel
theorem c_91_47 : pg_cd 91 47 = (3, 2, 0, 5, 0) := by decide +kernel
theorem c_91_49 : pg_cd 91 49 = (1, 2, 0, 0, 11) := by decide +kernel
theorem c_91_51 : pg_cd 91 51 = (3, 2, 0, 4, 0) := by decide +kernel
theorem c_91_53 : pg_cd 91 53 = (80, 56, 60, 0, 0) := by decide +kernel
theorem c_91_56 : pg_cd 91 56 = (5, 1, 0, 0, 0) := by decide +kernel
theorem c_91_57 : pg_cd 91 57 = (45, 8, 23, 2, 0) := by decide +kernel
theorem c_91_60 : pg_cd 91 60 = (3, 2, 0, 5, 0) := by decide +kernel
theorem c_91_62 : pg_cd 91 62 = (1, 2, 0, 0, 6) := by decide +kernel
theorem c_91_64 : pg_cd 91 64 = (1, 1, 0, 0, (-1)) := by decide +kernel
theorem c_91_65 : pg_cd 91 65 = (80, 56, 60, 0, 0) := by decide +kernel
theorem c_91_68 : pg_cd 91 68 = (5, 1, 0, 0, 0) := by decide +kernel
theorem c_91_69 : pg_cd 91 69 = (45, 8, 23, 2, 0) := by decide +kernel
theorem c_91_72 : pg_cd 91 72 = (3, 2, 0, 5, 0) := by decide +kernel
theorem c_91_74 : pg_cd 91 74 = (1, 2, 0, 0, 8) := by decide +kernel
theorem c_91_76 : pg_cd 91 76 = (1, 1, 0, 0, (-1)) := by decide +kernel
theorem c_91_77 : pg_cd 91 77 = (80, 56, 60, 0, 0) := by decide +kernel
theorem c_91_80 : pg_cd 91 80 = (3, 2, 0, 5, 0) := by decide +kernel
theorem c_91_82 : pg_cd 91 82 = (90, 0, 0, 0, 0) := by decide +kernel
theorem mi_91 : pg_mc 91 = 8 ∧ pg_na 91 = 4 ∧ pg_mx 91 = 6 := by decide +kernel
set_option maxRecDepth 20000 in
theorem u_91_0 {d : Nat} {S : zS} {σ τ : zI} {Q : zQ} {x0 : Nat} {x1 : Int} {x2 : Int} {x3 : Int} {x4 : Int} (hx0 : tw x0) (t : if σ (x0 + 5) 2 < 8 then ((0 ≤ σ (x0 + 5) 2 ∧ σ (x0 + 5) 2 < (u1 (σ (x0 + 5)) 2 ((σ (x0 + 5) 2) + 1) 2)) ∧ ∃ w4 : Int, wI w4 = wI x1 ∧ rg w4 ∧ ∃ w7 : Int, wI w7 = wI x2 ∧ rg w7 ∧ ∃ w10 : Int, wI w10 = wI x3 ∧ rg w10 ∧ ∃ w13 : Int, wI w13 = wI x4 ∧ rg w13 ∧ Q (some (.int (wI (σ (x0 + 5) 2)))) S (uc (uc σ (x0 + 6) (u1 (u1 (u1 (u1 (u1 (u1 (fl_ (σ (x0 + 6)) ((σ (x0 + 5) 2) * 13) ((σ (x0 + 5) 2) * 13 + 13) 0) ((σ (x0 + 5) 2) * 13 + 0) w4) ((σ (x0 + 5) 2) * 13 + 10) w7) ((σ (x0 + 5) 2) * 13 + 2) w10) ((σ (x0 + 5) 2) * 13 + 11) w13) ((σ (x0 + 5) 2) * 13 + 6) (-1)) ((σ (x0 + 5) 2) * 13 + 8) (-1))) (x0 + 5) (u1 (σ (x0 + 5)) 2 ((σ (x0 + 5) 2) + 1))) τ) else (Q (some (.int (wI (-1)))) S σ τ)) : wi (d + 3) 91 0 [.ref x0, .int (wI x1), .int (wI x2), .int (wI x3), .int (wI x4), .retAddr 0] [] S σ τ Q := by
  refine i5 c_91_0 rfl (i45 c_91_1 (lo (lyt_0 hx0) (by have := tw_b hx0; omega)) (lro (lrt_2 hx0)) (wi_ok (fun K1 => ?_)))
  by_cases ha2 : σ (x0 + 5) 2 < 8
  · have t := iT t ha2
    refine i80 (As := []) (rest := []) c_91_4 mi_54 rfl rfl (Nat.le_of_ble_eq_true rfl) (Nat.le_of_ble_eq_true rfl) (lo (lyt_5 hx0) (by have := tw_b hx0; omega)) (q_add (ow_mills hx0) (by have q : σ (x0 + 5) 2 = σ (x0 + 5) 2 := rfl; rw [q]; omega) ?_)
    show wi (d + 3) 91 7 [.ref x0, .int (wI x1), .int (wI x2), .int (wI x3), .int (wI x4), .retAddr 0] [.int (wI (σ (x0 + 5) 2))] S (uc (uc σ (x0 + 6) (fl_ (σ (x0 + 6)) ((σ (x0 + 5) 2) * 13) ((σ (x0 + 5) 2) * 13 + 13) 0)) (x0 + 5) (u1 (σ (x0 + 5)) 2 (σ (x0 + 5) 2 + 1))) τ Q
    obtain ⟨b3, t⟩ := t
    obtain ⟨w4, e5, r6, t⟩ := t
    refine i6 (L' := [.ref x0, .int (wI x1), .int (wI x2), .int (wI x3), .int (wI x4), .int (wI (σ (x0 + 5) 2))]) c_91_7 rfl (i5 c_91_9 rfl (i45 c_91_10 (lo (lyt_0 hx0) (by have := tw_b hx0; omega)) (lro (lrt_2 hx0)) (i3 c_91_13 rfl (i1 c_91_15 (i3 c_91_16 rfl ?_)))))
    refine i80 (As := [.int (wI (σ (x0 + 5) 2)), .int (wI 0), .int (wI x1)]) (rest := []) c_91_17 mi_56 rfl rfl (Nat.le_of_ble_eq_true rfl) (Nat.le_of_ble_eq_true rfl) (lo (lyt_5 hx0) (by have := tw_b hx0; omega)) (q_put (v2 := w4) (ow_mills hx0) (rge_ K1 rfl) (show 0 ≤ σ (x0 + 5) 2 ∧ σ (x0 + 5) 2 < (uc (uc σ (x0 + 6) (fl_ (σ (x0 + 6)) ((σ (x0 + 5) 2) * 13) ((σ (x0 + 5) 2) * 13 + 13) 0)) (x0 + 5) (u1 (σ (x0 + 5)) 2 ((σ (x0 + 5) 2) + 1))) (x0 + 5) 2 by rw [(congrFun (uc_s _ _ _) _)]; exact b3) (by decide) e5 r6 ?_)
    show wi (d + 3) 91 20 [.ref x0, .int (wI x1), .int (wI x2), .int (wI x3), .int (wI x4), .int (wI (σ (x0 + 5) 2))] [] S (uc (uc (uc σ (x0 + 6) (fl_ (σ (x0 + 6)) ((σ (x0 + 5) 2) * 13) ((σ (x0 + 5) 2) * 13 + 13) 0)) (x0 + 5) (u1 (σ (x0 + 5)) 2 ((σ (x0 + 5) 2) + 1))) (x0 + 6) (u1 ((uc (uc σ (x0 + 6) (fl_ (σ (x0 + 6)) ((σ (x0 + 5) 2) * 13) ((σ (x0 + 5) 2) * 13 + 13) 0)) (x0 + 5) (u1 (σ (x0 + 5)) 2 ((σ (x0 + 5) 2) + 1))) (x0 + 6)) ((σ (x0 + 5) 2) * 13 + 0) w4)) τ Q
    obtain ⟨w7, e8, r9, t⟩ := t
    refine wi_s (σ1 := uc (uc σ (x0 + 6) (u1 (fl_ (σ (x0 + 6)) ((σ (x0 + 5) 2) * 13) ((σ (x0 + 5) 2) * 13 + 13) 0) ((σ (x0 + 5) 2) * 13 + 0) w4)) (x0 + 5) (u1 (σ (x0 + 5)) 2 ((σ (x0 + 5) 2) + 1))) (wr_ (uc_ns (uc_s _ _ _) (by have := tw_b hx0; have := tw_b hx0; omega)) (uc_cm (uc_uc _ _ _ _) (by have := tw_b hx0; have := tw_b hx0; omega))) (i5 c_91_20 rfl (i45 c_91_21 (lo (lyt_0 hx0) (by have := tw_b hx0; omega)) (lro (lrt_2 hx0)) (i3 c_91_24 rfl (i1 c_91_26 (i3 c_91_28 rfl ?_)))))
    refine i80 (As := [.int (wI (σ (x0 + 5) 2)), .int (wI 10), .int (wI x2)]) (rest := []) c_91_29 mi_56 rfl rfl (Nat.le_of_ble_eq_true rfl) (Nat.le_of_ble_eq_true rfl) (lo (lyt_5 hx0) (by have := tw_b hx0; omega)) (q_put (v2 := w7) (ow_mills hx0) (rge_ K1 rfl) (show 0 ≤ σ (x0 + 5) 2 ∧ σ (x0 + 5) 2 < (uc (uc σ (x0 + 6) (u1 (fl_ (σ (x0 + 6)) ((σ (x0 + 5) 2) * 13) ((σ (x0 + 5) 2) * 13 + 13) 0) ((σ (x0 + 5) 2) * 13 + 0) w4)) (x0 + 5) (u1 (σ (x0 + 5)) 2 ((σ (x0 + 5) 2) + 1))) (x0 + 5) 2 by rw [(congrFun (uc_s _ _ _) _)]; exact b3) (by decide) e8 r9 ?_)
    show wi (d + 3) 91 32 [.ref x0, .int (wI x1), .int (wI x2), .int (wI x3), .int (wI x4), .int (wI (σ (x0 + 5) 2))] [] S (uc (uc (uc σ (x0 + 6) (u1 (fl_ (σ (x0 + 6)) ((σ (x0 + 5) 2) * 13) ((σ (x0 + 5) 2) * 13 + 13) 0) ((σ (x0 + 5) 2) * 13 + 0) w4)) (x0 + 5) (u1 (σ (x0 + 5)) 2 ((σ (x0 + 5) 2) + 1))) (x0 + 6) (u1 ((uc (uc σ (x0 + 6) (u1 (fl_ (σ (x0 + 6)) ((σ (x0 + 5) 2) * 13) ((σ (x0 + 5) 2) * 13 + 13) 0) ((σ (x0 + 5) 2) * 13 + 0) w4)) (x0 + 5) (u1 (σ (x0 + 5)) 2 ((σ (x0 + 5) 2) + 1))) (x0 + 6)) ((σ (x0 + 5) 2) * 13 + 10) w7)) τ Q
    obtain ⟨w10, e11, r12, t⟩ := t
    refine wi_s (σ1 := uc (uc σ (x0 + 6) (u1 (u1 (fl_ (σ (x0 + 6)) ((σ (x0 + 5) 2) * 13) ((σ (x0 + 5) 2) * 13 + 13) 0) ((σ (x0 + 5) 2) * 13 + 0) w4) ((σ (x0 + 5) 2) * 13 + 10) w7)) (x0 + 5) (u1 (σ (x0 + 5)) 2 ((σ (x0 + 5) 2) + 1))) (wr_ (uc_ns (uc_s _ _ _) (by have := tw_b hx0; have := tw_b hx0; omega)) (uc_cm (uc_uc _ _ _ _) (by have := tw_b hx0; have := tw_b hx0; omega))) (i5 c_91_32 rfl (i45 c_91_33 (lo (lyt_0 hx0) (by have := tw_b hx0; omega)) (lro (lrt_2 hx0)) (i3 c_91_36 rfl (i1 c_91_38 (i3 c_91_39 rfl ?_)))))
    refine i80 (As := [.int (wI (σ (x0 + 5) 2)), .int (wI 2), .int (wI x3)]) (rest := []) c_91_40 mi_56 rfl rfl (Nat.le_of_ble_eq_true rfl) (Nat.le_of_ble_eq_true rfl) (lo (lyt_5 hx0) (by have := tw_b hx0; omega)) (q_put (v2 := w10) (ow_mills hx0) (rge_ K1 rfl) (show 0 ≤ σ (x0 + 5) 2 ∧ σ (x0 + 5) 2 < (uc (uc σ (x0 + 6) (u1 (u1 (fl_ (σ (x0 + 6)) ((σ (x0 + 5) 2) * 13) ((σ (x0 + 5) 2) * 13 + 13) 0) ((σ (x0 + 5) 2) * 13 + 0) w4) ((σ (x0 + 5) 2) * 13 + 10) w7)) (x0 + 5) (u1 (σ (x0 + 5)) 2 ((σ (x0 + 5) 2) + 1))) (x0 + 5) 2 by rw [(congrFun (uc_s _ _ _) _)]; exact b3) (by decide) e11 r12 ?_)
    show wi (d + 3) 91 43 [.ref x0, .int (wI x1), .int (wI x2), .int (wI x3), .int (wI x4), .int (wI (σ (x0 + 5) 2))] [] S (uc (uc (uc σ (x0 + 6) (u1 (u1 (fl_ (σ (x0 + 6)) ((σ (x0 + 5) 2) * 13) ((σ (x0 + 5) 2) * 13 + 13) 0) ((σ (x0 + 5) 2) * 13 + 0) w4) ((σ (x0 + 5) 2) * 13 + 10) w7)) (x0 + 5) (u1 (σ (x0 + 5)) 2 ((σ (x0 + 5) 2) + 1))) (x0 + 6) (u1 ((uc (uc σ (x0 + 6) (u1 (u1 (fl_ (σ (x0 + 6)) ((σ (x0 + 5) 2) * 13) ((σ (x0 + 5) 2) * 13 + 13) 0) ((σ (x0 + 5) 2) * 13 + 0) w4) ((σ (x0 + 5) 2) * 13 + 10) w7)) (x0 + 5) (u1 (σ (x0 + 5)) 2 ((σ (x0 + 5) 2) + 1))) (x0 + 6)) ((σ (x0 + 5) 2) * 13 + 2) w10)) τ Q
    obtain ⟨w13, e14, r15, t⟩ := t
    refine wi_s (σ1 := uc (uc σ (x0 + 6) (u1 (u1 (u1 (fl_ (σ (x0 + 6)) ((σ (x0 + 5) 2) * 13) ((σ (x0 + 5) 2) * 13 + 13) 0) ((σ (x0 + 5) 2) * 13 + 0) w4) ((σ (x0 + 5) 2) * 13 + 10) w7) ((σ (x0 + 5) 2) * 13 + 2) w10)) (x0 + 5) (u1 (σ (x0 + 5)) 2 ((σ (x0 + 5) 2) + 1))) (wr_ (uc_ns (uc_s _ _ _) (by have := tw_b hx0; have := tw_b hx0; omega)) (uc_cm (uc_uc _ _ _ _) (by have := tw_b hx0; have := tw_b hx0; omega))) (i5 c_91_43 rfl (i45 c_91_44 (lo (lyt_0 hx0) (by have := tw_b hx0; omega)) (lro (lrt_2 hx0)) (i3 c_91_47 rfl (i1 c_91_49 (i3 c_91_51 rfl ?_)))))
    refine i80 (As := [.int (wI (σ (x0 + 5) 2)), .int (wI 11), .int (wI x4)]) (rest := []) c_91_53 mi_56 rfl rfl (Nat.le_of_ble_eq_true rfl) (Nat.le_of_ble_eq_true rfl) (lo (lyt_5 hx0) (by have := tw_b hx0; omega)) (q_put (v2 := w13) (ow_mills hx0) (rge_ K1 rfl) (show 0 ≤ σ (x0 + 5) 2 ∧ σ (x0 + 5) 2 < (uc (uc σ (x0 + 6) (u1 (u1 (u1 (fl_ (σ (x0 + 6)) ((σ (x0 + 5) 2) * 13) ((σ (x0 + 5) 2) * 13 + 13) 0) ((σ (x0 + 5) 2) * 13 + 0) w4) ((σ (x0 + 5) 2) * 13 + 10) w7) ((σ (x0 + 5) 2) * 13 + 2) w10)) (x0 + 5) (u1 (σ (x0 + 5)) 2 ((σ (x0 + 5) 2) + 1))) (x0 + 5) 2 by rw [(congrFun (uc_s _ _ _) _)]; exact b3) (by decide) e14 r15 ?_)
    show wi (d + 3) 91 56 [.ref x0, .int (wI x1), .int (wI x2), .int (wI x3), .int (wI x4), .int (wI (σ (x0 + 5) 2))] [] S (uc (uc (uc σ (x0 + 6) (u1 (u1 (u1 (fl_ (σ (x0 + 6)) ((σ (x0 + 5) 2) * 13) ((σ (x0 + 5) 2) * 13 + 13) 0) ((σ (x0 + 5) 2) * 13 + 0) w4) ((σ (x0 + 5) 2) * 13 + 10) w7) ((σ (x0 + 5) 2) * 13 + 2) w10)) (x0 + 5) (u1 (σ (x0 + 5)) 2 ((σ (x0 + 5) 2) + 1))) (x0 + 6) (u1 ((uc (uc σ (x0 + 6) (u1 (u1 (u1 (fl_ (σ (x0 + 6)) ((σ (x0 + 5) 2) * 13) ((σ (x0 + 5) 2) * 13 + 13) 0) ((σ (x0 + 5) 2) * 13 + 0) w4) ((σ (x0 + 5) 2) * 13 + 10) w7) ((σ (x0 + 5) 2) * 13 + 2) w10)) (x0 + 5) (u1 (σ (x0 + 5)) 2 ((σ (x0 + 5) 2) + 1))) (x0 + 6)) ((σ (x0 + 5) 2) * 13 + 11) w13)) τ Q
    refine wi_s (σ1 := uc (uc σ (x0 + 6) (u1 (u1 (u1 (u1 (fl_ (σ (x0 + 6)) ((σ (x0 + 5) 2) * 13) ((σ (x0 + 5) 2) * 13 + 13) 0) ((σ (x0 + 5) 2) * 13 + 0) w4) ((σ (x0 + 5) 2) * 13 + 10) w7) ((σ (x0 + 5) 2) * 13 + 2) w10) ((σ (x0 + 5) 2) * 13 + 11) w13)) (x0 + 5) (u1 (σ (x0 + 5)) 2 ((σ (x0 + 5) 2) + 1))) (wr_ (uc_ns (uc_s _ _ _) (by have := tw_b hx0; have := tw_b hx0; omega)) (uc_cm (uc_uc _ _ _ _) (by have := tw_b hx0; have := tw_b hx0; omega))) (i5 c_91_56 rfl (i45 c_91_57 (lo (lyt_0 hx0) (by have := tw_b hx0; omega)) (lro (lrt_2 hx0)) (i3 c_91_60 rfl (i1 c_91_62 (i1 c_91_64 ?_)))))
    refine i80 (As := [.int (wI (σ (x0 + 5) 2)), .int (wI 6), .int (wI (-1))]) (rest := []) c_91_65 mi_56 rfl rfl (Nat.le_of_ble_eq_true rfl) (Nat.le_of_ble_eq_true rfl) (lo (lyt_5 hx0) (by have := tw_b hx0; omega)) (q_put (v2 := -1) (ow_mills hx0) (rge_ K1 rfl) (show 0 ≤ σ (x0 + 5) 2 ∧ σ (x0 + 5) 2 < (uc (uc σ (x0 + 6) (u1 (u1 (u1 (u1 (fl_ (σ (x0 + 6)) ((σ (x0 + 5) 2) * 13) ((σ (x0 + 5) 2) * 13 + 13) 0) ((σ (x0 + 5) 2) * 13 + 0) w4) ((σ (x0 + 5) 2) * 13 + 10) w7) ((σ (x0 + 5) 2) * 13 + 2) w10) ((σ (x0 + 5) 2) * 13 + 11) w13)) (x0 + 5) (u1 (σ (x0 + 5)) 2 ((σ (x0 + 5) 2) + 1))) (x0 + 5) 2 by rw [(congrFun (uc_s _ _ _) _)]; exact b3) (by decide) rfl (by decide) ?_)
    show wi (d + 3) 91 68 [.ref x0, .int (wI x1), .int (wI x2), .int (wI x3), .int (wI x4), .int (wI (σ (x0 + 5) 2))] [] S (uc (uc (uc σ (x0 + 6) (u1 (u1 (u1 (u1 (fl_ (σ (x0 + 6)) ((σ (x0 + 5) 2) * 13) ((σ (x0 + 5) 2) * 13 + 13) 0) ((σ (x0 + 5) 2) * 13 + 0) w4) ((σ (x0 + 5) 2) * 13 + 10) w7) ((σ (x0 + 5) 2) * 13 + 2) w10) ((σ (x0 + 5) 2) * 13 + 11) w13)) (x0 + 5) (u1 (σ (x0 + 5)) 2 ((σ (x0 + 5) 2) + 1))) (x0 + 6) (u1 ((uc (uc σ (x0 + 6) (u1 (u1 (u1 (u1 (fl_ (σ (x0 + 6)) ((σ (x0 + 5) 2) * 13) ((σ (x0 + 5) 2) * 13 + 13) 0) ((σ (x0 + 5) 2) * 13 + 0) w4) ((σ (x0 + 5) 2) * 13 + 10) w7) ((σ (x0 + 5) 2) * 13 + 2) w10) ((σ (x0 + 5) 2) * 13 + 11) w13)) (x0 + 5) (u1 (σ (x0 + 5)) 2 ((σ (x0 + 5) 2) + 1))) (x0 + 6)) ((σ (x0 + 5) 2) * 13 + 6) (-1))) τ Q
    refine wi_s (σ1 := uc (uc σ (x0 + 6) (u1 (u1 (u1 (u1 (u1 (fl_ (σ (x0 + 6)) ((σ (x0 + 5) 2) * 13) ((σ (x0 + 5) 2) * 13 + 13) 0) ((σ (x0 + 5) 2) * 13 + 0) w4) ((σ (x0 + 5) 2) * 13 + 10) w7) ((σ (x0 + 5) 2) * 13 + 2) w10) ((σ (x0 + 5) 2) * 13 + 11) w13) ((σ (x0 + 5) 2) * 13 + 6) (-1))) (x0 + 5) (u1 (σ (x0 + 5)) 2 ((σ (x0 + 5) 2) + 1))) (wr_ (uc_ns (uc_s _ _ _) (by have := tw_b hx0; have := tw_b hx0; omega)) (uc_cm (uc_uc _ _ _ _) (by have := tw_b hx0; have := tw_b hx0; omega))) (i5 c_91_68 rfl (i45 c_91_69 (lo (lyt_0 hx0) (by have := tw_b hx0; omega)) (lro (lrt_2 hx0)) (i3 c_91_72 rfl (i1 c_91_74 (i1 c_91_76 ?_)))))
    refine i80 (As := [.int (wI (σ (x0 + 5) 2)), .int (wI 8), .int (wI (-1))]) (rest := []) c_91_77 mi_56 rfl rfl (Nat.le_of_ble_eq_true rfl) (Nat.le_of_ble_eq_true rfl) (lo (lyt_5 hx0) (by have := tw_b hx0; omega)) (q_put (v2 := -1) (ow_mills hx0) (rge_ K1 rfl) (show 0 ≤ σ (x0 + 5) 2 ∧ σ (x0 + 5) 2 < (uc (uc σ (x0 + 6) (u1 (u1 (u1 (u1 (u1 (fl_ (σ (x0 + 6)) ((σ (x0 + 5) 2) * 13) ((σ (x0 + 5) 2) * 13 + 13) 0) ((σ (x0 + 5) 2) * 13 + 0) w4) ((σ (x0 + 5) 2) * 13 + 10) w7) ((σ (x0 + 5) 2) * 13 + 2) w10) ((σ (x0 + 5) 2) * 13 + 11) w13) ((σ (x0 + 5) 2) * 13 + 6) (-1))) (x0 + 5) (u1 (σ (x0 + 5)) 2 ((σ (x0 + 5) 2) + 1))) (x0 + 5) 2 by rw [(congrFun (uc_s _ _ _) _)]; exact b3) (by decide) rfl (by decide) ?_)
    show wi (d + 3) 91 80 [.ref x0, .int (wI x1), .int (wI x2), .int (wI x3), .int (wI x4), .int (wI (σ (x0 + 5) 2))] [] S (uc (uc (uc σ (x0 + 6) (u1 (u1 (u1 (u1 (u1 (fl_ (σ (x0 + 6)) ((σ (x0 + 5) 2) * 13) ((σ (x0 + 5) 2) * 13 + 13) 0) ((σ (x0 + 5) 2) * 13 + 0) w4) ((σ (x0 + 5) 2) * 13 + 10) w7) ((σ (x0 + 5) 2) * 13 + 2) w10) ((σ (x0 + 5) 2) * 13 + 11) w13) ((σ (x0 + 5) 2) * 13 + 6) (-1))) (x0 + 5) (u1 (σ (x0 + 5)) 2 ((σ (x0 + 5) 2) + 1))) (x0 + 6) (u1 ((uc (uc σ (x0 + 6) (u1 (u1 (u1 (u1 (u1 (fl_ (σ (x0 + 6)) ((σ (x0 + 5) 2) * 13) ((σ (x0 + 5) 2) * 13 + 13) 0) ((σ (x0 + 5) 2) * 13 + 0) w4) ((σ (x0 + 5) 2) * 13 + 10) w7) ((σ (x0 + 5) 2) * 13 + 2) w10) ((σ (x0 + 5) 2) * 13 + 11) w13) ((σ (x0 + 5) 2) * 13 + 6) (-1))) (x0 + 5) (u1 (σ (x0 + 5)) 2 ((σ (x0 + 5) 2) + 1))) (x0 + 6)) ((σ (x0 + 5) 2) * 13 + 8) (-1))) τ Q
    refine wi_s (σ1 := uc (uc σ (x0 + 6) (u1 (u1 (u1 (u1 (u1 (u1 (fl_ (σ (x0 + 6)) ((σ (x0 + 5) 2) * 13) ((σ (x0 + 5) 2) * 13 + 13) 0) ((σ (x0 + 5) 2) * 13 + 0) w4) ((σ (x0 + 5) 2) * 13 + 10) w7) ((σ (x0 + 5) 2) * 13 + 2) w10) ((σ (x0 + 5) 2) * 13 + 11) w13) ((σ (x0 + 5) 2) * 13 + 6) (-1)) ((σ (x0 + 5) 2) * 13 + 8) (-1))) (x0 + 5) (u1 (σ (x0 + 5)) 2 ((σ (x0 + 5) 2) + 1))) (wr_ (uc_ns (uc_s _ _ _) (by have := tw_b hx0; have := tw_b hx0; omega)) (uc_cm (uc_uc _ _ _ _) (by have := tw_b hx0; have := tw_b hx0; omega))) (i3 c_91_80 rfl ?_)
    exact i90 c_91_82 t
  · have t := iF t ha2
    refine i80 (As := []) (rest := []) c_91_4 mi_54 rfl rfl (Nat.le_of_ble_eq_true rfl) (Nat.le_of_ble_eq_true rfl) (lo (lyt_5 hx0) (by have := tw_b hx0; omega)) (q_addN (ow_mills hx0) (by have q : σ (x0 + 5) 2 = σ (x0 + 5) 2 := rfl; rw [q]; omega) ?_)
    show wi (d + 3) 91 7 [.ref x0, .int (wI x1), .int (wI x2), .int (wI x3), .int (wI x4), .retAddr 0] [.int (wI (-1))] S σ τ Q
    refine i6 (L' := [.ref x0, .int (wI x1), .int (wI x2), .int (wI x3), .int (wI x4), .int (wI (-1))]) c_91_7 rfl (i5 c_91_9 rfl (i45 c_91_10 (lo (lyt_0 hx0) (by have := tw_b hx0; omega)) (lro (lrt_2 hx0)) (i3 c_91_13 rfl (i1 c_91_15 (i3 c_91_16 rfl ?_)))))
    refine i80 (As := [.int (wI (-1)), .int (wI 0), .int (wI x1)]) (rest := []) c_91_17 mi_56 rfl rfl (Nat.le_of_ble_eq_true rfl) (Nat.le_of_ble_eq_true rfl) (lo (lyt_5 hx0) (by have := tw_b hx0; omega)) (q_putN (ow_mills hx0) (by decide) (by omega) ?_)
    show wi (d + 3) 91 20 [.ref x0, .int (wI x1), .int (wI x2), .int (wI x3), .int (wI x4), .int (wI (-1))] [] S σ τ Q
    refine i5 c_91_20 rfl (i45 c_91_21 (lo (lyt_0 hx0) (by have := tw_b hx0; omega)) (lro (lrt_2 hx0)) (i3 c_91_24 rfl (i1 c_91_26 (i3 c_91_28 rfl ?_))))
    refine i80 (As := [.int (wI (-1)), .int (wI 10), .int (wI x2)]) (rest := []) c_91_29 mi_56 rfl rfl (Nat.le_of_ble_eq_true rfl) (Nat.le_of_ble_eq_true rfl) (lo (lyt_5 hx0) (by have := tw_b hx0; omega)) (q_putN (ow_mills hx0) (by decide) (by omega) ?_)
    show wi (d + 3) 91 32 [.ref x0, .int (wI x1), .int (wI x2), .int (wI x3), .int (wI x4), .int (wI (-1))] [] S σ τ Q
    refine i5 c_91_32 rfl (i45 c_91_33 (lo (lyt_0 hx0) (by have := tw_b hx0; omega)) (lro (lrt_2 hx0)) (i3 c_91_36 rfl (i1 c_91_38 (i3 c_91_39 rfl ?_))))
    refine i80 (As := [.int (wI (-1)), .int (wI 2), .int (wI x3)]) (rest := []) c_91_40 mi_56 rfl rfl (Nat.le_of_ble_eq_true rfl) (Nat.le_of_ble_eq_true rfl) (lo (lyt_5 hx0) (by have := tw_b hx0; omega)) (q_putN (ow_mills hx0) (by decide) (by omega) ?_)
    show wi (d + 3) 91 43 [.ref x0, .int (wI x1), .int (wI x2), .int (wI x3), .int (wI x4), .int (wI (-1))] [] S σ τ Q
    refine i5 c_91_43 rfl (i45 c_91_44 (lo (lyt_0 hx0) (by have := tw_b hx0; omega)) (lro (lrt_2 hx0)) (i3 c_91_47 rfl (i1 c_91_49 (i3 c_91_51 rfl ?_))))
    refine i80 (As := [.int (wI (-1)), .int (wI 11), .int (wI x4)]) (rest := []) c_91_53 mi_56 rfl rfl (Nat.le_of_ble_eq_true rfl) (Nat.le_of_ble_eq_true rfl) (lo (lyt_5 hx0) (by have := tw_b hx0; omega)) (q_putN (ow_mills hx0) (by decide) (by omega) ?_)
    show wi (d + 3) 91 56 [.ref x0, .int (wI x1), .int (wI x2), .int (wI x3), .int (wI x4), .int (wI (-1))] [] S σ τ Q
    refine i5 c_91_56 rfl (i45 c_91_57 (lo (lyt_0 hx0) (by have := tw_b hx0; omega)) (lro (lrt_2 hx0)) (i3 c_91_60 rfl (i1 c_91_62 (i1 c_91_64 ?_))))
    refine i80 (As := [.int (wI (-1)), .int (wI 6), .int (wI (-1))]) (rest := []) c_91_65 mi_56 rfl rfl (Nat.le_of_ble_eq_true rfl) (Nat.le_of_ble_eq_true rfl) (lo (lyt_5 hx0) (by have := tw_b hx0; omega)) (q_putN (ow_mills hx0) (by decide) (by omega) ?_)
    show wi (d + 3) 91 68 [.ref x0, .int (wI x1), .int (wI x2), .int (wI x3), .int (wI x4), .int (wI (-1))] [] S σ τ Q
    refine i5 c_91_68 rfl (i45 c_91_69 (lo (lyt_0 hx0) (by have := tw_b hx0; omega)) (lro (lrt_2 hx0)) (i3 c_91_72 rfl (i1 c_91_74 (i1 c_91_76 ?_))))
    refine i80 (As := [.int (wI (-1)), .int (wI 8), .int (wI (-1))]) (rest := []) c_91_77 mi_56 rfl rfl (Nat.le_of_ble_eq_true rfl) (Nat.le_of_ble_eq_true rfl) (lo (lyt_5 hx0) (by have := tw_b hx0; omega)) (q_putN (ow_mills hx0) (by decide) (by omega) ?_)
    show wi (d + 3) 91 80 [.ref x0, .int (wI x1), .int (wI x2), .int (wI x3), .int (wI x4), .int (wI (-1))] [] S σ τ Q
    refine i3 c_91_80 rfl ?_
    exact i90 c_91_82 t
theorem q_91 {d : Nat} {S : zS} {σ τ : zI} {Q : zQ} {tn : Nat} {looms : Int} {speed : Int} {coins : Int} {least : Int} (htn : tw tn) (p0 : rg looms) (p1 : rg speed) (p2 : rg coins) (p3 : rg least) (t : Q (some (.int (wI (if σ (tn + 5) 2 < 8 then σ (tn + 5) 2 else -1)))) S (uc (uc σ (tn + 6) (if σ (tn + 5) 2 < 8 then u1 (u1 (u1 (u1 (u1 (u1 (fl_ (σ (tn + 6)) (σ (tn + 5) 2 * 13) (σ (tn + 5) 2 * 13 + 13) 0) (σ (tn + 5) 2 * 13 + 0) (looms)) (σ (tn + 5) 2 * 13 + 10) (speed)) (σ (tn + 5) 2 * 13 + 2) (coins)) (σ (tn + 5) 2 * 13 + 11) (least)) (σ (tn + 5) 2 * 13 + 6) (-1)) (σ (tn + 5) 2 * 13 + 8) (-1) else σ (tn + 6))) (tn + 5) (if σ (tn + 5) 2 < 8 then u1 (σ (tn + 5)) 2 (σ (tn + 5) 2 + 1) else σ (tn + 5))) τ) : wc (d + 3) 91 [.ref tn, .int (wI looms), .int (wI speed), .int (wI coins), .int (wI least)] S σ τ Q := by
  refine wc_ok fun K => ?_
  have hc := (ow_mills htn K).2.2.2.2.2.1
  refine wc_of mi_91 rfl (u_91_0 htn ?_)
  by_cases c : σ (tn + 5) 2 < 8
  · rw [if_pos c, if_pos c, if_pos c] at t
    rw [if_pos c, u1_s]
    repeat' (first | exact t | refine ⟨_, rfl, by omega, ?_⟩ | refine ⟨by assumption, ?_⟩ | refine ⟨by omega, ?_⟩ | refine ifI (fun _ => ?_) (fun _ => ?_) | (exfalso; omega))
  · rw [if_neg c, if_neg c, if_neg c, uc_id, uc_id] at t
    rw [if_neg c]
    exact t
-- method 92: MillTown$Town.addShop(III)I
theorem c_92_0 : pg_cd 92 0 = (5, 1, 0, 0, 0) := by decide +kernel
theorem c_92_1 : pg_cd 92 1 = (45, 8, 26, 3, 0) := by decide +kernel
theorem c_92_4 : pg_cd 92 4 = (80, 54, 52, 0, 0) := by decide +kernel
theorem c_92_7 : pg_cd 92 7 = (6, 2, 0, 4, 0) := by decide +kernel
theorem c_92_9 : pg_cd 92 9 = (5, 1, 0, 0, 0) := by decide +kernel
theorem c_92_10 : pg_cd 92 10 = (45, 8, 26, 3, 0) := by decide +kernel
theorem c_92_13 : pg_cd 92 13 = (3, 2, 0, 4, 0) := by decide +kernel
theorem c_92_15 : pg_cd 92 15 = (1, 1, 0, 0, 0) := by decide +kernel
theorem c_92_16 : pg_cd 92 16 = (3, 1, 0, 1, 0) := by decide +kernel
theorem c_92_17 : pg_cd 92 17 = (80, 56, 60, 0, 0) := by decide +kernel
theorem c_92_20 : pg_cd 92 20 = (5, 1, 0, 0, 0) := by decide +kernel
theorem c_92_21 : pg_cd 92 21 = (45, 8, 26, 3, 0) := by decide +kernel
theorem c_92_24 : pg_cd 92 24 = (3, 2, 0, 4, 0) := by decide +kernel
theorem c_92_26 : pg_cd 92 26 = (1, 1, 0, 0, 3) := by decide +kernel
theorem c_92_27 : pg_cd 92 27 = (3, 1, 0, 2, 0) := by decide +kernel
theorem c_92_28 : pg_cd 92 28 = (80, 56, 60, 0, 0) := by decide +kernel
theorem c_92_31 : pg_cd 92 31 = (5, 1, 0, 0, 0) := by decide +kernel
theorem c_92_32 : pg_cd 92 32 = (45, 8, 26, 3, 0) := by decide +kernel
theorem c_92_35 : pg_cd 92 35 = (3, 2, 0, 4, 0) := by decide +kernel
theorem c_92_37 : pg_cd 92 37 = (1, 1, 0, 0, 4) := by decide +kernel
theorem c_92_38 : pg_cd 92 38 = (3, 1, 0, 3, 0) := by decide +kernel
theorem c_92_39 : pg_cd 92 39 = (80, 56, 60, 0, 0) := by decide +kernel
theorem c_92_42 : pg_cd 92 42 = (3, 2, 0, 4, 0) := by decide +kernel
theorem c_92_44 : pg_cd 92 44 = (90, 0, 0, 0, 0) := by decide +kernel
theorem mi_92 : pg_mc 92 = 8 ∧ pg_na 92 = 3 ∧ pg_mx 92 = 5 := by decide +kernel
set_option maxRecDepth 20000 in
theorem u_92_0 {d : Nat} {S : zS} {σ τ : zI} {Q : zQ} {x0 : Nat} {x1 : Int} {x2 : Int} {x3 : Int} (hx0 : tw x0) (t : if σ (x0 + 7) 2 < 4 then ((0 ≤ σ (x0 + 7) 2 ∧ σ (x0 + 7) 2 < (u1 (σ (x0 + 7)) 2 ((σ (x0 + 7) 2) + 1) 2)) ∧ ∃ w4 : Int, wI w4 = wI x1 ∧ rg w4 ∧ ∃ w7 : Int, wI w7 = wI x2 ∧ rg w7 ∧ ∃ w10 : Int, wI w10 = wI x3 ∧ rg w10 ∧ Q (some (.int (wI (σ (x0 + 7) 2)))) S (uc (uc σ (x0 + 8) (u1 (u1 (u1 (fl_ (σ (x0 + 8)) ((σ (x0 + 7) 2) * 5) ((σ (x0 + 7) 2) * 5 + 5) 0) ((σ (x0 + 7) 2) * 5 + 0) w4) ((σ (x0 + 7) 2) * 5 + 3) w7) ((σ (x0 + 7) 2) * 5 + 4) w10)) (x0 + 7) (u1 (σ (x0 + 7)) 2 ((σ (x0 + 7) 2) + 1))) τ) else (Q (some (.int (wI (-1)))) S σ τ)) : wi (d + 3) 92 0 [.ref x0, .int (wI x1), .int (wI x2), .int (wI x3), .retAddr 0] [] S σ τ Q := by
  refine i5 c_92_0 rfl (i45 c_92_1 (lo (lyt_0 hx0) (by have := tw_b hx0; omega)) (lro (lrt_3 hx0)) (wi_ok (fun K1 => ?_)))
  by_cases ha2 : σ (x0 + 7) 2 < 4
  · have t := iT t ha2
    refine i80 (As := []) (rest := []) c_92_4 mi_54 rfl rfl (Nat.le_of_ble_eq_true rfl) (Nat.le_of_ble_eq_true rfl) (lo (lyt_7 hx0) (by have := tw_b hx0; omega)) (q_add (ow_shops hx0) (by have q : σ (x0 + 7) 2 = σ (x0 + 7) 2 := rfl; rw [q]; omega) ?_)
    show wi (d + 3) 92 7 [.ref x0, .int (wI x1), .int (wI x2), .int (wI x3), .retAddr 0] [.int (wI (σ (x0 + 7) 2))] S (uc (uc σ (x0 + 8) (fl_ (σ (x0 + 8)) ((σ (x0 + 7) 2) * 5) ((σ (x0 + 7) 2) * 5 + 5) 0)) (x0 + 7) (u1 (σ (x0 + 7)) 2 (σ (x0 + 7) 2 + 1))) τ Q
    obtain ⟨b3, t⟩ := t
    obtain ⟨w4, e5, r6, t⟩ := t
    refine i6 (L' := [.ref x0, .int (wI x1), .int (wI x2), .int (wI x3), .int (wI (σ (x0 + 7) 2))]) c_92_7 rfl (i5 c_92_9 rfl (i45 c_92_10 (lo (lyt_0 hx0) (by have := tw_b hx0; omega)) (lro (lrt_3 hx0)) (i3 c_92_13 rfl (i1 c_92_15 (i3 c_92_16 rfl ?_)))))
    refine i80 (As := [.int (wI (σ (x0 + 7) 2)), .int (wI 0), .int (wI x1)]) (rest := []) c_92_17 mi_56 rfl rfl (Nat.le_of_ble_eq_true rfl) (Nat.le_of_ble_eq_true rfl) (lo (lyt_7 hx0) (by have := tw_b hx0; omega)) (q_put (v2 := w4) (ow_shops hx0) (rge_ K1 rfl) (show 0 ≤ σ (x0 + 7) 2 ∧ σ (x0 + 7) 2 < (uc (uc σ (x0 + 8) (fl_ (σ (x0 + 8)) ((σ (x0 + 7) 2) * 5) ((σ (x0 + 7) 2) * 5 + 5) 0)) (x0 + 7) (u1 (σ (x0 + 7)) 2 ((σ (x0 + 7) 2) + 1))) (x0 + 7) 2 by rw [(congrFun (uc_s _ _ _) _)]; exact b3) (by decide) e5 r6 ?_)
    show wi (d + 3) 92 20 [.ref x0, .int (wI x1), .int (wI x2), .int (wI x3), .int (wI (σ (x0 + 7) 2))] [] S (uc (uc (uc σ (x0 + 8) (fl_ (σ (x0 + 8)) ((σ (x0 + 7) 2) * 5) ((σ (x0 + 7) 2) * 5 + 5) 0)) (x0 + 7) (u1 (σ (x0 + 7)) 2 ((σ (x0 + 7) 2) + 1))) (x0 + 8) (u1 ((uc (uc σ (x0 + 8) (fl_ (σ (x0 + 8)) ((σ (x0 + 7) 2) * 5) ((σ (x0 + 7) 2) * 5 + 5) 0)) (x0 + 7) (u1 (σ (x0 + 7)) 2 ((σ (x0 + 7) 2) + 1))) (x0 + 8)) ((σ (x0 + 7) 2) * 5 + 0) w4)) τ Q
    obtain ⟨w7, e8, r9, t⟩ := t
    refine wi_s (σ1 := uc (uc σ (x0 + 8) (u1 (fl_ (σ (x0 + 8)) ((σ (x0 + 7) 2) * 5) ((σ (x0 + 7) 2) * 5 + 5) 0) ((σ (x0 + 7) 2) * 5 + 0) w4)) (x0 + 7) (u1 (σ (x0 + 7)) 2 ((σ (x0 + 7) 2) + 1))) (wr_ (uc_ns (uc_s _ _ _) (by have := tw_b hx0; have := tw_b hx0; omega)) (uc_cm (uc_uc _ _ _ _) (by have := tw_b hx0; have := tw_b hx0; omega))) (i5 c_92_20 rfl (i45 c_92_21 (lo (lyt_0 hx0) (by have := tw_b hx0; omega)) (lro (lrt_3 hx0)) (i3 c_92_24 rfl (i1 c_92_26 (i3 c_92_27 rfl ?_)))))
    refine i80 (As := [.int (wI (σ (x0 + 7) 2)), .int (wI 3), .int (wI x2)]) (rest := []) c_92_28 mi_56 rfl rfl (Nat.le_of_ble_eq_true rfl) (Nat.le_of_ble_eq_true rfl) (lo (lyt_7 hx0) (by have := tw_b hx0; omega)) (q_put (v2 := w7) (ow_shops hx0) (rge_ K1 rfl) (show 0 ≤ σ (x0 + 7) 2 ∧ σ (x0 + 7) 2 < (uc (uc σ (x0 + 8) (u1 (fl_ (σ (x0 + 8)) ((σ (x0 + 7) 2) * 5) ((σ (x0 + 7) 2) * 5 + 5) 0) ((σ (x0 + 7) 2) * 5 + 0) w4)) (x0 + 7) (u1 (σ (x0 + 7)) 2 ((σ (x0 + 7) 2) + 1))) (x0 + 7) 2 by rw [(congrFun (uc_s _ _ _) _)]; exact b3) (by decide) e8 r9 ?_)
    show wi (d + 3) 92 31 [.ref x0, .int (wI x1), .int (wI x2), .int (wI x3), .int (wI (σ (x0 + 7) 2))] [] S (uc (uc (uc σ (x0 + 8) (u1 (fl_ (σ (x0 + 8)) ((σ (x0 + 7) 2) * 5) ((σ (x0 + 7) 2) * 5 + 5) 0) ((σ (x0 + 7) 2) * 5 + 0) w4)) (x0 + 7) (u1 (σ (x0 + 7)) 2 ((σ (x0 + 7) 2) + 1))) (x0 + 8) (u1 ((uc (uc σ (x0 + 8) (u1 (fl_ (σ (x0 + 8)) ((σ (x0 + 7) 2) * 5) ((σ (x0 + 7) 2) * 5 + 5) 0) ((σ (x0 + 7) 2) * 5 + 0) w4)) (x0 + 7) (u1 (σ (x0 + 7)) 2 ((σ (x0 + 7) 2) + 1))) (x0 + 8)) ((σ (x0 + 7) 2) * 5 + 3) w7)) τ Q
    obtain ⟨w10, e11, r12, t⟩ := t
    refine wi_s (σ1 := uc (uc σ (x0 + 8) (u1 (u1 (fl_ (σ (x0 + 8)) ((σ (x0 + 7) 2) * 5) ((σ (x0 + 7) 2) * 5 + 5) 0) ((σ (x0 + 7) 2) * 5 + 0) w4) ((σ (x0 + 7) 2) * 5 + 3) w7)) (x0 + 7) (u1 (σ (x0 + 7)) 2 ((σ (x0 + 7) 2) + 1))) (wr_ (uc_ns (uc_s _ _ _) (by have := tw_b hx0; have := tw_b hx0; omega)) (uc_cm (uc_uc _ _ _ _) (by have := tw_b hx0; have := tw_b hx0; omega))) (i5 c_92_31 rfl (i45 c_92_32 (lo (lyt_0 hx0) (by have := tw_b hx0; omega)) (lro (lrt_3 hx0)) (i3 c_92_35 rfl (i1 c_92_37 (i3 c_92_38 rfl ?_)))))
    refine i80 (As := [.int (wI (σ (x0 + 7) 2)), .int (wI 4), .int (wI x3)]) (rest := []) c_92_39 mi_56 rfl rfl (Nat.le_of_ble_eq_true rfl) (Nat.le_of_ble_eq_true rfl) (lo (lyt_7 hx0) (by have := tw_b hx0; omega)) (q_put (v2 := w10) (ow_shops hx0) (rge_ K1 rfl) (show 0 ≤ σ (x0 + 7) 2 ∧ σ (x0 + 7) 2 < (uc (uc σ (x0 + 8) (u1 (u1 (fl_ (σ (x0 + 8)) ((σ (x0 + 7) 2) * 5) ((σ (x0 + 7) 2) * 5 + 5) 0) ((σ (x0 + 7) 2) * 5 + 0) w4) ((σ (x0 + 7) 2) * 5 + 3) w7)) (x0 + 7) (u1 (σ (x0 + 7)) 2 ((σ (x0 + 7) 2) + 1))) (x0 + 7) 2 by rw [(congrFun (uc_s _ _ _) _)]; exact b3) (by decide) e11 r12 ?_)
    show wi (d + 3) 92 42 [.ref x0, .int (wI x1), .int (wI x2), .int (wI x3), .int (wI (σ (x0 + 7) 2))] [] S (uc (uc (uc σ (x0 + 8) (u1 (u1 (fl_ (σ (x0 + 8)) ((σ (x0 + 7) 2) * 5) ((σ (x0 + 7) 2) * 5 + 5) 0) ((σ (x0 + 7) 2) * 5 + 0) w4) ((σ (x0 + 7) 2) * 5 + 3) w7)) (x0 + 7) (u1 (σ (x0 + 7)) 2 ((σ (x0 + 7) 2) + 1))) (x0 + 8) (u1 ((uc (uc σ (x0 + 8) (u1 (u1 (fl_ (σ (x0 + 8)) ((σ (x0 + 7) 2) * 5) ((σ (x0 + 7) 2) * 5 + 5) 0) ((σ (x0 + 7) 2) * 5 + 0) w4) ((σ (x0 + 7) 2) * 5 + 3) w7)) (x0 + 7) (u1 (σ (x0 + 7)) 2 ((σ (x0 + 7) 2) + 1))) (x0 + 8)) ((σ (x0 + 7) 2) * 5 + 4) w10)) τ Q
    refine wi_s (σ1 := uc (uc σ (x0 + 8) (u1 (u1 (u1 (fl_ (σ (x0 + 8)) ((σ (x0 + 7) 2) * 5) ((σ (x0 + 7) 2) * 5 + 5) 0) ((σ (x0 + 7) 2) * 5 + 0) w4) ((σ (x0 + 7) 2) * 5 + 3) w7) ((σ (x0 + 7) 2) * 5 + 4) w10)) (x0 + 7) (u1 (σ (x0 + 7)) 2 ((σ (x0 + 7) 2) + 1))) (wr_ (uc_ns (uc_s _ _ _) (by have := tw_b hx0; have := tw_b hx0; omega)) (uc_cm (uc_uc _ _ _ _) (by have := tw_b hx0; have := tw_b hx0; omega))) (i3 c_92_42 rfl ?_)
    exact i90 c_92_44 t
  · have t := iF t ha2
    refine i80 (As := []) (rest := []) c_92_4 mi_54 rfl rfl (Nat.le_of_ble_eq_true rfl) (Nat.le_of_ble_eq_true rfl) (lo (lyt_7 hx0) (by have := tw_b hx0; omega)) (q_addN (ow_shops hx0) (by have q : σ (x0 + 7) 2 = σ (x0 + 7) 2 := rfl; rw [q]; omega) ?_)
    show wi (d + 3) 92 7 [.ref x0, .int (wI x1), .int (wI x2), .int (wI x3), .retAddr 0] [.int (wI (-1))] S σ τ Q
    refine i6 (L' := [.ref x0, .int (wI x1), .int (wI x2), .int (wI x3), .int (wI (-1))]) c_92_7 rfl (i5 c_92_9 rfl (i45 c_92_10 (lo (lyt_0 hx0) (by have := tw_b hx0; omega)) (lro (lrt_3 hx0)) (i3 c_92_13 rfl (i1 c_92_15 (i3 c_92_16 rfl ?_)))))
    refine i80 (As := [.int (wI (-1)), .int (wI 0), .int (wI x1)]) (rest := []) c_92_17 mi_56 rfl rfl (Nat.le_of_ble_eq_true rfl) (Nat.le_of_ble_eq_true rfl) (lo (lyt_7 hx0) (by have := tw_b hx0; omega)) (q_putN (ow_shops hx0) (by decide) (by omega) ?_)
    show wi (d + 3) 92 20 [.ref x0, .int (wI x1), .int (wI x2), .int (wI x3), .int (wI (-1))] [] S σ τ Q
    refine i5 c_92_20 rfl (i45 c_92_21 (lo (lyt_0 hx0) (by have := tw_b hx0; omega)) (lro (lrt_3 hx0)) (i3 c_92_24 rfl (i1 c_92_26 (i3 c_92_27 rfl ?_))))
    refine i80 (As := [.int (wI (-1)), .int (wI 3), .int (wI x2)]) (rest := []) c_92_28 mi_56 rfl rfl (Nat.le_of_ble_eq_true rfl) (Nat.le_of_ble_eq_true rfl) (lo (lyt_7 hx0) (by have := tw_b hx0; omega)) (q_putN (ow_shops hx0) (by decide) (by omega) ?_)
    show wi (d + 3) 92 31 [.ref x0, .int (wI x1), .int (wI x2), .int (wI x3), .int (wI (-1))] [] S σ τ Q
    refine i5 c_92_31 rfl (i45 c_92_32 (lo (lyt_0 hx0) (by have := tw_b hx0; omega)) (lro (lrt_3 hx0)) (i3 c_92_35 rfl (i1 c_92_37 (i3 c_92_38 rfl ?_))))
    refine i80 (As := [.int (wI (-1)), .int (wI 4), .int (wI x3)]) (rest := []) c_92_39 mi_56 rfl rfl (Nat.le_of_ble_eq_true rfl) (Nat.le_of_ble_eq_true rfl) (lo (lyt_7 hx0) (by have := tw_b hx0; omega)) (q_putN (ow_shops hx0) (by decide) (by omega) ?_)
    show wi (d + 3) 92 42 [.ref x0, .int (wI x1), .int (wI x2), .int (wI x3), .int (wI (-1))] [] S σ τ Q
    refine i3 c_92_42 rfl ?_
    exact i90 c_92_44 t
theorem q_92 {d : Nat} {S : zS} {σ τ : zI} {Q : zQ} {tn : Nat} {coins : Int} {trust : Int} {rent : Int} (htn : tw tn) (p0 : rg coins) (p1 : rg trust) (p2 : rg rent) (t : Q (some (.int (wI (if σ (tn + 7) 2 < 4 then σ (tn + 7) 2 else -1)))) S (uc (uc σ (tn + 8) (if σ (tn + 7) 2 < 4 then u1 (u1 (u1 (fl_ (σ (tn + 8)) (σ (tn + 7) 2 * 5) (σ (tn + 7) 2 * 5 + 5) 0) (σ (tn + 7) 2 * 5 + 0) (coins)) (σ (tn + 7) 2 * 5 + 3) (trust)) (σ (tn + 7) 2 * 5 + 4) (rent) else σ (tn + 8))) (tn + 7) (if σ (tn + 7) 2 < 4 then u1 (σ (tn + 7)) 2 (σ (tn + 7) 2 + 1) else σ (tn + 7))) τ) : wc (d + 3) 92 [.ref tn, .int (wI coins), .int (wI trust), .int (wI rent)] S σ τ Q := by
  refine wc_ok fun K => ?_
  have hc := (ow_shops htn K).2.2.2.2.2.1
  refine wc_of mi_92 rfl (u_92_0 htn ?_)
  by_cases c : σ (tn + 7) 2 < 4
  · rw [if_pos c, if_pos c, if_pos c] at t
    rw [if_pos c, u1_s]
    repeat' (first | exact t | refine ⟨_, rfl, by omega, ?_⟩ | refine ⟨by assumption, ?_⟩ | refine ⟨by omega, ?_⟩ | refine ifI (fun _ => ?_) (fun _ => ?_) | (exfalso; omega))
  · rw [if_neg c, if_neg c, if_neg c, uc_id, uc_id] at t
    rw [if_neg c]
    exact t
-- method 93: MillTown$Town.addHome(II)I
theorem c_93_0 : pg_cd 93 0 = (5, 1, 0, 0, 0) := by decide +kernel
theorem c_93_1 : pg_cd 93 1 = (45, 8, 29, 4, 0) := by decide +kernel
theorem c_93_4 : pg_cd 93 4 = (80, 54, 52, 0, 0) := by decide +kernel
theorem c_93_7 : pg_cd 93 7 = (6, 1, 0, 3, 0) := by decide +kernel
theorem c_93_8 : pg_cd 93 8 = (5, 1, 0, 0, 0) := by decide +kernel
theorem c_93_9 : pg_cd 93 9 = (45, 8, 29, 4, 0) := by decide +kernel
theorem c_93_12 : pg_cd 93 12 = (3, 1, 0, 3, 0) := by decide +kernel
theorem c_93_13 : pg_cd 93 13 = (1, 2, 0, 0, 7) := by decide +kernel
theorem c_93_15 : pg_cd 93 15 = (3, 1, 0, 1, 0) := by decide +kernel
theorem c_93_16 : pg_cd 93 16 = (80, 56, 60, 0, 0) := by decide +kernel
theorem c_93_19 : pg_cd 93 19 = (5, 1, 0, 0, 0) := by decide +kernel
theorem c_93_20 : pg_cd 93 20 = (45, 8, 29, 4, 0) := by decide +kernel
theorem c_93_23 : pg_cd 93 23 = (3, 1, 0, 3, 0) := by decide +kernel
theorem c_93_24 : pg_cd 93 24 = (1, 1, 0, 0, 0) := by decide +kernel
theorem c_93_25 : pg_cd 93 25 = (3, 1, 0, 2, 0) := by decide +kernel
theorem c_93_26 : pg_cd 93 26 = (80, 56, 60, 0, 0) := by decide +kernel
theorem c_93_29 : pg_cd 93 29 = (3, 1, 0, 3, 0) := by decide +kernel
theorem c_93_30 : pg_cd 93 30 = (90, 0, 0, 0, 0) := by decide +kernel
theorem mi_93 : pg_mc 93 = 8 ∧ pg_na 93 = 2 ∧ pg_mx 93 = 4 := by decide +kernel
set_option maxRecDepth 20000 in
theorem u_93_0 {d : Nat} {S : zS} {σ τ : zI} {Q : zQ} {x0 : Nat} {x1 : Int} {x2 : Int} (hx0 : tw x0) (t : if σ (x0 + 9) 2 < 24 then ((0 ≤ σ (x0 + 9) 2 ∧ σ (x0 + 9) 2 < (u1 (σ (x0 + 9)) 2 ((σ (x0 + 9) 2) + 1) 2)) ∧ ∃ w4 : Int, wI w4 = wI x1 ∧ rg w4 ∧ ∃ w7 : Int, wI w7 = wI x2 ∧ rg w7 ∧ Q (some (.int (wI (σ (x0 + 9) 2)))) S (uc (uc σ (x0 + 10) (u1 (u1 (fl_ (σ (x0 + 10)) ((σ (x0 + 9) 2) * 8) ((σ (x0 + 9) 2) * 8 + 8) 0) ((σ (x0 + 9) 2) * 8 + 7) w4) ((σ (x0 + 9) 2) * 8 + 0) w7)) (x0 + 9) (u1 (σ (x0 + 9)) 2 ((σ (x0 + 9) 2) + 1))) τ) else (Q (some (.int (wI (-1)))) S σ τ)) : wi (d + 3) 93 0 [.ref x0, .int (wI x1), .int (wI x2), .retAddr 0] [] S σ τ Q := by
  refine i5 c_93_0 rfl (i45 c_93_1 (lo (lyt_0 hx0) (by have := tw_b hx0; omega)) (lro (lrt_4 hx0)) (wi_ok (fun K1 => ?_)))
  by_cases ha2 : σ (x0 + 9) 2 < 24
  · have t := iT t ha2
    refine i80 (As := []) (rest := []) c_93_4 mi_54 rfl rfl (Nat.le_of_ble_eq_true rfl) (Nat.le_of_ble_eq_true rfl) (lo (lyt_9 hx0) (by have := tw_b hx0; omega)) (q_add (ow_homes hx0) (by have q : σ (x0 + 9) 2 = σ (x0 + 9) 2 := rfl; rw [q]; omega) ?_)
    show wi (d + 3) 93 7 [.ref x0, .int (wI x1), .int (wI x2), .retAddr 0] [.int (wI (σ (x0 + 9) 2))] S (uc (uc σ (x0 + 10) (fl_ (σ (x0 + 10)) ((σ (x0 + 9) 2) * 8) ((σ (x0 + 9) 2) * 8 + 8) 0)) (x0 + 9) (u1 (σ (x0 + 9)) 2 (σ (x0 + 9) 2 + 1))) τ Q
    obtain ⟨b3, t⟩ := t
    obtain ⟨w4, e5, r6, t⟩ := t
    refine i6 (L' := [.ref x0, .int (wI x1), .int (wI x2), .int (wI (σ (x0 + 9) 2))]) c_93_7 rfl (i5 c_93_8 rfl (i45 c_93_9 (lo (lyt_0 hx0) (by have := tw_b hx0; omega)) (lro (lrt_4 hx0)) (i3 c_93_12 rfl (i1 c_93_13 (i3 c_93_15 rfl ?_)))))
    refine i80 (As := [.int (wI (σ (x0 + 9) 2)), .int (wI 7), .int (wI x1)]) (rest := []) c_93_16 mi_56 rfl rfl (Nat.le_of_ble_eq_true rfl) (Nat.le_of_ble_eq_true rfl) (lo (lyt_9 hx0) (by have := tw_b hx0; omega)) (q_put (v2 := w4) (ow_homes hx0) (rge_ K1 rfl) (show 0 ≤ σ (x0 + 9) 2 ∧ σ (x0 + 9) 2 < (uc (uc σ (x0 + 10) (fl_ (σ (x0 + 10)) ((σ (x0 + 9) 2) * 8) ((σ (x0 + 9) 2) * 8 + 8) 0)) (x0 + 9) (u1 (σ (x0 + 9)) 2 ((σ (x0 + 9) 2) + 1))) (x0 + 9) 2 by rw [(congrFun (uc_s _ _ _) _)]; exact b3) (by decide) e5 r6 ?_)
    show wi (d + 3) 93 19 [.ref x0, .int (wI x1), .int (wI x2), .int (wI (σ (x0 + 9) 2))] [] S (uc (uc (uc σ (x0 + 10) (fl_ (σ (x0 + 10)) ((σ (x0 + 9) 2) * 8) ((σ (x0 + 9) 2) * 8 + 8) 0)) (x0 + 9) (u1 (σ (x0 + 9)) 2 ((σ (x0 + 9) 2) + 1))) (x0 + 10) (u1 ((uc (uc σ (x0 + 10) (fl_ (σ (x0 + 10)) ((σ (x0 + 9) 2) * 8) ((σ (x0 + 9) 2) * 8 + 8) 0)) (x0 + 9) (u1 (σ (x0 + 9)) 2 ((σ (x0 + 9) 2) + 1))) (x0 + 10)) ((σ (x0 + 9) 2) * 8 + 7) w4)) τ Q
    obtain ⟨w7, e8, r9, t⟩ := t
    refine wi_s (σ1 := uc (uc σ (x0 + 10) (u1 (fl_ (σ (x0 + 10)) ((σ (x0 + 9) 2) * 8) ((σ (x0 + 9) 2) * 8 + 8) 0) ((σ (x0 + 9) 2) * 8 + 7) w4)) (x0 + 9) (u1 (σ (x0 + 9)) 2 ((σ (x0 + 9) 2) + 1))) (wr_ (uc_ns (uc_s _ _ _) (by have := tw_b hx0; have := tw_b hx0; omega)) (uc_cm (uc_uc _ _ _ _) (by have := tw_b hx0; have := tw_b hx0; omega))) (i5 c_93_19 rfl (i45 c_93_20 (lo (lyt_0 hx0) (by have := tw_b hx0; omega)) (lro (lrt_4 hx0)) (i3 c_93_23 rfl (i1 c_93_24 (i3 c_93_25 rfl ?_)))))
    refine i80 (As := [.int (wI (σ (x0 + 9) 2)), .int (wI 0), .int (wI x2)]) (rest := []) c_93_26 mi_56 rfl rfl (Nat.le_of_ble_eq_true rfl) (Nat.le_of_ble_eq_true rfl) (lo (lyt_9 hx0) (by have := tw_b hx0; omega)) (q_put (v2 := w7) (ow_homes hx0) (rge_ K1 rfl) (show 0 ≤ σ (x0 + 9) 2 ∧ σ (x0 + 9) 2 < (uc (uc σ (x0 + 10) (u1 (fl_ (σ (x0 + 10)) ((σ (x0 + 9) 2) * 8) ((σ (x0 + 9) 2) * 8 + 8) 0) ((σ (x0 + 9) 2) * 8 + 7) w4)) (x0 + 9) (u1 (σ (x0 + 9)) 2 ((σ (x0 + 9) 2) + 1))) (x0 + 9) 2 by rw [(congrFun (uc_s _ _ _) _)]; exact b3) (by decide) e8 r9 ?_)
    show wi (d + 3) 93 29 [.ref x0, .int (wI x1), .int (wI x2), .int (wI (σ (x0 + 9) 2))] [] S (uc (uc (uc σ (x0 + 10) (u1 (fl_ (σ (x0 + 10)) ((σ (x0 + 9) 2) * 8) ((σ (x0 + 9) 2) * 8 + 8) 0) ((σ (x0 + 9) 2) * 8 + 7) w4)) (x0 + 9) (u1 (σ (x0 + 9)) 2 ((σ (x0 + 9) 2) + 1))) (x0 + 10) (u1 ((uc (uc σ (x0 + 10) (u1 (fl_ (σ (x0 + 10)) ((σ (x0 + 9) 2) * 8) ((σ (x0 + 9) 2) * 8 + 8) 0) ((σ (x0 + 9) 2) * 8 + 7) w4)) (x0 + 9) (u1 (σ (x0 + 9)) 2 ((σ (x0 + 9) 2) + 1))) (x0 + 10)) ((σ (x0 + 9) 2) * 8 + 0) w7)) τ Q
    refine wi_s (σ1 := uc (uc σ (x0 + 10) (u1 (u1 (fl_ (σ (x0 + 10)) ((σ (x0 + 9) 2) * 8) ((σ (x0 + 9) 2) * 8 + 8) 0) ((σ (x0 + 9) 2) * 8 + 7) w4) ((σ (x0 + 9) 2) * 8 + 0) w7)) (x0 + 9) (u1 (σ (x0 + 9)) 2 ((σ (x0 + 9) 2) + 1))) (wr_ (uc_ns (uc_s _ _ _) (by have := tw_b hx0; have := tw_b hx0; omega)) (uc_cm (uc_uc _ _ _ _) (by have := tw_b hx0; have := tw_b hx0; omega))) (i3 c_93_29 rfl ?_)
    exact i90 c_93_30 t
  · have t := iF t ha2
    refine i80 (As := []) (rest := []) c_93_4 mi_54 rfl rfl (Nat.le_of_ble_eq_true rfl) (Nat.le_of_ble_eq_true rfl) (lo (lyt_9 hx0) (by have := tw_b hx0; omega)) (q_addN (ow_homes hx0) (by have q : σ (x0 + 9) 2 = σ (x0 + 9) 2 := rfl; rw [q]; omega) ?_)
    show wi (d + 3) 93 7 [.ref x0, .int (wI x1), .int (wI x2), .retAddr 0] [.int (wI (-1))] S σ τ Q
    refine i6 (L' := [.ref x0, .int (wI x1), .int (wI x2), .int (wI (-1))]) c_93_7 rfl (i5 c_93_8 rfl (i45 c_93_9 (lo (lyt_0 hx0) (by have := tw_b hx0; omega)) (lro (lrt_4 hx0)) (i3 c_93_12 rfl (i1 c_93_13 (i3 c_93_15 rfl ?_)))))
    refine i80 (As := [.int (wI (-1)), .int (wI 7), .int (wI x1)]) (rest := []) c_93_16 mi_56 rfl rfl (Nat.le_of_ble_eq_true rfl) (Nat.le_of_ble_eq_true rfl) (lo (lyt_9 hx0) (by have := tw_b hx0; omega)) (q_putN (ow_homes hx0) (by decide) (by omega) ?_)
    show wi (d + 3) 93 19 [.ref x0, .int (wI x1), .int (wI x2), .int (wI (-1))] [] S σ τ Q
    refine i5 c_93_19 rfl (i45 c_93_20 (lo (lyt_0 hx0) (by have := tw_b hx0; omega)) (lro (lrt_4 hx0)) (i3 c_93_23 rfl (i1 c_93_24 (i3 c_93_25 rfl ?_))))
    refine i80 (As := [.int (wI (-1)), .int (wI 0), .int (wI x2)]) (rest := []) c_93_26 mi_56 rfl rfl (Nat.le_of_ble_eq_true rfl) (Nat.le_of_ble_eq_true rfl) (lo (lyt_9 hx0) (by have := tw_b hx0; omega)) (q_putN (ow_homes hx0) (by decide) (by omega) ?_)
    show wi (d + 3) 93 29 [.ref x0, .int (wI x1), .int (wI x2), .int (wI (-1))] [] S σ τ Q
    refine i3 c_93_29 rfl ?_
    exact i90 c_93_30 t
theorem q_93 {d : Nat} {S : zS} {σ τ : zI} {Q : zQ} {tn : Nat} {shop : Int} {coins : Int} (htn : tw tn) (p0 : rg shop) (p1 : rg coins) (t : Q (some (.int (wI (if σ (tn + 9) 2 < 24 then σ (tn + 9) 2 else -1)))) S (uc (uc σ (tn + 10) (if σ (tn + 9) 2 < 24 then u1 (u1 (fl_ (σ (tn + 10)) (σ (tn + 9) 2 * 8) (σ (tn + 9) 2 * 8 + 8) 0) (σ (tn + 9) 2 * 8 + 7) (shop)) (σ (tn + 9) 2 * 8 + 0) (coins) else σ (tn + 10))) (tn + 9) (if σ (tn + 9) 2 < 24 then u1 (σ (tn + 9)) 2 (σ (tn + 9) 2 + 1) else σ (tn + 9))) τ) : wc (d + 3) 93 [.ref tn, .int (wI shop), .int (wI coins)] S σ τ Q := by
  refine wc_ok fun K => ?_
  have hc := (ow_homes htn K).2.2.2.2.2.1
  refine wc_of mi_93 rfl (u_93_0 htn ?_)
  by_cases c : σ (tn + 9) 2 < 24
  · rw [if_pos c, if_pos c, if_pos c] at t
    rw [if_pos c, u1_s]
    repeat' (first | exact t | refine ⟨_, rfl, by omega, ?_⟩ | refine ⟨by assumption, ?_⟩ | refine ⟨by omega, ?_⟩ | refine ifI (fun _ => ?_) (fun _ => ?_) | (exfalso; omega))
  · rw [if_neg c, if_neg c, if_neg c, uc_id, uc_id] at t
    rw [if_neg c]
    exact t
-- method 95: MillTown$Town.addForce(IIII)I
theorem c_95_0 : pg_cd 95 0 = (5, 1, 0, 0, 0) := by decide +kernel
theorem c_95_1 : pg_cd 95 1 = (45, 8, 38, 7, 0) := by decide +kernel
theorem c_95_4 : pg_cd 95 4 = (80, 54, 52, 0, 0) := by decide +kernel
theorem c_95_7 : pg_cd 95 7 = (6, 2, 0, 5, 0) := by decide +kernel
theorem c_95_9 : pg_cd 95 9 = (5, 1, 0, 0, 0) := by decide +kernel
theorem c_95_10 : pg_cd 95 10 = (45, 8, 38, 7, 0) := by decide +kernel
theorem c_95_13 : pg_cd 95 13 = (3, 2, 0, 5, 0) := by decide +kernel
theorem c_95_15 : pg_cd 95 15 = (1, 1, 0, 0, 0) := by decide +kernel
theorem c_95_16 : pg_cd 95 16 = (3, 1, 0, 1, 0) := by decide +kernel
theorem c_95_17 : pg_cd 95 17 = (80, 56, 60, 0, 0) := by decide +kernel
theorem c_95_20 : pg_cd 95 20 = (5, 1, 0, 0, 0) := by decide +kernel
theorem c_95_21 : pg_cd 95 21 = (45, 8, 38, 7, 0) := by decide +kernel
theorem c_95_24 : pg_cd 95 24 = (3, 2, 0, 5, 0) := by decide +kernel
theorem c_95_26 : pg_cd 95 26 = (1, 1, 0, 0, 1) := by decide +kernel
theorem c_95_27 : pg_cd 95 27 = (3, 1, 0, 2, 0) := by decide +kernel
theorem c_95_28 : pg_cd 95 28 = (80, 56, 60, 0, 0) := by decide +kernel
theorem c_95_31 : pg_cd 95 31 = (5, 1, 0, 0, 0) := by decide +kernel
theorem c_95_32 : pg_cd 95 32 = (45, 8, 38, 7, 0) := by decide +kernel
theorem c_95_35 : pg_cd 95 35 = (3, 2, 0, 5, 0) := by decide +kernel
theorem c_95_37 : pg_cd 95 37 = (1, 1, 0, 0, 2) := by decide +kernel
theorem c_95_38 : pg_cd 95 38 = (3, 1, 0, 3, 0) := by decide +kernel
theorem c_95_39 : pg_cd 95 39 = (80, 56, 60, 0, 0) := by decide +kernel
theorem c_95_42 : pg_cd 95 42 = (5, 1, 0, 0, 0) := by decide +kernel
theorem c_95_43 : pg_cd 95 43 = (45, 8, 38, 7, 0) := by decide +kernel
theorem c_95_46 : pg_cd 95 46 = (3, 2, 0, 5, 0) := by decide +kernel
theorem c_95_48 : pg_cd 95 48 = (1, 1, 0, 0, 3) := by decide +kernel
theorem c_95_49 : pg_cd 95 49 = (3, 2, 0, 4, 0) := by decide +kernel
theorem c_95_51 : pg_cd 95 51 = (80, 56, 60, 0, 0) := by decide +kernel
theorem c_95_54 : pg_cd 95 54 = (5, 1, 0, 0, 0) := by decide +kernel
theorem c_95_55 : pg_cd 95 55 = (45, 8, 38, 7, 0) := by decide +kernel
theorem c_95_58 : pg_cd 95 58 = (3, 2, 0, 5, 0) := by decide +kernel
theorem c_95_60 : pg_cd 95 60 = (1, 1, 0, 0, 4) := by decide +kernel
theorem c_95_61 : pg_cd 95 61 = (5, 1, 0, 0, 0) := by decide +kernel
theorem c_95_62 : pg_cd 95 62 = (43, 8, 68, 8, 0) := by decide +kernel
theorem c_95_65 : pg_cd 95 65 = (80, 56, 60, 0, 0) := by decide +kernel
theorem c_95_68 : pg_cd 95 68 = (3, 2, 0, 5, 0) := by decide +kernel
theorem c_95_70 : pg_cd 95 70 = (90, 0, 0, 0, 0) := by decide +kernel
theorem mi_95 : pg_mc 95 = 8 ∧ pg_na 95 = 4 ∧ pg_mx 95 = 6 := by decide +kernel
set_option maxRecDepth 20000 in
theorem u_95_0 {d : Nat} {S : zS} {σ τ : zI} {Q : zQ} {x0 : Nat} {x1 : Int} {x2 : Int} {x3 : Int} {x4 : Int} (hx0 : tw x0) (t : if σ (x0 + 15) 2 < 61 then ((0 ≤ σ (x0 + 15) 2 ∧ σ (x0 + 15) 2 < (u1 (σ (x0 + 15)) 2 ((σ (x0 + 15) 2) + 1) 2)) ∧ ∃ w4 : Int, wI w4 = wI x1 ∧ rg w4 ∧ ∃ w7 : Int, wI w7 = wI x2 ∧ rg w7 ∧ ∃ w10 : Int, wI w10 = wI x3 ∧ rg w10 ∧ ∃ w13 : Int, wI w13 = wI x4 ∧ rg w13 ∧ Q (some (.int (wI (σ (x0 + 15) 2)))) S (uc (uc σ (x0 + 16) (u1 (u1 (u1 (u1 (u1 (fl_ (σ (x0 + 16)) ((σ (x0 + 15) 2) * 5) ((σ (x0 + 15) 2) * 5 + 5) 0) ((σ (x0 + 15) 2) * 5 + 0) w4) ((σ (x0 + 15) 2) * 5 + 1) w7) ((σ (x0 + 15) 2) * 5 + 2) w10) ((σ (x0 + 15) 2) * 5 + 3) w13) ((σ (x0 + 15) 2) * 5 + 4) (σ x0 8))) (x0 + 15) (u1 (σ (x0 + 15)) 2 ((σ (x0 + 15) 2) + 1))) τ) else (Q (some (.int (wI (-1)))) S σ τ)) : wi (d + 3) 95 0 [.ref x0, .int (wI x1), .int (wI x2), .int (wI x3), .int (wI x4), .retAddr 0] [] S σ τ Q := by
  refine i5 c_95_0 rfl (i45 c_95_1 (lo (lyt_0 hx0) (by have := tw_b hx0; omega)) (lro (lrt_7 hx0)) (wi_ok (fun K1 => ?_)))
  by_cases ha2 : σ (x0 + 15) 2 < 61
  · have t := iT t ha2
    refine i80 (As := []) (rest := []) c_95_4 mi_54 rfl rfl (Nat.le_of_ble_eq_true rfl) (Nat.le_of_ble_eq_true rfl) (lo (lyt_15 hx0) (by have := tw_b hx0; omega)) (q_add (ow_forces hx0) (by have q : σ (x0 + 15) 2 = σ (x0 + 15) 2 := rfl; rw [q]; omega) ?_)
    show wi (d + 3) 95 7 [.ref x0, .int (wI x1), .int (wI x2), .int (wI x3), .int (wI x4), .retAddr 0] [.int (wI (σ (x0 + 15) 2))] S (uc (uc σ (x0 + 16) (fl_ (σ (x0 + 16)) ((σ (x0 + 15) 2) * 5) ((σ (x0 + 15) 2) * 5 + 5) 0)) (x0 + 15) (u1 (σ (x0 + 15)) 2 (σ (x0 + 15) 2 + 1))) τ Q
    obtain ⟨b3, t⟩ := t
    obtain ⟨w4, e5, r6, t⟩ := t
    refine i6 (L' := [.ref x0, .int (wI x1), .int (wI x2), .int (wI x3), .int (wI x4), .int (wI (σ (x0 + 15) 2))]) c_95_7 rfl (i5 c_95_9 rfl (i45 c_95_10 (lo (lyt_0 hx0) (by have := tw_b hx0; omega)) (lro (lrt_7 hx0)) (i3 c_95_13 rfl (i1 c_95_15 (i3 c_95_16 rfl ?_)))))
    refine i80 (As := [.int (wI (σ (x0 + 15) 2)), .int (wI 0), .int (wI x1)]) (rest := []) c_95_17 mi_56 rfl rfl (Nat.le_of_ble_eq_true rfl) (Nat.le_of_ble_eq_true rfl) (lo (lyt_15 hx0) (by have := tw_b hx0; omega)) (q_put (v2 := w4) (ow_forces hx0) (rge_ K1 rfl) (show 0 ≤ σ (x0 + 15) 2 ∧ σ (x0 + 15) 2 < (uc (uc σ (x0 + 16) (fl_ (σ (x0 + 16)) ((σ (x0 + 15) 2) * 5) ((σ (x0 + 15) 2) * 5 + 5) 0)) (x0 + 15) (u1 (σ (x0 + 15)) 2 ((σ (x0 + 15) 2) + 1))) (x0 + 15) 2 by rw [(congrFun (uc_s _ _ _) _)]; exact b3) (by decide) e5 r6 ?_)
    show wi (d + 3) 95 20 [.ref x0, .int (wI x1), .int (wI x2), .int (wI x3), .int (wI x4), .int (wI (σ (x0 + 15) 2))] [] S (uc (uc (uc σ (x0 + 16) (fl_ (σ (x0 + 16)) ((σ (x0 + 15) 2) * 5) ((σ (x0 + 15) 2) * 5 + 5) 0)) (x0 + 15) (u1 (σ (x0 + 15)) 2 ((σ (x0 + 15) 2) + 1))) (x0 + 16) (u1 ((uc (uc σ (x0 + 16) (fl_ (σ (x0 + 16)) ((σ (x0 + 15) 2) * 5) ((σ (x0 + 15) 2) * 5 + 5) 0)) (x0 + 15) (u1 (σ (x0 + 15)) 2 ((σ (x0 + 15) 2) + 1))) (x0 + 16)) ((σ (x0 + 15) 2) * 5 + 0) w4)) τ Q
    obtain ⟨w7, e8, r9, t⟩ := t
    refine wi_s (σ1 := uc (uc σ (x0 + 16) (u1 (fl_ (σ (x0 + 16)) ((σ (x0 + 15) 2) * 5) ((σ (x0 + 15) 2) * 5 + 5) 0) ((σ (x0 + 15) 2) * 5 + 0) w4)) (x0 + 15) (u1 (σ (x0 + 15)) 2 ((σ (x0 + 15) 2) + 1))) (wr_ (uc_ns (uc_s _ _ _) (by have := tw_b hx0; have := tw_b hx0; omega)) (uc_cm (uc_uc _ _ _ _) (by have := tw_b hx0; have := tw_b hx0; omega))) (i5 c_95_20 rfl (i45 c_95_21 (lo (lyt_0 hx0) (by have := tw_b hx0; omega)) (lro (lrt_7 hx0)) (i3 c_95_24 rfl (i1 c_95_26 (i3 c_95_27 rfl ?_)))))
    refine i80 (As := [.int (wI (σ (x0 + 15) 2)), .int (wI 1), .int (wI x2)]) (rest := []) c_95_28 mi_56 rfl rfl (Nat.le_of_ble_eq_true rfl) (Nat.le_of_ble_eq_true rfl) (lo (lyt_15 hx0) (by have := tw_b hx0; omega)) (q_put (v2 := w7) (ow_forces hx0) (rge_ K1 rfl) (show 0 ≤ σ (x0 + 15) 2 ∧ σ (x0 + 15) 2 < (uc (uc σ (x0 + 16) (u1 (fl_ (σ (x0 + 16)) ((σ (x0 + 15) 2) * 5) ((σ (x0 + 15) 2) * 5 + 5) 0) ((σ (x0 + 15) 2) * 5 + 0) w4)) (x0 + 15) (u1 (σ (x0 + 15)) 2 ((σ (x0 + 15) 2) + 1))) (x0 + 15) 2 by rw [(congrFun (uc_s _ _ _) _)]; exact b3) (by decide) e8 r9 ?_)
    show wi (d + 3) 95 31 [.ref x0, .int (wI x1), .int (wI x2), .int (wI x3), .int (wI x4), .int (wI (σ (x0 + 15) 2))] [] S (uc (uc (uc σ (x0 + 16) (u1 (fl_ (σ (x0 + 16)) ((σ (x0 + 15) 2) * 5) ((σ (x0 + 15) 2) * 5 + 5) 0) ((σ (x0 + 15) 2) * 5 + 0) w4)) (x0 + 15) (u1 (σ (x0 + 15)) 2 ((σ (x0 + 15) 2) + 1))) (x0 + 16) (u1 ((uc (uc σ (x0 + 16) (u1 (fl_ (σ (x0 + 16)) ((σ (x0 + 15) 2) * 5) ((σ (x0 + 15) 2) * 5 + 5) 0) ((σ (x0 + 15) 2) * 5 + 0) w4)) (x0 + 15) (u1 (σ (x0 + 15)) 2 ((σ (x0 + 15) 2) + 1))) (x0 + 16)) ((σ (x0 + 15) 2) * 5 + 1) w7)) τ Q
    obtain ⟨w10, e11, r12, t⟩ := t
    refine wi_s (σ1 := uc (uc σ (x0 + 16) (u1 (u1 (fl_ (σ (x0 + 16)) ((σ (x0 + 15) 2) * 5) ((σ (x0 + 15) 2) * 5 + 5) 0) ((σ (x0 + 15) 2) * 5 + 0) w4) ((σ (x0 + 15) 2) * 5 + 1) w7)) (x0 + 15) (u1 (σ (x0 + 15)) 2 ((σ (x0 + 15) 2) + 1))) (wr_ (uc_ns (uc_s _ _ _) (by have := tw_b hx0; have := tw_b hx0; omega)) (uc_cm (uc_uc _ _ _ _) (by have := tw_b hx0; have := tw_b hx0; omega))) (i5 c_95_31 rfl (i45 c_95_32 (lo (lyt_0 hx0) (by have := tw_b hx0; omega)) (lro (lrt_7 hx0)) (i3 c_95_35 rfl (i1 c_95_37 (i3 c_95_38 rfl ?_)))))
    refine i80 (As := [.int (wI (σ (x0 + 15) 2)), .int (wI 2), .int (wI x3)]) (rest := []) c_95_39 mi_56 rfl rfl (Nat.le_of_ble_eq_true rfl) (Nat.le_of_ble_eq_true rfl) (lo (lyt_15 hx0) (by have := tw_b hx0; omega)) (q_put (v2 := w10) (ow_forces hx0) (rge_ K1 rfl) (show 0 ≤ σ (x0 + 15) 2 ∧ σ (x0 + 15) 2 < (uc (uc σ (x0 + 16) (u1 (u1 (fl_ (σ (x0 + 16)) ((σ (x0 + 15) 2) * 5) ((σ (x0 + 15) 2) * 5 + 5) 0) ((σ (x0 + 15) 2) * 5 + 0) w4) ((σ (x0 + 15) 2) * 5 + 1) w7)) (x0 + 15) (u1 (σ (x0 + 15)) 2 ((σ (x0 + 15) 2) + 1))) (x0 + 15) 2 by rw [(congrFun (uc_s _ _ _) _)]; exact b3) (by decide) e11 r12 ?_)
    show wi (d + 3) 95 42 [.ref x0, .int (wI x1), .int (wI x2), .int (wI x3), .int (wI x4), .int (wI (σ (x0 + 15) 2))] [] S (uc (uc (uc σ (x0 + 16) (u1 (u1 (fl_ (σ (x0 + 16)) ((σ (x0 + 15) 2) * 5) ((σ (x0 + 15) 2) * 5 + 5) 0) ((σ (x0 + 15) 2) * 5 + 0) w4) ((σ (x0 + 15) 2) * 5 + 1) w7)) (x0 + 15) (u1 (σ (x0 + 15)) 2 ((σ (x0 + 15) 2) + 1))) (x0 + 16) (u1 ((uc (uc σ (x0 + 16) (u1 (u1 (fl_ (σ (x0 + 16)) ((σ (x0 + 15) 2) * 5) ((σ (x0 + 15) 2) * 5 + 5) 0) ((σ (x0 + 15) 2) * 5 + 0) w4) ((σ (x0 + 15) 2) * 5 + 1) w7)) (x0 + 15) (u1 (σ (x0 + 15)) 2 ((σ (x0 + 15) 2) + 1))) (x0 + 16)) ((σ (x0 + 15) 2) * 5 + 2) w10)) τ Q
    obtain ⟨w13, e14, r15, t⟩ := t
    refine wi_s (σ1 := uc (uc σ (x0 + 16) (u1 (u1 (u1 (fl_ (σ (x0 + 16)) ((σ (x0 + 15) 2) * 5) ((σ (x0 + 15) 2) * 5 + 5) 0) ((σ (x0 + 15) 2) * 5 + 0) w4) ((σ (x0 + 15) 2) * 5 + 1) w7) ((σ (x0 + 15) 2) * 5 + 2) w10)) (x0 + 15) (u1 (σ (x0 + 15)) 2 ((σ (x0 + 15) 2) + 1))) (wr_ (uc_ns (uc_s _ _ _) (by have := tw_b hx0; have := tw_b hx0; omega)) (uc_cm (uc_uc _ _ _ _) (by have := tw_b hx0; have := tw_b hx0; omega))) (i5 c_95_42 rfl (i45 c_95_43 (lo (lyt_0 hx0) (by have := tw_b hx0; omega)) (lro (lrt_7 hx0)) (i3 c_95_46 rfl (i1 c_95_48 (i3 c_95_49 rfl ?_)))))
    refine i80 (As := [.int (wI (σ (x0 + 15) 2)), .int (wI 3), .int (wI x4)]) (rest := []) c_95_51 mi_56 rfl rfl (Nat.le_of_ble_eq_true rfl) (Nat.le_of_ble_eq_true rfl) (lo (lyt_15 hx0) (by have := tw_b hx0; omega)) (q_put (v2 := w13) (ow_forces hx0) (rge_ K1 rfl) (show 0 ≤ σ (x0 + 15) 2 ∧ σ (x0 + 15) 2 < (uc (uc σ (x0 + 16) (u1 (u1 (u1 (fl_ (σ (x0 + 16)) ((σ (x0 + 15) 2) * 5) ((σ (x0 + 15) 2) * 5 + 5) 0) ((σ (x0 + 15) 2) * 5 + 0) w4) ((σ (x0 + 15) 2) * 5 + 1) w7) ((σ (x0 + 15) 2) * 5 + 2) w10)) (x0 + 15) (u1 (σ (x0 + 15)) 2 ((σ (x0 + 15) 2) + 1))) (x0 + 15) 2 by rw [(congrFun (uc_s _ _ _) _)]; exact b3) (by decide) e14 r15 ?_)
    show wi (d + 3) 95 54 [.ref x0, .int (wI x1), .int (wI x2), .int (wI x3), .int (wI x4), .int (wI (σ (x0 + 15) 2))] [] S (uc (uc (uc σ (x0 + 16) (u1 (u1 (u1 (fl_ (σ (x0 + 16)) ((σ (x0 + 15) 2) * 5) ((σ (x0 + 15) 2) * 5 + 5) 0) ((σ (x0 + 15) 2) * 5 + 0) w4) ((σ (x0 + 15) 2) * 5 + 1) w7) ((σ (x0 + 15) 2) * 5 + 2) w10)) (x0 + 15) (u1 (σ (x0 + 15)) 2 ((σ (x0 + 15) 2) + 1))) (x0 + 16) (u1 ((uc (uc σ (x0 + 16) (u1 (u1 (u1 (fl_ (σ (x0 + 16)) ((σ (x0 + 15) 2) * 5) ((σ (x0 + 15) 2) * 5 + 5) 0) ((σ (x0 + 15) 2) * 5 + 0) w4) ((σ (x0 + 15) 2) * 5 + 1) w7) ((σ (x0 + 15) 2) * 5 + 2) w10)) (x0 + 15) (u1 (σ (x0 + 15)) 2 ((σ (x0 + 15) 2) + 1))) (x0 + 16)) ((σ (x0 + 15) 2) * 5 + 3) w13)) τ Q
    refine wi_s (σ1 := uc (uc σ (x0 + 16) (u1 (u1 (u1 (u1 (fl_ (σ (x0 + 16)) ((σ (x0 + 15) 2) * 5) ((σ (x0 + 15) 2) * 5 + 5) 0) ((σ (x0 + 15) 2) * 5 + 0) w4) ((σ (x0 + 15) 2) * 5 + 1) w7) ((σ (x0 + 15) 2) * 5 + 2) w10) ((σ (x0 + 15) 2) * 5 + 3) w13)) (x0 + 15) (u1 (σ (x0 + 15)) 2 ((σ (x0 + 15) 2) + 1))) (wr_ (uc_ns (uc_s _ _ _) (by have := tw_b hx0; have := tw_b hx0; omega)) (uc_cm (uc_uc _ _ _ _) (by have := tw_b hx0; have := tw_b hx0; omega))) (i5 c_95_54 rfl (i45 c_95_55 (lo (lyt_0 hx0) (by have := tw_b hx0; omega)) (lro (lrt_7 hx0)) (i3 c_95_58 rfl (i1 c_95_60 (i5 c_95_61 rfl (wi_ok (fun K16 => ?_)))))))
    refine i43 (v := σ x0 8) c_95_62 (lo (lyt_0 hx0) (by have := tw_b hx0; omega)) (congrFun (uc_ns (uc_ns rfl (by have := tw_b hx0; have := tw_b hx0; omega)) (by have := tw_b hx0; have := tw_b hx0; omega)) _) ?_
    refine i80 (As := [.int (wI (σ (x0 + 15) 2)), .int (wI 4), .int (wI (σ x0 8))]) (rest := []) c_95_65 mi_56 rfl rfl (Nat.le_of_ble_eq_true rfl) (Nat.le_of_ble_eq_true rfl) (lo (lyt_15 hx0) (by have := tw_b hx0; omega)) (q_put (v2 := σ x0 8) (ow_forces hx0) (rge_ K1 rfl) (show 0 ≤ σ (x0 + 15) 2 ∧ σ (x0 + 15) 2 < (uc (uc σ (x0 + 16) (u1 (u1 (u1 (u1 (fl_ (σ (x0 + 16)) ((σ (x0 + 15) 2) * 5) ((σ (x0 + 15) 2) * 5 + 5) 0) ((σ (x0 + 15) 2) * 5 + 0) w4) ((σ (x0 + 15) 2) * 5 + 1) w7) ((σ (x0 + 15) 2) * 5 + 2) w10) ((σ (x0 + 15) 2) * 5 + 3) w13)) (x0 + 15) (u1 (σ (x0 + 15)) 2 ((σ (x0 + 15) 2) + 1))) (x0 + 15) 2 by rw [(congrFun (uc_s _ _ _) _)]; exact b3) (by decide) rfl (rge_ K16 (congrFun (uc_ns (uc_ns rfl (by have := tw_b hx0; have := tw_b hx0; omega)) (by have := tw_b hx0; have := tw_b hx0; omega)) _)) ?_)
    show wi (d + 3) 95 68 [.ref x0, .int (wI x1), .int (wI x2), .int (wI x3), .int (wI x4), .int (wI (σ (x0 + 15) 2))] [] S (uc (uc (uc σ (x0 + 16) (u1 (u1 (u1 (u1 (fl_ (σ (x0 + 16)) ((σ (x0 + 15) 2) * 5) ((σ (x0 + 15) 2) * 5 + 5) 0) ((σ (x0 + 15) 2) * 5 + 0) w4) ((σ (x0 + 15) 2) * 5 + 1) w7) ((σ (x0 + 15) 2) * 5 + 2) w10) ((σ (x0 + 15) 2) * 5 + 3) w13)) (x0 + 15) (u1 (σ (x0 + 15)) 2 ((σ (x0 + 15) 2) + 1))) (x0 + 16) (u1 ((uc (uc σ (x0 + 16) (u1 (u1 (u1 (u1 (fl_ (σ (x0 + 16)) ((σ (x0 + 15) 2) * 5) ((σ (x0 + 15) 2) * 5 + 5) 0) ((σ (x0 + 15) 2) * 5 + 0) w4) ((σ (x0 + 15) 2) * 5 + 1) w7) ((σ (x0 + 15) 2) * 5 + 2) w10) ((σ (x0 + 15) 2) * 5 + 3) w13)) (x0 + 15) (u1 (σ (x0 + 15)) 2 ((σ (x0 + 15) 2) + 1))) (x0 + 16)) ((σ (x0 + 15) 2) * 5 + 4) (σ x0 8))) τ Q
    refine wi_s (σ1 := uc (uc σ (x0 + 16) (u1 (u1 (u1 (u1 (u1 (fl_ (σ (x0 + 16)) ((σ (x0 + 15) 2) * 5) ((σ (x0 + 15) 2) * 5 + 5) 0) ((σ (x0 + 15) 2) * 5 + 0) w4) ((σ (x0 + 15) 2) * 5 + 1) w7) ((σ (x0 + 15) 2) * 5 + 2) w10) ((σ (x0 + 15) 2) * 5 + 3) w13) ((σ (x0 + 15) 2) * 5 + 4) (σ x0 8))) (x0 + 15) (u1 (σ (x0 + 15)) 2 ((σ (x0 + 15) 2) + 1))) (wr_ (uc_ns (uc_s _ _ _) (by have := tw_b hx0; have := tw_b hx0; omega)) (uc_cm (uc_uc _ _ _ _) (by have := tw_b hx0; have := tw_b hx0; omega))) (i3 c_95_68 rfl ?_)
    exact i90 c_95_70 t
  · have t := iF t ha2
    refine i80 (As := []) (rest := []) c_95_4 mi_54 rfl rfl (Nat.le_of_ble_eq_true rfl) (Nat.le_of_ble_eq_true rfl) (lo (lyt_15 hx0) (by have := tw_b hx0; omega)) (q_addN (ow_forces hx0) (by have q : σ (x0 + 15) 2 = σ (x0 + 15) 2 := rfl; rw [q]; omega) ?_)
    show wi (d + 3) 95 7 [.ref x0, .int (wI x1), .int (wI x2), .int (wI x3), .int (wI x4), .retAddr 0] [.int (wI (-1))] S σ τ Q
    refine i6 (L' := [.ref x0, .int (wI x1), .int (wI x2), .int (wI x3), .int (wI x4), .int (wI (-1))]) c_95_7 rfl (i5 c_95_9 rfl (i45 c_95_10 (lo (lyt_0 hx0) (by have := tw_b hx0; omega)) (lro (lrt_7 hx0)) (i3 c_95_13 rfl (i1 c_95_15 (i3 c_95_16 rfl ?_)))))
    refine i80 (As := [.int (wI (-1)), .int (wI 0), .int (wI x1)]) (rest := []) c_95_17 mi_56 rfl rfl (Nat.le_of_ble_eq_true rfl) (Nat.le_of_ble_eq_true rfl) (lo (lyt_15 hx0) (by have := tw_b hx0; omega)) (q_putN (ow_forces hx0) (by decide) (by omega) ?_)
    show wi (d + 3) 95 20 [.ref x0, .int (wI x1), .int (wI x2), .int (wI x3), .int (wI x4), .int (wI (-1))] [] S σ τ Q
    refine i5 c_95_20 rfl (i45 c_95_21 (lo (lyt_0 hx0) (by have := tw_b hx0; omega)) (lro (lrt_7 hx0)) (i3 c_95_24 rfl (i1 c_95_26 (i3 c_95_27 rfl ?_))))
    refine i80 (As := [.int (wI (-1)), .int (wI 1), .int (wI x2)]) (rest := []) c_95_28 mi_56 rfl rfl (Nat.le_of_ble_eq_true rfl) (Nat.le_of_ble_eq_true rfl) (lo (lyt_15 hx0) (by have := tw_b hx0; omega)) (q_putN (ow_forces hx0) (by decide) (by omega) ?_)
    show wi (d + 3) 95 31 [.ref x0, .int (wI x1), .int (wI x2), .int (wI x3), .int (wI x4), .int (wI (-1))] [] S σ τ Q
    refine i5 c_95_31 rfl (i45 c_95_32 (lo (lyt_0 hx0) (by have := tw_b hx0; omega)) (lro (lrt_7 hx0)) (i3 c_95_35 rfl (i1 c_95_37 (i3 c_95_38 rfl ?_))))
    refine i80 (As := [.int (wI (-1)), .int (wI 2), .int (wI x3)]) (rest := []) c_95_39 mi_56 rfl rfl (Nat.le_of_ble_eq_true rfl) (Nat.le_of_ble_eq_true rfl) (lo (lyt_15 hx0) (by have := tw_b hx0; omega)) (q_putN (ow_forces hx0) (by decide) (by omega) ?_)
    show wi (d + 3) 95 42 [.ref x0, .int (wI x1), .int (wI x2), .int (wI x3), .int (wI x4), .int (wI (-1))] [] S σ τ Q
    refine i5 c_95_42 rfl (i45 c_95_43 (lo (lyt_0 hx0) (by have := tw_b hx0; omega)) (lro (lrt_7 hx0)) (i3 c_95_46 rfl (i1 c_95_48 (i3 c_95_49 rfl ?_))))
    refine i80 (As := [.int (wI (-1)), .int (wI 3), .int (wI x4)]) (rest := []) c_95_51 mi_56 rfl rfl (Nat.le_of_ble_eq_true rfl) (Nat.le_of_ble_eq_true rfl) (lo (lyt_15 hx0) (by have := tw_b hx0; omega)) (q_putN (ow_forces hx0) (by decide) (by omega) ?_)
    show wi (d + 3) 95 54 [.ref x0, .int (wI x1), .int (wI x2), .int (wI x3), .int (wI x4), .int (wI (-1))] [] S σ τ Q
    refine i5 c_95_54 rfl (i45 c_95_55 (lo (lyt_0 hx0) (by have := tw_b hx0; omega)) (lro (lrt_7 hx0)) (i3 c_95_58 rfl (i1 c_95_60 (i5 c_95_61 rfl (i43 (v := σ x0 8) c_95_62 (lo (lyt_0 hx0) (by have := tw_b hx0; omega)) rfl ?_)))))
    refine i80 (As := [.int (wI (-1)), .int (wI 4), .int (wI (σ x0 8))]) (rest := []) c_95_65 mi_56 rfl rfl (Nat.le_of_ble_eq_true rfl) (Nat.le_of_ble_eq_true rfl) (lo (lyt_15 hx0) (by have := tw_b hx0; omega)) (q_putN (ow_forces hx0) (by decide) (by omega) ?_)
    show wi (d + 3) 95 68 [.ref x0, .int (wI x1), .int (wI x2), .int (wI x3), .int (wI x4), .int (wI (-1))] [] S σ τ Q
    refine i3 c_95_68 rfl ?_
    exact i90 c_95_70 t
theorem q_95 {d : Nat} {S : zS} {σ τ : zI} {Q : zQ} {tn : Nat} {text : Int} {mill : Int} {from_ : Int} {to : Int} (htn : tw tn) (p0 : rg text) (p1 : rg mill) (p2 : rg from_) (p3 : rg to) (t : Q (some (.int (wI (if σ (tn + 15) 2 < 61 then σ (tn + 15) 2 else -1)))) S (uc (uc σ (tn + 16) (if σ (tn + 15) 2 < 61 then u1 (u1 (u1 (u1 (u1 (fl_ (σ (tn + 16)) (σ (tn + 15) 2 * 5) (σ (tn + 15) 2 * 5 + 5) 0) (σ (tn + 15) 2 * 5 + 0) (text)) (σ (tn + 15) 2 * 5 + 1) (mill)) (σ (tn + 15) 2 * 5 + 2) (from_)) (σ (tn + 15) 2 * 5 + 3) (to)) (σ (tn + 15) 2 * 5 + 4) (σ tn 8) else σ (tn + 16))) (tn + 15) (if σ (tn + 15) 2 < 61 then u1 (σ (tn + 15)) 2 (σ (tn + 15) 2 + 1) else σ (tn + 15))) τ) : wc (d + 3) 95 [.ref tn, .int (wI text), .int (wI mill), .int (wI from_), .int (wI to)] S σ τ Q := by
  refine wc_ok fun K => ?_
  have hc := (ow_forces htn K).2.2.2.2.2.1
  refine wc_of mi_95 rfl (u_95_0 htn ?_)
  by_cases c : σ (tn + 15) 2 < 61
  · rw [if_pos c, if_pos c, if_pos c] at t
    rw [if_pos c, u1_s]
    repeat' (first | exact t | refine ⟨_, rfl, by omega, ?_⟩ | refine ⟨by assumption, ?_⟩ | refine ⟨by omega, ?_⟩ | refine ifI (fun _ => ?_) (fun _ => ?_) | (exfalso; omega))
  · rw [if_neg c, if_neg c, if_neg c, uc_id, uc_id] at t
    rw [if_neg c]
    exact t
-- method 96: MillTown$Town.addOrder(IIIII)I
theorem c_96_0 : pg_cd 96 0 = (5, 1, 0, 0, 0) := by decide +kernel
theorem c_96_1 : pg_cd 96 1 = (45, 8, 35, 6, 0) := by decide +kernel
theorem c_96_4 : pg_cd 96 4 = (80, 54, 52, 0, 0) := by decide +kernel
theorem c_96_7 : pg_cd 96 7 = (6, 2, 0, 6, 0) := by decide +kernel
theorem c_96_9 : pg_cd 96 9 = (5, 1, 0, 0, 0) := by decide +kernel
theorem c_96_10 : pg_cd 96 10 = (45, 8, 35, 6, 0) := by decide +kernel
theorem c_96_13 : pg_cd 96 13 = (3, 2, 0, 6, 0) := by decide +kernel
theorem c_96_15 : pg_cd 96 15 = (1, 1, 0, 0, 0) := by decide +kernel
theorem c_96_16 : pg_cd 96 16 = (3, 1, 0, 1, 0) := by decide +kernel
theorem c_96_17 : pg_cd 96 17 = (80, 56, 60, 0, 0) := by decide +kernel
theorem c_96_20 : pg_cd 96 20 = (5, 1, 0, 0, 0) := by decide +kernel
theorem c_96_21 : pg_cd 96 21 = (45, 8, 35, 6, 0) := by decide +kernel
theorem c_96_24 : pg_cd 96 24 = (3, 2, 0, 6, 0) := by decide +kernel
theorem c_96_26 : pg_cd 96 26 = (1, 1, 0, 0, 1) := by decide +kernel
theorem c_96_27 : pg_cd 96 27 = (3, 1, 0, 2, 0) := by decide +kernel
theorem c_96_28 : pg_cd 96 28 = (80, 56, 60, 0, 0) := by decide +kernel
theorem c_96_31 : pg_cd 96 31 = (5, 1, 0, 0, 0) := by decide +kernel
theorem c_96_32 : pg_cd 96 32 = (45, 8, 35, 6, 0) := by decide +kernel
theorem c_96_35 : pg_cd 96 35 = (3, 2, 0, 6, 0) := by decide +kernel
theorem c_96_37 : pg_cd 96 37 = (1, 1, 0, 0, 2) := by decide +kernel
theorem c_96_38 : pg_cd 96 38 = (3, 1, 0, 3, 0) := by decide +kernel
theorem c_96_39 : pg_cd 96 39 = (80, 56, 60, 0, 0) := by decide +kernel
theorem c_96_42 : pg_cd 96 42 = (5, 1, 0, 0, 0) := by decide +kernel
theorem c_96_43 : pg_cd 96 43 = (45, 8, 35, 6, 0) := by decide +kernel
theorem c_96_46 : pg_cd 96 46 = (3, 2, 0, 6, 0) := by decide +kernel
theorem c_96_48 : pg_cd 96 48 = (1, 1, 0, 0, 3) := by decide +kernel
theorem c_96_49 : pg_cd 96 49 = (3, 2, 0, 4, 0) := by decide +kernel
theorem c_96_51 : pg_cd 96 51 = (80, 56, 60, 0, 0) := by decide +kernel
theorem c_96_54 : pg_cd 96 54 = (5, 1, 0, 0, 0) := by decide +kernel
theorem c_96_55 : pg_cd 96 55 = (45, 8, 35, 6, 0) := by decide +kernel
theorem c_96_58 : pg_cd 96 58 = (3, 2, 0, 6, 0) := by decide +kernel
theorem c_96_60 : pg_cd 96 60 = (1, 1, 0, 0, 4) := by decide +kernel
theorem c_96_61 : pg_cd 96 61 = (3, 2, 0, 5, 0) := by decide +kernel
theorem c_96_63 : pg_cd 96 63 = (80, 56, 60, 0, 0) := by decide +kernel
theorem c_96_66 : pg_cd 96 66 = (3, 2, 0, 6, 0) := by decide +kernel
theorem c_96_68 : pg_cd 96 68 = (90, 0, 0, 0, 0) := by decide +kernel
theorem mi_96 : pg_mc 96 = 8 ∧ pg_na 96 = 5 ∧ pg_mx 96 = 7 := by decide +kernel
set_option maxRecDepth 20000 in
theorem u_96_0 {d : Nat} {S : zS} {σ τ : zI} {Q : zQ} {x0 : Nat} {x1 : Int} {x2 : Int} {x3 : Int} {x4 : Int} {x5 : Int} (hx0 : tw x0) (t : if σ (x0 + 13) 2 < 80 then ((0 ≤ σ (x0 + 13) 2 ∧ σ (x0 + 13) 2 < (u1 (σ (x0 + 13)) 2 ((σ (x0 + 13) 2) + 1) 2)) ∧ ∃ w4 : Int, wI w4 = wI x1 ∧ rg w4 ∧ ∃ w7 : Int, wI w7 = wI x2 ∧ rg w7 ∧ ∃ w10 : Int, wI w10 = wI x3 ∧ rg w10 ∧ ∃ w13 : Int, wI w13 = wI x4 ∧ rg w13 ∧ ∃ w16 : Int, wI w16 = wI x5 ∧ rg w16 ∧ Q (some (.int (wI (σ (x0 + 13) 2)))) S (uc (uc σ (x0 + 14) (u1 (u1 (u1 (u1 (u1 (fl_ (σ (x0 + 14)) ((σ (x0 + 13) 2) * 6) ((σ (x0 + 13) 2) * 6 + 6) 0) ((σ (x0 + 13) 2) * 6 + 0) w4) ((σ (x0 + 13) 2) * 6 + 1) w7) ((σ (x0 + 13) 2) * 6 + 2) w10) ((σ (x0 + 13) 2) * 6 + 3) w13) ((σ (x0 + 13) 2) * 6 + 4) w16)) (x0 + 13) (u1 (σ (x0 + 13)) 2 ((σ (x0 + 13) 2) + 1))) τ) else (Q (some (.int (wI (-1)))) S σ τ)) : wi (d + 3) 96 0 [.ref x0, .int (wI x1), .int (wI x2), .int (wI x3), .int (wI x4), .int (wI x5), .retAddr 0] [] S σ τ Q := by
  refine i5 c_96_0 rfl (i45 c_96_1 (lo (lyt_0 hx0) (by have := tw_b hx0; omega)) (lro (lrt_6 hx0)) (wi_ok (fun K1 => ?_)))
  by_cases ha2 : σ (x0 + 13) 2 < 80
  · have t := iT t ha2
    refine i80 (As := []) (rest := []) c_96_4 mi_54 rfl rfl (Nat.le_of_ble_eq_true rfl) (Nat.le_of_ble_eq_true rfl) (lo (lyt_13 hx0) (by have := tw_b hx0; omega)) (q_add (ow_orders hx0) (by have q : σ (x0 + 13) 2 = σ (x0 + 13) 2 := rfl; rw [q]; omega) ?_)
    show wi (d + 3) 96 7 [.ref x0, .int (wI x1), .int (wI x2), .int (wI x3), .int (wI x4), .int (wI x5), .retAddr 0] [.int (wI (σ (x0 + 13) 2))] S (uc (uc σ (x0 + 14) (fl_ (σ (x0 + 14)) ((σ (x0 + 13) 2) * 6) ((σ (x0 + 13) 2) * 6 + 6) 0)) (x0 + 13) (u1 (σ (x0 + 13)) 2 (σ (x0 + 13) 2 + 1))) τ Q
    obtain ⟨b3, t⟩ := t
    obtain ⟨w4, e5, r6, t⟩ := t
    refine i6 (L' := [.ref x0, .int (wI x1), .int (wI x2), .int (wI x3), .int (wI x4), .int (wI x5), .int (wI (σ (x0 + 13) 2))]) c_96_7 rfl (i5 c_96_9 rfl (i45 c_96_10 (lo (lyt_0 hx0) (by have := tw_b hx0; omega)) (lro (lrt_6 hx0)) (i3 c_96_13 rfl (i1 c_96_15 (i3 c_96_16 rfl ?_)))))
    refine i80 (As := [.int (wI (σ (x0 + 13) 2)), .int (wI 0), .int (wI x1)]) (rest := []) c_96_17 mi_56 rfl rfl (Nat.le_of_ble_eq_true rfl) (Nat.le_of_ble_eq_true rfl) (lo (lyt_13 hx0) (by have := tw_b hx0; omega)) (q_put (v2 := w4) (ow_orders hx0) (rge_ K1 rfl) (show 0 ≤ σ (x0 + 13) 2 ∧ σ (x0 + 13) 2 < (uc (uc σ (x0 + 14) (fl_ (σ (x0 + 14)) ((σ (x0 + 13) 2) * 6) ((σ (x0 + 13) 2) * 6 + 6) 0)) (x0 + 13) (u1 (σ (x0 + 13)) 2 ((σ (x0 + 13) 2) + 1))) (x0 + 13) 2 by rw [(congrFun (uc_s _ _ _) _)]; exact b3) (by decide) e5 r6 ?_)
    show wi (d + 3) 96 20 [.ref x0, .int (wI x1), .int (wI x2), .int (wI x3), .int (wI x4), .int (wI x5), .int (wI (σ (x0 + 13) 2))] [] S (uc (uc (uc σ (x0 + 14) (fl_ (σ (x0 + 14)) ((σ (x0 + 13) 2) * 6) ((σ (x0 + 13) 2) * 6 + 6) 0)) (x0 + 13) (u1 (σ (x0 + 13)) 2 ((σ (x0 + 13) 2) + 1))) (x0 + 14) (u1 ((uc (uc σ (x0 + 14) (fl_ (σ (x0 + 14)) ((σ (x0 + 13) 2) * 6) ((σ (x0 + 13) 2) * 6 + 6) 0)) (x0 + 13) (u1 (σ (x0 + 13)) 2 ((σ (x0 + 13) 2) + 1))) (x0 + 14)) ((σ (x0 + 13) 2) * 6 + 0) w4)) τ Q
    obtain ⟨w7, e8, r9, t⟩ := t
    refine wi_s (σ1 := uc (uc σ (x0 + 14) (u1 (fl_ (σ (x0 + 14)) ((σ (x0 + 13) 2) * 6) ((σ (x0 + 13) 2) * 6 + 6) 0) ((σ (x0 + 13) 2) * 6 + 0) w4)) (x0 + 13) (u1 (σ (x0 + 13)) 2 ((σ (x0 + 13) 2) + 1))) (wr_ (uc_ns (uc_s _ _ _) (by have := tw_b hx0; have := tw_b hx0; omega)) (uc_cm (uc_uc _ _ _ _) (by have := tw_b hx0; have := tw_b hx0; omega))) (i5 c_96_20 rfl (i45 c_96_21 (lo (lyt_0 hx0) (by have := tw_b hx0; omega)) (lro (lrt_6 hx0)) (i3 c_96_24 rfl (i1 c_96_26 (i3 c_96_27 rfl ?_)))))
    refine i80 (As := [.int (wI (σ (x0 + 13) 2)), .int (wI 1), .int (wI x2)]) (rest := []) c_96_28 mi_56 rfl rfl (Nat.le_of_ble_eq_true rfl) (Nat.le_of_ble_eq_true rfl) (lo (lyt_13 hx0) (by have := tw_b hx0; omega)) (q_put (v2 := w7) (ow_orders hx0) (rge_ K1 rfl) (show 0 ≤ σ (x0 + 13) 2 ∧ σ (x0 + 13) 2 < (uc (uc σ (x0 + 14) (u1 (fl_ (σ (x0 + 14)) ((σ (x0 + 13) 2) * 6) ((σ (x0 + 13) 2) * 6 + 6) 0) ((σ (x0 + 13) 2) * 6 + 0) w4)) (x0 + 13) (u1 (σ (x0 + 13)) 2 ((σ (x0 + 13) 2) + 1))) (x0 + 13) 2 by rw [(congrFun (uc_s _ _ _) _)]; exact b3) (by decide) e8 r9 ?_)
    show wi (d + 3) 96 31 [.ref x0, .int (wI x1), .int (wI x2), .int (wI x3), .int (wI x4), .int (wI x5), .int (wI (σ (x0 + 13) 2))] [] S (uc (uc (uc σ (x0 + 14) (u1 (fl_ (σ (x0 + 14)) ((σ (x0 + 13) 2) * 6) ((σ (x0 + 13) 2) * 6 + 6) 0) ((σ (x0 + 13) 2) * 6 + 0) w4)) (x0 + 13) (u1 (σ (x0 + 13)) 2 ((σ (x0 + 13) 2) + 1))) (x0 + 14) (u1 ((uc (uc σ (x0 + 14) (u1 (fl_ (σ (x0 + 14)) ((σ (x0 + 13) 2) * 6) ((σ (x0 + 13) 2) * 6 + 6) 0) ((σ (x0 + 13) 2) * 6 + 0) w4)) (x0 + 13) (u1 (σ (x0 + 13)) 2 ((σ (x0 + 13) 2) + 1))) (x0 + 14)) ((σ (x0 + 13) 2) * 6 + 1) w7)) τ Q
    obtain ⟨w10, e11, r12, t⟩ := t
    refine wi_s (σ1 := uc (uc σ (x0 + 14) (u1 (u1 (fl_ (σ (x0 + 14)) ((σ (x0 + 13) 2) * 6) ((σ (x0 + 13) 2) * 6 + 6) 0) ((σ (x0 + 13) 2) * 6 + 0) w4) ((σ (x0 + 13) 2) * 6 + 1) w7)) (x0 + 13) (u1 (σ (x0 + 13)) 2 ((σ (x0 + 13) 2) + 1))) (wr_ (uc_ns (uc_s _ _ _) (by have := tw_b hx0; have := tw_b hx0; omega)) (uc_cm (uc_uc _ _ _ _) (by have := tw_b hx0; have := tw_b hx0; omega))) (i5 c_96_31 rfl (i45 c_96_32 (lo (lyt_0 hx0) (by have := tw_b hx0; omega)) (lro (lrt_6 hx0)) (i3 c_96_35 rfl (i1 c_96_37 (i3 c_96_38 rfl ?_)))))
    refine i80 (As := [.int (wI (σ (x0 + 13) 2)), .int (wI 2), .int (wI x3)]) (rest := []) c_96_39 mi_56 rfl rfl (Nat.le_of_ble_eq_true rfl) (Nat.le_of_ble_eq_true rfl) (lo (lyt_13 hx0) (by have := tw_b hx0; omega)) (q_put (v2 := w10) (ow_orders hx0) (rge_ K1 rfl) (show 0 ≤ σ (x0 + 13) 2 ∧ σ (x0 + 13) 2 < (uc (uc σ (x0 + 14) (u1 (u1 (fl_ (σ (x0 + 14)) ((σ (x0 + 13) 2) * 6) ((σ (x0 + 13) 2) * 6 + 6) 0) ((σ (x0 + 13) 2) * 6 + 0) w4) ((σ (x0 + 13) 2) * 6 + 1) w7)) (x0 + 13) (u1 (σ (x0 + 13)) 2 ((σ (x0 + 13) 2) + 1))) (x0 + 13) 2 by rw [(congrFun (uc_s _ _ _) _)]; exact b3) (by decide) e11 r12 ?_)
    show wi (d + 3) 96 42 [.ref x0, .int (wI x1), .int (wI x2), .int (wI x3), .int (wI x4), .int (wI x5), .int (wI (σ (x0 + 13) 2))] [] S (uc (uc (uc σ (x0 + 14) (u1 (u1 (fl_ (σ (x0 + 14)) ((σ (x0 + 13) 2) * 6) ((σ (x0 + 13) 2) * 6 + 6) 0) ((σ (x0 + 13) 2) * 6 + 0) w4) ((σ (x0 + 13) 2) * 6 + 1) w7)) (x0 + 13) (u1 (σ (x0 + 13)) 2 ((σ (x0 + 13) 2) + 1))) (x0 + 14) (u1 ((uc (uc σ (x0 + 14) (u1 (u1 (fl_ (σ (x0 + 14)) ((σ (x0 + 13) 2) * 6) ((σ (x0 + 13) 2) * 6 + 6) 0) ((σ (x0 + 13) 2) * 6 + 0) w4) ((σ (x0 + 13) 2) * 6 + 1) w7)) (x0 + 13) (u1 (σ (x0 + 13)) 2 ((σ (x0 + 13) 2) + 1))) (x0 + 14)) ((σ (x0 + 13) 2) * 6 + 2) w10)) τ Q
    obtain ⟨w13, e14, r15, t⟩ := t
    refine wi_s (σ1 := uc (uc σ (x0 + 14) (u1 (u1 (u1 (fl_ (σ (x0 + 14)) ((σ (x0 + 13) 2) * 6) ((σ (x0 + 13) 2) * 6 + 6) 0) ((σ (x0 + 13) 2) * 6 + 0) w4) ((σ (x0 + 13) 2) * 6 + 1) w7) ((σ (x0 + 13) 2) * 6 + 2) w10)) (x0 + 13) (u1 (σ (x0 + 13)) 2 ((σ (x0 + 13) 2) + 1))) (wr_ (uc_ns (uc_s _ _ _) (by have := tw_b hx0; have := tw_b hx0; omega)) (uc_cm (uc_uc _ _ _ _) (by have := tw_b hx0; have := tw_b hx0; omega))) (i5 c_96_42 rfl (i45 c_96_43 (lo (lyt_0 hx0) (by have := tw_b hx0; omega)) (lro (lrt_6 hx0)) (i3 c_96_46 rfl (i1 c_96_48 (i3 c_96_49 rfl ?_)))))
    refine i80 (As := [.int (wI (σ (x0 + 13) 2)), .int (wI 3), .int (wI x4)]) (rest := []) c_96_51 mi_56 rfl rfl (Nat.le_of_ble_eq_true rfl) (Nat.le_of_ble_eq_true rfl) (lo (lyt_13 hx0) (by have := tw_b hx0; omega)) (q_put (v2 := w13) (ow_orders hx0) (rge_ K1 rfl) (show 0 ≤ σ (x0 + 13) 2 ∧ σ (x0 + 13) 2 < (uc (uc σ (x0 + 14) (u1 (u1 (u1 (fl_ (σ (x0 + 14)) ((σ (x0 + 13) 2) * 6) ((σ (x0 + 13) 2) * 6 + 6) 0) ((σ (x0 + 13) 2) * 6 + 0) w4) ((σ (x0 + 13) 2) * 6 + 1) w7) ((σ (x0 + 13) 2) * 6 + 2) w10)) (x0 + 13) (u1 (σ (x0 + 13)) 2 ((σ (x0 + 13) 2) + 1))) (x0 + 13) 2 by rw [(congrFun (uc_s _ _ _) _)]; exact b3) (by decide) e14 r15 ?_)
    show wi (d + 3) 96 54 [.ref x0, .int (wI x1), .int (wI x2), .int (wI x3), .int (wI x4), .int (wI x5), .int (wI (σ (x0 + 13) 2))] [] S (uc (uc (uc σ (x0 + 14) (u1 (u1 (u1 (fl_ (σ (x0 + 14)) ((σ (x0 + 13) 2) * 6) ((σ (x0 + 13) 2) * 6 + 6) 0) ((σ (x0 + 13) 2) * 6 + 0) w4) ((σ (x0 + 13) 2) * 6 + 1) w7) ((σ (x0 + 13) 2) * 6 + 2) w10)) (x0 + 13) (u1 (σ (x0 + 13)) 2 ((σ (x0 + 13) 2) + 1))) (x0 + 14) (u1 ((uc (uc σ (x0 + 14) (u1 (u1 (u1 (fl_ (σ (x0 + 14)) ((σ (x0 + 13) 2) * 6) ((σ (x0 + 13) 2) * 6 + 6) 0) ((σ (x0 + 13) 2) * 6 + 0) w4) ((σ (x0 + 13) 2) * 6 + 1) w7) ((σ (x0 + 13) 2) * 6 + 2) w10)) (x0 + 13) (u1 (σ (x0 + 13)) 2 ((σ (x0 + 13) 2) + 1))) (x0 + 14)) ((σ (x0 + 13) 2) * 6 + 3) w13)) τ Q
    obtain ⟨w16, e17, r18, t⟩ := t
    refine wi_s (σ1 := uc (uc σ (x0 + 14) (u1 (u1 (u1 (u1 (fl_ (σ (x0 + 14)) ((σ (x0 + 13) 2) * 6) ((σ (x0 + 13) 2) * 6 + 6) 0) ((σ (x0 + 13) 2) * 6 + 0) w4) ((σ (x0 + 13) 2) * 6 + 1) w7) ((σ (x0 + 13) 2) * 6 + 2) w10) ((σ (x0 + 13) 2) * 6 + 3) w13)) (x0 + 13) (u1 (σ (x0 + 13)) 2 ((σ (x0 + 13) 2) + 1))) (wr_ (uc_ns (uc_s _ _ _) (by have := tw_b hx0; have := tw_b hx0; omega)) (uc_cm (uc_uc _ _ _ _) (by have := tw_b hx0; have := tw_b hx0; omega))) (i5 c_96_54 rfl (i45 c_96_55 (lo (lyt_0 hx0) (by have := tw_b hx0; omega)) (lro (lrt_6 hx0)) (i3 c_96_58 rfl (i1 c_96_60 (i3 c_96_61 rfl ?_)))))
    refine i80 (As := [.int (wI (σ (x0 + 13) 2)), .int (wI 4), .int (wI x5)]) (rest := []) c_96_63 mi_56 rfl rfl (Nat.le_of_ble_eq_true rfl) (Nat.le_of_ble_eq_true rfl) (lo (lyt_13 hx0) (by have := tw_b hx0; omega)) (q_put (v2 := w16) (ow_orders hx0) (rge_ K1 rfl) (show 0 ≤ σ (x0 + 13) 2 ∧ σ (x0 + 13) 2 < (uc (uc σ (x0 + 14) (u1 (u1 (u1 (u1 (fl_ (σ (x0 + 14)) ((σ (x0 + 13) 2) * 6) ((σ (x0 + 13) 2) * 6 + 6) 0) ((σ (x0 + 13) 2) * 6 + 0) w4) ((σ (x0 + 13) 2) * 6 + 1) w7) ((σ (x0 + 13) 2) * 6 + 2) w10) ((σ (x0 + 13) 2) * 6 + 3) w13)) (x0 + 13) (u1 (σ (x0 + 13)) 2 ((σ (x0 + 13) 2) + 1))) (x0 + 13) 2 by rw [(congrFun (uc_s _ _ _) _)]; exact b3) (by decide) e17 r18 ?_)
    show wi (d + 3) 96 66 [.ref x0, .int (wI x1), .int (wI x2), .int (wI x3), .int (wI x4), .int (wI x5), .int (wI (σ (x0 + 13) 2))] [] S (uc (uc (uc σ (x0 + 14) (u1 (u1 (u1 (u1 (fl_ (σ (x0 + 14)) ((σ (x0 + 13) 2) * 6) ((σ (x0 + 13) 2) * 6 + 6) 0) ((σ (x0 + 13) 2) * 6 + 0) w4) ((σ (x0 + 13) 2) * 6 + 1) w7) ((σ (x0 + 13) 2) * 6 + 2) w10) ((σ (x0 + 13) 2) * 6 + 3) w13)) (x0 + 13) (u1 (σ (x0 + 13)) 2 ((σ (x0 + 13) 2) + 1))) (x0 + 14) (u1 ((uc (uc σ (x0 + 14) (u1 (u1 (u1 (u1 (fl_ (σ (x0 + 14)) ((σ (x0 + 13) 2) * 6) ((σ (x0 + 13) 2) * 6 + 6) 0) ((σ (x0 + 13) 2) * 6 + 0) w4) ((σ (x0 + 13) 2) * 6 + 1) w7) ((σ (x0 + 13) 2) * 6 + 2) w10) ((σ (x0 + 13) 2) * 6 + 3) w13)) (x0 + 13) (u1 (σ (x0 + 13)) 2 ((σ (x0 + 13) 2) + 1))) (x0 + 14)) ((σ (x0 + 13) 2) * 6 + 4) w16)) τ Q
    refine wi_s (σ1 := uc (uc σ (x0 + 14) (u1 (u1 (u1 (u1 (u1 (fl_ (σ (x0 + 14)) ((σ (x0 + 13) 2) * 6) ((σ (x0 + 13) 2) * 6 + 6) 0) ((σ (x0 + 13) 2) * 6 + 0) w4) ((σ (x0 + 13) 2) * 6 + 1) w7) ((σ (x0 + 13) 2) * 6 + 2) w10) ((σ (x0 + 13) 2) * 6 + 3) w13) ((σ (x0 + 13) 2) * 6 + 4) w16)) (x0 + 13) (u1 (σ (x0 + 13)) 2 ((σ (x0 + 13) 2) + 1))) (wr_ (uc_ns (uc_s _ _ _) (by have := tw_b hx0; have := tw_b hx0; omega)) (uc_cm (uc_uc _ _ _ _) (by have := tw_b hx0; have := tw_b hx0; omega))) (i3 c_96_66 rfl ?_)
    exact i90 c_96_68 t
  · have t := iF t ha2
    refine i80 (As := []) (rest := []) c_96_4 mi_54 rfl rfl (Nat.le_of_ble_eq_true rfl) (Nat.le_of_ble_eq_true rfl) (lo (lyt_13 hx0) (by have := tw_b hx0; omega)) (q_addN (ow_orders hx0) (by have q : σ (x0 + 13) 2 = σ (x0 + 13) 2 := rfl; rw [q]; omega) ?_)
    show wi (d + 3) 96 7 [.ref x0, .int (wI x1), .int (wI x2), .int (wI x3), .int (wI x4), .int (wI x5), .retAddr 0] [.int (wI (-1))] S σ τ Q
    refine i6 (L' := [.ref x0, .int (wI x1), .int (wI x2), .int (wI x3), .int (wI x4), .int (wI x5), .int (wI (-1))]) c_96_7 rfl (i5 c_96_9 rfl (i45 c_96_10 (lo (lyt_0 hx0) (by have := tw_b hx0; omega)) (lro (lrt_6 hx0)) (i3 c_96_13 rfl (i1 c_96_15 (i3 c_96_16 rfl ?_)))))
    refine i80 (As := [.int (wI (-1)), .int (wI 0), .int (wI x1)]) (rest := []) c_96_17 mi_56 rfl rfl (Nat.le_of_ble_eq_true rfl) (Nat.le_of_ble_eq_true rfl) (lo (lyt_13 hx0) (by have := tw_b hx0; omega)) (q_putN (ow_orders hx0) (by decide) (by omega) ?_)
    show wi (d + 3) 96 20 [.ref x0, .int (wI x1), .int (wI x2), .int (wI x3), .int (wI x4), .int (wI x5), .int (wI (-1))] [] S σ τ Q
    refine i5 c_96_20 rfl (i45 c_96_21 (lo (lyt_0 hx0) (by have := tw_b hx0; omega)) (lro (lrt_6 hx0)) (i3 c_96_24 rfl (i1 c_96_26 (i3 c_96_27 rfl ?_))))
    refine i80 (As := [.int (wI (-1)), .int (wI 1), .int (wI x2)]) (rest := []) c_96_28 mi_56 rfl rfl (Nat.le_of_ble_eq_true rfl) (Nat.le_of_ble_eq_true rfl) (lo (lyt_13 hx0) (by have := tw_b hx0; omega)) (q_putN (ow_orders hx0) (by decide) (by omega) ?_)
    show wi (d + 3) 96 31 [.ref x0, .int (wI x1), .int (wI x2), .int (wI x3), .int (wI x4), .int (wI x5), .int (wI (-1))] [] S σ τ Q
    refine i5 c_96_31 rfl (i45 c_96_32 (lo (lyt_0 hx0) (by have := tw_b hx0; omega)) (lro (lrt_6 hx0)) (i3 c_96_35 rfl (i1 c_96_37 (i3 c_96_38 rfl ?_))))
    refine i80 (As := [.int (wI (-1)), .int (wI 2), .int (wI x3)]) (rest := []) c_96_39 mi_56 rfl rfl (Nat.le_of_ble_eq_true rfl) (Nat.le_of_ble_eq_true rfl) (lo (lyt_13 hx0) (by have := tw_b hx0; omega)) (q_putN (ow_orders hx0) (by decide) (by omega) ?_)
    show wi (d + 3) 96 42 [.ref x0, .int (wI x1), .int (wI x2), .int (wI x3), .int (wI x4), .int (wI x5), .int (wI (-1))] [] S σ τ Q
    refine i5 c_96_42 rfl (i45 c_96_43 (lo (lyt_0 hx0) (by have := tw_b hx0; omega)) (lro (lrt_6 hx0)) (i3 c_96_46 rfl (i1 c_96_48 (i3 c_96_49 rfl ?_))))
    refine i80 (As := [.int (wI (-1)), .int (wI 3), .int (wI x4)]) (rest := []) c_96_51 mi_56 rfl rfl (Nat.le_of_ble_eq_true rfl) (Nat.le_of_ble_eq_true rfl) (lo (lyt_13 hx0) (by have := tw_b hx0; omega)) (q_putN (ow_orders hx0) (by decide) (by omega) ?_)
    show wi (d + 3) 96 54 [.ref x0, .int (wI x1), .int (wI x2), .int (wI x3), .int (wI x4), .int (wI x5), .int (wI (-1))] [] S σ τ Q
    refine i5 c_96_54 rfl (i45 c_96_55 (lo (lyt_0 hx0) (by have := tw_b hx0; omega)) (lro (lrt_6 hx0)) (i3 c_96_58 rfl (i1 c_96_60 (i3 c_96_61 rfl ?_))))
    refine i80 (As := [.int (wI (-1)), .int (wI 4), .int (wI x5)]) (rest := []) c_96_63 mi_56 rfl rfl (Nat.le_of_ble_eq_true rfl) (Nat.le_of_ble_eq_true rfl) (lo (lyt_13 hx0) (by have := tw_b hx0; omega)) (q_putN (ow_orders hx0) (by decide) (by omega) ?_)
    show wi (d + 3) 96 66 [.ref x0, .int (wI x1), .int (wI x2), .int (wI x3), .int (wI x4), .int (wI x5), .int (wI (-1))] [] S σ τ Q
    refine i3 c_96_66 rfl ?_
    exact i90 c_96_68 t
theorem q_96 {d : Nat} {S : zS} {σ τ : zI} {Q : zQ} {tn : Nat} {kind : Int} {pieces : Int} {price : Int} {from_ : Int} {to : Int} (htn : tw tn) (p0 : rg kind) (p1 : rg pieces) (p2 : rg price) (p3 : rg from_) (p4 : rg to) (t : Q (some (.int (wI (if σ (tn + 13) 2 < 80 then σ (tn + 13) 2 else -1)))) S (uc (uc σ (tn + 14) (if σ (tn + 13) 2 < 80 then u1 (u1 (u1 (u1 (u1 (fl_ (σ (tn + 14)) (σ (tn + 13) 2 * 6) (σ (tn + 13) 2 * 6 + 6) 0) (σ (tn + 13) 2 * 6 + 0) (kind)) (σ (tn + 13) 2 * 6 + 1) (pieces)) (σ (tn + 13) 2 * 6 + 2) (price)) (σ (tn + 13) 2 * 6 + 3) (from_)) (σ (tn + 13) 2 * 6 + 4) (to) else σ (tn + 14))) (tn + 13) (if σ (tn + 13) 2 < 80 then u1 (σ (tn + 13)) 2 (σ (tn + 13) 2 + 1) else σ (tn + 13))) τ) : wc (d + 3) 96 [.ref tn, .int (wI kind), .int (wI pieces), .int (wI price), .int (wI from_), .int (wI to)] S σ τ Q := by
  refine wc_ok fun K => ?_
  have hc := (ow_orders htn K).2.2.2.2.2.1
  refine wc_of mi_96 rfl (u_96_0 htn ?_)
  by_cases c : σ (tn + 13) 2 < 80
  · rw [if_pos c, if_pos c, if_pos c] at t
    rw [if_pos c, u1_s]
    repeat' (first | exact t | refine ⟨_, rfl, by omega, ?_⟩ | refine ⟨by assumption, ?_⟩ | refine ⟨by omega, ?_⟩ | refine ifI (fun _ => ?_) (fun _ => ?_) | (exfalso; omega))
  · rw [if_neg c, if_neg c, if_neg c, uc_id, uc_id] at t
    rw [if_neg c]
    exact t
-- method 101: MillTown$Town.startWork(IIIII)V
theorem c_101_0 : pg_cd 101 0 = (5, 1, 0, 0, 0) := by decide +kernel
theorem c_101_1 : pg_cd 101 1 = (45, 8, 32, 5, 0) := by decide +kernel
theorem c_101_4 : pg_cd 101 4 = (3, 1, 0, 1, 0) := by decide +kernel
theorem c_101_5 : pg_cd 101 5 = (1, 1, 0, 0, 3) := by decide +kernel
theorem c_101_6 : pg_cd 101 6 = (3, 1, 0, 2, 0) := by decide +kernel
theorem c_101_7 : pg_cd 101 7 = (80, 56, 60, 0, 0) := by decide +kernel
theorem c_101_10 : pg_cd 101 10 = (5, 1, 0, 0, 0) := by decide +kernel
theorem c_101_11 : pg_cd 101 11 = (45, 8, 32, 5, 0) := by decide +kernel
theorem c_101_14 : pg_cd 101 14 = (3, 1, 0, 1, 0) := by decide +kernel
theorem c_101_15 : pg_cd 101 15 = (1, 1, 0, 0, 4) := by decide +kernel
theorem c_101_16 : pg_cd 101 16 = (3, 1, 0, 3, 0) := by decide +kernel
theorem c_101_17 : pg_cd 101 17 = (80, 56, 60, 0, 0) := by decide +kernel
theorem c_101_20 : pg_cd 101 20 = (5, 1, 0, 0, 0) := by decide +kernel
theorem c_101_21 : pg_cd 101 21 = (45, 8, 32, 5, 0) := by decide +kernel
theorem c_101_24 : pg_cd 101 24 = (3, 1, 0, 1, 0) := by decide +kernel
theorem c_101_25 : pg_cd 101 25 = (1, 1, 0, 0, 5) := by decide +kernel
theorem c_101_26 : pg_cd 101 26 = (3, 2, 0, 4, 0) := by decide +kernel
theorem c_101_28 : pg_cd 101 28 = (80, 56, 60, 0, 0) := by decide +kernel
theorem c_101_31 : pg_cd 101 31 = (5, 1, 0, 0, 0) := by decide +kernel
theorem c_101_32 : pg_cd 101 32 = (45, 8, 32, 5, 0) := by decide +kernel
theorem c_101_35 : pg_cd 101 35 = (3, 1, 0, 1, 0) := by decide +kernel
theorem c_101_36 : pg_cd 101 36 = (1, 2, 0, 0, 6) := by decide +kernel
theorem c_101_38 : pg_cd 101 38 = (3, 2, 0, 5, 0) := by decide +kernel
theorem c_101_40 : pg_cd 101 40 = (80, 56, 60, 0, 0) := by decide +kernel
theorem c_101_43 : pg_cd 101 43 = (94, 0, 0, 0, 0) := by decide +kernel
theorem mi_101 : pg_mc 101 = 8 ∧ pg_na 101 = 5 ∧ pg_mx 101 = 6 := by decide +kernel
set_option maxRecDepth 20000 in
theorem u_101_0 {d : Nat} {S : zS} {σ τ : zI} {Q : zQ} {x0 : Nat} {x1 : Int} {x2 : Int} {x3 : Int} {x4 : Int} {x5 : Int} (hx0 : tw x0) (t : (rg x1) ∧ (0 ≤ x1 ∧ x1 < (σ (x0 + 11) 2)) ∧ ∃ w3 : Int, wI w3 = wI x2 ∧ rg w3 ∧ ∃ w6 : Int, wI w6 = wI x3 ∧ rg w6 ∧ ∃ w9 : Int, wI w9 = wI x4 ∧ rg w9 ∧ ∃ w12 : Int, wI w12 = wI x5 ∧ rg w12 ∧ Q none S (uc σ (x0 + 12) (u1 (u1 (u1 (u1 (σ (x0 + 12)) (x1 * 9 + 3) w3) (x1 * 9 + 4) w6) (x1 * 9 + 5) w9) (x1 * 9 + 6) w12)) τ) : wi (d + 1) 101 0 [.ref x0, .int (wI x1), .int (wI x2), .int (wI x3), .int (wI x4), .int (wI x5)] [] S σ τ Q := by
  obtain ⟨r1, t⟩ := t
  obtain ⟨b2, t⟩ := t
  obtain ⟨w3, e4, r5, t⟩ := t
  refine i5 c_101_0 rfl (i45 c_101_1 (lo (lyt_0 hx0) (by have := tw_b hx0; omega)) (lro (lrt_5 hx0)) (i3 c_101_4 rfl (i1 c_101_5 (i3 c_101_6 rfl ?_))))
  refine i80 (As := [.int (wI x1), .int (wI 3), .int (wI x2)]) (rest := []) c_101_7 mi_56 rfl rfl (Nat.le_of_ble_eq_true rfl) (Nat.le_of_ble_eq_true rfl) (lo (lyt_11 hx0) (by have := tw_b hx0; omega)) (q_put (v2 := w3) (ow_persons hx0) r1 b2 (by decide) e4 r5 ?_)
  show wi (d + 1) 101 10 [.ref x0, .int (wI x1), .int (wI x2), .int (wI x3), .int (wI x4), .int (wI x5)] [] S (uc σ (x0 + 12) (u1 (σ (x0 + 12)) (x1 * 9 + 3) w3)) τ Q
  obtain ⟨w6, e7, r8, t⟩ := t
  refine i5 c_101_10 rfl (i45 c_101_11 (lo (lyt_0 hx0) (by have := tw_b hx0; omega)) (lro (lrt_5 hx0)) (i3 c_101_14 rfl (i1 c_101_15 (i3 c_101_16 rfl ?_))))
  refine i80 (As := [.int (wI x1), .int (wI 4), .int (wI x3)]) (rest := []) c_101_17 mi_56 rfl rfl (Nat.le_of_ble_eq_true rfl) (Nat.le_of_ble_eq_true rfl) (lo (lyt_11 hx0) (by have := tw_b hx0; omega)) (q_put (v2 := w6) (ow_persons hx0) r1 (show 0 ≤ x1 ∧ x1 < (uc σ (x0 + 12) (u1 (σ (x0 + 12)) (x1 * 9 + 3) w3)) (x0 + 11) 2 by rw [(congrFun (uc_ns rfl (by have := tw_b hx0; have := tw_b hx0; omega)) _)]; exact b2) (by decide) e7 r8 ?_)
  show wi (d + 1) 101 20 [.ref x0, .int (wI x1), .int (wI x2), .int (wI x3), .int (wI x4), .int (wI x5)] [] S (uc (uc σ (x0 + 12) (u1 (σ (x0 + 12)) (x1 * 9 + 3) w3)) (x0 + 12) (u1 ((uc σ (x0 + 12) (u1 (σ (x0 + 12)) (x1 * 9 + 3) w3)) (x0 + 12)) (x1 * 9 + 4) w6)) τ Q
  obtain ⟨w9, e10, r11, t⟩ := t
  refine wi_s (σ1 := uc σ (x0 + 12) (u1 (u1 (σ (x0 + 12)) (x1 * 9 + 3) w3) (x1 * 9 + 4) w6)) (wr_ (uc_s _ _ _) (uc_uc _ _ _ _)) (i5 c_101_20 rfl (i45 c_101_21 (lo (lyt_0 hx0) (by have := tw_b hx0; omega)) (lro (lrt_5 hx0)) (i3 c_101_24 rfl (i1 c_101_25 (i3 c_101_26 rfl ?_)))))
  refine i80 (As := [.int (wI x1), .int (wI 5), .int (wI x4)]) (rest := []) c_101_28 mi_56 rfl rfl (Nat.le_of_ble_eq_true rfl) (Nat.le_of_ble_eq_true rfl) (lo (lyt_11 hx0) (by have := tw_b hx0; omega)) (q_put (v2 := w9) (ow_persons hx0) r1 (show 0 ≤ x1 ∧ x1 < (uc σ (x0 + 12) (u1 (u1 (σ (x0 + 12)) (x1 * 9 + 3) w3) (x1 * 9 + 4) w6)) (x0 + 11) 2 by rw [(congrFun (uc_ns rfl (by have := tw_b hx0; have := tw_b hx0; omega)) _)]; exact b2) (by decide) e10 r11 ?_)
  show wi (d + 1) 101 31 [.ref x0, .int (wI x1), .int (wI x2), .int (wI x3), .int (wI x4), .int (wI x5)] [] S (uc (uc σ (x0 + 12) (u1 (u1 (σ (x0 + 12)) (x1 * 9 + 3) w3) (x1 * 9 + 4) w6)) (x0 + 12) (u1 ((uc σ (x0 + 12) (u1 (u1 (σ (x0 + 12)) (x1 * 9 + 3) w3) (x1 * 9 + 4) w6)) (x0 + 12)) (x1 * 9 + 5) w9)) τ Q
  obtain ⟨w12, e13, r14, t⟩ := t
  refine wi_s (σ1 := uc σ (x0 + 12) (u1 (u1 (u1 (σ (x0 + 12)) (x1 * 9 + 3) w3) (x1 * 9 + 4) w6) (x1 * 9 + 5) w9)) (wr_ (uc_s _ _ _) (uc_uc _ _ _ _)) (i5 c_101_31 rfl (i45 c_101_32 (lo (lyt_0 hx0) (by have := tw_b hx0; omega)) (lro (lrt_5 hx0)) (i3 c_101_35 rfl (i1 c_101_36 (i3 c_101_38 rfl ?_)))))
  refine i80 (As := [.int (wI x1), .int (wI 6), .int (wI x5)]) (rest := []) c_101_40 mi_56 rfl rfl (Nat.le_of_ble_eq_true rfl) (Nat.le_of_ble_eq_true rfl) (lo (lyt_11 hx0) (by have := tw_b hx0; omega)) (q_put (v2 := w12) (ow_persons hx0) r1 (show 0 ≤ x1 ∧ x1 < (uc σ (x0 + 12) (u1 (u1 (u1 (σ (x0 + 12)) (x1 * 9 + 3) w3) (x1 * 9 + 4) w6) (x1 * 9 + 5) w9)) (x0 + 11) 2 by rw [(congrFun (uc_ns rfl (by have := tw_b hx0; have := tw_b hx0; omega)) _)]; exact b2) (by decide) e13 r14 ?_)
  show wi (d + 1) 101 43 [.ref x0, .int (wI x1), .int (wI x2), .int (wI x3), .int (wI x4), .int (wI x5)] [] S (uc (uc σ (x0 + 12) (u1 (u1 (u1 (σ (x0 + 12)) (x1 * 9 + 3) w3) (x1 * 9 + 4) w6) (x1 * 9 + 5) w9)) (x0 + 12) (u1 ((uc σ (x0 + 12) (u1 (u1 (u1 (σ (x0 + 12)) (x1 * 9 + 3) w3) (x1 * 9 + 4) w6) (x1 * 9 + 5) w9)) (x0 + 12)) (x1 * 9 + 6) w12)) τ Q
  refine wi_s (σ1 := uc σ (x0 + 12) (u1 (u1 (u1 (u1 (σ (x0 + 12)) (x1 * 9 + 3) w3) (x1 * 9 + 4) w6) (x1 * 9 + 5) w9) (x1 * 9 + 6) w12)) (wr_ (uc_s _ _ _) (uc_uc _ _ _ _)) ?_
  exact i94 c_101_43 t
theorem q_101 {d : Nat} {S : zS} {σ τ : zI} {Q : zQ} {tn : Nat} {p : Int} {sort : Int} {mill : Int} {n : Int} {teacher : Int} (htn : tw tn) (p0 : 0 ≤ p ∧ p < σ (tn + 11) 2) (p1 : rg sort) (p2 : rg mill) (p3 : rg n) (p4 : rg teacher) (t : Q none S (uc σ (tn + 12) (u1 (u1 (u1 (u1 (σ (tn + 12)) (p * 9 + 3) sort) (p * 9 + 4) mill) (p * 9 + 5) n) (p * 9 + 6) teacher)) τ) : wc (d + 1) 101 [.ref tn, .int (wI p), .int (wI sort), .int (wI mill), .int (wI n), .int (wI teacher)] S σ τ Q := by
  refine wc_ok fun K => ?_
  have kr := kO_r K (tn + 11) 2
  exact wc_of mi_101 rfl (u_101_0 htn ⟨by omega, p0, _, rfl, p1, _, rfl, p2, _, rfl, p3, _, rfl, p4, t⟩)
-- method 102: MillTown$Town.clearWork(I)V
theorem c_102_0 : pg_cd 102 0 = (5, 1, 0, 0, 0) := by decide +kernel
theorem c_102_1 : pg_cd 102 1 = (3, 1, 0, 1, 0) := by decide +kernel
theorem c_102_2 : pg_cd 102 2 = (1, 1, 0, 0, 0) := by decide +kernel
theorem c_102_3 : pg_cd 102 3 = (1, 1, 0, 0, (-1)) := by decide +kernel
theorem c_102_4 : pg_cd 102 4 = (1, 1, 0, 0, 0) := by decide +kernel
theorem c_102_5 : pg_cd 102 5 = (1, 1, 0, 0, (-1)) := by decide +kernel
theorem c_102_6 : pg_cd 102 6 = (80, 101, 113, 0, 0) := by decide +kernel
theorem c_102_9 : pg_cd 102 9 = (5, 1, 0, 0, 0) := by decide +kernel
theorem c_102_10 : pg_cd 102 10 = (45, 8, 32, 5, 0) := by decide +kernel
theorem c_102_13 : pg_cd 102 13 = (3, 1, 0, 1, 0) := by decide +kernel
theorem c_102_14 : pg_cd 102 14 = (1, 2, 0, 0, 7) := by decide +kernel
theorem c_102_16 : pg_cd 102 16 = (1, 1, 0, 0, 0) := by decide +kernel
theorem c_102_17 : pg_cd 102 17 = (80, 56, 60, 0, 0) := by decide +kernel
theorem c_102_20 : pg_cd 102 20 = (94, 0, 0, 0, 0) := by decide +kernel
theorem mi_102 : pg_mc 102 = 8 ∧ pg_na 102 = 1 ∧ pg_mx 102 = 2 := by decide +kernel
set_option maxRecDepth 20000 in
theorem u_102_0 {d : Nat} {S : zS} {σ τ : zI} {Q : zQ} {x0 : Nat} {x1 : Int} (hx0 : tw x0) (t : (0 ≤ x1 ∧ x1 < σ (x0 + 11) 2) ∧ (rg x1) ∧ (0 ≤ x1 ∧ x1 < (σ (x0 + 11) 2)) ∧ Q none S (uc σ (x0 + 12) (u1 (u1 (u1 (u1 (u1 ((σ (x0 + 12))) (x1 * 9 + 3) 0) (x1 * 9 + 4) (-1)) (x1 * 9 + 5) 0) (x1 * 9 + 6) (-1)) (x1 * 9 + 7) 0)) τ) : wi (d + 2) 102 0 [.ref x0, .int (wI x1)] [] S σ τ Q := by
  obtain ⟨p1, t⟩ := t
  refine i5 c_102_0 rfl (i3 c_102_1 rfl (i1 c_102_2 (i1 c_102_3 (i1 c_102_4 (i1 c_102_5 ?_)))))
  refine i80 (As := [.int (wI x1), .int (wI 0), .int (wI (-1)), .int (wI 0), .int (wI (-1))]) (rest := []) c_102_6 mi_101 rfl rfl (Nat.le_of_ble_eq_true rfl) (Nat.le_of_ble_eq_true rfl) (lo (lyt_0 hx0) (by have := tw_b hx0; omega)) (q_101 hx0 p1 (by decide) (by decide) (by decide) (by decide) ?_)
  show wi (d + 2) 102 9 [.ref x0, .int (wI x1)] [] S (uc σ (x0 + 12) (u1 (u1 (u1 (u1 ((σ (x0 + 12))) (x1 * 9 + 3) 0) (x1 * 9 + 4) (-1)) (x1 * 9 + 5) 0) (x1 * 9 + 6) (-1))) τ Q
  obtain ⟨r2, t⟩ := t
  obtain ⟨b3, t⟩ := t
  refine i5 c_102_9 rfl (i45 c_102_10 (lo (lyt_0 hx0) (by have := tw_b hx0; omega)) (lro (lrt_5 hx0)) (i3 c_102_13 rfl (i1 c_102_14 (i1 c_102_16 ?_))))
  refine i80 (As := [.int (wI x1), .int (wI 7), .int (wI 0)]) (rest := []) c_102_17 mi_56 rfl rfl (Nat.le_of_ble_eq_true rfl) (Nat.le_of_ble_eq_true rfl) (lo (lyt_11 hx0) (by have := tw_b hx0; omega)) (q_put (v2 := 0) (ow_persons hx0) r2 (show 0 ≤ x1 ∧ x1 < (uc σ (x0 + 12) (u1 (u1 (u1 (u1 ((σ (x0 + 12))) (x1 * 9 + 3) 0) (x1 * 9 + 4) (-1)) (x1 * 9 + 5) 0) (x1 * 9 + 6) (-1))) (x0 + 11) 2 by rw [(congrFun (uc_ns rfl (by have := tw_b hx0; have := tw_b hx0; omega)) _)]; exact b3) (by decide) rfl (by decide) ?_)
  show wi (d + 2) 102 20 [.ref x0, .int (wI x1)] [] S (uc (uc σ (x0 + 12) (u1 (u1 (u1 (u1 ((σ (x0 + 12))) (x1 * 9 + 3) 0) (x1 * 9 + 4) (-1)) (x1 * 9 + 5) 0) (x1 * 9 + 6) (-1))) (x0 + 12) (u1 ((uc σ (x0 + 12) (u1 (u1 (u1 (u1 ((σ (x0 + 12))) (x1 * 9 + 3) 0) (x1 * 9 + 4) (-1)) (x1 * 9 + 5) 0) (x1 * 9 + 6) (-1))) (x0 + 12)) (x1 * 9 + 7) 0)) τ Q
  refine wi_s (σ1 := uc σ (x0 + 12) (u1 (u1 (u1 (u1 (u1 ((σ (x0 + 12))) (x1 * 9 + 3) 0) (x1 * 9 + 4) (-1)) (x1 * 9 + 5) 0) (x1 * 9 + 6) (-1)) (x1 * 9 + 7) 0)) (wr_ (uc_s _ _ _) (uc_uc _ _ _ _)) ?_
  exact i94 c_102_20 t
theorem q_102 {d : Nat} {S : zS} {σ τ : zI} {Q : zQ} {tn : Nat} {p : Int} (htn : tw tn) (p0 : 0 ≤ p ∧ p < σ (tn + 11) 2) (t : Q none S (uc σ (tn + 12) (u1 (u1 (u1 (u1 (u1 (σ (tn + 12)) (p * 9 + 3) 0) (p * 9 + 4) (-1)) (p * 9 + 5) 0) (p * 9 + 6) (-1)) (p * 9 + 7) 0)) τ) : wc (d + 2) 102 [.ref tn, .int (wI p)] S σ τ Q := by
  refine wc_ok fun K => ?_
  have kr := kO_r K (tn + 11) 2
  refine wc_of mi_102 rfl (u_102_0 htn ?_)
  repeat' (first | exact t | refine ⟨_, rfl, by omega, ?_⟩ | refine ⟨by assumption, ?_⟩ | refine ⟨by omega, ?_⟩ | refine ifI (fun _ => ?_) (fun _ => ?_) | (exfalso; omega))
-- method 97: MillTown$Town.isWeaver(I)Z
theorem c_97_0 : pg_cd 97 0 = (5, 1, 0, 0, 0) := by decide +kernel
theorem c_97_1 : pg_cd 97 1 = (45, 8, 32, 5, 0) := by decide +kernel
theorem c_97_4 : pg_cd 97 4 = (3, 1, 0, 1, 0) := by decide +kernel
theorem c_97_5 : pg_cd 97 5 = (1, 1, 0, 0, 3) := by decide +kernel
theorem c_97_6 : pg_cd 97 6 = (80, 55, 92, 0, 0) := by decide +kernel
theorem c_97_9 : pg_cd 97 9 = (6, 1, 0, 2, 0) := by decide +kernel
theorem c_97_10 : pg_cd 97 10 = (3, 1, 0, 2, 0) := by decide +kernel
theorem c_97_11 : pg_cd 97 11 = (1, 1, 0, 0, 1) := by decide +kernel
theorem c_97_12 : pg_cd 97 12 = (37, 3, 0, 0, 8) := by decide +kernel
theorem c_97_15 : pg_cd 97 15 = (3, 1, 0, 2, 0) := by decide +kernel
theorem c_97_16 : pg_cd 97 16 = (1, 1, 0, 0, 2) := by decide +kernel
theorem c_97_17 : pg_cd 97 17 = (37, 3, 0, 1, 7) := by decide +kernel
theorem c_97_20 : pg_cd 97 20 = (1, 1, 0, 0, 1) := by decide +kernel
theorem c_97_21 : pg_cd 97 21 = (38, 3, 0, 0, 4) := by decide +kernel
theorem c_97_24 : pg_cd 97 24 = (1, 1, 0, 0, 0) := by decide +kernel
theorem c_97_25 : pg_cd 97 25 = (91, 0, 0, 0, 0) := by decide +kernel
theorem mi_97 : pg_mc 97 = 8 ∧ pg_na 97 = 1 ∧ pg_mx 97 = 3 := by decide +kernel
set_option maxRecDepth 20000 in
theorem u_97_0 {d : Nat} {S : zS} {σ τ : zI} {Q : zQ} {x0 : Nat} {x1 : Int} (hx0 : tw x0) (t : (rg x1) ∧ if (rt_ (σ (x0 + 11) 2) (σ (x0 + 12)) 9 3 x1) = 1 then (Q (some (.int (wI 1))) S σ τ) else (if (rt_ (σ (x0 + 11) 2) (σ (x0 + 12)) 9 3 x1) = 2 then (Q (some (.int (wI 1))) S σ τ) else (Q (some (.int (wI 0))) S σ τ))) : wi (d + 1) 97 0 [.ref x0, .int (wI x1), .retAddr 0] [] S σ τ Q := by
  obtain ⟨r1, t⟩ := t
  refine i5 c_97_0 rfl (i45 c_97_1 (lo (lyt_0 hx0) (by have := tw_b hx0; omega)) (lro (lrt_5 hx0)) (i3 c_97_4 rfl (i1 c_97_5 (wi_ok (fun K2 => ?_)))))
  refine i80 (As := [.int (wI x1), .int (wI 3)]) (rest := []) c_97_6 mi_55 rfl rfl (Nat.le_of_ble_eq_true rfl) (Nat.le_of_ble_eq_true rfl) (lo (lyt_11 hx0) (by have := tw_b hx0; omega)) (q_at (ow_persons hx0) r1 (by decide) ?_)
  show wi (d + 1) 97 9 [.ref x0, .int (wI x1), .retAddr 0] [.int (wI (rt_ (σ (x0 + 11) 2) (σ (x0 + 12)) 9 3 x1))] S σ τ Q
  refine i6 (L' := [.ref x0, .int (wI x1), .int (wI (rt_ (σ (x0 + 11) 2) (σ (x0 + 12)) 9 3 x1))]) c_97_9 rfl (i3 c_97_10 rfl (i1 c_97_11 ?_))
  refine i37 c_97_12 (rg_rt_ (fun k => kO_r K2 _ k) _ _ _ _) (by decide) rfl (fun hc => ?_) (fun hc => ?_)
  · have t := iT t hc
    have ha3 : (rt_ (σ (x0 + 11) 2) (σ (x0 + 12)) 9 3 x1) = 1 := hc
    refine i1 c_97_20 (i38 c_97_21 rfl ?_)
    exact i91 c_97_25 (by decide) t
  · have t := iF t hc
    have ha3 : ¬ ((rt_ (σ (x0 + 11) 2) (σ (x0 + 12)) 9 3 x1) = 1) := hc
    refine i3 c_97_15 rfl (i1 c_97_16 ?_)
    refine i37 c_97_17 (rg_rt_ (fun k => kO_r K2 _ k) _ _ _ _) (by decide) rfl (fun hc => ?_) (fun hc => ?_)
    · have t := iF t hc
      have ha4 : ¬ ((rt_ (σ (x0 + 11) 2) (σ (x0 + 12)) 9 3 x1) = 2) := hc
      refine i1 c_97_24 ?_
      exact i91 c_97_25 (by decide) t
    · have t := iT t (Decidable.not_not.mp hc)
      have ha4 : (rt_ (σ (x0 + 11) 2) (σ (x0 + 12)) 9 3 x1) = 2 := Decidable.not_not.mp hc
      refine i1 c_97_20 (i38 c_97_21 rfl ?_)
      exact i91 c_97_25 (by decide) t
theorem q_97 {d : Nat} {S : zS} {σ τ : zI} {Q : zQ} {tn : Nat} {p : Int} (htn : tw tn) (p0 : rg p) (t : Q (some (.int (wI (if rt_ (σ (tn + 11) 2) (σ (tn + 12)) 9 3 p = 1 ∨ rt_ (σ (tn + 11) 2) (σ (tn + 12)) 9 3 p = 2 then 1 else 0)))) S σ τ) : wc (d + 1) 97 [.ref tn, .int (wI p)] S σ τ Q := by
  refine wc_of mi_97 rfl (u_97_0 htn ⟨p0, ?_⟩)
  refine ifI (fun h => ?_) (fun h => ?_)
  · rw [if_pos (Or.inl h)] at t; exact t
  refine ifI (fun h2 => ?_) (fun h2 => ?_)
  · rw [if_pos (Or.inr h2)] at t; exact t
  · rw [if_neg (by omega)] at t; exact t
-- method 98: MillTown$Town.loomsOf(II)I
theorem c_98_0 : pg_cd 98 0 = (5, 1, 0, 0, 0) := by decide +kernel
theorem c_98_1 : pg_cd 98 1 = (3, 1, 0, 1, 0) := by decide +kernel
theorem c_98_2 : pg_cd 98 2 = (80, 97, 103, 0, 0) := by decide +kernel
theorem c_98_5 : pg_cd 98 5 = (36, 3, 0, 0, 20) := by decide +kernel
theorem c_98_8 : pg_cd 98 8 = (5, 1, 0, 0, 0) := by decide +kernel
theorem c_98_9 : pg_cd 98 9 = (45, 8, 32, 5, 0) := by decide +kernel
theorem c_98_12 : pg_cd 98 12 = (3, 1, 0, 1, 0) := by decide +kernel
theorem c_98_13 : pg_cd 98 13 = (1, 1, 0, 0, 4) := by decide +kernel
theorem c_98_14 : pg_cd 98 14 = (80, 55, 92, 0, 0) := by decide +kernel
theorem c_98_17 : pg_cd 98 17 = (3, 1, 0, 2, 0) := by decide +kernel
theorem c_98_18 : pg_cd 98 18 = (37, 3, 0, 1, 7) := by decide +kernel
theorem c_98_21 : pg_cd 98 21 = (1, 1, 0, 0, 1) := by decide +kernel
theorem c_98_22 : pg_cd 98 22 = (38, 3, 0, 0, 4) := by decide +kernel
theorem c_98_25 : pg_cd 98 25 = (1, 1, 0, 0, 0) := by decide +kernel
theorem c_98_26 : pg_cd 98 26 = (6, 1, 0, 3, 0) := by decide +kernel
theorem c_98_27 : pg_cd 98 27 = (3, 1, 0, 3, 0) := by decide +kernel
theorem c_98_28 : pg_cd 98 28 = (36, 3, 0, 0, 15) := by decide +kernel
theorem c_98_31 : pg_cd 98 31 = (5, 1, 0, 0, 0) := by decide +kernel
theorem c_98_32 : pg_cd 98 32 = (45, 8, 32, 5, 0) := by decide +kernel
theorem c_98_35 : pg_cd 98 35 = (3, 1, 0, 1, 0) := by decide +kernel
theorem c_98_36 : pg_cd 98 36 = (1, 1, 0, 0, 5) := by decide +kernel
theorem c_98_37 : pg_cd 98 37 = (80, 55, 92, 0, 0) := by decide +kernel
theorem c_98_40 : pg_cd 98 40 = (38, 3, 0, 0, 4) := by decide +kernel
theorem c_98_43 : pg_cd 98 43 = (1, 1, 0, 0, 0) := by decide +kernel
theorem c_98_44 : pg_cd 98 44 = (90, 0, 0, 0, 0) := by decide +kernel
theorem mi_98 : pg_mc 98 = 8 ∧ pg_na 98 = 2 ∧ pg_mx 98 = 4 := by decide +kernel
set_option maxRecDepth 20000 in
theorem u_98_0 {d : Nat} {S : zS} {σ τ : zI} {Q : zQ} {x0 : Nat} {x1 : Int} {x2 : Int} (hx0 : tw x0) (t : (rg x1) ∧ if rt_ (σ (x0 + 11) 2) (σ (x0 + 12)) 9 3 x1 = 1 ∨ rt_ (σ (x0 + 11) 2) (σ (x0 + 12)) 9 3 x1 = 2 then ((rg x2) ∧ if (rt_ (σ (x0 + 11) 2) (σ (x0 + 12)) 9 4 x1) = x2 then (Q (some (.int (wI (rt_ (σ (x0 + 11) 2) (σ (x0 + 12)) 9 5 x1)))) S σ τ) else (Q (some (.int (wI 0))) S σ τ)) else (Q (some (.int (wI 0))) S σ τ)) : wi (d + 2) 98 0 [.ref x0, .int (wI x1), .int (wI x2), .retAddr 0] [] S σ τ Q := by
  obtain ⟨r1, t⟩ := t
  refine i5 c_98_0 rfl (i3 c_98_1 rfl ?_)
  refine i80 (As := [.int (wI x1)]) (rest := []) c_98_2 mi_97 rfl rfl (Nat.le_of_ble_eq_true rfl) (Nat.le_of_ble_eq_true rfl) (lo (lyt_0 hx0) (by have := tw_b hx0; omega)) (q_97 hx0 r1 ?_)
  show wi (d + 2) 98 5 [.ref x0, .int (wI x1), .int (wI x2), .retAddr 0] [.int (wI (if rt_ (σ (x0 + 11) 2) (σ (x0 + 12)) 9 3 x1 = 1 ∨ rt_ (σ (x0 + 11) 2) (σ (x0 + 12)) 9 3 x1 = 2 then 1 else 0))] S σ τ Q
  refine i36e c_98_5 rfl (fun hc => ?_) (fun hc => ?_)
  · have t := iT t hc
    have ha2 : rt_ (σ (x0 + 11) 2) (σ (x0 + 12)) 9 3 x1 = 1 ∨ rt_ (σ (x0 + 11) 2) (σ (x0 + 12)) 9 3 x1 = 2 := hc
    refine i5 c_98_8 rfl (i45 c_98_9 (lo (lyt_0 hx0) (by have := tw_b hx0; omega)) (lro (lrt_5 hx0)) (i3 c_98_12 rfl (i1 c_98_13 (wi_ok (fun K3 => ?_)))))
    refine i80 (As := [.int (wI x1), .int (wI 4)]) (rest := []) c_98_14 mi_55 rfl rfl (Nat.le_of_ble_eq_true rfl) (Nat.le_of_ble_eq_true rfl) (lo (lyt_11 hx0) (by have := tw_b hx0; omega)) (q_at (ow_persons hx0) r1 (by decide) ?_)
    show wi (d + 2) 98 17 [.ref x0, .int (wI x1), .int (wI x2), .retAddr 0] [.int (wI (rt_ (σ (x0 + 11) 2) (σ (x0 + 12)) 9 4 x1))] S σ τ Q
    obtain ⟨r4, t⟩ := t
    refine i3 c_98_17 rfl ?_
    refine i37 c_98_18 (rg_rt_ (fun k => kO_r K3 _ k) _ _ _ _) r4 rfl (fun hc => ?_) (fun hc => ?_)
    · have t := iF t hc
      have ha5 : ¬ ((rt_ (σ (x0 + 11) 2) (σ (x0 + 12)) 9 4 x1) = x2) := hc
      refine i1 c_98_25 (i6 (L' := [.ref x0, .int (wI x1), .int (wI x2), .int (wI 0)]) c_98_26 rfl (i3 c_98_27 rfl (i36k (pc1 := 43) c_98_28 (by decide) (i1 c_98_43 ?_))))
      exact i90 c_98_44 t
    · have t := iT t (Decidable.not_not.mp hc)
      have ha5 : (rt_ (σ (x0 + 11) 2) (σ (x0 + 12)) 9 4 x1) = x2 := Decidable.not_not.mp hc
      refine i1 c_98_21 (i38 c_98_22 rfl (i6 (L' := [.ref x0, .int (wI x1), .int (wI x2), .int (wI 1)]) c_98_26 rfl (i3 c_98_27 rfl (i36k (pc1 := 31) c_98_28 (by decide) (i5 c_98_31 rfl (i45 c_98_32 (lo (lyt_0 hx0) (by have := tw_b hx0; omega)) (lro (lrt_5 hx0)) (i3 c_98_35 rfl (i1 c_98_36 ?_))))))))
      refine i80 (As := [.int (wI x1), .int (wI 5)]) (rest := []) c_98_37 mi_55 rfl rfl (Nat.le_of_ble_eq_true rfl) (Nat.le_of_ble_eq_true rfl) (lo (lyt_11 hx0) (by have := tw_b hx0; omega)) (q_at (ow_persons hx0) r1 (by decide) ?_)
      show wi (d + 2) 98 40 [.ref x0, .int (wI x1), .int (wI x2), .int (wI 1)] [.int (wI (rt_ (σ (x0 + 11) 2) (σ (x0 + 12)) 9 5 x1))] S σ τ Q
      refine i38 c_98_40 rfl ?_
      exact i90 c_98_44 t
  · have t := iF t hc
    have ha2 : ¬ (rt_ (σ (x0 + 11) 2) (σ (x0 + 12)) 9 3 x1 = 1 ∨ rt_ (σ (x0 + 11) 2) (σ (x0 + 12)) 9 3 x1 = 2) := hc
    refine i1 c_98_25 (i6 (L' := [.ref x0, .int (wI x1), .int (wI x2), .int (wI 0)]) c_98_26 rfl (i3 c_98_27 rfl (i36k (pc1 := 43) c_98_28 (by decide) (i1 c_98_43 ?_))))
    exact i90 c_98_44 t
theorem q_98 {d : Nat} {S : zS} {σ τ : zI} {Q : zQ} {tn : Nat} {p : Int} {m : Int} (htn : tw tn) (p0 : rg p) (p1 : rg m) (t : Q (some (.int (wI (if (rt_ (σ (tn + 11) 2) (σ (tn + 12)) 9 3 p = 1 ∨ rt_ (σ (tn + 11) 2) (σ (tn + 12)) 9 3 p = 2) ∧ rt_ (σ (tn + 11) 2) (σ (tn + 12)) 9 4 p = m then rt_ (σ (tn + 11) 2) (σ (tn + 12)) 9 5 p else 0)))) S σ τ) : wc (d + 2) 98 [.ref tn, .int (wI p), .int (wI m)] S σ τ Q := by
  refine wc_of mi_98 rfl (u_98_0 htn ⟨p0, ?_⟩)
  refine ifI (fun h => ?_) (fun h => ?_)
  · refine ⟨p1, ?_⟩
    refine ifI (fun h2 => ?_) (fun h2 => ?_)
    · rw [if_pos ⟨h, h2⟩] at t; exact t
    · rw [if_neg (fun q => h2 q.2)] at t; exact t
  · rw [if_neg (fun q => h q.1)] at t; exact t
-- method 99: MillTown$Town.loomsHad(I)I
theorem c_99_0 : pg_cd 99 0 = (1, 1, 0, 0, 0) := by decide +kernel
theorem c_99_1 : pg_cd 99 1 = (6, 1, 0, 2, 0) := by decide +kernel
theorem c_99_2 : pg_cd 99 2 = (1, 1, 0, 0, 0) := by decide +kernel
theorem c_99_3 : pg_cd 99 3 = (6, 1, 0, 3, 0) := by decide +kernel
theorem c_99_4 : pg_cd 99 4 = (3, 1, 0, 3, 0) := by decide +kernel
theorem c_99_5 : pg_cd 99 5 = (5, 1, 0, 0, 0) := by decide +kernel
theorem c_99_6 : pg_cd 99 6 = (45, 8, 32, 5, 0) := by decide +kernel
theorem c_99_9 : pg_cd 99 9 = (43, 4, 89, 2, 0) := by decide +kernel
theorem c_99_12 : pg_cd 99 12 = (37, 3, 0, 3, 18) := by decide +kernel
theorem c_99_15 : pg_cd 99 15 = (3, 1, 0, 2, 0) := by decide +kernel
theorem c_99_16 : pg_cd 99 16 = (5, 1, 0, 0, 0) := by decide +kernel
theorem c_99_17 : pg_cd 99 17 = (3, 1, 0, 3, 0) := by decide +kernel
theorem c_99_18 : pg_cd 99 18 = (3, 1, 0, 1, 0) := by decide +kernel
theorem c_99_19 : pg_cd 99 19 = (80, 98, 107, 0, 0) := by decide +kernel
theorem c_99_22 : pg_cd 99 22 = (10, 1, 0, 0, 0) := by decide +kernel
theorem c_99_23 : pg_cd 99 23 = (6, 1, 0, 2, 0) := by decide +kernel
theorem c_99_24 : pg_cd 99 24 = (9, 3, 0, 3, 1) := by decide +kernel
theorem c_99_27 : pg_cd 99 27 = (38, 3, 0, 0, (-23)) := by decide +kernel
theorem c_99_30 : pg_cd 99 30 = (3, 1, 0, 2, 0) := by decide +kernel
theorem c_99_31 : pg_cd 99 31 = (90, 0, 0, 0, 0) := by decide +kernel
theorem mi_99 : pg_mc 99 = 8 ∧ pg_na 99 = 1 ∧ pg_mx 99 = 4 := by decide +kernel
set_option maxRecDepth 20000 in
theorem u_99_0 {d : Nat} {S : zS} {σ τ : zI} {Q : zQ} {x0 : Nat} {x1 : Int} (hx0 : tw x0) (t : wi (d + 3) 99 4 [.ref x0, .int (wI x1), .int (wI 0), .int (wI 0)] [] S σ τ Q) : wi (d + 3) 99 0 [.ref x0, .int (wI x1), .retAddr 0, .retAddr 0] [] S σ τ Q := by
  refine i1 c_99_0 (i6 (L' := [.ref x0, .int (wI x1), .int (wI 0), .retAddr 0]) c_99_1 rfl (i1 c_99_2 (i6 (L' := [.ref x0, .int (wI x1), .int (wI 0), .int (wI 0)]) c_99_3 rfl t)))
set_option maxRecDepth 20000 in
theorem u_99_4 {d : Nat} {S : zS} {σ τ : zI} {Q : zQ} {x0 : Nat} {x1 : Int} {x2 : Int} {x3 : Int} (hx0 : tw x0) (t : (rg x3) ∧ if (σ (x0 + 11) 2) ≤ x3 then (Q (some (.int (wI x2))) S σ τ) else ((rg x1) ∧ wi (d + 3) 99 4 [.ref x0, .int (wI x1), .int (wI (x2 + (if (rt_ (σ (x0 + 11) 2) (σ (x0 + 12)) 9 3 x3 = 1 ∨ rt_ (σ (x0 + 11) 2) (σ (x0 + 12)) 9 3 x3 = 2) ∧ rt_ (σ (x0 + 11) 2) (σ (x0 + 12)) 9 4 x3 = x1 then rt_ (σ (x0 + 11) 2) (σ (x0 + 12)) 9 5 x3 else 0))), .int (wI (x3 + 1))] [] S σ τ Q)) : wi (d + 3) 99 4 [.ref x0, .int (wI x1), .int (wI x2), .int (wI x3)] [] S σ τ Q := by
  refine i3 c_99_4 rfl (i5 c_99_5 rfl (i45 c_99_6 (lo (lyt_0 hx0) (by have := tw_b hx0; omega)) (lro (lrt_5 hx0)) (wi_ok (fun K1 => ?_))))
  obtain ⟨r2, t⟩ := t
  refine i43 (v := σ (x0 + 11) 2) c_99_9 (lo (lyt_11 hx0) (by have := tw_b hx0; omega)) rfl ?_
  refine i37 c_99_12 r2 (rge_ K1 rfl) rfl (fun hc => ?_) (fun hc => ?_)
  · have t := iT t hc
    have ha3 : (σ (x0 + 11) 2) ≤ x3 := hc
    refine i3 c_99_30 rfl ?_
    exact i90 c_99_31 t
  · have t := iF t hc
    have ha3 : ¬ ((σ (x0 + 11) 2) ≤ x3) := hc
    obtain ⟨r4, t⟩ := t
    refine i3 c_99_15 rfl (i5 c_99_16 rfl (i3 c_99_17 rfl (i3 c_99_18 rfl ?_)))
    refine i80 (As := [.int (wI x3), .int (wI x1)]) (rest := [.int (wI x2)]) c_99_19 mi_98 rfl rfl (Nat.le_of_ble_eq_true rfl) (Nat.le_of_ble_eq_true rfl) (lo (lyt_0 hx0) (by have := tw_b hx0; omega)) (q_98 hx0 r2 r4 ?_)
    show wi (d + 3) 99 22 [.ref x0, .int (wI x1), .int (wI x2), .int (wI x3)] [.int (wI (if (rt_ (σ (x0 + 11) 2) (σ (x0 + 12)) 9 3 x3 = 1 ∨ rt_ (σ (x0 + 11) 2) (σ (x0 + 12)) 9 3 x3 = 2) ∧ rt_ (σ (x0 + 11) 2) (σ (x0 + 12)) 9 4 x3 = x1 then rt_ (σ (x0 + 11) 2) (σ (x0 + 12)) 9 5 x3 else 0)), .int (wI x2)] S σ τ Q
    refine i10 c_99_22 (i6 (L' := [.ref x0, .int (wI x1), .int (wI (x2 + (if (rt_ (σ (x0 + 11) 2) (σ (x0 + 12)) 9 3 x3 = 1 ∨ rt_ (σ (x0 + 11) 2) (σ (x0 + 12)) 9 3 x3 = 2) ∧ rt_ (σ (x0 + 11) 2) (σ (x0 + 12)) 9 4 x3 = x1 then rt_ (σ (x0 + 11) 2) (σ (x0 + 12)) 9 5 x3 else 0))), .int (wI x3)]) c_99_23 rfl (i9 (L' := [.ref x0, .int (wI x1), .int (wI (x2 + (if (rt_ (σ (x0 + 11) 2) (σ (x0 + 12)) 9 3 x3 = 1 ∨ rt_ (σ (x0 + 11) 2) (σ (x0 + 12)) 9 3 x3 = 2) ∧ rt_ (σ (x0 + 11) 2) (σ (x0 + 12)) 9 4 x3 = x1 then rt_ (σ (x0 + 11) 2) (σ (x0 + 12)) 9 5 x3 else 0))), .int (wI (x3 + 1))]) c_99_24 rfl rfl (i38 c_99_27 rfl t)))
theorem q_99 {d : Nat} {S : zS} {σ τ : zI} {Q : zQ} {tn : Nat} {m : Int} {a : Int → Int} (htn : tw tn) (p0 : RT σ tn a) (p1 : Jv a) (p2 : rg m) (t : ∀ (v : Int), v = r_had a m (-1) → 0 ≤ v ∧ v ≤ 3000 → Q (some (.int (wI v))) S σ τ) : wc (d + 3) 99 [.ref tn, .int (wI m)] S σ τ Q := by
  refine wc_ok fun K => ?_
  have hC := jC p1
  unfold jv_C at hC
  have hc := cP p0
  have hP := jP p1
  have t := t (r_had a m (-1)) rfl (by
    have b := sI_b (f := fun p => if p = -1 then 0 else if a (3652 + 12 * p + 4) = m then (if 1 ≤ a (3652 + 12 * p + 3) ∧ a (3652 + 12 * p + 3) ≤ 2 then a (3652 + 12 * p + 5) else 0) else 0) (n := a 4) (lo := 0) (hi := 50) (by omega) (fun p h0 h1 => by
      have := hP p h0 h1
      try dsimp only
      repeat' (first | omega | split))
    show 0 ≤ r_had a m (-1) ∧ r_had a m (-1) ≤ 3000
    unfold r_had
    omega)
  refine wc_of mi_99 rfl (u_99_0 htn ?_)
  have key : ∀ p, 0 ≤ p → p ≤ a 4 → ∀ s, s = sI (fun p => if p = -1 then 0 else if a (3652 + 12 * p + 4) = m then (if 1 ≤ a (3652 + 12 * p + 3) ∧ a (3652 + 12 * p + 3) ≤ 2 then a (3652 + 12 * p + 5) else 0) else 0) p → wi (d + 3) 99 4 [.ref tn, .int (wI m), .int (wI s), .int (wI p)] [] S σ τ Q := by
    refine lp_up (fun p h0 h1 ih => ?_)
    intro s hs
    refine u_99_4 htn ⟨by omega, ?_⟩
    by_cases c : a 4 ≤ p
    · have : p = a 4 := by omega
      subst this
      rw [if_pos (by omega), hs]
      exact t
    · have ih := ih (by omega)
      rw [sI_s h0, ← hs, if_neg (show ¬ p = -1 by omega)] at ih
      rw [if_neg (by omega), vP p0 ⟨h0, by omega⟩ (by omega), vP p0 ⟨h0, by omega⟩ (by omega), vP p0 ⟨h0, by omega⟩ (by omega)]
      refine ⟨p2, ?_⟩
      have e : (if (a (3652 + 12 * p + 3) = 1 ∨ a (3652 + 12 * p + 3) = 2) ∧ a (3652 + 12 * p + 4) = m then a (3652 + 12 * p + 5) else 0) = if a (3652 + 12 * p + 4) = m then (if 1 ≤ a (3652 + 12 * p + 3) ∧ a (3652 + 12 * p + 3) ≤ 2 then a (3652 + 12 * p + 5) else 0) else 0 := by
        repeat' (first | omega | split)
      rw [e]
      exact ih _ rfl
  exact key 0 (by omega) (by omega) 0 rfl
-- method 100: MillTown$Town.millOfTeacher(II)I
theorem c_100_0 : pg_cd 100 0 = (5, 1, 0, 0, 0) := by decide +kernel
theorem c_100_1 : pg_cd 100 1 = (45, 8, 32, 5, 0) := by decide +kernel
theorem c_100_4 : pg_cd 100 4 = (3, 1, 0, 2, 0) := by decide +kernel
theorem c_100_5 : pg_cd 100 5 = (80, 53, 110, 0, 0) := by decide +kernel
theorem c_100_8 : pg_cd 100 8 = (36, 3, 0, 0, 25) := by decide +kernel
theorem c_100_11 : pg_cd 100 11 = (3, 1, 0, 2, 0) := by decide +kernel
theorem c_100_12 : pg_cd 100 12 = (3, 1, 0, 1, 0) := by decide +kernel
theorem c_100_13 : pg_cd 100 13 = (37, 3, 0, 0, 20) := by decide +kernel
theorem c_100_16 : pg_cd 100 16 = (5, 1, 0, 0, 0) := by decide +kernel
theorem c_100_17 : pg_cd 100 17 = (45, 8, 32, 5, 0) := by decide +kernel
theorem c_100_20 : pg_cd 100 20 = (3, 1, 0, 2, 0) := by decide +kernel
theorem c_100_21 : pg_cd 100 21 = (1, 1, 0, 0, 3) := by decide +kernel
theorem c_100_22 : pg_cd 100 22 = (80, 55, 92, 0, 0) := by decide +kernel
theorem c_100_25 : pg_cd 100 25 = (1, 1, 0, 0, 1) := by decide +kernel
theorem c_100_26 : pg_cd 100 26 = (37, 3, 0, 1, 7) := by decide +kernel
theorem c_100_29 : pg_cd 100 29 = (1, 1, 0, 0, 1) := by decide +kernel
theorem c_100_30 : pg_cd 100 30 = (38, 3, 0, 0, 4) := by decide +kernel
theorem c_100_33 : pg_cd 100 33 = (1, 1, 0, 0, 0) := by decide +kernel
theorem c_100_34 : pg_cd 100 34 = (6, 1, 0, 3, 0) := by decide +kernel
theorem c_100_35 : pg_cd 100 35 = (3, 1, 0, 3, 0) := by decide +kernel
theorem c_100_36 : pg_cd 100 36 = (36, 3, 0, 0, 15) := by decide +kernel
theorem c_100_39 : pg_cd 100 39 = (5, 1, 0, 0, 0) := by decide +kernel
theorem c_100_40 : pg_cd 100 40 = (45, 8, 32, 5, 0) := by decide +kernel
theorem c_100_43 : pg_cd 100 43 = (3, 1, 0, 2, 0) := by decide +kernel
theorem c_100_44 : pg_cd 100 44 = (1, 1, 0, 0, 4) := by decide +kernel
theorem c_100_45 : pg_cd 100 45 = (80, 55, 92, 0, 0) := by decide +kernel
theorem c_100_48 : pg_cd 100 48 = (38, 3, 0, 0, 4) := by decide +kernel
theorem c_100_51 : pg_cd 100 51 = (1, 1, 0, 0, (-1)) := by decide +kernel
theorem c_100_52 : pg_cd 100 52 = (90, 0, 0, 0, 0) := by decide +kernel
theorem mi_100 : pg_mc 100 = 8 ∧ pg_na 100 = 2 ∧ pg_mx 100 = 4 := by decide +kernel
set_option maxRecDepth 20000 in
theorem u_100_0 {d : Nat} {S : zS} {σ τ : zI} {Q : zQ} {x0 : Nat} {x1 : Int} {x2 : Int} (hx0 : tw x0) (t : (rg x2) ∧ if 0 ≤ x2 ∧ x2 < (σ (x0 + 11) 2) then ((rg x1) ∧ if x2 = x1 then (Q (some (.int (wI (-1)))) S σ τ) else (if (rt_ (σ (x0 + 11) 2) (σ (x0 + 12)) 9 3 x2) = 1 then (Q (some (.int (wI (rt_ (σ (x0 + 11) 2) (σ (x0 + 12)) 9 4 x2)))) S σ τ) else (Q (some (.int (wI (-1)))) S σ τ))) else (Q (some (.int (wI (-1)))) S σ τ)) : wi (d + 1) 100 0 [.ref x0, .int (wI x1), .int (wI x2), .retAddr 0] [] S σ τ Q := by
  obtain ⟨r1, t⟩ := t
  refine i5 c_100_0 rfl (i45 c_100_1 (lo (lyt_0 hx0) (by have := tw_b hx0; omega)) (lro (lrt_5 hx0)) (i3 c_100_4 rfl (wi_ok (fun K2 => ?_))))
  refine i80 (As := [.int (wI x2)]) (rest := []) c_100_5 mi_53 rfl rfl (Nat.le_of_ble_eq_true rfl) (Nat.le_of_ble_eq_true rfl) (lo (lyt_11 hx0) (by have := tw_b hx0; omega)) (q_has (ow_persons hx0) r1 ?_)
  show wi (d + 1) 100 8 [.ref x0, .int (wI x1), .int (wI x2), .retAddr 0] [.int (wI (if 0 ≤ x2 ∧ x2 < σ (x0 + 11) 2 then 1 else 0))] S σ τ Q
  refine i36e c_100_8 rfl (fun hc => ?_) (fun hc => ?_)
  · have t := iT t hc
    have ha3 : 0 ≤ x2 ∧ x2 < (σ (x0 + 11) 2) := hc
    obtain ⟨r4, t⟩ := t
    refine i3 c_100_11 rfl (i3 c_100_12 rfl ?_)
    refine i37 c_100_13 r1 r4 rfl (fun hc => ?_) (fun hc => ?_)
    · have t := iT t hc
      have ha5 : x2 = x1 := hc
      refine i1 c_100_33 (i6 (L' := [.ref x0, .int (wI x1), .int (wI x2), .int (wI 0)]) c_100_34 rfl (i3 c_100_35 rfl (i36k (pc1 := 51) c_100_36 (by decide) (i1 c_100_51 ?_))))
      exact i90 c_100_52 t
    · have t := iF t hc
      have ha5 : ¬ (x2 = x1) := hc
      refine i5 c_100_16 rfl (i45 c_100_17 (lo (lyt_0 hx0) (by have := tw_b hx0; omega)) (lro (lrt_5 hx0)) (i3 c_100_20 rfl (i1 c_100_21 ?_)))
      refine i80 (As := [.int (wI x2), .int (wI 3)]) (rest := []) c_100_22 mi_55 rfl rfl (Nat.le_of_ble_eq_true rfl) (Nat.le_of_ble_eq_true rfl) (lo (lyt_11 hx0) (by have := tw_b hx0; omega)) (q_at (ow_persons hx0) r1 (by decide) ?_)
      show wi (d + 1) 100 25 [.ref x0, .int (wI x1), .int (wI x2), .retAddr 0] [.int (wI (rt_ (σ (x0 + 11) 2) (σ (x0 + 12)) 9 3 x2))] S σ τ Q
      refine i1 c_100_25 ?_
      refine i37 c_100_26 (rg_rt_ (fun k => kO_r K2 _ k) _ _ _ _) (by decide) rfl (fun hc => ?_) (fun hc => ?_)
      · have t := iF t hc
        have ha6 : ¬ ((rt_ (σ (x0 + 11) 2) (σ (x0 + 12)) 9 3 x2) = 1) := hc
        refine i1 c_100_33 (i6 (L' := [.ref x0, .int (wI x1), .int (wI x2), .int (wI 0)]) c_100_34 rfl (i3 c_100_35 rfl (i36k (pc1 := 51) c_100_36 (by decide) (i1 c_100_51 ?_))))
        exact i90 c_100_52 t
      · have t := iT t (Decidable.not_not.mp hc)
        have ha6 : (rt_ (σ (x0 + 11) 2) (σ (x0 + 12)) 9 3 x2) = 1 := Decidable.not_not.mp hc
        refine i1 c_100_29 (i38 c_100_30 rfl (i6 (L' := [.ref x0, .int (wI x1), .int (wI x2), .int (wI 1)]) c_100_34 rfl (i3 c_100_35 rfl (i36k (pc1 := 39) c_100_36 (by decide) (i5 c_100_39 rfl (i45 c_100_40 (lo (lyt_0 hx0) (by have := tw_b hx0; omega)) (lro (lrt_5 hx0)) (i3 c_100_43 rfl (i1 c_100_44 ?_))))))))
        refine i80 (As := [.int (wI x2), .int (wI 4)]) (rest := []) c_100_45 mi_55 rfl rfl (Nat.le_of_ble_eq_true rfl) (Nat.le_of_ble_eq_true rfl) (lo (lyt_11 hx0) (by have := tw_b hx0; omega)) (q_at (ow_persons hx0) r1 (by decide) ?_)
        show wi (d + 1) 100 48 [.ref x0, .int (wI x1), .int (wI x2), .int (wI 1)] [.int (wI (rt_ (σ (x0 + 11) 2) (σ (x0 + 12)) 9 4 x2))] S σ τ Q
        refine i38 c_100_48 rfl ?_
        exact i90 c_100_52 t
  · have t := iF t hc
    have ha3 : ¬ (0 ≤ x2 ∧ x2 < (σ (x0 + 11) 2)) := hc
    refine i1 c_100_33 (i6 (L' := [.ref x0, .int (wI x1), .int (wI x2), .int (wI 0)]) c_100_34 rfl (i3 c_100_35 rfl (i36k (pc1 := 51) c_100_36 (by decide) (i1 c_100_51 ?_))))
    exact i90 c_100_52 t
theorem q_100 {d : Nat} {S : zS} {σ τ : zI} {Q : zQ} {tn : Nat} {p : Int} {tc : Int} (htn : tw tn) (p0 : rg p) (p1 : rg tc) (t : Q (some (.int (wI (if (0 ≤ tc ∧ tc < σ (tn + 11) 2) ∧ tc ≠ p ∧ rt_ (σ (tn + 11) 2) (σ (tn + 12)) 9 3 tc = 1 then rt_ (σ (tn + 11) 2) (σ (tn + 12)) 9 4 tc else -1)))) S σ τ) : wc (d + 1) 100 [.ref tn, .int (wI p), .int (wI tc)] S σ τ Q := by
  refine wc_of mi_100 rfl (u_100_0 htn ⟨p1, ?_⟩)
  refine ifI (fun h => ?_) (fun h => ?_)
  · refine ⟨p0, ?_⟩
    refine ifI (fun h2 => ?_) (fun h2 => ?_)
    · rw [if_neg (fun q => q.2.1 h2)] at t; exact t
    refine ifI (fun h3 => ?_) (fun h3 => ?_)
    · rw [if_pos ⟨h, h2, h3⟩] at t; exact t
    · rw [if_neg (fun q => h3 q.2.2)] at t; exact t
  · rw [if_neg (fun q => h q.1)] at t; exact t
