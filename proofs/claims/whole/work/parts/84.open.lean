/-! ===== books of WEEKS: opened (segments printed by wip/whole, contracts own work) ===== -/
/-- an empty book -/
def CB (σ1 : zI) (y : Nat) : Prop := (∀ p, 0 ≤ p → p < 60 → σ1 (y + 1) p = 0 ∧ σ1 (y + 2) p = -1) ∧ (∀ m, 0 ≤ m → m < 8 → σ1 (y + 3) m = -1) ∧ (∀ h, 0 ≤ h → h < 24 → σ1 (y + 4) h = 0 ∧ σ1 (y + 5) h = 0 ∧ σ1 (y + 6) h = 0 ∧ σ1 (y + 7) h = 0) ∧ σ1 y 7 = 0
-- method 138: MillTown$WeekBook.clear()V
theorem c_138_0 : pg_cd 138 0 = (5, 1, 0, 0, 0) := by decide +kernel
theorem c_138_1 : pg_cd 138 1 = (45, 10, 9, 0, 0) := by decide +kernel
theorem c_138_4 : pg_cd 138 4 = (1, 1, 0, 0, 0) := by decide +kernel
theorem c_138_5 : pg_cd 138 5 = (81, 329, 33, 0, 0) := by decide +kernel
theorem c_138_8 : pg_cd 138 8 = (5, 1, 0, 0, 0) := by decide +kernel
theorem c_138_9 : pg_cd 138 9 = (45, 10, 15, 1, 0) := by decide +kernel
theorem c_138_12 : pg_cd 138 12 = (1, 1, 0, 0, (-1)) := by decide +kernel
theorem c_138_13 : pg_cd 138 13 = (81, 329, 33, 0, 0) := by decide +kernel
theorem c_138_16 : pg_cd 138 16 = (5, 1, 0, 0, 0) := by decide +kernel
theorem c_138_17 : pg_cd 138 17 = (45, 10, 18, 2, 0) := by decide +kernel
theorem c_138_20 : pg_cd 138 20 = (1, 1, 0, 0, (-1)) := by decide +kernel
theorem c_138_21 : pg_cd 138 21 = (81, 329, 33, 0, 0) := by decide +kernel
theorem c_138_24 : pg_cd 138 24 = (5, 1, 0, 0, 0) := by decide +kernel
theorem c_138_25 : pg_cd 138 25 = (45, 10, 21, 3, 0) := by decide +kernel
theorem c_138_28 : pg_cd 138 28 = (1, 1, 0, 0, 0) := by decide +kernel
theorem c_138_29 : pg_cd 138 29 = (81, 329, 33, 0, 0) := by decide +kernel
theorem c_138_32 : pg_cd 138 32 = (5, 1, 0, 0, 0) := by decide +kernel
theorem c_138_33 : pg_cd 138 33 = (45, 10, 24, 4, 0) := by decide +kernel
theorem c_138_36 : pg_cd 138 36 = (1, 1, 0, 0, 0) := by decide +kernel
theorem c_138_37 : pg_cd 138 37 = (81, 329, 33, 0, 0) := by decide +kernel
theorem c_138_40 : pg_cd 138 40 = (5, 1, 0, 0, 0) := by decide +kernel
theorem c_138_41 : pg_cd 138 41 = (45, 10, 27, 5, 0) := by decide +kernel
theorem c_138_44 : pg_cd 138 44 = (1, 1, 0, 0, 0) := by decide +kernel
theorem c_138_45 : pg_cd 138 45 = (81, 329, 33, 0, 0) := by decide +kernel
theorem c_138_48 : pg_cd 138 48 = (5, 1, 0, 0, 0) := by decide +kernel
theorem c_138_49 : pg_cd 138 49 = (45, 10, 30, 6, 0) := by decide +kernel
theorem c_138_52 : pg_cd 138 52 = (1, 1, 0, 0, 0) := by decide +kernel
theorem c_138_53 : pg_cd 138 53 = (81, 329, 33, 0, 0) := by decide +kernel
theorem c_138_56 : pg_cd 138 56 = (5, 1, 0, 0, 0) := by decide +kernel
theorem c_138_57 : pg_cd 138 57 = (1, 1, 0, 0, 0) := by decide +kernel
theorem c_138_58 : pg_cd 138 58 = (46, 10, 39, 7, 0) := by decide +kernel
theorem c_138_61 : pg_cd 138 61 = (94, 0, 0, 0, 0) := by decide +kernel
theorem mi_138 : pg_mc 138 = 10 ∧ pg_na 138 = 0 ∧ pg_mx 138 = 1 := by decide +kernel
set_option maxRecDepth 20000 in
theorem u_138_0 {d : Nat} {S : zS} {σ τ : zI} {Q : zQ} {x0 : Nat} (hx0 : oB S x0) (t : Q none S (uc (uc (uc (uc (uc (uc (uc (uc σ (x0 + 1) (fl_ ((σ (x0 + 1))) 0 60 0)) (x0 + 2) (fl_ ((σ (x0 + 2))) 0 60 (-1))) (x0 + 3) (fl_ ((σ (x0 + 3))) 0 8 (-1))) (x0 + 4) (fl_ ((σ (x0 + 4))) 0 24 0)) (x0 + 5) (fl_ ((σ (x0 + 5))) 0 24 0)) (x0 + 6) (fl_ ((σ (x0 + 6))) 0 24 0)) (x0 + 7) (fl_ ((σ (x0 + 7))) 0 24 0)) x0 (u1 (σ x0) 7 0)) τ) : wi (d + 3) 138 0 [.ref x0] [] S σ τ Q := by
  refine i5 c_138_0 rfl (i45 c_138_1 (fun _ => oB_0 hx0) (fun _ => oB_r0 hx0) (i1 c_138_4 ?_))
  refine i81 (As := [.ref (x0 + 1), .int (wI 0)]) (rest := []) c_138_5 mi_329 rfl rfl (Nat.le_of_ble_eq_true rfl) (Nat.le_of_ble_eq_true rfl) (q_329 ⟨fun _ _ => (fun _ => oB_1 hx0), (isR_b (by have := oB_b hx0; omega))⟩ (by decide) (by decide) ?_)
  show wi (d + 3) 138 8 [.ref x0] [] S (uc σ (x0 + 1) (fl_ ((σ (x0 + 1))) 0 60 0)) τ Q
  refine i5 c_138_8 rfl (i45 c_138_9 (fun _ => oB_0 hx0) (fun _ => oB_r1 hx0) (i1 c_138_12 ?_))
  refine i81 (As := [.ref (x0 + 2), .int (wI (-1))]) (rest := []) c_138_13 mi_329 rfl rfl (Nat.le_of_ble_eq_true rfl) (Nat.le_of_ble_eq_true rfl) (q_329 ⟨fun _ _ => (fun _ => oB_2 hx0), (isR_b (by have := oB_b hx0; omega))⟩ (by decide) (by decide) ?_)
  show wi (d + 3) 138 16 [.ref x0] [] S (uc (uc σ (x0 + 1) (fl_ ((σ (x0 + 1))) 0 60 0)) (x0 + 2) (fl_ ((uc σ (x0 + 1) (fl_ ((σ (x0 + 1))) 0 60 0)) (x0 + 2)) 0 60 (-1))) τ Q
  refine wi_s (σ1 := uc (uc σ (x0 + 1) (fl_ ((σ (x0 + 1))) 0 60 0)) (x0 + 2) (fl_ ((σ (x0 + 2))) 0 60 (-1))) (by simp only [(show (uc σ (x0 + 1) (fl_ ((σ (x0 + 1))) 0 60 0)) (x0 + 2) = σ (x0 + 2) from (uc_ns rfl (by have := oB_b hx0; have := oB_b hx0; omega)))]) (i5 c_138_16 rfl (i45 c_138_17 (fun _ => oB_0 hx0) (fun _ => oB_r2 hx0) (i1 c_138_20 ?_)))
  refine i81 (As := [.ref (x0 + 3), .int (wI (-1))]) (rest := []) c_138_21 mi_329 rfl rfl (Nat.le_of_ble_eq_true rfl) (Nat.le_of_ble_eq_true rfl) (q_329 ⟨fun _ _ => (fun _ => oB_3 hx0), (isR_b (by have := oB_b hx0; omega))⟩ (by decide) (by decide) ?_)
  show wi (d + 3) 138 24 [.ref x0] [] S (uc (uc (uc σ (x0 + 1) (fl_ ((σ (x0 + 1))) 0 60 0)) (x0 + 2) (fl_ ((σ (x0 + 2))) 0 60 (-1))) (x0 + 3) (fl_ ((uc (uc σ (x0 + 1) (fl_ ((σ (x0 + 1))) 0 60 0)) (x0 + 2) (fl_ ((σ (x0 + 2))) 0 60 (-1))) (x0 + 3)) 0 8 (-1))) τ Q
  refine wi_s (σ1 := uc (uc (uc σ (x0 + 1) (fl_ ((σ (x0 + 1))) 0 60 0)) (x0 + 2) (fl_ ((σ (x0 + 2))) 0 60 (-1))) (x0 + 3) (fl_ ((σ (x0 + 3))) 0 8 (-1))) (by simp only [(show (uc (uc σ (x0 + 1) (fl_ ((σ (x0 + 1))) 0 60 0)) (x0 + 2) (fl_ ((σ (x0 + 2))) 0 60 (-1))) (x0 + 3) = σ (x0 + 3) from (uc_ns (uc_ns rfl (by have := oB_b hx0; have := oB_b hx0; omega)) (by have := oB_b hx0; have := oB_b hx0; omega)))]) (i5 c_138_24 rfl (i45 c_138_25 (fun _ => oB_0 hx0) (fun _ => oB_r3 hx0) (i1 c_138_28 ?_)))
  refine i81 (As := [.ref (x0 + 4), .int (wI 0)]) (rest := []) c_138_29 mi_329 rfl rfl (Nat.le_of_ble_eq_true rfl) (Nat.le_of_ble_eq_true rfl) (q_329 ⟨fun _ _ => (fun _ => oB_4 hx0), (isR_b (by have := oB_b hx0; omega))⟩ (by decide) (by decide) ?_)
  show wi (d + 3) 138 32 [.ref x0] [] S (uc (uc (uc (uc σ (x0 + 1) (fl_ ((σ (x0 + 1))) 0 60 0)) (x0 + 2) (fl_ ((σ (x0 + 2))) 0 60 (-1))) (x0 + 3) (fl_ ((σ (x0 + 3))) 0 8 (-1))) (x0 + 4) (fl_ ((uc (uc (uc σ (x0 + 1) (fl_ ((σ (x0 + 1))) 0 60 0)) (x0 + 2) (fl_ ((σ (x0 + 2))) 0 60 (-1))) (x0 + 3) (fl_ ((σ (x0 + 3))) 0 8 (-1))) (x0 + 4)) 0 24 0)) τ Q
  refine wi_s (σ1 := uc (uc (uc (uc σ (x0 + 1) (fl_ ((σ (x0 + 1))) 0 60 0)) (x0 + 2) (fl_ ((σ (x0 + 2))) 0 60 (-1))) (x0 + 3) (fl_ ((σ (x0 + 3))) 0 8 (-1))) (x0 + 4) (fl_ ((σ (x0 + 4))) 0 24 0)) (by simp only [(show (uc (uc (uc σ (x0 + 1) (fl_ ((σ (x0 + 1))) 0 60 0)) (x0 + 2) (fl_ ((σ (x0 + 2))) 0 60 (-1))) (x0 + 3) (fl_ ((σ (x0 + 3))) 0 8 (-1))) (x0 + 4) = σ (x0 + 4) from (uc_ns (uc_ns (uc_ns rfl (by have := oB_b hx0; have := oB_b hx0; omega)) (by have := oB_b hx0; have := oB_b hx0; omega)) (by have := oB_b hx0; have := oB_b hx0; omega)))]) (i5 c_138_32 rfl (i45 c_138_33 (fun _ => oB_0 hx0) (fun _ => oB_r4 hx0) (i1 c_138_36 ?_)))
  refine i81 (As := [.ref (x0 + 5), .int (wI 0)]) (rest := []) c_138_37 mi_329 rfl rfl (Nat.le_of_ble_eq_true rfl) (Nat.le_of_ble_eq_true rfl) (q_329 ⟨fun _ _ => (fun _ => oB_5 hx0), (isR_b (by have := oB_b hx0; omega))⟩ (by decide) (by decide) ?_)
  show wi (d + 3) 138 40 [.ref x0] [] S (uc (uc (uc (uc (uc σ (x0 + 1) (fl_ ((σ (x0 + 1))) 0 60 0)) (x0 + 2) (fl_ ((σ (x0 + 2))) 0 60 (-1))) (x0 + 3) (fl_ ((σ (x0 + 3))) 0 8 (-1))) (x0 + 4) (fl_ ((σ (x0 + 4))) 0 24 0)) (x0 + 5) (fl_ ((uc (uc (uc (uc σ (x0 + 1) (fl_ ((σ (x0 + 1))) 0 60 0)) (x0 + 2) (fl_ ((σ (x0 + 2))) 0 60 (-1))) (x0 + 3) (fl_ ((σ (x0 + 3))) 0 8 (-1))) (x0 + 4) (fl_ ((σ (x0 + 4))) 0 24 0)) (x0 + 5)) 0 24 0)) τ Q
  refine wi_s (σ1 := uc (uc (uc (uc (uc σ (x0 + 1) (fl_ ((σ (x0 + 1))) 0 60 0)) (x0 + 2) (fl_ ((σ (x0 + 2))) 0 60 (-1))) (x0 + 3) (fl_ ((σ (x0 + 3))) 0 8 (-1))) (x0 + 4) (fl_ ((σ (x0 + 4))) 0 24 0)) (x0 + 5) (fl_ ((σ (x0 + 5))) 0 24 0)) (by simp only [(show (uc (uc (uc (uc σ (x0 + 1) (fl_ ((σ (x0 + 1))) 0 60 0)) (x0 + 2) (fl_ ((σ (x0 + 2))) 0 60 (-1))) (x0 + 3) (fl_ ((σ (x0 + 3))) 0 8 (-1))) (x0 + 4) (fl_ ((σ (x0 + 4))) 0 24 0)) (x0 + 5) = σ (x0 + 5) from (uc_ns (uc_ns (uc_ns (uc_ns rfl (by have := oB_b hx0; have := oB_b hx0; omega)) (by have := oB_b hx0; have := oB_b hx0; omega)) (by have := oB_b hx0; have := oB_b hx0; omega)) (by have := oB_b hx0; have := oB_b hx0; omega)))]) (i5 c_138_40 rfl (i45 c_138_41 (fun _ => oB_0 hx0) (fun _ => oB_r5 hx0) (i1 c_138_44 ?_)))
  refine i81 (As := [.ref (x0 + 6), .int (wI 0)]) (rest := []) c_138_45 mi_329 rfl rfl (Nat.le_of_ble_eq_true rfl) (Nat.le_of_ble_eq_true rfl) (q_329 ⟨fun _ _ => (fun _ => oB_6 hx0), (isR_b (by have := oB_b hx0; omega))⟩ (by decide) (by decide) ?_)
  show wi (d + 3) 138 48 [.ref x0] [] S (uc (uc (uc (uc (uc (uc σ (x0 + 1) (fl_ ((σ (x0 + 1))) 0 60 0)) (x0 + 2) (fl_ ((σ (x0 + 2))) 0 60 (-1))) (x0 + 3) (fl_ ((σ (x0 + 3))) 0 8 (-1))) (x0 + 4) (fl_ ((σ (x0 + 4))) 0 24 0)) (x0 + 5) (fl_ ((σ (x0 + 5))) 0 24 0)) (x0 + 6) (fl_ ((uc (uc (uc (uc (uc σ (x0 + 1) (fl_ ((σ (x0 + 1))) 0 60 0)) (x0 + 2) (fl_ ((σ (x0 + 2))) 0 60 (-1))) (x0 + 3) (fl_ ((σ (x0 + 3))) 0 8 (-1))) (x0 + 4) (fl_ ((σ (x0 + 4))) 0 24 0)) (x0 + 5) (fl_ ((σ (x0 + 5))) 0 24 0)) (x0 + 6)) 0 24 0)) τ Q
  refine wi_s (σ1 := uc (uc (uc (uc (uc (uc σ (x0 + 1) (fl_ ((σ (x0 + 1))) 0 60 0)) (x0 + 2) (fl_ ((σ (x0 + 2))) 0 60 (-1))) (x0 + 3) (fl_ ((σ (x0 + 3))) 0 8 (-1))) (x0 + 4) (fl_ ((σ (x0 + 4))) 0 24 0)) (x0 + 5) (fl_ ((σ (x0 + 5))) 0 24 0)) (x0 + 6) (fl_ ((σ (x0 + 6))) 0 24 0)) (by simp only [(show (uc (uc (uc (uc (uc σ (x0 + 1) (fl_ ((σ (x0 + 1))) 0 60 0)) (x0 + 2) (fl_ ((σ (x0 + 2))) 0 60 (-1))) (x0 + 3) (fl_ ((σ (x0 + 3))) 0 8 (-1))) (x0 + 4) (fl_ ((σ (x0 + 4))) 0 24 0)) (x0 + 5) (fl_ ((σ (x0 + 5))) 0 24 0)) (x0 + 6) = σ (x0 + 6) from (uc_ns (uc_ns (uc_ns (uc_ns (uc_ns rfl (by have := oB_b hx0; have := oB_b hx0; omega)) (by have := oB_b hx0; have := oB_b hx0; omega)) (by have := oB_b hx0; have := oB_b hx0; omega)) (by have := oB_b hx0; have := oB_b hx0; omega)) (by have := oB_b hx0; have := oB_b hx0; omega)))]) (i5 c_138_48 rfl (i45 c_138_49 (fun _ => oB_0 hx0) (fun _ => oB_r6 hx0) (i1 c_138_52 ?_)))
  refine i81 (As := [.ref (x0 + 7), .int (wI 0)]) (rest := []) c_138_53 mi_329 rfl rfl (Nat.le_of_ble_eq_true rfl) (Nat.le_of_ble_eq_true rfl) (q_329 ⟨fun _ _ => (fun _ => oB_7 hx0), (isR_b (by have := oB_b hx0; omega))⟩ (by decide) (by decide) ?_)
  show wi (d + 3) 138 56 [.ref x0] [] S (uc (uc (uc (uc (uc (uc (uc σ (x0 + 1) (fl_ ((σ (x0 + 1))) 0 60 0)) (x0 + 2) (fl_ ((σ (x0 + 2))) 0 60 (-1))) (x0 + 3) (fl_ ((σ (x0 + 3))) 0 8 (-1))) (x0 + 4) (fl_ ((σ (x0 + 4))) 0 24 0)) (x0 + 5) (fl_ ((σ (x0 + 5))) 0 24 0)) (x0 + 6) (fl_ ((σ (x0 + 6))) 0 24 0)) (x0 + 7) (fl_ ((uc (uc (uc (uc (uc (uc σ (x0 + 1) (fl_ ((σ (x0 + 1))) 0 60 0)) (x0 + 2) (fl_ ((σ (x0 + 2))) 0 60 (-1))) (x0 + 3) (fl_ ((σ (x0 + 3))) 0 8 (-1))) (x0 + 4) (fl_ ((σ (x0 + 4))) 0 24 0)) (x0 + 5) (fl_ ((σ (x0 + 5))) 0 24 0)) (x0 + 6) (fl_ ((σ (x0 + 6))) 0 24 0)) (x0 + 7)) 0 24 0)) τ Q
  refine wi_s (σ1 := uc (uc (uc (uc (uc (uc (uc σ (x0 + 1) (fl_ ((σ (x0 + 1))) 0 60 0)) (x0 + 2) (fl_ ((σ (x0 + 2))) 0 60 (-1))) (x0 + 3) (fl_ ((σ (x0 + 3))) 0 8 (-1))) (x0 + 4) (fl_ ((σ (x0 + 4))) 0 24 0)) (x0 + 5) (fl_ ((σ (x0 + 5))) 0 24 0)) (x0 + 6) (fl_ ((σ (x0 + 6))) 0 24 0)) (x0 + 7) (fl_ ((σ (x0 + 7))) 0 24 0)) (by simp only [(show (uc (uc (uc (uc (uc (uc σ (x0 + 1) (fl_ ((σ (x0 + 1))) 0 60 0)) (x0 + 2) (fl_ ((σ (x0 + 2))) 0 60 (-1))) (x0 + 3) (fl_ ((σ (x0 + 3))) 0 8 (-1))) (x0 + 4) (fl_ ((σ (x0 + 4))) 0 24 0)) (x0 + 5) (fl_ ((σ (x0 + 5))) 0 24 0)) (x0 + 6) (fl_ ((σ (x0 + 6))) 0 24 0)) (x0 + 7) = σ (x0 + 7) from (uc_ns (uc_ns (uc_ns (uc_ns (uc_ns (uc_ns rfl (by have := oB_b hx0; have := oB_b hx0; omega)) (by have := oB_b hx0; have := oB_b hx0; omega)) (by have := oB_b hx0; have := oB_b hx0; omega)) (by have := oB_b hx0; have := oB_b hx0; omega)) (by have := oB_b hx0; have := oB_b hx0; omega)) (by have := oB_b hx0; have := oB_b hx0; omega)))]) (i5 c_138_56 rfl (i1 c_138_57 (i46 (σ1 := uc (uc (uc (uc (uc (uc (uc (uc σ (x0 + 1) (fl_ ((σ (x0 + 1))) 0 60 0)) (x0 + 2) (fl_ ((σ (x0 + 2))) 0 60 (-1))) (x0 + 3) (fl_ ((σ (x0 + 3))) 0 8 (-1))) (x0 + 4) (fl_ ((σ (x0 + 4))) 0 24 0)) (x0 + 5) (fl_ ((σ (x0 + 5))) 0 24 0)) (x0 + 6) (fl_ ((σ (x0 + 6))) 0 24 0)) (x0 + 7) (fl_ ((σ (x0 + 7))) 0 24 0)) x0 (u1 (σ x0) 7 0)) c_138_58 (fun _ => oB_0 hx0) (isR_b (by have := oB_b hx0; omega)) rfl (by decide) (wr_ (uc_ns (uc_ns (uc_ns (uc_ns (uc_ns (uc_ns (uc_ns rfl (by have := oB_b hx0; have := oB_b hx0; omega)) (by have := oB_b hx0; have := oB_b hx0; omega)) (by have := oB_b hx0; have := oB_b hx0; omega)) (by have := oB_b hx0; have := oB_b hx0; omega)) (by have := oB_b hx0; have := oB_b hx0; omega)) (by have := oB_b hx0; have := oB_b hx0; omega)) (by have := oB_b hx0; have := oB_b hx0; omega)) rfl) ?_)))
  exact i94 c_138_61 t
theorem q_138 {d : Nat} {S : zS} {σ τ : zI} {Q : zQ} {y : Nat} (hy : oB S y) (t : ∀ (σ1 : zI), (∀ c, c < y ∨ y + 7 < c → σ1 c = σ c) → CB σ1 y → Q none S σ1 τ) : wc (d + 3) 138 [.ref y] S σ τ Q := by
  have yb := oB_b hy
  refine wc_of mi_138 rfl (u_138_0 hy ?_)
  refine t _ (fun c hc => ?_) ⟨fun p a0 a1 => ⟨?_, ?_⟩, fun m a0 a1 => ?_, fun h a0 a1 => ⟨?_, ?_, ?_, ?_⟩, ?_⟩
  · simp (disch := omega) only [uc_n]
  · simp (disch := omega) only [uc_n, uc_s, fl_in]
  · simp (disch := omega) only [uc_n, uc_s, fl_in]
  · simp (disch := omega) only [uc_n, uc_s, fl_in]
  · simp (disch := omega) only [uc_n, uc_s, fl_in]
  · simp (disch := omega) only [uc_n, uc_s, fl_in]
  · simp (disch := omega) only [uc_n, uc_s, fl_in]
  · simp (disch := omega) only [uc_n, uc_s, fl_in]
  · simp (disch := omega) only [uc_n, uc_s, u1_s]
