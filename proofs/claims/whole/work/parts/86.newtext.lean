/-! ===== TEXTS: made (segments printed by wip/whole, contracts own work) ===== -/
theorem c_52_0 : pg_cd 52 0 = (5, 1, 0, 0, 0) := by decide +kernel
theorem c_52_1 : pg_cd 52 1 = (61, 0, 3, 0, 0) := by decide +kernel
theorem c_52_4 : pg_cd 52 4 = (5, 1, 0, 0, 0) := by decide +kernel
theorem c_52_5 : pg_cd 52 5 = (3, 1, 0, 2, 0) := by decide +kernel
theorem c_52_6 : pg_cd 52 6 = (46, 4, 9, 0, 0) := by decide +kernel
theorem c_52_9 : pg_cd 52 9 = (5, 1, 0, 0, 0) := by decide +kernel
theorem c_52_10 : pg_cd 52 10 = (3, 1, 0, 1, 0) := by decide +kernel
theorem c_52_11 : pg_cd 52 11 = (3, 1, 0, 2, 0) := by decide +kernel
theorem c_52_12 : pg_cd 52 12 = (12, 1, 0, 0, 0) := by decide +kernel
theorem c_52_13 : pg_cd 52 13 = (59, 2, 0, 0, 0) := by decide +kernel
theorem c_52_15 : pg_cd 52 15 = (49, 4, 15, 1, 0) := by decide +kernel
theorem c_52_18 : pg_cd 52 18 = (94, 0, 0, 0, 0) := by decide +kernel
theorem mi_52 : pg_mc 52 = 4 ∧ pg_na 52 = 2 ∧ pg_mx 52 = 3 := by decide +kernel
theorem q_52t {d : Nat} {S : zS} {σ τ : zI} {Q : zQ} {r : Nat} (hr : S.1 = r + 1) (r0 : 100 ≤ r) (ho : S.2.2.1 r = (104, 0)) (t : Q none (pS (nS S 0 192 192) r 1 (r + 1)) (uc (uc σ r (u1 (σ r) 0 8)) (r + 1) z0) (uc τ (r + 1) z0)) : wc (d + 0) 52 [.ref r, .int (wI 24), .int (wI 8)] S σ τ Q := by
  refine wc_of mi_52 rfl (i5 c_52_0 rfl (i61 c_52_1 (Nat.le_of_ble_eq_true rfl) (i5 c_52_4 rfl (i3 c_52_5 rfl (i46 (n := 0) c_52_6 (fun _ => ⟨by omega, by omega, ho⟩) (isR_hi r0) rfl (by decide) rfl ?_)))))
  refine i5 c_52_9 rfl (i3 c_52_10 rfl (i3 c_52_11 rfl (i12 c_52_12 (i59 c_52_13 (by decide) (i49 (n := 0) c_52_15 ⟨by omega, by rw [nS_1]; omega, by rw [nS_k (by omega)]; exact ho⟩ r0 (i94 c_52_18 ?_))))))
  rw [hr]
  exact t
