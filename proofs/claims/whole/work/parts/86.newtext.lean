/-! ===== TEXTS: made (segments printed by wip/whole, contracts own work) ===== -/
theorem c_52_0 : pg_cd 52 0 = (5, 1, 0, 0, 0) := by decide +kernel
theorem c_52_1 : pg_cd 52 1 = (61, 0, 3, 0, 0) := by decide +kernel
theorem c_52_4 : pg_cd 52 4 = (5, 1, 0, 0, 0) := by decide +kernel
theorem c_52_5 : pg_cd 52 5 = (3, 1, 0, 2, 0) := by decide +kernel
theorem c_52_6 : pg_cd 52 6 = (46, 4, 9, 0, 0) := by decide +kernel
theorem c_52_9 : pg_cd 52 9 = (5, 1, 0, 0, 0) := by decide +kernel
theorem c_52_10 : pg_cd 52 10 = (3, 1, 0, 1, 0) := by decide +kernel
theorem c_52_11 : pg_cd 52 11 = (3, 1, 0, 2, 0) := by decide +kernel
theorem c_52_12 : pg_cd 52 12 = (12, 1, 0, 0, 0) := by decide +kernel
theorem c_52_13 : pg_cd 52 13 = (59, 2, 0, 0, 0) := by decide +kernel
theorem c_52_15 : pg_cd 52 15 = (49, 4, 15, 1, 0) := by decide +kernel
theorem c_52_18 : pg_cd 52 18 = (94, 0, 0, 0, 0) := by decide +kernel
theorem mi_52 : pg_mc 52 = 4 ∧ pg_na 52 = 2 ∧ pg_mx 52 = 3 := by decide +kernel
theorem c_80_0 : pg_cd 80 0 = (5, 1, 0, 0, 0) := by decide +kernel
theorem c_80_1 : pg_cd 80 1 = (61, 0, 3, 0, 0) := by decide +kernel
theorem c_80_4 : pg_cd 80 4 = (5, 1, 0, 0, 0) := by decide +kernel
theorem c_80_5 : pg_cd 80 5 = (60, 4, 9, 3, 0) := by decide +kernel
theorem c_80_8 : pg_cd 80 8 = (33, 1, 0, 0, 0) := by decide +kernel
theorem c_80_9 : pg_cd 80 9 = (1, 2, 0, 0, 24) := by decide +kernel
theorem c_80_11 : pg_cd 80 11 = (1, 2, 0, 0, 8) := by decide +kernel
theorem c_80_13 : pg_cd 80 13 = (80, 52, 11, 0, 0) := by decide +kernel
theorem c_80_16 : pg_cd 80 16 = (49, 7, 14, 0, 0) := by decide +kernel
theorem c_80_19 : pg_cd 80 19 = (5, 1, 0, 0, 0) := by decide +kernel
theorem c_80_20 : pg_cd 80 20 = (1, 3, 0, 0, 300) := by decide +kernel
theorem c_80_23 : pg_cd 80 23 = (59, 2, 0, 0, 0) := by decide +kernel
theorem c_80_25 : pg_cd 80 25 = (49, 7, 20, 1, 0) := by decide +kernel
theorem c_80_28 : pg_cd 80 28 = (94, 0, 0, 0, 0) := by decide +kernel
theorem mi_80 : pg_mc 80 = 7 ∧ pg_na 80 = 0 ∧ pg_mx 80 = 1 := by decide +kernel
theorem q_52t {d : Nat} {S : zS} {σ τ : zI} {Q : zQ} {r : Nat} (hr : S.1 = r + 1) (r0 : 100 ≤ r) (ho : S.2.2.1 r = (104, 0)) (t : Q none (pS (nS S 0 192 192) r 1 (r + 1)) (uc (uc σ r (u1 (σ r) 0 8)) (r + 1) z0) (uc τ (r + 1) z0)) : wc (d + 0) 52 [.ref r, .int (wI 24), .int (wI 8)] S σ τ Q := by
  refine wc_of mi_52 rfl (i5 c_52_0 rfl (i61 c_52_1 (Nat.le_of_ble_eq_true rfl) (i5 c_52_4 rfl (i3 c_52_5 rfl (i46 (n := 0) c_52_6 (fun _ => ⟨by omega, by omega, ho⟩) (isR_hi r0) rfl (by decide) rfl ?_)))))
  refine i5 c_52_9 rfl (i3 c_52_10 rfl (i3 c_52_11 rfl (i12 c_52_12 (i59 c_52_13 (by decide) (i49 (n := 0) c_52_15 ⟨by omega, by rw [nS_1]; omega, by rw [nS_k (by omega)]; exact ho⟩ r0 (i94 c_52_18 ?_))))))
  rw [hr]
  exact t
def NT (S S1 : zS) (x : Nat) : Prop := S1.1 = x + 4 ∧ S1.2.1 = S.2.1 + 495 ∧ (∀ c, c ≤ x → S1.2.2.1 c = S.2.2.1 c) ∧ (∀ c, c < x → S1.2.2.2 c = S.2.2.2 c) ∧ oT S1 x
theorem q_80 {d : Nat} {S : zS} {σ τ : zI} {Q : zQ} {x : Nat} (hx : S.1 = x + 1) (x0 : 100 ≤ x) (ho : S.2.2.1 x = (107, 0)) (t : ∀ S1 σ1 τ1, NT S S1 x → (∀ c, c ≤ x → σ1 c = σ c) → (∀ c, c ≤ x → τ1 c = τ c) → σ1 (x + 1) 0 = 8 → Q none S1 σ1 τ1) : wc (d + 1) 80 [.ref x] S σ τ Q := by
  refine wc_of mi_80 rfl (i5 c_80_0 rfl (i61 c_80_1 (Nat.le_of_ble_eq_true rfl) (i5 c_80_4 rfl (i60 c_80_5 (i33a c_80_8 (i1 c_80_9 (i1 c_80_11 ?_)))))))
  refine i80 (As := [.int (wI 24), .int (wI 8)]) (rest := [.ref S.1, .ref x]) (n := 0) c_80_13 mi_52 rfl rfl (Nat.le_of_ble_eq_true rfl) (Nat.le_of_ble_eq_true rfl) (fun _ => ⟨by omega, by rw [nS_1]; omega, nS_kn _ _ _ _⟩) (q_52t (d := d) (r := S.1) rfl (by omega) (nS_kn _ _ _ _) ?_)
  show wi (d + 1) 80 16 [.ref x] [.ref S.1, .ref x] _ _ _ Q
  refine i49 (n := 0) c_80_16 ⟨by omega, by simp only [nS_1, pS_1]; omega, by simp (disch := first | omega | (simp only [nS_1, pS_1]; omega)) only [nS_k, pS_k]; exact ho⟩ x0 ?_
  refine i5 c_80_19 rfl (i1 c_80_20 (i59 c_80_23 ⟨by decide, by decide⟩ (i49 (n := 0) c_80_25 ⟨by omega, by simp only [nS_1, pS_1]; omega, by simp (disch := first | omega | (simp only [nS_1, pS_1]; omega)) only [nS_k, pS_k]; exact ho⟩ x0 (i94 c_80_28 ?_))))
  refine t _ _ _ ⟨?_, ?_, fun c hc => ?_, fun c hc => ?_, ?_⟩ (fun c hc => ?_) (fun c hc => ?_) ?_
  · simp only [nS_1, pS_1, hx]
  · simp only [nS_2, pS_2]; omega
  · simp (disch := first | omega | (simp only [nS_1, pS_1]; omega)) only [nS_k, pS_k]
  · simp (disch := first | omega | (simp only [nS_1, pS_1]; omega)) only [nS_r, pS_r]
  · refine ⟨x0, ⟨by omega, by simp only [nS_1, pS_1]; omega, ?_⟩, ⟨by omega, by simp only [nS_1, pS_1]; omega, ?_⟩, ⟨by omega, by simp only [nS_1, pS_1]; omega, ?_⟩, ⟨by omega, by simp only [nS_1, pS_1]; omega, ?_⟩, ?_, ?_, ?_⟩
    · simp (disch := first | omega | (simp only [nS_1, pS_1]; omega)) only [nS_k, pS_k]; exact ho
    · simp only [nS, pS, hx]; simp
    · simp only [nS, pS, hx]; simp
    · simp only [nS, pS, hx]; simp
    · simp (disch := first | omega | (simp only [nS_1, pS_1]; omega)) only [nS_r, pS_rn]; simp [hx]
    · simp (disch := first | omega | (simp only [nS_1, pS_1]; omega)) only [nS_r, pS_rn]; simp [nS_1, pS_1, hx]
    · simp only [nS, pS, hx]; simp
  · simp (disch := first | omega | (simp only [nS_1, pS_1]; omega)) only [uc_n]
  · simp (disch := first | omega | (simp only [nS_1, pS_1]; omega)) only [uc_n]
  · simp only [nS_1, pS_1, hx]
    simp (disch := omega) only [uc_n, uc_s, u1_s]
