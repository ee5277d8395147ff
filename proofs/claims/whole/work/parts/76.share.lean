/-! ===== half time shared: the reference (segments printed by wip/whole, contracts own work) ===== -/
/-- hours of a PERSON who runs so; what it makes, earns, keeps -/
def s_h (a : Int → Int) (p how : Int) : Int := if how = 1 then (r_hours a (a (3652 + 12 * p + 1)) (a (3652 + 12 * p + 4)) (a 0) (a 0)).tdiv 2 else r_hours a (a (3652 + 12 * p + 1)) (a (3652 + 12 * p + 4)) (a 0) (a 0)
def s_mk (a : Int → Int) (m p how : Int) : Int := if a (3300 + 16 * m + 7) < 0 then 0 else if 1 ≤ a (3652 + 12 * p + 3) ∧ a (3652 + 12 * p + 3) ≤ 2 then (a (3652 + 12 * p + 7) + r_pts a p (s_h a p how)).tdiv (r_cost a (a (3300 + 16 * m + 7))) else 0
def s_py (a : Int → Int) (m : Int) : Int := if a (3300 + 16 * m + 7) < 0 then 0 else r_pay a (a (3300 + 16 * m + 7)) m (a 0) (a 0)
def s_v (a : Int → Int) (m p how : Int) : Int := if 3 ≤ a (3652 + 12 * p + 3) then s_h a p how * a (3652 + 12 * p + 5) else s_mk a m p how * s_py a m
def s_own (a : Int → Int) (m p how : Int) : Int := if a (3652 + 12 * p + 3) = 2 then (s_v a m p how).tdiv 3 else s_v a m p how
def s_e1 (a : Int → Int) (m how h p : Int) : Int := (if a (3652 + 12 * p + 0) = h then s_own a m p how else 0) + (if a (3652 + 12 * p + 3) = 2 then (if a (3652 + 12 * a (3652 + 12 * p + 6) + 0) = h then s_v a m p how - s_own a m p how else 0) else 0)
def s_en (a : Int → Int) (m how h n : Int) : Int := sI (fun p => if a (3652 + 12 * p + 4) = m then s_e1 a m how h p else 0) n
def s_e (a : Int → Int) (m how h : Int) : Int := if how = 0 then 0 else s_en a m how h (a 4)
def s_nn (a : Int → Int) (m n : Int) : Int := sI (fun p => if a (3652 + 12 * p + 4) = m then s_mk a m p 2 else 0) n
def s_pc (a : Int → Int) (m how : Int) : Int := if how = 0 then 0 else if how = 2 then s_nn a m (a 4) else (s_nn a m (a 4)).tdiv 2
theorem s_h_b {a : Int → Int} {p how : Int} (hJ : Jl a) (hT : jv_T a) : 0 ≤ s_h a p how ∧ s_h a p how ≤ 80 := by
  have := r_hours_b (age := a (3652 + 12 * p + 1)) (mill := a (3652 + 12 * p + 4)) (week := a 0) (known := a 0) hJ hT
  unfold s_h
  split
  · rw [Int.tdiv_eq_ediv_of_nonneg this.1]; omega
  · exact this
-- method 278: MillTownModel.costOf(I)I
theorem c_278_0 : pg_cd 278 0 = (5, 1, 0, 0, 0) := by decide +kernel
theorem c_278_1 : pg_cd 278 1 = (3, 1, 0, 1, 0) := by decide +kernel
theorem c_278_2 : pg_cd 278 2 = (1, 1, 0, 0, 1) := by decide +kernel
theorem c_278_3 : pg_cd 278 3 = (80, 197, 85, 0, 0) := by decide +kernel
theorem c_278_6 : pg_cd 278 6 = (5, 1, 0, 0, 0) := by decide +kernel
theorem c_278_7 : pg_cd 278 7 = (3, 1, 0, 1, 0) := by decide +kernel
theorem c_278_8 : pg_cd 278 8 = (1, 1, 0, 0, 2) := by decide +kernel
theorem c_278_9 : pg_cd 278 9 = (80, 197, 85, 0, 0) := by decide +kernel
theorem c_278_12 : pg_cd 278 12 = (12, 1, 0, 0, 0) := by decide +kernel
theorem c_278_13 : pg_cd 278 13 = (1, 2, 0, 0, 10) := by decide +kernel
theorem c_278_15 : pg_cd 278 15 = (5, 1, 0, 0, 0) := by decide +kernel
theorem c_278_16 : pg_cd 278 16 = (3, 1, 0, 1, 0) := by decide +kernel
theorem c_278_17 : pg_cd 278 17 = (1, 1, 0, 0, 4) := by decide +kernel
theorem c_278_18 : pg_cd 278 18 = (80, 197, 85, 0, 0) := by decide +kernel
theorem c_278_21 : pg_cd 278 21 = (10, 1, 0, 0, 0) := by decide +kernel
theorem c_278_22 : pg_cd 278 22 = (12, 1, 0, 0, 0) := by decide +kernel
theorem c_278_23 : pg_cd 278 23 = (90, 0, 0, 0, 0) := by decide +kernel
theorem mi_278 : pg_mc 278 = 12 ∧ pg_na 278 = 1 ∧ pg_mx 278 = 2 := by decide +kernel
set_option maxRecDepth 20000 in
theorem u_278_0 {d : Nat} {S : zS} {σ τ : zI} {Q : zQ} {x1 : Int} (t : (0 ≤ 20 + 8 * x1 + 1 ∧ 20 + 8 * x1 + 1 < 112300) ∧ (0 ≤ 20 + 8 * x1 + 2 ∧ 20 + 8 * x1 + 2 < 112300) ∧ (0 ≤ 20 + 8 * x1 + 4 ∧ 20 + 8 * x1 + 4 < 112300) ∧ Q (some (.int (wI (((σ 84 (20 + 8 * x1 + 1)) * (σ 84 (20 + 8 * x1 + 2))) * (10 + (σ 84 (20 + 8 * x1 + 4))))))) S σ τ) : wi (d + 1) 278 0 [.ref 83, .int (wI x1)] [] S σ τ Q := by
  obtain ⟨p1, t⟩ := t
  refine i5 c_278_0 rfl (i3 c_278_1 rfl (i1 c_278_2 ?_))
  refine i80 (As := [.int (wI x1), .int (wI 1)]) (rest := []) c_278_3 mi_197 rfl rfl (Nat.le_of_ble_eq_true rfl) (Nat.le_of_ble_eq_true rfl) (lo (c := 83) (kd := 112) (n := 0) rfl (by decide)) (q_197 p1 ?_)
  show wi (d + 1) 278 6 [.ref 83, .int (wI x1)] [.int (wI (σ 84 (20 + 8 * x1 + 1)))] S σ τ Q
  refine wi_ok (fun K2 => ?_)
  obtain ⟨p3, t⟩ := t
  refine i5 c_278_6 rfl (i3 c_278_7 rfl (i1 c_278_8 ?_))
  refine i80 (As := [.int (wI x1), .int (wI 2)]) (rest := [.int (wI (σ 84 (20 + 8 * x1 + 1)))]) c_278_9 mi_197 rfl rfl (Nat.le_of_ble_eq_true rfl) (Nat.le_of_ble_eq_true rfl) (lo (c := 83) (kd := 112) (n := 0) rfl (by decide)) (q_197 p3 ?_)
  show wi (d + 1) 278 12 [.ref 83, .int (wI x1)] [.int (wI (σ 84 (20 + 8 * x1 + 2))), .int (wI (σ 84 (20 + 8 * x1 + 1)))] S σ τ Q
  obtain ⟨p4, t⟩ := t
  refine i12 c_278_12 (i1 c_278_13 (i5 c_278_15 rfl (i3 c_278_16 rfl (i1 c_278_17 ?_))))
  refine i80 (As := [.int (wI x1), .int (wI 4)]) (rest := [.int (wI 10), .int (wI ((σ 84 (20 + 8 * x1 + 1)) * (σ 84 (20 + 8 * x1 + 2))))]) c_278_18 mi_197 rfl rfl (Nat.le_of_ble_eq_true rfl) (Nat.le_of_ble_eq_true rfl) (lo (c := 83) (kd := 112) (n := 0) rfl (by decide)) (q_197 p4 ?_)
  show wi (d + 1) 278 21 [.ref 83, .int (wI x1)] [.int (wI (σ 84 (20 + 8 * x1 + 4))), .int (wI 10), .int (wI ((σ 84 (20 + 8 * x1 + 1)) * (σ 84 (20 + 8 * x1 + 2))))] S σ τ Q
  refine i10 c_278_21 (i12 c_278_22 ?_)
  exact i90 c_278_23 t
theorem q_278 {d : Nat} {S : zS} {σ τ : zI} {Q : zQ} {k : Int} (p0 : jv_K (σ 84)) (p1 : 0 ≤ k ∧ k ≤ (5 : Int)) (t : ∀ (v : Int), v = r_cost (σ 84) k → 2000 ≤ v ∧ v ≤ 228000 → Q (some (.int (wI v))) S σ τ) : wc (d + 1) 278 [.ref 83, .int (wI k)] S σ τ Q := by
  refine wc_of mi_278 rfl (u_278_0 ⟨by omega, by omega, by omega, t (r_cost (σ 84) k) rfl (r_cost_b p0 p1)⟩)
-- method 279: MillTownModel.isWeaver(II)Z
theorem c_279_0 : pg_cd 279 0 = (5, 1, 0, 0, 0) := by decide +kernel
theorem c_279_1 : pg_cd 279 1 = (3, 1, 0, 1, 0) := by decide +kernel
theorem c_279_2 : pg_cd 279 2 = (1, 1, 0, 0, 4) := by decide +kernel
theorem c_279_3 : pg_cd 279 3 = (80, 199, 102, 0, 0) := by decide +kernel
theorem c_279_6 : pg_cd 279 6 = (3, 1, 0, 2, 0) := by decide +kernel
theorem c_279_7 : pg_cd 279 7 = (37, 3, 0, 1, 21) := by decide +kernel
theorem c_279_10 : pg_cd 279 10 = (5, 1, 0, 0, 0) := by decide +kernel
theorem c_279_11 : pg_cd 279 11 = (3, 1, 0, 1, 0) := by decide +kernel
theorem c_279_12 : pg_cd 279 12 = (1, 1, 0, 0, 3) := by decide +kernel
theorem c_279_13 : pg_cd 279 13 = (80, 199, 102, 0, 0) := by decide +kernel
theorem c_279_16 : pg_cd 279 16 = (1, 1, 0, 0, 1) := by decide +kernel
theorem c_279_17 : pg_cd 279 17 = (1, 1, 0, 0, 2) := by decide +kernel
theorem c_279_18 : pg_cd 279 18 = (81, 196, 76, 0, 0) := by decide +kernel
theorem c_279_21 : pg_cd 279 21 = (36, 3, 0, 0, 7) := by decide +kernel
theorem c_279_24 : pg_cd 279 24 = (1, 1, 0, 0, 1) := by decide +kernel
theorem c_279_25 : pg_cd 279 25 = (38, 3, 0, 0, 4) := by decide +kernel
theorem c_279_28 : pg_cd 279 28 = (1, 1, 0, 0, 0) := by decide +kernel
theorem c_279_29 : pg_cd 279 29 = (91, 0, 0, 0, 0) := by decide +kernel
theorem mi_279 : pg_mc 279 = 12 ∧ pg_na 279 = 2 ∧ pg_mx 279 = 3 := by decide +kernel
set_option maxRecDepth 20000 in
theorem u_279_0 {d : Nat} {S : zS} {σ τ : zI} {Q : zQ} {x1 : Int} {x2 : Int} (t : (0 ≤ 3652 + 12 * x1 + 4 ∧ 3652 + 12 * x1 + 4 < 112300) ∧ (rg x2) ∧ if (σ 84 (3652 + 12 * x1 + 4)) = x2 then ((0 ≤ 3652 + 12 * x1 + 3 ∧ 3652 + 12 * x1 + 3 < 112300) ∧ if 1 ≤ (σ 84 (3652 + 12 * x1 + 3)) ∧ (σ 84 (3652 + 12 * x1 + 3)) ≤ 2 then (Q (some (.int (wI 1))) S σ τ) else (Q (some (.int (wI 0))) S σ τ)) else (Q (some (.int (wI 0))) S σ τ)) : wi (d + 1) 279 0 [.ref 83, .int (wI x1), .int (wI x2)] [] S σ τ Q := by
  obtain ⟨p1, t⟩ := t
  refine i5 c_279_0 rfl (i3 c_279_1 rfl (i1 c_279_2 ?_))
  refine i80 (As := [.int (wI x1), .int (wI 4)]) (rest := []) c_279_3 mi_199 rfl rfl (Nat.le_of_ble_eq_true rfl) (Nat.le_of_ble_eq_true rfl) (lo (c := 83) (kd := 112) (n := 0) rfl (by decide)) (q_199 p1 ?_)
  show wi (d + 1) 279 6 [.ref 83, .int (wI x1), .int (wI x2)] [.int (wI (σ 84 (3652 + 12 * x1 + 4)))] S σ τ Q
  refine wi_ok (fun K2 => ?_)
  obtain ⟨r3, t⟩ := t
  refine i3 c_279_6 rfl ?_
  refine i37 c_279_7 (rge_ K2 rfl) r3 rfl (fun hc => ?_) (fun hc => ?_)
  · have t := iF t hc
    have ha4 : ¬ ((σ 84 (3652 + 12 * x1 + 4)) = x2) := hc
    refine i1 c_279_28 ?_
    exact i91 c_279_29 (by decide) t
  · have t := iT t (Decidable.not_not.mp hc)
    have ha4 : (σ 84 (3652 + 12 * x1 + 4)) = x2 := Decidable.not_not.mp hc
    obtain ⟨p5, t⟩ := t
    refine i5 c_279_10 rfl (i3 c_279_11 rfl (i1 c_279_12 ?_))
    refine i80 (As := [.int (wI x1), .int (wI 3)]) (rest := []) c_279_13 mi_199 rfl rfl (Nat.le_of_ble_eq_true rfl) (Nat.le_of_ble_eq_true rfl) (lo (c := 83) (kd := 112) (n := 0) rfl (by decide)) (q_199 p5 ?_)
    show wi (d + 1) 279 16 [.ref 83, .int (wI x1), .int (wI x2)] [.int (wI (σ 84 (3652 + 12 * x1 + 3)))] S σ τ Q
    refine i1 c_279_16 (i1 c_279_17 ?_)
    refine i81 (As := [.int (wI (σ 84 (3652 + 12 * x1 + 3))), .int (wI 1), .int (wI 2)]) (rest := []) c_279_18 mi_196 rfl rfl (Nat.le_of_ble_eq_true rfl) (Nat.le_of_ble_eq_true rfl) (q_196 (rge_ K2 rfl) (by decide) (by decide) ?_)
    show wi (d + 1) 279 21 [.ref 83, .int (wI x1), .int (wI x2)] [.int (wI (if 1 ≤ (σ 84 (3652 + 12 * x1 + 3)) ∧ (σ 84 (3652 + 12 * x1 + 3)) ≤ 2 then 1 else 0))] S σ τ Q
    refine i36e c_279_21 rfl (fun hc => ?_) (fun hc => ?_)
    · have t := iT t hc
      have ha6 : 1 ≤ (σ 84 (3652 + 12 * x1 + 3)) ∧ (σ 84 (3652 + 12 * x1 + 3)) ≤ 2 := hc
      refine i1 c_279_24 (i38 c_279_25 rfl ?_)
      exact i91 c_279_29 (by decide) t
    · have t := iF t hc
      have ha6 : ¬ (1 ≤ (σ 84 (3652 + 12 * x1 + 3)) ∧ (σ 84 (3652 + 12 * x1 + 3)) ≤ 2) := hc
      refine i1 c_279_28 ?_
      exact i91 c_279_29 (by decide) t
theorem q_279 {d : Nat} {S : zS} {σ τ : zI} {Q : zQ} {p : Int} {m : Int} (p0 : 0 ≤ p ∧ p < (60 : Int)) (p1 : rg m) (t : Q (some (.int (wI (if σ 84 (3652 + 12 * p + 4) = m ∧ (1 ≤ σ 84 (3652 + 12 * p + 3) ∧ σ 84 (3652 + 12 * p + 3) ≤ 2) then 1 else 0)))) S σ τ) : wc (d + 1) 279 [.ref 83, .int (wI p), .int (wI m)] S σ τ Q := by
  refine wc_of mi_279 rfl (u_279_0 ⟨by omega, p1, ifI (fun e => ⟨by omega, ifI (fun e2 => ?_) (fun e2 => ?_)⟩) (fun e => ?_)⟩)
  · rw [if_pos ⟨e, e2⟩] at t; exact t
  · rw [if_neg (fun h => e2 h.2)] at t; exact t
  · rw [if_neg (fun h => e h.1)] at t; exact t
-- method 280: MillTownModel.pointsOf(II)I
theorem c_280_0 : pg_cd 280 0 = (5, 1, 0, 0, 0) := by decide +kernel
theorem c_280_1 : pg_cd 280 1 = (3, 1, 0, 1, 0) := by decide +kernel
theorem c_280_2 : pg_cd 280 2 = (1, 1, 0, 0, 5) := by decide +kernel
theorem c_280_3 : pg_cd 280 3 = (80, 199, 102, 0, 0) := by decide +kernel
theorem c_280_6 : pg_cd 280 6 = (3, 1, 0, 2, 0) := by decide +kernel
theorem c_280_7 : pg_cd 280 7 = (12, 1, 0, 0, 0) := by decide +kernel
theorem c_280_8 : pg_cd 280 8 = (5, 1, 0, 0, 0) := by decide +kernel
theorem c_280_9 : pg_cd 280 9 = (5, 1, 0, 0, 0) := by decide +kernel
theorem c_280_10 : pg_cd 280 10 = (3, 1, 0, 1, 0) := by decide +kernel
theorem c_280_11 : pg_cd 280 11 = (1, 1, 0, 0, 4) := by decide +kernel
theorem c_280_12 : pg_cd 280 12 = (80, 199, 102, 0, 0) := by decide +kernel
theorem c_280_15 : pg_cd 280 15 = (1, 1, 0, 0, 1) := by decide +kernel
theorem c_280_16 : pg_cd 280 16 = (80, 198, 118, 0, 0) := by decide +kernel
theorem c_280_19 : pg_cd 280 19 = (12, 1, 0, 0, 0) := by decide +kernel
theorem c_280_20 : pg_cd 280 20 = (5, 1, 0, 0, 0) := by decide +kernel
theorem c_280_21 : pg_cd 280 21 = (3, 1, 0, 1, 0) := by decide +kernel
theorem c_280_22 : pg_cd 280 22 = (1, 1, 0, 0, 2) := by decide +kernel
theorem c_280_23 : pg_cd 280 23 = (80, 199, 102, 0, 0) := by decide +kernel
theorem c_280_26 : pg_cd 280 26 = (12, 1, 0, 0, 0) := by decide +kernel
theorem c_280_27 : pg_cd 280 27 = (90, 0, 0, 0, 0) := by decide +kernel
theorem mi_280 : pg_mc 280 = 12 ∧ pg_na 280 = 2 ∧ pg_mx 280 = 3 := by decide +kernel
set_option maxRecDepth 20000 in
theorem u_280_0 {d : Nat} {S : zS} {σ τ : zI} {Q : zQ} {x1 : Int} {x2 : Int} (t : (0 ≤ 3652 + 12 * x1 + 5 ∧ 3652 + 12 * x1 + 5 < 112300) ∧ (0 ≤ 3652 + 12 * x1 + 4 ∧ 3652 + 12 * x1 + 4 < 112300) ∧ (0 ≤ 3300 + 16 * (σ 84 (3652 + 12 * x1 + 4)) + 1 ∧ 3300 + 16 * (σ 84 (3652 + 12 * x1 + 4)) + 1 < 112300) ∧ (0 ≤ 3652 + 12 * x1 + 2 ∧ 3652 + 12 * x1 + 2 < 112300) ∧ Q (some (.int (wI ((((σ 84 (3652 + 12 * x1 + 5)) * x2) * (σ 84 (3300 + 16 * (σ 84 (3652 + 12 * x1 + 4)) + 1))) * (σ 84 (3652 + 12 * x1 + 2)))))) S σ τ) : wi (d + 1) 280 0 [.ref 83, .int (wI x1), .int (wI x2)] [] S σ τ Q := by
  obtain ⟨p1, t⟩ := t
  refine i5 c_280_0 rfl (i3 c_280_1 rfl (i1 c_280_2 ?_))
  refine i80 (As := [.int (wI x1), .int (wI 5)]) (rest := []) c_280_3 mi_199 rfl rfl (Nat.le_of_ble_eq_true rfl) (Nat.le_of_ble_eq_true rfl) (lo (c := 83) (kd := 112) (n := 0) rfl (by decide)) (q_199 p1 ?_)
  show wi (d + 1) 280 6 [.ref 83, .int (wI x1), .int (wI x2)] [.int (wI (σ 84 (3652 + 12 * x1 + 5)))] S σ τ Q
  refine wi_ok (fun K2 => ?_)
  obtain ⟨p3, t⟩ := t
  refine i3 c_280_6 rfl (i12 c_280_7 (i5 c_280_8 rfl (i5 c_280_9 rfl (i3 c_280_10 rfl (i1 c_280_11 ?_)))))
  refine i80 (As := [.int (wI x1), .int (wI 4)]) (rest := [.ref 83, .int (wI ((σ 84 (3652 + 12 * x1 + 5)) * x2))]) c_280_12 mi_199 rfl rfl (Nat.le_of_ble_eq_true rfl) (Nat.le_of_ble_eq_true rfl) (lo (c := 83) (kd := 112) (n := 0) rfl (by decide)) (q_199 p3 ?_)
  show wi (d + 1) 280 15 [.ref 83, .int (wI x1), .int (wI x2)] [.int (wI (σ 84 (3652 + 12 * x1 + 4))), .ref 83, .int (wI ((σ 84 (3652 + 12 * x1 + 5)) * x2))] S σ τ Q
  obtain ⟨p4, t⟩ := t
  refine i1 c_280_15 ?_
  refine i80 (As := [.int (wI (σ 84 (3652 + 12 * x1 + 4))), .int (wI 1)]) (rest := [.int (wI ((σ 84 (3652 + 12 * x1 + 5)) * x2))]) c_280_16 mi_198 rfl rfl (Nat.le_of_ble_eq_true rfl) (Nat.le_of_ble_eq_true rfl) (lo (c := 83) (kd := 112) (n := 0) rfl (by decide)) (q_198 p4 ?_)
  show wi (d + 1) 280 19 [.ref 83, .int (wI x1), .int (wI x2)] [.int (wI (σ 84 (3300 + 16 * (σ 84 (3652 + 12 * x1 + 4)) + 1))), .int (wI ((σ 84 (3652 + 12 * x1 + 5)) * x2))] S σ τ Q
  obtain ⟨p5, t⟩ := t
  refine i12 c_280_19 (i5 c_280_20 rfl (i3 c_280_21 rfl (i1 c_280_22 ?_)))
  refine i80 (As := [.int (wI x1), .int (wI 2)]) (rest := [.int (wI (((σ 84 (3652 + 12 * x1 + 5)) * x2) * (σ 84 (3300 + 16 * (σ 84 (3652 + 12 * x1 + 4)) + 1))))]) c_280_23 mi_199 rfl rfl (Nat.le_of_ble_eq_true rfl) (Nat.le_of_ble_eq_true rfl) (lo (c := 83) (kd := 112) (n := 0) rfl (by decide)) (q_199 p5 ?_)
  show wi (d + 1) 280 26 [.ref 83, .int (wI x1), .int (wI x2)] [.int (wI (σ 84 (3652 + 12 * x1 + 2))), .int (wI (((σ 84 (3652 + 12 * x1 + 5)) * x2) * (σ 84 (3300 + 16 * (σ 84 (3652 + 12 * x1 + 4)) + 1))))] S σ τ Q
  refine i12 c_280_26 ?_
  exact i90 c_280_27 t
theorem q_280 {d : Nat} {S : zS} {σ τ : zI} {Q : zQ} {p : Int} {h : Int} (p0 : Jv (σ 84)) (p1 : 0 ≤ p ∧ p < σ 84 4) (p2 : 0 ≤ σ 84 (3652 + 12 * p + 4)) (p3 : 0 ≤ h ∧ h ≤ (80 : Int)) (t : ∀ (v : Int), v = r_pts (σ 84) p h → 0 ≤ v ∧ v ≤ 8000000 → (1 ≤ σ 84 (3652 + 12 * p + 3) ∧ σ 84 (3652 + 12 * p + 3) ≤ 2 → v ≤ 960000) → Q (some (.int (wI v))) S σ τ) : wc (d + 1) 280 [.ref 83, .int (wI p), .int (wI h)] S σ τ Q := by
  have hC := jC p0
  unfold jv_C at hC
  have hP := jP p0 p p1.1 p1.2
  refine wc_of mi_280 rfl (u_280_0 ⟨by omega, by omega, by omega, by omega, t (r_pts (σ 84) p h) rfl ?_ ?_⟩)
  · have := r_pts_b p0 p1 p2 p3 (M := 50) (by omega); omega
  · intro h1
    have := r_pts_b p0 p1 p2 p3 (M := 6) (by omega); omega
theorem s_mk_b {a : Int → Int} {m p how : Int} (hJ : Jv a) (hT : jv_T a) (hm : 0 ≤ m ∧ m < a 1) (hp : 0 ≤ p ∧ p < a 4) (he : a (3652 + 12 * p + 4) = m) : 0 ≤ s_mk a m p how ∧ s_mk a m p how ≤ 594 := by
  have hM := jM hJ m hm.1 hm.2
  have hP := jP hJ p hp.1 hp.2
  unfold s_mk
  split
  · omega
  · split
    · next h1 h2 =>
      have c := r_cost_b (jK hJ) (k := a (3300 + 16 * m + 7)) (by omega)
      have q := r_pts_b hJ hp (by omega) (s_h_b (p := p) (how := how) (Jl_of hJ) hT) (M := 6) (by omega)
      rw [Int.tdiv_eq_ediv_of_nonneg (by omega)]
      refine ⟨Int.ediv_nonneg (by omega) (by omega), ?_⟩
      have : (a (3652 + 12 * p + 7) + r_pts a p (s_h a p how)) / r_cost a (a (3300 + 16 * m + 7)) < 595 := Int.ediv_lt_of_lt_mul (by omega) (by
        have := Int.mul_le_mul_of_nonneg_left (show 2000 ≤ r_cost a (a (3300 + 16 * m + 7)) by omega) (show (0 : Int) ≤ 595 by omega)
        omega)
      omega
    · omega
theorem s_py_b {a : Int → Int} {m : Int} (hJ : Jl a) (hT : jv_T a) : 0 ≤ s_py a m ∧ s_py a m ≤ 100000 := by
  unfold s_py
  split
  · omega
  · exact r_pay_b hJ hT
theorem s_v_b {a : Int → Int} {m p how : Int} (hJ : Jv a) (hT : jv_T a) (hm : 0 ≤ m ∧ m < a 1) (hp : 0 ≤ p ∧ p < a 4) (he : a (3652 + 12 * p + 4) = m) : 0 ≤ s_v a m p how ∧ s_v a m p how ≤ 60000000 := by
  have hP := jP hJ p hp.1 hp.2
  unfold s_v
  split
  · have b := s_h_b (p := p) (how := how) (Jl_of hJ) hT
    have := Int.mul_le_mul b.2 (show a (3652 + 12 * p + 5) ≤ 50 by omega) (by omega) (by omega)
    have := Int.mul_nonneg b.1 (show 0 ≤ a (3652 + 12 * p + 5) by omega)
    omega
  · have b := s_mk_b (how := how) hJ hT hm hp he
    have q := s_py_b (m := m) (Jl_of hJ) hT
    have := Int.mul_le_mul b.2 q.2 (by omega) (by omega)
    have := Int.mul_nonneg b.1 q.1
    omega
theorem s_own_b {a : Int → Int} {m p how : Int} (hJ : Jv a) (hT : jv_T a) (hm : 0 ≤ m ∧ m < a 1) (hp : 0 ≤ p ∧ p < a 4) (he : a (3652 + 12 * p + 4) = m) : 0 ≤ s_own a m p how ∧ s_own a m p how ≤ s_v a m p how := by
  have b := s_v_b (how := how) hJ hT hm hp he
  unfold s_own
  split
  · rw [Int.tdiv_eq_ediv_of_nonneg b.1]; omega
  · omega
theorem s_e1_b {a : Int → Int} {m p how h : Int} (hJ : Jv a) (hT : jv_T a) (hm : 0 ≤ m ∧ m < a 1) (hp : 0 ≤ p ∧ p < a 4) (he : a (3652 + 12 * p + 4) = m) : 0 ≤ s_e1 a m how h p ∧ s_e1 a m how h p ≤ 120000000 := by
  have b := s_v_b (how := how) hJ hT hm hp he
  have o := s_own_b (how := how) hJ hT hm hp he
  unfold s_e1
  repeat' split
  all_goals omega
theorem s_en_b {a : Int → Int} {m how h n : Int} (hJ : Jv a) (hT : jv_T a) (hm : 0 ≤ m ∧ m < a 1) (hn : 0 ≤ n ∧ n ≤ a 4) : 0 ≤ s_en a m how h n ∧ s_en a m how h n ≤ 120000000 * n := by
  have := sI_b (f := fun p => if a (3652 + 12 * p + 4) = m then s_e1 a m how h p else 0) (n := n) (lo := 0) (hi := 120000000) hn.1 (fun p p0 p1 => by
    try dsimp only
    split
    · next e => exact s_e1_b hJ hT hm ⟨p0, by omega⟩ e
    · omega)
  unfold s_en
  omega
theorem s_nn_b {a : Int → Int} {m n : Int} (hJ : Jv a) (hT : jv_T a) (hm : 0 ≤ m ∧ m < a 1) (hn : 0 ≤ n ∧ n ≤ a 4) : 0 ≤ s_nn a m n ∧ s_nn a m n ≤ 594 * n := by
  have := sI_b (f := fun p => if a (3652 + 12 * p + 4) = m then s_mk a m p 2 else 0) (n := n) (lo := 0) (hi := 594) hn.1 (fun p p0 p1 => by
    try dsimp only
    split
    · next e => exact s_mk_b hJ hT hm ⟨p0, by omega⟩ e
    · omega)
  unfold s_nn
  omega
/-- what shareOf leaves -/
def SH (σ σ1 τ τ1 : zI) (m how : Int) : Prop := (∀ c, c ≠ 83 → c ≠ 91 → c ≠ 92 → c ≠ 95 → σ1 c = σ c) ∧ (∀ k, k < 22 ∨ 25 < k → σ1 83 k = σ 83 k) ∧ (∀ c, c ≠ 83 → c ≠ 89 → c ≠ 90 → c ≠ 96 → τ1 c = τ c) ∧ σ1 95 = u1 (σ 95) (3 * m + how) (s_pc (σ 84) m how) ∧ (∀ h, 0 ≤ h → h < 24 → τ1 96 (24 * (3 * m + how) + h) = s_e (σ 84) m how h) ∧ ∀ k, k < 24 * (3 * m + how) ∨ 24 * (3 * m + how) + 24 ≤ k → τ1 96 k = τ 96 k
/-- the earnings so far -/
def SI (τ τ' : zI) (a : Int → Int) (m how n : Int) : Prop := (∀ h, 0 ≤ h → h < 24 → τ' 96 (24 * (3 * m + how) + h) = s_en a m how h n) ∧ (∀ k, k < 24 * (3 * m + how) ∨ 24 * (3 * m + how) + 24 ≤ k → τ' 96 k = τ 96 k) ∧ ∀ c, c ≠ 83 → c ≠ 89 → c ≠ 90 → c ≠ 96 → τ' c = τ c
-- method 312: MillTownModel.shareOf(II)V
theorem c_312_0 : pg_cd 312 0 = (5, 1, 0, 0, 0) := by decide +kernel
theorem c_312_1 : pg_cd 312 1 = (45, 12, 8, 0, 0) := by decide +kernel
theorem c_312_4 : pg_cd 312 4 = (1, 1, 0, 0, 0) := by decide +kernel
theorem c_312_5 : pg_cd 312 5 = (50, 1, 0, 0, 0) := by decide +kernel
theorem c_312_6 : pg_cd 312 6 = (6, 1, 0, 3, 0) := by decide +kernel
theorem c_312_7 : pg_cd 312 7 = (5, 1, 0, 0, 0) := by decide +kernel
theorem c_312_8 : pg_cd 312 8 = (3, 1, 0, 1, 0) := by decide +kernel
theorem c_312_9 : pg_cd 312 9 = (1, 2, 0, 0, 7) := by decide +kernel
theorem c_312_11 : pg_cd 312 11 = (80, 198, 118, 0, 0) := by decide +kernel
theorem c_312_14 : pg_cd 312 14 = (6, 2, 0, 4, 0) := by decide +kernel
theorem c_312_16 : pg_cd 312 16 = (1, 1, 0, 0, 3) := by decide +kernel
theorem c_312_17 : pg_cd 312 17 = (3, 1, 0, 1, 0) := by decide +kernel
theorem c_312_18 : pg_cd 312 18 = (12, 1, 0, 0, 0) := by decide +kernel
theorem c_312_19 : pg_cd 312 19 = (3, 1, 0, 2, 0) := by decide +kernel
theorem c_312_20 : pg_cd 312 20 = (10, 1, 0, 0, 0) := by decide +kernel
theorem c_312_21 : pg_cd 312 21 = (6, 2, 0, 5, 0) := by decide +kernel
theorem c_312_23 : pg_cd 312 23 = (1, 1, 0, 0, 0) := by decide +kernel
theorem c_312_24 : pg_cd 312 24 = (6, 2, 0, 6, 0) := by decide +kernel
theorem c_312_26 : pg_cd 312 26 = (1, 1, 0, 0, 0) := by decide +kernel
theorem c_312_27 : pg_cd 312 27 = (6, 2, 0, 7, 0) := by decide +kernel
theorem c_312_29 : pg_cd 312 29 = (3, 2, 0, 7, 0) := by decide +kernel
theorem c_312_31 : pg_cd 312 31 = (1, 2, 0, 0, 24) := by decide +kernel
theorem c_312_33 : pg_cd 312 33 = (37, 3, 0, 3, 23) := by decide +kernel
theorem c_312_36 : pg_cd 312 36 = (5, 1, 0, 0, 0) := by decide +kernel
theorem c_312_37 : pg_cd 312 37 = (45, 12, 56, 35, 0) := by decide +kernel
theorem c_312_40 : pg_cd 312 40 = (1, 2, 0, 0, 24) := by decide +kernel
theorem c_312_42 : pg_cd 312 42 = (3, 2, 0, 5, 0) := by decide +kernel
theorem c_312_44 : pg_cd 312 44 = (12, 1, 0, 0, 0) := by decide +kernel
theorem c_312_45 : pg_cd 312 45 = (3, 2, 0, 7, 0) := by decide +kernel
theorem c_312_47 : pg_cd 312 47 = (10, 1, 0, 0, 0) := by decide +kernel
theorem c_312_48 : pg_cd 312 48 = (2, 1, 0, 0, 0) := by decide +kernel
theorem c_312_49 : pg_cd 312 49 = (56, 1, 0, 0, 0) := by decide +kernel
theorem c_312_50 : pg_cd 312 50 = (9, 3, 0, 7, 1) := by decide +kernel
theorem c_312_53 : pg_cd 312 53 = (38, 3, 0, 0, (-24)) := by decide +kernel
theorem c_312_56 : pg_cd 312 56 = (5, 1, 0, 0, 0) := by decide +kernel
theorem c_312_57 : pg_cd 312 57 = (45, 12, 53, 34, 0) := by decide +kernel
theorem c_312_60 : pg_cd 312 60 = (3, 2, 0, 5, 0) := by decide +kernel
theorem c_312_62 : pg_cd 312 62 = (1, 1, 0, 0, 0) := by decide +kernel
theorem c_312_63 : pg_cd 312 63 = (54, 1, 0, 0, 0) := by decide +kernel
theorem c_312_64 : pg_cd 312 64 = (3, 1, 0, 2, 0) := by decide +kernel
theorem c_312_65 : pg_cd 312 65 = (36, 3, 0, 1, 4) := by decide +kernel
theorem c_312_68 : pg_cd 312 68 = (94, 0, 0, 0, 0) := by decide +kernel
theorem c_312_69 : pg_cd 312 69 = (3, 2, 0, 4, 0) := by decide +kernel
theorem c_312_71 : pg_cd 312 71 = (36, 3, 0, 3, 7) := by decide +kernel
theorem c_312_74 : pg_cd 312 74 = (1, 1, 0, 0, 0) := by decide +kernel
theorem c_312_75 : pg_cd 312 75 = (38, 3, 0, 0, 12) := by decide +kernel
theorem c_312_78 : pg_cd 312 78 = (5, 1, 0, 0, 0) := by decide +kernel
theorem c_312_79 : pg_cd 312 79 = (3, 2, 0, 4, 0) := by decide +kernel
theorem c_312_81 : pg_cd 312 81 = (3, 1, 0, 1, 0) := by decide +kernel
theorem c_312_82 : pg_cd 312 82 = (3, 1, 0, 3, 0) := by decide +kernel
theorem c_312_83 : pg_cd 312 83 = (3, 1, 0, 3, 0) := by decide +kernel
theorem c_312_84 : pg_cd 312 84 = (80, 271, 337, 0, 0) := by decide +kernel
theorem c_312_87 : pg_cd 312 87 = (6, 2, 0, 7, 0) := by decide +kernel
theorem c_312_89 : pg_cd 312 89 = (1, 1, 0, 0, 0) := by decide +kernel
theorem c_312_90 : pg_cd 312 90 = (6, 2, 0, 8, 0) := by decide +kernel
theorem c_312_92 : pg_cd 312 92 = (3, 2, 0, 8, 0) := by decide +kernel
theorem c_312_94 : pg_cd 312 94 = (5, 1, 0, 0, 0) := by decide +kernel
theorem c_312_95 : pg_cd 312 95 = (45, 12, 8, 0, 0) := by decide +kernel
theorem c_312_98 : pg_cd 312 98 = (1, 1, 0, 0, 4) := by decide +kernel
theorem c_312_99 : pg_cd 312 99 = (50, 1, 0, 0, 0) := by decide +kernel
theorem c_312_100 : pg_cd 312 100 = (37, 3, 0, 3, 283) := by decide +kernel
theorem c_312_103 : pg_cd 312 103 = (5, 1, 0, 0, 0) := by decide +kernel
theorem c_312_104 : pg_cd 312 104 = (3, 2, 0, 8, 0) := by decide +kernel
theorem c_312_106 : pg_cd 312 106 = (1, 1, 0, 0, 4) := by decide +kernel
theorem c_312_107 : pg_cd 312 107 = (80, 199, 102, 0, 0) := by decide +kernel
theorem c_312_110 : pg_cd 312 110 = (3, 1, 0, 1, 0) := by decide +kernel
theorem c_312_111 : pg_cd 312 111 = (37, 3, 0, 0, 6) := by decide +kernel
theorem c_312_114 : pg_cd 312 114 = (38, 3, 0, 0, 263) := by decide +kernel
theorem c_312_117 : pg_cd 312 117 = (5, 1, 0, 0, 0) := by decide +kernel
theorem c_312_118 : pg_cd 312 118 = (5, 1, 0, 0, 0) := by decide +kernel
theorem c_312_119 : pg_cd 312 119 = (3, 2, 0, 8, 0) := by decide +kernel
theorem c_312_121 : pg_cd 312 121 = (1, 1, 0, 0, 1) := by decide +kernel
theorem c_312_122 : pg_cd 312 122 = (80, 199, 102, 0, 0) := by decide +kernel
theorem c_312_125 : pg_cd 312 125 = (3, 1, 0, 1, 0) := by decide +kernel
theorem c_312_126 : pg_cd 312 126 = (3, 1, 0, 3, 0) := by decide +kernel
theorem c_312_127 : pg_cd 312 127 = (3, 1, 0, 3, 0) := by decide +kernel
theorem c_312_128 : pg_cd 312 128 = (80, 276, 343, 0, 0) := by decide +kernel
theorem c_312_131 : pg_cd 312 131 = (6, 2, 0, 9, 0) := by decide +kernel
theorem c_312_133 : pg_cd 312 133 = (3, 1, 0, 2, 0) := by decide +kernel
theorem c_312_134 : pg_cd 312 134 = (1, 1, 0, 0, 1) := by decide +kernel
theorem c_312_135 : pg_cd 312 135 = (37, 3, 0, 1, 9) := by decide +kernel
theorem c_312_138 : pg_cd 312 138 = (3, 2, 0, 9, 0) := by decide +kernel
theorem c_312_140 : pg_cd 312 140 = (1, 1, 0, 0, 2) := by decide +kernel
theorem c_312_141 : pg_cd 312 141 = (16, 1, 0, 0, 0) := by decide +kernel
theorem c_312_142 : pg_cd 312 142 = (6, 2, 0, 9, 0) := by decide +kernel
theorem c_312_144 : pg_cd 312 144 = (3, 2, 0, 4, 0) := by decide +kernel
theorem c_312_146 : pg_cd 312 146 = (36, 3, 0, 2, 13) := by decide +kernel
theorem c_312_149 : pg_cd 312 149 = (5, 1, 0, 0, 0) := by decide +kernel
theorem c_312_150 : pg_cd 312 150 = (3, 2, 0, 8, 0) := by decide +kernel
theorem c_312_152 : pg_cd 312 152 = (3, 1, 0, 1, 0) := by decide +kernel
theorem c_312_153 : pg_cd 312 153 = (80, 279, 346, 0, 0) := by decide +kernel
theorem c_312_156 : pg_cd 312 156 = (36, 3, 0, 1, 7) := by decide +kernel
theorem c_312_159 : pg_cd 312 159 = (1, 1, 0, 0, 0) := by decide +kernel
theorem c_312_160 : pg_cd 312 160 = (38, 3, 0, 0, 27) := by decide +kernel
theorem c_312_163 : pg_cd 312 163 = (5, 1, 0, 0, 0) := by decide +kernel
theorem c_312_164 : pg_cd 312 164 = (3, 2, 0, 8, 0) := by decide +kernel
theorem c_312_166 : pg_cd 312 166 = (1, 2, 0, 0, 7) := by decide +kernel
theorem c_312_168 : pg_cd 312 168 = (80, 199, 102, 0, 0) := by decide +kernel
theorem c_312_171 : pg_cd 312 171 = (5, 1, 0, 0, 0) := by decide +kernel
theorem c_312_172 : pg_cd 312 172 = (3, 2, 0, 8, 0) := by decide +kernel
theorem c_312_174 : pg_cd 312 174 = (3, 2, 0, 9, 0) := by decide +kernel
theorem c_312_176 : pg_cd 312 176 = (80, 280, 349, 0, 0) := by decide +kernel
theorem c_312_179 : pg_cd 312 179 = (10, 1, 0, 0, 0) := by decide +kernel
theorem c_312_180 : pg_cd 312 180 = (5, 1, 0, 0, 0) := by decide +kernel
theorem c_312_181 : pg_cd 312 181 = (3, 2, 0, 4, 0) := by decide +kernel
theorem c_312_183 : pg_cd 312 183 = (80, 278, 352, 0, 0) := by decide +kernel
theorem c_312_186 : pg_cd 312 186 = (16, 1, 0, 0, 0) := by decide +kernel
theorem c_312_187 : pg_cd 312 187 = (6, 2, 0, 10, 0) := by decide +kernel
theorem c_312_189 : pg_cd 312 189 = (3, 2, 0, 6, 0) := by decide +kernel
theorem c_312_191 : pg_cd 312 191 = (3, 2, 0, 4, 0) := by decide +kernel
theorem c_312_193 : pg_cd 312 193 = (36, 3, 0, 2, 13) := by decide +kernel
theorem c_312_196 : pg_cd 312 196 = (5, 1, 0, 0, 0) := by decide +kernel
theorem c_312_197 : pg_cd 312 197 = (3, 2, 0, 8, 0) := by decide +kernel
theorem c_312_199 : pg_cd 312 199 = (3, 1, 0, 1, 0) := by decide +kernel
theorem c_312_200 : pg_cd 312 200 = (80, 279, 346, 0, 0) := by decide +kernel
theorem c_312_203 : pg_cd 312 203 = (36, 3, 0, 1, 7) := by decide +kernel
theorem c_312_206 : pg_cd 312 206 = (1, 1, 0, 0, 0) := by decide +kernel
theorem c_312_207 : pg_cd 312 207 = (38, 3, 0, 0, 39) := by decide +kernel
theorem c_312_210 : pg_cd 312 210 = (5, 1, 0, 0, 0) := by decide +kernel
theorem c_312_211 : pg_cd 312 211 = (3, 2, 0, 8, 0) := by decide +kernel
theorem c_312_213 : pg_cd 312 213 = (1, 2, 0, 0, 7) := by decide +kernel
theorem c_312_215 : pg_cd 312 215 = (80, 199, 102, 0, 0) := by decide +kernel
theorem c_312_218 : pg_cd 312 218 = (5, 1, 0, 0, 0) := by decide +kernel
theorem c_312_219 : pg_cd 312 219 = (3, 2, 0, 8, 0) := by decide +kernel
theorem c_312_221 : pg_cd 312 221 = (5, 1, 0, 0, 0) := by decide +kernel
theorem c_312_222 : pg_cd 312 222 = (5, 1, 0, 0, 0) := by decide +kernel
theorem c_312_223 : pg_cd 312 223 = (3, 2, 0, 8, 0) := by decide +kernel
theorem c_312_225 : pg_cd 312 225 = (1, 1, 0, 0, 1) := by decide +kernel
theorem c_312_226 : pg_cd 312 226 = (80, 199, 102, 0, 0) := by decide +kernel
theorem c_312_229 : pg_cd 312 229 = (3, 1, 0, 1, 0) := by decide +kernel
theorem c_312_230 : pg_cd 312 230 = (3, 1, 0, 3, 0) := by decide +kernel
theorem c_312_231 : pg_cd 312 231 = (3, 1, 0, 3, 0) := by decide +kernel
theorem c_312_232 : pg_cd 312 232 = (80, 276, 343, 0, 0) := by decide +kernel
theorem c_312_235 : pg_cd 312 235 = (80, 280, 349, 0, 0) := by decide +kernel
theorem c_312_238 : pg_cd 312 238 = (10, 1, 0, 0, 0) := by decide +kernel
theorem c_312_239 : pg_cd 312 239 = (5, 1, 0, 0, 0) := by decide +kernel
theorem c_312_240 : pg_cd 312 240 = (3, 2, 0, 4, 0) := by decide +kernel
theorem c_312_242 : pg_cd 312 242 = (80, 278, 352, 0, 0) := by decide +kernel
theorem c_312_245 : pg_cd 312 245 = (16, 1, 0, 0, 0) := by decide +kernel
theorem c_312_246 : pg_cd 312 246 = (10, 1, 0, 0, 0) := by decide +kernel
theorem c_312_247 : pg_cd 312 247 = (6, 2, 0, 6, 0) := by decide +kernel
theorem c_312_249 : pg_cd 312 249 = (5, 1, 0, 0, 0) := by decide +kernel
theorem c_312_250 : pg_cd 312 250 = (3, 2, 0, 8, 0) := by decide +kernel
theorem c_312_252 : pg_cd 312 252 = (1, 1, 0, 0, 3) := by decide +kernel
theorem c_312_253 : pg_cd 312 253 = (80, 199, 102, 0, 0) := by decide +kernel
theorem c_312_256 : pg_cd 312 256 = (1, 1, 0, 0, 3) := by decide +kernel
theorem c_312_257 : pg_cd 312 257 = (37, 3, 0, 2, 16) := by decide +kernel
theorem c_312_260 : pg_cd 312 260 = (3, 2, 0, 9, 0) := by decide +kernel
theorem c_312_262 : pg_cd 312 262 = (5, 1, 0, 0, 0) := by decide +kernel
theorem c_312_263 : pg_cd 312 263 = (3, 2, 0, 8, 0) := by decide +kernel
theorem c_312_265 : pg_cd 312 265 = (1, 1, 0, 0, 5) := by decide +kernel
theorem c_312_266 : pg_cd 312 266 = (80, 199, 102, 0, 0) := by decide +kernel
theorem c_312_269 : pg_cd 312 269 = (12, 1, 0, 0, 0) := by decide +kernel
theorem c_312_270 : pg_cd 312 270 = (38, 3, 0, 0, 8) := by decide +kernel
theorem c_312_273 : pg_cd 312 273 = (3, 2, 0, 10, 0) := by decide +kernel
theorem c_312_275 : pg_cd 312 275 = (3, 2, 0, 7, 0) := by decide +kernel
theorem c_312_277 : pg_cd 312 277 = (12, 1, 0, 0, 0) := by decide +kernel
theorem c_312_278 : pg_cd 312 278 = (6, 2, 0, 11, 0) := by decide +kernel
theorem c_312_280 : pg_cd 312 280 = (5, 1, 0, 0, 0) := by decide +kernel
theorem c_312_281 : pg_cd 312 281 = (3, 2, 0, 8, 0) := by decide +kernel
theorem c_312_283 : pg_cd 312 283 = (1, 1, 0, 0, 3) := by decide +kernel
theorem c_312_284 : pg_cd 312 284 = (80, 199, 102, 0, 0) := by decide +kernel
theorem c_312_287 : pg_cd 312 287 = (1, 1, 0, 0, 2) := by decide +kernel
theorem c_312_288 : pg_cd 312 288 = (37, 3, 0, 1, 10) := by decide +kernel
theorem c_312_291 : pg_cd 312 291 = (3, 2, 0, 11, 0) := by decide +kernel
theorem c_312_293 : pg_cd 312 293 = (1, 1, 0, 0, 3) := by decide +kernel
theorem c_312_294 : pg_cd 312 294 = (16, 1, 0, 0, 0) := by decide +kernel
theorem c_312_295 : pg_cd 312 295 = (38, 3, 0, 0, 5) := by decide +kernel
theorem c_312_298 : pg_cd 312 298 = (3, 2, 0, 11, 0) := by decide +kernel
theorem c_312_300 : pg_cd 312 300 = (6, 2, 0, 12, 0) := by decide +kernel
theorem c_312_302 : pg_cd 312 302 = (5, 1, 0, 0, 0) := by decide +kernel
theorem c_312_303 : pg_cd 312 303 = (45, 12, 56, 35, 0) := by decide +kernel
theorem c_312_306 : pg_cd 312 306 = (1, 2, 0, 0, 24) := by decide +kernel
theorem c_312_308 : pg_cd 312 308 = (3, 2, 0, 5, 0) := by decide +kernel
theorem c_312_310 : pg_cd 312 310 = (12, 1, 0, 0, 0) := by decide +kernel
theorem c_312_311 : pg_cd 312 311 = (5, 1, 0, 0, 0) := by decide +kernel
theorem c_312_312 : pg_cd 312 312 = (3, 2, 0, 8, 0) := by decide +kernel
theorem c_312_314 : pg_cd 312 314 = (1, 1, 0, 0, 0) := by decide +kernel
theorem c_312_315 : pg_cd 312 315 = (80, 199, 102, 0, 0) := by decide +kernel
theorem c_312_318 : pg_cd 312 318 = (10, 1, 0, 0, 0) := by decide +kernel
theorem c_312_319 : pg_cd 312 319 = (34, 1, 0, 0, 0) := by decide +kernel
theorem c_312_320 : pg_cd 312 320 = (52, 1, 0, 0, 0) := by decide +kernel
theorem c_312_321 : pg_cd 312 321 = (3, 2, 0, 12, 0) := by decide +kernel
theorem c_312_323 : pg_cd 312 323 = (31, 1, 0, 0, 0) := by decide +kernel
theorem c_312_324 : pg_cd 312 324 = (22, 1, 0, 0, 0) := by decide +kernel
theorem c_312_325 : pg_cd 312 325 = (56, 1, 0, 0, 0) := by decide +kernel
theorem c_312_326 : pg_cd 312 326 = (3, 2, 0, 12, 0) := by decide +kernel
theorem c_312_328 : pg_cd 312 328 = (3, 2, 0, 11, 0) := by decide +kernel
theorem c_312_330 : pg_cd 312 330 = (37, 3, 0, 2, 14) := by decide +kernel
theorem c_312_333 : pg_cd 312 333 = (5, 1, 0, 0, 0) := by decide +kernel
theorem c_312_334 : pg_cd 312 334 = (3, 2, 0, 8, 0) := by decide +kernel
theorem c_312_336 : pg_cd 312 336 = (1, 1, 0, 0, 3) := by decide +kernel
theorem c_312_337 : pg_cd 312 337 = (80, 199, 102, 0, 0) := by decide +kernel
theorem c_312_340 : pg_cd 312 340 = (1, 1, 0, 0, 2) := by decide +kernel
theorem c_312_341 : pg_cd 312 341 = (37, 3, 0, 1, 36) := by decide +kernel
theorem c_312_344 : pg_cd 312 344 = (5, 1, 0, 0, 0) := by decide +kernel
theorem c_312_345 : pg_cd 312 345 = (45, 12, 56, 35, 0) := by decide +kernel
theorem c_312_348 : pg_cd 312 348 = (1, 2, 0, 0, 24) := by decide +kernel
theorem c_312_350 : pg_cd 312 350 = (3, 2, 0, 5, 0) := by decide +kernel
theorem c_312_352 : pg_cd 312 352 = (12, 1, 0, 0, 0) := by decide +kernel
theorem c_312_353 : pg_cd 312 353 = (5, 1, 0, 0, 0) := by decide +kernel
theorem c_312_354 : pg_cd 312 354 = (5, 1, 0, 0, 0) := by decide +kernel
theorem c_312_355 : pg_cd 312 355 = (3, 2, 0, 8, 0) := by decide +kernel
theorem c_312_357 : pg_cd 312 357 = (1, 2, 0, 0, 6) := by decide +kernel
theorem c_312_359 : pg_cd 312 359 = (80, 199, 102, 0, 0) := by decide +kernel
theorem c_312_362 : pg_cd 312 362 = (1, 1, 0, 0, 0) := by decide +kernel
theorem c_312_363 : pg_cd 312 363 = (80, 199, 102, 0, 0) := by decide +kernel
theorem c_312_366 : pg_cd 312 366 = (10, 1, 0, 0, 0) := by decide +kernel
theorem c_312_367 : pg_cd 312 367 = (34, 1, 0, 0, 0) := by decide +kernel
theorem c_312_368 : pg_cd 312 368 = (52, 1, 0, 0, 0) := by decide +kernel
theorem c_312_369 : pg_cd 312 369 = (3, 2, 0, 11, 0) := by decide +kernel
theorem c_312_371 : pg_cd 312 371 = (3, 2, 0, 12, 0) := by decide +kernel
theorem c_312_373 : pg_cd 312 373 = (11, 1, 0, 0, 0) := by decide +kernel
theorem c_312_374 : pg_cd 312 374 = (31, 1, 0, 0, 0) := by decide +kernel
theorem c_312_375 : pg_cd 312 375 = (22, 1, 0, 0, 0) := by decide +kernel
theorem c_312_376 : pg_cd 312 376 = (56, 1, 0, 0, 0) := by decide +kernel
theorem c_312_377 : pg_cd 312 377 = (9, 3, 0, 8, 1) := by decide +kernel
theorem c_312_380 : pg_cd 312 380 = (38, 3, 0, 0, (-288)) := by decide +kernel
theorem c_312_383 : pg_cd 312 383 = (5, 1, 0, 0, 0) := by decide +kernel
theorem c_312_384 : pg_cd 312 384 = (45, 12, 53, 34, 0) := by decide +kernel
theorem c_312_387 : pg_cd 312 387 = (3, 2, 0, 5, 0) := by decide +kernel
theorem c_312_389 : pg_cd 312 389 = (3, 1, 0, 2, 0) := by decide +kernel
theorem c_312_390 : pg_cd 312 390 = (1, 1, 0, 0, 2) := by decide +kernel
theorem c_312_391 : pg_cd 312 391 = (37, 3, 0, 1, 8) := by decide +kernel
theorem c_312_394 : pg_cd 312 394 = (3, 2, 0, 6, 0) := by decide +kernel
theorem c_312_396 : pg_cd 312 396 = (38, 3, 0, 0, 7) := by decide +kernel
theorem c_312_399 : pg_cd 312 399 = (3, 2, 0, 6, 0) := by decide +kernel
theorem c_312_401 : pg_cd 312 401 = (1, 1, 0, 0, 2) := by decide +kernel
theorem c_312_402 : pg_cd 312 402 = (16, 1, 0, 0, 0) := by decide +kernel
theorem c_312_403 : pg_cd 312 403 = (54, 1, 0, 0, 0) := by decide +kernel
theorem c_312_404 : pg_cd 312 404 = (94, 0, 0, 0, 0) := by decide +kernel
theorem mi_312 : pg_mc 312 = 12 ∧ pg_na 312 = 2 ∧ pg_mx 312 = 13 := by decide +kernel
set_option maxRecDepth 20000 in
theorem u_312_0 {d : Nat} {S : zS} {σ τ : zI} {Q : zQ} {x1 : Int} {x2 : Int} (t : (0 ≤ 3300 + 16 * x1 + 7 ∧ 3300 + 16 * x1 + 7 < 112300) ∧ wi (d + 9) 312 29 [.ref 83, .int (wI x1), .int (wI x2), .int (wI (σ 84 0)), .int (wI (σ 84 (3300 + 16 * x1 + 7))), .int (wI ((3 * x1) + x2)), .int (wI 0), .int (wI 0), .retAddr 0, .retAddr 0, .retAddr 0, .retAddr 0, .retAddr 0] [] S σ τ Q) : wi (d + 9) 312 0 [.ref 83, .int (wI x1), .int (wI x2), .retAddr 0, .retAddr 0, .retAddr 0, .retAddr 0, .retAddr 0, .retAddr 0, .retAddr 0, .retAddr 0, .retAddr 0, .retAddr 0] [] S σ τ Q := by
  refine i5 c_312_0 rfl (i45 c_312_1 (lo (c := 83) (kd := 112) (n := 0) rfl (by decide)) (lro (c := 83) (k := 0) (j := 84) (by decide)) (i1 c_312_4 (wi_ok (fun K1 => ?_))))
  obtain ⟨p2, t⟩ := t
  refine i50 (v := σ 84 0) c_312_5 (lo (c := 84) (kd := 0) (n := 112300) rfl (by decide)) (by decide) (by decide) rfl (i6 (L' := [.ref 83, .int (wI x1), .int (wI x2), .int (wI (σ 84 0)), .retAddr 0, .retAddr 0, .retAddr 0, .retAddr 0, .retAddr 0, .retAddr 0, .retAddr 0, .retAddr 0, .retAddr 0]) c_312_6 rfl (i5 c_312_7 rfl (i3 c_312_8 rfl (i1 c_312_9 ?_))))
  refine i80 (As := [.int (wI x1), .int (wI 7)]) (rest := []) c_312_11 mi_198 rfl rfl (Nat.le_of_ble_eq_true rfl) (Nat.le_of_ble_eq_true rfl) (lo (c := 83) (kd := 112) (n := 0) rfl (by decide)) (q_198 p2 ?_)
  show wi (d + 9) 312 14 [.ref 83, .int (wI x1), .int (wI x2), .int (wI (σ 84 0)), .retAddr 0, .retAddr 0, .retAddr 0, .retAddr 0, .retAddr 0, .retAddr 0, .retAddr 0, .retAddr 0, .retAddr 0] [.int (wI (σ 84 (3300 + 16 * x1 + 7)))] S σ τ Q
  refine i6 (L' := [.ref 83, .int (wI x1), .int (wI x2), .int (wI (σ 84 0)), .int (wI (σ 84 (3300 + 16 * x1 + 7))), .retAddr 0, .retAddr 0, .retAddr 0, .retAddr 0, .retAddr 0, .retAddr 0, .retAddr 0, .retAddr 0]) c_312_14 rfl (i1 c_312_16 (i3 c_312_17 rfl (i12 c_312_18 (i3 c_312_19 rfl (i10 c_312_20 (i6 (L' := [.ref 83, .int (wI x1), .int (wI x2), .int (wI (σ 84 0)), .int (wI (σ 84 (3300 + 16 * x1 + 7))), .int (wI ((3 * x1) + x2)), .retAddr 0, .retAddr 0, .retAddr 0, .retAddr 0, .retAddr 0, .retAddr 0, .retAddr 0]) c_312_21 rfl (i1 c_312_23 (i6 (L' := [.ref 83, .int (wI x1), .int (wI x2), .int (wI (σ 84 0)), .int (wI (σ 84 (3300 + 16 * x1 + 7))), .int (wI ((3 * x1) + x2)), .int (wI 0), .retAddr 0, .retAddr 0, .retAddr 0, .retAddr 0, .retAddr 0, .retAddr 0]) c_312_24 rfl (i1 c_312_26 (i6 (L' := [.ref 83, .int (wI x1), .int (wI x2), .int (wI (σ 84 0)), .int (wI (σ 84 (3300 + 16 * x1 + 7))), .int (wI ((3 * x1) + x2)), .int (wI 0), .int (wI 0), .retAddr 0, .retAddr 0, .retAddr 0, .retAddr 0, .retAddr 0]) c_312_27 rfl t))))))))))
set_option maxRecDepth 20000 in
theorem u_312_29 {d : Nat} {S : zS} {σ τ : zI} {Q : zQ} {x1 : Int} {x2 : Int} {x3 : Int} {x4 : Int} {x5 : Int} {x6 : Int} {x7 : Int} {y8 : Value} {y9 : Value} {y10 : Value} {y11 : Value} {y12 : Value} (t : (rg x7) ∧ if (24 : Int) ≤ x7 then ((0 ≤ x5 ∧ x5 < 24) ∧ (rg x2) ∧ if x2 = 0 then (Q none S (uc σ 95 (u1 (σ 95) x5 0)) τ) else ((rg x4) ∧ if (0 : Int) ≤ x4 then ((Jl ((uc σ 95 (u1 (σ 95) x5 0)) 84)) ∧ (jv_T ((uc σ 95 (u1 (σ 95) x5 0)) 84)) ∧ (jv_E ((uc σ 95 (u1 (σ 95) x5 0)) 84)) ∧ (0 ≤ x4 ∧ x4 ≤ 5) ∧ (rg x1) ∧ (rg x3) ∧ ∀ (σ114 : zI) (τ115 : zI), Fr8 (uc σ 95 (u1 (σ 95) x5 0)) σ114 τ τ115 → σ114 83 24 = r_fc ((uc σ 95 (u1 (σ 95) x5 0)) 84) 1 x1 x3 x3 → Wy σ114 ((uc σ 95 (u1 (σ 95) x5 0)) 84) x4 x1 x3 x3 → wi (d + 9) 312 92 [.ref 83, .int (wI x1), .int (wI x2), .int (wI x3), .int (wI x4), .int (wI x5), .int (wI x6), .int (wI (r_pay ((uc σ 95 (u1 (σ 95) x5 0)) 84) x4 x1 x3 x3)), .int (wI 0), y9, y10, y11, y12] [] S σ114 τ115 Q) else (wi (d + 9) 312 92 [.ref 83, .int (wI x1), .int (wI x2), .int (wI x3), .int (wI x4), .int (wI x5), .int (wI x6), .int (wI 0), .int (wI 0), y9, y10, y11, y12] [] S (uc σ 95 (u1 (σ 95) x5 0)) τ Q))) else ((0 ≤ (24 * x5) + x7 ∧ (24 * x5) + x7 < 576) ∧ wi (d + 9) 312 29 [.ref 83, .int (wI x1), .int (wI x2), .int (wI x3), .int (wI x4), .int (wI x5), .int (wI x6), .int (wI (x7 + 1)), y8, y9, y10, y11, y12] [] S σ (uc τ 96 (u1 (τ 96) ((24 * x5) + x7) 0)) Q)) : wi (d + 9) 312 29 [.ref 83, .int (wI x1), .int (wI x2), .int (wI x3), .int (wI x4), .int (wI x5), .int (wI x6), .int (wI x7), y8, y9, y10, y11, y12] [] S σ τ Q := by
  obtain ⟨r1, t⟩ := t
  refine i3 c_312_29 rfl (i1 c_312_31 ?_)
  refine i37 c_312_33 r1 (by decide) rfl (fun hc => ?_) (fun hc => ?_)
  · have t := iT t hc
    have ha2 : (24 : Int) ≤ x7 := hc
    obtain ⟨r3, t⟩ := t
    obtain ⟨r4, t⟩ := t
    refine i5 c_312_56 rfl (i45 c_312_57 (lo (c := 83) (kd := 112) (n := 0) rfl (by decide)) (lro (c := 83) (k := 34) (j := 95) (by decide)) (i3 c_312_60 rfl (i1 c_312_62 (i54 (σ1 := uc σ 95 (u1 (σ 95) x5 0)) c_312_63 (lo (c := 95) (kd := 0) (n := 24) rfl (by decide)) (by decide) r3 (by decide) rfl (by decide) (wr_ rfl rfl) (i3 c_312_64 rfl ?_)))))
    refine i36 c_312_65 r4 rfl (fun hc => ?_) (fun hc => ?_)
    · have t := iF t hc
      have ha5 : ¬ (x2 = 0) := hc
      obtain ⟨r6, t⟩ := t
      refine i3 c_312_69 rfl ?_
      refine i36 c_312_71 r6 rfl (fun hc => ?_) (fun hc => ?_)
      · have t := iT t hc
        have ha7 : (0 : Int) ≤ x4 := hc
        obtain ⟨p8, t⟩ := t
        obtain ⟨p9, t⟩ := t
        obtain ⟨p10, t⟩ := t
        obtain ⟨p11, t⟩ := t
        obtain ⟨r12, t⟩ := t
        obtain ⟨r13, t⟩ := t
        refine i5 c_312_78 rfl (i3 c_312_79 rfl (i3 c_312_81 rfl (i3 c_312_82 rfl (i3 c_312_83 rfl ?_))))
        refine i80 (As := [.int (wI x4), .int (wI x1), .int (wI x3), .int (wI x3)]) (rest := []) c_312_84 mi_271 rfl rfl (Nat.le_of_ble_eq_true rfl) (Nat.le_of_ble_eq_true rfl) (lo (c := 83) (kd := 112) (n := 0) rfl (by decide)) (q_271 p8 p9 p10 p11 r12 r13 r13 (fun σ114 τ115 q16 q17 q18 => ?_))
        have t := t σ114 τ115 q16 q17 q18
        show wi (d + 9) 312 87 [.ref 83, .int (wI x1), .int (wI x2), .int (wI x3), .int (wI x4), .int (wI x5), .int (wI x6), .int (wI x7), y8, y9, y10, y11, y12] [.int (wI (r_pay ((uc σ 95 (u1 (σ 95) x5 0)) 84) x4 x1 x3 x3))] S σ114 τ115 Q
        refine i6 (L' := [.ref 83, .int (wI x1), .int (wI x2), .int (wI x3), .int (wI x4), .int (wI x5), .int (wI x6), .int (wI (r_pay ((uc σ 95 (u1 (σ 95) x5 0)) 84) x4 x1 x3 x3)), y8, y9, y10, y11, y12]) c_312_87 rfl (i1 c_312_89 (i6 (L' := [.ref 83, .int (wI x1), .int (wI x2), .int (wI x3), .int (wI x4), .int (wI x5), .int (wI x6), .int (wI (r_pay ((uc σ 95 (u1 (σ 95) x5 0)) 84) x4 x1 x3 x3)), .int (wI 0), y9, y10, y11, y12]) c_312_90 rfl t))
      · have t := iF t hc
        have ha7 : ¬ ((0 : Int) ≤ x4) := hc
        refine i1 c_312_74 (i38 c_312_75 rfl (i6 (L' := [.ref 83, .int (wI x1), .int (wI x2), .int (wI x3), .int (wI x4), .int (wI x5), .int (wI x6), .int (wI 0), y8, y9, y10, y11, y12]) c_312_87 rfl (i1 c_312_89 (i6 (L' := [.ref 83, .int (wI x1), .int (wI x2), .int (wI x3), .int (wI x4), .int (wI x5), .int (wI x6), .int (wI 0), .int (wI 0), y9, y10, y11, y12]) c_312_90 rfl t))))
    · have t := iT t (Decidable.not_not.mp hc)
      have ha5 : x2 = 0 := Decidable.not_not.mp hc
      exact i94 c_312_68 t
  · have t := iF t hc
    have ha2 : ¬ ((24 : Int) ≤ x7) := hc
    obtain ⟨r19, t⟩ := t
    refine i5 c_312_36 rfl (i45 c_312_37 (lo (c := 83) (kd := 112) (n := 0) rfl (by decide)) (lro (c := 83) (k := 35) (j := 96) (by decide)) (i1 c_312_40 (i3 c_312_42 rfl (i12 c_312_44 (i3 c_312_45 rfl (i10 c_312_47 (i2 c_312_48 (i56 (τ1 := uc τ 96 (u1 (τ 96) ((24 * x5) + x7) 0)) c_312_49 (lo (c := 96) (kd := 1) (n := 576) rfl (by decide)) (by decide) r19 rfl (by decide) (wr_ rfl rfl) (i9 (L' := [.ref 83, .int (wI x1), .int (wI x2), .int (wI x3), .int (wI x4), .int (wI x5), .int (wI x6), .int (wI (x7 + 1)), y8, y9, y10, y11, y12]) c_312_50 rfl rfl (i38 c_312_53 rfl t))))))))))
set_option maxRecDepth 20000 in
theorem u_312_92 {d : Nat} {S : zS} {σ τ : zI} {Q : zQ} {x1 : Int} {x2 : Int} {x3 : Int} {x4 : Int} {x5 : Int} {x6 : Int} {x7 : Int} {x8 : Int} {y9 : Value} {y10 : Value} {y11 : Value} {y12 : Value} (t : (rg x8) ∧ if (σ 84 4) ≤ x8 then ((rg x2) ∧ if x2 = 2 then (wi (d + 9) 312 403 [.ref 83, .int (wI x1), .int (wI x2), .int (wI x3), .int (wI x4), .int (wI x5), .int (wI x6), .int (wI x7), .int (wI x8), y9, y10, y11, y12] [.int (wI x6), .int (wI x5), .ref 95] S σ τ Q) else ((rg x6) ∧ wi (d + 9) 312 403 [.ref 83, .int (wI x1), .int (wI x2), .int (wI x3), .int (wI x4), .int (wI x5), .int (wI x6), .int (wI x7), .int (wI x8), y9, y10, y11, y12] [.int (wI (Int.tdiv x6 2)), .int (wI x5), .ref 95] S σ τ Q)) else ((0 ≤ 3652 + 12 * x8 + 4 ∧ 3652 + 12 * x8 + 4 < 112300) ∧ (rg x1) ∧ if (σ 84 (3652 + 12 * x8 + 4)) = x1 then ((0 ≤ 3652 + 12 * x8 + 1 ∧ 3652 + 12 * x8 + 1 < 112300) ∧ (Jl (σ 84)) ∧ (jv_T (σ 84)) ∧ (rg x3) ∧ ∀ (v14 : Int), v14 = r_hours (σ 84) (σ 84 (3652 + 12 * x8 + 1)) x1 x3 x3 → 0 ≤ v14 ∧ v14 ≤ 80 → (rg x2) ∧ if x2 = 1 then ((rg v14) ∧ wi (d + 9) 312 144 [.ref 83, .int (wI x1), .int (wI x2), .int (wI x3), .int (wI x4), .int (wI x5), .int (wI x6), .int (wI x7), .int (wI x8), .int (wI (Int.tdiv v14 2)), y10, y11, y12] [] S σ τ Q) else (wi (d + 9) 312 144 [.ref 83, .int (wI x1), .int (wI x2), .int (wI x3), .int (wI x4), .int (wI x5), .int (wI x6), .int (wI x7), .int (wI x8), .int (wI v14), y10, y11, y12] [] S σ τ Q)) else (wi (d + 9) 312 377 [.ref 83, .int (wI x1), .int (wI x2), .int (wI x3), .int (wI x4), .int (wI x5), .int (wI x6), .int (wI x7), .int (wI x8), y9, y10, y11, y12] [] S σ τ Q))) : wi (d + 9) 312 92 [.ref 83, .int (wI x1), .int (wI x2), .int (wI x3), .int (wI x4), .int (wI x5), .int (wI x6), .int (wI x7), .int (wI x8), y9, y10, y11, y12] [] S σ τ Q := by
  refine i3 c_312_92 rfl (i5 c_312_94 rfl (i45 c_312_95 (lo (c := 83) (kd := 112) (n := 0) rfl (by decide)) (lro (c := 83) (k := 0) (j := 84) (by decide)) (i1 c_312_98 (wi_ok (fun K1 => ?_)))))
  obtain ⟨r2, t⟩ := t
  refine i50 (v := σ 84 4) c_312_99 (lo (c := 84) (kd := 0) (n := 112300) rfl (by decide)) (by decide) (by decide) rfl ?_
  refine i37 c_312_100 r2 (rge_ K1 rfl) rfl (fun hc => ?_) (fun hc => ?_)
  · have t := iT t hc
    have ha3 : (σ 84 4) ≤ x8 := hc
    obtain ⟨r4, t⟩ := t
    refine i5 c_312_383 rfl (i45 c_312_384 (lo (c := 83) (kd := 112) (n := 0) rfl (by decide)) (lro (c := 83) (k := 34) (j := 95) (by decide)) (i3 c_312_387 rfl (i3 c_312_389 rfl (i1 c_312_390 ?_))))
    refine i37 c_312_391 r4 (by decide) rfl (fun hc => ?_) (fun hc => ?_)
    · have t := iF t hc
      have ha5 : ¬ (x2 = 2) := hc
      obtain ⟨r6, t⟩ := t
      refine i3 c_312_399 rfl (i1 c_312_401 (i16 c_312_402 r6 (by decide) (by decide) t))
    · have t := iT t (Decidable.not_not.mp hc)
      have ha5 : x2 = 2 := Decidable.not_not.mp hc
      refine i3 c_312_394 rfl (i38 c_312_396 rfl t)
  · have t := iF t hc
    have ha3 : ¬ ((σ 84 4) ≤ x8) := hc
    obtain ⟨p7, t⟩ := t
    refine i5 c_312_103 rfl (i3 c_312_104 rfl (i1 c_312_106 ?_))
    refine i80 (As := [.int (wI x8), .int (wI 4)]) (rest := []) c_312_107 mi_199 rfl rfl (Nat.le_of_ble_eq_true rfl) (Nat.le_of_ble_eq_true rfl) (lo (c := 83) (kd := 112) (n := 0) rfl (by decide)) (q_199 p7 ?_)
    show wi (d + 9) 312 110 [.ref 83, .int (wI x1), .int (wI x2), .int (wI x3), .int (wI x4), .int (wI x5), .int (wI x6), .int (wI x7), .int (wI x8), y9, y10, y11, y12] [.int (wI (σ 84 (3652 + 12 * x8 + 4)))] S σ τ Q
    obtain ⟨r8, t⟩ := t
    refine i3 c_312_110 rfl ?_
    refine i37 c_312_111 (rge_ K1 rfl) r8 rfl (fun hc => ?_) (fun hc => ?_)
    · have t := iT t hc
      have ha9 : (σ 84 (3652 + 12 * x8 + 4)) = x1 := hc
      obtain ⟨p10, t⟩ := t
      refine i5 c_312_117 rfl (i5 c_312_118 rfl (i3 c_312_119 rfl (i1 c_312_121 ?_)))
      refine i80 (As := [.int (wI x8), .int (wI 1)]) (rest := [.ref 83]) c_312_122 mi_199 rfl rfl (Nat.le_of_ble_eq_true rfl) (Nat.le_of_ble_eq_true rfl) (lo (c := 83) (kd := 112) (n := 0) rfl (by decide)) (q_199 p10 ?_)
      show wi (d + 9) 312 125 [.ref 83, .int (wI x1), .int (wI x2), .int (wI x3), .int (wI x4), .int (wI x5), .int (wI x6), .int (wI x7), .int (wI x8), y9, y10, y11, y12] [.int (wI (σ 84 (3652 + 12 * x8 + 1))), .ref 83] S σ τ Q
      obtain ⟨p11, t⟩ := t
      obtain ⟨p12, t⟩ := t
      obtain ⟨r13, t⟩ := t
      refine i3 c_312_125 rfl (i3 c_312_126 rfl (i3 c_312_127 rfl ?_))
      refine i80 (As := [.int (wI (σ 84 (3652 + 12 * x8 + 1))), .int (wI x1), .int (wI x3), .int (wI x3)]) (rest := []) c_312_128 mi_276 rfl rfl (Nat.le_of_ble_eq_true rfl) (Nat.le_of_ble_eq_true rfl) (lo (c := 83) (kd := 112) (n := 0) rfl (by decide)) (q_276 p11 p12 (rge_ K1 rfl) r8 r13 r13 (fun v14 q15 q16 => ?_))
      have t := t v14 q15 q16
      show wi (d + 9) 312 131 [.ref 83, .int (wI x1), .int (wI x2), .int (wI x3), .int (wI x4), .int (wI x5), .int (wI x6), .int (wI x7), .int (wI x8), y9, y10, y11, y12] [.int (wI v14)] S σ τ Q
      obtain ⟨r17, t⟩ := t
      refine i6 (L' := [.ref 83, .int (wI x1), .int (wI x2), .int (wI x3), .int (wI x4), .int (wI x5), .int (wI x6), .int (wI x7), .int (wI x8), .int (wI v14), y10, y11, y12]) c_312_131 rfl (i3 c_312_133 rfl (i1 c_312_134 ?_))
      refine i37 c_312_135 r17 (by decide) rfl (fun hc => ?_) (fun hc => ?_)
      · have t := iF t hc
        have ha18 : ¬ (x2 = 1) := hc
        exact t
      · have t := iT t (Decidable.not_not.mp hc)
        have ha18 : x2 = 1 := Decidable.not_not.mp hc
        obtain ⟨r19, t⟩ := t
        refine i3 c_312_138 rfl (i1 c_312_140 (i16 c_312_141 r19 (by decide) (by decide) (i6 (L' := [.ref 83, .int (wI x1), .int (wI x2), .int (wI x3), .int (wI x4), .int (wI x5), .int (wI x6), .int (wI x7), .int (wI x8), .int (wI (Int.tdiv v14 2)), y10, y11, y12]) c_312_142 rfl t)))
    · have t := iF t hc
      have ha9 : ¬ ((σ 84 (3652 + 12 * x8 + 4)) = x1) := hc
      refine i38 c_312_114 rfl t
set_option maxRecDepth 20000 in
theorem u_312_144 {d : Nat} {S : zS} {σ τ : zI} {Q : zQ} {x1 : Int} {x2 : Int} {x3 : Int} {x4 : Int} {x5 : Int} {x6 : Int} {x7 : Int} {x8 : Int} {x9 : Int} {y10 : Value} {y11 : Value} {y12 : Value} (t : (rg x4) ∧ if x4 < 0 then (wi (d + 9) 312 159 [.ref 83, .int (wI x1), .int (wI x2), .int (wI x3), .int (wI x4), .int (wI x5), .int (wI x6), .int (wI x7), .int (wI x8), .int (wI x9), y10, y11, y12] [] S σ τ Q) else ((0 ≤ x8 ∧ x8 < (60 : Int)) ∧ (rg x1) ∧ if σ 84 (3652 + 12 * x8 + 4) = x1 ∧ (1 ≤ σ 84 (3652 + 12 * x8 + 3) ∧ σ 84 (3652 + 12 * x8 + 3) ≤ 2) then ((0 ≤ 3652 + 12 * x8 + 7 ∧ 3652 + 12 * x8 + 7 < 112300) ∧ (Jv (σ 84)) ∧ (0 ≤ x8 ∧ x8 < σ 84 4) ∧ (0 ≤ σ 84 (3652 + 12 * x8 + 4)) ∧ (0 ≤ x9 ∧ x9 ≤ (80 : Int)) ∧ ∀ (v12 : Int), v12 = r_pts (σ 84) x8 x9 → 0 ≤ v12 ∧ v12 ≤ 8000000 → (1 ≤ σ 84 (3652 + 12 * x8 + 3) ∧ σ 84 (3652 + 12 * x8 + 3) ≤ 2 → v12 ≤ 960000) → (jv_K (σ 84)) ∧ (0 ≤ x4 ∧ x4 ≤ (5 : Int)) ∧ ∀ (v18 : Int), v18 = r_cost (σ 84) x4 → 2000 ≤ v18 ∧ v18 ≤ 228000 → (rg ((σ 84 (3652 + 12 * x8 + 7)) + v12)) ∧ (rg v18) ∧ (v18 ≠ 0) ∧ wi (d + 9) 312 187 [.ref 83, .int (wI x1), .int (wI x2), .int (wI x3), .int (wI x4), .int (wI x5), .int (wI x6), .int (wI x7), .int (wI x8), .int (wI x9), y10, y11, y12] [.int (wI (Int.tdiv ((σ 84 (3652 + 12 * x8 + 7)) + v12) v18))] S σ τ Q) else (wi (d + 9) 312 159 [.ref 83, .int (wI x1), .int (wI x2), .int (wI x3), .int (wI x4), .int (wI x5), .int (wI x6), .int (wI x7), .int (wI x8), .int (wI x9), y10, y11, y12] [] S σ τ Q))) : wi (d + 9) 312 144 [.ref 83, .int (wI x1), .int (wI x2), .int (wI x3), .int (wI x4), .int (wI x5), .int (wI x6), .int (wI x7), .int (wI x8), .int (wI x9), y10, y11, y12] [] S σ τ Q := by
  obtain ⟨r1, t⟩ := t
  refine i3 c_312_144 rfl ?_
  refine i36 c_312_146 r1 rfl (fun hc => ?_) (fun hc => ?_)
  · have t := iT t hc
    have ha2 : x4 < 0 := hc
    exact t
  · have t := iF t hc
    have ha2 : ¬ (x4 < 0) := hc
    obtain ⟨p3, t⟩ := t
    obtain ⟨r4, t⟩ := t
    refine i5 c_312_149 rfl (i3 c_312_150 rfl (i3 c_312_152 rfl ?_))
    refine i80 (As := [.int (wI x8), .int (wI x1)]) (rest := []) c_312_153 mi_279 rfl rfl (Nat.le_of_ble_eq_true rfl) (Nat.le_of_ble_eq_true rfl) (lo (c := 83) (kd := 112) (n := 0) rfl (by decide)) (q_279 p3 r4 ?_)
    show wi (d + 9) 312 156 [.ref 83, .int (wI x1), .int (wI x2), .int (wI x3), .int (wI x4), .int (wI x5), .int (wI x6), .int (wI x7), .int (wI x8), .int (wI x9), y10, y11, y12] [.int (wI (if σ 84 (3652 + 12 * x8 + 4) = x1 ∧ (1 ≤ σ 84 (3652 + 12 * x8 + 3) ∧ σ 84 (3652 + 12 * x8 + 3) ≤ 2) then 1 else 0))] S σ τ Q
    refine i36f c_312_156 rfl (fun hc => ?_) (fun hc => ?_)
    · have t := iT t hc
      have ha5 : σ 84 (3652 + 12 * x8 + 4) = x1 ∧ (1 ≤ σ 84 (3652 + 12 * x8 + 3) ∧ σ 84 (3652 + 12 * x8 + 3) ≤ 2) := hc
      obtain ⟨p6, t⟩ := t
      refine i5 c_312_163 rfl (i3 c_312_164 rfl (i1 c_312_166 ?_))
      refine i80 (As := [.int (wI x8), .int (wI 7)]) (rest := []) c_312_168 mi_199 rfl rfl (Nat.le_of_ble_eq_true rfl) (Nat.le_of_ble_eq_true rfl) (lo (c := 83) (kd := 112) (n := 0) rfl (by decide)) (q_199 p6 ?_)
      show wi (d + 9) 312 171 [.ref 83, .int (wI x1), .int (wI x2), .int (wI x3), .int (wI x4), .int (wI x5), .int (wI x6), .int (wI x7), .int (wI x8), .int (wI x9), y10, y11, y12] [.int (wI (σ 84 (3652 + 12 * x8 + 7)))] S σ τ Q
      refine wi_ok (fun K7 => ?_)
      obtain ⟨p8, t⟩ := t
      obtain ⟨p9, t⟩ := t
      obtain ⟨p10, t⟩ := t
      obtain ⟨p11, t⟩ := t
      refine i5 c_312_171 rfl (i3 c_312_172 rfl (i3 c_312_174 rfl ?_))
      refine i80 (As := [.int (wI x8), .int (wI x9)]) (rest := [.int (wI (σ 84 (3652 + 12 * x8 + 7)))]) c_312_176 mi_280 rfl rfl (Nat.le_of_ble_eq_true rfl) (Nat.le_of_ble_eq_true rfl) (lo (c := 83) (kd := 112) (n := 0) rfl (by decide)) (q_280 p8 p9 p10 p11 (fun v12 q13 q14 q15 => ?_))
      have t := t v12 q13 q14 q15
      show wi (d + 9) 312 179 [.ref 83, .int (wI x1), .int (wI x2), .int (wI x3), .int (wI x4), .int (wI x5), .int (wI x6), .int (wI x7), .int (wI x8), .int (wI x9), y10, y11, y12] [.int (wI v12), .int (wI (σ 84 (3652 + 12 * x8 + 7)))] S σ τ Q
      obtain ⟨p16, t⟩ := t
      obtain ⟨p17, t⟩ := t
      refine i10 c_312_179 (i5 c_312_180 rfl (i3 c_312_181 rfl ?_))
      refine i80 (As := [.int (wI x4)]) (rest := [.int (wI ((σ 84 (3652 + 12 * x8 + 7)) + v12))]) c_312_183 mi_278 rfl rfl (Nat.le_of_ble_eq_true rfl) (Nat.le_of_ble_eq_true rfl) (lo (c := 83) (kd := 112) (n := 0) rfl (by decide)) (q_278 p16 p17 (fun v18 q19 q20 => ?_))
      have t := t v18 q19 q20
      show wi (d + 9) 312 186 [.ref 83, .int (wI x1), .int (wI x2), .int (wI x3), .int (wI x4), .int (wI x5), .int (wI x6), .int (wI x7), .int (wI x8), .int (wI x9), y10, y11, y12] [.int (wI v18), .int (wI ((σ 84 (3652 + 12 * x8 + 7)) + v12))] S σ τ Q
      obtain ⟨r21, t⟩ := t
      obtain ⟨r22, t⟩ := t
      obtain ⟨y23, t⟩ := t
      refine i16 c_312_186 r21 r22 y23 t
    · have t := iF t hc
      have ha5 : ¬ (σ 84 (3652 + 12 * x8 + 4) = x1 ∧ (1 ≤ σ 84 (3652 + 12 * x8 + 3) ∧ σ 84 (3652 + 12 * x8 + 3) ≤ 2)) := hc
      exact t
set_option maxRecDepth 20000 in
theorem u_312_159 {d : Nat} {S : zS} {σ τ : zI} {Q : zQ} {x1 : Int} {x2 : Int} {x3 : Int} {x4 : Int} {x5 : Int} {x6 : Int} {x7 : Int} {x8 : Int} {x9 : Int} {y10 : Value} {y11 : Value} {y12 : Value} (t : wi (d + 9) 312 187 [.ref 83, .int (wI x1), .int (wI x2), .int (wI x3), .int (wI x4), .int (wI x5), .int (wI x6), .int (wI x7), .int (wI x8), .int (wI x9), y10, y11, y12] [.int (wI 0)] S σ τ Q) : wi (d + 9) 312 159 [.ref 83, .int (wI x1), .int (wI x2), .int (wI x3), .int (wI x4), .int (wI x5), .int (wI x6), .int (wI x7), .int (wI x8), .int (wI x9), y10, y11, y12] [] S σ τ Q := by
  refine i1 c_312_159 (i38 c_312_160 rfl t)
set_option maxRecDepth 20000 in
theorem u_312_187 {d : Nat} {S : zS} {σ τ : zI} {Q : zQ} {x1 : Int} {x2 : Int} {x3 : Int} {x4 : Int} {x5 : Int} {x6 : Int} {x7 : Int} {x8 : Int} {x9 : Int} {y10 : Value} {y11 : Value} {y12 : Value} {s0 : Int} (t : (rg x4) ∧ if x4 < 0 then (wi (d + 9) 312 206 [.ref 83, .int (wI x1), .int (wI x2), .int (wI x3), .int (wI x4), .int (wI x5), .int (wI x6), .int (wI x7), .int (wI x8), .int (wI x9), .int (wI s0), y11, y12] [.int (wI x6)] S σ τ Q) else ((0 ≤ x8 ∧ x8 < (60 : Int)) ∧ (rg x1) ∧ if σ 84 (3652 + 12 * x8 + 4) = x1 ∧ (1 ≤ σ 84 (3652 + 12 * x8 + 3) ∧ σ 84 (3652 + 12 * x8 + 3) ≤ 2) then ((0 ≤ 3652 + 12 * x8 + 7 ∧ 3652 + 12 * x8 + 7 < 112300) ∧ (0 ≤ 3652 + 12 * x8 + 1 ∧ 3652 + 12 * x8 + 1 < 112300) ∧ (Jl (σ 84)) ∧ (jv_T (σ 84)) ∧ (rg x3) ∧ ∀ (v12 : Int), v12 = r_hours (σ 84) (σ 84 (3652 + 12 * x8 + 1)) x1 x3 x3 → 0 ≤ v12 ∧ v12 ≤ 80 → (Jv (σ 84)) ∧ (0 ≤ x8 ∧ x8 < σ 84 4) ∧ (0 ≤ σ 84 (3652 + 12 * x8 + 4)) ∧ (0 ≤ v12 ∧ v12 ≤ (80 : Int)) ∧ ∀ (v19 : Int), v19 = r_pts (σ 84) x8 v12 → 0 ≤ v19 ∧ v19 ≤ 8000000 → (1 ≤ σ 84 (3652 + 12 * x8 + 3) ∧ σ 84 (3652 + 12 * x8 + 3) ≤ 2 → v19 ≤ 960000) → (jv_K (σ 84)) ∧ (0 ≤ x4 ∧ x4 ≤ (5 : Int)) ∧ ∀ (v25 : Int), v25 = r_cost (σ 84) x4 → 2000 ≤ v25 ∧ v25 ≤ 228000 → (rg ((σ 84 (3652 + 12 * x8 + 7)) + v19)) ∧ (rg v25) ∧ (v25 ≠ 0) ∧ wi (d + 9) 312 246 [.ref 83, .int (wI x1), .int (wI x2), .int (wI x3), .int (wI x4), .int (wI x5), .int (wI x6), .int (wI x7), .int (wI x8), .int (wI x9), .int (wI s0), y11, y12] [.int (wI (Int.tdiv ((σ 84 (3652 + 12 * x8 + 7)) + v19) v25)), .int (wI x6)] S σ τ Q) else (wi (d + 9) 312 206 [.ref 83, .int (wI x1), .int (wI x2), .int (wI x3), .int (wI x4), .int (wI x5), .int (wI x6), .int (wI x7), .int (wI x8), .int (wI x9), .int (wI s0), y11, y12] [.int (wI x6)] S σ τ Q))) : wi (d + 9) 312 187 [.ref 83, .int (wI x1), .int (wI x2), .int (wI x3), .int (wI x4), .int (wI x5), .int (wI x6), .int (wI x7), .int (wI x8), .int (wI x9), y10, y11, y12] [.int (wI s0)] S σ τ Q := by
  obtain ⟨r1, t⟩ := t
  refine i6 (L' := [.ref 83, .int (wI x1), .int (wI x2), .int (wI x3), .int (wI x4), .int (wI x5), .int (wI x6), .int (wI x7), .int (wI x8), .int (wI x9), .int (wI s0), y11, y12]) c_312_187 rfl (i3 c_312_189 rfl (i3 c_312_191 rfl ?_))
  refine i36 c_312_193 r1 rfl (fun hc => ?_) (fun hc => ?_)
  · have t := iT t hc
    have ha2 : x4 < 0 := hc
    exact t
  · have t := iF t hc
    have ha2 : ¬ (x4 < 0) := hc
    obtain ⟨p3, t⟩ := t
    obtain ⟨r4, t⟩ := t
    refine i5 c_312_196 rfl (i3 c_312_197 rfl (i3 c_312_199 rfl ?_))
    refine i80 (As := [.int (wI x8), .int (wI x1)]) (rest := [.int (wI x6)]) c_312_200 mi_279 rfl rfl (Nat.le_of_ble_eq_true rfl) (Nat.le_of_ble_eq_true rfl) (lo (c := 83) (kd := 112) (n := 0) rfl (by decide)) (q_279 p3 r4 ?_)
    show wi (d + 9) 312 203 [.ref 83, .int (wI x1), .int (wI x2), .int (wI x3), .int (wI x4), .int (wI x5), .int (wI x6), .int (wI x7), .int (wI x8), .int (wI x9), .int (wI s0), y11, y12] [.int (wI (if σ 84 (3652 + 12 * x8 + 4) = x1 ∧ (1 ≤ σ 84 (3652 + 12 * x8 + 3) ∧ σ 84 (3652 + 12 * x8 + 3) ≤ 2) then 1 else 0)), .int (wI x6)] S σ τ Q
    refine i36f c_312_203 rfl (fun hc => ?_) (fun hc => ?_)
    · have t := iT t hc
      have ha5 : σ 84 (3652 + 12 * x8 + 4) = x1 ∧ (1 ≤ σ 84 (3652 + 12 * x8 + 3) ∧ σ 84 (3652 + 12 * x8 + 3) ≤ 2) := hc
      obtain ⟨p6, t⟩ := t
      refine i5 c_312_210 rfl (i3 c_312_211 rfl (i1 c_312_213 ?_))
      refine i80 (As := [.int (wI x8), .int (wI 7)]) (rest := [.int (wI x6)]) c_312_215 mi_199 rfl rfl (Nat.le_of_ble_eq_true rfl) (Nat.le_of_ble_eq_true rfl) (lo (c := 83) (kd := 112) (n := 0) rfl (by decide)) (q_199 p6 ?_)
      show wi (d + 9) 312 218 [.ref 83, .int (wI x1), .int (wI x2), .int (wI x3), .int (wI x4), .int (wI x5), .int (wI x6), .int (wI x7), .int (wI x8), .int (wI x9), .int (wI s0), y11, y12] [.int (wI (σ 84 (3652 + 12 * x8 + 7))), .int (wI x6)] S σ τ Q
      refine wi_ok (fun K7 => ?_)
      obtain ⟨p8, t⟩ := t
      refine i5 c_312_218 rfl (i3 c_312_219 rfl (i5 c_312_221 rfl (i5 c_312_222 rfl (i3 c_312_223 rfl (i1 c_312_225 ?_)))))
      refine i80 (As := [.int (wI x8), .int (wI 1)]) (rest := [.ref 83, .int (wI x8), .ref 83, .int (wI (σ 84 (3652 + 12 * x8 + 7))), .int (wI x6)]) c_312_226 mi_199 rfl rfl (Nat.le_of_ble_eq_true rfl) (Nat.le_of_ble_eq_true rfl) (lo (c := 83) (kd := 112) (n := 0) rfl (by decide)) (q_199 p8 ?_)
      show wi (d + 9) 312 229 [.ref 83, .int (wI x1), .int (wI x2), .int (wI x3), .int (wI x4), .int (wI x5), .int (wI x6), .int (wI x7), .int (wI x8), .int (wI x9), .int (wI s0), y11, y12] [.int (wI (σ 84 (3652 + 12 * x8 + 1))), .ref 83, .int (wI x8), .ref 83, .int (wI (σ 84 (3652 + 12 * x8 + 7))), .int (wI x6)] S σ τ Q
      obtain ⟨p9, t⟩ := t
      obtain ⟨p10, t⟩ := t
      obtain ⟨r11, t⟩ := t
      refine i3 c_312_229 rfl (i3 c_312_230 rfl (i3 c_312_231 rfl ?_))
      refine i80 (As := [.int (wI (σ 84 (3652 + 12 * x8 + 1))), .int (wI x1), .int (wI x3), .int (wI x3)]) (rest := [.int (wI x8), .ref 83, .int (wI (σ 84 (3652 + 12 * x8 + 7))), .int (wI x6)]) c_312_232 mi_276 rfl rfl (Nat.le_of_ble_eq_true rfl) (Nat.le_of_ble_eq_true rfl) (lo (c := 83) (kd := 112) (n := 0) rfl (by decide)) (q_276 p9 p10 (rge_ K7 rfl) r4 r11 r11 (fun v12 q13 q14 => ?_))
      have t := t v12 q13 q14
      show wi (d + 9) 312 235 [.ref 83, .int (wI x1), .int (wI x2), .int (wI x3), .int (wI x4), .int (wI x5), .int (wI x6), .int (wI x7), .int (wI x8), .int (wI x9), .int (wI s0), y11, y12] [.int (wI v12), .int (wI x8), .ref 83, .int (wI (σ 84 (3652 + 12 * x8 + 7))), .int (wI x6)] S σ τ Q
      obtain ⟨p15, t⟩ := t
      obtain ⟨p16, t⟩ := t
      obtain ⟨p17, t⟩ := t
      obtain ⟨p18, t⟩ := t
      refine i80 (As := [.int (wI x8), .int (wI v12)]) (rest := [.int (wI (σ 84 (3652 + 12 * x8 + 7))), .int (wI x6)]) c_312_235 mi_280 rfl rfl (Nat.le_of_ble_eq_true rfl) (Nat.le_of_ble_eq_true rfl) (lo (c := 83) (kd := 112) (n := 0) rfl (by decide)) (q_280 p15 p16 p17 p18 (fun v19 q20 q21 q22 => ?_))
      have t := t v19 q20 q21 q22
      show wi (d + 9) 312 238 [.ref 83, .int (wI x1), .int (wI x2), .int (wI x3), .int (wI x4), .int (wI x5), .int (wI x6), .int (wI x7), .int (wI x8), .int (wI x9), .int (wI s0), y11, y12] [.int (wI v19), .int (wI (σ 84 (3652 + 12 * x8 + 7))), .int (wI x6)] S σ τ Q
      obtain ⟨p23, t⟩ := t
      obtain ⟨p24, t⟩ := t
      refine i10 c_312_238 (i5 c_312_239 rfl (i3 c_312_240 rfl ?_))
      refine i80 (As := [.int (wI x4)]) (rest := [.int (wI ((σ 84 (3652 + 12 * x8 + 7)) + v19)), .int (wI x6)]) c_312_242 mi_278 rfl rfl (Nat.le_of_ble_eq_true rfl) (Nat.le_of_ble_eq_true rfl) (lo (c := 83) (kd := 112) (n := 0) rfl (by decide)) (q_278 p23 p24 (fun v25 q26 q27 => ?_))
      have t := t v25 q26 q27
      show wi (d + 9) 312 245 [.ref 83, .int (wI x1), .int (wI x2), .int (wI x3), .int (wI x4), .int (wI x5), .int (wI x6), .int (wI x7), .int (wI x8), .int (wI x9), .int (wI s0), y11, y12] [.int (wI v25), .int (wI ((σ 84 (3652 + 12 * x8 + 7)) + v19)), .int (wI x6)] S σ τ Q
      obtain ⟨r28, t⟩ := t
      obtain ⟨r29, t⟩ := t
      obtain ⟨y30, t⟩ := t
      refine i16 c_312_245 r28 r29 y30 t
    · have t := iF t hc
      have ha5 : ¬ (σ 84 (3652 + 12 * x8 + 4) = x1 ∧ (1 ≤ σ 84 (3652 + 12 * x8 + 3) ∧ σ 84 (3652 + 12 * x8 + 3) ≤ 2)) := hc
      exact t
set_option maxRecDepth 20000 in
theorem u_312_206 {d : Nat} {S : zS} {σ τ : zI} {Q : zQ} {x1 : Int} {x2 : Int} {x3 : Int} {x4 : Int} {x5 : Int} {x6 : Int} {x7 : Int} {x8 : Int} {x9 : Int} {x10 : Int} {y11 : Value} {y12 : Value} {s0 : Int} (t : wi (d + 9) 312 246 [.ref 83, .int (wI x1), .int (wI x2), .int (wI x3), .int (wI x4), .int (wI x5), .int (wI x6), .int (wI x7), .int (wI x8), .int (wI x9), .int (wI x10), y11, y12] [.int (wI 0), .int (wI s0)] S σ τ Q) : wi (d + 9) 312 206 [.ref 83, .int (wI x1), .int (wI x2), .int (wI x3), .int (wI x4), .int (wI x5), .int (wI x6), .int (wI x7), .int (wI x8), .int (wI x9), .int (wI x10), y11, y12] [.int (wI s0)] S σ τ Q := by
  refine i1 c_312_206 (i38 c_312_207 rfl t)
set_option maxRecDepth 20000 in
theorem u_312_246 {d : Nat} {S : zS} {σ τ : zI} {Q : zQ} {x1 : Int} {x2 : Int} {x3 : Int} {x4 : Int} {x5 : Int} {x6 : Int} {x7 : Int} {x8 : Int} {x9 : Int} {x10 : Int} {y11 : Value} {y12 : Value} {s0 : Int} {s1 : Int} (t : (0 ≤ 3652 + 12 * x8 + 3 ∧ 3652 + 12 * x8 + 3 < 112300) ∧ if (σ 84 (3652 + 12 * x8 + 3)) < 3 then (wi (d + 9) 312 278 [.ref 83, .int (wI x1), .int (wI x2), .int (wI x3), .int (wI x4), .int (wI x5), .int (wI (s0 + s1)), .int (wI x7), .int (wI x8), .int (wI x9), .int (wI x10), y11, y12] [.int (wI (x10 * x7))] S σ τ Q) else ((0 ≤ 3652 + 12 * x8 + 5 ∧ 3652 + 12 * x8 + 5 < 112300) ∧ wi (d + 9) 312 278 [.ref 83, .int (wI x1), .int (wI x2), .int (wI x3), .int (wI x4), .int (wI x5), .int (wI (s0 + s1)), .int (wI x7), .int (wI x8), .int (wI x9), .int (wI x10), y11, y12] [.int (wI (x9 * (σ 84 (3652 + 12 * x8 + 5))))] S σ τ Q)) : wi (d + 9) 312 246 [.ref 83, .int (wI x1), .int (wI x2), .int (wI x3), .int (wI x4), .int (wI x5), .int (wI x6), .int (wI x7), .int (wI x8), .int (wI x9), .int (wI x10), y11, y12] [.int (wI s1), .int (wI s0)] S σ τ Q := by
  obtain ⟨p1, t⟩ := t
  refine i10 c_312_246 (i6 (L' := [.ref 83, .int (wI x1), .int (wI x2), .int (wI x3), .int (wI x4), .int (wI x5), .int (wI (s0 + s1)), .int (wI x7), .int (wI x8), .int (wI x9), .int (wI x10), y11, y12]) c_312_247 rfl (i5 c_312_249 rfl (i3 c_312_250 rfl (i1 c_312_252 ?_))))
  refine i80 (As := [.int (wI x8), .int (wI 3)]) (rest := []) c_312_253 mi_199 rfl rfl (Nat.le_of_ble_eq_true rfl) (Nat.le_of_ble_eq_true rfl) (lo (c := 83) (kd := 112) (n := 0) rfl (by decide)) (q_199 p1 ?_)
  show wi (d + 9) 312 256 [.ref 83, .int (wI x1), .int (wI x2), .int (wI x3), .int (wI x4), .int (wI x5), .int (wI (s0 + s1)), .int (wI x7), .int (wI x8), .int (wI x9), .int (wI x10), y11, y12] [.int (wI (σ 84 (3652 + 12 * x8 + 3)))] S σ τ Q
  refine wi_ok (fun K2 => ?_)
  refine i1 c_312_256 ?_
  refine i37 c_312_257 (rge_ K2 rfl) (by decide) rfl (fun hc => ?_) (fun hc => ?_)
  · have t := iT t hc
    have ha3 : (σ 84 (3652 + 12 * x8 + 3)) < 3 := hc
    refine i3 c_312_273 rfl (i3 c_312_275 rfl (i12 c_312_277 t))
  · have t := iF t hc
    have ha3 : ¬ ((σ 84 (3652 + 12 * x8 + 3)) < 3) := hc
    obtain ⟨p4, t⟩ := t
    refine i3 c_312_260 rfl (i5 c_312_262 rfl (i3 c_312_263 rfl (i1 c_312_265 ?_)))
    refine i80 (As := [.int (wI x8), .int (wI 5)]) (rest := [.int (wI x9)]) c_312_266 mi_199 rfl rfl (Nat.le_of_ble_eq_true rfl) (Nat.le_of_ble_eq_true rfl) (lo (c := 83) (kd := 112) (n := 0) rfl (by decide)) (q_199 p4 ?_)
    show wi (d + 9) 312 269 [.ref 83, .int (wI x1), .int (wI x2), .int (wI x3), .int (wI x4), .int (wI x5), .int (wI (s0 + s1)), .int (wI x7), .int (wI x8), .int (wI x9), .int (wI x10), y11, y12] [.int (wI (σ 84 (3652 + 12 * x8 + 5))), .int (wI x9)] S σ τ Q
    refine i12 c_312_269 (i38 c_312_270 rfl t)
set_option maxRecDepth 20000 in
theorem u_312_278 {d : Nat} {S : zS} {σ τ : zI} {Q : zQ} {x1 : Int} {x2 : Int} {x3 : Int} {x4 : Int} {x5 : Int} {x6 : Int} {x7 : Int} {x8 : Int} {x9 : Int} {x10 : Int} {y11 : Value} {y12 : Value} {s0 : Int} (t : (0 ≤ 3652 + 12 * x8 + 3 ∧ 3652 + 12 * x8 + 3 < 112300) ∧ if (σ 84 (3652 + 12 * x8 + 3)) = 2 then ((rg s0) ∧ wi (d + 9) 312 300 [.ref 83, .int (wI x1), .int (wI x2), .int (wI x3), .int (wI x4), .int (wI x5), .int (wI x6), .int (wI x7), .int (wI x8), .int (wI x9), .int (wI x10), .int (wI s0), y12] [.int (wI (Int.tdiv s0 3))] S σ τ Q) else (wi (d + 9) 312 300 [.ref 83, .int (wI x1), .int (wI x2), .int (wI x3), .int (wI x4), .int (wI x5), .int (wI x6), .int (wI x7), .int (wI x8), .int (wI x9), .int (wI x10), .int (wI s0), y12] [.int (wI s0)] S σ τ Q)) : wi (d + 9) 312 278 [.ref 83, .int (wI x1), .int (wI x2), .int (wI x3), .int (wI x4), .int (wI x5), .int (wI x6), .int (wI x7), .int (wI x8), .int (wI x9), .int (wI x10), y11, y12] [.int (wI s0)] S σ τ Q := by
  obtain ⟨p1, t⟩ := t
  refine i6 (L' := [.ref 83, .int (wI x1), .int (wI x2), .int (wI x3), .int (wI x4), .int (wI x5), .int (wI x6), .int (wI x7), .int (wI x8), .int (wI x9), .int (wI x10), .int (wI s0), y12]) c_312_278 rfl (i5 c_312_280 rfl (i3 c_312_281 rfl (i1 c_312_283 ?_)))
  refine i80 (As := [.int (wI x8), .int (wI 3)]) (rest := []) c_312_284 mi_199 rfl rfl (Nat.le_of_ble_eq_true rfl) (Nat.le_of_ble_eq_true rfl) (lo (c := 83) (kd := 112) (n := 0) rfl (by decide)) (q_199 p1 ?_)
  show wi (d + 9) 312 287 [.ref 83, .int (wI x1), .int (wI x2), .int (wI x3), .int (wI x4), .int (wI x5), .int (wI x6), .int (wI x7), .int (wI x8), .int (wI x9), .int (wI x10), .int (wI s0), y12] [.int (wI (σ 84 (3652 + 12 * x8 + 3)))] S σ τ Q
  refine wi_ok (fun K2 => ?_)
  refine i1 c_312_287 ?_
  refine i37 c_312_288 (rge_ K2 rfl) (by decide) rfl (fun hc => ?_) (fun hc => ?_)
  · have t := iF t hc
    have ha3 : ¬ ((σ 84 (3652 + 12 * x8 + 3)) = 2) := hc
    refine i3 c_312_298 rfl t
  · have t := iT t (Decidable.not_not.mp hc)
    have ha3 : (σ 84 (3652 + 12 * x8 + 3)) = 2 := Decidable.not_not.mp hc
    obtain ⟨r4, t⟩ := t
    refine i3 c_312_291 rfl (i1 c_312_293 (i16 c_312_294 r4 (by decide) (by decide) (i38 c_312_295 rfl t)))
set_option maxRecDepth 20000 in
theorem u_312_300 {d : Nat} {S : zS} {σ τ : zI} {Q : zQ} {x1 : Int} {x2 : Int} {x3 : Int} {x4 : Int} {x5 : Int} {x6 : Int} {x7 : Int} {x8 : Int} {x9 : Int} {x10 : Int} {x11 : Int} {y12 : Value} {s0 : Int} (t : (0 ≤ 3652 + 12 * x8 + 0 ∧ 3652 + 12 * x8 + 0 < 112300) ∧ (0 ≤ (24 * x5) + (σ 84 (3652 + 12 * x8 + 0)) ∧ (24 * x5) + (σ 84 (3652 + 12 * x8 + 0)) < 576) ∧ (rg s0) ∧ ∃ w5 : Int, wJ w5 = wJ ((τ 96 ((24 * x5) + (σ 84 (3652 + 12 * x8 + 0)))) + s0) ∧ rj w5 ∧ (rg x11) ∧ if s0 < x11 then (wi (d + 9) 312 344 [.ref 83, .int (wI x1), .int (wI x2), .int (wI x3), .int (wI x4), .int (wI x5), .int (wI x6), .int (wI x7), .int (wI x8), .int (wI x9), .int (wI x10), .int (wI x11), .int (wI s0)] [] S σ (uc τ 96 (u1 (τ 96) ((24 * x5) + (σ 84 (3652 + 12 * x8 + 0))) w5)) Q) else ((0 ≤ 3652 + 12 * x8 + 3 ∧ 3652 + 12 * x8 + 3 < 112300) ∧ if (σ 84 (3652 + 12 * x8 + 3)) = 2 then (wi (d + 9) 312 344 [.ref 83, .int (wI x1), .int (wI x2), .int (wI x3), .int (wI x4), .int (wI x5), .int (wI x6), .int (wI x7), .int (wI x8), .int (wI x9), .int (wI x10), .int (wI x11), .int (wI s0)] [] S σ (uc τ 96 (u1 (τ 96) ((24 * x5) + (σ 84 (3652 + 12 * x8 + 0))) w5)) Q) else (wi (d + 9) 312 377 [.ref 83, .int (wI x1), .int (wI x2), .int (wI x3), .int (wI x4), .int (wI x5), .int (wI x6), .int (wI x7), .int (wI x8), .int (wI x9), .int (wI x10), .int (wI x11), .int (wI s0)] [] S σ (uc τ 96 (u1 (τ 96) ((24 * x5) + (σ 84 (3652 + 12 * x8 + 0))) w5)) Q))) : wi (d + 9) 312 300 [.ref 83, .int (wI x1), .int (wI x2), .int (wI x3), .int (wI x4), .int (wI x5), .int (wI x6), .int (wI x7), .int (wI x8), .int (wI x9), .int (wI x10), .int (wI x11), y12] [.int (wI s0)] S σ τ Q := by
  obtain ⟨p1, t⟩ := t
  refine i6 (L' := [.ref 83, .int (wI x1), .int (wI x2), .int (wI x3), .int (wI x4), .int (wI x5), .int (wI x6), .int (wI x7), .int (wI x8), .int (wI x9), .int (wI x10), .int (wI x11), .int (wI s0)]) c_312_300 rfl (i5 c_312_302 rfl (i45 c_312_303 (lo (c := 83) (kd := 112) (n := 0) rfl (by decide)) (lro (c := 83) (k := 35) (j := 96) (by decide)) (i1 c_312_306 (i3 c_312_308 rfl (i12 c_312_310 (i5 c_312_311 rfl (i3 c_312_312 rfl (i1 c_312_314 ?_))))))))
  refine i80 (As := [.int (wI x8), .int (wI 0)]) (rest := [.int (wI (24 * x5)), .ref 96]) c_312_315 mi_199 rfl rfl (Nat.le_of_ble_eq_true rfl) (Nat.le_of_ble_eq_true rfl) (lo (c := 83) (kd := 112) (n := 0) rfl (by decide)) (q_199 p1 ?_)
  show wi (d + 9) 312 318 [.ref 83, .int (wI x1), .int (wI x2), .int (wI x3), .int (wI x4), .int (wI x5), .int (wI x6), .int (wI x7), .int (wI x8), .int (wI x9), .int (wI x10), .int (wI x11), .int (wI s0)] [.int (wI (σ 84 (3652 + 12 * x8 + 0))), .int (wI (24 * x5)), .ref 96] S σ τ Q
  refine wi_ok (fun K2 => ?_)
  obtain ⟨r3, t⟩ := t
  obtain ⟨r4, t⟩ := t
  obtain ⟨w5, e6, r7, t⟩ := t
  obtain ⟨r8, t⟩ := t
  refine i10 c_312_318 (i34a c_312_319 (i52 (v := τ 96 ((24 * x5) + (σ 84 (3652 + 12 * x8 + 0)))) c_312_320 (lo (c := 96) (kd := 1) (n := 576) rfl (by decide)) (by decide) r3 rfl (i3 c_312_321 rfl (i31 c_312_323 r4 (i22 c_312_324 (i56 (τ1 := uc τ 96 (u1 (τ 96) ((24 * x5) + (σ 84 (3652 + 12 * x8 + 0))) w5)) c_312_325 (lo (c := 96) (kd := 1) (n := 576) rfl (by decide)) (by decide) r3 e6 r7 (wr_ rfl rfl) (i3 c_312_326 rfl (i3 c_312_328 rfl ?_))))))))
  refine i37 c_312_330 r4 r8 rfl (fun hc => ?_) (fun hc => ?_)
  · have t := iT t hc
    have ha9 : s0 < x11 := hc
    exact t
  · have t := iF t hc
    have ha9 : ¬ (s0 < x11) := hc
    obtain ⟨p10, t⟩ := t
    refine i5 c_312_333 rfl (i3 c_312_334 rfl (i1 c_312_336 ?_))
    refine i80 (As := [.int (wI x8), .int (wI 3)]) (rest := []) c_312_337 mi_199 rfl rfl (Nat.le_of_ble_eq_true rfl) (Nat.le_of_ble_eq_true rfl) (lo (c := 83) (kd := 112) (n := 0) rfl (by decide)) (q_199 p10 ?_)
    show wi (d + 9) 312 340 [.ref 83, .int (wI x1), .int (wI x2), .int (wI x3), .int (wI x4), .int (wI x5), .int (wI x6), .int (wI x7), .int (wI x8), .int (wI x9), .int (wI x10), .int (wI x11), .int (wI s0)] [.int (wI (σ 84 (3652 + 12 * x8 + 3)))] S σ (uc τ 96 (u1 (τ 96) ((24 * x5) + (σ 84 (3652 + 12 * x8 + 0))) w5)) Q
    refine wi_ok (fun K11 => ?_)
    refine i1 c_312_340 ?_
    refine i37 c_312_341 (rge_ K11 rfl) (by decide) rfl (fun hc => ?_) (fun hc => ?_)
    · have t := iF t hc
      have ha12 : ¬ ((σ 84 (3652 + 12 * x8 + 3)) = 2) := hc
      exact t
    · have t := iT t (Decidable.not_not.mp hc)
      have ha12 : (σ 84 (3652 + 12 * x8 + 3)) = 2 := Decidable.not_not.mp hc
      exact t
set_option maxRecDepth 20000 in
theorem u_312_344 {d : Nat} {S : zS} {σ τ : zI} {Q : zQ} {x1 : Int} {x2 : Int} {x3 : Int} {x4 : Int} {x5 : Int} {x6 : Int} {x7 : Int} {x8 : Int} {x9 : Int} {x10 : Int} {x11 : Int} {x12 : Int} (t : (0 ≤ 3652 + 12 * x8 + 6 ∧ 3652 + 12 * x8 + 6 < 112300) ∧ (0 ≤ 3652 + 12 * (σ 84 (3652 + 12 * x8 + 6)) + 0 ∧ 3652 + 12 * (σ 84 (3652 + 12 * x8 + 6)) + 0 < 112300) ∧ (0 ≤ (24 * x5) + (σ 84 (3652 + 12 * (σ 84 (3652 + 12 * x8 + 6)) + 0)) ∧ (24 * x5) + (σ 84 (3652 + 12 * (σ 84 (3652 + 12 * x8 + 6)) + 0)) < 576) ∧ (rg (x11 - x12)) ∧ ∃ w6 : Int, wJ w6 = wJ ((τ 96 ((24 * x5) + (σ 84 (3652 + 12 * (σ 84 (3652 + 12 * x8 + 6)) + 0)))) + (x11 - x12)) ∧ rj w6 ∧ wi (d + 9) 312 377 [.ref 83, .int (wI x1), .int (wI x2), .int (wI x3), .int (wI x4), .int (wI x5), .int (wI x6), .int (wI x7), .int (wI x8), .int (wI x9), .int (wI x10), .int (wI x11), .int (wI x12)] [] S σ (uc τ 96 (u1 (τ 96) ((24 * x5) + (σ 84 (3652 + 12 * (σ 84 (3652 + 12 * x8 + 6)) + 0))) w6)) Q) : wi (d + 9) 312 344 [.ref 83, .int (wI x1), .int (wI x2), .int (wI x3), .int (wI x4), .int (wI x5), .int (wI x6), .int (wI x7), .int (wI x8), .int (wI x9), .int (wI x10), .int (wI x11), .int (wI x12)] [] S σ τ Q := by
  obtain ⟨p1, t⟩ := t
  refine i5 c_312_344 rfl (i45 c_312_345 (lo (c := 83) (kd := 112) (n := 0) rfl (by decide)) (lro (c := 83) (k := 35) (j := 96) (by decide)) (i1 c_312_348 (i3 c_312_350 rfl (i12 c_312_352 (i5 c_312_353 rfl (i5 c_312_354 rfl (i3 c_312_355 rfl (i1 c_312_357 ?_))))))))
  refine i80 (As := [.int (wI x8), .int (wI 6)]) (rest := [.ref 83, .int (wI (24 * x5)), .ref 96]) c_312_359 mi_199 rfl rfl (Nat.le_of_ble_eq_true rfl) (Nat.le_of_ble_eq_true rfl) (lo (c := 83) (kd := 112) (n := 0) rfl (by decide)) (q_199 p1 ?_)
  show wi (d + 9) 312 362 [.ref 83, .int (wI x1), .int (wI x2), .int (wI x3), .int (wI x4), .int (wI x5), .int (wI x6), .int (wI x7), .int (wI x8), .int (wI x9), .int (wI x10), .int (wI x11), .int (wI x12)] [.int (wI (σ 84 (3652 + 12 * x8 + 6))), .ref 83, .int (wI (24 * x5)), .ref 96] S σ τ Q
  refine wi_ok (fun K2 => ?_)
  obtain ⟨p3, t⟩ := t
  refine i1 c_312_362 ?_
  refine i80 (As := [.int (wI (σ 84 (3652 + 12 * x8 + 6))), .int (wI 0)]) (rest := [.int (wI (24 * x5)), .ref 96]) c_312_363 mi_199 rfl rfl (Nat.le_of_ble_eq_true rfl) (Nat.le_of_ble_eq_true rfl) (lo (c := 83) (kd := 112) (n := 0) rfl (by decide)) (q_199 p3 ?_)
  show wi (d + 9) 312 366 [.ref 83, .int (wI x1), .int (wI x2), .int (wI x3), .int (wI x4), .int (wI x5), .int (wI x6), .int (wI x7), .int (wI x8), .int (wI x9), .int (wI x10), .int (wI x11), .int (wI x12)] [.int (wI (σ 84 (3652 + 12 * (σ 84 (3652 + 12 * x8 + 6)) + 0))), .int (wI (24 * x5)), .ref 96] S σ τ Q
  obtain ⟨r4, t⟩ := t
  obtain ⟨r5, t⟩ := t
  obtain ⟨w6, e7, r8, t⟩ := t
  refine i10 c_312_366 (i34a c_312_367 (i52 (v := τ 96 ((24 * x5) + (σ 84 (3652 + 12 * (σ 84 (3652 + 12 * x8 + 6)) + 0)))) c_312_368 (lo (c := 96) (kd := 1) (n := 576) rfl (by decide)) (by decide) r4 rfl (i3 c_312_369 rfl (i3 c_312_371 rfl (i11 c_312_373 (i31 c_312_374 r5 (i22 c_312_375 (i56 (τ1 := uc τ 96 (u1 (τ 96) ((24 * x5) + (σ 84 (3652 + 12 * (σ 84 (3652 + 12 * x8 + 6)) + 0))) w6)) c_312_376 (lo (c := 96) (kd := 1) (n := 576) rfl (by decide)) (by decide) r4 e7 r8 (wr_ rfl rfl) t))))))))
set_option maxRecDepth 20000 in
theorem u_312_377 {d : Nat} {S : zS} {σ τ : zI} {Q : zQ} {x1 : Int} {x2 : Int} {x3 : Int} {x4 : Int} {x5 : Int} {x6 : Int} {x7 : Int} {x8 : Int} {y9 : Value} {y10 : Value} {y11 : Value} {y12 : Value} (t : wi (d + 9) 312 92 [.ref 83, .int (wI x1), .int (wI x2), .int (wI x3), .int (wI x4), .int (wI x5), .int (wI x6), .int (wI x7), .int (wI (x8 + 1)), y9, y10, y11, y12] [] S σ τ Q) : wi (d + 9) 312 377 [.ref 83, .int (wI x1), .int (wI x2), .int (wI x3), .int (wI x4), .int (wI x5), .int (wI x6), .int (wI x7), .int (wI x8), y9, y10, y11, y12] [] S σ τ Q := by
  refine i9 (L' := [.ref 83, .int (wI x1), .int (wI x2), .int (wI x3), .int (wI x4), .int (wI x5), .int (wI x6), .int (wI x7), .int (wI (x8 + 1)), y9, y10, y11, y12]) c_312_377 rfl rfl (i38 c_312_380 rfl t)
set_option maxRecDepth 20000 in
theorem u_312_403 {d : Nat} {S : zS} {σ τ : zI} {Q : zQ} {x1 : Int} {x2 : Int} {x3 : Int} {x4 : Int} {x5 : Int} {x6 : Int} {x7 : Int} {x8 : Int} {y9 : Value} {y10 : Value} {y11 : Value} {y12 : Value} {s1 : Int} {s2 : Int} (t : (0 ≤ s1 ∧ s1 < 24) ∧ ∃ w2 : Int, wI w2 = wI s2 ∧ rg w2 ∧ Q none S (uc σ 95 (u1 (σ 95) s1 w2)) τ) : wi (d + 9) 312 403 [.ref 83, .int (wI x1), .int (wI x2), .int (wI x3), .int (wI x4), .int (wI x5), .int (wI x6), .int (wI x7), .int (wI x8), y9, y10, y11, y12] [.int (wI s2), .int (wI s1), .ref 95] S σ τ Q := by
  obtain ⟨r1, t⟩ := t
  obtain ⟨w2, e3, r4, t⟩ := t
  refine i54 (σ1 := uc σ 95 (u1 (σ 95) s1 w2)) c_312_403 (lo (c := 95) (kd := 0) (n := 24) rfl (by decide)) (by decide) r1 (by decide) e3 r4 (wr_ rfl rfl) ?_
  exact i94 c_312_404 t
set_option maxHeartbeats 4000000 in
theorem q_312 {d : Nat} {S : zS} {σ τ : zI} {Q : zQ} {m : Int} {how : Int} (p0 : Jv (σ 84)) (p1 : jv_T (σ 84)) (p2 : jv_E (σ 84)) (p3 : 0 ≤ m ∧ m < σ 84 1) (p4 : 0 ≤ how ∧ how ≤ (2 : Int)) (t : ∀ (σ1 : zI) (τ1 : zI), SH σ σ1 τ τ1 m how → Q none S σ1 τ1) : wc (d + 9) 312 [.ref 83, .int (wI m), .int (wI how)] S σ τ Q := by
  have hC := jC p0
  unfold jv_C at hC
  have hM := jM p0 m p3.1 p3.2
  have hl := Jl_of p0
  refine wc_of mi_312 rfl (u_312_0 ⟨by omega, ?_⟩)
  -- the PERSONS
  have main : how ≠ 0 → ∀ σ', (∀ c, c ≠ 83 → c ≠ 91 → c ≠ 92 → c ≠ 95 → σ' c = σ c) → (∀ k, k < 22 ∨ 25 < k → σ' 83 k = σ 83 k) → σ' 95 = u1 (σ 95) (3 * m + how) 0 → ∀ p, 0 ≤ p → p ≤ σ 84 4 → ∀ τ', SI τ τ' (σ 84) m how p → ∀ y9 y10 y11 y12, wi (d + 9) 312 92 [.ref 83, .int (wI m), .int (wI how), .int (wI (σ 84 0)), .int (wI (σ 84 (3300 + 16 * m + 7))), .int (wI (3 * m + how)), .int (wI (s_nn (σ 84) m p)), .int (wI (s_py (σ 84) m)), .int (wI p), y9, y10, y11, y12] [] S σ' τ' Q := fun h0 σ' f1 f2 f3 => by
    have e84 : σ' 84 = σ 84 := f1 84 (by decide) (by decide) (by decide) (by decide)
    refine lp_up (fun p q0 q1 ih => ?_)
    intro τ' si y9 y10 y11 y12
    have nb := s_nn_b p0 p1 p3 (n := p) (by omega)
    refine u_312_92 ?_
    rw [e84]
    refine ⟨by omega, ifI (fun e => ?_) (fun e => ?_)⟩
    · have e : p = σ 84 4 := by omega
      have fin : ∀ v, v = s_pc (σ 84) m how → rg v → wi (d + 9) 312 403 [.ref 83, .int (wI m), .int (wI how), .int (wI (σ 84 0)), .int (wI (σ 84 (3300 + 16 * m + 7))), .int (wI (3 * m + how)), .int (wI (s_nn (σ 84) m p)), .int (wI (s_py (σ 84) m)), .int (wI p), y9, y10, y11, y12] [.int (wI v), .int (wI (3 * m + how)), .ref 95] S σ' τ' Q := fun v hv rv => by
        refine u_312_403 ⟨by omega, v, rfl, rv, ?_⟩
        rw [f3, u1_u1]
        refine t _ _ ⟨fun c c1 c2 c3 c4 => by rw [uc_n c4]; exact f1 c c1 c2 c3 c4, fun k hk => by rw [uc_n (by decide)]; exact f2 k hk, si.2.2, by rw [uc_s, hv], fun h a0 a1 => ?_, si.2.1⟩
        rw [si.1 h a0 a1, e]
        unfold s_e
        rw [if_neg h0]
      refine ⟨by omega, ifI (fun e2 => fin _ ?_ (by omega)) (fun e2 => ⟨by omega, fin _ ?_ ?_⟩)⟩
      · unfold s_pc; rw [if_neg h0, if_pos e2, e]
      · unfold s_pc; rw [if_neg h0, if_neg e2, e]
      · rw [Int.tdiv_eq_ediv_of_nonneg nb.1]; omega
    · have hP := jP p0 p q0 (by omega)
      have ih := ih (by omega)
      have sn : s_nn (σ 84) m (p + 1) = s_nn (σ 84) m p + (if σ 84 (3652 + 12 * p + 4) = m then s_mk (σ 84) m p 2 else 0) := sI_s q0
      have sen : ∀ h, s_en (σ 84) m how h (p + 1) = s_en (σ 84) m how h p + (if σ 84 (3652 + 12 * p + 4) = m then s_e1 (σ 84) m how h p else 0) := fun h => sI_s q0
      rw [sn] at ih
      refine ⟨by omega, by omega, ifI (fun e2 => ?_) (fun e2 => ?_)⟩
      · rw [if_pos e2] at ih
        simp only [if_pos e2] at sen
        have vb := s_v_b (how := how) p0 p1 p3 ⟨q0, by omega⟩ e2
        have ob := s_own_b (how := how) p0 p1 p3 ⟨q0, by omega⟩ e2
        have mb := s_mk_b (how := how) p0 p1 p3 ⟨q0, by omega⟩ e2
        have m2 := s_mk_b (how := 2) p0 p1 p3 ⟨q0, by omega⟩ e2
        have enb := fun h => s_en_b (how := how) (h := h) p0 p1 p3 (n := p) (by omega)
        have hb := s_h_b (p := p) (how := how) hl p1
        have h2b := s_h_b (p := p) (how := 2) hl p1
        have g377 : ∀ τ2, SI τ τ2 (σ 84) m how (p + 1) → ∀ y9 y10 y11 y12, wi (d + 9) 312 377 [.ref 83, .int (wI m), .int (wI how), .int (wI (σ 84 0)), .int (wI (σ 84 (3300 + 16 * m + 7))), .int (wI (3 * m + how)), .int (wI (s_nn (σ 84) m p + s_mk (σ 84) m p 2)), .int (wI (s_py (σ 84) m)), .int (wI p), y9, y10, y11, y12] [] S σ' τ2 Q := fun τ2 s2 y9 y10 y11 y12 => u_312_377 (ih τ2 s2 _ _ _ _)
        have g300 : ∀ x9 x10 y12, wi (d + 9) 312 300 [.ref 83, .int (wI m), .int (wI how), .int (wI (σ 84 0)), .int (wI (σ 84 (3300 + 16 * m + 7))), .int (wI (3 * m + how)), .int (wI (s_nn (σ 84) m p + s_mk (σ 84) m p 2)), .int (wI (s_py (σ 84) m)), .int (wI p), .int (wI x9), .int (wI x10), .int (wI (s_v (σ 84) m p how)), y12] [.int (wI (s_own (σ 84) m p how))] S σ' τ' Q := fun x9 x10 y12 => by
          refine u_312_300 ?_
          rw [e84]
          have hh := hP.1
          have t1 := si.1 (σ 84 (3652 + 12 * p + 0)) hh.1 (by omega)
          have eb := enb (σ 84 (3652 + 12 * p + 0))
          refine ⟨by omega, by omega, by omega, τ' 96 (24 * (3 * m + how) + σ 84 (3652 + 12 * p + 0)) + s_own (σ 84) m p how, rfl, by omega, by omega, ?_⟩
          have go : σ 84 (3652 + 12 * p + 3) = 2 → wi (d + 9) 312 344 [.ref 83, .int (wI m), .int (wI how), .int (wI (σ 84 0)), .int (wI (σ 84 (3300 + 16 * m + 7))), .int (wI (3 * m + how)), .int (wI (s_nn (σ 84) m p + s_mk (σ 84) m p 2)), .int (wI (s_py (σ 84) m)), .int (wI p), .int (wI x9), .int (wI x10), .int (wI (s_v (σ 84) m p how)), .int (wI (s_own (σ 84) m p how))] [] S σ' (uc τ' 96 (u1 (τ' 96) (24 * (3 * m + how) + σ 84 (3652 + 12 * p + 0)) (τ' 96 (24 * (3 * m + how) + σ 84 (3652 + 12 * p + 0)) + s_own (σ 84) m p how))) Q := fun e3 => by
            have tc := hP.2.2.2.2.2.2.2.2.2.2.2.1 e3
            have hq := (jP p0 (σ 84 (3652 + 12 * p + 6)) tc.2.1 (by omega)).1
            have t2 := si.1 (σ 84 (3652 + 12 * σ 84 (3652 + 12 * p + 6) + 0)) hq.1 (by omega)
            have eb2 := enb (σ 84 (3652 + 12 * σ 84 (3652 + 12 * p + 6) + 0))
            refine u_312_344 ?_
            rw [e84, uc_s]
            have xb : (u1 (τ' 96) (24 * (3 * m + how) + σ 84 (3652 + 12 * p + 0)) (τ' 96 (24 * (3 * m + how) + σ 84 (3652 + 12 * p + 0)) + s_own (σ 84) m p how)) (24 * (3 * m + how) + σ 84 (3652 + 12 * σ 84 (3652 + 12 * p + 6) + 0)) = s_en (σ 84) m how (σ 84 (3652 + 12 * σ 84 (3652 + 12 * p + 6) + 0)) p + (if σ 84 (3652 + 12 * p + 0) = σ 84 (3652 + 12 * σ 84 (3652 + 12 * p + 6) + 0) then s_own (σ 84) m p how else 0) := by
              by_cases c : σ 84 (3652 + 12 * p + 0) = σ 84 (3652 + 12 * σ 84 (3652 + 12 * p + 6) + 0)
              · rw [if_pos c, ← c, u1_s, t1]
              · rw [if_neg c, u1_n (by omega), t2]; omega
            refine ⟨by omega, by omega, by omega, by omega, _, rfl, ?_, ?_⟩
            · rw [xb]; split <;> omega
            · rw [uc_uc]
              refine g377 _ ⟨fun h a0 a1 => ?_, fun k hk => ?_, fun c c1 c2 c3 c4 => ?_⟩ _ _ _ _
              · rw [uc_s, sen h]
                unfold s_e1
                rw [if_pos e3]
                by_cases c1 : σ 84 (3652 + 12 * σ 84 (3652 + 12 * p + 6) + 0) = h
                · subst c1
                  rw [u1_s, xb, if_pos rfl, Int.add_assoc]
                · rw [u1_n (by omega), if_neg c1]
                  by_cases c2 : σ 84 (3652 + 12 * p + 0) = h
                  · subst c2
                    rw [u1_s, if_pos rfl, t1]; omega
                  · rw [u1_n (by omega), if_neg c2, si.1 h a0 a1]; omega
              · rw [uc_s, u1_n (by omega), u1_n (by omega)]; exact si.2.1 k hk
              · rw [uc_n c4]; exact si.2.2 c c1 c2 c3 c4
          refine ifI (fun c => go ?_) (fun c => ⟨by omega, ifI (fun e3 => go e3) (fun e3 => ?_)⟩)
          · by_cases h : σ 84 (3652 + 12 * p + 3) = 2
            · exact h
            · unfold s_own at c
              rw [if_neg h] at c
              omega
          · refine g377 _ ⟨fun h a0 a1 => ?_, fun k hk => ?_, fun c c1 c2 c3 c4 => ?_⟩ _ _ _ _
            · rw [uc_s, sen h]
              unfold s_e1
              rw [if_neg e3]
              by_cases c2 : σ 84 (3652 + 12 * p + 0) = h
              · subst c2
                rw [u1_s, if_pos rfl, t1]; omega
              · rw [u1_n (by omega), if_neg c2, si.1 h a0 a1]; omega
            · rw [uc_s, u1_n (by omega)]; exact si.2.1 k hk
            · rw [uc_n c4]; exact si.2.2 c c1 c2 c3 c4
        have g278 : ∀ x9 x10 y11 y12, wi (d + 9) 312 278 [.ref 83, .int (wI m), .int (wI how), .int (wI (σ 84 0)), .int (wI (σ 84 (3300 + 16 * m + 7))), .int (wI (3 * m + how)), .int (wI (s_nn (σ 84) m p + s_mk (σ 84) m p 2)), .int (wI (s_py (σ 84) m)), .int (wI p), .int (wI x9), .int (wI x10), y11, y12] [.int (wI (s_v (σ 84) m p how))] S σ' τ' Q := fun x9 x10 y11 y12 => by
          refine u_312_278 ?_
          rw [e84]
          refine ⟨by omega, ifI (fun e3 => ⟨by omega, ?_⟩) (fun e3 => ?_)⟩
          · have := g300 x9 x10 y12
            unfold s_own at this
            rw [if_pos e3] at this
            exact this
          · have := g300 x9 x10 y12
            unfold s_own at this
            rw [if_neg e3] at this
            exact this
        have g246 : ∀ y11 y12, wi (d + 9) 312 246 [.ref 83, .int (wI m), .int (wI how), .int (wI (σ 84 0)), .int (wI (σ 84 (3300 + 16 * m + 7))), .int (wI (3 * m + how)), .int (wI (s_nn (σ 84) m p)), .int (wI (s_py (σ 84) m)), .int (wI p), .int (wI (s_h (σ 84) p how)), .int (wI (s_mk (σ 84) m p how)), y11, y12] [.int (wI (s_mk (σ 84) m p 2)), .int (wI (s_nn (σ 84) m p))] S σ' τ' Q := fun y11 y12 => by
          refine u_312_246 ?_
          rw [e84]
          have := g278 (s_h (σ 84) p how) (s_mk (σ 84) m p how) y11 y12
          unfold s_v at this
          refine ⟨by omega, ifI (fun e3 => ?_) (fun e3 => ⟨by omega, ?_⟩)⟩
          · rw [if_neg (by omega)] at this; exact this
          · rw [if_pos (by omega)] at this; exact this
        have g187 : ∀ y10 y11 y12, wi (d + 9) 312 187 [.ref 83, .int (wI m), .int (wI how), .int (wI (σ 84 0)), .int (wI (σ 84 (3300 + 16 * m + 7))), .int (wI (3 * m + how)), .int (wI (s_nn (σ 84) m p)), .int (wI (s_py (σ 84) m)), .int (wI p), .int (wI (s_h (σ 84) p how)), y10, y11, y12] [.int (wI (s_mk (σ 84) m p how))] S σ' τ' Q := fun y10 y11 y12 => by
          have z : s_mk (σ 84) m p 2 = 0 → wi (d + 9) 312 206 [.ref 83, .int (wI m), .int (wI how), .int (wI (σ 84 0)), .int (wI (σ 84 (3300 + 16 * m + 7))), .int (wI (3 * m + how)), .int (wI (s_nn (σ 84) m p)), .int (wI (s_py (σ 84) m)), .int (wI p), .int (wI (s_h (σ 84) p how)), .int (wI (s_mk (σ 84) m p how)), y11, y12] [.int (wI (s_nn (σ 84) m p))] S σ' τ' Q := fun h => by
            have := g246 y11 y12
            rw [h] at this
            exact u_312_206 this
          refine u_312_187 ?_
          rw [e84]
          refine ⟨by omega, ifI (fun e3 => z (by unfold s_mk; rw [if_pos e3])) (fun e3 => ⟨by omega, by omega, ifI (fun e4 => ?_) (fun e4 => z (by unfold s_mk; rw [if_neg e3, if_neg (fun h => e4 ⟨e2, h⟩)]))⟩)⟩
          refine ⟨by omega, by omega, hl, p1, by omega, fun v hv bv => ⟨p0, ⟨q0, by omega⟩, by omega, bv, fun v2 hv2 b2 b3 => ⟨jK p0, by omega, fun v3 hv3 bv3 => ⟨by omega, by omega, by omega, ?_⟩⟩⟩⟩
          have := g246 y11 y12
          have e5 : s_mk (σ 84) m p 2 = (σ 84 (3652 + 12 * p + 7) + v2).tdiv v3 := by
            unfold s_mk
            rw [if_neg e3, if_pos e4.2, hv2, hv3, hv]
            unfold s_h
            rw [if_neg (by decide), e2]
          rw [e5] at this
          exact this
        have g144 : ∀ y10 y11 y12, wi (d + 9) 312 144 [.ref 83, .int (wI m), .int (wI how), .int (wI (σ 84 0)), .int (wI (σ 84 (3300 + 16 * m + 7))), .int (wI (3 * m + how)), .int (wI (s_nn (σ 84) m p)), .int (wI (s_py (σ 84) m)), .int (wI p), .int (wI (s_h (σ 84) p how)), y10, y11, y12] [] S σ' τ' Q := fun y10 y11 y12 => by
          have z : s_mk (σ 84) m p how = 0 → wi (d + 9) 312 159 [.ref 83, .int (wI m), .int (wI how), .int (wI (σ 84 0)), .int (wI (σ 84 (3300 + 16 * m + 7))), .int (wI (3 * m + how)), .int (wI (s_nn (σ 84) m p)), .int (wI (s_py (σ 84) m)), .int (wI p), .int (wI (s_h (σ 84) p how)), y10, y11, y12] [] S σ' τ' Q := fun h => by
            have := g187 y10 y11 y12
            rw [h] at this
            exact u_312_159 this
          refine u_312_144 ?_
          rw [e84]
          refine ⟨by omega, ifI (fun e3 => z (by unfold s_mk; rw [if_pos e3])) (fun e3 => ⟨by omega, by omega, ifI (fun e4 => ?_) (fun e4 => z (by unfold s_mk; rw [if_neg e3, if_neg (fun h => e4 ⟨e2, h⟩)]))⟩)⟩
          refine ⟨by omega, p0, ⟨q0, by omega⟩, by omega, hb, fun v2 hv2 b2 b3 => ⟨jK p0, by omega, fun v3 hv3 bv3 => ⟨by omega, by omega, by omega, ?_⟩⟩⟩
          have := g187 y10 y11 y12
          have e5 : s_mk (σ 84) m p how = (σ 84 (3652 + 12 * p + 7) + v2).tdiv v3 := by
            unfold s_mk
            rw [if_neg e3, if_pos e4.2, hv2, hv3]
          rw [e5] at this
          exact this
        refine ⟨by omega, hl, p1, by omega, fun v hv bv => ⟨by omega, ifI (fun e3 => ⟨by omega, ?_⟩) (fun e3 => ?_)⟩⟩
        · have := g144 y10 y11 y12
          unfold s_h at this
          rw [if_pos e3, e2, ← hv] at this
          exact this
        · have := g144 y10 y11 y12
          unfold s_h at this
          rw [if_neg e3, e2, ← hv] at this
          exact this
      · rw [if_neg e2, Int.add_zero] at ih
        simp only [if_neg e2, Int.add_zero] at sen
        exact u_312_377 (ih τ' ⟨fun h a0 a1 => by rw [sen h]; exact si.1 h a0 a1, si.2.1, si.2.2⟩ _ _ _ _)
  -- the zeros
  have zero : ∀ h, 0 ≤ h → h ≤ 24 → ∀ τ', (∀ k, 0 ≤ k → k < h → τ' 96 (24 * (3 * m + how) + k) = 0) → (∀ k, k < 24 * (3 * m + how) ∨ 24 * (3 * m + how) + 24 ≤ k → τ' 96 k = τ 96 k) → (∀ c, c ≠ 96 → τ' c = τ c) → ∀ y8 y9 y10 y11 y12, wi (d + 9) 312 29 [.ref 83, .int (wI m), .int (wI how), .int (wI (σ 84 0)), .int (wI (σ 84 (3300 + 16 * m + 7))), .int (wI (3 * m + how)), .int (wI 0), .int (wI h), y8, y9, y10, y11, y12] [] S σ τ' Q := by
    refine lp_up (fun h a0 a1 ih => ?_)
    intro τ' z1 z2 z3 y8 y9 y10 y11 y12
    refine u_312_29 ⟨by omega, ifI (fun e => ?_) (fun e => ?_)⟩
    · have e95 : ∀ f, uc σ 95 f 84 = σ 84 := fun f => uc_n (by decide)
      refine ⟨by omega, by omega, ifI (fun e2 => ?_) (fun e2 => ⟨by omega, ifI (fun e3 => ?_) (fun e3 => ?_)⟩)⟩
      · refine t _ _ ⟨fun c c1 c2 c3 c4 => uc_n c4, fun k hk => by rw [uc_n (by decide)], fun c c1 c2 c3 c4 => z3 c c4, by rw [uc_s]; unfold s_pc; rw [if_pos e2], fun h b0 b1 => ?_, z2⟩
        rw [z1 h b0 (by omega)]
        unfold s_e
        rw [if_pos e2]
      · rw [e95]
        refine ⟨hl, p1, p2, by omega, by omega, by omega, fun σ1 τ1 f8 _ _ => ?_⟩
        have := main e2 σ1 (fun c c1 c2 c3 c4 => by rw [f8.1 c c1 c2 c3, uc_n c4]) (fun k hk => by rw [f8.2.1 k hk, uc_n (by decide)]) (by rw [f8.1 95 (by decide) (by decide) (by decide), uc_s]) 0 (by omega) (by omega) τ1 ⟨fun h b0 b1 => ?_, fun k hk => ?_, fun c c1 c2 c3 c4 => ?_⟩ y9 y10 y11 y12
        · unfold s_py at this
          rw [if_neg (by omega)] at this
          exact this
        · rw [f8.2.2 96 (by decide) (by decide) (by decide)]; exact z1 h b0 (by omega)
        · rw [f8.2.2 96 (by decide) (by decide) (by decide)]; exact z2 k hk
        · rw [f8.2.2 c c1 c2 c3]; exact z3 c c4
      · have := main e2 (uc σ 95 (u1 (σ 95) (3 * m + how) 0)) (fun c c1 c2 c3 c4 => uc_n c4) (fun k hk => by rw [uc_n (by decide)]) (by rw [uc_s]) 0 (by omega) (by omega) τ' ⟨fun h b0 b1 => z1 h b0 (by omega), z2, fun c c1 c2 c3 c4 => z3 c c4⟩ y9 y10 y11 y12
        unfold s_py at this
        rw [if_pos (by omega)] at this
        exact this
    · refine ⟨by omega, ih (by omega) _ (fun k b0 b1 => ?_) (fun k hk => ?_) (fun c hc => ?_) _ _ _ _ _⟩
      · rw [uc_s]
        by_cases c : k = h
        · subst c; rw [u1_s]
        · rw [u1_n (by omega)]; exact z1 k b0 (by omega)
      · rw [uc_s, u1_n (by omega)]; exact z2 k hk
      · rw [uc_n hc]; exact z3 c hc
  exact zero 0 (by omega) (by omega) τ (fun k b0 b1 => by omega) (fun _ _ => rfl) (fun _ _ => rfl) _ _ _ _ _
