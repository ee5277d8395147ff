/-! ===== the reference: small methods (segments printed by wip/whole, contracts own work) ===== -/
-- method 196: MillTownModel.isIn(III)Z
theorem c_196_0 : pg_cd 196 0 = (3, 1, 0, 0, 0) := by decide +kernel
theorem c_196_1 : pg_cd 196 1 = (3, 1, 0, 1, 0) := by decide +kernel
theorem c_196_2 : pg_cd 196 2 = (37, 3, 0, 2, 12) := by decide +kernel
theorem c_196_5 : pg_cd 196 5 = (3, 1, 0, 0, 0) := by decide +kernel
theorem c_196_6 : pg_cd 196 6 = (3, 1, 0, 2, 0) := by decide +kernel
theorem c_196_7 : pg_cd 196 7 = (37, 3, 0, 4, 7) := by decide +kernel
theorem c_196_10 : pg_cd 196 10 = (1, 1, 0, 0, 1) := by decide +kernel
theorem c_196_11 : pg_cd 196 11 = (38, 3, 0, 0, 4) := by decide +kernel
theorem c_196_14 : pg_cd 196 14 = (1, 1, 0, 0, 0) := by decide +kernel
theorem c_196_15 : pg_cd 196 15 = (91, 0, 0, 0, 0) := by decide +kernel
theorem mi_196 : pg_mc 196 = 12 ∧ pg_na 196 = 3 ∧ pg_mx 196 = 3 := by decide +kernel
set_option maxRecDepth 20000 in
theorem u_196_0 {d : Nat} {S : zS} {σ τ : zI} {Q : zQ} {x0 : Int} {x1 : Int} {x2 : Int} (t : (rg x0) ∧ (rg x1) ∧ if x0 < x1 then (Q (some (.int (wI 0))) S σ τ) else ((rg x2) ∧ if x2 < x0 then (Q (some (.int (wI 0))) S σ τ) else (Q (some (.int (wI 1))) S σ τ))) : wi (d + 0) 196 0 [.int (wI x0), .int (wI x1), .int (wI x2)] [] S σ τ Q := by
  obtain ⟨r1, t⟩ := t
  obtain ⟨r2, t⟩ := t
  refine i3 c_196_0 rfl (i3 c_196_1 rfl ?_)
  refine i37 c_196_2 r1 r2 rfl (fun hc => ?_) (fun hc => ?_)
  · have t := iT t hc
    have ha3 : x0 < x1 := hc
    refine i1 c_196_14 ?_
    exact i91 c_196_15 (by decide) t
  · have t := iF t hc
    have ha3 : ¬ (x0 < x1) := hc
    obtain ⟨r4, t⟩ := t
    refine i3 c_196_5 rfl (i3 c_196_6 rfl ?_)
    refine i37 c_196_7 r1 r4 rfl (fun hc => ?_) (fun hc => ?_)
    · have t := iT t hc
      have ha5 : x2 < x0 := hc
      refine i1 c_196_14 ?_
      exact i91 c_196_15 (by decide) t
    · have t := iF t hc
      have ha5 : ¬ (x2 < x0) := hc
      refine i1 c_196_10 (i38 c_196_11 rfl ?_)
      exact i91 c_196_15 (by decide) t
theorem q_196 {d : Nat} {S : zS} {σ τ : zI} {Q : zQ} {v : Int} {low : Int} {high : Int} (p0 : rg v) (p1 : rg low) (p2 : rg high) (t : Q (some (.int (wI (if low ≤ v ∧ v ≤ high then 1 else 0)))) S σ τ) : wc (d + 0) 196 [.int (wI v), .int (wI low), .int (wI high)] S σ τ Q := by
  refine wc_of mi_196 rfl (u_196_0 ⟨p0, p1, ?_⟩)
  split
  · (first | (rw [if_pos (by omega)] at t; exact t) | (rw [if_neg (by omega)] at t; exact t))
  · refine ⟨p2, ?_⟩
    split
    · (first | (rw [if_pos (by omega)] at t; exact t) | (rw [if_neg (by omega)] at t; exact t))
    · (first | (rw [if_pos (by omega)] at t; exact t) | (rw [if_neg (by omega)] at t; exact t))
-- method 197: MillTownModel.kindAt(II)I
theorem c_197_0 : pg_cd 197 0 = (5, 1, 0, 0, 0) := by decide +kernel
theorem c_197_1 : pg_cd 197 1 = (45, 12, 8, 0, 0) := by decide +kernel
theorem c_197_4 : pg_cd 197 4 = (1, 2, 0, 0, 20) := by decide +kernel
theorem c_197_6 : pg_cd 197 6 = (1, 2, 0, 0, 8) := by decide +kernel
theorem c_197_8 : pg_cd 197 8 = (3, 1, 0, 1, 0) := by decide +kernel
theorem c_197_9 : pg_cd 197 9 = (12, 1, 0, 0, 0) := by decide +kernel
theorem c_197_10 : pg_cd 197 10 = (10, 1, 0, 0, 0) := by decide +kernel
theorem c_197_11 : pg_cd 197 11 = (3, 1, 0, 2, 0) := by decide +kernel
theorem c_197_12 : pg_cd 197 12 = (10, 1, 0, 0, 0) := by decide +kernel
theorem c_197_13 : pg_cd 197 13 = (50, 1, 0, 0, 0) := by decide +kernel
theorem c_197_14 : pg_cd 197 14 = (90, 0, 0, 0, 0) := by decide +kernel
theorem mi_197 : pg_mc 197 = 12 ∧ pg_na 197 = 2 ∧ pg_mx 197 = 3 := by decide +kernel
set_option maxRecDepth 20000 in
theorem u_197_0 {d : Nat} {S : zS} {σ τ : zI} {Q : zQ} {x1 : Int} {x2 : Int} (t : (0 ≤ (20 + (8 * x1)) + x2 ∧ (20 + (8 * x1)) + x2 < 112300) ∧ Q (some (.int (wI (σ 84 ((20 + (8 * x1)) + x2))))) S σ τ) : wi (d + 0) 197 0 [.ref 83, .int (wI x1), .int (wI x2)] [] S σ τ Q := by
  obtain ⟨r1, t⟩ := t
  refine i5 c_197_0 rfl (i45 c_197_1 (lo (c := 83) (kd := 112) (n := 0) rfl (by decide)) (lro (c := 83) (k := 0) (j := 84) (by decide)) (i1 c_197_4 (i1 c_197_6 (i3 c_197_8 rfl (i12 c_197_9 (i10 c_197_10 (i3 c_197_11 rfl (i10 c_197_12 (wi_ok (fun K2 => ?_))))))))))
  refine i50 (v := σ 84 ((20 + (8 * x1)) + x2)) c_197_13 (lo (c := 84) (kd := 0) (n := 112300) rfl (by decide)) (by decide) r1 rfl ?_
  exact i90 c_197_14 t
theorem q_197 {d : Nat} {S : zS} {σ τ : zI} {Q : zQ} {k : Int} {what : Int} (p0 : (0 ≤ 20 + 8 * k + what ∧ 20 + 8 * k + what < 112300)) (t : Q (some (.int (wI (σ 84 (20 + 8 * k + what))))) S σ τ) : wc (d + 0) 197 [.ref 83, .int (wI k), .int (wI what)] S σ τ Q := by
  exact wc_of mi_197 rfl (u_197_0 ⟨p0, t⟩)
-- method 198: MillTownModel.millAt(II)I
theorem c_198_0 : pg_cd 198 0 = (5, 1, 0, 0, 0) := by decide +kernel
theorem c_198_1 : pg_cd 198 1 = (45, 12, 8, 0, 0) := by decide +kernel
theorem c_198_4 : pg_cd 198 4 = (1, 3, 0, 0, 3300) := by decide +kernel
theorem c_198_7 : pg_cd 198 7 = (1, 2, 0, 0, 16) := by decide +kernel
theorem c_198_9 : pg_cd 198 9 = (3, 1, 0, 1, 0) := by decide +kernel
theorem c_198_10 : pg_cd 198 10 = (12, 1, 0, 0, 0) := by decide +kernel
theorem c_198_11 : pg_cd 198 11 = (10, 1, 0, 0, 0) := by decide +kernel
theorem c_198_12 : pg_cd 198 12 = (3, 1, 0, 2, 0) := by decide +kernel
theorem c_198_13 : pg_cd 198 13 = (10, 1, 0, 0, 0) := by decide +kernel
theorem c_198_14 : pg_cd 198 14 = (50, 1, 0, 0, 0) := by decide +kernel
theorem c_198_15 : pg_cd 198 15 = (90, 0, 0, 0, 0) := by decide +kernel
theorem mi_198 : pg_mc 198 = 12 ∧ pg_na 198 = 2 ∧ pg_mx 198 = 3 := by decide +kernel
set_option maxRecDepth 20000 in
theorem u_198_0 {d : Nat} {S : zS} {σ τ : zI} {Q : zQ} {x1 : Int} {x2 : Int} (t : (0 ≤ (3300 + (16 * x1)) + x2 ∧ (3300 + (16 * x1)) + x2 < 112300) ∧ Q (some (.int (wI (σ 84 ((3300 + (16 * x1)) + x2))))) S σ τ) : wi (d + 0) 198 0 [.ref 83, .int (wI x1), .int (wI x2)] [] S σ τ Q := by
  obtain ⟨r1, t⟩ := t
  refine i5 c_198_0 rfl (i45 c_198_1 (lo (c := 83) (kd := 112) (n := 0) rfl (by decide)) (lro (c := 83) (k := 0) (j := 84) (by decide)) (i1 c_198_4 (i1 c_198_7 (i3 c_198_9 rfl (i12 c_198_10 (i10 c_198_11 (i3 c_198_12 rfl (i10 c_198_13 (wi_ok (fun K2 => ?_))))))))))
  refine i50 (v := σ 84 ((3300 + (16 * x1)) + x2)) c_198_14 (lo (c := 84) (kd := 0) (n := 112300) rfl (by decide)) (by decide) r1 rfl ?_
  exact i90 c_198_15 t
theorem q_198 {d : Nat} {S : zS} {σ τ : zI} {Q : zQ} {m : Int} {what : Int} (p0 : (0 ≤ 3300 + 16 * m + what ∧ 3300 + 16 * m + what < 112300)) (t : Q (some (.int (wI (σ 84 (3300 + 16 * m + what))))) S σ τ) : wc (d + 0) 198 [.ref 83, .int (wI m), .int (wI what)] S σ τ Q := by
  exact wc_of mi_198 rfl (u_198_0 ⟨p0, t⟩)
-- method 199: MillTownModel.personAt(II)I
theorem c_199_0 : pg_cd 199 0 = (5, 1, 0, 0, 0) := by decide +kernel
theorem c_199_1 : pg_cd 199 1 = (45, 12, 8, 0, 0) := by decide +kernel
theorem c_199_4 : pg_cd 199 4 = (1, 3, 0, 0, 3652) := by decide +kernel
theorem c_199_7 : pg_cd 199 7 = (1, 2, 0, 0, 12) := by decide +kernel
theorem c_199_9 : pg_cd 199 9 = (3, 1, 0, 1, 0) := by decide +kernel
theorem c_199_10 : pg_cd 199 10 = (12, 1, 0, 0, 0) := by decide +kernel
theorem c_199_11 : pg_cd 199 11 = (10, 1, 0, 0, 0) := by decide +kernel
theorem c_199_12 : pg_cd 199 12 = (3, 1, 0, 2, 0) := by decide +kernel
theorem c_199_13 : pg_cd 199 13 = (10, 1, 0, 0, 0) := by decide +kernel
theorem c_199_14 : pg_cd 199 14 = (50, 1, 0, 0, 0) := by decide +kernel
theorem c_199_15 : pg_cd 199 15 = (90, 0, 0, 0, 0) := by decide +kernel
theorem mi_199 : pg_mc 199 = 12 ∧ pg_na 199 = 2 ∧ pg_mx 199 = 3 := by decide +kernel
set_option maxRecDepth 20000 in
theorem u_199_0 {d : Nat} {S : zS} {σ τ : zI} {Q : zQ} {x1 : Int} {x2 : Int} (t : (0 ≤ (3652 + (12 * x1)) + x2 ∧ (3652 + (12 * x1)) + x2 < 112300) ∧ Q (some (.int (wI (σ 84 ((3652 + (12 * x1)) + x2))))) S σ τ) : wi (d + 0) 199 0 [.ref 83, .int (wI x1), .int (wI x2)] [] S σ τ Q := by
  obtain ⟨r1, t⟩ := t
  refine i5 c_199_0 rfl (i45 c_199_1 (lo (c := 83) (kd := 112) (n := 0) rfl (by decide)) (lro (c := 83) (k := 0) (j := 84) (by decide)) (i1 c_199_4 (i1 c_199_7 (i3 c_199_9 rfl (i12 c_199_10 (i10 c_199_11 (i3 c_199_12 rfl (i10 c_199_13 (wi_ok (fun K2 => ?_))))))))))
  refine i50 (v := σ 84 ((3652 + (12 * x1)) + x2)) c_199_14 (lo (c := 84) (kd := 0) (n := 112300) rfl (by decide)) (by decide) r1 rfl ?_
  exact i90 c_199_15 t
theorem q_199 {d : Nat} {S : zS} {σ τ : zI} {Q : zQ} {p : Int} {what : Int} (p0 : (0 ≤ 3652 + 12 * p + what ∧ 3652 + 12 * p + what < 112300)) (t : Q (some (.int (wI (σ 84 (3652 + 12 * p + what))))) S σ τ) : wc (d + 0) 199 [.ref 83, .int (wI p), .int (wI what)] S σ τ Q := by
  exact wc_of mi_199 rfl (u_199_0 ⟨p0, t⟩)
-- method 200: MillTownModel.homeAt(II)I
theorem c_200_0 : pg_cd 200 0 = (5, 1, 0, 0, 0) := by decide +kernel
theorem c_200_1 : pg_cd 200 1 = (45, 12, 8, 0, 0) := by decide +kernel
theorem c_200_4 : pg_cd 200 4 = (1, 3, 0, 0, 3460) := by decide +kernel
theorem c_200_7 : pg_cd 200 7 = (1, 2, 0, 0, 8) := by decide +kernel
theorem c_200_9 : pg_cd 200 9 = (3, 1, 0, 1, 0) := by decide +kernel
theorem c_200_10 : pg_cd 200 10 = (12, 1, 0, 0, 0) := by decide +kernel
theorem c_200_11 : pg_cd 200 11 = (10, 1, 0, 0, 0) := by decide +kernel
theorem c_200_12 : pg_cd 200 12 = (3, 1, 0, 2, 0) := by decide +kernel
theorem c_200_13 : pg_cd 200 13 = (10, 1, 0, 0, 0) := by decide +kernel
theorem c_200_14 : pg_cd 200 14 = (50, 1, 0, 0, 0) := by decide +kernel
theorem c_200_15 : pg_cd 200 15 = (90, 0, 0, 0, 0) := by decide +kernel
theorem mi_200 : pg_mc 200 = 12 ∧ pg_na 200 = 2 ∧ pg_mx 200 = 3 := by decide +kernel
set_option maxRecDepth 20000 in
theorem u_200_0 {d : Nat} {S : zS} {σ τ : zI} {Q : zQ} {x1 : Int} {x2 : Int} (t : (0 ≤ (3460 + (8 * x1)) + x2 ∧ (3460 + (8 * x1)) + x2 < 112300) ∧ Q (some (.int (wI (σ 84 ((3460 + (8 * x1)) + x2))))) S σ τ) : wi (d + 0) 200 0 [.ref 83, .int (wI x1), .int (wI x2)] [] S σ τ Q := by
  obtain ⟨r1, t⟩ := t
  refine i5 c_200_0 rfl (i45 c_200_1 (lo (c := 83) (kd := 112) (n := 0) rfl (by decide)) (lro (c := 83) (k := 0) (j := 84) (by decide)) (i1 c_200_4 (i1 c_200_7 (i3 c_200_9 rfl (i12 c_200_10 (i10 c_200_11 (i3 c_200_12 rfl (i10 c_200_13 (wi_ok (fun K2 => ?_))))))))))
  refine i50 (v := σ 84 ((3460 + (8 * x1)) + x2)) c_200_14 (lo (c := 84) (kd := 0) (n := 112300) rfl (by decide)) (by decide) r1 rfl ?_
  exact i90 c_200_15 t
theorem q_200 {d : Nat} {S : zS} {σ τ : zI} {Q : zQ} {h : Int} {what : Int} (p0 : (0 ≤ 3460 + 8 * h + what ∧ 3460 + 8 * h + what < 112300)) (t : Q (some (.int (wI (σ 84 (3460 + 8 * h + what))))) S σ τ) : wc (d + 0) 200 [.ref 83, .int (wI h), .int (wI what)] S σ τ Q := by
  exact wc_of mi_200 rfl (u_200_0 ⟨p0, t⟩)
-- method 201: MillTownModel.isMill(I)Z
theorem c_201_0 : pg_cd 201 0 = (3, 1, 0, 1, 0) := by decide +kernel
theorem c_201_1 : pg_cd 201 1 = (1, 1, 0, 0, 0) := by decide +kernel
theorem c_201_2 : pg_cd 201 2 = (5, 1, 0, 0, 0) := by decide +kernel
theorem c_201_3 : pg_cd 201 3 = (45, 12, 8, 0, 0) := by decide +kernel
theorem c_201_6 : pg_cd 201 6 = (1, 1, 0, 0, 1) := by decide +kernel
theorem c_201_7 : pg_cd 201 7 = (50, 1, 0, 0, 0) := by decide +kernel
theorem c_201_8 : pg_cd 201 8 = (1, 1, 0, 0, 1) := by decide +kernel
theorem c_201_9 : pg_cd 201 9 = (11, 1, 0, 0, 0) := by decide +kernel
theorem c_201_10 : pg_cd 201 10 = (81, 196, 76, 0, 0) := by decide +kernel
theorem c_201_13 : pg_cd 201 13 = (91, 0, 0, 0, 0) := by decide +kernel
theorem mi_201 : pg_mc 201 = 12 ∧ pg_na 201 = 1 ∧ pg_mx 201 = 2 := by decide +kernel
set_option maxRecDepth 20000 in
theorem u_201_0 {d : Nat} {S : zS} {σ τ : zI} {Q : zQ} {x1 : Int} (t : (rg x1) ∧ (rg ((σ 84 1) - 1)) ∧ Q (some (.int (wI (if 0 ≤ x1 ∧ x1 ≤ ((σ 84 1) - 1) then 1 else 0)))) S σ τ) : wi (d + 1) 201 0 [.ref 83, .int (wI x1)] [] S σ τ Q := by
  refine i3 c_201_0 rfl (i1 c_201_1 (i5 c_201_2 rfl (i45 c_201_3 (lo (c := 83) (kd := 112) (n := 0) rfl (by decide)) (lro (c := 83) (k := 0) (j := 84) (by decide)) (i1 c_201_6 (wi_ok (fun K1 => ?_))))))
  obtain ⟨r2, t⟩ := t
  obtain ⟨r3, t⟩ := t
  refine i50 (v := σ 84 1) c_201_7 (lo (c := 84) (kd := 0) (n := 112300) rfl (by decide)) (by decide) (by decide) rfl (i1 c_201_8 (i11 c_201_9 ?_))
  refine i81 (As := [.int (wI x1), .int (wI 0), .int (wI ((σ 84 1) - 1))]) (rest := []) c_201_10 mi_196 rfl rfl (Nat.le_of_ble_eq_true rfl) (Nat.le_of_ble_eq_true rfl) (q_196 r2 (by decide) r3 ?_)
  show wi (d + 1) 201 13 [.ref 83, .int (wI x1)] [.int (wI (if 0 ≤ x1 ∧ x1 ≤ ((σ 84 1) - 1) then 1 else 0))] S σ τ Q
  exact i91 c_201_13 (ib_ _) t
theorem q_201 {d : Nat} {S : zS} {σ τ : zI} {Q : zQ} {m : Int} (p0 : rg m) (p1 : 0 ≤ σ 84 1) (t : Q (some (.int (wI (if 0 ≤ m ∧ m < σ 84 1 then 1 else 0)))) S σ τ) : wc (d + 1) 201 [.ref 83, .int (wI m)] S σ τ Q := by
  refine wc_ok fun K => ?_
  have k := kO_r K 84 1
  refine wc_of mi_201 rfl (u_201_0 ⟨p0, ⟨by omega, by omega⟩, ?_⟩)
  rw [bi_ (c := 0 ≤ m ∧ m ≤ σ 84 1 - 1) (c' := 0 ≤ m ∧ m < σ 84 1) (by omega)]
  exact t
-- method 202: MillTownModel.isHome(I)Z
theorem c_202_0 : pg_cd 202 0 = (3, 1, 0, 1, 0) := by decide +kernel
theorem c_202_1 : pg_cd 202 1 = (1, 1, 0, 0, 0) := by decide +kernel
theorem c_202_2 : pg_cd 202 2 = (5, 1, 0, 0, 0) := by decide +kernel
theorem c_202_3 : pg_cd 202 3 = (45, 12, 8, 0, 0) := by decide +kernel
theorem c_202_6 : pg_cd 202 6 = (1, 1, 0, 0, 3) := by decide +kernel
theorem c_202_7 : pg_cd 202 7 = (50, 1, 0, 0, 0) := by decide +kernel
theorem c_202_8 : pg_cd 202 8 = (1, 1, 0, 0, 1) := by decide +kernel
theorem c_202_9 : pg_cd 202 9 = (11, 1, 0, 0, 0) := by decide +kernel
theorem c_202_10 : pg_cd 202 10 = (81, 196, 76, 0, 0) := by decide +kernel
theorem c_202_13 : pg_cd 202 13 = (91, 0, 0, 0, 0) := by decide +kernel
theorem mi_202 : pg_mc 202 = 12 ∧ pg_na 202 = 1 ∧ pg_mx 202 = 2 := by decide +kernel
set_option maxRecDepth 20000 in
theorem u_202_0 {d : Nat} {S : zS} {σ τ : zI} {Q : zQ} {x1 : Int} (t : (rg x1) ∧ (rg ((σ 84 3) - 1)) ∧ Q (some (.int (wI (if 0 ≤ x1 ∧ x1 ≤ ((σ 84 3) - 1) then 1 else 0)))) S σ τ) : wi (d + 1) 202 0 [.ref 83, .int (wI x1)] [] S σ τ Q := by
  refine i3 c_202_0 rfl (i1 c_202_1 (i5 c_202_2 rfl (i45 c_202_3 (lo (c := 83) (kd := 112) (n := 0) rfl (by decide)) (lro (c := 83) (k := 0) (j := 84) (by decide)) (i1 c_202_6 (wi_ok (fun K1 => ?_))))))
  obtain ⟨r2, t⟩ := t
  obtain ⟨r3, t⟩ := t
  refine i50 (v := σ 84 3) c_202_7 (lo (c := 84) (kd := 0) (n := 112300) rfl (by decide)) (by decide) (by decide) rfl (i1 c_202_8 (i11 c_202_9 ?_))
  refine i81 (As := [.int (wI x1), .int (wI 0), .int (wI ((σ 84 3) - 1))]) (rest := []) c_202_10 mi_196 rfl rfl (Nat.le_of_ble_eq_true rfl) (Nat.le_of_ble_eq_true rfl) (q_196 r2 (by decide) r3 ?_)
  show wi (d + 1) 202 13 [.ref 83, .int (wI x1)] [.int (wI (if 0 ≤ x1 ∧ x1 ≤ ((σ 84 3) - 1) then 1 else 0))] S σ τ Q
  exact i91 c_202_13 (ib_ _) t
theorem q_202 {d : Nat} {S : zS} {σ τ : zI} {Q : zQ} {h : Int} (p0 : rg h) (p1 : 0 ≤ σ 84 3) (t : Q (some (.int (wI (if 0 ≤ h ∧ h < σ 84 3 then 1 else 0)))) S σ τ) : wc (d + 1) 202 [.ref 83, .int (wI h)] S σ τ Q := by
  refine wc_ok fun K => ?_
  have k := kO_r K 84 3
  refine wc_of mi_202 rfl (u_202_0 ⟨p0, ⟨by omega, by omega⟩, ?_⟩)
  rw [bi_ (c := 0 ≤ h ∧ h ≤ σ 84 3 - 1) (c' := 0 ≤ h ∧ h < σ 84 3) (by omega)]
  exact t
-- method 203: MillTownModel.isPerson(I)Z
theorem c_203_0 : pg_cd 203 0 = (3, 1, 0, 1, 0) := by decide +kernel
theorem c_203_1 : pg_cd 203 1 = (1, 1, 0, 0, 0) := by decide +kernel
theorem c_203_2 : pg_cd 203 2 = (5, 1, 0, 0, 0) := by decide +kernel
theorem c_203_3 : pg_cd 203 3 = (45, 12, 8, 0, 0) := by decide +kernel
theorem c_203_6 : pg_cd 203 6 = (1, 1, 0, 0, 4) := by decide +kernel
theorem c_203_7 : pg_cd 203 7 = (50, 1, 0, 0, 0) := by decide +kernel
theorem c_203_8 : pg_cd 203 8 = (1, 1, 0, 0, 1) := by decide +kernel
theorem c_203_9 : pg_cd 203 9 = (11, 1, 0, 0, 0) := by decide +kernel
theorem c_203_10 : pg_cd 203 10 = (81, 196, 76, 0, 0) := by decide +kernel
theorem c_203_13 : pg_cd 203 13 = (91, 0, 0, 0, 0) := by decide +kernel
theorem mi_203 : pg_mc 203 = 12 ∧ pg_na 203 = 1 ∧ pg_mx 203 = 2 := by decide +kernel
set_option maxRecDepth 20000 in
theorem u_203_0 {d : Nat} {S : zS} {σ τ : zI} {Q : zQ} {x1 : Int} (t : (rg x1) ∧ (rg ((σ 84 4) - 1)) ∧ Q (some (.int (wI (if 0 ≤ x1 ∧ x1 ≤ ((σ 84 4) - 1) then 1 else 0)))) S σ τ) : wi (d + 1) 203 0 [.ref 83, .int (wI x1)] [] S σ τ Q := by
  refine i3 c_203_0 rfl (i1 c_203_1 (i5 c_203_2 rfl (i45 c_203_3 (lo (c := 83) (kd := 112) (n := 0) rfl (by decide)) (lro (c := 83) (k := 0) (j := 84) (by decide)) (i1 c_203_6 (wi_ok (fun K1 => ?_))))))
  obtain ⟨r2, t⟩ := t
  obtain ⟨r3, t⟩ := t
  refine i50 (v := σ 84 4) c_203_7 (lo (c := 84) (kd := 0) (n := 112300) rfl (by decide)) (by decide) (by decide) rfl (i1 c_203_8 (i11 c_203_9 ?_))
  refine i81 (As := [.int (wI x1), .int (wI 0), .int (wI ((σ 84 4) - 1))]) (rest := []) c_203_10 mi_196 rfl rfl (Nat.le_of_ble_eq_true rfl) (Nat.le_of_ble_eq_true rfl) (q_196 r2 (by decide) r3 ?_)
  show wi (d + 1) 203 13 [.ref 83, .int (wI x1)] [.int (wI (if 0 ≤ x1 ∧ x1 ≤ ((σ 84 4) - 1) then 1 else 0))] S σ τ Q
  exact i91 c_203_13 (ib_ _) t
theorem q_203 {d : Nat} {S : zS} {σ τ : zI} {Q : zQ} {p : Int} (p0 : rg p) (p1 : 0 ≤ σ 84 4) (t : Q (some (.int (wI (if 0 ≤ p ∧ p < σ 84 4 then 1 else 0)))) S σ τ) : wc (d + 1) 203 [.ref 83, .int (wI p)] S σ τ Q := by
  refine wc_ok fun K => ?_
  have k := kO_r K 84 4
  refine wc_of mi_203 rfl (u_203_0 ⟨p0, ⟨by omega, by omega⟩, ?_⟩)
  rw [bi_ (c := 0 ≤ p ∧ p ≤ σ 84 4 - 1) (c' := 0 ≤ p ∧ p < σ 84 4) (by omega)]
  exact t
-- method 204: MillTownModel.isKind(I)Z
theorem c_204_0 : pg_cd 204 0 = (3, 1, 0, 0, 0) := by decide +kernel
theorem c_204_1 : pg_cd 204 1 = (1, 1, 0, 0, 0) := by decide +kernel
theorem c_204_2 : pg_cd 204 2 = (1, 1, 0, 0, 5) := by decide +kernel
theorem c_204_3 : pg_cd 204 3 = (81, 196, 76, 0, 0) := by decide +kernel
theorem c_204_6 : pg_cd 204 6 = (91, 0, 0, 0, 0) := by decide +kernel
theorem mi_204 : pg_mc 204 = 12 ∧ pg_na 204 = 1 ∧ pg_mx 204 = 1 := by decide +kernel
set_option maxRecDepth 20000 in
theorem u_204_0 {d : Nat} {S : zS} {σ τ : zI} {Q : zQ} {x0 : Int} (t : (rg x0) ∧ Q (some (.int (wI (if 0 ≤ x0 ∧ x0 ≤ 5 then 1 else 0)))) S σ τ) : wi (d + 1) 204 0 [.int (wI x0)] [] S σ τ Q := by
  obtain ⟨r1, t⟩ := t
  refine i3 c_204_0 rfl (i1 c_204_1 (i1 c_204_2 ?_))
  refine i81 (As := [.int (wI x0), .int (wI 0), .int (wI 5)]) (rest := []) c_204_3 mi_196 rfl rfl (Nat.le_of_ble_eq_true rfl) (Nat.le_of_ble_eq_true rfl) (q_196 r1 (by decide) (by decide) ?_)
  show wi (d + 1) 204 6 [.int (wI x0)] [.int (wI (if 0 ≤ x0 ∧ x0 ≤ 5 then 1 else 0))] S σ τ Q
  exact i91 c_204_6 (ib_ _) t
theorem q_204 {d : Nat} {S : zS} {σ τ : zI} {Q : zQ} {k : Int} (p0 : rg k) (t : Q (some (.int (wI (if 0 ≤ k ∧ k ≤ 5 then 1 else 0)))) S σ τ) : wc (d + 1) 204 [.int (wI k)] S σ τ Q := by
  exact wc_of mi_204 rfl (u_204_0 ⟨p0, t⟩)
-- method 205: MillTownModel.isWeek(I)Z
theorem c_205_0 : pg_cd 205 0 = (3, 1, 0, 0, 0) := by decide +kernel
theorem c_205_1 : pg_cd 205 1 = (1, 1, 0, 0, 0) := by decide +kernel
theorem c_205_2 : pg_cd 205 2 = (1, 3, 0, 0, 399) := by decide +kernel
theorem c_205_5 : pg_cd 205 5 = (81, 196, 76, 0, 0) := by decide +kernel
theorem c_205_8 : pg_cd 205 8 = (91, 0, 0, 0, 0) := by decide +kernel
theorem mi_205 : pg_mc 205 = 12 ∧ pg_na 205 = 1 ∧ pg_mx 205 = 1 := by decide +kernel
set_option maxRecDepth 20000 in
theorem u_205_0 {d : Nat} {S : zS} {σ τ : zI} {Q : zQ} {x0 : Int} (t : (rg x0) ∧ Q (some (.int (wI (if 0 ≤ x0 ∧ x0 ≤ 399 then 1 else 0)))) S σ τ) : wi (d + 1) 205 0 [.int (wI x0)] [] S σ τ Q := by
  obtain ⟨r1, t⟩ := t
  refine i3 c_205_0 rfl (i1 c_205_1 (i1 c_205_2 ?_))
  refine i81 (As := [.int (wI x0), .int (wI 0), .int (wI 399)]) (rest := []) c_205_5 mi_196 rfl rfl (Nat.le_of_ble_eq_true rfl) (Nat.le_of_ble_eq_true rfl) (q_196 r1 (by decide) (by decide) ?_)
  show wi (d + 1) 205 8 [.int (wI x0)] [.int (wI (if 0 ≤ x0 ∧ x0 ≤ 399 then 1 else 0))] S σ τ Q
  exact i91 c_205_8 (ib_ _) t
theorem q_205 {d : Nat} {S : zS} {σ τ : zI} {Q : zQ} {w : Int} (p0 : rg w) (t : Q (some (.int (wI (if 0 ≤ w ∧ w ≤ 399 then 1 else 0)))) S σ τ) : wc (d + 1) 205 [.int (wI w)] S σ τ Q := by
  exact wc_of mi_205 rfl (u_205_0 ⟨p0, t⟩)
