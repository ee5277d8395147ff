/-! ===== the reference: THE SHEET, loaves, sums of a WEEK (segments printed by wip/whole, contracts own work) ===== -/
theorem zw_add (x y : Int) : zw (zw x + y) = zw (x + y) := by
  unfold zw
  rw [← wI_add, wI_toInt, wI_add]
theorem zw_add2 (x y : Int) : zw (x + zw y) = zw (x + y) := by rw [Int.add_comm, zw_add, Int.add_comm]
theorem zw_c {x y : Int} (h : wI x = wI y) : zw x = zw y := by unfold zw; rw [h]
/-- the WAGES of a WEEK at a MILL and a HOME -/
def r_inB (a : Int → Int) (m h w : Int) : Int := sI (fun p => if a (3652 + 12 * p + 0) = h then (if a (84700 + 60 * w + p) = m + 1 then a (60700 + 60 * w + p) else 0) else 0) (a 4)
-- method 320: MillTownModel.isPlace(II)Z
theorem c_320_0 : pg_cd 320 0 = (3, 1, 0, 0, 0) := by decide +kernel
theorem c_320_1 : pg_cd 320 1 = (1, 1, 0, 0, 0) := by decide +kernel
theorem c_320_2 : pg_cd 320 2 = (1, 2, 0, 0, 7) := by decide +kernel
theorem c_320_4 : pg_cd 320 4 = (81, 196, 76, 0, 0) := by decide +kernel
theorem c_320_7 : pg_cd 320 7 = (36, 3, 0, 0, 17) := by decide +kernel
theorem c_320_10 : pg_cd 320 10 = (3, 1, 0, 1, 0) := by decide +kernel
theorem c_320_11 : pg_cd 320 11 = (1, 1, 0, 0, 0) := by decide +kernel
theorem c_320_12 : pg_cd 320 12 = (1, 2, 0, 0, 23) := by decide +kernel
theorem c_320_14 : pg_cd 320 14 = (81, 196, 76, 0, 0) := by decide +kernel
theorem c_320_17 : pg_cd 320 17 = (36, 3, 0, 0, 7) := by decide +kernel
theorem c_320_20 : pg_cd 320 20 = (1, 1, 0, 0, 1) := by decide +kernel
theorem c_320_21 : pg_cd 320 21 = (38, 3, 0, 0, 4) := by decide +kernel
theorem c_320_24 : pg_cd 320 24 = (1, 1, 0, 0, 0) := by decide +kernel
theorem c_320_25 : pg_cd 320 25 = (91, 0, 0, 0, 0) := by decide +kernel
theorem mi_320 : pg_mc 320 = 12 ∧ pg_na 320 = 2 ∧ pg_mx 320 = 2 := by decide +kernel
set_option maxRecDepth 20000 in
theorem u_320_0 {d : Nat} {S : zS} {σ τ : zI} {Q : zQ} {x0 : Int} {x1 : Int} (t : (rg x0) ∧ if 0 ≤ x0 ∧ x0 ≤ 7 then ((rg x1) ∧ if 0 ≤ x1 ∧ x1 ≤ 23 then (Q (some (.int (wI 1))) S σ τ) else (Q (some (.int (wI 0))) S σ τ)) else (Q (some (.int (wI 0))) S σ τ)) : wi (d + 1) 320 0 [.int (wI x0), .int (wI x1)] [] S σ τ Q := by
  obtain ⟨r1, t⟩ := t
  refine i3 c_320_0 rfl (i1 c_320_1 (i1 c_320_2 ?_))
  refine i81 (As := [.int (wI x0), .int (wI 0), .int (wI 7)]) (rest := []) c_320_4 mi_196 rfl rfl (Nat.le_of_ble_eq_true rfl) (Nat.le_of_ble_eq_true rfl) (q_196 r1 (by decide) (by decide) ?_)
  show wi (d + 1) 320 7 [.int (wI x0), .int (wI x1)] [.int (wI (if 0 ≤ x0 ∧ x0 ≤ 7 then 1 else 0))] S σ τ Q
  refine i36e c_320_7 rfl (fun hc => ?_) (fun hc => ?_)
  · have t := iT t hc
    have ha2 : 0 ≤ x0 ∧ x0 ≤ 7 := hc
    obtain ⟨r3, t⟩ := t
    refine i3 c_320_10 rfl (i1 c_320_11 (i1 c_320_12 ?_))
    refine i81 (As := [.int (wI x1), .int (wI 0), .int (wI 23)]) (rest := []) c_320_14 mi_196 rfl rfl (Nat.le_of_ble_eq_true rfl) (Nat.le_of_ble_eq_true rfl) (q_196 r3 (by decide) (by decide) ?_)
    show wi (d + 1) 320 17 [.int (wI x0), .int (wI x1)] [.int (wI (if 0 ≤ x1 ∧ x1 ≤ 23 then 1 else 0))] S σ τ Q
    refine i36e c_320_17 rfl (fun hc => ?_) (fun hc => ?_)
    · have t := iT t hc
      have ha4 : 0 ≤ x1 ∧ x1 ≤ 23 := hc
      refine i1 c_320_20 (i38 c_320_21 rfl ?_)
      exact i91 c_320_25 (by decide) t
    · have t := iF t hc
      have ha4 : ¬ (0 ≤ x1 ∧ x1 ≤ 23) := hc
      refine i1 c_320_24 ?_
      exact i91 c_320_25 (by decide) t
  · have t := iF t hc
    have ha2 : ¬ (0 ≤ x0 ∧ x0 ≤ 7) := hc
    refine i1 c_320_24 ?_
    exact i91 c_320_25 (by decide) t
theorem q_320 {d : Nat} {S : zS} {σ τ : zI} {Q : zQ} {m : Int} {h : Int} (p0 : rg m) (p1 : rg h) (t : Q (some (.int (wI (if (0 ≤ m ∧ m ≤ 7) ∧ (0 ≤ h ∧ h ≤ 23) then 1 else 0)))) S σ τ) : wc (d + 1) 320 [.int (wI m), .int (wI h)] S σ τ Q := by
  refine wc_of mi_320 rfl (u_320_0 ⟨p0, ?_⟩)
  refine ifI (fun e => ⟨p1, ifI (fun e2 => ?_) (fun e2 => ?_)⟩) (fun e => ?_)
  · rw [if_pos (by omega)] at t; exact t
  · rw [if_neg (by omega)] at t; exact t
  · rw [if_neg (by omega)] at t; exact t
-- method 321: MillTownModel.onSheet(II)I
theorem c_321_0 : pg_cd 321 0 = (3, 1, 0, 1, 0) := by decide +kernel
theorem c_321_1 : pg_cd 321 1 = (3, 1, 0, 2, 0) := by decide +kernel
theorem c_321_2 : pg_cd 321 2 = (81, 320, 451, 0, 0) := by decide +kernel
theorem c_321_5 : pg_cd 321 5 = (36, 3, 0, 0, 24) := by decide +kernel
theorem c_321_8 : pg_cd 321 8 = (5, 1, 0, 0, 0) := by decide +kernel
theorem c_321_9 : pg_cd 321 9 = (43, 12, 68, 42, 0) := by decide +kernel
theorem c_321_12 : pg_cd 321 12 = (36, 3, 0, 2, 17) := by decide +kernel
theorem c_321_15 : pg_cd 321 15 = (5, 1, 0, 0, 0) := by decide +kernel
theorem c_321_16 : pg_cd 321 16 = (45, 12, 65, 41, 0) := by decide +kernel
theorem c_321_19 : pg_cd 321 19 = (1, 2, 0, 0, 24) := by decide +kernel
theorem c_321_21 : pg_cd 321 21 = (3, 1, 0, 1, 0) := by decide +kernel
theorem c_321_22 : pg_cd 321 22 = (12, 1, 0, 0, 0) := by decide +kernel
theorem c_321_23 : pg_cd 321 23 = (3, 1, 0, 2, 0) := by decide +kernel
theorem c_321_24 : pg_cd 321 24 = (10, 1, 0, 0, 0) := by decide +kernel
theorem c_321_25 : pg_cd 321 25 = (50, 1, 0, 0, 0) := by decide +kernel
theorem c_321_26 : pg_cd 321 26 = (38, 3, 0, 0, 4) := by decide +kernel
theorem c_321_29 : pg_cd 321 29 = (1, 1, 0, 0, (-1)) := by decide +kernel
theorem c_321_30 : pg_cd 321 30 = (90, 0, 0, 0, 0) := by decide +kernel
theorem mi_321 : pg_mc 321 = 12 ∧ pg_na 321 = 2 ∧ pg_mx 321 = 3 := by decide +kernel
set_option maxRecDepth 20000 in
theorem u_321_0 {d : Nat} {S : zS} {σ τ : zI} {Q : zQ} {x1 : Int} {x2 : Int} (t : (rg x1) ∧ (rg x2) ∧ if (0 ≤ x1 ∧ x1 ≤ 7) ∧ (0 ≤ x2 ∧ x2 ≤ 23) then (if (σ 83 42) < 0 then (Q (some (.int (wI (-1)))) S σ τ) else ((0 ≤ (24 * x1) + x2 ∧ (24 * x1) + x2 < 192) ∧ Q (some (.int (wI (σ 99 ((24 * x1) + x2))))) S σ τ)) else (Q (some (.int (wI (-1)))) S σ τ)) : wi (d + 2) 321 0 [.ref 83, .int (wI x1), .int (wI x2)] [] S σ τ Q := by
  obtain ⟨r1, t⟩ := t
  obtain ⟨r2, t⟩ := t
  refine i3 c_321_0 rfl (i3 c_321_1 rfl ?_)
  refine i81 (As := [.int (wI x1), .int (wI x2)]) (rest := []) c_321_2 mi_320 rfl rfl (Nat.le_of_ble_eq_true rfl) (Nat.le_of_ble_eq_true rfl) (q_320 r1 r2 ?_)
  show wi (d + 2) 321 5 [.ref 83, .int (wI x1), .int (wI x2)] [.int (wI (if (0 ≤ x1 ∧ x1 ≤ 7) ∧ (0 ≤ x2 ∧ x2 ≤ 23) then 1 else 0))] S σ τ Q
  refine i36e c_321_5 rfl (fun hc => ?_) (fun hc => ?_)
  · have t := iT t hc
    have ha3 : (0 ≤ x1 ∧ x1 ≤ 7) ∧ (0 ≤ x2 ∧ x2 ≤ 23) := hc
    refine i5 c_321_8 rfl (wi_ok (fun K4 => ?_))
    refine i43 (v := σ 83 42) c_321_9 (lo (c := 83) (kd := 112) (n := 0) rfl (by decide)) rfl ?_
    refine i36 c_321_12 (rge_ K4 rfl) rfl (fun hc => ?_) (fun hc => ?_)
    · have t := iT t hc
      have ha5 : (σ 83 42) < 0 := hc
      refine i1 c_321_29 ?_
      exact i90 c_321_30 t
    · have t := iF t hc
      have ha5 : ¬ ((σ 83 42) < 0) := hc
      obtain ⟨r6, t⟩ := t
      refine i5 c_321_15 rfl (i45 c_321_16 (lo (c := 83) (kd := 112) (n := 0) rfl (by decide)) (lro (c := 83) (k := 41) (j := 99) (by decide)) (i1 c_321_19 (i3 c_321_21 rfl (i12 c_321_22 (i3 c_321_23 rfl (i10 c_321_24 (i50 (v := σ 99 ((24 * x1) + x2)) c_321_25 (lo (c := 99) (kd := 0) (n := 192) rfl (by decide)) (by decide) r6 rfl (i38 c_321_26 rfl ?_))))))))
      exact i90 c_321_30 t
  · have t := iF t hc
    have ha3 : ¬ ((0 ≤ x1 ∧ x1 ≤ 7) ∧ (0 ≤ x2 ∧ x2 ≤ 23)) := hc
    refine i1 c_321_29 ?_
    exact i90 c_321_30 t
theorem q_321 {d : Nat} {S : zS} {σ τ : zI} {Q : zQ} {mill : Int} {home : Int} (p0 : rg mill) (p1 : rg home) (t : Q (some (.int (wI (if ((0 ≤ mill ∧ mill ≤ 7) ∧ (0 ≤ home ∧ home ≤ 23)) ∧ 0 ≤ σ 83 42 then σ 99 (24 * mill + home) else -1)))) S σ τ) : wc (d + 2) 321 [.ref 83, .int (wI mill), .int (wI home)] S σ τ Q := by
  refine wc_of mi_321 rfl (u_321_0 ?_)
  repeat' (first | (rw [if_pos (by omega)] at t; exact t) | (rw [if_neg (by omega)] at t; exact t) | refine ⟨_, rfl, by omega, ?_⟩ | refine ⟨by omega, ?_⟩ | refine ifI (fun _ => ?_) (fun _ => ?_))
-- method 322: MillTownModel.alter(III)Z
theorem c_322_0 : pg_cd 322 0 = (3, 1, 0, 1, 0) := by decide +kernel
theorem c_322_1 : pg_cd 322 1 = (3, 1, 0, 2, 0) := by decide +kernel
theorem c_322_2 : pg_cd 322 2 = (81, 320, 451, 0, 0) := by decide +kernel
theorem c_322_5 : pg_cd 322 5 = (36, 3, 0, 0, 14) := by decide +kernel
theorem c_322_8 : pg_cd 322 8 = (5, 1, 0, 0, 0) := by decide +kernel
theorem c_322_9 : pg_cd 322 9 = (43, 12, 68, 42, 0) := by decide +kernel
theorem c_322_12 : pg_cd 322 12 = (36, 3, 0, 2, 7) := by decide +kernel
theorem c_322_15 : pg_cd 322 15 = (3, 1, 0, 3, 0) := by decide +kernel
theorem c_322_16 : pg_cd 322 16 = (36, 3, 0, 1, 5) := by decide +kernel
theorem c_322_19 : pg_cd 322 19 = (1, 1, 0, 0, 0) := by decide +kernel
theorem c_322_20 : pg_cd 322 20 = (91, 0, 0, 0, 0) := by decide +kernel
theorem c_322_21 : pg_cd 322 21 = (5, 1, 0, 0, 0) := by decide +kernel
theorem c_322_22 : pg_cd 322 22 = (45, 12, 65, 41, 0) := by decide +kernel
theorem c_322_25 : pg_cd 322 25 = (1, 2, 0, 0, 24) := by decide +kernel
theorem c_322_27 : pg_cd 322 27 = (3, 1, 0, 1, 0) := by decide +kernel
theorem c_322_28 : pg_cd 322 28 = (12, 1, 0, 0, 0) := by decide +kernel
theorem c_322_29 : pg_cd 322 29 = (3, 1, 0, 2, 0) := by decide +kernel
theorem c_322_30 : pg_cd 322 30 = (10, 1, 0, 0, 0) := by decide +kernel
theorem c_322_31 : pg_cd 322 31 = (34, 1, 0, 0, 0) := by decide +kernel
theorem c_322_32 : pg_cd 322 32 = (50, 1, 0, 0, 0) := by decide +kernel
theorem c_322_33 : pg_cd 322 33 = (3, 1, 0, 3, 0) := by decide +kernel
theorem c_322_34 : pg_cd 322 34 = (15, 1, 0, 0, 0) := by decide +kernel
theorem c_322_35 : pg_cd 322 35 = (54, 1, 0, 0, 0) := by decide +kernel
theorem c_322_36 : pg_cd 322 36 = (1, 1, 0, 0, 1) := by decide +kernel
theorem c_322_37 : pg_cd 322 37 = (91, 0, 0, 0, 0) := by decide +kernel
theorem mi_322 : pg_mc 322 = 12 ∧ pg_na 322 = 3 ∧ pg_mx 322 = 4 := by decide +kernel
set_option maxRecDepth 20000 in
theorem u_322_0 {d : Nat} {S : zS} {σ τ : zI} {Q : zQ} {x1 : Int} {x2 : Int} {x3 : Int} (t : (rg x1) ∧ (rg x2) ∧ if (0 ≤ x1 ∧ x1 ≤ 7) ∧ (0 ≤ x2 ∧ x2 ≤ 23) then (if (σ 83 42) < 0 then (Q (some (.int (wI 0))) S σ τ) else ((rg x3) ∧ if x3 = 0 then (Q (some (.int (wI 0))) S σ τ) else ((0 ≤ (24 * x1) + x2 ∧ (24 * x1) + x2 < 192) ∧ Q (some (.int (wI 1))) S (uc σ 99 (u1 (σ 99) ((24 * x1) + x2) (zxor (σ 99 ((24 * x1) + x2)) x3))) τ))) else (Q (some (.int (wI 0))) S σ τ)) : wi (d + 2) 322 0 [.ref 83, .int (wI x1), .int (wI x2), .int (wI x3)] [] S σ τ Q := by
  obtain ⟨r1, t⟩ := t
  obtain ⟨r2, t⟩ := t
  refine i3 c_322_0 rfl (i3 c_322_1 rfl ?_)
  refine i81 (As := [.int (wI x1), .int (wI x2)]) (rest := []) c_322_2 mi_320 rfl rfl (Nat.le_of_ble_eq_true rfl) (Nat.le_of_ble_eq_true rfl) (q_320 r1 r2 ?_)
  show wi (d + 2) 322 5 [.ref 83, .int (wI x1), .int (wI x2), .int (wI x3)] [.int (wI (if (0 ≤ x1 ∧ x1 ≤ 7) ∧ (0 ≤ x2 ∧ x2 ≤ 23) then 1 else 0))] S σ τ Q
  refine i36e c_322_5 rfl (fun hc => ?_) (fun hc => ?_)
  · have t := iT t hc
    have ha3 : (0 ≤ x1 ∧ x1 ≤ 7) ∧ (0 ≤ x2 ∧ x2 ≤ 23) := hc
    refine i5 c_322_8 rfl (wi_ok (fun K4 => ?_))
    refine i43 (v := σ 83 42) c_322_9 (lo (c := 83) (kd := 112) (n := 0) rfl (by decide)) rfl ?_
    refine i36 c_322_12 (rge_ K4 rfl) rfl (fun hc => ?_) (fun hc => ?_)
    · have t := iT t hc
      have ha5 : (σ 83 42) < 0 := hc
      refine i1 c_322_19 ?_
      exact i91 c_322_20 (by decide) t
    · have t := iF t hc
      have ha5 : ¬ ((σ 83 42) < 0) := hc
      obtain ⟨r6, t⟩ := t
      refine i3 c_322_15 rfl ?_
      refine i36 c_322_16 r6 rfl (fun hc => ?_) (fun hc => ?_)
      · have t := iF t hc
        have ha7 : ¬ (x3 = 0) := hc
        obtain ⟨r8, t⟩ := t
        refine i5 c_322_21 rfl (i45 c_322_22 (lo (c := 83) (kd := 112) (n := 0) rfl (by decide)) (lro (c := 83) (k := 41) (j := 99) (by decide)) (i1 c_322_25 (i3 c_322_27 rfl (i12 c_322_28 (i3 c_322_29 rfl (i10 c_322_30 (i34a c_322_31 (i50 (v := σ 99 ((24 * x1) + x2)) c_322_32 (lo (c := 99) (kd := 0) (n := 192) rfl (by decide)) (by decide) r8 rfl (i3 c_322_33 rfl (i15 c_322_34 (i54 (σ1 := uc σ 99 (u1 (σ 99) ((24 * x1) + x2) (zxor (σ 99 ((24 * x1) + x2)) x3))) c_322_35 (lo (c := 99) (kd := 0) (n := 192) rfl (by decide)) (by decide) r8 (by decide) rfl (rg_toInt _) (wr_ rfl rfl) (i1 c_322_36 ?_))))))))))))
        exact i91 c_322_37 (by decide) t
      · have t := iT t (Decidable.not_not.mp hc)
        have ha7 : x3 = 0 := Decidable.not_not.mp hc
        refine i1 c_322_19 ?_
        exact i91 c_322_20 (by decide) t
  · have t := iF t hc
    have ha3 : ¬ ((0 ≤ x1 ∧ x1 ≤ 7) ∧ (0 ≤ x2 ∧ x2 ≤ 23)) := hc
    refine i1 c_322_19 ?_
    exact i91 c_322_20 (by decide) t
theorem q_322 {d : Nat} {S : zS} {σ τ : zI} {Q : zQ} {mill : Int} {home : Int} {mask : Int} (p0 : rg mill) (p1 : rg home) (p2 : rg mask) (t : Q (some (.int (wI (if ((0 ≤ mill ∧ mill ≤ 7) ∧ (0 ≤ home ∧ home ≤ 23)) ∧ 0 ≤ σ 83 42 ∧ mask ≠ 0 then 1 else 0)))) S (uc σ 99 (if ((0 ≤ mill ∧ mill ≤ 7) ∧ (0 ≤ home ∧ home ≤ 23)) ∧ 0 ≤ σ 83 42 ∧ mask ≠ 0 then u1 (σ 99) (24 * mill + home) (zxor (σ 99 (24 * mill + home)) mask) else σ 99)) τ) : wc (d + 2) 322 [.ref 83, .int (wI mill), .int (wI home), .int (wI mask)] S σ τ Q := by
  refine wc_of mi_322 rfl (u_322_0 ?_)
  repeat' (first | (rw [if_pos (by omega), if_pos (by omega)] at t; exact t) | (rw [if_neg (by omega), if_neg (by omega), uc_id] at t; exact t) | refine ⟨_, rfl, by omega, ?_⟩ | refine ⟨by omega, ?_⟩ | refine ifI (fun _ => ?_) (fun _ => ?_))
-- method 318: MillTownModel.inBooks(III)I
theorem c_318_0 : pg_cd 318 0 = (1, 1, 0, 0, 0) := by decide +kernel
theorem c_318_1 : pg_cd 318 1 = (6, 2, 0, 4, 0) := by decide +kernel
theorem c_318_3 : pg_cd 318 3 = (1, 1, 0, 0, 0) := by decide +kernel
theorem c_318_4 : pg_cd 318 4 = (6, 2, 0, 5, 0) := by decide +kernel
theorem c_318_6 : pg_cd 318 6 = (3, 2, 0, 5, 0) := by decide +kernel
theorem c_318_8 : pg_cd 318 8 = (5, 1, 0, 0, 0) := by decide +kernel
theorem c_318_9 : pg_cd 318 9 = (45, 12, 8, 0, 0) := by decide +kernel
theorem c_318_12 : pg_cd 318 12 = (1, 1, 0, 0, 4) := by decide +kernel
theorem c_318_13 : pg_cd 318 13 = (50, 1, 0, 0, 0) := by decide +kernel
theorem c_318_14 : pg_cd 318 14 = (37, 3, 0, 3, 67) := by decide +kernel
theorem c_318_17 : pg_cd 318 17 = (3, 2, 0, 4, 0) := by decide +kernel
theorem c_318_19 : pg_cd 318 19 = (5, 1, 0, 0, 0) := by decide +kernel
theorem c_318_20 : pg_cd 318 20 = (3, 2, 0, 5, 0) := by decide +kernel
theorem c_318_22 : pg_cd 318 22 = (1, 1, 0, 0, 0) := by decide +kernel
theorem c_318_23 : pg_cd 318 23 = (80, 199, 102, 0, 0) := by decide +kernel
theorem c_318_26 : pg_cd 318 26 = (3, 1, 0, 2, 0) := by decide +kernel
theorem c_318_27 : pg_cd 318 27 = (37, 3, 0, 1, 44) := by decide +kernel
theorem c_318_30 : pg_cd 318 30 = (5, 1, 0, 0, 0) := by decide +kernel
theorem c_318_31 : pg_cd 318 31 = (45, 12, 8, 0, 0) := by decide +kernel
theorem c_318_34 : pg_cd 318 34 = (1, 3, 400, 0, 84700) := by decide +kernel
theorem c_318_37 : pg_cd 318 37 = (1, 2, 0, 0, 60) := by decide +kernel
theorem c_318_39 : pg_cd 318 39 = (3, 1, 0, 3, 0) := by decide +kernel
theorem c_318_40 : pg_cd 318 40 = (12, 1, 0, 0, 0) := by decide +kernel
theorem c_318_41 : pg_cd 318 41 = (10, 1, 0, 0, 0) := by decide +kernel
theorem c_318_42 : pg_cd 318 42 = (3, 2, 0, 5, 0) := by decide +kernel
theorem c_318_44 : pg_cd 318 44 = (10, 1, 0, 0, 0) := by decide +kernel
theorem c_318_45 : pg_cd 318 45 = (50, 1, 0, 0, 0) := by decide +kernel
theorem c_318_46 : pg_cd 318 46 = (3, 1, 0, 1, 0) := by decide +kernel
theorem c_318_47 : pg_cd 318 47 = (1, 1, 0, 0, 1) := by decide +kernel
theorem c_318_48 : pg_cd 318 48 = (10, 1, 0, 0, 0) := by decide +kernel
theorem c_318_49 : pg_cd 318 49 = (37, 3, 0, 1, 22) := by decide +kernel
theorem c_318_52 : pg_cd 318 52 = (5, 1, 0, 0, 0) := by decide +kernel
theorem c_318_53 : pg_cd 318 53 = (45, 12, 8, 0, 0) := by decide +kernel
theorem c_318_56 : pg_cd 318 56 = (1, 3, 399, 0, 60700) := by decide +kernel
theorem c_318_59 : pg_cd 318 59 = (1, 2, 0, 0, 60) := by decide +kernel
theorem c_318_61 : pg_cd 318 61 = (3, 1, 0, 3, 0) := by decide +kernel
theorem c_318_62 : pg_cd 318 62 = (12, 1, 0, 0, 0) := by decide +kernel
theorem c_318_63 : pg_cd 318 63 = (10, 1, 0, 0, 0) := by decide +kernel
theorem c_318_64 : pg_cd 318 64 = (3, 2, 0, 5, 0) := by decide +kernel
theorem c_318_66 : pg_cd 318 66 = (10, 1, 0, 0, 0) := by decide +kernel
theorem c_318_67 : pg_cd 318 67 = (50, 1, 0, 0, 0) := by decide +kernel
theorem c_318_68 : pg_cd 318 68 = (38, 3, 0, 0, 4) := by decide +kernel
theorem c_318_71 : pg_cd 318 71 = (1, 1, 0, 0, 0) := by decide +kernel
theorem c_318_72 : pg_cd 318 72 = (10, 1, 0, 0, 0) := by decide +kernel
theorem c_318_73 : pg_cd 318 73 = (6, 2, 0, 4, 0) := by decide +kernel
theorem c_318_75 : pg_cd 318 75 = (9, 3, 0, 5, 1) := by decide +kernel
theorem c_318_78 : pg_cd 318 78 = (38, 3, 0, 0, (-72)) := by decide +kernel
theorem c_318_81 : pg_cd 318 81 = (3, 2, 0, 4, 0) := by decide +kernel
theorem c_318_83 : pg_cd 318 83 = (90, 0, 0, 0, 0) := by decide +kernel
theorem mi_318 : pg_mc 318 = 12 ∧ pg_na 318 = 3 ∧ pg_mx 318 = 6 := by decide +kernel
set_option maxRecDepth 20000 in
theorem u_318_0 {d : Nat} {S : zS} {σ τ : zI} {Q : zQ} {x1 : Int} {x2 : Int} {x3 : Int} (t : wi (d + 1) 318 6 [.ref 83, .int (wI x1), .int (wI x2), .int (wI x3), .int (wI 0), .int (wI 0)] [] S σ τ Q) : wi (d + 1) 318 0 [.ref 83, .int (wI x1), .int (wI x2), .int (wI x3), .retAddr 0, .retAddr 0] [] S σ τ Q := by
  refine i1 c_318_0 (i6 (L' := [.ref 83, .int (wI x1), .int (wI x2), .int (wI x3), .int (wI 0), .retAddr 0]) c_318_1 rfl (i1 c_318_3 (i6 (L' := [.ref 83, .int (wI x1), .int (wI x2), .int (wI x3), .int (wI 0), .int (wI 0)]) c_318_4 rfl t)))
set_option maxRecDepth 20000 in
theorem u_318_6 {d : Nat} {S : zS} {σ τ : zI} {Q : zQ} {x1 : Int} {x2 : Int} {x3 : Int} {x4 : Int} {x5 : Int} (t : (rg x5) ∧ if (σ 84 4) ≤ x5 then (Q (some (.int (wI x4))) S σ τ) else ((0 ≤ 3652 + 12 * x5 + 0 ∧ 3652 + 12 * x5 + 0 < 112300) ∧ (rg x2) ∧ if (σ 84 (3652 + 12 * x5 + 0)) = x2 then ((0 ≤ (84700 + (60 * x3)) + x5 ∧ (84700 + (60 * x3)) + x5 < 112300) ∧ (rg (x1 + 1)) ∧ if (σ 84 ((84700 + (60 * x3)) + x5)) = (x1 + 1) then ((0 ≤ (60700 + (60 * x3)) + x5 ∧ (60700 + (60 * x3)) + x5 < 112300) ∧ wi (d + 1) 318 6 [.ref 83, .int (wI x1), .int (wI x2), .int (wI x3), .int (wI (x4 + (σ 84 ((60700 + (60 * x3)) + x5)))), .int (wI (x5 + 1))] [] S σ τ Q) else (wi (d + 1) 318 6 [.ref 83, .int (wI x1), .int (wI x2), .int (wI x3), .int (wI (x4 + 0)), .int (wI (x5 + 1))] [] S σ τ Q)) else (wi (d + 1) 318 6 [.ref 83, .int (wI x1), .int (wI x2), .int (wI x3), .int (wI (x4 + 0)), .int (wI (x5 + 1))] [] S σ τ Q))) : wi (d + 1) 318 6 [.ref 83, .int (wI x1), .int (wI x2), .int (wI x3), .int (wI x4), .int (wI x5)] [] S σ τ Q := by
  refine i3 c_318_6 rfl (i5 c_318_8 rfl (i45 c_318_9 (lo (c := 83) (kd := 112) (n := 0) rfl (by decide)) (lro (c := 83) (k := 0) (j := 84) (by decide)) (i1 c_318_12 (wi_ok (fun K1 => ?_)))))
  obtain ⟨r2, t⟩ := t
  refine i50 (v := σ 84 4) c_318_13 (lo (c := 84) (kd := 0) (n := 112300) rfl (by decide)) (by decide) (by decide) rfl ?_
  refine i37 c_318_14 r2 (rge_ K1 rfl) rfl (fun hc => ?_) (fun hc => ?_)
  · have t := iT t hc
    have ha3 : (σ 84 4) ≤ x5 := hc
    refine i3 c_318_81 rfl ?_
    exact i90 c_318_83 t
  · have t := iF t hc
    have ha3 : ¬ ((σ 84 4) ≤ x5) := hc
    obtain ⟨p4, t⟩ := t
    refine i3 c_318_17 rfl (i5 c_318_19 rfl (i3 c_318_20 rfl (i1 c_318_22 ?_)))
    refine i80 (As := [.int (wI x5), .int (wI 0)]) (rest := [.int (wI x4)]) c_318_23 mi_199 rfl rfl (Nat.le_of_ble_eq_true rfl) (Nat.le_of_ble_eq_true rfl) (lo (c := 83) (kd := 112) (n := 0) rfl (by decide)) (q_199 p4 ?_)
    show wi (d + 1) 318 26 [.ref 83, .int (wI x1), .int (wI x2), .int (wI x3), .int (wI x4), .int (wI x5)] [.int (wI (σ 84 (3652 + 12 * x5 + 0))), .int (wI x4)] S σ τ Q
    obtain ⟨r5, t⟩ := t
    refine i3 c_318_26 rfl ?_
    refine i37 c_318_27 (rge_ K1 rfl) r5 rfl (fun hc => ?_) (fun hc => ?_)
    · have t := iF t hc
      have ha6 : ¬ ((σ 84 (3652 + 12 * x5 + 0)) = x2) := hc
      refine i1 c_318_71 (i10 c_318_72 (i6 (L' := [.ref 83, .int (wI x1), .int (wI x2), .int (wI x3), .int (wI (x4 + 0)), .int (wI x5)]) c_318_73 rfl (i9 (L' := [.ref 83, .int (wI x1), .int (wI x2), .int (wI x3), .int (wI (x4 + 0)), .int (wI (x5 + 1))]) c_318_75 rfl rfl (i38 c_318_78 rfl t))))
    · have t := iT t (Decidable.not_not.mp hc)
      have ha6 : (σ 84 (3652 + 12 * x5 + 0)) = x2 := Decidable.not_not.mp hc
      obtain ⟨r7, t⟩ := t
      obtain ⟨r8, t⟩ := t
      refine i5 c_318_30 rfl (i45 c_318_31 (lo (c := 83) (kd := 112) (n := 0) rfl (by decide)) (lro (c := 83) (k := 0) (j := 84) (by decide)) (i1 c_318_34 (i1 c_318_37 (i3 c_318_39 rfl (i12 c_318_40 (i10 c_318_41 (i3 c_318_42 rfl (i10 c_318_44 (i50 (v := σ 84 ((84700 + (60 * x3)) + x5)) c_318_45 (lo (c := 84) (kd := 0) (n := 112300) rfl (by decide)) (by decide) r7 rfl (i3 c_318_46 rfl (i1 c_318_47 (i10 c_318_48 ?_))))))))))))
      refine i37 c_318_49 (rge_ K1 rfl) r8 rfl (fun hc => ?_) (fun hc => ?_)
      · have t := iF t hc
        have ha9 : ¬ ((σ 84 ((84700 + (60 * x3)) + x5)) = (x1 + 1)) := hc
        refine i1 c_318_71 (i10 c_318_72 (i6 (L' := [.ref 83, .int (wI x1), .int (wI x2), .int (wI x3), .int (wI (x4 + 0)), .int (wI x5)]) c_318_73 rfl (i9 (L' := [.ref 83, .int (wI x1), .int (wI x2), .int (wI x3), .int (wI (x4 + 0)), .int (wI (x5 + 1))]) c_318_75 rfl rfl (i38 c_318_78 rfl t))))
      · have t := iT t (Decidable.not_not.mp hc)
        have ha9 : (σ 84 ((84700 + (60 * x3)) + x5)) = (x1 + 1) := Decidable.not_not.mp hc
        obtain ⟨r10, t⟩ := t
        refine i5 c_318_52 rfl (i45 c_318_53 (lo (c := 83) (kd := 112) (n := 0) rfl (by decide)) (lro (c := 83) (k := 0) (j := 84) (by decide)) (i1 c_318_56 (i1 c_318_59 (i3 c_318_61 rfl (i12 c_318_62 (i10 c_318_63 (i3 c_318_64 rfl (i10 c_318_66 (i50 (v := σ 84 ((60700 + (60 * x3)) + x5)) c_318_67 (lo (c := 84) (kd := 0) (n := 112300) rfl (by decide)) (by decide) r10 rfl (i38 c_318_68 rfl (i10 c_318_72 (i6 (L' := [.ref 83, .int (wI x1), .int (wI x2), .int (wI x3), .int (wI (x4 + (σ 84 ((60700 + (60 * x3)) + x5)))), .int (wI x5)]) c_318_73 rfl (i9 (L' := [.ref 83, .int (wI x1), .int (wI x2), .int (wI x3), .int (wI (x4 + (σ 84 ((60700 + (60 * x3)) + x5)))), .int (wI (x5 + 1))]) c_318_75 rfl rfl (i38 c_318_78 rfl t))))))))))))))
theorem q_318 {d : Nat} {S : zS} {σ τ : zI} {Q : zQ} {m : Int} {h : Int} {w : Int} (p0 : 0 ≤ m ∧ m ≤ 7) (p1 : rg h) (p2 : 0 ≤ w ∧ w ≤ 399) (p3 : jv_C (σ 84)) (t : ∀ (v : Int), v = zw (r_inB (σ 84) m h w) → rg v → Q (some (.int (wI v))) S σ τ) : wc (d + 1) 318 [.ref 83, .int (wI m), .int (wI h), .int (wI w)] S σ τ Q := by
  have hC := p3
  unfold jv_C at hC
  have t := t (zw (r_inB (σ 84) m h w)) rfl (rg_zw _)
  rw [wI_zw] at t
  refine wc_of mi_318 rfl (u_318_0 ?_)
  have key : ∀ p, 0 ≤ p → p ≤ σ 84 4 → ∀ s, s = sI (fun p => if σ 84 (3652 + 12 * p + 0) = h then (if σ 84 (84700 + 60 * w + p) = m + 1 then σ 84 (60700 + 60 * w + p) else 0) else 0) p → wi (d + 1) 318 6 [.ref 83, .int (wI m), .int (wI h), .int (wI w), .int (wI s), .int (wI p)] [] S σ τ Q := by
    refine lp_up (fun p h0 h1 ih => ?_)
    intro s hs
    refine u_318_6 ⟨by omega, ?_⟩
    by_cases c : σ 84 4 ≤ p
    · have : p = σ 84 4 := by omega
      subst this
      rw [if_pos (by omega), hs]
      exact t
    · have ih := ih (by omega)
      rw [sI_s h0, ← hs] at ih
      rw [if_neg c]
      refine ⟨by omega, p1, ifI (fun e => ?_) (fun e => ?_)⟩
      · rw [if_pos e] at ih
        refine ⟨by omega, by omega, ifI (fun e2 => ?_) (fun e2 => ?_)⟩
        · rw [if_pos e2] at ih
          exact ⟨by omega, ih _ rfl⟩
        · rw [if_neg e2] at ih
          exact ih _ rfl
      · rw [if_neg e] at ih
        exact ih _ rfl
  exact key 0 (by omega) (by omega) 0 rfl
/-- the first places from a function -/
def fg (f g : Int → Int) (n : Int) : Int → Int := fun k => if 0 ≤ k ∧ k < n then f k else g k
theorem fg_0 (f g : Int → Int) : fg f g 0 = g := by
  funext k
  exact if_neg (by omega)
theorem fg_s {f g : Int → Int} {n : Int} (h : 0 ≤ n) : u1 (fg f g n) n (f n) = fg f g (n + 1) := by
  funext k
  unfold u1 fg
  by_cases e : k = n
  · subst e
    rw [if_pos rfl, if_pos (by omega)]
  · rw [if_neg e]
    by_cases c : 0 ≤ k ∧ k < n
    · rw [if_pos c, if_pos (by omega)]
    · rw [if_neg c, if_neg (by omega)]
theorem fg_i {f g : Int → Int} {n k : Int} (h : 0 ≤ k ∧ k < n) : fg f g n k = f k := if_pos h
/-- what the books say at a place of THE SHEET -/
def r_sh (a : Int → Int) (w k : Int) : Int := zw (r_inB a (k.tdiv 24) (k.tmod 24) w)
/-- how many places differ, and the last of them -/
def ckN (f g : Int → Int) : Nat → Int × Int
  | 0 => (0, -1)
  | n + 1 => if f n = g n then ckN f g n else ((ckN f g n).1 + 1, (n : Int))
theorem ckN_c {f g f' g' : Int → Int} : ∀ n : Nat, (∀ k : Int, 0 ≤ k → k < n → f k = f' k ∧ g k = g' k) → ckN f g n = ckN f' g' n
  | 0, _ => rfl
  | n + 1, h => by
    have q := h n (by omega) (by omega)
    show (if f n = g n then _ else _) = (if f' n = g' n then _ else _)
    rw [ckN_c n (fun k k0 k1 => h k k0 (by omega)), q.1, q.2]
theorem ckN_b (f g : Int → Int) : ∀ n : Nat, (0 ≤ (ckN f g n).1 ∧ (ckN f g n).1 ≤ n) ∧ -1 ≤ (ckN f g n).2 ∧ (ckN f g n).2 < n
  | 0 => by
    show (0 ≤ (0 : Int) ∧ (0 : Int) ≤ ((0 : Nat) : Int)) ∧ -1 ≤ (-1 : Int) ∧ (-1 : Int) < ((0 : Nat) : Int)
    omega
  | n + 1 => by
    have q := ckN_b f g n
    show (0 ≤ (if f n = g n then ckN f g n else ((ckN f g n).1 + 1, (n : Int))).1 ∧ (if f n = g n then ckN f g n else ((ckN f g n).1 + 1, (n : Int))).1 ≤ _) ∧ -1 ≤ (if f n = g n then ckN f g n else ((ckN f g n).1 + 1, (n : Int))).2 ∧ (if f n = g n then ckN f g n else ((ckN f g n).1 + 1, (n : Int))).2 < _
    split
    · omega
    · show (0 ≤ (ckN f g n).1 + 1 ∧ (ckN f g n).1 + 1 ≤ ((n + 1 : Nat) : Int)) ∧ -1 ≤ (n : Int) ∧ (n : Int) < ((n + 1 : Nat) : Int)
      omega
def ckI (f g : Int → Int) (n : Int) : Int × Int := ckN f g n.toNat
theorem ckI_s {f g : Int → Int} {n : Int} (h : 0 ≤ n) : ckI f g (n + 1) = if f n = g n then ckI f g n else ((ckI f g n).1 + 1, n) := by
  unfold ckI
  have e : (n + 1).toNat = n.toNat + 1 := by omega
  rw [e]
  show (if f (n.toNat : Int) = g (n.toNat : Int) then _ else (_, (n.toNat : Int))) = _
  rw [Int.toNat_of_nonneg h]
theorem ckI_b (f g : Int → Int) {n : Int} (h : 0 ≤ n) : (0 ≤ (ckI f g n).1 ∧ (ckI f g n).1 ≤ n) ∧ -1 ≤ (ckI f g n).2 ∧ (ckI f g n).2 < n := by
  have := ckN_b f g n.toNat
  unfold ckI
  omega
def v_ck (q : Int × Int) (what : Int) : Int := if what = 0 then (if q.1 ≤ 2 then q.1 else 2) else if q.1 = 1 then (if what = 1 then q.2.tdiv 24 else q.2.tmod 24) else -1
theorem td24 {k : Int} (h : 0 ≤ k ∧ k < 192) : 0 ≤ k.tdiv 24 ∧ k.tdiv 24 ≤ 7 ∧ 0 ≤ k.tmod 24 ∧ k.tmod 24 ≤ 23 ∧ k = k.tdiv 24 * 24 + k.tmod 24 := by
  rw [Int.tdiv_eq_ediv_of_nonneg h.1, Int.tmod_eq_emod_of_nonneg h.1]
  omega
-- method 319: MillTownModel.sheet(I)Z
theorem c_319_0 : pg_cd 319 0 = (3, 1, 0, 1, 0) := by decide +kernel
theorem c_319_1 : pg_cd 319 1 = (1, 1, 0, 0, 0) := by decide +kernel
theorem c_319_2 : pg_cd 319 2 = (5, 1, 0, 0, 0) := by decide +kernel
theorem c_319_3 : pg_cd 319 3 = (45, 12, 8, 0, 0) := by decide +kernel
theorem c_319_6 : pg_cd 319 6 = (1, 1, 0, 0, 0) := by decide +kernel
theorem c_319_7 : pg_cd 319 7 = (50, 1, 0, 0, 0) := by decide +kernel
theorem c_319_8 : pg_cd 319 8 = (1, 1, 0, 0, 1) := by decide +kernel
theorem c_319_9 : pg_cd 319 9 = (11, 1, 0, 0, 0) := by decide +kernel
theorem c_319_10 : pg_cd 319 10 = (81, 196, 76, 0, 0) := by decide +kernel
theorem c_319_13 : pg_cd 319 13 = (36, 3, 0, 1, 5) := by decide +kernel
theorem c_319_16 : pg_cd 319 16 = (1, 1, 0, 0, 0) := by decide +kernel
theorem c_319_17 : pg_cd 319 17 = (91, 0, 0, 0, 0) := by decide +kernel
theorem c_319_18 : pg_cd 319 18 = (5, 1, 0, 0, 0) := by decide +kernel
theorem c_319_19 : pg_cd 319 19 = (3, 1, 0, 1, 0) := by decide +kernel
theorem c_319_20 : pg_cd 319 20 = (46, 12, 68, 42, 0) := by decide +kernel
theorem c_319_23 : pg_cd 319 23 = (1, 1, 0, 0, 0) := by decide +kernel
theorem c_319_24 : pg_cd 319 24 = (6, 1, 0, 2, 0) := by decide +kernel
theorem c_319_25 : pg_cd 319 25 = (3, 1, 0, 2, 0) := by decide +kernel
theorem c_319_26 : pg_cd 319 26 = (1, 3, 0, 0, 192) := by decide +kernel
theorem c_319_29 : pg_cd 319 29 = (37, 3, 0, 3, 28) := by decide +kernel
theorem c_319_32 : pg_cd 319 32 = (5, 1, 0, 0, 0) := by decide +kernel
theorem c_319_33 : pg_cd 319 33 = (45, 12, 65, 41, 0) := by decide +kernel
theorem c_319_36 : pg_cd 319 36 = (3, 1, 0, 2, 0) := by decide +kernel
theorem c_319_37 : pg_cd 319 37 = (5, 1, 0, 0, 0) := by decide +kernel
theorem c_319_38 : pg_cd 319 38 = (3, 1, 0, 2, 0) := by decide +kernel
theorem c_319_39 : pg_cd 319 39 = (1, 2, 0, 0, 24) := by decide +kernel
theorem c_319_41 : pg_cd 319 41 = (16, 1, 0, 0, 0) := by decide +kernel
theorem c_319_42 : pg_cd 319 42 = (3, 1, 0, 2, 0) := by decide +kernel
theorem c_319_43 : pg_cd 319 43 = (1, 2, 0, 0, 24) := by decide +kernel
theorem c_319_45 : pg_cd 319 45 = (17, 1, 0, 0, 0) := by decide +kernel
theorem c_319_46 : pg_cd 319 46 = (3, 1, 0, 1, 0) := by decide +kernel
theorem c_319_47 : pg_cd 319 47 = (80, 318, 448, 0, 0) := by decide +kernel
theorem c_319_50 : pg_cd 319 50 = (54, 1, 0, 0, 0) := by decide +kernel
theorem c_319_51 : pg_cd 319 51 = (9, 3, 0, 2, 1) := by decide +kernel
theorem c_319_54 : pg_cd 319 54 = (38, 3, 0, 0, (-29)) := by decide +kernel
theorem c_319_57 : pg_cd 319 57 = (1, 1, 0, 0, 1) := by decide +kernel
theorem c_319_58 : pg_cd 319 58 = (91, 0, 0, 0, 0) := by decide +kernel
theorem mi_319 : pg_mc 319 = 12 ∧ pg_na 319 = 1 ∧ pg_mx 319 = 3 := by decide +kernel
set_option maxRecDepth 20000 in
theorem u_319_0 {d : Nat} {S : zS} {σ τ : zI} {Q : zQ} {x1 : Int} (t : (rg x1) ∧ (rg ((σ 84 0) - 1)) ∧ if 0 ≤ x1 ∧ x1 ≤ ((σ 84 0) - 1) then (wi (d + 2) 319 25 [.ref 83, .int (wI x1), .int (wI 0)] [] S (uc σ 83 (u1 (σ 83) 42 x1)) τ Q) else (Q (some (.int (wI 0))) S σ τ)) : wi (d + 2) 319 0 [.ref 83, .int (wI x1), .retAddr 0] [] S σ τ Q := by
  refine i3 c_319_0 rfl (i1 c_319_1 (i5 c_319_2 rfl (i45 c_319_3 (lo (c := 83) (kd := 112) (n := 0) rfl (by decide)) (lro (c := 83) (k := 0) (j := 84) (by decide)) (i1 c_319_6 (wi_ok (fun K1 => ?_))))))
  obtain ⟨r2, t⟩ := t
  obtain ⟨r3, t⟩ := t
  refine i50 (v := σ 84 0) c_319_7 (lo (c := 84) (kd := 0) (n := 112300) rfl (by decide)) (by decide) (by decide) rfl (i1 c_319_8 (i11 c_319_9 ?_))
  refine i81 (As := [.int (wI x1), .int (wI 0), .int (wI ((σ 84 0) - 1))]) (rest := []) c_319_10 mi_196 rfl rfl (Nat.le_of_ble_eq_true rfl) (Nat.le_of_ble_eq_true rfl) (q_196 r2 (by decide) r3 ?_)
  show wi (d + 2) 319 13 [.ref 83, .int (wI x1), .retAddr 0] [.int (wI (if 0 ≤ x1 ∧ x1 ≤ ((σ 84 0) - 1) then 1 else 0))] S σ τ Q
  refine i36f c_319_13 rfl (fun hc => ?_) (fun hc => ?_)
  · have t := iT t hc
    have ha4 : 0 ≤ x1 ∧ x1 ≤ ((σ 84 0) - 1) := hc
    refine i5 c_319_18 rfl (i3 c_319_19 rfl (i46 (σ1 := uc σ 83 (u1 (σ 83) 42 x1)) c_319_20 (lo (c := 83) (kd := 112) (n := 0) rfl (by decide)) (by decide) rfl r2 (wr_ rfl rfl) (i1 c_319_23 (i6 (L' := [.ref 83, .int (wI x1), .int (wI 0)]) c_319_24 rfl t))))
  · have t := iF t hc
    have ha4 : ¬ (0 ≤ x1 ∧ x1 ≤ ((σ 84 0) - 1)) := hc
    refine i1 c_319_16 ?_
    exact i91 c_319_17 (by decide) t
set_option maxRecDepth 20000 in
theorem u_319_25 {d : Nat} {S : zS} {σ τ : zI} {Q : zQ} {x1 : Int} {x2 : Int} (t : (rg x2) ∧ if (192 : Int) ≤ x2 then (Q (some (.int (wI 1))) S σ τ) else ((0 ≤ (Int.tdiv x2 24) ∧ (Int.tdiv x2 24) ≤ 7) ∧ (rg (Int.tmod x2 24)) ∧ (0 ≤ x1 ∧ x1 ≤ 399) ∧ (jv_C (σ 84)) ∧ ∀ (v7 : Int), v7 = zw (r_inB (σ 84) (Int.tdiv x2 24) (Int.tmod x2 24) x1) → rg v7 → (0 ≤ x2 ∧ x2 < 192) ∧ wi (d + 2) 319 25 [.ref 83, .int (wI x1), .int (wI (x2 + 1))] [] S (uc σ 99 (u1 (σ 99) x2 v7)) τ Q)) : wi (d + 2) 319 25 [.ref 83, .int (wI x1), .int (wI x2)] [] S σ τ Q := by
  obtain ⟨r1, t⟩ := t
  refine i3 c_319_25 rfl (i1 c_319_26 ?_)
  refine i37 c_319_29 r1 (by decide) rfl (fun hc => ?_) (fun hc => ?_)
  · have t := iT t hc
    have ha2 : (192 : Int) ≤ x2 := hc
    refine i1 c_319_57 ?_
    exact i91 c_319_58 (by decide) t
  · have t := iF t hc
    have ha2 : ¬ ((192 : Int) ≤ x2) := hc
    obtain ⟨p3, t⟩ := t
    obtain ⟨r4, t⟩ := t
    obtain ⟨p5, t⟩ := t
    obtain ⟨p6, t⟩ := t
    refine i5 c_319_32 rfl (i45 c_319_33 (lo (c := 83) (kd := 112) (n := 0) rfl (by decide)) (lro (c := 83) (k := 41) (j := 99) (by decide)) (i3 c_319_36 rfl (i5 c_319_37 rfl (i3 c_319_38 rfl (i1 c_319_39 (i16 c_319_41 r1 (by decide) (by decide) (i3 c_319_42 rfl (i1 c_319_43 (i17 c_319_45 r1 (by decide) (by decide) (i3 c_319_46 rfl ?_))))))))))
    refine i80 (As := [.int (wI (Int.tdiv x2 24)), .int (wI (Int.tmod x2 24)), .int (wI x1)]) (rest := [.int (wI x2), .ref 99]) c_319_47 mi_318 rfl rfl (Nat.le_of_ble_eq_true rfl) (Nat.le_of_ble_eq_true rfl) (lo (c := 83) (kd := 112) (n := 0) rfl (by decide)) (q_318 p3 r4 p5 p6 (fun v7 q8 q9 => ?_))
    have t := t v7 q8 q9
    show wi (d + 2) 319 50 [.ref 83, .int (wI x1), .int (wI x2)] [.int (wI v7), .int (wI x2), .ref 99] S σ τ Q
    obtain ⟨r10, t⟩ := t
    refine i54 (σ1 := uc σ 99 (u1 (σ 99) x2 v7)) c_319_50 (lo (c := 99) (kd := 0) (n := 192) rfl (by decide)) (by decide) r10 (by decide) rfl q9 (wr_ rfl rfl) (i9 (L' := [.ref 83, .int (wI x1), .int (wI (x2 + 1))]) c_319_51 rfl rfl (i38 c_319_54 rfl t))
theorem q_319 {d : Nat} {S : zS} {σ τ : zI} {Q : zQ} {week : Int} (p0 : rg week) (p1 : jv_C (σ 84)) (t : Q (some (.int (wI (if 0 ≤ week ∧ week < σ 84 0 then 1 else 0)))) S (uc (uc σ 83 (if 0 ≤ week ∧ week < σ 84 0 then u1 (σ 83) 42 week else σ 83)) 99 (if 0 ≤ week ∧ week < σ 84 0 then fg (r_sh (σ 84) week) (σ 99) 192 else σ 99)) τ) : wc (d + 2) 319 [.ref 83, .int (wI week)] S σ τ Q := by
  have hC := p1
  unfold jv_C at hC
  refine wc_of mi_319 rfl (u_319_0 ⟨p0, by omega, ?_⟩)
  refine ifI (fun e => ?_) (fun e => ?_)
  · rw [if_pos (by omega), if_pos (by omega), if_pos (by omega)] at t
    have key : ∀ k, 0 ≤ k → k ≤ 192 → wi (d + 2) 319 25 [.ref 83, .int (wI week), .int (wI k)] [] S (uc (uc σ 83 (u1 (σ 83) 42 week)) 99 (fg (r_sh (σ 84) week) (σ 99) k)) τ Q := by
      refine lp_up (fun k k0 k1 ih => ?_)
      refine u_319_25 ⟨by omega, ?_⟩
      refine ifI (fun e2 => ?_) (fun e2 => ?_)
      · have : k = 192 := by omega
        subst this
        exact t
      · have b := td24 (k := k) (by omega)
        have e84 : uc (uc σ 83 (u1 (σ 83) 42 week)) 99 (fg (r_sh (σ 84) week) (σ 99) k) 84 = σ 84 := by rw [uc_n (by decide), uc_n (by decide)]
        rw [e84, uc_s]
        refine ⟨by omega, by omega, by omega, p1, ?_⟩
        intro v hv _
        refine ⟨by omega, ?_⟩
        have ih := ih (by omega)
        rw [← fg_s k0] at ih
        rw [hv, uc_uc]
        exact ih
    have := key 0 (by omega) (by omega)
    rw [fg_0, ← uc_n (σ := σ) (c := 83) (f := u1 (σ 83) 42 week) (show 99 ≠ 83 by decide), uc_id] at this
    exact this
  · rw [if_neg (by omega), if_neg (by omega), if_neg (by omega), uc_id, uc_id] at t
    exact t
-- method 323: MillTownModel.check(I)I
theorem c_323_0 : pg_cd 323 0 = (3, 1, 0, 1, 0) := by decide +kernel
theorem c_323_1 : pg_cd 323 1 = (1, 1, 0, 0, 0) := by decide +kernel
theorem c_323_2 : pg_cd 323 2 = (1, 1, 0, 0, 2) := by decide +kernel
theorem c_323_3 : pg_cd 323 3 = (81, 196, 76, 0, 0) := by decide +kernel
theorem c_323_6 : pg_cd 323 6 = (36, 3, 0, 0, 23) := by decide +kernel
theorem c_323_9 : pg_cd 323 9 = (5, 1, 0, 0, 0) := by decide +kernel
theorem c_323_10 : pg_cd 323 10 = (43, 12, 68, 42, 0) := by decide +kernel
theorem c_323_13 : pg_cd 323 13 = (36, 3, 0, 2, 16) := by decide +kernel
theorem c_323_16 : pg_cd 323 16 = (5, 1, 0, 0, 0) := by decide +kernel
theorem c_323_17 : pg_cd 323 17 = (43, 12, 68, 42, 0) := by decide +kernel
theorem c_323_20 : pg_cd 323 20 = (5, 1, 0, 0, 0) := by decide +kernel
theorem c_323_21 : pg_cd 323 21 = (45, 12, 8, 0, 0) := by decide +kernel
theorem c_323_24 : pg_cd 323 24 = (1, 1, 0, 0, 0) := by decide +kernel
theorem c_323_25 : pg_cd 323 25 = (50, 1, 0, 0, 0) := by decide +kernel
theorem c_323_26 : pg_cd 323 26 = (37, 3, 0, 2, 5) := by decide +kernel
theorem c_323_29 : pg_cd 323 29 = (1, 1, 0, 0, (-1)) := by decide +kernel
theorem c_323_30 : pg_cd 323 30 = (90, 0, 0, 0, 0) := by decide +kernel
theorem c_323_31 : pg_cd 323 31 = (1, 1, 0, 0, 0) := by decide +kernel
theorem c_323_32 : pg_cd 323 32 = (6, 1, 0, 2, 0) := by decide +kernel
theorem c_323_33 : pg_cd 323 33 = (1, 1, 0, 0, (-1)) := by decide +kernel
theorem c_323_34 : pg_cd 323 34 = (6, 1, 0, 3, 0) := by decide +kernel
theorem c_323_35 : pg_cd 323 35 = (1, 1, 0, 0, 0) := by decide +kernel
theorem c_323_36 : pg_cd 323 36 = (6, 2, 0, 4, 0) := by decide +kernel
theorem c_323_38 : pg_cd 323 38 = (3, 2, 0, 4, 0) := by decide +kernel
theorem c_323_40 : pg_cd 323 40 = (1, 3, 0, 0, 192) := by decide +kernel
theorem c_323_43 : pg_cd 323 43 = (37, 3, 0, 3, 46) := by decide +kernel
theorem c_323_46 : pg_cd 323 46 = (5, 1, 0, 0, 0) := by decide +kernel
theorem c_323_47 : pg_cd 323 47 = (45, 12, 65, 41, 0) := by decide +kernel
theorem c_323_50 : pg_cd 323 50 = (3, 2, 0, 4, 0) := by decide +kernel
theorem c_323_52 : pg_cd 323 52 = (50, 1, 0, 0, 0) := by decide +kernel
theorem c_323_53 : pg_cd 323 53 = (5, 1, 0, 0, 0) := by decide +kernel
theorem c_323_54 : pg_cd 323 54 = (3, 2, 0, 4, 0) := by decide +kernel
theorem c_323_56 : pg_cd 323 56 = (1, 2, 0, 0, 24) := by decide +kernel
theorem c_323_58 : pg_cd 323 58 = (16, 1, 0, 0, 0) := by decide +kernel
theorem c_323_59 : pg_cd 323 59 = (3, 2, 0, 4, 0) := by decide +kernel
theorem c_323_61 : pg_cd 323 61 = (1, 2, 0, 0, 24) := by decide +kernel
theorem c_323_63 : pg_cd 323 63 = (17, 1, 0, 0, 0) := by decide +kernel
theorem c_323_64 : pg_cd 323 64 = (5, 1, 0, 0, 0) := by decide +kernel
theorem c_323_65 : pg_cd 323 65 = (43, 12, 68, 42, 0) := by decide +kernel
theorem c_323_68 : pg_cd 323 68 = (80, 318, 448, 0, 0) := by decide +kernel
theorem c_323_71 : pg_cd 323 71 = (37, 3, 0, 1, 6) := by decide +kernel
theorem c_323_74 : pg_cd 323 74 = (38, 3, 0, 0, 9) := by decide +kernel
theorem c_323_77 : pg_cd 323 77 = (9, 3, 0, 2, 1) := by decide +kernel
theorem c_323_80 : pg_cd 323 80 = (3, 2, 0, 4, 0) := by decide +kernel
theorem c_323_82 : pg_cd 323 82 = (6, 1, 0, 3, 0) := by decide +kernel
theorem c_323_83 : pg_cd 323 83 = (9, 3, 0, 4, 1) := by decide +kernel
theorem c_323_86 : pg_cd 323 86 = (38, 3, 0, 0, (-48)) := by decide +kernel
theorem c_323_89 : pg_cd 323 89 = (3, 1, 0, 1, 0) := by decide +kernel
theorem c_323_90 : pg_cd 323 90 = (36, 3, 0, 1, 14) := by decide +kernel
theorem c_323_93 : pg_cd 323 93 = (3, 1, 0, 2, 0) := by decide +kernel
theorem c_323_94 : pg_cd 323 94 = (1, 1, 0, 0, 2) := by decide +kernel
theorem c_323_95 : pg_cd 323 95 = (37, 3, 0, 5, 7) := by decide +kernel
theorem c_323_98 : pg_cd 323 98 = (1, 1, 0, 0, 2) := by decide +kernel
theorem c_323_99 : pg_cd 323 99 = (38, 3, 0, 0, 4) := by decide +kernel
theorem c_323_102 : pg_cd 323 102 = (3, 1, 0, 2, 0) := by decide +kernel
theorem c_323_103 : pg_cd 323 103 = (90, 0, 0, 0, 0) := by decide +kernel
theorem c_323_104 : pg_cd 323 104 = (3, 1, 0, 2, 0) := by decide +kernel
theorem c_323_105 : pg_cd 323 105 = (1, 1, 0, 0, 1) := by decide +kernel
theorem c_323_106 : pg_cd 323 106 = (37, 3, 0, 0, 7) := by decide +kernel
theorem c_323_109 : pg_cd 323 109 = (1, 1, 0, 0, (-1)) := by decide +kernel
theorem c_323_110 : pg_cd 323 110 = (38, 3, 0, 0, 19) := by decide +kernel
theorem c_323_113 : pg_cd 323 113 = (3, 1, 0, 1, 0) := by decide +kernel
theorem c_323_114 : pg_cd 323 114 = (1, 1, 0, 0, 1) := by decide +kernel
theorem c_323_115 : pg_cd 323 115 = (37, 3, 0, 1, 10) := by decide +kernel
theorem c_323_118 : pg_cd 323 118 = (3, 1, 0, 3, 0) := by decide +kernel
theorem c_323_119 : pg_cd 323 119 = (1, 2, 0, 0, 24) := by decide +kernel
theorem c_323_121 : pg_cd 323 121 = (16, 1, 0, 0, 0) := by decide +kernel
theorem c_323_122 : pg_cd 323 122 = (38, 3, 0, 0, 7) := by decide +kernel
theorem c_323_125 : pg_cd 323 125 = (3, 1, 0, 3, 0) := by decide +kernel
theorem c_323_126 : pg_cd 323 126 = (1, 2, 0, 0, 24) := by decide +kernel
theorem c_323_128 : pg_cd 323 128 = (17, 1, 0, 0, 0) := by decide +kernel
theorem c_323_129 : pg_cd 323 129 = (90, 0, 0, 0, 0) := by decide +kernel
theorem mi_323 : pg_mc 323 = 12 ∧ pg_na 323 = 1 ∧ pg_mx 323 = 5 := by decide +kernel
set_option maxRecDepth 20000 in
theorem u_323_0 {d : Nat} {S : zS} {σ τ : zI} {Q : zQ} {x1 : Int} (t : (rg x1) ∧ if 0 ≤ x1 ∧ x1 ≤ 2 then (if (σ 83 42) < 0 then (Q (some (.int (wI (-1)))) S σ τ) else (if (σ 83 42) < (σ 84 0) then (wi (d + 2) 323 38 [.ref 83, .int (wI x1), .int (wI 0), .int (wI (-1)), .int (wI 0)] [] S σ τ Q) else (Q (some (.int (wI (-1)))) S σ τ))) else (Q (some (.int (wI (-1)))) S σ τ)) : wi (d + 2) 323 0 [.ref 83, .int (wI x1), .retAddr 0, .retAddr 0, .retAddr 0] [] S σ τ Q := by
  obtain ⟨r1, t⟩ := t
  refine i3 c_323_0 rfl (i1 c_323_1 (i1 c_323_2 ?_))
  refine i81 (As := [.int (wI x1), .int (wI 0), .int (wI 2)]) (rest := []) c_323_3 mi_196 rfl rfl (Nat.le_of_ble_eq_true rfl) (Nat.le_of_ble_eq_true rfl) (q_196 r1 (by decide) (by decide) ?_)
  show wi (d + 2) 323 6 [.ref 83, .int (wI x1), .retAddr 0, .retAddr 0, .retAddr 0] [.int (wI (if 0 ≤ x1 ∧ x1 ≤ 2 then 1 else 0))] S σ τ Q
  refine i36e c_323_6 rfl (fun hc => ?_) (fun hc => ?_)
  · have t := iT t hc
    have ha2 : 0 ≤ x1 ∧ x1 ≤ 2 := hc
    refine i5 c_323_9 rfl (wi_ok (fun K3 => ?_))
    refine i43 (v := σ 83 42) c_323_10 (lo (c := 83) (kd := 112) (n := 0) rfl (by decide)) rfl ?_
    refine i36 c_323_13 (rge_ K3 rfl) rfl (fun hc => ?_) (fun hc => ?_)
    · have t := iT t hc
      have ha4 : (σ 83 42) < 0 := hc
      refine i1 c_323_29 ?_
      exact i90 c_323_30 t
    · have t := iF t hc
      have ha4 : ¬ ((σ 83 42) < 0) := hc
      refine i5 c_323_16 rfl (i43 (v := σ 83 42) c_323_17 (lo (c := 83) (kd := 112) (n := 0) rfl (by decide)) rfl (i5 c_323_20 rfl (i45 c_323_21 (lo (c := 83) (kd := 112) (n := 0) rfl (by decide)) (lro (c := 83) (k := 0) (j := 84) (by decide)) (i1 c_323_24 (i50 (v := σ 84 0) c_323_25 (lo (c := 84) (kd := 0) (n := 112300) rfl (by decide)) (by decide) (by decide) rfl ?_)))))
      refine i37 c_323_26 (rge_ K3 rfl) (rge_ K3 rfl) rfl (fun hc => ?_) (fun hc => ?_)
      · have t := iT t hc
        have ha5 : (σ 83 42) < (σ 84 0) := hc
        refine i1 c_323_31 (i6 (L' := [.ref 83, .int (wI x1), .int (wI 0), .retAddr 0, .retAddr 0]) c_323_32 rfl (i1 c_323_33 (i6 (L' := [.ref 83, .int (wI x1), .int (wI 0), .int (wI (-1)), .retAddr 0]) c_323_34 rfl (i1 c_323_35 (i6 (L' := [.ref 83, .int (wI x1), .int (wI 0), .int (wI (-1)), .int (wI 0)]) c_323_36 rfl t)))))
      · have t := iF t hc
        have ha5 : ¬ ((σ 83 42) < (σ 84 0)) := hc
        refine i1 c_323_29 ?_
        exact i90 c_323_30 t
  · have t := iF t hc
    have ha2 : ¬ (0 ≤ x1 ∧ x1 ≤ 2) := hc
    refine i1 c_323_29 ?_
    exact i90 c_323_30 t
set_option maxRecDepth 20000 in
theorem u_323_38 {d : Nat} {S : zS} {σ τ : zI} {Q : zQ} {x1 : Int} {x2 : Int} {x3 : Int} {x4 : Int} (t : (rg x4) ∧ if (192 : Int) ≤ x4 then ((rg x1) ∧ if x1 = 0 then ((rg x2) ∧ if x2 ≤ 2 then (Q (some (.int (wI x2))) S σ τ) else (Q (some (.int (wI 2))) S σ τ)) else ((rg x2) ∧ if x2 = 1 then (if x1 = 1 then ((rg x3) ∧ Q (some (.int (wI (Int.tdiv x3 24)))) S σ τ) else ((rg x3) ∧ Q (some (.int (wI (Int.tmod x3 24)))) S σ τ)) else (Q (some (.int (wI (-1)))) S σ τ))) else ((0 ≤ x4 ∧ x4 < 192) ∧ (0 ≤ (Int.tdiv x4 24) ∧ (Int.tdiv x4 24) ≤ 7) ∧ (rg (Int.tmod x4 24)) ∧ (0 ≤ (σ 83 42) ∧ (σ 83 42) ≤ 399) ∧ (jv_C (σ 84)) ∧ ∀ (v18 : Int), v18 = zw (r_inB (σ 84) (Int.tdiv x4 24) (Int.tmod x4 24) (σ 83 42)) → rg v18 → if (σ 99 x4) = v18 then (wi (d + 2) 323 38 [.ref 83, .int (wI x1), .int (wI x2), .int (wI x3), .int (wI (x4 + 1))] [] S σ τ Q) else (wi (d + 2) 323 38 [.ref 83, .int (wI x1), .int (wI (x2 + 1)), .int (wI x4), .int (wI (x4 + 1))] [] S σ τ Q))) : wi (d + 2) 323 38 [.ref 83, .int (wI x1), .int (wI x2), .int (wI x3), .int (wI x4)] [] S σ τ Q := by
  obtain ⟨r1, t⟩ := t
  refine i3 c_323_38 rfl (i1 c_323_40 ?_)
  refine i37 c_323_43 r1 (by decide) rfl (fun hc => ?_) (fun hc => ?_)
  · have t := iT t hc
    have ha2 : (192 : Int) ≤ x4 := hc
    obtain ⟨r3, t⟩ := t
    refine i3 c_323_89 rfl ?_
    refine i36 c_323_90 r3 rfl (fun hc => ?_) (fun hc => ?_)
    · have t := iF t hc
      have ha4 : ¬ (x1 = 0) := hc
      obtain ⟨r5, t⟩ := t
      refine i3 c_323_104 rfl (i1 c_323_105 ?_)
      refine i37 c_323_106 r5 (by decide) rfl (fun hc => ?_) (fun hc => ?_)
      · have t := iT t hc
        have ha6 : x2 = 1 := hc
        refine i3 c_323_113 rfl (i1 c_323_114 ?_)
        refine i37 c_323_115 r3 (by decide) rfl (fun hc => ?_) (fun hc => ?_)
        · have t := iF t hc
          have ha7 : ¬ (x1 = 1) := hc
          obtain ⟨r8, t⟩ := t
          refine i3 c_323_125 rfl (i1 c_323_126 (i17 c_323_128 r8 (by decide) (by decide) ?_))
          exact i90 c_323_129 t
        · have t := iT t (Decidable.not_not.mp hc)
          have ha7 : x1 = 1 := Decidable.not_not.mp hc
          obtain ⟨r9, t⟩ := t
          refine i3 c_323_118 rfl (i1 c_323_119 (i16 c_323_121 r9 (by decide) (by decide) (i38 c_323_122 rfl ?_)))
          exact i90 c_323_129 t
      · have t := iF t hc
        have ha6 : ¬ (x2 = 1) := hc
        refine i1 c_323_109 (i38 c_323_110 rfl ?_)
        exact i90 c_323_129 t
    · have t := iT t (Decidable.not_not.mp hc)
      have ha4 : x1 = 0 := Decidable.not_not.mp hc
      obtain ⟨r10, t⟩ := t
      refine i3 c_323_93 rfl (i1 c_323_94 ?_)
      refine i37 c_323_95 r10 (by decide) rfl (fun hc => ?_) (fun hc => ?_)
      · have t := iT t hc
        have ha11 : x2 ≤ 2 := hc
        refine i3 c_323_102 rfl ?_
        exact i90 c_323_103 t
      · have t := iF t hc
        have ha11 : ¬ (x2 ≤ 2) := hc
        refine i1 c_323_98 (i38 c_323_99 rfl ?_)
        exact i90 c_323_103 t
  · have t := iF t hc
    have ha2 : ¬ ((192 : Int) ≤ x4) := hc
    obtain ⟨r12, t⟩ := t
    refine i5 c_323_46 rfl (i45 c_323_47 (lo (c := 83) (kd := 112) (n := 0) rfl (by decide)) (lro (c := 83) (k := 41) (j := 99) (by decide)) (i3 c_323_50 rfl (wi_ok (fun K13 => ?_))))
    obtain ⟨p14, t⟩ := t
    obtain ⟨r15, t⟩ := t
    obtain ⟨p16, t⟩ := t
    obtain ⟨p17, t⟩ := t
    refine i50 (v := σ 99 x4) c_323_52 (lo (c := 99) (kd := 0) (n := 192) rfl (by decide)) (by decide) r12 rfl (i5 c_323_53 rfl (i3 c_323_54 rfl (i1 c_323_56 (i16 c_323_58 r1 (by decide) (by decide) (i3 c_323_59 rfl (i1 c_323_61 (i17 c_323_63 r1 (by decide) (by decide) (i5 c_323_64 rfl (i43 (v := σ 83 42) c_323_65 (lo (c := 83) (kd := 112) (n := 0) rfl (by decide)) rfl ?_)))))))))
    refine i80 (As := [.int (wI (Int.tdiv x4 24)), .int (wI (Int.tmod x4 24)), .int (wI (σ 83 42))]) (rest := [.int (wI (σ 99 x4))]) c_323_68 mi_318 rfl rfl (Nat.le_of_ble_eq_true rfl) (Nat.le_of_ble_eq_true rfl) (lo (c := 83) (kd := 112) (n := 0) rfl (by decide)) (q_318 p14 r15 p16 p17 (fun v18 q19 q20 => ?_))
    have t := t v18 q19 q20
    show wi (d + 2) 323 71 [.ref 83, .int (wI x1), .int (wI x2), .int (wI x3), .int (wI x4)] [.int (wI v18), .int (wI (σ 99 x4))] S σ τ Q
    refine i37 c_323_71 (rge_ K13 rfl) q20 rfl (fun hc => ?_) (fun hc => ?_)
    · have t := iF t hc
      have ha21 : ¬ ((σ 99 x4) = v18) := hc
      refine i9 (L' := [.ref 83, .int (wI x1), .int (wI (x2 + 1)), .int (wI x3), .int (wI x4)]) c_323_77 rfl rfl (i3 c_323_80 rfl (i6 (L' := [.ref 83, .int (wI x1), .int (wI (x2 + 1)), .int (wI x4), .int (wI x4)]) c_323_82 rfl (i9 (L' := [.ref 83, .int (wI x1), .int (wI (x2 + 1)), .int (wI x4), .int (wI (x4 + 1))]) c_323_83 rfl rfl (i38 c_323_86 rfl t))))
    · have t := iT t (Decidable.not_not.mp hc)
      have ha21 : (σ 99 x4) = v18 := Decidable.not_not.mp hc
      refine i38 c_323_74 rfl (i9 (L' := [.ref 83, .int (wI x1), .int (wI x2), .int (wI x3), .int (wI (x4 + 1))]) c_323_83 rfl rfl (i38 c_323_86 rfl t))
theorem q_323 {d : Nat} {S : zS} {σ τ : zI} {Q : zQ} {what : Int} (p0 : rg what) (p1 : jv_C (σ 84)) (t : Q (some (.int (wI (if (0 ≤ what ∧ what ≤ 2) ∧ 0 ≤ σ 83 42 ∧ σ 83 42 < σ 84 0 then v_ck (ckI (σ 99) (r_sh (σ 84) (σ 83 42)) 192) what else -1)))) S σ τ) : wc (d + 2) 323 [.ref 83, .int (wI what)] S σ τ Q := by
  have hC := p1
  unfold jv_C at hC
  refine wc_of mi_323 rfl (u_323_0 ⟨p0, ?_⟩)
  refine ifI (fun e1 => ?_) (fun e1 => by rw [if_neg (by omega)] at t; exact t)
  refine ifI (fun e2 => by rw [if_neg (by omega)] at t; exact t) (fun e2 => ?_)
  refine ifI (fun e3 => ?_) (fun e3 => by rw [if_neg (by omega)] at t; exact t)
  rw [if_pos (by omega)] at t
  have key : ∀ k, 0 ≤ k → k ≤ 192 → ∀ n at_, ckI (σ 99) (r_sh (σ 84) (σ 83 42)) k = (n, at_) → wi (d + 2) 323 38 [.ref 83, .int (wI what), .int (wI n), .int (wI at_), .int (wI k)] [] S σ τ Q := by
    refine lp_up (fun k k0 k1 ih => ?_)
    intro n at_ hn
    have cb := ckI_b (σ 99) (r_sh (σ 84) (σ 83 42)) k0
    rw [hn] at cb
    dsimp only at cb
    refine u_323_38 ⟨by omega, ?_⟩
    refine ifI (fun e4 => ?_) (fun e4 => ?_)
    · have : k = 192 := by omega
      subst this
      rw [hn] at t
      unfold v_ck at t
      dsimp only at t
      refine ⟨p0, ifI (fun e5 => ?_) (fun e5 => ?_)⟩
      · rw [if_pos e5] at t
        refine ⟨by omega, ifI (fun e6 => ?_) (fun e6 => ?_)⟩
        · rw [if_pos e6] at t; exact t
        · rw [if_neg e6] at t; exact t
      · rw [if_neg e5] at t
        refine ⟨by omega, ifI (fun e6 => ?_) (fun e6 => ?_)⟩
        · rw [if_pos e6] at t
          refine ifI (fun e7 => ?_) (fun e7 => ?_)
          · rw [if_pos e7] at t; exact ⟨by omega, t⟩
          · rw [if_neg e7] at t; exact ⟨by omega, t⟩
        · rw [if_neg e6] at t; exact t
    · have b := td24 (k := k) (by omega)
      have ih := ih (by omega)
      rw [ckI_s k0, hn] at ih
      refine ⟨by omega, by omega, by omega, by omega, p1, ?_⟩
      intro v hv _
      have hv : v = r_sh (σ 84) (σ 83 42) k := hv
      subst hv
      refine ifI (fun e5 => ?_) (fun e5 => ?_)
      · rw [if_pos e5] at ih; exact ih _ _ rfl
      · rw [if_neg e5] at ih; exact ih _ _ rfl
  exact key 0 (by omega) (by omega) 0 (-1) rfl
-- method 302: MillTownModel.sumOfWeek(II)I
theorem c_302_0 : pg_cd 302 0 = (1, 1, 0, 0, 0) := by decide +kernel
theorem c_302_1 : pg_cd 302 1 = (6, 1, 0, 3, 0) := by decide +kernel
theorem c_302_2 : pg_cd 302 2 = (1, 1, 0, 0, 0) := by decide +kernel
theorem c_302_3 : pg_cd 302 3 = (6, 2, 0, 4, 0) := by decide +kernel
theorem c_302_5 : pg_cd 302 5 = (3, 2, 0, 4, 0) := by decide +kernel
theorem c_302_7 : pg_cd 302 7 = (5, 1, 0, 0, 0) := by decide +kernel
theorem c_302_8 : pg_cd 302 8 = (45, 12, 8, 0, 0) := by decide +kernel
theorem c_302_11 : pg_cd 302 11 = (1, 1, 0, 0, 3) := by decide +kernel
theorem c_302_12 : pg_cd 302 12 = (50, 1, 0, 0, 0) := by decide +kernel
theorem c_302_13 : pg_cd 302 13 = (37, 3, 0, 3, 26) := by decide +kernel
theorem c_302_16 : pg_cd 302 16 = (3, 1, 0, 3, 0) := by decide +kernel
theorem c_302_17 : pg_cd 302 17 = (5, 1, 0, 0, 0) := by decide +kernel
theorem c_302_18 : pg_cd 302 18 = (45, 12, 8, 0, 0) := by decide +kernel
theorem c_302_21 : pg_cd 302 21 = (3, 1, 0, 1, 0) := by decide +kernel
theorem c_302_22 : pg_cd 302 22 = (1, 2, 0, 0, 24) := by decide +kernel
theorem c_302_24 : pg_cd 302 24 = (3, 1, 0, 2, 0) := by decide +kernel
theorem c_302_25 : pg_cd 302 25 = (12, 1, 0, 0, 0) := by decide +kernel
theorem c_302_26 : pg_cd 302 26 = (10, 1, 0, 0, 0) := by decide +kernel
theorem c_302_27 : pg_cd 302 27 = (3, 2, 0, 4, 0) := by decide +kernel
theorem c_302_29 : pg_cd 302 29 = (10, 1, 0, 0, 0) := by decide +kernel
theorem c_302_30 : pg_cd 302 30 = (50, 1, 0, 0, 0) := by decide +kernel
theorem c_302_31 : pg_cd 302 31 = (10, 1, 0, 0, 0) := by decide +kernel
theorem c_302_32 : pg_cd 302 32 = (6, 1, 0, 3, 0) := by decide +kernel
theorem c_302_33 : pg_cd 302 33 = (9, 3, 0, 4, 1) := by decide +kernel
theorem c_302_36 : pg_cd 302 36 = (38, 3, 0, 0, (-31)) := by decide +kernel
theorem c_302_39 : pg_cd 302 39 = (3, 1, 0, 3, 0) := by decide +kernel
theorem c_302_40 : pg_cd 302 40 = (90, 0, 0, 0, 0) := by decide +kernel
theorem mi_302 : pg_mc 302 = 12 ∧ pg_na 302 = 2 ∧ pg_mx 302 = 5 := by decide +kernel
set_option maxRecDepth 20000 in
theorem u_302_0 {d : Nat} {S : zS} {σ τ : zI} {Q : zQ} {x1 : Int} {x2 : Int} (t : wi (d + 0) 302 5 [.ref 83, .int (wI x1), .int (wI x2), .int (wI 0), .int (wI 0)] [] S σ τ Q) : wi (d + 0) 302 0 [.ref 83, .int (wI x1), .int (wI x2), .retAddr 0, .retAddr 0] [] S σ τ Q := by
  refine i1 c_302_0 (i6 (L' := [.ref 83, .int (wI x1), .int (wI x2), .int (wI 0), .retAddr 0]) c_302_1 rfl (i1 c_302_2 (i6 (L' := [.ref 83, .int (wI x1), .int (wI x2), .int (wI 0), .int (wI 0)]) c_302_3 rfl t)))
set_option maxRecDepth 20000 in
theorem u_302_5 {d : Nat} {S : zS} {σ τ : zI} {Q : zQ} {x1 : Int} {x2 : Int} {x3 : Int} {x4 : Int} (t : (rg x4) ∧ if (σ 84 3) ≤ x4 then (Q (some (.int (wI x3))) S σ τ) else ((0 ≤ (x1 + (24 * x2)) + x4 ∧ (x1 + (24 * x2)) + x4 < 112300) ∧ wi (d + 0) 302 5 [.ref 83, .int (wI x1), .int (wI x2), .int (wI (x3 + (σ 84 ((x1 + (24 * x2)) + x4)))), .int (wI (x4 + 1))] [] S σ τ Q)) : wi (d + 0) 302 5 [.ref 83, .int (wI x1), .int (wI x2), .int (wI x3), .int (wI x4)] [] S σ τ Q := by
  refine i3 c_302_5 rfl (i5 c_302_7 rfl (i45 c_302_8 (lo (c := 83) (kd := 112) (n := 0) rfl (by decide)) (lro (c := 83) (k := 0) (j := 84) (by decide)) (i1 c_302_11 (wi_ok (fun K1 => ?_)))))
  obtain ⟨r2, t⟩ := t
  refine i50 (v := σ 84 3) c_302_12 (lo (c := 84) (kd := 0) (n := 112300) rfl (by decide)) (by decide) (by decide) rfl ?_
  refine i37 c_302_13 r2 (rge_ K1 rfl) rfl (fun hc => ?_) (fun hc => ?_)
  · have t := iT t hc
    have ha3 : (σ 84 3) ≤ x4 := hc
    refine i3 c_302_39 rfl ?_
    exact i90 c_302_40 t
  · have t := iF t hc
    have ha3 : ¬ ((σ 84 3) ≤ x4) := hc
    obtain ⟨r4, t⟩ := t
    refine i3 c_302_16 rfl (i5 c_302_17 rfl (i45 c_302_18 (lo (c := 83) (kd := 112) (n := 0) rfl (by decide)) (lro (c := 83) (k := 0) (j := 84) (by decide)) (i3 c_302_21 rfl (i1 c_302_22 (i3 c_302_24 rfl (i12 c_302_25 (i10 c_302_26 (i3 c_302_27 rfl (i10 c_302_29 (i50 (v := σ 84 ((x1 + (24 * x2)) + x4)) c_302_30 (lo (c := 84) (kd := 0) (n := 112300) rfl (by decide)) (by decide) r4 rfl (i10 c_302_31 (i6 (L' := [.ref 83, .int (wI x1), .int (wI x2), .int (wI (x3 + (σ 84 ((x1 + (24 * x2)) + x4)))), .int (wI x4)]) c_302_32 rfl (i9 (L' := [.ref 83, .int (wI x1), .int (wI x2), .int (wI (x3 + (σ 84 ((x1 + (24 * x2)) + x4)))), .int (wI (x4 + 1))]) c_302_33 rfl rfl (i38 c_302_36 rfl t))))))))))))))
theorem q_302 {d : Nat} {S : zS} {σ τ : zI} {Q : zQ} {from_ : Int} {w : Int} (p0 : 0 ≤ from_ ∧ from_ ≤ 60000) (p1 : 0 ≤ w ∧ w ≤ 399) (p2 : jv_C (σ 84)) (t : Q (some (.int (wI (sI (fun h => σ 84 (from_ + 24 * w + h)) (σ 84 3))))) S σ τ) : wc (d + 0) 302 [.ref 83, .int (wI from_), .int (wI w)] S σ τ Q := by
  have hC := p2
  unfold jv_C at hC
  refine wc_of mi_302 rfl (u_302_0 ?_)
  have key : ∀ h, 0 ≤ h → h ≤ σ 84 3 → ∀ s, s = sI (fun h => σ 84 (from_ + 24 * w + h)) h → wi (d + 0) 302 5 [.ref 83, .int (wI from_), .int (wI w), .int (wI s), .int (wI h)] [] S σ τ Q := by
    refine lp_up (fun h h0 h1 ih => ?_)
    intro s hs
    refine u_302_5 ⟨by omega, ifI (fun e => ?_) (fun e => ?_)⟩
    · have : h = σ 84 3 := by omega
      subst this
      rw [hs]; exact t
    · have ih := ih (by omega)
      rw [sI_s h0, ← hs] at ih
      exact ⟨by omega, ih _ rfl⟩
  exact key 0 (by omega) (by omega) 0 rfl
-- method 303: MillTownModel.behind(I)I
theorem c_303_0 : pg_cd 303 0 = (1, 1, 0, 0, 0) := by decide +kernel
theorem c_303_1 : pg_cd 303 1 = (6, 1, 0, 2, 0) := by decide +kernel
theorem c_303_2 : pg_cd 303 2 = (1, 1, 0, 0, 0) := by decide +kernel
theorem c_303_3 : pg_cd 303 3 = (6, 1, 0, 3, 0) := by decide +kernel
theorem c_303_4 : pg_cd 303 4 = (3, 1, 0, 3, 0) := by decide +kernel
theorem c_303_5 : pg_cd 303 5 = (5, 1, 0, 0, 0) := by decide +kernel
theorem c_303_6 : pg_cd 303 6 = (45, 12, 8, 0, 0) := by decide +kernel
theorem c_303_9 : pg_cd 303 9 = (1, 1, 0, 0, 1) := by decide +kernel
theorem c_303_10 : pg_cd 303 10 = (50, 1, 0, 0, 0) := by decide +kernel
theorem c_303_11 : pg_cd 303 11 = (37, 3, 0, 3, 23) := by decide +kernel
theorem c_303_14 : pg_cd 303 14 = (3, 1, 0, 1, 0) := by decide +kernel
theorem c_303_15 : pg_cd 303 15 = (1, 1, 0, 0, 4) := by decide +kernel
theorem c_303_16 : pg_cd 303 16 = (37, 3, 0, 1, 18) := by decide +kernel
theorem c_303_19 : pg_cd 303 19 = (3, 1, 0, 2, 0) := by decide +kernel
theorem c_303_20 : pg_cd 303 20 = (5, 1, 0, 0, 0) := by decide +kernel
theorem c_303_21 : pg_cd 303 21 = (3, 1, 0, 3, 0) := by decide +kernel
theorem c_303_22 : pg_cd 303 22 = (1, 1, 0, 0, 5) := by decide +kernel
theorem c_303_23 : pg_cd 303 23 = (80, 198, 118, 0, 0) := by decide +kernel
theorem c_303_26 : pg_cd 303 26 = (10, 1, 0, 0, 0) := by decide +kernel
theorem c_303_27 : pg_cd 303 27 = (6, 1, 0, 2, 0) := by decide +kernel
theorem c_303_28 : pg_cd 303 28 = (9, 3, 0, 3, 1) := by decide +kernel
theorem c_303_31 : pg_cd 303 31 = (38, 3, 0, 0, (-27)) := by decide +kernel
theorem c_303_34 : pg_cd 303 34 = (1, 1, 0, 0, 0) := by decide +kernel
theorem c_303_35 : pg_cd 303 35 = (6, 1, 0, 3, 0) := by decide +kernel
theorem c_303_36 : pg_cd 303 36 = (3, 1, 0, 3, 0) := by decide +kernel
theorem c_303_37 : pg_cd 303 37 = (5, 1, 0, 0, 0) := by decide +kernel
theorem c_303_38 : pg_cd 303 38 = (45, 12, 8, 0, 0) := by decide +kernel
theorem c_303_41 : pg_cd 303 41 = (1, 1, 0, 0, 2) := by decide +kernel
theorem c_303_42 : pg_cd 303 42 = (50, 1, 0, 0, 0) := by decide +kernel
theorem c_303_43 : pg_cd 303 43 = (37, 3, 0, 3, 32) := by decide +kernel
theorem c_303_46 : pg_cd 303 46 = (3, 1, 0, 1, 0) := by decide +kernel
theorem c_303_47 : pg_cd 303 47 = (1, 1, 0, 0, 5) := by decide +kernel
theorem c_303_48 : pg_cd 303 48 = (37, 3, 0, 1, 27) := by decide +kernel
theorem c_303_51 : pg_cd 303 51 = (3, 1, 0, 2, 0) := by decide +kernel
theorem c_303_52 : pg_cd 303 52 = (5, 1, 0, 0, 0) := by decide +kernel
theorem c_303_53 : pg_cd 303 53 = (45, 12, 8, 0, 0) := by decide +kernel
theorem c_303_56 : pg_cd 303 56 = (1, 3, 0, 0, 3428) := by decide +kernel
theorem c_303_59 : pg_cd 303 59 = (1, 2, 0, 0, 8) := by decide +kernel
theorem c_303_61 : pg_cd 303 61 = (3, 1, 0, 3, 0) := by decide +kernel
theorem c_303_62 : pg_cd 303 62 = (12, 1, 0, 0, 0) := by decide +kernel
theorem c_303_63 : pg_cd 303 63 = (10, 1, 0, 0, 0) := by decide +kernel
theorem c_303_64 : pg_cd 303 64 = (1, 1, 0, 0, 3) := by decide +kernel
theorem c_303_65 : pg_cd 303 65 = (10, 1, 0, 0, 0) := by decide +kernel
theorem c_303_66 : pg_cd 303 66 = (50, 1, 0, 0, 0) := by decide +kernel
theorem c_303_67 : pg_cd 303 67 = (10, 1, 0, 0, 0) := by decide +kernel
theorem c_303_68 : pg_cd 303 68 = (6, 1, 0, 2, 0) := by decide +kernel
theorem c_303_69 : pg_cd 303 69 = (9, 3, 0, 3, 1) := by decide +kernel
theorem c_303_72 : pg_cd 303 72 = (38, 3, 0, 0, (-36)) := by decide +kernel
theorem c_303_75 : pg_cd 303 75 = (1, 1, 0, 0, 0) := by decide +kernel
theorem c_303_76 : pg_cd 303 76 = (6, 1, 0, 3, 0) := by decide +kernel
theorem c_303_77 : pg_cd 303 77 = (3, 1, 0, 3, 0) := by decide +kernel
theorem c_303_78 : pg_cd 303 78 = (5, 1, 0, 0, 0) := by decide +kernel
theorem c_303_79 : pg_cd 303 79 = (45, 12, 8, 0, 0) := by decide +kernel
theorem c_303_82 : pg_cd 303 82 = (1, 1, 0, 0, 3) := by decide +kernel
theorem c_303_83 : pg_cd 303 83 = (50, 1, 0, 0, 0) := by decide +kernel
theorem c_303_84 : pg_cd 303 84 = (37, 3, 0, 3, 24) := by decide +kernel
theorem c_303_87 : pg_cd 303 87 = (3, 1, 0, 1, 0) := by decide +kernel
theorem c_303_88 : pg_cd 303 88 = (1, 2, 0, 0, 6) := by decide +kernel
theorem c_303_90 : pg_cd 303 90 = (37, 3, 0, 1, 18) := by decide +kernel
theorem c_303_93 : pg_cd 303 93 = (3, 1, 0, 2, 0) := by decide +kernel
theorem c_303_94 : pg_cd 303 94 = (5, 1, 0, 0, 0) := by decide +kernel
theorem c_303_95 : pg_cd 303 95 = (3, 1, 0, 3, 0) := by decide +kernel
theorem c_303_96 : pg_cd 303 96 = (1, 1, 0, 0, 3) := by decide +kernel
theorem c_303_97 : pg_cd 303 97 = (80, 200, 99, 0, 0) := by decide +kernel
theorem c_303_100 : pg_cd 303 100 = (10, 1, 0, 0, 0) := by decide +kernel
theorem c_303_101 : pg_cd 303 101 = (6, 1, 0, 2, 0) := by decide +kernel
theorem c_303_102 : pg_cd 303 102 = (9, 3, 0, 3, 1) := by decide +kernel
theorem c_303_105 : pg_cd 303 105 = (38, 3, 0, 0, (-28)) := by decide +kernel
theorem c_303_108 : pg_cd 303 108 = (3, 1, 0, 2, 0) := by decide +kernel
theorem c_303_109 : pg_cd 303 109 = (90, 0, 0, 0, 0) := by decide +kernel
theorem mi_303 : pg_mc 303 = 12 ∧ pg_na 303 = 1 ∧ pg_mx 303 = 4 := by decide +kernel
set_option maxRecDepth 20000 in
theorem u_303_0 {d : Nat} {S : zS} {σ τ : zI} {Q : zQ} {x1 : Int} (t : wi (d + 1) 303 4 [.ref 83, .int (wI x1), .int (wI 0), .int (wI 0)] [] S σ τ Q) : wi (d + 1) 303 0 [.ref 83, .int (wI x1), .retAddr 0, .retAddr 0] [] S σ τ Q := by
  refine i1 c_303_0 (i6 (L' := [.ref 83, .int (wI x1), .int (wI 0), .retAddr 0]) c_303_1 rfl (i1 c_303_2 (i6 (L' := [.ref 83, .int (wI x1), .int (wI 0), .int (wI 0)]) c_303_3 rfl t)))
set_option maxRecDepth 20000 in
theorem u_303_4 {d : Nat} {S : zS} {σ τ : zI} {Q : zQ} {x1 : Int} {x2 : Int} {x3 : Int} (t : (rg x3) ∧ if (σ 84 1) ≤ x3 then (wi (d + 1) 303 36 [.ref 83, .int (wI x1), .int (wI x2), .int (wI 0)] [] S σ τ Q) else ((rg x1) ∧ if x1 = 4 then ((0 ≤ 3300 + 16 * x3 + 5 ∧ 3300 + 16 * x3 + 5 < 112300) ∧ wi (d + 1) 303 4 [.ref 83, .int (wI x1), .int (wI (x2 + (σ 84 (3300 + 16 * x3 + 5)))), .int (wI (x3 + 1))] [] S σ τ Q) else (wi (d + 1) 303 36 [.ref 83, .int (wI x1), .int (wI x2), .int (wI 0)] [] S σ τ Q))) : wi (d + 1) 303 4 [.ref 83, .int (wI x1), .int (wI x2), .int (wI x3)] [] S σ τ Q := by
  refine i3 c_303_4 rfl (i5 c_303_5 rfl (i45 c_303_6 (lo (c := 83) (kd := 112) (n := 0) rfl (by decide)) (lro (c := 83) (k := 0) (j := 84) (by decide)) (i1 c_303_9 (wi_ok (fun K1 => ?_)))))
  obtain ⟨r2, t⟩ := t
  refine i50 (v := σ 84 1) c_303_10 (lo (c := 84) (kd := 0) (n := 112300) rfl (by decide)) (by decide) (by decide) rfl ?_
  refine i37 c_303_11 r2 (rge_ K1 rfl) rfl (fun hc => ?_) (fun hc => ?_)
  · have t := iT t hc
    have ha3 : (σ 84 1) ≤ x3 := hc
    refine i1 c_303_34 (i6 (L' := [.ref 83, .int (wI x1), .int (wI x2), .int (wI 0)]) c_303_35 rfl t)
  · have t := iF t hc
    have ha3 : ¬ ((σ 84 1) ≤ x3) := hc
    obtain ⟨r4, t⟩ := t
    refine i3 c_303_14 rfl (i1 c_303_15 ?_)
    refine i37 c_303_16 r4 (by decide) rfl (fun hc => ?_) (fun hc => ?_)
    · have t := iF t hc
      have ha5 : ¬ (x1 = 4) := hc
      refine i1 c_303_34 (i6 (L' := [.ref 83, .int (wI x1), .int (wI x2), .int (wI 0)]) c_303_35 rfl t)
    · have t := iT t (Decidable.not_not.mp hc)
      have ha5 : x1 = 4 := Decidable.not_not.mp hc
      obtain ⟨p6, t⟩ := t
      refine i3 c_303_19 rfl (i5 c_303_20 rfl (i3 c_303_21 rfl (i1 c_303_22 ?_)))
      refine i80 (As := [.int (wI x3), .int (wI 5)]) (rest := [.int (wI x2)]) c_303_23 mi_198 rfl rfl (Nat.le_of_ble_eq_true rfl) (Nat.le_of_ble_eq_true rfl) (lo (c := 83) (kd := 112) (n := 0) rfl (by decide)) (q_198 p6 ?_)
      show wi (d + 1) 303 26 [.ref 83, .int (wI x1), .int (wI x2), .int (wI x3)] [.int (wI (σ 84 (3300 + 16 * x3 + 5))), .int (wI x2)] S σ τ Q
      refine i10 c_303_26 (i6 (L' := [.ref 83, .int (wI x1), .int (wI (x2 + (σ 84 (3300 + 16 * x3 + 5)))), .int (wI x3)]) c_303_27 rfl (i9 (L' := [.ref 83, .int (wI x1), .int (wI (x2 + (σ 84 (3300 + 16 * x3 + 5)))), .int (wI (x3 + 1))]) c_303_28 rfl rfl (i38 c_303_31 rfl t)))
set_option maxRecDepth 20000 in
theorem u_303_36 {d : Nat} {S : zS} {σ τ : zI} {Q : zQ} {x1 : Int} {x2 : Int} {x3 : Int} (t : (rg x3) ∧ if (σ 84 2) ≤ x3 then (wi (d + 1) 303 77 [.ref 83, .int (wI x1), .int (wI x2), .int (wI 0)] [] S σ τ Q) else ((rg x1) ∧ if x1 = 5 then ((0 ≤ (3428 + (8 * x3)) + 3 ∧ (3428 + (8 * x3)) + 3 < 112300) ∧ wi (d + 1) 303 36 [.ref 83, .int (wI x1), .int (wI (x2 + (σ 84 ((3428 + (8 * x3)) + 3)))), .int (wI (x3 + 1))] [] S σ τ Q) else (wi (d + 1) 303 77 [.ref 83, .int (wI x1), .int (wI x2), .int (wI 0)] [] S σ τ Q))) : wi (d + 1) 303 36 [.ref 83, .int (wI x1), .int (wI x2), .int (wI x3)] [] S σ τ Q := by
  refine i3 c_303_36 rfl (i5 c_303_37 rfl (i45 c_303_38 (lo (c := 83) (kd := 112) (n := 0) rfl (by decide)) (lro (c := 83) (k := 0) (j := 84) (by decide)) (i1 c_303_41 (wi_ok (fun K1 => ?_)))))
  obtain ⟨r2, t⟩ := t
  refine i50 (v := σ 84 2) c_303_42 (lo (c := 84) (kd := 0) (n := 112300) rfl (by decide)) (by decide) (by decide) rfl ?_
  refine i37 c_303_43 r2 (rge_ K1 rfl) rfl (fun hc => ?_) (fun hc => ?_)
  · have t := iT t hc
    have ha3 : (σ 84 2) ≤ x3 := hc
    refine i1 c_303_75 (i6 (L' := [.ref 83, .int (wI x1), .int (wI x2), .int (wI 0)]) c_303_76 rfl t)
  · have t := iF t hc
    have ha3 : ¬ ((σ 84 2) ≤ x3) := hc
    obtain ⟨r4, t⟩ := t
    refine i3 c_303_46 rfl (i1 c_303_47 ?_)
    refine i37 c_303_48 r4 (by decide) rfl (fun hc => ?_) (fun hc => ?_)
    · have t := iF t hc
      have ha5 : ¬ (x1 = 5) := hc
      refine i1 c_303_75 (i6 (L' := [.ref 83, .int (wI x1), .int (wI x2), .int (wI 0)]) c_303_76 rfl t)
    · have t := iT t (Decidable.not_not.mp hc)
      have ha5 : x1 = 5 := Decidable.not_not.mp hc
      obtain ⟨r6, t⟩ := t
      refine i3 c_303_51 rfl (i5 c_303_52 rfl (i45 c_303_53 (lo (c := 83) (kd := 112) (n := 0) rfl (by decide)) (lro (c := 83) (k := 0) (j := 84) (by decide)) (i1 c_303_56 (i1 c_303_59 (i3 c_303_61 rfl (i12 c_303_62 (i10 c_303_63 (i1 c_303_64 (i10 c_303_65 (i50 (v := σ 84 ((3428 + (8 * x3)) + 3)) c_303_66 (lo (c := 84) (kd := 0) (n := 112300) rfl (by decide)) (by decide) r6 rfl (i10 c_303_67 (i6 (L' := [.ref 83, .int (wI x1), .int (wI (x2 + (σ 84 ((3428 + (8 * x3)) + 3)))), .int (wI x3)]) c_303_68 rfl (i9 (L' := [.ref 83, .int (wI x1), .int (wI (x2 + (σ 84 ((3428 + (8 * x3)) + 3)))), .int (wI (x3 + 1))]) c_303_69 rfl rfl (i38 c_303_72 rfl t))))))))))))))
set_option maxRecDepth 20000 in
theorem u_303_77 {d : Nat} {S : zS} {σ τ : zI} {Q : zQ} {x1 : Int} {x2 : Int} {x3 : Int} (t : (rg x3) ∧ if (σ 84 3) ≤ x3 then (Q (some (.int (wI x2))) S σ τ) else ((rg x1) ∧ if x1 = 6 then ((0 ≤ 3460 + 8 * x3 + 3 ∧ 3460 + 8 * x3 + 3 < 112300) ∧ wi (d + 1) 303 77 [.ref 83, .int (wI x1), .int (wI (x2 + (σ 84 (3460 + 8 * x3 + 3)))), .int (wI (x3 + 1))] [] S σ τ Q) else (Q (some (.int (wI x2))) S σ τ))) : wi (d + 1) 303 77 [.ref 83, .int (wI x1), .int (wI x2), .int (wI x3)] [] S σ τ Q := by
  refine i3 c_303_77 rfl (i5 c_303_78 rfl (i45 c_303_79 (lo (c := 83) (kd := 112) (n := 0) rfl (by decide)) (lro (c := 83) (k := 0) (j := 84) (by decide)) (i1 c_303_82 (wi_ok (fun K1 => ?_)))))
  obtain ⟨r2, t⟩ := t
  refine i50 (v := σ 84 3) c_303_83 (lo (c := 84) (kd := 0) (n := 112300) rfl (by decide)) (by decide) (by decide) rfl ?_
  refine i37 c_303_84 r2 (rge_ K1 rfl) rfl (fun hc => ?_) (fun hc => ?_)
  · have t := iT t hc
    have ha3 : (σ 84 3) ≤ x3 := hc
    refine i3 c_303_108 rfl ?_
    exact i90 c_303_109 t
  · have t := iF t hc
    have ha3 : ¬ ((σ 84 3) ≤ x3) := hc
    obtain ⟨r4, t⟩ := t
    refine i3 c_303_87 rfl (i1 c_303_88 ?_)
    refine i37 c_303_90 r4 (by decide) rfl (fun hc => ?_) (fun hc => ?_)
    · have t := iF t hc
      have ha5 : ¬ (x1 = 6) := hc
      refine i3 c_303_108 rfl ?_
      exact i90 c_303_109 t
    · have t := iT t (Decidable.not_not.mp hc)
      have ha5 : x1 = 6 := Decidable.not_not.mp hc
      obtain ⟨p6, t⟩ := t
      refine i3 c_303_93 rfl (i5 c_303_94 rfl (i3 c_303_95 rfl (i1 c_303_96 ?_)))
      refine i80 (As := [.int (wI x3), .int (wI 3)]) (rest := [.int (wI x2)]) c_303_97 mi_200 rfl rfl (Nat.le_of_ble_eq_true rfl) (Nat.le_of_ble_eq_true rfl) (lo (c := 83) (kd := 112) (n := 0) rfl (by decide)) (q_200 p6 ?_)
      show wi (d + 1) 303 100 [.ref 83, .int (wI x1), .int (wI x2), .int (wI x3)] [.int (wI (σ 84 (3460 + 8 * x3 + 3))), .int (wI x2)] S σ τ Q
      refine i10 c_303_100 (i6 (L' := [.ref 83, .int (wI x1), .int (wI (x2 + (σ 84 (3460 + 8 * x3 + 3)))), .int (wI x3)]) c_303_101 rfl (i9 (L' := [.ref 83, .int (wI x1), .int (wI (x2 + (σ 84 (3460 + 8 * x3 + 3)))), .int (wI (x3 + 1))]) c_303_102 rfl rfl (i38 c_303_105 rfl t)))
theorem q_303 {d : Nat} {S : zS} {σ τ : zI} {Q : zQ} {what : Int} (p0 : rg what) (p1 : jv_C (σ 84)) (t : Q (some (.int (wI (if what = 4 then sI (fun m => σ 84 (3300 + 16 * m + 5)) (σ 84 1) else if what = 5 then sI (fun s => σ 84 (3428 + 8 * s + 3)) (σ 84 2) else if what = 6 then sI (fun h => σ 84 (3460 + 8 * h + 3)) (σ 84 3) else 0)))) S σ τ) : wc (d + 1) 303 [.ref 83, .int (wI what)] S σ τ Q := by
  have hC := p1
  unfold jv_C at hC
  refine wc_of mi_303 rfl (u_303_0 ?_)
  have l3 : ∀ h, 0 ≤ h → h ≤ σ 84 3 → ∀ s, (what = 6 → s = sI (fun h => σ 84 (3460 + 8 * h + 3)) h) → (what ≠ 6 → Q (some (.int (wI s))) S σ τ) → wi (d + 1) 303 77 [.ref 83, .int (wI what), .int (wI s), .int (wI h)] [] S σ τ Q := by
    refine lp_up (fun h h0 h1 ih => ?_)
    intro s hs hq
    refine u_303_77 ⟨by omega, ifI (fun e => ?_) (fun e => ?_)⟩
    · by_cases c : what = 6
      · have : h = σ 84 3 := by omega
        subst this
        rw [if_neg (by omega), if_neg (by omega), if_pos c] at t
        rw [hs c]; exact t
      · exact hq c
    · refine ⟨p0, ifI (fun c => ?_) (fun c => hq c)⟩
      refine ⟨by omega, ih (by omega) _ (fun _ => ?_) (fun n => absurd c n)⟩
      rw [sI_s h0, ← hs c]
  have l2 : ∀ h, 0 ≤ h → h ≤ σ 84 2 → ∀ s, (what = 5 → s = sI (fun h => σ 84 (3428 + 8 * h + 3)) h) → (what ≠ 5 → (what ≠ 4 ∧ s = 0) ∨ what = 4 ∧ Q (some (.int (wI s))) S σ τ) → wi (d + 1) 303 36 [.ref 83, .int (wI what), .int (wI s), .int (wI h)] [] S σ τ Q := by
    refine lp_up (fun h h0 h1 ih => ?_)
    intro s hs hq
    have out : what ≠ 5 → wi (d + 1) 303 77 [.ref 83, .int (wI what), .int (wI s), .int (wI 0)] [] S σ τ Q := fun c => by
      refine l3 0 (by omega) (by omega) s (fun c6 => ?_) (fun c6 => ?_)
      · rcases hq c with z | z
        · exact z.2
        · omega
      · rcases hq c with z | z
        · rw [z.2]
          rw [if_neg z.1, if_neg c, if_neg c6] at t; exact t
        · exact z.2
    refine u_303_36 ⟨by omega, ifI (fun e => ?_) (fun e => ?_)⟩
    · by_cases c : what = 5
      · have : h = σ 84 2 := by omega
        subst this
        rw [if_neg (by omega), if_pos c] at t
        refine l3 0 (by omega) (by omega) s (fun _ => by omega) (fun _ => ?_)
        rw [hs c]; exact t
      · exact out c
    · refine ⟨p0, ifI (fun c => ?_) (fun c => out c)⟩
      refine ⟨by omega, ih (by omega) _ (fun _ => ?_) (fun n => absurd c n)⟩
      rw [sI_s h0, ← hs c]
  have l1 : ∀ h, 0 ≤ h → h ≤ σ 84 1 → ∀ s, (what = 4 → s = sI (fun h => σ 84 (3300 + 16 * h + 5)) h) → (what ≠ 4 → s = 0) → wi (d + 1) 303 4 [.ref 83, .int (wI what), .int (wI s), .int (wI h)] [] S σ τ Q := by
    refine lp_up (fun h h0 h1 ih => ?_)
    intro s hs hq
    refine u_303_4 ⟨by omega, ifI (fun e => ?_) (fun e => ?_)⟩
    · by_cases c : what = 4
      · have : h = σ 84 1 := by omega
        subst this
        rw [if_pos c] at t
        refine l2 0 (by omega) (by omega) s (fun _ => by omega) (fun _ => Or.inr ⟨c, ?_⟩)
        rw [hs c]; exact t
      · rw [hq c]
        exact l2 0 (by omega) (by omega) 0 (fun _ => rfl) (fun _ => Or.inl ⟨c, rfl⟩)
    · refine ⟨p0, ifI (fun c => ?_) (fun c => ?_)⟩
      · refine ⟨by omega, ih (by omega) _ (fun _ => ?_) (fun n => absurd c n)⟩
        rw [sI_s h0, ← hs c]
      · rw [hq c]
        exact l2 0 (by omega) (by omega) 0 (fun _ => rfl) (fun _ => Or.inl ⟨c, rfl⟩)
  exact l1 0 (by omega) (by omega) 0 (fun _ => rfl) (fun _ => rfl)
