/-! ===== tables (segments printed by wip/whole, contracts own work) ===== -/
-- method 53: MillTown$Rows.has(I)Z
theorem c_53_0 : pg_cd 53 0 = (3, 1, 0, 1, 0) := by decide +kernel
theorem c_53_1 : pg_cd 53 1 = (36, 3, 0, 2, 15) := by decide +kernel
theorem c_53_4 : pg_cd 53 4 = (3, 1, 0, 1, 0) := by decide +kernel
theorem c_53_5 : pg_cd 53 5 = (5, 1, 0, 0, 0) := by decide +kernel
theorem c_53_6 : pg_cd 53 6 = (43, 4, 19, 2, 0) := by decide +kernel
theorem c_53_9 : pg_cd 53 9 = (37, 3, 0, 3, 7) := by decide +kernel
theorem c_53_12 : pg_cd 53 12 = (1, 1, 0, 0, 1) := by decide +kernel
theorem c_53_13 : pg_cd 53 13 = (38, 3, 0, 0, 4) := by decide +kernel
theorem c_53_16 : pg_cd 53 16 = (1, 1, 0, 0, 0) := by decide +kernel
theorem c_53_17 : pg_cd 53 17 = (91, 0, 0, 0, 0) := by decide +kernel
theorem mi_53 : pg_mc 53 = 4 ∧ pg_na 53 = 1 ∧ pg_mx 53 = 2 := by decide +kernel
set_option maxRecDepth 20000 in
theorem u_53_0 {d : Nat} {S : zS} {σ τ : zI} {Q : zQ} {x0 : Nat} {wx0 : Nat} {nx0 : Nat} {x1 : Int} (hx0 : oW S σ x0 wx0 nx0) (t : (rg x1) ∧ if x1 < 0 then (Q (some (.int (wI 0))) S σ τ) else (if (σ x0 2) ≤ x1 then (Q (some (.int (wI 0))) S σ τ) else (Q (some (.int (wI 1))) S σ τ))) : wi (d + 0) 53 0 [.ref x0, .int (wI x1)] [] S σ τ Q := by
  obtain ⟨r1, t⟩ := t
  refine i3 c_53_0 rfl ?_
  refine i36 c_53_1 r1 rfl (fun hc => ?_) (fun hc => ?_)
  · have t := iT t hc
    have ha2 : x1 < 0 := hc
    refine i1 c_53_16 ?_
    exact i91 c_53_17 (by decide) t
  · have t := iF t hc
    have ha2 : ¬ (x1 < 0) := hc
    refine i3 c_53_4 rfl (i5 c_53_5 rfl (wi_ok (fun K3 => ?_)))
    refine i43 (v := σ x0 2) c_53_6 (fun _ => hx0.1) rfl ?_
    refine i37 c_53_9 r1 (rge_ K3 rfl) rfl (fun hc => ?_) (fun hc => ?_)
    · have t := iT t hc
      have ha4 : (σ x0 2) ≤ x1 := hc
      refine i1 c_53_16 ?_
      exact i91 c_53_17 (by decide) t
    · have t := iF t hc
      have ha4 : ¬ ((σ x0 2) ≤ x1) := hc
      refine i1 c_53_12 (i38 c_53_13 rfl ?_)
      exact i91 c_53_17 (by decide) t
-- method 55: MillTown$Rows.at(II)I
theorem c_55_0 : pg_cd 55 0 = (3, 1, 0, 1, 0) := by decide +kernel
theorem c_55_1 : pg_cd 55 1 = (36, 3, 0, 2, 23) := by decide +kernel
theorem c_55_4 : pg_cd 55 4 = (3, 1, 0, 1, 0) := by decide +kernel
theorem c_55_5 : pg_cd 55 5 = (5, 1, 0, 0, 0) := by decide +kernel
theorem c_55_6 : pg_cd 55 6 = (43, 4, 19, 2, 0) := by decide +kernel
theorem c_55_9 : pg_cd 55 9 = (37, 3, 0, 3, 15) := by decide +kernel
theorem c_55_12 : pg_cd 55 12 = (3, 1, 0, 2, 0) := by decide +kernel
theorem c_55_13 : pg_cd 55 13 = (36, 3, 0, 2, 11) := by decide +kernel
theorem c_55_16 : pg_cd 55 16 = (3, 1, 0, 2, 0) := by decide +kernel
theorem c_55_17 : pg_cd 55 17 = (5, 1, 0, 0, 0) := by decide +kernel
theorem c_55_18 : pg_cd 55 18 = (43, 4, 9, 0, 0) := by decide +kernel
theorem c_55_21 : pg_cd 55 21 = (37, 3, 0, 2, 5) := by decide +kernel
theorem c_55_24 : pg_cd 55 24 = (1, 1, 0, 0, (-1)) := by decide +kernel
theorem c_55_25 : pg_cd 55 25 = (90, 0, 0, 0, 0) := by decide +kernel
theorem c_55_26 : pg_cd 55 26 = (5, 1, 0, 0, 0) := by decide +kernel
theorem c_55_27 : pg_cd 55 27 = (45, 4, 15, 1, 0) := by decide +kernel
theorem c_55_30 : pg_cd 55 30 = (3, 1, 0, 1, 0) := by decide +kernel
theorem c_55_31 : pg_cd 55 31 = (5, 1, 0, 0, 0) := by decide +kernel
theorem c_55_32 : pg_cd 55 32 = (43, 4, 9, 0, 0) := by decide +kernel
theorem c_55_35 : pg_cd 55 35 = (12, 1, 0, 0, 0) := by decide +kernel
theorem c_55_36 : pg_cd 55 36 = (3, 1, 0, 2, 0) := by decide +kernel
theorem c_55_37 : pg_cd 55 37 = (10, 1, 0, 0, 0) := by decide +kernel
theorem c_55_38 : pg_cd 55 38 = (50, 1, 0, 0, 0) := by decide +kernel
theorem c_55_39 : pg_cd 55 39 = (90, 0, 0, 0, 0) := by decide +kernel
theorem mi_55 : pg_mc 55 = 4 ∧ pg_na 55 = 2 ∧ pg_mx 55 = 3 := by decide +kernel
set_option maxRecDepth 20000 in
theorem u_55_0 {d : Nat} {S : zS} {σ τ : zI} {Q : zQ} {x0 : Nat} {wx0 : Nat} {nx0 : Nat} {x1 : Int} {x2 : Int} (hx0 : oW S σ x0 wx0 nx0) (t : (rg x1) ∧ if x1 < 0 then (Q (some (.int (wI (-1)))) S σ τ) else (if (σ x0 2) ≤ x1 then (Q (some (.int (wI (-1)))) S σ τ) else ((rg x2) ∧ if x2 < 0 then (Q (some (.int (wI (-1)))) S σ τ) else (if x2 < (σ x0 0) then ((0 ≤ (x1 * (σ x0 0)) + x2 ∧ (x1 * (σ x0 0)) + x2 < nx0) ∧ Q (some (.int (wI (σ (x0 + 1) ((x1 * (σ x0 0)) + x2))))) S σ τ) else (Q (some (.int (wI (-1)))) S σ τ))))) : wi (d + 0) 55 0 [.ref x0, .int (wI x1), .int (wI x2)] [] S σ τ Q := by
  obtain ⟨r1, t⟩ := t
  refine i3 c_55_0 rfl ?_
  refine i36 c_55_1 r1 rfl (fun hc => ?_) (fun hc => ?_)
  · have t := iT t hc
    have ha2 : x1 < 0 := hc
    refine i1 c_55_24 ?_
    exact i90 c_55_25 t
  · have t := iF t hc
    have ha2 : ¬ (x1 < 0) := hc
    refine i3 c_55_4 rfl (i5 c_55_5 rfl (wi_ok (fun K3 => ?_)))
    refine i43 (v := σ x0 2) c_55_6 (fun _ => hx0.1) rfl ?_
    refine i37 c_55_9 r1 (rge_ K3 rfl) rfl (fun hc => ?_) (fun hc => ?_)
    · have t := iT t hc
      have ha4 : (σ x0 2) ≤ x1 := hc
      refine i1 c_55_24 ?_
      exact i90 c_55_25 t
    · have t := iF t hc
      have ha4 : ¬ ((σ x0 2) ≤ x1) := hc
      obtain ⟨r5, t⟩ := t
      refine i3 c_55_12 rfl ?_
      refine i36 c_55_13 r5 rfl (fun hc => ?_) (fun hc => ?_)
      · have t := iT t hc
        have ha6 : x2 < 0 := hc
        refine i1 c_55_24 ?_
        exact i90 c_55_25 t
      · have t := iF t hc
        have ha6 : ¬ (x2 < 0) := hc
        refine i3 c_55_16 rfl (i5 c_55_17 rfl (i43 (v := σ x0 0) c_55_18 (fun _ => hx0.1) rfl ?_))
        refine i37 c_55_21 r5 (rge_ K3 rfl) rfl (fun hc => ?_) (fun hc => ?_)
        · have t := iT t hc
          have ha7 : x2 < (σ x0 0) := hc
          obtain ⟨r8, t⟩ := t
          refine i5 c_55_26 rfl (i45 c_55_27 (fun _ => hx0.1) (fun _ => hx0.2.1) (i3 c_55_30 rfl (i5 c_55_31 rfl (i43 (v := σ x0 0) c_55_32 (fun _ => hx0.1) rfl (i12 c_55_35 (i3 c_55_36 rfl (i10 c_55_37 (i50 (v := σ (x0 + 1) ((x1 * (σ x0 0)) + x2)) c_55_38 (fun _ => hx0.2.2.1) (by have := hx0.2.2.2.2.2.2.2.1; omega) r8 rfl ?_))))))))
          exact i90 c_55_39 t
        · have t := iF t hc
          have ha7 : ¬ (x2 < (σ x0 0)) := hc
          refine i1 c_55_24 ?_
          exact i90 c_55_25 t
-- method 56: MillTown$Rows.put(III)V
theorem c_56_0 : pg_cd 56 0 = (3, 1, 0, 1, 0) := by decide +kernel
theorem c_56_1 : pg_cd 56 1 = (36, 3, 0, 2, 37) := by decide +kernel
theorem c_56_4 : pg_cd 56 4 = (3, 1, 0, 1, 0) := by decide +kernel
theorem c_56_5 : pg_cd 56 5 = (5, 1, 0, 0, 0) := by decide +kernel
theorem c_56_6 : pg_cd 56 6 = (43, 4, 19, 2, 0) := by decide +kernel
theorem c_56_9 : pg_cd 56 9 = (37, 3, 0, 3, 29) := by decide +kernel
theorem c_56_12 : pg_cd 56 12 = (3, 1, 0, 2, 0) := by decide +kernel
theorem c_56_13 : pg_cd 56 13 = (36, 3, 0, 2, 25) := by decide +kernel
theorem c_56_16 : pg_cd 56 16 = (3, 1, 0, 2, 0) := by decide +kernel
theorem c_56_17 : pg_cd 56 17 = (5, 1, 0, 0, 0) := by decide +kernel
theorem c_56_18 : pg_cd 56 18 = (43, 4, 9, 0, 0) := by decide +kernel
theorem c_56_21 : pg_cd 56 21 = (37, 3, 0, 3, 17) := by decide +kernel
theorem c_56_24 : pg_cd 56 24 = (5, 1, 0, 0, 0) := by decide +kernel
theorem c_56_25 : pg_cd 56 25 = (45, 4, 15, 1, 0) := by decide +kernel
theorem c_56_28 : pg_cd 56 28 = (3, 1, 0, 1, 0) := by decide +kernel
theorem c_56_29 : pg_cd 56 29 = (5, 1, 0, 0, 0) := by decide +kernel
theorem c_56_30 : pg_cd 56 30 = (43, 4, 9, 0, 0) := by decide +kernel
theorem c_56_33 : pg_cd 56 33 = (12, 1, 0, 0, 0) := by decide +kernel
theorem c_56_34 : pg_cd 56 34 = (3, 1, 0, 2, 0) := by decide +kernel
theorem c_56_35 : pg_cd 56 35 = (10, 1, 0, 0, 0) := by decide +kernel
theorem c_56_36 : pg_cd 56 36 = (3, 1, 0, 3, 0) := by decide +kernel
theorem c_56_37 : pg_cd 56 37 = (54, 1, 0, 0, 0) := by decide +kernel
theorem c_56_38 : pg_cd 56 38 = (94, 0, 0, 0, 0) := by decide +kernel
theorem mi_56 : pg_mc 56 = 4 ∧ pg_na 56 = 3 ∧ pg_mx 56 = 4 := by decide +kernel
set_option maxRecDepth 20000 in
theorem u_56_0 {d : Nat} {S : zS} {σ τ : zI} {Q : zQ} {x0 : Nat} {wx0 : Nat} {nx0 : Nat} {x1 : Int} {x2 : Int} {x3 : Int} (hx0 : oW S σ x0 wx0 nx0) (t : (rg x1) ∧ if x1 < 0 then (Q none S σ τ) else (if (σ x0 2) ≤ x1 then (Q none S σ τ) else ((rg x2) ∧ if x2 < 0 then (Q none S σ τ) else (if (σ x0 0) ≤ x2 then (Q none S σ τ) else ((0 ≤ (x1 * (σ x0 0)) + x2 ∧ (x1 * (σ x0 0)) + x2 < nx0) ∧ ∃ w9 : Int, wI w9 = wI x3 ∧ rg w9 ∧ Q none S (uc σ (x0 + 1) (u1 (σ (x0 + 1)) ((x1 * (σ x0 0)) + x2) w9)) τ))))) : wi (d + 0) 56 0 [.ref x0, .int (wI x1), .int (wI x2), .int (wI x3)] [] S σ τ Q := by
  obtain ⟨r1, t⟩ := t
  refine i3 c_56_0 rfl ?_
  refine i36 c_56_1 r1 rfl (fun hc => ?_) (fun hc => ?_)
  · have t := iT t hc
    have ha2 : x1 < 0 := hc
    exact i94 c_56_38 t
  · have t := iF t hc
    have ha2 : ¬ (x1 < 0) := hc
    refine i3 c_56_4 rfl (i5 c_56_5 rfl (wi_ok (fun K3 => ?_)))
    refine i43 (v := σ x0 2) c_56_6 (fun _ => hx0.1) rfl ?_
    refine i37 c_56_9 r1 (rge_ K3 rfl) rfl (fun hc => ?_) (fun hc => ?_)
    · have t := iT t hc
      have ha4 : (σ x0 2) ≤ x1 := hc
      exact i94 c_56_38 t
    · have t := iF t hc
      have ha4 : ¬ ((σ x0 2) ≤ x1) := hc
      obtain ⟨r5, t⟩ := t
      refine i3 c_56_12 rfl ?_
      refine i36 c_56_13 r5 rfl (fun hc => ?_) (fun hc => ?_)
      · have t := iT t hc
        have ha6 : x2 < 0 := hc
        exact i94 c_56_38 t
      · have t := iF t hc
        have ha6 : ¬ (x2 < 0) := hc
        refine i3 c_56_16 rfl (i5 c_56_17 rfl (i43 (v := σ x0 0) c_56_18 (fun _ => hx0.1) rfl ?_))
        refine i37 c_56_21 r5 (rge_ K3 rfl) rfl (fun hc => ?_) (fun hc => ?_)
        · have t := iT t hc
          have ha7 : (σ x0 0) ≤ x2 := hc
          exact i94 c_56_38 t
        · have t := iF t hc
          have ha7 : ¬ ((σ x0 0) ≤ x2) := hc
          obtain ⟨r8, t⟩ := t
          obtain ⟨w9, e10, r11, t⟩ := t
          refine i5 c_56_24 rfl (i45 c_56_25 (fun _ => hx0.1) (fun _ => hx0.2.1) (i3 c_56_28 rfl (i5 c_56_29 rfl (i43 (v := σ x0 0) c_56_30 (fun _ => hx0.1) rfl (i12 c_56_33 (i3 c_56_34 rfl (i10 c_56_35 (i3 c_56_36 rfl (i54 (σ1 := uc σ (x0 + 1) (u1 (σ (x0 + 1)) ((x1 * (σ x0 0)) + x2) w9)) c_56_37 (fun _ => hx0.2.2.1) (by have := hx0.2.2.2.2.2.2.2.1; omega) r8 hx0.2.2.2.2.2.2.2.2.1 e10 r11 (wr_ rfl rfl) ?_)))))))))
          exact i94 c_56_38 t
-- method 57: MillTown$Rows.raise(III)V
theorem c_57_0 : pg_cd 57 0 = (3, 1, 0, 1, 0) := by decide +kernel
theorem c_57_1 : pg_cd 57 1 = (36, 3, 0, 2, 40) := by decide +kernel
theorem c_57_4 : pg_cd 57 4 = (3, 1, 0, 1, 0) := by decide +kernel
theorem c_57_5 : pg_cd 57 5 = (5, 1, 0, 0, 0) := by decide +kernel
theorem c_57_6 : pg_cd 57 6 = (43, 4, 19, 2, 0) := by decide +kernel
theorem c_57_9 : pg_cd 57 9 = (37, 3, 0, 3, 32) := by decide +kernel
theorem c_57_12 : pg_cd 57 12 = (3, 1, 0, 2, 0) := by decide +kernel
theorem c_57_13 : pg_cd 57 13 = (36, 3, 0, 2, 28) := by decide +kernel
theorem c_57_16 : pg_cd 57 16 = (3, 1, 0, 2, 0) := by decide +kernel
theorem c_57_17 : pg_cd 57 17 = (5, 1, 0, 0, 0) := by decide +kernel
theorem c_57_18 : pg_cd 57 18 = (43, 4, 9, 0, 0) := by decide +kernel
theorem c_57_21 : pg_cd 57 21 = (37, 3, 0, 3, 20) := by decide +kernel
theorem c_57_24 : pg_cd 57 24 = (5, 1, 0, 0, 0) := by decide +kernel
theorem c_57_25 : pg_cd 57 25 = (45, 4, 15, 1, 0) := by decide +kernel
theorem c_57_28 : pg_cd 57 28 = (3, 1, 0, 1, 0) := by decide +kernel
theorem c_57_29 : pg_cd 57 29 = (5, 1, 0, 0, 0) := by decide +kernel
theorem c_57_30 : pg_cd 57 30 = (43, 4, 9, 0, 0) := by decide +kernel
theorem c_57_33 : pg_cd 57 33 = (12, 1, 0, 0, 0) := by decide +kernel
theorem c_57_34 : pg_cd 57 34 = (3, 1, 0, 2, 0) := by decide +kernel
theorem c_57_35 : pg_cd 57 35 = (10, 1, 0, 0, 0) := by decide +kernel
theorem c_57_36 : pg_cd 57 36 = (34, 1, 0, 0, 0) := by decide +kernel
theorem c_57_37 : pg_cd 57 37 = (50, 1, 0, 0, 0) := by decide +kernel
theorem c_57_38 : pg_cd 57 38 = (3, 1, 0, 3, 0) := by decide +kernel
theorem c_57_39 : pg_cd 57 39 = (10, 1, 0, 0, 0) := by decide +kernel
theorem c_57_40 : pg_cd 57 40 = (54, 1, 0, 0, 0) := by decide +kernel
theorem c_57_41 : pg_cd 57 41 = (94, 0, 0, 0, 0) := by decide +kernel
theorem mi_57 : pg_mc 57 = 4 ∧ pg_na 57 = 3 ∧ pg_mx 57 = 4 := by decide +kernel
set_option maxRecDepth 20000 in
theorem u_57_0 {d : Nat} {S : zS} {σ τ : zI} {Q : zQ} {x0 : Nat} {wx0 : Nat} {nx0 : Nat} {x1 : Int} {x2 : Int} {x3 : Int} (hx0 : oW S σ x0 wx0 nx0) (t : (rg x1) ∧ if x1 < 0 then (Q none S σ τ) else (if (σ x0 2) ≤ x1 then (Q none S σ τ) else ((rg x2) ∧ if x2 < 0 then (Q none S σ τ) else (if (σ x0 0) ≤ x2 then (Q none S σ τ) else ((0 ≤ (x1 * (σ x0 0)) + x2 ∧ (x1 * (σ x0 0)) + x2 < nx0) ∧ ∃ w9 : Int, wI w9 = wI ((σ (x0 + 1) ((x1 * (σ x0 0)) + x2)) + x3) ∧ rg w9 ∧ Q none S (uc σ (x0 + 1) (u1 (σ (x0 + 1)) ((x1 * (σ x0 0)) + x2) w9)) τ))))) : wi (d + 0) 57 0 [.ref x0, .int (wI x1), .int (wI x2), .int (wI x3)] [] S σ τ Q := by
  obtain ⟨r1, t⟩ := t
  refine i3 c_57_0 rfl ?_
  refine i36 c_57_1 r1 rfl (fun hc => ?_) (fun hc => ?_)
  · have t := iT t hc
    have ha2 : x1 < 0 := hc
    exact i94 c_57_41 t
  · have t := iF t hc
    have ha2 : ¬ (x1 < 0) := hc
    refine i3 c_57_4 rfl (i5 c_57_5 rfl (wi_ok (fun K3 => ?_)))
    refine i43 (v := σ x0 2) c_57_6 (fun _ => hx0.1) rfl ?_
    refine i37 c_57_9 r1 (rge_ K3 rfl) rfl (fun hc => ?_) (fun hc => ?_)
    · have t := iT t hc
      have ha4 : (σ x0 2) ≤ x1 := hc
      exact i94 c_57_41 t
    · have t := iF t hc
      have ha4 : ¬ ((σ x0 2) ≤ x1) := hc
      obtain ⟨r5, t⟩ := t
      refine i3 c_57_12 rfl ?_
      refine i36 c_57_13 r5 rfl (fun hc => ?_) (fun hc => ?_)
      · have t := iT t hc
        have ha6 : x2 < 0 := hc
        exact i94 c_57_41 t
      · have t := iF t hc
        have ha6 : ¬ (x2 < 0) := hc
        refine i3 c_57_16 rfl (i5 c_57_17 rfl (i43 (v := σ x0 0) c_57_18 (fun _ => hx0.1) rfl ?_))
        refine i37 c_57_21 r5 (rge_ K3 rfl) rfl (fun hc => ?_) (fun hc => ?_)
        · have t := iT t hc
          have ha7 : (σ x0 0) ≤ x2 := hc
          exact i94 c_57_41 t
        · have t := iF t hc
          have ha7 : ¬ ((σ x0 0) ≤ x2) := hc
          obtain ⟨r8, t⟩ := t
          obtain ⟨w9, e10, r11, t⟩ := t
          refine i5 c_57_24 rfl (i45 c_57_25 (fun _ => hx0.1) (fun _ => hx0.2.1) (i3 c_57_28 rfl (i5 c_57_29 rfl (i43 (v := σ x0 0) c_57_30 (fun _ => hx0.1) rfl (i12 c_57_33 (i3 c_57_34 rfl (i10 c_57_35 (i34a c_57_36 (i50 (v := σ (x0 + 1) ((x1 * (σ x0 0)) + x2)) c_57_37 (fun _ => hx0.2.2.1) (by have := hx0.2.2.2.2.2.2.2.1; omega) r8 rfl (i3 c_57_38 rfl (i10 c_57_39 (i54 (σ1 := uc σ (x0 + 1) (u1 (σ (x0 + 1)) ((x1 * (σ x0 0)) + x2) w9)) c_57_40 (fun _ => hx0.2.2.1) (by have := hx0.2.2.2.2.2.2.2.1; omega) r8 hx0.2.2.2.2.2.2.2.2.1 e10 r11 (wr_ rfl rfl) ?_))))))))))))
          exact i94 c_57_41 t
theorem rw_ix {S : zS} {σ : zI} {r w n : Nat} {row k : Int} (hR : oW S σ r w n) (h : 0 ≤ row ∧ row < σ r 2) (hk : 0 ≤ k ∧ k < w) : 0 ≤ row * w + k ∧ row * w + k < n := by
  obtain ⟨-, -, -, -, hw, -, h7, -⟩ := hR
  have a1 : (row + 1) * w ≤ σ r 2 * w := Int.mul_le_mul_of_nonneg_right (by omega) (by omega)
  have a2 : 0 ≤ row * w := Int.mul_nonneg h.1 (by omega)
  rw [Int.add_mul] at a1
  omega
theorem q_has {d : Nat} {S : zS} {σ τ : zI} {Q : zQ} {r w n : Nat} {row : Int} (hR : kO S σ τ → oW S σ r w n) (rr : rg row) (t : Q (some (.int (wI (if 0 ≤ row ∧ row < σ r 2 then 1 else 0)))) S σ τ) : wc (d + 0) 53 [.ref r, .int (wI row)] S σ τ Q := by
  refine wc_ok fun K => ?_
  refine wc_of mi_53 rfl (u_53_0 (hR K) ⟨rr, ?_⟩)
  repeat' (first | (rw [if_pos (by omega)] at t; exact t) | (rw [if_neg (by omega)] at t; exact t) | refine ifI (fun _ => ?_) (fun _ => ?_))
theorem q_atv {d : Nat} {S : zS} {σ τ : zI} {Q : zQ} {r w n : Nat} {row col : Int} (hR : kO S σ τ → oW S σ r w n) (rr : rg row) (rc : rg col) (t : Q (some (.int (wI (ra_ (σ r 2) (σ (r + 1)) w row col)))) S σ τ) : wc (d + 0) 55 [.ref r, .int (wI row), .int (wI col)] S σ τ Q := by
  refine wc_ok fun K => ?_
  have hr := hR K
  have hw : σ r 0 = w := hr.2.2.2.1
  unfold ra_ at t
  refine wc_of mi_55 rfl (u_55_0 hr ⟨rr, ?_⟩)
  rw [hw]
  refine ifI (fun h1 => ?_) (fun h1 => ?_)
  · rw [if_neg (by omega)] at t; exact t
  refine ifI (fun h2 => ?_) (fun h2 => ?_)
  · rw [if_neg (by omega)] at t; exact t
  refine ⟨rc, ?_⟩
  refine ifI (fun h3 => ?_) (fun h3 => ?_)
  · rw [if_neg (by omega)] at t; exact t
  refine ifI (fun h4 => ?_) (fun h4 => ?_)
  · rw [if_pos (by omega)] at t
    have := rw_ix hr (row := row) (k := col) (by omega) (by omega)
    exact ⟨this, t⟩
  · rw [if_neg (by omega)] at t; exact t
theorem q_at {d : Nat} {S : zS} {σ τ : zI} {Q : zQ} {r w n : Nat} {row k : Int} (hR : kO S σ τ → oW S σ r w n) (rr : rg row) (hk : 0 ≤ k ∧ k < w ∧ k < 1000) (t : Q (some (.int (wI (rt_ (σ r 2) (σ (r + 1)) w k row)))) S σ τ) : wc (d + 0) 55 [.ref r, .int (wI row), .int (wI k)] S σ τ Q := by
  refine q_atv hR rr (by omega) ?_
  have e : ra_ (σ r 2) (σ (r + 1)) w row k = rt_ (σ r 2) (σ (r + 1)) w k row := by
    unfold ra_ rt_
    by_cases h : 0 ≤ row ∧ row < σ r 2
    · rw [if_pos h, if_pos ⟨h, by omega⟩]
    · rw [if_neg h, if_neg (fun q => h q.1)]
  rw [e]
  exact t
theorem q_put {d : Nat} {S : zS} {σ τ : zI} {Q : zQ} {r w n : Nat} {row k v v2 : Int} (hR : kO S σ τ → oW S σ r w n) (rr : rg row) (hb : 0 ≤ row ∧ row < σ r 2) (hk : 0 ≤ k ∧ k < w ∧ k < 1000) (hv : wI v2 = wI v) (rv : rg v2) (t : Q none S (uc σ (r + 1) (u1 (σ (r + 1)) (row * w + k) v2)) τ) : wc (d + 0) 56 [.ref r, .int (wI row), .int (wI k), .int (wI v)] S σ τ Q := by
  refine wc_ok fun K => ?_
  have hr := hR K
  have hw : σ r 0 = w := hr.2.2.2.1
  refine wc_of mi_56 rfl (u_56_0 hr ⟨rr, ?_⟩)
  rw [hw, if_neg (by omega), if_neg (by omega)]
  refine ⟨by omega, ?_⟩
  rw [if_neg (by omega), if_neg (by omega)]
  exact ⟨rw_ix hr hb ⟨hk.1, hk.2.1⟩, v2, hv, rv, t⟩
theorem q_putN {d : Nat} {S : zS} {σ τ : zI} {Q : zQ} {r w n : Nat} {row k v : Int} (hR : kO S σ τ → oW S σ r w n) (rr : rg row) (hb : ¬ (0 ≤ row ∧ row < σ r 2)) (t : Q none S σ τ) : wc (d + 0) 56 [.ref r, .int (wI row), .int (wI k), .int (wI v)] S σ τ Q := by
  refine wc_ok fun K => ?_
  refine wc_of mi_56 rfl (u_56_0 (hR K) ⟨rr, ?_⟩)
  refine ifI (fun h1 => t) (fun h1 => ?_)
  rw [if_pos (by omega)]
  exact t
theorem q_raise {d : Nat} {S : zS} {σ τ : zI} {Q : zQ} {r w n : Nat} {row k v v2 : Int} (hR : kO S σ τ → oW S σ r w n) (rr : rg row) (hb : 0 ≤ row ∧ row < σ r 2) (hk : 0 ≤ k ∧ k < w ∧ k < 1000) (hv : wI v2 = wI (σ (r + 1) (row * w + k) + v)) (rv : rg v2) (t : Q none S (uc σ (r + 1) (u1 (σ (r + 1)) (row * w + k) v2)) τ) : wc (d + 0) 57 [.ref r, .int (wI row), .int (wI k), .int (wI v)] S σ τ Q := by
  refine wc_ok fun K => ?_
  have hr := hR K
  have hw : σ r 0 = w := hr.2.2.2.1
  refine wc_of mi_57 rfl (u_57_0 hr ⟨rr, ?_⟩)
  rw [hw, if_neg (by omega), if_neg (by omega)]
  refine ⟨by omega, ?_⟩
  rw [if_neg (by omega), if_neg (by omega)]
  exact ⟨rw_ix hr hb ⟨hk.1, hk.2.1⟩, v2, hv, rv, t⟩
theorem q_raiseN {d : Nat} {S : zS} {σ τ : zI} {Q : zQ} {r w n : Nat} {row k v : Int} (hR : kO S σ τ → oW S σ r w n) (rr : rg row) (hb : ¬ (0 ≤ row ∧ row < σ r 2)) (t : Q none S σ τ) : wc (d + 0) 57 [.ref r, .int (wI row), .int (wI k), .int (wI v)] S σ τ Q := by
  refine wc_ok fun K => ?_
  refine wc_of mi_57 rfl (u_57_0 (hR K) ⟨rr, ?_⟩)
  refine ifI (fun h1 => t) (fun h1 => ?_)
  rw [if_pos (by omega)]
  exact t
theorem wi_b {d M pc : Nat} {L st : List Value} {S : zS} {σ τ : zI} {Q : zQ} {c1 c2 : Prop} [Decidable c1] [Decidable c2] (h : c1 ↔ c2) (t : wi d M pc L (.int (wI (if c2 then 1 else 0)) :: st) S σ τ Q) : wi d M pc L (.int (wI (if c1 then 1 else 0)) :: st) S σ τ Q := by rw [bi_ h]; exact t
