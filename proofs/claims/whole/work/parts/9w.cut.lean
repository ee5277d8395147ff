/-! ===== the class cuts a tape (segments printed by wip/whole, contracts own work) ===== -/
-- method 37: MillTown$Reader.isDigit(I)Z
theorem c_37_0 : pg_cd 37 0 = (3, 1, 0, 0, 0) := by decide +kernel
theorem c_37_1 : pg_cd 37 1 = (1, 2, 0, 0, 48) := by decide +kernel
theorem c_37_3 : pg_cd 37 3 = (37, 3, 0, 2, 13) := by decide +kernel
theorem c_37_6 : pg_cd 37 6 = (3, 1, 0, 0, 0) := by decide +kernel
theorem c_37_7 : pg_cd 37 7 = (1, 2, 0, 0, 57) := by decide +kernel
theorem c_37_9 : pg_cd 37 9 = (37, 3, 0, 4, 7) := by decide +kernel
theorem c_37_12 : pg_cd 37 12 = (1, 1, 0, 0, 1) := by decide +kernel
theorem c_37_13 : pg_cd 37 13 = (38, 3, 0, 0, 4) := by decide +kernel
theorem c_37_16 : pg_cd 37 16 = (1, 1, 0, 0, 0) := by decide +kernel
theorem c_37_17 : pg_cd 37 17 = (91, 0, 0, 0, 0) := by decide +kernel
theorem mi_37 : pg_mc 37 = 3 ∧ pg_na 37 = 1 ∧ pg_mx 37 = 1 := by decide +kernel
set_option maxRecDepth 20000 in
theorem u_37_0 {d : Nat} {S : zS} {σ τ : zI} {Q : zQ} {x0 : Int} (t : (rg x0) ∧ if x0 < 48 then (Q (some (.int (wI 0))) S σ τ) else (if (57 : Int) < x0 then (Q (some (.int (wI 0))) S σ τ) else (Q (some (.int (wI 1))) S σ τ))) : wi (d + 0) 37 0 [.int (wI x0)] [] S σ τ Q := by
  obtain ⟨r1, t⟩ := t
  refine i3 c_37_0 rfl (i1 c_37_1 ?_)
  refine i37 c_37_3 r1 (by decide) rfl (fun hc => ?_) (fun hc => ?_)
  · have t := iT t hc
    have ha2 : x0 < 48 := hc
    refine i1 c_37_16 ?_
    exact i91 c_37_17 (by decide) t
  · have t := iF t hc
    have ha2 : ¬ (x0 < 48) := hc
    refine i3 c_37_6 rfl (i1 c_37_7 ?_)
    refine i37 c_37_9 r1 (by decide) rfl (fun hc => ?_) (fun hc => ?_)
    · have t := iT t hc
      have ha3 : (57 : Int) < x0 := hc
      refine i1 c_37_16 ?_
      exact i91 c_37_17 (by decide) t
    · have t := iF t hc
      have ha3 : ¬ ((57 : Int) < x0) := hc
      refine i1 c_37_12 (i38 c_37_13 rfl ?_)
      exact i91 c_37_17 (by decide) t
theorem q_37 {d : Nat} {S : zS} {σ τ : zI} {Q : zQ} {c : Int} (p0 : rg c) (t : Q (some (.int (wI (if cD c then 1 else 0)))) S σ τ) : wc (d + 0) 37 [.int (wI c)] S σ τ Q := by
  refine wc_of mi_37 rfl (u_37_0 ⟨p0, ifI (fun e => ?_) (fun e => ifI (fun e2 => ?_) (fun e2 => ?_))⟩)
  · rw [if_neg (by omega)] at t; exact t
  · rw [if_neg (by omega)] at t; exact t
  · rw [if_pos (by omega)] at t; exact t
-- method 38: MillTown$Reader.isLetter(I)Z
theorem c_38_0 : pg_cd 38 0 = (3, 1, 0, 0, 0) := by decide +kernel
theorem c_38_1 : pg_cd 38 1 = (1, 2, 0, 0, 97) := by decide +kernel
theorem c_38_3 : pg_cd 38 3 = (37, 3, 0, 2, 9) := by decide +kernel
theorem c_38_6 : pg_cd 38 6 = (3, 1, 0, 0, 0) := by decide +kernel
theorem c_38_7 : pg_cd 38 7 = (1, 2, 0, 0, 122) := by decide +kernel
theorem c_38_9 : pg_cd 38 9 = (37, 3, 0, 5, 15) := by decide +kernel
theorem c_38_12 : pg_cd 38 12 = (3, 1, 0, 0, 0) := by decide +kernel
theorem c_38_13 : pg_cd 38 13 = (1, 2, 0, 0, 65) := by decide +kernel
theorem c_38_15 : pg_cd 38 15 = (37, 3, 0, 2, 13) := by decide +kernel
theorem c_38_18 : pg_cd 38 18 = (3, 1, 0, 0, 0) := by decide +kernel
theorem c_38_19 : pg_cd 38 19 = (1, 2, 0, 0, 90) := by decide +kernel
theorem c_38_21 : pg_cd 38 21 = (37, 3, 0, 4, 7) := by decide +kernel
theorem c_38_24 : pg_cd 38 24 = (1, 1, 0, 0, 1) := by decide +kernel
theorem c_38_25 : pg_cd 38 25 = (38, 3, 0, 0, 4) := by decide +kernel
theorem c_38_28 : pg_cd 38 28 = (1, 1, 0, 0, 0) := by decide +kernel
theorem c_38_29 : pg_cd 38 29 = (91, 0, 0, 0, 0) := by decide +kernel
theorem mi_38 : pg_mc 38 = 3 ∧ pg_na 38 = 1 ∧ pg_mx 38 = 1 := by decide +kernel
set_option maxRecDepth 20000 in
theorem u_38_0 {d : Nat} {S : zS} {σ τ : zI} {Q : zQ} {x0 : Int} (t : (rg x0) ∧ if x0 < 97 then (if x0 < 65 then (Q (some (.int (wI 0))) S σ τ) else (if (90 : Int) < x0 then (Q (some (.int (wI 0))) S σ τ) else (Q (some (.int (wI 1))) S σ τ))) else (if x0 ≤ 122 then (Q (some (.int (wI 1))) S σ τ) else (if x0 < 65 then (Q (some (.int (wI 0))) S σ τ) else (if (90 : Int) < x0 then (Q (some (.int (wI 0))) S σ τ) else (Q (some (.int (wI 1))) S σ τ))))) : wi (d + 0) 38 0 [.int (wI x0)] [] S σ τ Q := by
  obtain ⟨r1, t⟩ := t
  refine i3 c_38_0 rfl (i1 c_38_1 ?_)
  refine i37 c_38_3 r1 (by decide) rfl (fun hc => ?_) (fun hc => ?_)
  · have t := iT t hc
    have ha2 : x0 < 97 := hc
    refine i3 c_38_12 rfl (i1 c_38_13 ?_)
    refine i37 c_38_15 r1 (by decide) rfl (fun hc => ?_) (fun hc => ?_)
    · have t := iT t hc
      have ha3 : x0 < 65 := hc
      refine i1 c_38_28 ?_
      exact i91 c_38_29 (by decide) t
    · have t := iF t hc
      have ha3 : ¬ (x0 < 65) := hc
      refine i3 c_38_18 rfl (i1 c_38_19 ?_)
      refine i37 c_38_21 r1 (by decide) rfl (fun hc => ?_) (fun hc => ?_)
      · have t := iT t hc
        have ha4 : (90 : Int) < x0 := hc
        refine i1 c_38_28 ?_
        exact i91 c_38_29 (by decide) t
      · have t := iF t hc
        have ha4 : ¬ ((90 : Int) < x0) := hc
        refine i1 c_38_24 (i38 c_38_25 rfl ?_)
        exact i91 c_38_29 (by decide) t
  · have t := iF t hc
    have ha2 : ¬ (x0 < 97) := hc
    refine i3 c_38_6 rfl (i1 c_38_7 ?_)
    refine i37 c_38_9 r1 (by decide) rfl (fun hc => ?_) (fun hc => ?_)
    · have t := iT t hc
      have ha5 : x0 ≤ 122 := hc
      refine i1 c_38_24 (i38 c_38_25 rfl ?_)
      exact i91 c_38_29 (by decide) t
    · have t := iF t hc
      have ha5 : ¬ (x0 ≤ 122) := hc
      refine i3 c_38_12 rfl (i1 c_38_13 ?_)
      refine i37 c_38_15 r1 (by decide) rfl (fun hc => ?_) (fun hc => ?_)
      · have t := iT t hc
        have ha6 : x0 < 65 := hc
        refine i1 c_38_28 ?_
        exact i91 c_38_29 (by decide) t
      · have t := iF t hc
        have ha6 : ¬ (x0 < 65) := hc
        refine i3 c_38_18 rfl (i1 c_38_19 ?_)
        refine i37 c_38_21 r1 (by decide) rfl (fun hc => ?_) (fun hc => ?_)
        · have t := iT t hc
          have ha7 : (90 : Int) < x0 := hc
          refine i1 c_38_28 ?_
          exact i91 c_38_29 (by decide) t
        · have t := iF t hc
          have ha7 : ¬ ((90 : Int) < x0) := hc
          refine i1 c_38_24 (i38 c_38_25 rfl ?_)
          exact i91 c_38_29 (by decide) t
theorem q_38 {d : Nat} {S : zS} {σ τ : zI} {Q : zQ} {c : Int} (p0 : rg c) (t : Q (some (.int (wI (if cL c then 1 else 0)))) S σ τ) : wc (d + 0) 38 [.int (wI c)] S σ τ Q := by
  refine wc_of mi_38 rfl (u_38_0 ⟨p0, ifI (fun e => ifI (fun e2 => ?_) (fun e2 => ifI (fun e3 => ?_) (fun e3 => ?_))) (fun e => ifI (fun e2 => ?_) (fun e2 => ifI (fun e3 => ?_) (fun e3 => ifI (fun e4 => ?_) (fun e4 => ?_))))⟩)
  · rw [if_neg (by omega)] at t; exact t
  · rw [if_neg (by omega)] at t; exact t
  · rw [if_pos (by omega)] at t; exact t
  · rw [if_pos (by omega)] at t; exact t
  · rw [if_neg (by omega)] at t; exact t
  · rw [if_neg (by omega)] at t; exact t
  · rw [if_pos (by omega)] at t; exact t
-- method 39: MillTown$Reader.tokenEnd([III)I
theorem c_39_0 : pg_cd 39 0 = (3, 1, 0, 2, 0) := by decide +kernel
theorem c_39_1 : pg_cd 39 1 = (1, 1, 0, 0, 1) := by decide +kernel
theorem c_39_2 : pg_cd 39 2 = (10, 1, 0, 0, 0) := by decide +kernel
theorem c_39_3 : pg_cd 39 3 = (6, 1, 0, 3, 0) := by decide +kernel
theorem c_39_4 : pg_cd 39 4 = (5, 1, 0, 0, 0) := by decide +kernel
theorem c_39_5 : pg_cd 39 5 = (3, 1, 0, 2, 0) := by decide +kernel
theorem c_39_6 : pg_cd 39 6 = (50, 1, 0, 0, 0) := by decide +kernel
theorem c_39_7 : pg_cd 39 7 = (6, 2, 0, 4, 0) := by decide +kernel
theorem c_39_9 : pg_cd 39 9 = (3, 2, 0, 4, 0) := by decide +kernel
theorem c_39_11 : pg_cd 39 11 = (81, 38, 79, 0, 0) := by decide +kernel
theorem c_39_14 : pg_cd 39 14 = (36, 3, 0, 1, 11) := by decide +kernel
theorem c_39_17 : pg_cd 39 17 = (3, 2, 0, 4, 0) := by decide +kernel
theorem c_39_19 : pg_cd 39 19 = (81, 37, 83, 0, 0) := by decide +kernel
theorem c_39_22 : pg_cd 39 22 = (36, 3, 0, 0, 43) := by decide +kernel
theorem c_39_25 : pg_cd 39 25 = (3, 1, 0, 3, 0) := by decide +kernel
theorem c_39_26 : pg_cd 39 26 = (3, 1, 0, 1, 0) := by decide +kernel
theorem c_39_27 : pg_cd 39 27 = (37, 3, 0, 3, 68) := by decide +kernel
theorem c_39_30 : pg_cd 39 30 = (3, 2, 0, 4, 0) := by decide +kernel
theorem c_39_32 : pg_cd 39 32 = (81, 38, 79, 0, 0) := by decide +kernel
theorem c_39_35 : pg_cd 39 35 = (36, 3, 0, 0, 15) := by decide +kernel
theorem c_39_38 : pg_cd 39 38 = (5, 1, 0, 0, 0) := by decide +kernel
theorem c_39_39 : pg_cd 39 39 = (3, 1, 0, 3, 0) := by decide +kernel
theorem c_39_40 : pg_cd 39 40 = (50, 1, 0, 0, 0) := by decide +kernel
theorem c_39_41 : pg_cd 39 41 = (81, 38, 79, 0, 0) := by decide +kernel
theorem c_39_44 : pg_cd 39 44 = (36, 3, 0, 0, 51) := by decide +kernel
theorem c_39_47 : pg_cd 39 47 = (38, 3, 0, 0, 12) := by decide +kernel
theorem c_39_50 : pg_cd 39 50 = (5, 1, 0, 0, 0) := by decide +kernel
theorem c_39_51 : pg_cd 39 51 = (3, 1, 0, 3, 0) := by decide +kernel
theorem c_39_52 : pg_cd 39 52 = (50, 1, 0, 0, 0) := by decide +kernel
theorem c_39_53 : pg_cd 39 53 = (81, 37, 83, 0, 0) := by decide +kernel
theorem c_39_56 : pg_cd 39 56 = (36, 3, 0, 0, 39) := by decide +kernel
theorem c_39_59 : pg_cd 39 59 = (9, 3, 0, 3, 1) := by decide +kernel
theorem c_39_62 : pg_cd 39 62 = (38, 3, 0, 0, (-37)) := by decide +kernel
theorem c_39_65 : pg_cd 39 65 = (3, 2, 0, 4, 0) := by decide +kernel
theorem c_39_67 : pg_cd 39 67 = (1, 2, 0, 0, 60) := by decide +kernel
theorem c_39_69 : pg_cd 39 69 = (37, 3, 0, 0, 10) := by decide +kernel
theorem c_39_72 : pg_cd 39 72 = (3, 2, 0, 4, 0) := by decide +kernel
theorem c_39_74 : pg_cd 39 74 = (1, 2, 0, 0, 62) := by decide +kernel
theorem c_39_76 : pg_cd 39 76 = (37, 3, 0, 1, 19) := by decide +kernel
theorem c_39_79 : pg_cd 39 79 = (3, 1, 0, 3, 0) := by decide +kernel
theorem c_39_80 : pg_cd 39 80 = (3, 1, 0, 1, 0) := by decide +kernel
theorem c_39_81 : pg_cd 39 81 = (37, 3, 0, 3, 14) := by decide +kernel
theorem c_39_84 : pg_cd 39 84 = (5, 1, 0, 0, 0) := by decide +kernel
theorem c_39_85 : pg_cd 39 85 = (3, 1, 0, 3, 0) := by decide +kernel
theorem c_39_86 : pg_cd 39 86 = (50, 1, 0, 0, 0) := by decide +kernel
theorem c_39_87 : pg_cd 39 87 = (1, 2, 0, 0, 61) := by decide +kernel
theorem c_39_89 : pg_cd 39 89 = (37, 3, 0, 1, 6) := by decide +kernel
theorem c_39_92 : pg_cd 39 92 = (9, 3, 0, 3, 1) := by decide +kernel
theorem c_39_95 : pg_cd 39 95 = (3, 1, 0, 3, 0) := by decide +kernel
theorem c_39_96 : pg_cd 39 96 = (90, 0, 0, 0, 0) := by decide +kernel
theorem mi_39 : pg_mc 39 = 3 ∧ pg_na 39 = 3 ∧ pg_mx 39 = 5 := by decide +kernel
set_option maxRecDepth 20000 in
theorem u_39_0 {d : Nat} {S : zS} {σ τ : zI} {Q : zQ} {x1 : Int} {x2 : Int} (t : (0 ≤ x2 ∧ x2 < 300) ∧ if cL (σ 82 x2) then (wi (d + 2) 39 25 [.ref 82, .int (wI x1), .int (wI x2), .int (wI (x2 + 1)), .int (wI (σ 82 x2))] [] S σ τ Q) else (if cD (σ 82 x2) then (wi (d + 2) 39 25 [.ref 82, .int (wI x1), .int (wI x2), .int (wI (x2 + 1)), .int (wI (σ 82 x2))] [] S σ τ Q) else (if (σ 82 x2) = 60 then ((rg (x2 + 1)) ∧ (rg x1) ∧ if x1 ≤ (x2 + 1) then (Q (some (.int (wI (x2 + 1)))) S σ τ) else ((0 ≤ x2 + 1 ∧ x2 + 1 < 300) ∧ if (σ 82 (x2 + 1)) = 61 then (Q (some (.int (wI ((x2 + 1) + 1)))) S σ τ) else (Q (some (.int (wI (x2 + 1)))) S σ τ))) else (if (σ 82 x2) = 62 then ((rg (x2 + 1)) ∧ (rg x1) ∧ if x1 ≤ (x2 + 1) then (Q (some (.int (wI (x2 + 1)))) S σ τ) else ((0 ≤ x2 + 1 ∧ x2 + 1 < 300) ∧ if (σ 82 (x2 + 1)) = 61 then (Q (some (.int (wI ((x2 + 1) + 1)))) S σ τ) else (Q (some (.int (wI (x2 + 1)))) S σ τ))) else (Q (some (.int (wI (x2 + 1)))) S σ τ))))) : wi (d + 2) 39 0 [.ref 82, .int (wI x1), .int (wI x2), .retAddr 0, .retAddr 0] [] S σ τ Q := by
  obtain ⟨r1, t⟩ := t
  refine i3 c_39_0 rfl (i1 c_39_1 (i10 c_39_2 (i6 (L' := [.ref 82, .int (wI x1), .int (wI x2), .int (wI (x2 + 1)), .retAddr 0]) c_39_3 rfl (i5 c_39_4 rfl (i3 c_39_5 rfl (wi_ok (fun K2 => ?_)))))))
  refine i50 (v := σ 82 x2) c_39_6 (lo (c := 82) (kd := 0) (n := 300) rfl (by decide)) (by decide) r1 rfl (i6 (L' := [.ref 82, .int (wI x1), .int (wI x2), .int (wI (x2 + 1)), .int (wI (σ 82 x2))]) c_39_7 rfl (i3 c_39_9 rfl ?_))
  refine i81 (As := [.int (wI (σ 82 x2))]) (rest := []) c_39_11 mi_38 rfl rfl (Nat.le_of_ble_eq_true rfl) (Nat.le_of_ble_eq_true rfl) (q_38 (rge_ K2 rfl) ?_)
  show wi (d + 2) 39 14 [.ref 82, .int (wI x1), .int (wI x2), .int (wI (x2 + 1)), .int (wI (σ 82 x2))] [.int (wI (if cL (σ 82 x2) then 1 else 0))] S σ τ Q
  refine i36f c_39_14 rfl (fun hc => ?_) (fun hc => ?_)
  · have t := iT t hc
    have ha3 : cL (σ 82 x2) := hc
    exact t
  · have t := iF t hc
    have ha3 : ¬ (cL (σ 82 x2)) := hc
    refine i3 c_39_17 rfl ?_
    refine i81 (As := [.int (wI (σ 82 x2))]) (rest := []) c_39_19 mi_37 rfl rfl (Nat.le_of_ble_eq_true rfl) (Nat.le_of_ble_eq_true rfl) (q_37 (rge_ K2 rfl) ?_)
    show wi (d + 2) 39 22 [.ref 82, .int (wI x1), .int (wI x2), .int (wI (x2 + 1)), .int (wI (σ 82 x2))] [.int (wI (if cD (σ 82 x2) then 1 else 0))] S σ τ Q
    refine i36e c_39_22 rfl (fun hc => ?_) (fun hc => ?_)
    · have t := iT t hc
      have ha4 : cD (σ 82 x2) := hc
      exact t
    · have t := iF t hc
      have ha4 : ¬ (cD (σ 82 x2)) := hc
      refine i3 c_39_65 rfl (i1 c_39_67 ?_)
      refine i37 c_39_69 (rge_ K2 rfl) (by decide) rfl (fun hc => ?_) (fun hc => ?_)
      · have t := iT t hc
        have ha5 : (σ 82 x2) = 60 := hc
        obtain ⟨r6, t⟩ := t
        obtain ⟨r7, t⟩ := t
        refine i3 c_39_79 rfl (i3 c_39_80 rfl ?_)
        refine i37 c_39_81 r6 r7 rfl (fun hc => ?_) (fun hc => ?_)
        · have t := iT t hc
          have ha8 : x1 ≤ (x2 + 1) := hc
          refine i3 c_39_95 rfl ?_
          exact i90 c_39_96 t
        · have t := iF t hc
          have ha8 : ¬ (x1 ≤ (x2 + 1)) := hc
          obtain ⟨r9, t⟩ := t
          refine i5 c_39_84 rfl (i3 c_39_85 rfl (i50 (v := σ 82 (x2 + 1)) c_39_86 (lo (c := 82) (kd := 0) (n := 300) rfl (by decide)) (by decide) r9 rfl (i1 c_39_87 ?_)))
          refine i37 c_39_89 (rge_ K2 rfl) (by decide) rfl (fun hc => ?_) (fun hc => ?_)
          · have t := iF t hc
            have ha10 : ¬ ((σ 82 (x2 + 1)) = 61) := hc
            refine i3 c_39_95 rfl ?_
            exact i90 c_39_96 t
          · have t := iT t (Decidable.not_not.mp hc)
            have ha10 : (σ 82 (x2 + 1)) = 61 := Decidable.not_not.mp hc
            refine i9 (L' := [.ref 82, .int (wI x1), .int (wI x2), .int (wI ((x2 + 1) + 1)), .int (wI (σ 82 x2))]) c_39_92 rfl rfl (i3 c_39_95 rfl ?_)
            exact i90 c_39_96 t
      · have t := iF t hc
        have ha5 : ¬ ((σ 82 x2) = 60) := hc
        refine i3 c_39_72 rfl (i1 c_39_74 ?_)
        refine i37 c_39_76 (rge_ K2 rfl) (by decide) rfl (fun hc => ?_) (fun hc => ?_)
        · have t := iF t hc
          have ha11 : ¬ ((σ 82 x2) = 62) := hc
          refine i3 c_39_95 rfl ?_
          exact i90 c_39_96 t
        · have t := iT t (Decidable.not_not.mp hc)
          have ha11 : (σ 82 x2) = 62 := Decidable.not_not.mp hc
          obtain ⟨r12, t⟩ := t
          obtain ⟨r13, t⟩ := t
          refine i3 c_39_79 rfl (i3 c_39_80 rfl ?_)
          refine i37 c_39_81 r12 r13 rfl (fun hc => ?_) (fun hc => ?_)
          · have t := iT t hc
            have ha14 : x1 ≤ (x2 + 1) := hc
            refine i3 c_39_95 rfl ?_
            exact i90 c_39_96 t
          · have t := iF t hc
            have ha14 : ¬ (x1 ≤ (x2 + 1)) := hc
            obtain ⟨r15, t⟩ := t
            refine i5 c_39_84 rfl (i3 c_39_85 rfl (i50 (v := σ 82 (x2 + 1)) c_39_86 (lo (c := 82) (kd := 0) (n := 300) rfl (by decide)) (by decide) r15 rfl (i1 c_39_87 ?_)))
            refine i37 c_39_89 (rge_ K2 rfl) (by decide) rfl (fun hc => ?_) (fun hc => ?_)
            · have t := iF t hc
              have ha16 : ¬ ((σ 82 (x2 + 1)) = 61) := hc
              refine i3 c_39_95 rfl ?_
              exact i90 c_39_96 t
            · have t := iT t (Decidable.not_not.mp hc)
              have ha16 : (σ 82 (x2 + 1)) = 61 := Decidable.not_not.mp hc
              refine i9 (L' := [.ref 82, .int (wI x1), .int (wI x2), .int (wI ((x2 + 1) + 1)), .int (wI (σ 82 x2))]) c_39_92 rfl rfl (i3 c_39_95 rfl ?_)
              exact i90 c_39_96 t
set_option maxRecDepth 20000 in
theorem u_39_25 {d : Nat} {S : zS} {σ τ : zI} {Q : zQ} {x1 : Int} {x2 : Int} {x3 : Int} {x4 : Int} (t : (rg x3) ∧ (rg x1) ∧ if x1 ≤ x3 then (Q (some (.int (wI x3))) S σ τ) else ((rg x4) ∧ if cL x4 then ((0 ≤ x3 ∧ x3 < 300) ∧ if cL (σ 82 x3) then (wi (d + 2) 39 25 [.ref 82, .int (wI x1), .int (wI x2), .int (wI (x3 + 1)), .int (wI x4)] [] S σ τ Q) else (Q (some (.int (wI x3))) S σ τ)) else ((0 ≤ x3 ∧ x3 < 300) ∧ if cD (σ 82 x3) then (wi (d + 2) 39 25 [.ref 82, .int (wI x1), .int (wI x2), .int (wI (x3 + 1)), .int (wI x4)] [] S σ τ Q) else (Q (some (.int (wI x3))) S σ τ)))) : wi (d + 2) 39 25 [.ref 82, .int (wI x1), .int (wI x2), .int (wI x3), .int (wI x4)] [] S σ τ Q := by
  obtain ⟨r1, t⟩ := t
  obtain ⟨r2, t⟩ := t
  refine i3 c_39_25 rfl (i3 c_39_26 rfl ?_)
  refine i37 c_39_27 r1 r2 rfl (fun hc => ?_) (fun hc => ?_)
  · have t := iT t hc
    have ha3 : x1 ≤ x3 := hc
    refine i3 c_39_95 rfl ?_
    exact i90 c_39_96 t
  · have t := iF t hc
    have ha3 : ¬ (x1 ≤ x3) := hc
    obtain ⟨r4, t⟩ := t
    refine i3 c_39_30 rfl ?_
    refine i81 (As := [.int (wI x4)]) (rest := []) c_39_32 mi_38 rfl rfl (Nat.le_of_ble_eq_true rfl) (Nat.le_of_ble_eq_true rfl) (q_38 r4 ?_)
    show wi (d + 2) 39 35 [.ref 82, .int (wI x1), .int (wI x2), .int (wI x3), .int (wI x4)] [.int (wI (if cL x4 then 1 else 0))] S σ τ Q
    refine i36e c_39_35 rfl (fun hc => ?_) (fun hc => ?_)
    · have t := iT t hc
      have ha5 : cL x4 := hc
      obtain ⟨r6, t⟩ := t
      refine i5 c_39_38 rfl (i3 c_39_39 rfl (wi_ok (fun K7 => ?_)))
      refine i50 (v := σ 82 x3) c_39_40 (lo (c := 82) (kd := 0) (n := 300) rfl (by decide)) (by decide) r6 rfl ?_
      refine i81 (As := [.int (wI (σ 82 x3))]) (rest := []) c_39_41 mi_38 rfl rfl (Nat.le_of_ble_eq_true rfl) (Nat.le_of_ble_eq_true rfl) (q_38 (rge_ K7 rfl) ?_)
      show wi (d + 2) 39 44 [.ref 82, .int (wI x1), .int (wI x2), .int (wI x3), .int (wI x4)] [.int (wI (if cL (σ 82 x3) then 1 else 0))] S σ τ Q
      refine i36e c_39_44 rfl (fun hc => ?_) (fun hc => ?_)
      · have t := iT t hc
        have ha8 : cL (σ 82 x3) := hc
        refine i38 c_39_47 rfl (i9 (L' := [.ref 82, .int (wI x1), .int (wI x2), .int (wI (x3 + 1)), .int (wI x4)]) c_39_59 rfl rfl (i38 c_39_62 rfl t))
      · have t := iF t hc
        have ha8 : ¬ (cL (σ 82 x3)) := hc
        refine i3 c_39_95 rfl ?_
        exact i90 c_39_96 t
    · have t := iF t hc
      have ha5 : ¬ (cL x4) := hc
      obtain ⟨r9, t⟩ := t
      refine i5 c_39_50 rfl (i3 c_39_51 rfl (wi_ok (fun K10 => ?_)))
      refine i50 (v := σ 82 x3) c_39_52 (lo (c := 82) (kd := 0) (n := 300) rfl (by decide)) (by decide) r9 rfl ?_
      refine i81 (As := [.int (wI (σ 82 x3))]) (rest := []) c_39_53 mi_37 rfl rfl (Nat.le_of_ble_eq_true rfl) (Nat.le_of_ble_eq_true rfl) (q_37 (rge_ K10 rfl) ?_)
      show wi (d + 2) 39 56 [.ref 82, .int (wI x1), .int (wI x2), .int (wI x3), .int (wI x4)] [.int (wI (if cD (σ 82 x3) then 1 else 0))] S σ τ Q
      refine i36e c_39_56 rfl (fun hc => ?_) (fun hc => ?_)
      · have t := iT t hc
        have ha11 : cD (σ 82 x3) := hc
        refine i9 (L' := [.ref 82, .int (wI x1), .int (wI x2), .int (wI (x3 + 1)), .int (wI x4)]) c_39_59 rfl rfl (i38 c_39_62 rfl t)
      · have t := iF t hc
        have ha11 : ¬ (cD (σ 82 x3)) := hc
        refine i3 c_39_95 rfl ?_
        exact i90 c_39_96 t
theorem q_39 {d : Nat} {S : zS} {σ τ : zI} {Q : zQ} {n : Int} {p : Int} (p0 : TB (σ 82) n) (p1 : 0 ≤ p ∧ p < n) (t : Q (some (.int (wI (tE (σ 82) n p)))) S σ τ) : wc (d + 2) 39 [.ref 82, .int (wI n), .int (wI p)] S σ τ Q := by
  obtain ⟨T, hT⟩ : ∃ T, T = σ 82 := ⟨_, rfl⟩
  rw [← hT] at p0 t
  obtain ⟨n0, hb⟩ := id p0
  have bp := hb p p1.1 p1.2
  have eT : tE T n p = if cL (T p) then rn bL T n (p + 1) else if cD (T p) then rn bD T n (p + 1) else if (T p = 60 ∨ T p = 62) ∧ sv T n (p + 1) = 61 then p + 2 else p + 1 := if_neg (by omega)
  have lp : ∀ q, 0 ≤ q → q ≤ n → p < q → cL (T p) ∨ cD (T p) → (cL (T p) → rn bL T n q = tE T n p) → (¬ cL (T p) → rn bD T n q = tE T n p) → wi (d + 2) 39 25 [.ref 82, .int (wI n), .int (wI p), .int (wI q), .int (wI (T p))] [] S σ τ Q := by
    refine lp_up (fun q q0 q1 ih => ?_)
    intro pq hc hl hd
    refine u_39_25 ⟨by omega, by omega, ifI (fun e => ?_) (fun e => ⟨by omega, ifI (fun c => ⟨by omega, ?_⟩) (fun c => ⟨by omega, ?_⟩)⟩)⟩
    · have eq : q = tE T n p := by
        by_cases c : cL (T p)
        · rw [← hl c]; exact (rn_st (fun z => by omega)).symm
        · rw [← hd c]; exact (rn_st (fun z => by omega)).symm
      rw [eq]; exact t
    · rw [← hT]
      refine ifI (fun c2 => ih (by omega) (by omega) hc (fun _ => ?_) (fun z => absurd c z)) (fun c2 => ?_)
      · rw [← hl c]; exact (rn_go (by omega) (bL_i.mpr c2)).symm
      · have eq : q = tE T n p := by rw [← hl c]; exact (rn_st (fun z => c2 (bL_i.mp z.2))).symm
        rw [eq]; exact t
    · rw [← hT]
      refine ifI (fun c2 => ih (by omega) (by omega) hc (fun z => absurd z c) (fun _ => ?_)) (fun c2 => ?_)
      · rw [← hd c]; exact (rn_go (by omega) (bD_i.mpr c2)).symm
      · have eq : q = tE T n p := by rw [← hd c]; exact (rn_st (fun z => c2 (bD_i.mp z.2))).symm
        rw [eq]; exact t
  have sg : T p = 60 ∨ T p = 62 → (rg (p + 1)) ∧ (rg n) ∧ if n ≤ (p + 1) then (Q (some (.int (wI (p + 1)))) S σ τ) else ((0 ≤ p + 1 ∧ p + 1 < 300) ∧ if (T (p + 1)) = 61 then (Q (some (.int (wI ((p + 1) + 1)))) S σ τ) else (Q (some (.int (wI (p + 1)))) S σ τ)) := fun hc => by
    rw [if_neg (by omega), if_neg (by omega)] at eT
    refine ⟨by omega, by omega, ifI (fun e => ?_) (fun e => ⟨by omega, ifI (fun e2 => ?_) (fun e2 => ?_)⟩)⟩
    · rw [if_neg (fun z => by have := z.2; rw [sv_n (by omega)] at this; omega)] at eT
      rw [← eT]; exact t
    · rw [if_pos ⟨hc, by rw [sv_p (by omega)]; exact e2⟩] at eT
      rw [show p + 1 + 1 = tE T n p by omega]; exact t
    · rw [if_neg (fun z => e2 (by have := z.2; rw [sv_p (by omega)] at this; exact this))] at eT
      rw [← eT]; exact t
  refine wc_of mi_39 rfl (u_39_0 ⟨by omega, ?_⟩)
  rw [← hT]
  refine ifI (fun c1 => ?_) (fun c1 => ifI (fun c2 => ?_) (fun c2 => ifI (fun c3 => sg (Or.inl c3)) (fun c3 => ifI (fun c4 => sg (Or.inr c4)) (fun c4 => ?_))))
  · exact lp (p + 1) (by omega) (by omega) (by omega) (Or.inl c1) (fun _ => by rw [eT, if_pos c1]) (fun z => absurd c1 z)
  · exact lp (p + 1) (by omega) (by omega) (by omega) (Or.inr c2) (fun z => absurd z c1) (fun _ => by rw [eT, if_neg c1, if_pos c2])
  · rw [if_neg c1, if_neg c2, if_neg (fun z => z.1.elim c3 c4)] at eT
    rw [← eT]; exact t
-- method 42: MillTown$Reader.numberAt([III)I
theorem c_42_0 : pg_cd 42 0 = (1, 1, 0, 0, 0) := by decide +kernel
theorem c_42_1 : pg_cd 42 1 = (6, 1, 0, 3, 0) := by decide +kernel
theorem c_42_2 : pg_cd 42 2 = (3, 1, 0, 1, 0) := by decide +kernel
theorem c_42_3 : pg_cd 42 3 = (6, 2, 0, 4, 0) := by decide +kernel
theorem c_42_5 : pg_cd 42 5 = (3, 2, 0, 4, 0) := by decide +kernel
theorem c_42_7 : pg_cd 42 7 = (3, 1, 0, 2, 0) := by decide +kernel
theorem c_42_8 : pg_cd 42 8 = (37, 3, 0, 3, 38) := by decide +kernel
theorem c_42_11 : pg_cd 42 11 = (5, 1, 0, 0, 0) := by decide +kernel
theorem c_42_12 : pg_cd 42 12 = (3, 2, 0, 4, 0) := by decide +kernel
theorem c_42_14 : pg_cd 42 14 = (50, 1, 0, 0, 0) := by decide +kernel
theorem c_42_15 : pg_cd 42 15 = (81, 37, 83, 0, 0) := by decide +kernel
theorem c_42_18 : pg_cd 42 18 = (36, 3, 0, 0, 28) := by decide +kernel
theorem c_42_21 : pg_cd 42 21 = (3, 1, 0, 3, 0) := by decide +kernel
theorem c_42_22 : pg_cd 42 22 = (1, 2, 0, 0, 10) := by decide +kernel
theorem c_42_24 : pg_cd 42 24 = (12, 1, 0, 0, 0) := by decide +kernel
theorem c_42_25 : pg_cd 42 25 = (5, 1, 0, 0, 0) := by decide +kernel
theorem c_42_26 : pg_cd 42 26 = (3, 2, 0, 4, 0) := by decide +kernel
theorem c_42_28 : pg_cd 42 28 = (50, 1, 0, 0, 0) := by decide +kernel
theorem c_42_29 : pg_cd 42 29 = (10, 1, 0, 0, 0) := by decide +kernel
theorem c_42_30 : pg_cd 42 30 = (1, 2, 0, 0, 48) := by decide +kernel
theorem c_42_32 : pg_cd 42 32 = (11, 1, 0, 0, 0) := by decide +kernel
theorem c_42_33 : pg_cd 42 33 = (1, 3, 0, 0, 10000) := by decide +kernel
theorem c_42_36 : pg_cd 42 36 = (74, 0, 33, 0, 0) := by decide +kernel
theorem c_42_39 : pg_cd 42 39 = (6, 1, 0, 3, 0) := by decide +kernel
theorem c_42_40 : pg_cd 42 40 = (9, 3, 0, 4, 1) := by decide +kernel
theorem c_42_43 : pg_cd 42 43 = (38, 3, 0, 0, (-38)) := by decide +kernel
theorem c_42_46 : pg_cd 42 46 = (3, 1, 0, 3, 0) := by decide +kernel
theorem c_42_47 : pg_cd 42 47 = (90, 0, 0, 0, 0) := by decide +kernel
theorem mi_42 : pg_mc 42 = 3 ∧ pg_na 42 = 3 ∧ pg_mx 42 = 5 := by decide +kernel
set_option maxRecDepth 20000 in
theorem u_42_0 {d : Nat} {S : zS} {σ τ : zI} {Q : zQ} {x1 : Int} {x2 : Int} (t : wi (d + 8) 42 5 [.ref 82, .int (wI x1), .int (wI x2), .int (wI 0), .int (wI x1)] [] S σ τ Q) : wi (d + 8) 42 0 [.ref 82, .int (wI x1), .int (wI x2), .retAddr 0, .retAddr 0] [] S σ τ Q := by
  refine i1 c_42_0 (i6 (L' := [.ref 82, .int (wI x1), .int (wI x2), .int (wI 0), .retAddr 0]) c_42_1 rfl (i3 c_42_2 rfl (i6 (L' := [.ref 82, .int (wI x1), .int (wI x2), .int (wI 0), .int (wI x1)]) c_42_3 rfl t)))
set_option maxRecDepth 20000 in
theorem u_42_5 {d : Nat} {S : zS} {σ τ : zI} {Q : zQ} {x1 : Int} {x2 : Int} {x3 : Int} {x4 : Int} (t : (rg x4) ∧ (rg x2) ∧ if x2 ≤ x4 then (Q (some (.int (wI x3))) S σ τ) else ((0 ≤ x4 ∧ x4 < 300) ∧ if cD (σ 82 x4) then ((rg (((x3 * 10) + (σ 82 x4)) - 48)) ∧ wi (d + 8) 42 5 [.ref 82, .int (wI x1), .int (wI x2), .int (wI (min (((x3 * 10) + (σ 82 x4)) - 48) 10000)), .int (wI (x4 + 1))] [] S σ τ Q) else (Q (some (.int (wI x3))) S σ τ))) : wi (d + 8) 42 5 [.ref 82, .int (wI x1), .int (wI x2), .int (wI x3), .int (wI x4)] [] S σ τ Q := by
  obtain ⟨r1, t⟩ := t
  obtain ⟨r2, t⟩ := t
  refine i3 c_42_5 rfl (i3 c_42_7 rfl ?_)
  refine i37 c_42_8 r1 r2 rfl (fun hc => ?_) (fun hc => ?_)
  · have t := iT t hc
    have ha3 : x2 ≤ x4 := hc
    refine i3 c_42_46 rfl ?_
    exact i90 c_42_47 t
  · have t := iF t hc
    have ha3 : ¬ (x2 ≤ x4) := hc
    obtain ⟨r4, t⟩ := t
    refine i5 c_42_11 rfl (i3 c_42_12 rfl (wi_ok (fun K5 => ?_)))
    refine i50 (v := σ 82 x4) c_42_14 (lo (c := 82) (kd := 0) (n := 300) rfl (by decide)) (by decide) r4 rfl ?_
    refine i81 (As := [.int (wI (σ 82 x4))]) (rest := []) c_42_15 mi_37 rfl rfl (Nat.le_of_ble_eq_true rfl) (Nat.le_of_ble_eq_true rfl) (q_37 (rge_ K5 rfl) ?_)
    show wi (d + 8) 42 18 [.ref 82, .int (wI x1), .int (wI x2), .int (wI x3), .int (wI x4)] [.int (wI (if cD (σ 82 x4) then 1 else 0))] S σ τ Q
    refine i36e c_42_18 rfl (fun hc => ?_) (fun hc => ?_)
    · have t := iT t hc
      have ha6 : cD (σ 82 x4) := hc
      obtain ⟨r7, t⟩ := t
      refine i3 c_42_21 rfl (i1 c_42_22 (i12 c_42_24 (i5 c_42_25 rfl (i3 c_42_26 rfl (i50 (v := σ 82 x4) c_42_28 (lo (c := 82) (kd := 0) (n := 300) rfl (by decide)) (by decide) r4 rfl (i10 c_42_29 (i1 c_42_30 (i11 c_42_32 (i1 c_42_33 (i74 c_42_36 (Nat.le_of_ble_eq_true rfl) (by omega) r7 (by decide) (i6 (L' := [.ref 82, .int (wI x1), .int (wI x2), .int (wI (min (((x3 * 10) + (σ 82 x4)) - 48) 10000)), .int (wI x4)]) c_42_39 rfl (i9 (L' := [.ref 82, .int (wI x1), .int (wI x2), .int (wI (min (((x3 * 10) + (σ 82 x4)) - 48) 10000)), .int (wI (x4 + 1))]) c_42_40 rfl rfl (i38 c_42_43 rfl t)))))))))))))
    · have t := iF t hc
      have ha6 : ¬ (cD (σ 82 x4)) := hc
      refine i3 c_42_46 rfl ?_
      exact i90 c_42_47 t
theorem q_42 {d : Nat} {S : zS} {σ τ : zI} {Q : zQ} {p : Int} {q : Int} (p0 : 0 ≤ p ∧ p ≤ q ∧ q ≤ 300) (p1 : (∀ x, p ≤ x → x < q → 0 ≤ σ 82 x ∧ σ 82 x ≤ 255)) (t : Q (some (.int (wI (nv (σ 82) p q)))) S σ τ) : wc (d + 8) 42 [.ref 82, .int (wI p), .int (wI q)] S σ τ Q := by
  obtain ⟨T, hT⟩ : ∃ T, T = σ 82 := ⟨_, rfl⟩
  rw [← hT] at p1 t
  have r := rn_I (P := bD) (T := T) (n := q) (p := p) p0.2.1
  have lp : ∀ x, 0 ≤ x → x ≤ q → p ≤ x → x ≤ rn bD T q p → wi (d + 8) 42 5 [.ref 82, .int (wI p), .int (wI q), .int (wI (cv T p x)), .int (wI x)] [] S σ τ Q := by
    refine lp_up (fun x x0 x1 ih => ?_)
    intro px xr
    have fin : rn bD T q p = x → Q (some (.int (wI (cv T p x)))) S σ τ := fun e => by
      have : nv T p q = cv T p x := by unfold nv; rw [e]
      rw [this] at t; exact t
    have b := cv_b (T := T) px (fun y y0 y1 => bD_i.mp (r.2.1 y y0 (by omega)))
    refine u_42_5 ⟨by omega, by omega, ifI (fun e => fin (by omega)) (fun e => ⟨by omega, ?_⟩)⟩
    have bx := p1 x px (by omega)
    rw [← hT]
    refine ifI (fun c => ⟨by omega, ?_⟩) (fun c => fin ?_)
    · rw [← cv_s px]
      refine ih (by omega) (by omega) ?_
      by_cases z : x + 1 ≤ rn bD T q p
      · exact z
      · have z : rn bD T q p = x := by omega
        have := r.2.2 (by omega)
        rw [z] at this
        rw [bD_i.mpr c] at this
        cases this
    · by_cases z : rn bD T q p = x
      · exact z
      · exact absurd (bD_i.mp (r.2.1 x px (by omega))) c
  refine wc_of mi_42 rfl (u_42_0 ?_)
  have := lp p p0.1 p0.2.1 (Int.le_refl _) r.1.1
  rw [cv_0] at this
  exact this
-- method 41: MillTown$Reader.wordAt([III)I
theorem c_41_0 : pg_cd 41 0 = (1, 1, 0, 0, 3) := by decide +kernel
theorem c_41_1 : pg_cd 41 1 = (6, 1, 0, 3, 0) := by decide +kernel
theorem c_41_2 : pg_cd 41 2 = (3, 1, 0, 1, 0) := by decide +kernel
theorem c_41_3 : pg_cd 41 3 = (6, 2, 0, 4, 0) := by decide +kernel
theorem c_41_5 : pg_cd 41 5 = (1, 1, 0, 0, 1) := by decide +kernel
theorem c_41_6 : pg_cd 41 6 = (6, 2, 0, 5, 0) := by decide +kernel
theorem c_41_8 : pg_cd 41 8 = (1, 1, 0, 0, 0) := by decide +kernel
theorem c_41_9 : pg_cd 41 9 = (6, 2, 0, 6, 0) := by decide +kernel
theorem c_41_11 : pg_cd 41 11 = (3, 2, 0, 6, 0) := by decide +kernel
theorem c_41_13 : pg_cd 41 13 = (78, 2, 89, 0, 0) := by decide +kernel
theorem c_41_15 : pg_cd 41 15 = (70, 0, 91, 0, 0) := by decide +kernel
theorem c_41_18 : pg_cd 41 18 = (37, 3, 0, 3, 80) := by decide +kernel
theorem c_41_21 : pg_cd 41 21 = (78, 2, 89, 0, 0) := by decide +kernel
theorem c_41_23 : pg_cd 41 23 = (3, 2, 0, 6, 0) := by decide +kernel
theorem c_41_25 : pg_cd 41 25 = (71, 0, 97, 0, 0) := by decide +kernel
theorem c_41_28 : pg_cd 41 28 = (6, 2, 0, 7, 0) := by decide +kernel
theorem c_41_30 : pg_cd 41 30 = (3, 2, 0, 7, 0) := by decide +kernel
theorem c_41_32 : pg_cd 41 32 = (1, 2, 0, 0, 32) := by decide +kernel
theorem c_41_34 : pg_cd 41 34 = (37, 3, 0, 0, 36) := by decide +kernel
theorem c_41_37 : pg_cd 41 37 = (3, 2, 0, 5, 0) := by decide +kernel
theorem c_41_39 : pg_cd 41 39 = (36, 3, 0, 0, 22) := by decide +kernel
theorem c_41_42 : pg_cd 41 42 = (3, 2, 0, 4, 0) := by decide +kernel
theorem c_41_44 : pg_cd 41 44 = (3, 1, 0, 2, 0) := by decide +kernel
theorem c_41_45 : pg_cd 41 45 = (37, 3, 0, 3, 16) := by decide +kernel
theorem c_41_48 : pg_cd 41 48 = (5, 1, 0, 0, 0) := by decide +kernel
theorem c_41_49 : pg_cd 41 49 = (3, 2, 0, 4, 0) := by decide +kernel
theorem c_41_51 : pg_cd 41 51 = (50, 1, 0, 0, 0) := by decide +kernel
theorem c_41_52 : pg_cd 41 52 = (3, 2, 0, 7, 0) := by decide +kernel
theorem c_41_54 : pg_cd 41 54 = (37, 3, 0, 1, 7) := by decide +kernel
theorem c_41_57 : pg_cd 41 57 = (1, 1, 0, 0, 1) := by decide +kernel
theorem c_41_58 : pg_cd 41 58 = (38, 3, 0, 0, 4) := by decide +kernel
theorem c_41_61 : pg_cd 41 61 = (1, 1, 0, 0, 0) := by decide +kernel
theorem c_41_62 : pg_cd 41 62 = (6, 2, 0, 5, 0) := by decide +kernel
theorem c_41_64 : pg_cd 41 64 = (9, 3, 0, 4, 1) := by decide +kernel
theorem c_41_67 : pg_cd 41 67 = (38, 3, 0, 0, 25) := by decide +kernel
theorem c_41_70 : pg_cd 41 70 = (3, 2, 0, 5, 0) := by decide +kernel
theorem c_41_72 : pg_cd 41 72 = (36, 3, 0, 0, 11) := by decide +kernel
theorem c_41_75 : pg_cd 41 75 = (3, 2, 0, 4, 0) := by decide +kernel
theorem c_41_77 : pg_cd 41 77 = (3, 1, 0, 2, 0) := by decide +kernel
theorem c_41_78 : pg_cd 41 78 = (37, 3, 0, 1, 5) := by decide +kernel
theorem c_41_81 : pg_cd 41 81 = (3, 1, 0, 3, 0) := by decide +kernel
theorem c_41_82 : pg_cd 41 82 = (90, 0, 0, 0, 0) := by decide +kernel
theorem c_41_83 : pg_cd 41 83 = (9, 3, 0, 3, 1) := by decide +kernel
theorem c_41_86 : pg_cd 41 86 = (3, 1, 0, 1, 0) := by decide +kernel
theorem c_41_87 : pg_cd 41 87 = (6, 2, 0, 4, 0) := by decide +kernel
theorem c_41_89 : pg_cd 41 89 = (1, 1, 0, 0, 1) := by decide +kernel
theorem c_41_90 : pg_cd 41 90 = (6, 2, 0, 5, 0) := by decide +kernel
theorem c_41_92 : pg_cd 41 92 = (9, 3, 0, 6, 1) := by decide +kernel
theorem c_41_95 : pg_cd 41 95 = (38, 3, 0, 0, (-84)) := by decide +kernel
theorem c_41_98 : pg_cd 41 98 = (1, 1, 0, 0, 0) := by decide +kernel
theorem c_41_99 : pg_cd 41 99 = (90, 0, 0, 0, 0) := by decide +kernel
theorem mi_41 : pg_mc 41 = 3 ∧ pg_na 41 = 3 ∧ pg_mx 41 = 8 := by decide +kernel
set_option maxRecDepth 20000 in
theorem u_41_0 {d : Nat} {S : zS} {σ τ : zI} {Q : zQ} {x1 : Int} {x2 : Int} (t : wi (d + 8) 41 11 [.ref 82, .int (wI x1), .int (wI x2), .int (wI 3), .int (wI x1), .int (wI 1), .int (wI 0), .retAddr 0] [] S σ τ Q) : wi (d + 8) 41 0 [.ref 82, .int (wI x1), .int (wI x2), .retAddr 0, .retAddr 0, .retAddr 0, .retAddr 0, .retAddr 0] [] S σ τ Q := by
  refine i1 c_41_0 (i6 (L' := [.ref 82, .int (wI x1), .int (wI x2), .int (wI 3), .retAddr 0, .retAddr 0, .retAddr 0, .retAddr 0]) c_41_1 rfl (i3 c_41_2 rfl (i6 (L' := [.ref 82, .int (wI x1), .int (wI x2), .int (wI 3), .int (wI x1), .retAddr 0, .retAddr 0, .retAddr 0]) c_41_3 rfl (i1 c_41_5 (i6 (L' := [.ref 82, .int (wI x1), .int (wI x2), .int (wI 3), .int (wI x1), .int (wI 1), .retAddr 0, .retAddr 0]) c_41_6 rfl (i1 c_41_8 (i6 (L' := [.ref 82, .int (wI x1), .int (wI x2), .int (wI 3), .int (wI x1), .int (wI 1), .int (wI 0), .retAddr 0]) c_41_9 rfl t)))))))
set_option maxRecDepth 20000 in
theorem u_41_11 {d : Nat} {S : zS} {σ τ : zI} {Q : zQ} {x1 : Int} {x2 : Int} {x3 : Int} {x4 : Int} {x5 : Int} {x6 : Int} {y7 : Value} (t : (rg x6) ∧ if (98 : Int) ≤ x6 then (Q (some (.int (wI 0))) S σ τ) else ((0 ≤ x6 ∧ x6 < 98) ∧ if (pg_tx.getD (x6).toNat 0) = 32 then ((rg x5) ∧ if x5 = 0 then (wi (d + 8) 41 11 [.ref 82, .int (wI x1), .int (wI x2), .int (wI (x3 + 1)), .int (wI x1), .int (wI 1), .int (wI (x6 + 1)), .int (wI (pg_tx.getD (x6).toNat 0))] [] S σ τ Q) else ((rg x4) ∧ (rg x2) ∧ if x4 = x2 then (Q (some (.int (wI x3))) S σ τ) else (wi (d + 8) 41 11 [.ref 82, .int (wI x1), .int (wI x2), .int (wI (x3 + 1)), .int (wI x1), .int (wI 1), .int (wI (x6 + 1)), .int (wI (pg_tx.getD (x6).toNat 0))] [] S σ τ Q))) else ((rg x5) ∧ if x5 = 0 then (wi (d + 8) 41 11 [.ref 82, .int (wI x1), .int (wI x2), .int (wI x3), .int (wI (x4 + 1)), .int (wI 0), .int (wI (x6 + 1)), .int (wI (pg_tx.getD (x6).toNat 0))] [] S σ τ Q) else ((rg x4) ∧ (rg x2) ∧ if x2 ≤ x4 then (wi (d + 8) 41 11 [.ref 82, .int (wI x1), .int (wI x2), .int (wI x3), .int (wI (x4 + 1)), .int (wI 0), .int (wI (x6 + 1)), .int (wI (pg_tx.getD (x6).toNat 0))] [] S σ τ Q) else ((0 ≤ x4 ∧ x4 < 300) ∧ if (σ 82 x4) = (pg_tx.getD (x6).toNat 0) then (wi (d + 8) 41 11 [.ref 82, .int (wI x1), .int (wI x2), .int (wI x3), .int (wI (x4 + 1)), .int (wI 1), .int (wI (x6 + 1)), .int (wI (pg_tx.getD (x6).toNat 0))] [] S σ τ Q) else (wi (d + 8) 41 11 [.ref 82, .int (wI x1), .int (wI x2), .int (wI x3), .int (wI (x4 + 1)), .int (wI 0), .int (wI (x6 + 1)), .int (wI (pg_tx.getD (x6).toNat 0))] [] S σ τ Q)))))) : wi (d + 8) 41 11 [.ref 82, .int (wI x1), .int (wI x2), .int (wI x3), .int (wI x4), .int (wI x5), .int (wI x6), y7] [] S σ τ Q := by
  obtain ⟨r1, t⟩ := t
  refine i3 c_41_11 rfl (i78 c_41_13 (by omega) (i70 (n := 98) c_41_15 (Nat.le_of_ble_eq_true rfl) (by omega) rfl ?_))
  refine i37 c_41_18 r1 (by decide) rfl (fun hc => ?_) (fun hc => ?_)
  · have t := iT t hc
    have ha2 : (98 : Int) ≤ x6 := hc
    refine i1 c_41_98 ?_
    exact i90 c_41_99 t
  · have t := iF t hc
    have ha2 : ¬ ((98 : Int) ≤ x6) := hc
    obtain ⟨r3, t⟩ := t
    refine i78 c_41_21 (by omega) (i3 c_41_23 rfl (i71 c_41_25 (Nat.le_of_ble_eq_true rfl) (by omega) r3 (i6 (L' := [.ref 82, .int (wI x1), .int (wI x2), .int (wI x3), .int (wI x4), .int (wI x5), .int (wI x6), .int (wI (pg_tx.getD (x6).toNat 0))]) c_41_28 rfl (i3 c_41_30 rfl (i1 c_41_32 ?_)))))
    refine i37 c_41_34 (rtx_ _) (by decide) rfl (fun hc => ?_) (fun hc => ?_)
    · have t := iT t hc
      have ha4 : (pg_tx.getD (x6).toNat 0) = 32 := hc
      obtain ⟨r5, t⟩ := t
      refine i3 c_41_70 rfl ?_
      refine i36 c_41_72 r5 rfl (fun hc => ?_) (fun hc => ?_)
      · have t := iT t hc
        have ha6 : x5 = 0 := hc
        refine i9 (L' := [.ref 82, .int (wI x1), .int (wI x2), .int (wI (x3 + 1)), .int (wI x4), .int (wI x5), .int (wI x6), .int (wI (pg_tx.getD (x6).toNat 0))]) c_41_83 rfl rfl (i3 c_41_86 rfl (i6 (L' := [.ref 82, .int (wI x1), .int (wI x2), .int (wI (x3 + 1)), .int (wI x1), .int (wI x5), .int (wI x6), .int (wI (pg_tx.getD (x6).toNat 0))]) c_41_87 rfl (i1 c_41_89 (i6 (L' := [.ref 82, .int (wI x1), .int (wI x2), .int (wI (x3 + 1)), .int (wI x1), .int (wI 1), .int (wI x6), .int (wI (pg_tx.getD (x6).toNat 0))]) c_41_90 rfl (i9 (L' := [.ref 82, .int (wI x1), .int (wI x2), .int (wI (x3 + 1)), .int (wI x1), .int (wI 1), .int (wI (x6 + 1)), .int (wI (pg_tx.getD (x6).toNat 0))]) c_41_92 rfl rfl (i38 c_41_95 rfl t))))))
      · have t := iF t hc
        have ha6 : ¬ (x5 = 0) := hc
        obtain ⟨r7, t⟩ := t
        obtain ⟨r8, t⟩ := t
        refine i3 c_41_75 rfl (i3 c_41_77 rfl ?_)
        refine i37 c_41_78 r7 r8 rfl (fun hc => ?_) (fun hc => ?_)
        · have t := iF t hc
          have ha9 : ¬ (x4 = x2) := hc
          refine i9 (L' := [.ref 82, .int (wI x1), .int (wI x2), .int (wI (x3 + 1)), .int (wI x4), .int (wI x5), .int (wI x6), .int (wI (pg_tx.getD (x6).toNat 0))]) c_41_83 rfl rfl (i3 c_41_86 rfl (i6 (L' := [.ref 82, .int (wI x1), .int (wI x2), .int (wI (x3 + 1)), .int (wI x1), .int (wI x5), .int (wI x6), .int (wI (pg_tx.getD (x6).toNat 0))]) c_41_87 rfl (i1 c_41_89 (i6 (L' := [.ref 82, .int (wI x1), .int (wI x2), .int (wI (x3 + 1)), .int (wI x1), .int (wI 1), .int (wI x6), .int (wI (pg_tx.getD (x6).toNat 0))]) c_41_90 rfl (i9 (L' := [.ref 82, .int (wI x1), .int (wI x2), .int (wI (x3 + 1)), .int (wI x1), .int (wI 1), .int (wI (x6 + 1)), .int (wI (pg_tx.getD (x6).toNat 0))]) c_41_92 rfl rfl (i38 c_41_95 rfl t))))))
        · have t := iT t (Decidable.not_not.mp hc)
          have ha9 : x4 = x2 := Decidable.not_not.mp hc
          refine i3 c_41_81 rfl ?_
          exact i90 c_41_82 t
    · have t := iF t hc
      have ha4 : ¬ ((pg_tx.getD (x6).toNat 0) = 32) := hc
      obtain ⟨r10, t⟩ := t
      refine i3 c_41_37 rfl ?_
      refine i36 c_41_39 r10 rfl (fun hc => ?_) (fun hc => ?_)
      · have t := iT t hc
        have ha11 : x5 = 0 := hc
        refine i1 c_41_61 (i6 (L' := [.ref 82, .int (wI x1), .int (wI x2), .int (wI x3), .int (wI x4), .int (wI 0), .int (wI x6), .int (wI (pg_tx.getD (x6).toNat 0))]) c_41_62 rfl (i9 (L' := [.ref 82, .int (wI x1), .int (wI x2), .int (wI x3), .int (wI (x4 + 1)), .int (wI 0), .int (wI x6), .int (wI (pg_tx.getD (x6).toNat 0))]) c_41_64 rfl rfl (i38 c_41_67 rfl (i9 (L' := [.ref 82, .int (wI x1), .int (wI x2), .int (wI x3), .int (wI (x4 + 1)), .int (wI 0), .int (wI (x6 + 1)), .int (wI (pg_tx.getD (x6).toNat 0))]) c_41_92 rfl rfl (i38 c_41_95 rfl t)))))
      · have t := iF t hc
        have ha11 : ¬ (x5 = 0) := hc
        obtain ⟨r12, t⟩ := t
        obtain ⟨r13, t⟩ := t
        refine i3 c_41_42 rfl (i3 c_41_44 rfl ?_)
        refine i37 c_41_45 r12 r13 rfl (fun hc => ?_) (fun hc => ?_)
        · have t := iT t hc
          have ha14 : x2 ≤ x4 := hc
          refine i1 c_41_61 (i6 (L' := [.ref 82, .int (wI x1), .int (wI x2), .int (wI x3), .int (wI x4), .int (wI 0), .int (wI x6), .int (wI (pg_tx.getD (x6).toNat 0))]) c_41_62 rfl (i9 (L' := [.ref 82, .int (wI x1), .int (wI x2), .int (wI x3), .int (wI (x4 + 1)), .int (wI 0), .int (wI x6), .int (wI (pg_tx.getD (x6).toNat 0))]) c_41_64 rfl rfl (i38 c_41_67 rfl (i9 (L' := [.ref 82, .int (wI x1), .int (wI x2), .int (wI x3), .int (wI (x4 + 1)), .int (wI 0), .int (wI (x6 + 1)), .int (wI (pg_tx.getD (x6).toNat 0))]) c_41_92 rfl rfl (i38 c_41_95 rfl t)))))
        · have t := iF t hc
          have ha14 : ¬ (x2 ≤ x4) := hc
          obtain ⟨r15, t⟩ := t
          refine i5 c_41_48 rfl (i3 c_41_49 rfl (wi_ok (fun K16 => ?_)))
          refine i50 (v := σ 82 x4) c_41_51 (lo (c := 82) (kd := 0) (n := 300) rfl (by decide)) (by decide) r15 rfl (i3 c_41_52 rfl ?_)
          refine i37 c_41_54 (rge_ K16 rfl) (rtx_ _) rfl (fun hc => ?_) (fun hc => ?_)
          · have t := iF t hc
            have ha17 : ¬ ((σ 82 x4) = (pg_tx.getD (x6).toNat 0)) := hc
            refine i1 c_41_61 (i6 (L' := [.ref 82, .int (wI x1), .int (wI x2), .int (wI x3), .int (wI x4), .int (wI 0), .int (wI x6), .int (wI (pg_tx.getD (x6).toNat 0))]) c_41_62 rfl (i9 (L' := [.ref 82, .int (wI x1), .int (wI x2), .int (wI x3), .int (wI (x4 + 1)), .int (wI 0), .int (wI x6), .int (wI (pg_tx.getD (x6).toNat 0))]) c_41_64 rfl rfl (i38 c_41_67 rfl (i9 (L' := [.ref 82, .int (wI x1), .int (wI x2), .int (wI x3), .int (wI (x4 + 1)), .int (wI 0), .int (wI (x6 + 1)), .int (wI (pg_tx.getD (x6).toNat 0))]) c_41_92 rfl rfl (i38 c_41_95 rfl t)))))
          · have t := iT t (Decidable.not_not.mp hc)
            have ha17 : (σ 82 x4) = (pg_tx.getD (x6).toNat 0) := Decidable.not_not.mp hc
            refine i1 c_41_57 (i38 c_41_58 rfl (i6 (L' := [.ref 82, .int (wI x1), .int (wI x2), .int (wI x3), .int (wI x4), .int (wI 1), .int (wI x6), .int (wI (pg_tx.getD (x6).toNat 0))]) c_41_62 rfl (i9 (L' := [.ref 82, .int (wI x1), .int (wI x2), .int (wI x3), .int (wI (x4 + 1)), .int (wI 1), .int (wI x6), .int (wI (pg_tx.getD (x6).toNat 0))]) c_41_64 rfl rfl (i38 c_41_67 rfl (i9 (L' := [.ref 82, .int (wI x1), .int (wI x2), .int (wI x3), .int (wI (x4 + 1)), .int (wI 1), .int (wI (x6 + 1)), .int (wI (pg_tx.getD (x6).toNat 0))]) c_41_92 rfl rfl (i38 c_41_95 rfl t))))))
theorem q_41 {d : Nat} {S : zS} {σ τ : zI} {Q : zQ} {p : Int} {q : Int} (p0 : 0 ≤ p ∧ p < q ∧ q ≤ 300) (t : Q (some (.int (wI (wat (σ 82) p q pg_tx 3 p 1)))) S σ τ) : wc (d + 8) 41 [.ref 82, .int (wI p), .int (wI q)] S σ τ Q := by
  obtain ⟨T, hT⟩ : ∃ T, T = σ 82 := ⟨_, rfl⟩
  rw [← hT] at t
  have ln : pg_tx.length = 98 := by decide
  have lp : ∀ i, 0 ≤ i → i ≤ 98 → ∀ w x sm, (sm = 0 ∨ sm = 1) → p ≤ x → x ≤ p + i → wat T p q (pg_tx.drop i.toNat) w x sm = wat T p q pg_tx 3 p 1 → ∀ y, wi (d + 8) 41 11 [.ref 82, .int (wI p), .int (wI q), .int (wI w), .int (wI x), .int (wI sm), .int (wI i), y] [] S σ τ Q := by
    refine lp_up (fun i i0 i1 ih => ?_)
    intro w x sm hs x0 x1 hw y
    refine u_41_11 ⟨by omega, ifI (fun e => ?_) (fun e => ⟨by omega, ?_⟩)⟩
    · have e : i = 98 := by omega
      subst e
      have d0 : pg_tx.drop (98 : Int).toNat = [] := by decide
      rw [d0] at hw
      have h0 : wat T p q [] w x sm = 0 := rfl
      rw [h0] at hw
      rw [← hw] at t; exact t
    · have ih := ih (by omega)
      have dc := drop_c pg_tx i.toNat (by omega)
      rw [show i.toNat + 1 = (i + 1).toNat by omega] at dc
      obtain ⟨c, hc⟩ : ∃ c, c = pg_tx.getD i.toNat 0 := ⟨_, rfl⟩
      rw [← hc] at dc ⊢
      rw [dc] at hw
      have wu : wat T p q (c :: pg_tx.drop (i + 1).toNat) w x sm = if c = 32 then (if sm = 0 then wat T p q (pg_tx.drop (i + 1).toNat) (w + 1) p 1 else if x = q then w else wat T p q (pg_tx.drop (i + 1).toNat) (w + 1) p 1) else if sm = 0 then wat T p q (pg_tx.drop (i + 1).toNat) w (x + 1) 0 else if q ≤ x then wat T p q (pg_tx.drop (i + 1).toNat) w (x + 1) 0 else if T x = c then wat T p q (pg_tx.drop (i + 1).toNat) w (x + 1) 1 else wat T p q (pg_tx.drop (i + 1).toNat) w (x + 1) 0 := rfl
      rw [wu] at hw
      refine ifI (fun c1 => ⟨by omega, ifI (fun c2 => ?_) (fun c2 => ⟨by omega, by omega, ifI (fun c3 => ?_) (fun c3 => ?_)⟩)⟩) (fun c1 => ⟨by omega, ifI (fun c2 => ?_) (fun c2 => ⟨by omega, by omega, ifI (fun c3 => ?_) (fun c3 => ⟨by omega, ?_⟩)⟩)⟩)
      · rw [if_pos c1, if_pos c2] at hw
        exact ih _ _ _ (Or.inr rfl) (by omega) (by omega) hw _
      · rw [if_pos c1, if_neg c2, if_pos c3] at hw
        rw [← hw] at t; exact t
      · rw [if_pos c1, if_neg c2, if_neg c3] at hw
        exact ih _ _ _ (Or.inr rfl) (by omega) (by omega) hw _
      · rw [if_neg c1, if_pos c2] at hw
        exact ih _ _ _ (Or.inl rfl) (by omega) (by omega) hw _
      · rw [if_neg c1, if_neg c2, if_pos c3] at hw
        exact ih _ _ _ (Or.inl rfl) (by omega) (by omega) hw _
      · rw [← hT]
        rw [if_neg c1, if_neg c2, if_neg c3] at hw
        refine ifI (fun c4 => ?_) (fun c4 => ?_)
        · rw [if_pos c4] at hw
          exact ih _ _ _ (Or.inr rfl) (by omega) (by omega) hw _
        · rw [if_neg c4] at hw
          exact ih _ _ _ (Or.inl rfl) (by omega) (by omega) hw _
  exact wc_of mi_41 rfl (u_41_0 (lp 0 (by omega) (by omega) 3 p 1 (Or.inr rfl) (Int.le_refl _) (by omega) rfl _))
-- method 40: MillTown$Reader.tokenAt([III)I
theorem c_40_0 : pg_cd 40 0 = (5, 1, 0, 0, 0) := by decide +kernel
theorem c_40_1 : pg_cd 40 1 = (3, 1, 0, 1, 0) := by decide +kernel
theorem c_40_2 : pg_cd 40 2 = (50, 1, 0, 0, 0) := by decide +kernel
theorem c_40_3 : pg_cd 40 3 = (6, 1, 0, 3, 0) := by decide +kernel
theorem c_40_4 : pg_cd 40 4 = (3, 1, 0, 3, 0) := by decide +kernel
theorem c_40_5 : pg_cd 40 5 = (81, 37, 83, 0, 0) := by decide +kernel
theorem c_40_8 : pg_cd 40 8 = (36, 3, 0, 0, 5) := by decide +kernel
theorem c_40_11 : pg_cd 40 11 = (1, 1, 0, 0, 2) := by decide +kernel
theorem c_40_12 : pg_cd 40 12 = (90, 0, 0, 0, 0) := by decide +kernel
theorem c_40_13 : pg_cd 40 13 = (3, 1, 0, 3, 0) := by decide +kernel
theorem c_40_14 : pg_cd 40 14 = (81, 38, 79, 0, 0) := by decide +kernel
theorem c_40_17 : pg_cd 40 17 = (36, 3, 0, 0, 10) := by decide +kernel
theorem c_40_20 : pg_cd 40 20 = (5, 1, 0, 0, 0) := by decide +kernel
theorem c_40_21 : pg_cd 40 21 = (3, 1, 0, 1, 0) := by decide +kernel
theorem c_40_22 : pg_cd 40 22 = (3, 1, 0, 2, 0) := by decide +kernel
theorem c_40_23 : pg_cd 40 23 = (81, 41, 86, 0, 0) := by decide +kernel
theorem c_40_26 : pg_cd 40 26 = (90, 0, 0, 0, 0) := by decide +kernel
theorem c_40_27 : pg_cd 40 27 = (3, 1, 0, 3, 0) := by decide +kernel
theorem c_40_28 : pg_cd 40 28 = (42, 2, 128, 0, 0) := by decide +kernel
theorem c_40_156 : pg_cd 40 156 = (3, 1, 0, 2, 0) := by decide +kernel
theorem c_40_157 : pg_cd 40 157 = (3, 1, 0, 1, 0) := by decide +kernel
theorem c_40_158 : pg_cd 40 158 = (11, 1, 0, 0, 0) := by decide +kernel
theorem c_40_159 : pg_cd 40 159 = (1, 1, 0, 0, 2) := by decide +kernel
theorem c_40_160 : pg_cd 40 160 = (37, 3, 0, 1, 8) := by decide +kernel
theorem c_40_163 : pg_cd 40 163 = (1, 2, 0, 0, 24) := by decide +kernel
theorem c_40_165 : pg_cd 40 165 = (38, 3, 0, 0, 5) := by decide +kernel
theorem c_40_168 : pg_cd 40 168 = (1, 2, 0, 0, 23) := by decide +kernel
theorem c_40_170 : pg_cd 40 170 = (90, 0, 0, 0, 0) := by decide +kernel
theorem c_40_171 : pg_cd 40 171 = (3, 1, 0, 2, 0) := by decide +kernel
theorem c_40_172 : pg_cd 40 172 = (3, 1, 0, 1, 0) := by decide +kernel
theorem c_40_173 : pg_cd 40 173 = (11, 1, 0, 0, 0) := by decide +kernel
theorem c_40_174 : pg_cd 40 174 = (1, 1, 0, 0, 2) := by decide +kernel
theorem c_40_175 : pg_cd 40 175 = (37, 3, 0, 1, 8) := by decide +kernel
theorem c_40_178 : pg_cd 40 178 = (1, 2, 0, 0, 26) := by decide +kernel
theorem c_40_180 : pg_cd 40 180 = (38, 3, 0, 0, 5) := by decide +kernel
theorem c_40_183 : pg_cd 40 183 = (1, 2, 0, 0, 25) := by decide +kernel
theorem c_40_185 : pg_cd 40 185 = (90, 0, 0, 0, 0) := by decide +kernel
theorem c_40_186 : pg_cd 40 186 = (1, 2, 0, 0, 27) := by decide +kernel
theorem c_40_188 : pg_cd 40 188 = (90, 0, 0, 0, 0) := by decide +kernel
theorem c_40_189 : pg_cd 40 189 = (1, 2, 0, 0, 28) := by decide +kernel
theorem c_40_191 : pg_cd 40 191 = (90, 0, 0, 0, 0) := by decide +kernel
theorem c_40_192 : pg_cd 40 192 = (1, 2, 0, 0, 29) := by decide +kernel
theorem c_40_194 : pg_cd 40 194 = (90, 0, 0, 0, 0) := by decide +kernel
theorem c_40_195 : pg_cd 40 195 = (1, 2, 0, 0, 30) := by decide +kernel
theorem c_40_197 : pg_cd 40 197 = (90, 0, 0, 0, 0) := by decide +kernel
theorem c_40_198 : pg_cd 40 198 = (1, 2, 0, 0, 31) := by decide +kernel
theorem c_40_200 : pg_cd 40 200 = (90, 0, 0, 0, 0) := by decide +kernel
theorem c_40_201 : pg_cd 40 201 = (1, 2, 0, 0, 32) := by decide +kernel
theorem c_40_203 : pg_cd 40 203 = (90, 0, 0, 0, 0) := by decide +kernel
theorem c_40_204 : pg_cd 40 204 = (1, 2, 0, 0, 33) := by decide +kernel
theorem c_40_206 : pg_cd 40 206 = (90, 0, 0, 0, 0) := by decide +kernel
theorem c_40_207 : pg_cd 40 207 = (1, 2, 0, 0, 34) := by decide +kernel
theorem c_40_209 : pg_cd 40 209 = (90, 0, 0, 0, 0) := by decide +kernel
theorem c_40_210 : pg_cd 40 210 = (1, 2, 0, 0, 35) := by decide +kernel
theorem c_40_212 : pg_cd 40 212 = (90, 0, 0, 0, 0) := by decide +kernel
theorem c_40_213 : pg_cd 40 213 = (1, 2, 0, 0, 36) := by decide +kernel
theorem c_40_215 : pg_cd 40 215 = (90, 0, 0, 0, 0) := by decide +kernel
theorem c_40_216 : pg_cd 40 216 = (1, 1, 0, 0, 0) := by decide +kernel
theorem c_40_217 : pg_cd 40 217 = (90, 0, 0, 0, 0) := by decide +kernel
theorem mi_40 : pg_mc 40 = 3 ∧ pg_na 40 = 3 ∧ pg_mx 40 = 4 := by decide +kernel
theorem sw_2 : pg_sw 2 = (188, 35, 62, [161, 188, 188, 188, 188, 176, 179, 170, 164, 182, 167, 188, 173, 188, 188, 188, 188, 188, 188, 188, 188, 188, 188, 188, 185, 128, 158, 143]) := by decide +kernel
set_option maxRecDepth 20000 in
theorem u_40_0 {d : Nat} {S : zS} {σ τ : zI} {Q : zQ} {x1 : Int} {x2 : Int} (t : (0 ≤ x1 ∧ x1 < 300) ∧ if cD (σ 82 x1) then (Q (some (.int (wI 2))) S σ τ) else (if cL (σ 82 x1) then ((0 ≤ x1 ∧ x1 < x2 ∧ x2 ≤ 300) ∧ Q (some (.int (wI (wat (σ 82) x1 x2 pg_tx 3 x1 1)))) S σ τ) else (if (σ 82 x1) = 35 then (Q (some (.int (wI 28))) S σ τ) else (if (σ 82 x1) = 40 then (Q (some (.int (wI 33))) S σ τ) else (if (σ 82 x1) = 41 then (Q (some (.int (wI 34))) S σ τ) else (if (σ 82 x1) = 42 then (Q (some (.int (wI 31))) S σ τ) else (if (σ 82 x1) = 43 then (Q (some (.int (wI 29))) S σ τ) else (if (σ 82 x1) = 44 then (Q (some (.int (wI 35))) S σ τ) else (if (σ 82 x1) = 45 then (Q (some (.int (wI 30))) S σ τ) else (if (σ 82 x1) = 47 then (Q (some (.int (wI 32))) S σ τ) else (if (σ 82 x1) = 59 then (Q (some (.int (wI 36))) S σ τ) else (if (σ 82 x1) = 60 then ((rg (x2 - x1)) ∧ if (x2 - x1) = 2 then (Q (some (.int (wI 24))) S σ τ) else (Q (some (.int (wI 23))) S σ τ)) else (if (σ 82 x1) = 61 then (Q (some (.int (wI 27))) S σ τ) else (if (σ 82 x1) = 62 then ((rg (x2 - x1)) ∧ if (x2 - x1) = 2 then (Q (some (.int (wI 26))) S σ τ) else (Q (some (.int (wI 25))) S σ τ)) else (Q (some (.int (wI 0))) S σ τ))))))))))))))) : wi (d + 9) 40 0 [.ref 82, .int (wI x1), .int (wI x2), .retAddr 0] [] S σ τ Q := by
  obtain ⟨r1, t⟩ := t
  refine i5 c_40_0 rfl (i3 c_40_1 rfl (wi_ok (fun K2 => ?_)))
  refine i50 (v := σ 82 x1) c_40_2 (lo (c := 82) (kd := 0) (n := 300) rfl (by decide)) (by decide) r1 rfl (i6 (L' := [.ref 82, .int (wI x1), .int (wI x2), .int (wI (σ 82 x1))]) c_40_3 rfl (i3 c_40_4 rfl ?_))
  refine i81 (As := [.int (wI (σ 82 x1))]) (rest := []) c_40_5 mi_37 rfl rfl (Nat.le_of_ble_eq_true rfl) (Nat.le_of_ble_eq_true rfl) (q_37 (rge_ K2 rfl) ?_)
  show wi (d + 9) 40 8 [.ref 82, .int (wI x1), .int (wI x2), .int (wI (σ 82 x1))] [.int (wI (if cD (σ 82 x1) then 1 else 0))] S σ τ Q
  refine i36e c_40_8 rfl (fun hc => ?_) (fun hc => ?_)
  · have t := iT t hc
    have ha3 : cD (σ 82 x1) := hc
    refine i1 c_40_11 ?_
    exact i90 c_40_12 t
  · have t := iF t hc
    have ha3 : ¬ (cD (σ 82 x1)) := hc
    refine i3 c_40_13 rfl ?_
    refine i81 (As := [.int (wI (σ 82 x1))]) (rest := []) c_40_14 mi_38 rfl rfl (Nat.le_of_ble_eq_true rfl) (Nat.le_of_ble_eq_true rfl) (q_38 (rge_ K2 rfl) ?_)
    show wi (d + 9) 40 17 [.ref 82, .int (wI x1), .int (wI x2), .int (wI (σ 82 x1))] [.int (wI (if cL (σ 82 x1) then 1 else 0))] S σ τ Q
    refine i36e c_40_17 rfl (fun hc => ?_) (fun hc => ?_)
    · have t := iT t hc
      have ha4 : cL (σ 82 x1) := hc
      obtain ⟨p5, t⟩ := t
      refine i5 c_40_20 rfl (i3 c_40_21 rfl (i3 c_40_22 rfl ?_))
      refine i81 (As := [.ref 82, .int (wI x1), .int (wI x2)]) (rest := []) c_40_23 mi_41 rfl rfl (Nat.le_of_ble_eq_true rfl) (Nat.le_of_ble_eq_true rfl) (q_41 p5 ?_)
      show wi (d + 9) 40 26 [.ref 82, .int (wI x1), .int (wI x2), .int (wI (σ 82 x1))] [.int (wI (wat (σ 82) x1 x2 pg_tx 3 x1 1))] S σ τ Q
      exact i90 c_40_26 t
    · have t := iF t hc
      have ha4 : ¬ (cL (σ 82 x1)) := hc
      refine i3 c_40_27 rfl ?_
      by_cases e0 : (σ 82 x1) = 35
      · have t := iT t e0
        refine i42 (o := 161) c_40_28 sw_2 35 e0 (by decide) (by decide) rfl rfl ?_
        refine i1 c_40_189 ?_
        exact i90 c_40_191 t
      have t := iF t e0
      by_cases e5 : (σ 82 x1) = 40
      · have t := iT t e5
        refine i42 (o := 176) c_40_28 sw_2 40 e5 (by decide) (by decide) rfl rfl ?_
        refine i1 c_40_204 ?_
        exact i90 c_40_206 t
      have t := iF t e5
      by_cases e6 : (σ 82 x1) = 41
      · have t := iT t e6
        refine i42 (o := 179) c_40_28 sw_2 41 e6 (by decide) (by decide) rfl rfl ?_
        refine i1 c_40_207 ?_
        exact i90 c_40_209 t
      have t := iF t e6
      by_cases e7 : (σ 82 x1) = 42
      · have t := iT t e7
        refine i42 (o := 170) c_40_28 sw_2 42 e7 (by decide) (by decide) rfl rfl ?_
        refine i1 c_40_198 ?_
        exact i90 c_40_200 t
      have t := iF t e7
      by_cases e8 : (σ 82 x1) = 43
      · have t := iT t e8
        refine i42 (o := 164) c_40_28 sw_2 43 e8 (by decide) (by decide) rfl rfl ?_
        refine i1 c_40_192 ?_
        exact i90 c_40_194 t
      have t := iF t e8
      by_cases e9 : (σ 82 x1) = 44
      · have t := iT t e9
        refine i42 (o := 182) c_40_28 sw_2 44 e9 (by decide) (by decide) rfl rfl ?_
        refine i1 c_40_210 ?_
        exact i90 c_40_212 t
      have t := iF t e9
      by_cases e10 : (σ 82 x1) = 45
      · have t := iT t e10
        refine i42 (o := 167) c_40_28 sw_2 45 e10 (by decide) (by decide) rfl rfl ?_
        refine i1 c_40_195 ?_
        exact i90 c_40_197 t
      have t := iF t e10
      by_cases e12 : (σ 82 x1) = 47
      · have t := iT t e12
        refine i42 (o := 173) c_40_28 sw_2 47 e12 (by decide) (by decide) rfl rfl ?_
        refine i1 c_40_201 ?_
        exact i90 c_40_203 t
      have t := iF t e12
      by_cases e24 : (σ 82 x1) = 59
      · have t := iT t e24
        refine i42 (o := 185) c_40_28 sw_2 59 e24 (by decide) (by decide) rfl rfl ?_
        refine i1 c_40_213 ?_
        exact i90 c_40_215 t
      have t := iF t e24
      by_cases e25 : (σ 82 x1) = 60
      · have t := iT t e25
        refine i42 (o := 128) c_40_28 sw_2 60 e25 (by decide) (by decide) rfl rfl ?_
        obtain ⟨r6, t⟩ := t
        refine i3 c_40_156 rfl (i3 c_40_157 rfl (i11 c_40_158 (i1 c_40_159 ?_)))
        refine i37 c_40_160 r6 (by decide) rfl (fun hc => ?_) (fun hc => ?_)
        · have t := iF t hc
          have ha7 : ¬ ((x2 - x1) = 2) := hc
          refine i1 c_40_168 ?_
          exact i90 c_40_170 t
        · have t := iT t (Decidable.not_not.mp hc)
          have ha7 : (x2 - x1) = 2 := Decidable.not_not.mp hc
          refine i1 c_40_163 (i38 c_40_165 rfl ?_)
          exact i90 c_40_170 t
      have t := iF t e25
      by_cases e26 : (σ 82 x1) = 61
      · have t := iT t e26
        refine i42 (o := 158) c_40_28 sw_2 61 e26 (by decide) (by decide) rfl rfl ?_
        refine i1 c_40_186 ?_
        exact i90 c_40_188 t
      have t := iF t e26
      by_cases e27 : (σ 82 x1) = 62
      · have t := iT t e27
        refine i42 (o := 143) c_40_28 sw_2 62 e27 (by decide) (by decide) rfl rfl ?_
        obtain ⟨r8, t⟩ := t
        refine i3 c_40_171 rfl (i3 c_40_172 rfl (i11 c_40_173 (i1 c_40_174 ?_)))
        refine i37 c_40_175 r8 (by decide) rfl (fun hc => ?_) (fun hc => ?_)
        · have t := iF t hc
          have ha9 : ¬ ((x2 - x1) = 2) := hc
          refine i1 c_40_183 ?_
          exact i90 c_40_185 t
        · have t := iT t (Decidable.not_not.mp hc)
          have ha9 : (x2 - x1) = 2 := Decidable.not_not.mp hc
          refine i1 c_40_178 (i38 c_40_180 rfl ?_)
          exact i90 c_40_185 t
      have t := iF t e27
      by_cases e : (σ 82 x1) = 36
      · refine i42 (o := 188) c_40_28 sw_2 36 e (by decide) (by decide) rfl rfl ?_
        refine i1 c_40_216 ?_
        exact i90 c_40_217 t
      by_cases e : (σ 82 x1) = 37
      · refine i42 (o := 188) c_40_28 sw_2 37 e (by decide) (by decide) rfl rfl ?_
        refine i1 c_40_216 ?_
        exact i90 c_40_217 t
      by_cases e : (σ 82 x1) = 38
      · refine i42 (o := 188) c_40_28 sw_2 38 e (by decide) (by decide) rfl rfl ?_
        refine i1 c_40_216 ?_
        exact i90 c_40_217 t
      by_cases e : (σ 82 x1) = 39
      · refine i42 (o := 188) c_40_28 sw_2 39 e (by decide) (by decide) rfl rfl ?_
        refine i1 c_40_216 ?_
        exact i90 c_40_217 t
      by_cases e : (σ 82 x1) = 46
      · refine i42 (o := 188) c_40_28 sw_2 46 e (by decide) (by decide) rfl rfl ?_
        refine i1 c_40_216 ?_
        exact i90 c_40_217 t
      by_cases e : (σ 82 x1) = 48
      · refine i42 (o := 188) c_40_28 sw_2 48 e (by decide) (by decide) rfl rfl ?_
        refine i1 c_40_216 ?_
        exact i90 c_40_217 t
      by_cases e : (σ 82 x1) = 49
      · refine i42 (o := 188) c_40_28 sw_2 49 e (by decide) (by decide) rfl rfl ?_
        refine i1 c_40_216 ?_
        exact i90 c_40_217 t
      by_cases e : (σ 82 x1) = 50
      · refine i42 (o := 188) c_40_28 sw_2 50 e (by decide) (by decide) rfl rfl ?_
        refine i1 c_40_216 ?_
        exact i90 c_40_217 t
      by_cases e : (σ 82 x1) = 51
      · refine i42 (o := 188) c_40_28 sw_2 51 e (by decide) (by decide) rfl rfl ?_
        refine i1 c_40_216 ?_
        exact i90 c_40_217 t
      by_cases e : (σ 82 x1) = 52
      · refine i42 (o := 188) c_40_28 sw_2 52 e (by decide) (by decide) rfl rfl ?_
        refine i1 c_40_216 ?_
        exact i90 c_40_217 t
      by_cases e : (σ 82 x1) = 53
      · refine i42 (o := 188) c_40_28 sw_2 53 e (by decide) (by decide) rfl rfl ?_
        refine i1 c_40_216 ?_
        exact i90 c_40_217 t
      by_cases e : (σ 82 x1) = 54
      · refine i42 (o := 188) c_40_28 sw_2 54 e (by decide) (by decide) rfl rfl ?_
        refine i1 c_40_216 ?_
        exact i90 c_40_217 t
      by_cases e : (σ 82 x1) = 55
      · refine i42 (o := 188) c_40_28 sw_2 55 e (by decide) (by decide) rfl rfl ?_
        refine i1 c_40_216 ?_
        exact i90 c_40_217 t
      by_cases e : (σ 82 x1) = 56
      · refine i42 (o := 188) c_40_28 sw_2 56 e (by decide) (by decide) rfl rfl ?_
        refine i1 c_40_216 ?_
        exact i90 c_40_217 t
      by_cases e : (σ 82 x1) = 57
      · refine i42 (o := 188) c_40_28 sw_2 57 e (by decide) (by decide) rfl rfl ?_
        refine i1 c_40_216 ?_
        exact i90 c_40_217 t
      by_cases e : (σ 82 x1) = 58
      · refine i42 (o := 188) c_40_28 sw_2 58 e (by decide) (by decide) rfl rfl ?_
        refine i1 c_40_216 ?_
        exact i90 c_40_217 t
      refine i42d c_40_28 sw_2 (rge_ K2 rfl) (by omega) rfl ?_
      refine i1 c_40_216 ?_
      exact i90 c_40_217 t
theorem q_40 {d : Nat} {S : zS} {σ τ : zI} {Q : zQ} {p : Int} {q : Int} {n : Int} (p0 : TB (σ 82) n) (p1 : 0 ≤ p ∧ p < n) (p2 : q = tE (σ 82) n p) (t : Q (some (.int (wI (tk (σ 82) n p)))) S σ τ) : wc (d + 9) 40 [.ref 82, .int (wI p), .int (wI q)] S σ τ Q := by
  obtain ⟨T, hT⟩ : ∃ T, T = σ 82 := ⟨_, rfl⟩
  rw [← hT] at p0 t p2
  have bp := p0.2 p p1.1 p1.2
  have eb := tE_b (T := T) p1.2
  have n0 := p0.1
  have eT : tE T n p = if cL (T p) then rn bL T n (p + 1) else if cD (T p) then rn bD T n (p + 1) else if (T p = 60 ∨ T p = 62) ∧ sv T n (p + 1) = 61 then p + 2 else p + 1 := if_neg (by omega)
  have eK : tk T n p = if cD (T p) then 2 else if cL (T p) then wcd (wv T p (tE T n p)) else sy (T p) (sv T n (p + 1) = 61) := if_neg (by omega)
  refine wc_of mi_40 rfl (u_40_0 ⟨by omega, ?_⟩)
  rw [← hT]
  refine ifI (fun c1 => ?_) (fun c1 => ifI (fun c2 => ⟨by omega, ?_⟩) (fun c2 => ?_))
  · rw [eK, if_pos c1] at t; exact t
  · rw [if_pos c2] at eT
    have r := rn_I (P := bL) (T := T) (n := n) (p := p + 1) (by omega)
    rw [wat_wc (by omega) (fun x x0 x1 => ?_), p2]
    · rw [eK, if_neg c1, if_pos c2] at t; exact t
    · by_cases e : x = p
      · rw [e]; omega
      · have := bL_i.mp (r.2.1 x (by omega) (by omega)); omega
  · rw [eK, if_neg c1, if_neg c2] at t
    rw [if_neg c2, if_neg c1] at eT
    unfold sy at t
    by_cases s60 : T p = 60
    · rw [if_neg (by omega), if_neg (by omega), if_neg (by omega), if_neg (by omega), if_neg (by omega), if_neg (by omega), if_neg (by omega), if_neg (by omega), if_neg (by omega), if_pos s60]
      rw [if_pos s60] at t
      refine ⟨by omega, ifI (fun e => ?_) (fun e => ?_)⟩
      · by_cases w : sv T n (p + 1) = 61
        · rw [if_pos w] at t; exact t
        · rw [if_neg (fun z => w z.2)] at eT; omega
      · by_cases w : sv T n (p + 1) = 61
        · rw [if_pos ⟨Or.inl s60, w⟩] at eT; omega
        · rw [if_neg w] at t; exact t
    rw [if_neg s60] at t
    by_cases s62 : T p = 62
    · rw [if_neg (by omega), if_neg (by omega), if_neg (by omega), if_neg (by omega), if_neg (by omega), if_neg (by omega), if_neg (by omega), if_neg (by omega), if_neg (by omega), if_neg s60, if_neg (by omega), if_pos s62]
      rw [if_pos s62] at t
      refine ⟨by omega, ifI (fun e => ?_) (fun e => ?_)⟩
      · by_cases w : sv T n (p + 1) = 61
        · rw [if_pos w] at t; exact t
        · rw [if_neg (fun z => w z.2)] at eT; omega
      · by_cases w : sv T n (p + 1) = 61
        · rw [if_pos ⟨Or.inr s62, w⟩] at eT; omega
        · rw [if_neg w] at t; exact t
    rw [if_neg s62] at t
    by_cases s35 : T p = 35
    · rw [if_pos s35]
      rw [if_neg (by omega), if_pos s35] at t; exact t
    by_cases s40 : T p = 40
    · rw [if_neg (by omega), if_pos s40]
      rw [if_neg (by omega), if_neg (by omega), if_neg (by omega), if_neg (by omega), if_neg (by omega), if_neg (by omega), if_pos s40] at t; exact t
    by_cases s41 : T p = 41
    · rw [if_neg (by omega), if_neg (by omega), if_pos s41]
      rw [if_neg (by omega), if_neg (by omega), if_neg (by omega), if_neg (by omega), if_neg (by omega), if_neg (by omega), if_neg (by omega), if_pos s41] at t; exact t
    by_cases s42 : T p = 42
    · rw [if_neg (by omega), if_neg (by omega), if_neg (by omega), if_pos s42]
      rw [if_neg (by omega), if_neg (by omega), if_neg (by omega), if_neg (by omega), if_pos s42] at t; exact t
    by_cases s43 : T p = 43
    · rw [if_neg (by omega), if_neg (by omega), if_neg (by omega), if_neg (by omega), if_pos s43]
      rw [if_neg (by omega), if_neg (by omega), if_pos s43] at t; exact t
    by_cases s44 : T p = 44
    · rw [if_neg (by omega), if_neg (by omega), if_neg (by omega), if_neg (by omega), if_neg (by omega), if_pos s44]
      rw [if_neg (by omega), if_neg (by omega), if_neg (by omega), if_neg (by omega), if_neg (by omega), if_neg (by omega), if_neg (by omega), if_neg (by omega), if_pos s44] at t; exact t
    by_cases s45 : T p = 45
    · rw [if_neg (by omega), if_neg (by omega), if_neg (by omega), if_neg (by omega), if_neg (by omega), if_neg (by omega), if_pos s45]
      rw [if_neg (by omega), if_neg (by omega), if_neg (by omega), if_pos s45] at t; exact t
    by_cases s47 : T p = 47
    · rw [if_neg (by omega), if_neg (by omega), if_neg (by omega), if_neg (by omega), if_neg (by omega), if_neg (by omega), if_neg (by omega), if_pos s47]
      rw [if_neg (by omega), if_neg (by omega), if_neg (by omega), if_neg (by omega), if_neg (by omega), if_pos s47] at t; exact t
    by_cases s59 : T p = 59
    · rw [if_neg (by omega), if_neg (by omega), if_neg (by omega), if_neg (by omega), if_neg (by omega), if_neg (by omega), if_neg (by omega), if_neg (by omega), if_pos s59]
      rw [if_neg (by omega), if_neg (by omega), if_neg (by omega), if_neg (by omega), if_neg (by omega), if_neg (by omega), if_neg (by omega), if_neg (by omega), if_neg (by omega), if_pos s59] at t; exact t
    by_cases s61 : T p = 61
    · rw [if_neg (by omega), if_neg (by omega), if_neg (by omega), if_neg (by omega), if_neg (by omega), if_neg (by omega), if_neg (by omega), if_neg (by omega), if_neg (by omega), if_neg (by omega), if_pos s61]
      rw [if_pos s61] at t; exact t
    rw [if_neg s35, if_neg s40, if_neg s41, if_neg s42, if_neg s43, if_neg s44, if_neg s45, if_neg s47, if_neg s59, if_neg s60, if_neg s61, if_neg s62]
    rw [if_neg s61, if_neg s35, if_neg s43, if_neg s45, if_neg s42, if_neg s47, if_neg s40, if_neg s41, if_neg s44, if_neg s59] at t; exact t
/-- where TOKENS begin -/
def sINN (T : Int → Int) (n : Int) : Nat → Int
  | 0 => sk T n 0
  | k + 1 => nx T n (sINN T n k)
def sT (T : Int → Int) (n j : Int) : Int := sINN T n j.toNat
theorem sT_0 {T : Int → Int} {n : Int} : sT T n 0 = sk T n 0 := rfl
theorem sT_s {T : Int → Int} {n j : Int} (h : 0 ≤ j) : sT T n (j + 1) = nx T n (sT T n j) := by
  unfold sT
  rw [show (j + 1).toNat = j.toNat + 1 by omega]
  rfl
/-- the class has cut a tape -/
def CT (T : Int → Int) (n : Int) (σ : zI) (cnt : Int) : Prop := (0 ≤ cnt ∧ cnt ≤ n) ∧ (∀ j, 0 ≤ j → j ≤ cnt → σ 64 j = tk T n (sT T n j) ∧ σ 65 j = sT T n j) ∧ (∀ j, 0 ≤ j → j < cnt → sT T n j < n ∧ σ 66 j = nv T (sT T n j) (tE T n (sT T n j))) ∧ sT T n cnt = n
-- method 36: MillTown$Reader.cut([II)V
theorem c_36_0 : pg_cd 36 0 = (1, 1, 0, 0, 0) := by decide +kernel
theorem c_36_1 : pg_cd 36 1 = (6, 1, 0, 3, 0) := by decide +kernel
theorem c_36_2 : pg_cd 36 2 = (1, 1, 0, 0, 0) := by decide +kernel
theorem c_36_3 : pg_cd 36 3 = (6, 2, 0, 4, 0) := by decide +kernel
theorem c_36_5 : pg_cd 36 5 = (1, 1, 0, 0, 0) := by decide +kernel
theorem c_36_6 : pg_cd 36 6 = (6, 2, 0, 5, 0) := by decide +kernel
theorem c_36_8 : pg_cd 36 8 = (3, 2, 0, 5, 0) := by decide +kernel
theorem c_36_10 : pg_cd 36 10 = (3, 1, 0, 2, 0) := by decide +kernel
theorem c_36_11 : pg_cd 36 11 = (37, 3, 0, 3, 85) := by decide +kernel
theorem c_36_14 : pg_cd 36 14 = (3, 2, 0, 4, 0) := by decide +kernel
theorem c_36_16 : pg_cd 36 16 = (3, 1, 0, 2, 0) := by decide +kernel
theorem c_36_17 : pg_cd 36 17 = (37, 3, 0, 3, 79) := by decide +kernel
theorem c_36_20 : pg_cd 36 20 = (5, 1, 0, 1, 0) := by decide +kernel
theorem c_36_21 : pg_cd 36 21 = (3, 1, 0, 2, 0) := by decide +kernel
theorem c_36_22 : pg_cd 36 22 = (3, 2, 0, 4, 0) := by decide +kernel
theorem c_36_24 : pg_cd 36 24 = (81, 39, 69, 0, 0) := by decide +kernel
theorem c_36_27 : pg_cd 36 27 = (6, 2, 0, 6, 0) := by decide +kernel
theorem c_36_29 : pg_cd 36 29 = (5, 1, 0, 1, 0) := by decide +kernel
theorem c_36_30 : pg_cd 36 30 = (3, 2, 0, 4, 0) := by decide +kernel
theorem c_36_32 : pg_cd 36 32 = (50, 1, 0, 0, 0) := by decide +kernel
theorem c_36_33 : pg_cd 36 33 = (1, 2, 0, 0, 32) := by decide +kernel
theorem c_36_35 : pg_cd 36 35 = (37, 3, 0, 0, 51) := by decide +kernel
theorem c_36_38 : pg_cd 36 38 = (5, 1, 0, 1, 0) := by decide +kernel
theorem c_36_39 : pg_cd 36 39 = (3, 2, 0, 4, 0) := by decide +kernel
theorem c_36_41 : pg_cd 36 41 = (50, 1, 0, 0, 0) := by decide +kernel
theorem c_36_42 : pg_cd 36 42 = (1, 2, 0, 0, 10) := by decide +kernel
theorem c_36_44 : pg_cd 36 44 = (37, 3, 0, 0, 42) := by decide +kernel
theorem c_36_47 : pg_cd 36 47 = (5, 1, 0, 0, 0) := by decide +kernel
theorem c_36_48 : pg_cd 36 48 = (45, 3, 9, 0, 0) := by decide +kernel
theorem c_36_51 : pg_cd 36 51 = (3, 1, 0, 3, 0) := by decide +kernel
theorem c_36_52 : pg_cd 36 52 = (5, 1, 0, 1, 0) := by decide +kernel
theorem c_36_53 : pg_cd 36 53 = (3, 2, 0, 4, 0) := by decide +kernel
theorem c_36_55 : pg_cd 36 55 = (3, 2, 0, 6, 0) := by decide +kernel
theorem c_36_57 : pg_cd 36 57 = (81, 40, 73, 0, 0) := by decide +kernel
theorem c_36_60 : pg_cd 36 60 = (54, 1, 0, 0, 0) := by decide +kernel
theorem c_36_61 : pg_cd 36 61 = (5, 1, 0, 0, 0) := by decide +kernel
theorem c_36_62 : pg_cd 36 62 = (45, 3, 15, 1, 0) := by decide +kernel
theorem c_36_65 : pg_cd 36 65 = (3, 1, 0, 3, 0) := by decide +kernel
theorem c_36_66 : pg_cd 36 66 = (3, 2, 0, 4, 0) := by decide +kernel
theorem c_36_68 : pg_cd 36 68 = (54, 1, 0, 0, 0) := by decide +kernel
theorem c_36_69 : pg_cd 36 69 = (5, 1, 0, 0, 0) := by decide +kernel
theorem c_36_70 : pg_cd 36 70 = (45, 3, 18, 2, 0) := by decide +kernel
theorem c_36_73 : pg_cd 36 73 = (3, 1, 0, 3, 0) := by decide +kernel
theorem c_36_74 : pg_cd 36 74 = (5, 1, 0, 1, 0) := by decide +kernel
theorem c_36_75 : pg_cd 36 75 = (3, 2, 0, 4, 0) := by decide +kernel
theorem c_36_77 : pg_cd 36 77 = (3, 2, 0, 6, 0) := by decide +kernel
theorem c_36_79 : pg_cd 36 79 = (81, 42, 76, 0, 0) := by decide +kernel
theorem c_36_82 : pg_cd 36 82 = (54, 1, 0, 0, 0) := by decide +kernel
theorem c_36_83 : pg_cd 36 83 = (9, 3, 0, 3, 1) := by decide +kernel
theorem c_36_86 : pg_cd 36 86 = (3, 2, 0, 6, 0) := by decide +kernel
theorem c_36_88 : pg_cd 36 88 = (6, 2, 0, 4, 0) := by decide +kernel
theorem c_36_90 : pg_cd 36 90 = (9, 3, 0, 5, 1) := by decide +kernel
theorem c_36_93 : pg_cd 36 93 = (38, 3, 0, 0, (-85)) := by decide +kernel
theorem c_36_96 : pg_cd 36 96 = (5, 1, 0, 0, 0) := by decide +kernel
theorem c_36_97 : pg_cd 36 97 = (45, 3, 9, 0, 0) := by decide +kernel
theorem c_36_100 : pg_cd 36 100 = (3, 1, 0, 3, 0) := by decide +kernel
theorem c_36_101 : pg_cd 36 101 = (1, 1, 0, 0, 1) := by decide +kernel
theorem c_36_102 : pg_cd 36 102 = (54, 1, 0, 0, 0) := by decide +kernel
theorem c_36_103 : pg_cd 36 103 = (5, 1, 0, 0, 0) := by decide +kernel
theorem c_36_104 : pg_cd 36 104 = (45, 3, 15, 1, 0) := by decide +kernel
theorem c_36_107 : pg_cd 36 107 = (3, 1, 0, 3, 0) := by decide +kernel
theorem c_36_108 : pg_cd 36 108 = (3, 1, 0, 2, 0) := by decide +kernel
theorem c_36_109 : pg_cd 36 109 = (54, 1, 0, 0, 0) := by decide +kernel
theorem c_36_110 : pg_cd 36 110 = (94, 0, 0, 0, 0) := by decide +kernel
theorem mi_36 : pg_mc 36 = 3 ∧ pg_na 36 = 2 ∧ pg_mx 36 = 7 := by decide +kernel
set_option maxRecDepth 20000 in
theorem u_36_0 {d : Nat} {S : zS} {σ τ : zI} {Q : zQ} {x2 : Int} (t : wi (d + 10) 36 8 [.ref 63, .ref 82, .int (wI x2), .int (wI 0), .int (wI 0), .int (wI 0), .retAddr 0] [] S σ τ Q) : wi (d + 10) 36 0 [.ref 63, .ref 82, .int (wI x2), .retAddr 0, .retAddr 0, .retAddr 0, .retAddr 0] [] S σ τ Q := by
  refine i1 c_36_0 (i6 (L' := [.ref 63, .ref 82, .int (wI x2), .int (wI 0), .retAddr 0, .retAddr 0, .retAddr 0]) c_36_1 rfl (i1 c_36_2 (i6 (L' := [.ref 63, .ref 82, .int (wI x2), .int (wI 0), .int (wI 0), .retAddr 0, .retAddr 0]) c_36_3 rfl (i1 c_36_5 (i6 (L' := [.ref 63, .ref 82, .int (wI x2), .int (wI 0), .int (wI 0), .int (wI 0), .retAddr 0]) c_36_6 rfl t)))))
set_option maxRecDepth 20000 in
theorem u_36_8 {d : Nat} {S : zS} {σ τ : zI} {Q : zQ} {x2 : Int} {x3 : Int} {x4 : Int} {x5 : Int} {y6 : Value} (t : (rg x5) ∧ (rg x2) ∧ if x2 ≤ x5 then ((0 ≤ x3 ∧ x3 < 301) ∧ Q none S (uc (uc σ 64 (u1 (σ 64) x3 1)) 65 (u1 (σ 65) x3 x2)) τ) else ((rg x4) ∧ if x2 ≤ x4 then ((0 ≤ x3 ∧ x3 < 301) ∧ Q none S (uc (uc σ 64 (u1 (σ 64) x3 1)) 65 (u1 (σ 65) x3 x2)) τ) else ((TB (σ 82) x2) ∧ (0 ≤ x4 ∧ x4 < x2) ∧ (0 ≤ x4 ∧ x4 < 300) ∧ if (σ 82 x4) = 32 then (wi (d + 10) 36 8 [.ref 63, .ref 82, .int (wI x2), .int (wI x3), .int (wI (tE (σ 82) x2 x4)), .int (wI (x5 + 1)), .int (wI (tE (σ 82) x2 x4))] [] S σ τ Q) else (if (σ 82 x4) = 10 then (wi (d + 10) 36 8 [.ref 63, .ref 82, .int (wI x2), .int (wI x3), .int (wI (tE (σ 82) x2 x4)), .int (wI (x5 + 1)), .int (wI (tE (σ 82) x2 x4))] [] S σ τ Q) else (∃ n14 : Int, (TB (σ 82) n14) ∧ (0 ≤ x4 ∧ x4 < n14) ∧ ((tE (σ 82) x2 x4) = tE (σ 82) n14 x4) ∧ (0 ≤ x3 ∧ x3 < 301) ∧ ∃ w19 : Int, wI w19 = wI (tk (σ 82) n14 x4) ∧ rg w19 ∧ (0 ≤ x4 ∧ x4 ≤ (tE (σ 82) x2 x4) ∧ (tE (σ 82) x2 x4) ≤ 300) ∧ (∀ x, x4 ≤ x → x < (tE (σ 82) x2 x4) → 0 ≤ (uc (uc σ 64 (u1 (σ 64) x3 w19)) 65 (u1 (σ 65) x3 x4)) 82 x ∧ (uc (uc σ 64 (u1 (σ 64) x3 w19)) 65 (u1 (σ 65) x3 x4)) 82 x ≤ 255) ∧ ∃ w24 : Int, wI w24 = wI (nv ((uc (uc σ 64 (u1 (σ 64) x3 w19)) 65 (u1 (σ 65) x3 x4)) 82) x4 (tE (σ 82) x2 x4)) ∧ rg w24 ∧ wi (d + 10) 36 8 [.ref 63, .ref 82, .int (wI x2), .int (wI (x3 + 1)), .int (wI (tE (σ 82) x2 x4)), .int (wI (x5 + 1)), .int (wI (tE (σ 82) x2 x4))] [] S (uc (uc (uc σ 64 (u1 (σ 64) x3 w19)) 65 (u1 (σ 65) x3 x4)) 66 (u1 (σ 66) x3 w24)) τ Q))))) : wi (d + 10) 36 8 [.ref 63, .ref 82, .int (wI x2), .int (wI x3), .int (wI x4), .int (wI x5), y6] [] S σ τ Q := by
  obtain ⟨r1, t⟩ := t
  obtain ⟨r2, t⟩ := t
  refine i3 c_36_8 rfl (i3 c_36_10 rfl ?_)
  refine i37 c_36_11 r1 r2 rfl (fun hc => ?_) (fun hc => ?_)
  · have t := iT t hc
    have ha3 : x2 ≤ x5 := hc
    obtain ⟨r4, t⟩ := t
    refine i5 c_36_96 rfl (i45 c_36_97 (lo (c := 63) (kd := 103) (n := 0) rfl (by decide)) (lro (c := 63) (k := 0) (j := 64) (by decide)) (i3 c_36_100 rfl (i1 c_36_101 (i54 (σ1 := uc σ 64 (u1 (σ 64) x3 1)) c_36_102 (lo (c := 64) (kd := 0) (n := 301) rfl (by decide)) (by decide) r4 (by decide) rfl (by decide) (wr_ rfl rfl) (i5 c_36_103 rfl (i45 c_36_104 (lo (c := 63) (kd := 103) (n := 0) rfl (by decide)) (lro (c := 63) (k := 1) (j := 65) (by decide)) (i3 c_36_107 rfl (i3 c_36_108 rfl (i54 (σ1 := uc (uc σ 64 (u1 (σ 64) x3 1)) 65 (u1 (σ 65) x3 x2)) c_36_109 (lo (c := 65) (kd := 0) (n := 301) rfl (by decide)) (by decide) r4 (by decide) rfl r2 (wr_ (uc_ns rfl (by decide)) rfl) ?_)))))))))
    exact i94 c_36_110 t
  · have t := iF t hc
    have ha3 : ¬ (x2 ≤ x5) := hc
    obtain ⟨r5, t⟩ := t
    refine i3 c_36_14 rfl (i3 c_36_16 rfl ?_)
    refine i37 c_36_17 r5 r2 rfl (fun hc => ?_) (fun hc => ?_)
    · have t := iT t hc
      have ha6 : x2 ≤ x4 := hc
      obtain ⟨r7, t⟩ := t
      refine i5 c_36_96 rfl (i45 c_36_97 (lo (c := 63) (kd := 103) (n := 0) rfl (by decide)) (lro (c := 63) (k := 0) (j := 64) (by decide)) (i3 c_36_100 rfl (i1 c_36_101 (i54 (σ1 := uc σ 64 (u1 (σ 64) x3 1)) c_36_102 (lo (c := 64) (kd := 0) (n := 301) rfl (by decide)) (by decide) r7 (by decide) rfl (by decide) (wr_ rfl rfl) (i5 c_36_103 rfl (i45 c_36_104 (lo (c := 63) (kd := 103) (n := 0) rfl (by decide)) (lro (c := 63) (k := 1) (j := 65) (by decide)) (i3 c_36_107 rfl (i3 c_36_108 rfl (i54 (σ1 := uc (uc σ 64 (u1 (σ 64) x3 1)) 65 (u1 (σ 65) x3 x2)) c_36_109 (lo (c := 65) (kd := 0) (n := 301) rfl (by decide)) (by decide) r7 (by decide) rfl r2 (wr_ (uc_ns rfl (by decide)) rfl) ?_)))))))))
      exact i94 c_36_110 t
    · have t := iF t hc
      have ha6 : ¬ (x2 ≤ x4) := hc
      obtain ⟨p8, t⟩ := t
      obtain ⟨p9, t⟩ := t
      refine i5 c_36_20 rfl (i3 c_36_21 rfl (i3 c_36_22 rfl ?_))
      refine i81 (As := [.ref 82, .int (wI x2), .int (wI x4)]) (rest := []) c_36_24 mi_39 rfl rfl (Nat.le_of_ble_eq_true rfl) (Nat.le_of_ble_eq_true rfl) (q_39 p8 p9 ?_)
      show wi (d + 10) 36 27 [.ref 63, .ref 82, .int (wI x2), .int (wI x3), .int (wI x4), .int (wI x5), y6] [.int (wI (tE (σ 82) x2 x4))] S σ τ Q
      obtain ⟨r10, t⟩ := t
      refine i6 (L' := [.ref 63, .ref 82, .int (wI x2), .int (wI x3), .int (wI x4), .int (wI x5), .int (wI (tE (σ 82) x2 x4))]) c_36_27 rfl (i5 c_36_29 rfl (i3 c_36_30 rfl (wi_ok (fun K11 => ?_))))
      refine i50 (v := σ 82 x4) c_36_32 (lo (c := 82) (kd := 0) (n := 300) rfl (by decide)) (by decide) r10 rfl (i1 c_36_33 ?_)
      refine i37 c_36_35 (rge_ K11 rfl) (by decide) rfl (fun hc => ?_) (fun hc => ?_)
      · have t := iT t hc
        have ha12 : (σ 82 x4) = 32 := hc
        refine i3 c_36_86 rfl (i6 (L' := [.ref 63, .ref 82, .int (wI x2), .int (wI x3), .int (wI (tE (σ 82) x2 x4)), .int (wI x5), .int (wI (tE (σ 82) x2 x4))]) c_36_88 rfl (i9 (L' := [.ref 63, .ref 82, .int (wI x2), .int (wI x3), .int (wI (tE (σ 82) x2 x4)), .int (wI (x5 + 1)), .int (wI (tE (σ 82) x2 x4))]) c_36_90 rfl rfl (i38 c_36_93 rfl t)))
      · have t := iF t hc
        have ha12 : ¬ ((σ 82 x4) = 32) := hc
        refine i5 c_36_38 rfl (i3 c_36_39 rfl (i50 (v := σ 82 x4) c_36_41 (lo (c := 82) (kd := 0) (n := 300) rfl (by decide)) (by decide) r10 rfl (i1 c_36_42 ?_)))
        refine i37 c_36_44 (rge_ K11 rfl) (by decide) rfl (fun hc => ?_) (fun hc => ?_)
        · have t := iT t hc
          have ha13 : (σ 82 x4) = 10 := hc
          refine i3 c_36_86 rfl (i6 (L' := [.ref 63, .ref 82, .int (wI x2), .int (wI x3), .int (wI (tE (σ 82) x2 x4)), .int (wI x5), .int (wI (tE (σ 82) x2 x4))]) c_36_88 rfl (i9 (L' := [.ref 63, .ref 82, .int (wI x2), .int (wI x3), .int (wI (tE (σ 82) x2 x4)), .int (wI (x5 + 1)), .int (wI (tE (σ 82) x2 x4))]) c_36_90 rfl rfl (i38 c_36_93 rfl t)))
        · have t := iF t hc
          have ha13 : ¬ ((σ 82 x4) = 10) := hc
          obtain ⟨n14, t⟩ := t
          obtain ⟨p15, t⟩ := t
          obtain ⟨p16, t⟩ := t
          obtain ⟨p17, t⟩ := t
          refine i5 c_36_47 rfl (i45 c_36_48 (lo (c := 63) (kd := 103) (n := 0) rfl (by decide)) (lro (c := 63) (k := 0) (j := 64) (by decide)) (i3 c_36_51 rfl (i5 c_36_52 rfl (i3 c_36_53 rfl (i3 c_36_55 rfl ?_)))))
          refine i81 (As := [.ref 82, .int (wI x4), .int (wI (tE (σ 82) x2 x4))]) (rest := [.int (wI x3), .ref 64]) c_36_57 mi_40 rfl rfl (Nat.le_of_ble_eq_true rfl) (Nat.le_of_ble_eq_true rfl) (q_40 (n := n14) p15 p16 p17 ?_)
          show wi (d + 10) 36 60 [.ref 63, .ref 82, .int (wI x2), .int (wI x3), .int (wI x4), .int (wI x5), .int (wI (tE (σ 82) x2 x4))] [.int (wI (tk (σ 82) n14 x4)), .int (wI x3), .ref 64] S σ τ Q
          obtain ⟨r18, t⟩ := t
          obtain ⟨w19, e20, r21, t⟩ := t
          obtain ⟨p22, t⟩ := t
          obtain ⟨p23, t⟩ := t
          refine i54 (σ1 := uc σ 64 (u1 (σ 64) x3 w19)) c_36_60 (lo (c := 64) (kd := 0) (n := 301) rfl (by decide)) (by decide) r18 (by decide) e20 r21 (wr_ rfl rfl) (i5 c_36_61 rfl (i45 c_36_62 (lo (c := 63) (kd := 103) (n := 0) rfl (by decide)) (lro (c := 63) (k := 1) (j := 65) (by decide)) (i3 c_36_65 rfl (i3 c_36_66 rfl (i54 (σ1 := uc (uc σ 64 (u1 (σ 64) x3 w19)) 65 (u1 (σ 65) x3 x4)) c_36_68 (lo (c := 65) (kd := 0) (n := 301) rfl (by decide)) (by decide) r18 (by decide) rfl r5 (wr_ (uc_ns rfl (by decide)) rfl) (i5 c_36_69 rfl (i45 c_36_70 (lo (c := 63) (kd := 103) (n := 0) rfl (by decide)) (lro (c := 63) (k := 2) (j := 66) (by decide)) (i3 c_36_73 rfl (i5 c_36_74 rfl (i3 c_36_75 rfl (i3 c_36_77 rfl ?_)))))))))))
          refine i81 (As := [.ref 82, .int (wI x4), .int (wI (tE (σ 82) x2 x4))]) (rest := [.int (wI x3), .ref 66]) c_36_79 mi_42 rfl rfl (Nat.le_of_ble_eq_true rfl) (Nat.le_of_ble_eq_true rfl) (q_42 p22 p23 ?_)
          show wi (d + 10) 36 82 [.ref 63, .ref 82, .int (wI x2), .int (wI x3), .int (wI x4), .int (wI x5), .int (wI (tE (σ 82) x2 x4))] [.int (wI (nv ((uc (uc σ 64 (u1 (σ 64) x3 w19)) 65 (u1 (σ 65) x3 x4)) 82) x4 (tE (σ 82) x2 x4))), .int (wI x3), .ref 66] S (uc (uc σ 64 (u1 (σ 64) x3 w19)) 65 (u1 (σ 65) x3 x4)) τ Q
          obtain ⟨w24, e25, r26, t⟩ := t
          refine i54 (σ1 := uc (uc (uc σ 64 (u1 (σ 64) x3 w19)) 65 (u1 (σ 65) x3 x4)) 66 (u1 (σ 66) x3 w24)) c_36_82 (lo (c := 66) (kd := 0) (n := 301) rfl (by decide)) (by decide) r18 (by decide) e25 r26 (wr_ (uc_ns (uc_ns rfl (by decide)) (by decide)) rfl) (i9 (L' := [.ref 63, .ref 82, .int (wI x2), .int (wI (x3 + 1)), .int (wI x4), .int (wI x5), .int (wI (tE (σ 82) x2 x4))]) c_36_83 rfl rfl (i3 c_36_86 rfl (i6 (L' := [.ref 63, .ref 82, .int (wI x2), .int (wI (x3 + 1)), .int (wI (tE (σ 82) x2 x4)), .int (wI x5), .int (wI (tE (σ 82) x2 x4))]) c_36_88 rfl (i9 (L' := [.ref 63, .ref 82, .int (wI x2), .int (wI (x3 + 1)), .int (wI (tE (σ 82) x2 x4)), .int (wI (x5 + 1)), .int (wI (tE (σ 82) x2 x4))]) c_36_90 rfl rfl (i38 c_36_93 rfl t)))))
theorem q_36 {d : Nat} {S : zS} {σ τ : zI} {Q : zQ} {n : Int} (p0 : TB (σ 82) n) (t : ∀ (σ1 : zI) (cnt : Int), (∀ c, c ≠ 64 → c ≠ 65 → c ≠ 66 → σ1 c = σ c) → CT (σ 82) n σ1 cnt → Q none S σ1 τ) : wc (d + 10) 36 [.ref 63, .ref 82, .int (wI n)] S σ τ Q := by
  obtain ⟨T, hT⟩ : ∃ T, T = σ 82 := ⟨_, rfl⟩
  rw [← hT] at p0 t
  have n0 := p0.1
  have tkb : ∀ p, 0 ≤ tk T n p ∧ tk T n p ≤ 36 := fun p => by
    unfold tk
    split
    · omega
    · split
      · omega
      · split
        · unfold wcd
          repeat' split
          all_goals omega
        · unfold sy
          repeat' split
          all_goals omega
  have fin : ∀ c σ', (∀ x, x ≠ 64 → x ≠ 65 → x ≠ 66 → σ' x = σ x) → (0 ≤ c ∧ c ≤ n) → sk T n n = sT T n c → (∀ j, 0 ≤ j → j < c → (σ' 64 j = tk T n (sT T n j) ∧ σ' 65 j = sT T n j) ∧ sT T n j < n ∧ σ' 66 j = nv T (sT T n j) (tE T n (sT T n j))) → Q none S (uc (uc σ' 64 (u1 (σ' 64) c 1)) 65 (u1 (σ' 65) c n)) τ := fun c σ' f hc hs hj => by
    have e : sT T n c = n := by
      have := sk_b (T := T) (n := n) (p := n) (Int.le_refl _)
      omega
    refine t _ c (fun x h1 h2 h3 => by rw [uc_n h2, uc_n h1]; exact f x h1 h2 h3) ⟨hc, fun j j0 j1 => ?_, fun j j0 j1 => ?_, e⟩
    · rw [uc_n (show (64 : Nat) ≠ 65 by decide), uc_s, uc_s]
      by_cases x : j = c
      · subst x
        rw [u1_s, u1_s, e]
        exact ⟨(if_pos (Int.le_refl _) : tk T n n = 1).symm, rfl⟩
      · rw [u1_n x, u1_n x]; exact (hj j j0 (by omega)).1
    · rw [uc_n (show (66 : Nat) ≠ 65 by decide), uc_n (show (66 : Nat) ≠ 64 by decide)]
      exact (hj j j0 j1).2
  have lp : ∀ p, 0 ≤ p → p ≤ n → ∀ i c σ', (∀ x, x ≠ 64 → x ≠ 65 → x ≠ 66 → σ' x = σ x) → (0 ≤ i ∧ i ≤ p) → (0 ≤ c ∧ c ≤ p) → sk T n p = sT T n c → (∀ j, 0 ≤ j → j < c → (σ' 64 j = tk T n (sT T n j) ∧ σ' 65 j = sT T n j) ∧ sT T n j < n ∧ σ' 66 j = nv T (sT T n j) (tE T n (sT T n j))) → ∀ y, wi (d + 10) 36 8 [.ref 63, .ref 82, .int (wI n), .int (wI c), .int (wI p), .int (wI i), y] [] S σ' τ Q := by
    have key : ∀ m : Nat, ∀ p, 0 ≤ p → p ≤ n → (n - p).toNat ≤ m → ∀ i c σ', (∀ x, x ≠ 64 → x ≠ 65 → x ≠ 66 → σ' x = σ x) → (0 ≤ i ∧ i ≤ p) → (0 ≤ c ∧ c ≤ p) → sk T n p = sT T n c → (∀ j, 0 ≤ j → j < c → (σ' 64 j = tk T n (sT T n j) ∧ σ' 65 j = sT T n j) ∧ sT T n j < n ∧ σ' 66 j = nv T (sT T n j) (tE T n (sT T n j))) → ∀ y, wi (d + 10) 36 8 [.ref 63, .ref 82, .int (wI n), .int (wI c), .int (wI p), .int (wI i), y] [] S σ' τ Q := by
      intro m
      induction m with
      | zero =>
        intro p q0 q1 hm i c σ' f hi hc hs hj y
        have e : p = n := by omega
        subst e
        exact u_36_8 ⟨by omega, by omega, ifI (fun _ => ⟨by omega, fin c σ' f hc hs hj⟩) (fun _ => ⟨by omega, ifI (fun _ => ⟨by omega, fin c σ' f hc hs hj⟩) (fun z => by omega)⟩)⟩
      | succ m ih =>
        intro p q0 q1 hm i c σ' f hi hc hs hj y
        by_cases e : p = n
        · subst e
          exact u_36_8 ⟨by omega, by omega, ifI (fun _ => ⟨by omega, fin c σ' f hc hs hj⟩) (fun _ => ⟨by omega, ifI (fun _ => ⟨by omega, fin c σ' f hc hs hj⟩) (fun z => by omega)⟩)⟩
        have hpn : p < n := by omega
        have f82 : σ' 82 = T := by rw [f 82 (by decide) (by decide) (by decide), ← hT]
        have eb := tE_b (T := T) hpn
        have bp := p0.2 p q0 hpn
        refine u_36_8 ⟨by omega, by omega, ifI (fun _ => by omega) (fun _ => ⟨by omega, ifI (fun _ => by omega) (fun _ => ?_)⟩)⟩
        rw [f82]
        have blank : cB (T p) → wi (d + 10) 36 8 [.ref 63, .ref 82, .int (wI n), .int (wI c), .int (wI (tE T n p)), .int (wI (i + 1)), .int (wI (tE T n p))] [] S σ' τ Q := fun hb => by
          have e1 : tE T n p = p + 1 := by
            unfold tE
            rw [if_neg (by omega), if_neg (by omega), if_neg (by omega), if_neg (fun z => by omega)]
          rw [e1]
          refine ih (p + 1) (by omega) (by omega) (by omega) _ c σ' f (by omega) (by omega) ?_ hj _
          rw [← hs]
          exact (rn_go hpn (bB_i.mpr hb)).symm
        refine ⟨p0, by omega, by omega, ifI (fun c1 => blank (Or.inl c1)) (fun c1 => ifI (fun c2 => blank (Or.inr c2)) (fun c2 => ?_))⟩
        have hp : sk T n p = p := rn_st (fun z => (bB_i.mp z.2).elim c1 c2)
        have hp' : sT T n c = p := by rw [← hs]; exact hp
        have r82 : ∀ g h, uc (uc σ' 64 g) 65 h 82 = T := fun g h => by rw [uc_n (by decide), uc_n (by decide)]; exact f82
        refine ⟨n, p0, ⟨q0, hpn⟩, rfl, by omega, tk T n p, rfl, by have := tkb p; omega, by omega, fun x x0 x1 => by rw [r82]; exact p0.2 x (by omega) (by omega), nv T p (tE T n p), by rw [r82], by have := nv_b (T := T) (p := p) (q := tE T n p) (by omega); omega, ?_⟩
        refine ih (tE T n p) (by omega) eb.2 (by omega) _ (c + 1) _ (fun x h1 h2 h3 => by rw [uc_n h3, uc_n h2, uc_n h1]; exact f x h1 h2 h3) (by omega) (by omega) ?_ (fun j j0 j1 => ?_) _
        · rw [sT_s hc.1, hp']; rfl
        · rw [uc_n (show (64 : Nat) ≠ 66 by decide), uc_n (show (64 : Nat) ≠ 65 by decide), uc_s, uc_n (show (65 : Nat) ≠ 66 by decide), uc_s, uc_s]
          by_cases x : j = c
          · subst x
            rw [u1_s, u1_s, u1_s, hp']
            exact ⟨⟨rfl, rfl⟩, hpn, rfl⟩
          · rw [u1_n x, u1_n x, u1_n x]; exact hj j j0 (by omega)
    exact fun p q0 q1 => key _ p q0 q1 (Nat.le_refl _)
  refine wc_of mi_36 rfl (u_36_0 (lp 0 (by omega) (by omega) 0 0 σ (fun _ _ _ _ => rfl) (by omega) (by omega) rfl (fun j j0 j1 => by omega) _))
