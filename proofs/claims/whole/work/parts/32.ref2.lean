/-! ===== the reference: readers, work, force (segments printed by wip/whole, contracts own work) ===== -/
-- method 209: MillTownModel.priceAt(II)I
theorem c_209_0 : pg_cd 209 0 = (3, 1, 0, 2, 0) := by decide +kernel
theorem c_209_1 : pg_cd 209 1 = (6, 1, 0, 3, 0) := by decide +kernel
theorem c_209_2 : pg_cd 209 2 = (3, 1, 0, 3, 0) := by decide +kernel
theorem c_209_3 : pg_cd 209 3 = (36, 3, 0, 2, 35) := by decide +kernel
theorem c_209_6 : pg_cd 209 6 = (3, 1, 0, 3, 0) := by decide +kernel
theorem c_209_7 : pg_cd 209 7 = (1, 3, 0, 0, 400) := by decide +kernel
theorem c_209_10 : pg_cd 209 10 = (37, 3, 0, 3, 28) := by decide +kernel
theorem c_209_13 : pg_cd 209 13 = (5, 1, 0, 0, 0) := by decide +kernel
theorem c_209_14 : pg_cd 209 14 = (45, 12, 8, 0, 0) := by decide +kernel
theorem c_209_17 : pg_cd 209 17 = (1, 2, 0, 0, 100) := by decide +kernel
theorem c_209_19 : pg_cd 209 19 = (1, 3, 0, 0, 400) := by decide +kernel
theorem c_209_22 : pg_cd 209 22 = (3, 1, 0, 1, 0) := by decide +kernel
theorem c_209_23 : pg_cd 209 23 = (12, 1, 0, 0, 0) := by decide +kernel
theorem c_209_24 : pg_cd 209 24 = (10, 1, 0, 0, 0) := by decide +kernel
theorem c_209_25 : pg_cd 209 25 = (3, 1, 0, 3, 0) := by decide +kernel
theorem c_209_26 : pg_cd 209 26 = (10, 1, 0, 0, 0) := by decide +kernel
theorem c_209_27 : pg_cd 209 27 = (50, 1, 0, 0, 0) := by decide +kernel
theorem c_209_28 : pg_cd 209 28 = (1, 1, 0, 0, (-1)) := by decide +kernel
theorem c_209_29 : pg_cd 209 29 = (37, 3, 0, 1, 9) := by decide +kernel
theorem c_209_32 : pg_cd 209 32 = (9, 3, 0, 3, (-1)) := by decide +kernel
theorem c_209_35 : pg_cd 209 35 = (38, 3, 0, 0, (-33)) := by decide +kernel
theorem c_209_38 : pg_cd 209 38 = (3, 1, 0, 3, 0) := by decide +kernel
theorem c_209_39 : pg_cd 209 39 = (36, 3, 0, 2, 28) := by decide +kernel
theorem c_209_42 : pg_cd 209 42 = (3, 1, 0, 3, 0) := by decide +kernel
theorem c_209_43 : pg_cd 209 43 = (1, 3, 0, 0, 400) := by decide +kernel
theorem c_209_46 : pg_cd 209 46 = (37, 3, 0, 3, 21) := by decide +kernel
theorem c_209_49 : pg_cd 209 49 = (5, 1, 0, 0, 0) := by decide +kernel
theorem c_209_50 : pg_cd 209 50 = (45, 12, 8, 0, 0) := by decide +kernel
theorem c_209_53 : pg_cd 209 53 = (1, 2, 0, 0, 100) := by decide +kernel
theorem c_209_55 : pg_cd 209 55 = (1, 3, 0, 0, 400) := by decide +kernel
theorem c_209_58 : pg_cd 209 58 = (3, 1, 0, 1, 0) := by decide +kernel
theorem c_209_59 : pg_cd 209 59 = (12, 1, 0, 0, 0) := by decide +kernel
theorem c_209_60 : pg_cd 209 60 = (10, 1, 0, 0, 0) := by decide +kernel
theorem c_209_61 : pg_cd 209 61 = (3, 1, 0, 3, 0) := by decide +kernel
theorem c_209_62 : pg_cd 209 62 = (10, 1, 0, 0, 0) := by decide +kernel
theorem c_209_63 : pg_cd 209 63 = (50, 1, 0, 0, 0) := by decide +kernel
theorem c_209_64 : pg_cd 209 64 = (36, 3, 0, 1, 15) := by decide +kernel
theorem c_209_67 : pg_cd 209 67 = (5, 1, 0, 0, 0) := by decide +kernel
theorem c_209_68 : pg_cd 209 68 = (45, 12, 8, 0, 0) := by decide +kernel
theorem c_209_71 : pg_cd 209 71 = (1, 2, 0, 0, 70) := by decide +kernel
theorem c_209_73 : pg_cd 209 73 = (3, 1, 0, 1, 0) := by decide +kernel
theorem c_209_74 : pg_cd 209 74 = (10, 1, 0, 0, 0) := by decide +kernel
theorem c_209_75 : pg_cd 209 75 = (50, 1, 0, 0, 0) := by decide +kernel
theorem c_209_76 : pg_cd 209 76 = (38, 3, 0, 0, 18) := by decide +kernel
theorem c_209_79 : pg_cd 209 79 = (5, 1, 0, 0, 0) := by decide +kernel
theorem c_209_80 : pg_cd 209 80 = (45, 12, 8, 0, 0) := by decide +kernel
theorem c_209_83 : pg_cd 209 83 = (1, 2, 0, 0, 100) := by decide +kernel
theorem c_209_85 : pg_cd 209 85 = (1, 3, 0, 0, 400) := by decide +kernel
theorem c_209_88 : pg_cd 209 88 = (3, 1, 0, 1, 0) := by decide +kernel
theorem c_209_89 : pg_cd 209 89 = (12, 1, 0, 0, 0) := by decide +kernel
theorem c_209_90 : pg_cd 209 90 = (10, 1, 0, 0, 0) := by decide +kernel
theorem c_209_91 : pg_cd 209 91 = (3, 1, 0, 3, 0) := by decide +kernel
theorem c_209_92 : pg_cd 209 92 = (10, 1, 0, 0, 0) := by decide +kernel
theorem c_209_93 : pg_cd 209 93 = (50, 1, 0, 0, 0) := by decide +kernel
theorem c_209_94 : pg_cd 209 94 = (90, 0, 0, 0, 0) := by decide +kernel
theorem mi_209 : pg_mc 209 = 12 ∧ pg_na 209 = 2 ∧ pg_mx 209 = 4 := by decide +kernel
set_option maxRecDepth 20000 in
theorem u_209_0 {d : Nat} {S : zS} {σ τ : zI} {Q : zQ} {x1 : Int} {x2 : Int} (t : wi (d + 0) 209 2 [.ref 83, .int (wI x1), .int (wI x2), .int (wI x2)] [] S σ τ Q) : wi (d + 0) 209 0 [.ref 83, .int (wI x1), .int (wI x2), .retAddr 0] [] S σ τ Q := by
  refine i3 c_209_0 rfl (i6 (L' := [.ref 83, .int (wI x1), .int (wI x2), .int (wI x2)]) c_209_1 rfl t)
set_option maxRecDepth 20000 in
theorem u_209_2 {d : Nat} {S : zS} {σ τ : zI} {Q : zQ} {x1 : Int} {x2 : Int} {x3 : Int} (t : (rg x3) ∧ if x3 < 0 then ((0 ≤ 70 + x1 ∧ 70 + x1 < 112300) ∧ Q (some (.int (wI (σ 84 (70 + x1))))) S σ τ) else (if (400 : Int) ≤ x3 then ((0 ≤ 70 + x1 ∧ 70 + x1 < 112300) ∧ Q (some (.int (wI (σ 84 (70 + x1))))) S σ τ) else ((0 ≤ (100 + (400 * x1)) + x3 ∧ (100 + (400 * x1)) + x3 < 112300) ∧ if (σ 84 ((100 + (400 * x1)) + x3)) = (-1) then (wi (d + 0) 209 2 [.ref 83, .int (wI x1), .int (wI x2), .int (wI (x3 + (-1)))] [] S σ τ Q) else (if (σ 84 ((100 + (400 * x1)) + x3)) = 0 then ((0 ≤ 70 + x1 ∧ 70 + x1 < 112300) ∧ Q (some (.int (wI (σ 84 (70 + x1))))) S σ τ) else (Q (some (.int (wI (σ 84 ((100 + (400 * x1)) + x3))))) S σ τ))))) : wi (d + 0) 209 2 [.ref 83, .int (wI x1), .int (wI x2), .int (wI x3)] [] S σ τ Q := by
  obtain ⟨r1, t⟩ := t
  refine i3 c_209_2 rfl ?_
  refine i36 c_209_3 r1 rfl (fun hc => ?_) (fun hc => ?_)
  · have t := iT t hc
    have ha2 : x3 < 0 := hc
    refine i3 c_209_38 rfl ?_
    refine i36 c_209_39 r1 rfl (fun _ => ?_) (fun hc => absurd (show x3 < 0 by omega) hc)
    obtain ⟨r4, t⟩ := t
    refine i5 c_209_67 rfl (i45 c_209_68 (lo (c := 83) (kd := 112) (n := 0) rfl (by decide)) (lro (c := 83) (k := 0) (j := 84) (by decide)) (i1 c_209_71 (i3 c_209_73 rfl (i10 c_209_74 (wi_ok (fun K5 => ?_))))))
    refine i50 (v := σ 84 (70 + x1)) c_209_75 (lo (c := 84) (kd := 0) (n := 112300) rfl (by decide)) (by decide) r4 rfl (i38 c_209_76 rfl ?_)
    exact i90 c_209_94 t
  · have t := iF t hc
    have ha2 : ¬ (x3 < 0) := hc
    refine i3 c_209_6 rfl (i1 c_209_7 ?_)
    refine i37 c_209_10 r1 (by decide) rfl (fun hc => ?_) (fun hc => ?_)
    · have t := iT t hc
      have ha6 : (400 : Int) ≤ x3 := hc
      refine i3 c_209_38 rfl ?_
      refine i36 c_209_39 r1 rfl (fun hc => absurd hc (show ¬ (x3 < 0) by omega)) (fun _ => ?_)
      refine i3 c_209_42 rfl (i1 c_209_43 ?_)
      refine i37 c_209_46 r1 (by decide) rfl (fun _ => ?_) (fun hc => absurd (show (400 : Int) ≤ x3 by omega) hc)
      obtain ⟨r9, t⟩ := t
      refine i5 c_209_67 rfl (i45 c_209_68 (lo (c := 83) (kd := 112) (n := 0) rfl (by decide)) (lro (c := 83) (k := 0) (j := 84) (by decide)) (i1 c_209_71 (i3 c_209_73 rfl (i10 c_209_74 (wi_ok (fun K10 => ?_))))))
      refine i50 (v := σ 84 (70 + x1)) c_209_75 (lo (c := 84) (kd := 0) (n := 112300) rfl (by decide)) (by decide) r9 rfl (i38 c_209_76 rfl ?_)
      exact i90 c_209_94 t
    · have t := iF t hc
      have ha6 : ¬ ((400 : Int) ≤ x3) := hc
      obtain ⟨r11, t⟩ := t
      refine i5 c_209_13 rfl (i45 c_209_14 (lo (c := 83) (kd := 112) (n := 0) rfl (by decide)) (lro (c := 83) (k := 0) (j := 84) (by decide)) (i1 c_209_17 (i1 c_209_19 (i3 c_209_22 rfl (i12 c_209_23 (i10 c_209_24 (i3 c_209_25 rfl (i10 c_209_26 (wi_ok (fun K12 => ?_))))))))))
      refine i50 (v := σ 84 ((100 + (400 * x1)) + x3)) c_209_27 (lo (c := 84) (kd := 0) (n := 112300) rfl (by decide)) (by decide) r11 rfl (i1 c_209_28 ?_)
      refine i37 c_209_29 (rge_ K12 rfl) (by decide) rfl (fun hc => ?_) (fun hc => ?_)
      · have t := iF t hc
        have ha13 : ¬ ((σ 84 ((100 + (400 * x1)) + x3)) = (-1)) := hc
        refine i3 c_209_38 rfl ?_
        refine i36 c_209_39 r1 rfl (fun hc => absurd hc (show ¬ (x3 < 0) by omega)) (fun _ => ?_)
        refine i3 c_209_42 rfl (i1 c_209_43 ?_)
        refine i37 c_209_46 r1 (by decide) rfl (fun hc => absurd hc (show ¬ ((400 : Int) ≤ x3) by omega)) (fun _ => ?_)
        refine i5 c_209_49 rfl (i45 c_209_50 (lo (c := 83) (kd := 112) (n := 0) rfl (by decide)) (lro (c := 83) (k := 0) (j := 84) (by decide)) (i1 c_209_53 (i1 c_209_55 (i3 c_209_58 rfl (i12 c_209_59 (i10 c_209_60 (i3 c_209_61 rfl (i10 c_209_62 (i50 (v := σ 84 ((100 + (400 * x1)) + x3)) c_209_63 (lo (c := 84) (kd := 0) (n := 112300) rfl (by decide)) (by decide) r11 rfl ?_)))))))))
        refine i36 c_209_64 (rge_ K12 rfl) rfl (fun hc => ?_) (fun hc => ?_)
        · have t := iF t hc
          have ha16 : ¬ ((σ 84 ((100 + (400 * x1)) + x3)) = 0) := hc
          refine i5 c_209_79 rfl (i45 c_209_80 (lo (c := 83) (kd := 112) (n := 0) rfl (by decide)) (lro (c := 83) (k := 0) (j := 84) (by decide)) (i1 c_209_83 (i1 c_209_85 (i3 c_209_88 rfl (i12 c_209_89 (i10 c_209_90 (i3 c_209_91 rfl (i10 c_209_92 (i50 (v := σ 84 ((100 + (400 * x1)) + x3)) c_209_93 (lo (c := 84) (kd := 0) (n := 112300) rfl (by decide)) (by decide) r11 rfl ?_)))))))))
          exact i90 c_209_94 t
        · have t := iT t (Decidable.not_not.mp hc)
          have ha16 : (σ 84 ((100 + (400 * x1)) + x3)) = 0 := Decidable.not_not.mp hc
          obtain ⟨r17, t⟩ := t
          refine i5 c_209_67 rfl (i45 c_209_68 (lo (c := 83) (kd := 112) (n := 0) rfl (by decide)) (lro (c := 83) (k := 0) (j := 84) (by decide)) (i1 c_209_71 (i3 c_209_73 rfl (i10 c_209_74 (i50 (v := σ 84 (70 + x1)) c_209_75 (lo (c := 84) (kd := 0) (n := 112300) rfl (by decide)) (by decide) r17 rfl (i38 c_209_76 rfl ?_))))))
          exact i90 c_209_94 t
      · have t := iT t (Decidable.not_not.mp hc)
        have ha13 : (σ 84 ((100 + (400 * x1)) + x3)) = (-1) := Decidable.not_not.mp hc
        refine i9 (L' := [.ref 83, .int (wI x1), .int (wI x2), .int (wI (x3 + (-1)))]) c_209_32 rfl rfl (i38 c_209_35 rfl t)
theorem q_209 {d : Nat} {S : zS} {σ τ : zI} {Q : zQ} {what : Int} {week : Int} (p0 : (0 ≤ what ∧ what ≤ 7) ∧ -1 ≤ week ∧ week ≤ 399) (t : Q (some (.int (wI (r_pr (σ 84) what week)))) S σ τ) : wc (d + 0) 209 [.ref 83, .int (wI what), .int (wI week)] S σ τ Q := by
  refine wc_of mi_209 rfl (u_209_0 ?_)
  have key : ∀ w, -1 ≤ w → w ≤ 399 → Q (some (.int (wI (r_pr (σ 84) what w)))) S σ τ → wi (d + 0) 209 2 [.ref 83, .int (wI what), .int (wI week), .int (wI w)] [] S σ τ Q := by
    refine lp_dn (fun w hw ih => ?_)
    intro h1 t
    refine u_209_2 ⟨by omega, ?_⟩
    by_cases c : w < 0
    · have : w = -1 := by omega
      subst this
      rw [r_pr_m] at t
      rw [if_pos (by omega)]
      exact ⟨by omega, t⟩
    · rw [r_pr_s (by omega)] at t
      rw [if_neg c, if_neg (by omega)]
      refine ⟨by omega, ?_⟩
      by_cases c1 : σ 84 (100 + 400 * what + w) = -1
      · rw [if_pos c1] at t
        rw [if_pos c1]
        exact ih (by omega) (by omega) t
      · rw [if_neg c1] at t
        rw [if_neg c1]
        by_cases c2 : σ 84 (100 + 400 * what + w) = 0
        · rw [if_pos c2] at t
          rw [if_pos c2]
          exact ⟨by omega, t⟩
        · rw [if_neg c2] at t
          rw [if_neg c2]
          exact t
  exact key week p0.2.1 p0.2.2 t
-- method 210: MillTownModel.priceOf(II)I
theorem c_210_0 : pg_cd 210 0 = (3, 1, 0, 1, 0) := by decide +kernel
theorem c_210_1 : pg_cd 210 1 = (1, 1, 0, 0, 0) := by decide +kernel
theorem c_210_2 : pg_cd 210 2 = (1, 2, 0, 0, 7) := by decide +kernel
theorem c_210_4 : pg_cd 210 4 = (81, 196, 76, 0, 0) := by decide +kernel
theorem c_210_7 : pg_cd 210 7 = (36, 3, 0, 0, 19) := by decide +kernel
theorem c_210_10 : pg_cd 210 10 = (3, 1, 0, 2, 0) := by decide +kernel
theorem c_210_11 : pg_cd 210 11 = (81, 205, 89, 0, 0) := by decide +kernel
theorem c_210_14 : pg_cd 210 14 = (36, 3, 0, 0, 12) := by decide +kernel
theorem c_210_17 : pg_cd 210 17 = (5, 1, 0, 0, 0) := by decide +kernel
theorem c_210_18 : pg_cd 210 18 = (3, 1, 0, 1, 0) := by decide +kernel
theorem c_210_19 : pg_cd 210 19 = (3, 1, 0, 2, 0) := by decide +kernel
theorem c_210_20 : pg_cd 210 20 = (80, 209, 92, 0, 0) := by decide +kernel
theorem c_210_23 : pg_cd 210 23 = (38, 3, 0, 0, 4) := by decide +kernel
theorem c_210_26 : pg_cd 210 26 = (1, 1, 0, 0, (-1)) := by decide +kernel
theorem c_210_27 : pg_cd 210 27 = (90, 0, 0, 0, 0) := by decide +kernel
theorem mi_210 : pg_mc 210 = 12 ∧ pg_na 210 = 2 ∧ pg_mx 210 = 3 := by decide +kernel
set_option maxRecDepth 20000 in
theorem u_210_0 {d : Nat} {S : zS} {σ τ : zI} {Q : zQ} {x1 : Int} {x2 : Int} (t : (rg x1) ∧ if 0 ≤ x1 ∧ x1 ≤ 7 then ((rg x2) ∧ if 0 ≤ x2 ∧ x2 ≤ 399 then (((0 ≤ x1 ∧ x1 ≤ 7) ∧ -1 ≤ x2 ∧ x2 ≤ 399) ∧ Q (some (.int (wI (r_pr (σ 84) x1 x2)))) S σ τ) else (Q (some (.int (wI (-1)))) S σ τ)) else (Q (some (.int (wI (-1)))) S σ τ)) : wi (d + 2) 210 0 [.ref 83, .int (wI x1), .int (wI x2)] [] S σ τ Q := by
  obtain ⟨r1, t⟩ := t
  refine i3 c_210_0 rfl (i1 c_210_1 (i1 c_210_2 ?_))
  refine i81 (As := [.int (wI x1), .int (wI 0), .int (wI 7)]) (rest := []) c_210_4 mi_196 rfl rfl (Nat.le_of_ble_eq_true rfl) (Nat.le_of_ble_eq_true rfl) (q_196 r1 (by decide) (by decide) ?_)
  show wi (d + 2) 210 7 [.ref 83, .int (wI x1), .int (wI x2)] [.int (wI (if 0 ≤ x1 ∧ x1 ≤ 7 then 1 else 0))] S σ τ Q
  refine i36e c_210_7 rfl (fun hc => ?_) (fun hc => ?_)
  · have t := iT t hc
    have ha2 : 0 ≤ x1 ∧ x1 ≤ 7 := hc
    obtain ⟨r3, t⟩ := t
    refine i3 c_210_10 rfl ?_
    refine i81 (As := [.int (wI x2)]) (rest := []) c_210_11 mi_205 rfl rfl (Nat.le_of_ble_eq_true rfl) (Nat.le_of_ble_eq_true rfl) (q_205 r3 ?_)
    show wi (d + 2) 210 14 [.ref 83, .int (wI x1), .int (wI x2)] [.int (wI (if 0 ≤ x2 ∧ x2 ≤ 399 then 1 else 0))] S σ τ Q
    refine i36e c_210_14 rfl (fun hc => ?_) (fun hc => ?_)
    · have t := iT t hc
      have ha4 : 0 ≤ x2 ∧ x2 ≤ 399 := hc
      obtain ⟨p5, t⟩ := t
      refine i5 c_210_17 rfl (i3 c_210_18 rfl (i3 c_210_19 rfl ?_))
      refine i80 (As := [.int (wI x1), .int (wI x2)]) (rest := []) c_210_20 mi_209 rfl rfl (Nat.le_of_ble_eq_true rfl) (Nat.le_of_ble_eq_true rfl) (lo (c := 83) (kd := 112) (n := 0) rfl (by decide)) (q_209 p5 ?_)
      show wi (d + 2) 210 23 [.ref 83, .int (wI x1), .int (wI x2)] [.int (wI (r_pr (σ 84) x1 x2))] S σ τ Q
      refine i38 c_210_23 rfl ?_
      exact i90 c_210_27 t
    · have t := iF t hc
      have ha4 : ¬ (0 ≤ x2 ∧ x2 ≤ 399) := hc
      refine i1 c_210_26 ?_
      exact i90 c_210_27 t
  · have t := iF t hc
    have ha2 : ¬ (0 ≤ x1 ∧ x1 ≤ 7) := hc
    refine i1 c_210_26 ?_
    exact i90 c_210_27 t
theorem q_210 {d : Nat} {S : zS} {σ τ : zI} {Q : zQ} {what : Int} {week : Int} (p0 : rg what) (p1 : rg week) (t : Q (some (.int (wI (if (0 ≤ what ∧ what ≤ 7) ∧ (0 ≤ week ∧ week ≤ 399) then r_pr (σ 84) what week else -1)))) S σ τ) : wc (d + 2) 210 [.ref 83, .int (wI what), .int (wI week)] S σ τ Q := by
  refine wc_of mi_210 rfl (u_210_0 ?_)
  by_cases hk : (0 ≤ what ∧ what ≤ 7) ∧ (0 ≤ week ∧ week ≤ 399)
  · rw [if_pos hk] at t
    repeat' (first | exact t | refine ⟨_, rfl, by omega, ?_⟩ | refine ⟨by omega, ?_⟩ | refine ifI (fun _ => ?_) (fun _ => ?_) | (exfalso; omega))
  · rw [if_neg hk] at t
    repeat' (first | exact t | refine ⟨_, rfl, by omega, ?_⟩ | refine ⟨by omega, ?_⟩ | refine ifI (fun _ => ?_) (fun _ => ?_) | (exfalso; omega))
-- method 215: MillTownModel.had(II)I
theorem c_215_0 : pg_cd 215 0 = (1, 1, 0, 0, 0) := by decide +kernel
theorem c_215_1 : pg_cd 215 1 = (6, 1, 0, 3, 0) := by decide +kernel
theorem c_215_2 : pg_cd 215 2 = (1, 1, 0, 0, 0) := by decide +kernel
theorem c_215_3 : pg_cd 215 3 = (6, 2, 0, 4, 0) := by decide +kernel
theorem c_215_5 : pg_cd 215 5 = (3, 2, 0, 4, 0) := by decide +kernel
theorem c_215_7 : pg_cd 215 7 = (5, 1, 0, 0, 0) := by decide +kernel
theorem c_215_8 : pg_cd 215 8 = (45, 12, 8, 0, 0) := by decide +kernel
theorem c_215_11 : pg_cd 215 11 = (1, 1, 0, 0, 4) := by decide +kernel
theorem c_215_12 : pg_cd 215 12 = (50, 1, 0, 0, 0) := by decide +kernel
theorem c_215_13 : pg_cd 215 13 = (37, 3, 0, 3, 51) := by decide +kernel
theorem c_215_16 : pg_cd 215 16 = (3, 2, 0, 4, 0) := by decide +kernel
theorem c_215_18 : pg_cd 215 18 = (3, 1, 0, 2, 0) := by decide +kernel
theorem c_215_19 : pg_cd 215 19 = (37, 3, 0, 0, 39) := by decide +kernel
theorem c_215_22 : pg_cd 215 22 = (5, 1, 0, 0, 0) := by decide +kernel
theorem c_215_23 : pg_cd 215 23 = (3, 2, 0, 4, 0) := by decide +kernel
theorem c_215_25 : pg_cd 215 25 = (1, 1, 0, 0, 4) := by decide +kernel
theorem c_215_26 : pg_cd 215 26 = (80, 199, 102, 0, 0) := by decide +kernel
theorem c_215_29 : pg_cd 215 29 = (3, 1, 0, 1, 0) := by decide +kernel
theorem c_215_30 : pg_cd 215 30 = (37, 3, 0, 1, 28) := by decide +kernel
theorem c_215_33 : pg_cd 215 33 = (5, 1, 0, 0, 0) := by decide +kernel
theorem c_215_34 : pg_cd 215 34 = (3, 2, 0, 4, 0) := by decide +kernel
theorem c_215_36 : pg_cd 215 36 = (1, 1, 0, 0, 3) := by decide +kernel
theorem c_215_37 : pg_cd 215 37 = (80, 199, 102, 0, 0) := by decide +kernel
theorem c_215_40 : pg_cd 215 40 = (1, 1, 0, 0, 1) := by decide +kernel
theorem c_215_41 : pg_cd 215 41 = (1, 1, 0, 0, 2) := by decide +kernel
theorem c_215_42 : pg_cd 215 42 = (81, 196, 76, 0, 0) := by decide +kernel
theorem c_215_45 : pg_cd 215 45 = (36, 3, 0, 0, 13) := by decide +kernel
theorem c_215_48 : pg_cd 215 48 = (3, 1, 0, 3, 0) := by decide +kernel
theorem c_215_49 : pg_cd 215 49 = (5, 1, 0, 0, 0) := by decide +kernel
theorem c_215_50 : pg_cd 215 50 = (3, 2, 0, 4, 0) := by decide +kernel
theorem c_215_52 : pg_cd 215 52 = (1, 1, 0, 0, 5) := by decide +kernel
theorem c_215_53 : pg_cd 215 53 = (80, 199, 102, 0, 0) := by decide +kernel
theorem c_215_56 : pg_cd 215 56 = (10, 1, 0, 0, 0) := by decide +kernel
theorem c_215_57 : pg_cd 215 57 = (6, 1, 0, 3, 0) := by decide +kernel
theorem c_215_58 : pg_cd 215 58 = (9, 3, 0, 4, 1) := by decide +kernel
theorem c_215_61 : pg_cd 215 61 = (38, 3, 0, 0, (-56)) := by decide +kernel
theorem c_215_64 : pg_cd 215 64 = (3, 1, 0, 3, 0) := by decide +kernel
theorem c_215_65 : pg_cd 215 65 = (90, 0, 0, 0, 0) := by decide +kernel
theorem mi_215 : pg_mc 215 = 12 ∧ pg_na 215 = 2 ∧ pg_mx 215 = 5 := by decide +kernel
set_option maxRecDepth 20000 in
theorem u_215_0 {d : Nat} {S : zS} {σ τ : zI} {Q : zQ} {x1 : Int} {x2 : Int} (t : wi (d + 1) 215 5 [.ref 83, .int (wI x1), .int (wI x2), .int (wI 0), .int (wI 0)] [] S σ τ Q) : wi (d + 1) 215 0 [.ref 83, .int (wI x1), .int (wI x2), .retAddr 0, .retAddr 0] [] S σ τ Q := by
  refine i1 c_215_0 (i6 (L' := [.ref 83, .int (wI x1), .int (wI x2), .int (wI 0), .retAddr 0]) c_215_1 rfl (i1 c_215_2 (i6 (L' := [.ref 83, .int (wI x1), .int (wI x2), .int (wI 0), .int (wI 0)]) c_215_3 rfl t)))
set_option maxRecDepth 20000 in
theorem u_215_5 {d : Nat} {S : zS} {σ τ : zI} {Q : zQ} {x1 : Int} {x2 : Int} {x3 : Int} {x4 : Int} (t : (rg x4) ∧ if (σ 84 4) ≤ x4 then (Q (some (.int (wI x3))) S σ τ) else ((rg x2) ∧ if x4 = x2 then (wi (d + 1) 215 5 [.ref 83, .int (wI x1), .int (wI x2), .int (wI x3), .int (wI (x4 + 1))] [] S σ τ Q) else ((0 ≤ 3652 + 12 * x4 + 4 ∧ 3652 + 12 * x4 + 4 < 112300) ∧ (rg x1) ∧ if (σ 84 (3652 + 12 * x4 + 4)) = x1 then ((0 ≤ 3652 + 12 * x4 + 3 ∧ 3652 + 12 * x4 + 3 < 112300) ∧ if 1 ≤ (σ 84 (3652 + 12 * x4 + 3)) ∧ (σ 84 (3652 + 12 * x4 + 3)) ≤ 2 then ((0 ≤ 3652 + 12 * x4 + 5 ∧ 3652 + 12 * x4 + 5 < 112300) ∧ wi (d + 1) 215 5 [.ref 83, .int (wI x1), .int (wI x2), .int (wI (x3 + (σ 84 (3652 + 12 * x4 + 5)))), .int (wI (x4 + 1))] [] S σ τ Q) else (wi (d + 1) 215 5 [.ref 83, .int (wI x1), .int (wI x2), .int (wI x3), .int (wI (x4 + 1))] [] S σ τ Q)) else (wi (d + 1) 215 5 [.ref 83, .int (wI x1), .int (wI x2), .int (wI x3), .int (wI (x4 + 1))] [] S σ τ Q)))) : wi (d + 1) 215 5 [.ref 83, .int (wI x1), .int (wI x2), .int (wI x3), .int (wI x4)] [] S σ τ Q := by
  refine i3 c_215_5 rfl (i5 c_215_7 rfl (i45 c_215_8 (lo (c := 83) (kd := 112) (n := 0) rfl (by decide)) (lro (c := 83) (k := 0) (j := 84) (by decide)) (i1 c_215_11 (wi_ok (fun K1 => ?_)))))
  obtain ⟨r2, t⟩ := t
  refine i50 (v := σ 84 4) c_215_12 (lo (c := 84) (kd := 0) (n := 112300) rfl (by decide)) (by decide) (by decide) rfl ?_
  refine i37 c_215_13 r2 (rge_ K1 rfl) rfl (fun hc => ?_) (fun hc => ?_)
  · have t := iT t hc
    have ha3 : (σ 84 4) ≤ x4 := hc
    refine i3 c_215_64 rfl ?_
    exact i90 c_215_65 t
  · have t := iF t hc
    have ha3 : ¬ ((σ 84 4) ≤ x4) := hc
    obtain ⟨r4, t⟩ := t
    refine i3 c_215_16 rfl (i3 c_215_18 rfl ?_)
    refine i37 c_215_19 r2 r4 rfl (fun hc => ?_) (fun hc => ?_)
    · have t := iT t hc
      have ha5 : x4 = x2 := hc
      refine i9 (L' := [.ref 83, .int (wI x1), .int (wI x2), .int (wI x3), .int (wI (x4 + 1))]) c_215_58 rfl rfl (i38 c_215_61 rfl t)
    · have t := iF t hc
      have ha5 : ¬ (x4 = x2) := hc
      obtain ⟨p6, t⟩ := t
      refine i5 c_215_22 rfl (i3 c_215_23 rfl (i1 c_215_25 ?_))
      refine i80 (As := [.int (wI x4), .int (wI 4)]) (rest := []) c_215_26 mi_199 rfl rfl (Nat.le_of_ble_eq_true rfl) (Nat.le_of_ble_eq_true rfl) (lo (c := 83) (kd := 112) (n := 0) rfl (by decide)) (q_199 p6 ?_)
      show wi (d + 1) 215 29 [.ref 83, .int (wI x1), .int (wI x2), .int (wI x3), .int (wI x4)] [.int (wI (σ 84 (3652 + 12 * x4 + 4)))] S σ τ Q
      obtain ⟨r7, t⟩ := t
      refine i3 c_215_29 rfl ?_
      refine i37 c_215_30 (rge_ K1 rfl) r7 rfl (fun hc => ?_) (fun hc => ?_)
      · have t := iF t hc
        have ha8 : ¬ ((σ 84 (3652 + 12 * x4 + 4)) = x1) := hc
        refine i9 (L' := [.ref 83, .int (wI x1), .int (wI x2), .int (wI x3), .int (wI (x4 + 1))]) c_215_58 rfl rfl (i38 c_215_61 rfl t)
      · have t := iT t (Decidable.not_not.mp hc)
        have ha8 : (σ 84 (3652 + 12 * x4 + 4)) = x1 := Decidable.not_not.mp hc
        obtain ⟨p9, t⟩ := t
        refine i5 c_215_33 rfl (i3 c_215_34 rfl (i1 c_215_36 ?_))
        refine i80 (As := [.int (wI x4), .int (wI 3)]) (rest := []) c_215_37 mi_199 rfl rfl (Nat.le_of_ble_eq_true rfl) (Nat.le_of_ble_eq_true rfl) (lo (c := 83) (kd := 112) (n := 0) rfl (by decide)) (q_199 p9 ?_)
        show wi (d + 1) 215 40 [.ref 83, .int (wI x1), .int (wI x2), .int (wI x3), .int (wI x4)] [.int (wI (σ 84 (3652 + 12 * x4 + 3)))] S σ τ Q
        refine i1 c_215_40 (i1 c_215_41 ?_)
        refine i81 (As := [.int (wI (σ 84 (3652 + 12 * x4 + 3))), .int (wI 1), .int (wI 2)]) (rest := []) c_215_42 mi_196 rfl rfl (Nat.le_of_ble_eq_true rfl) (Nat.le_of_ble_eq_true rfl) (q_196 (rge_ K1 rfl) (by decide) (by decide) ?_)
        show wi (d + 1) 215 45 [.ref 83, .int (wI x1), .int (wI x2), .int (wI x3), .int (wI x4)] [.int (wI (if 1 ≤ (σ 84 (3652 + 12 * x4 + 3)) ∧ (σ 84 (3652 + 12 * x4 + 3)) ≤ 2 then 1 else 0))] S σ τ Q
        refine i36e c_215_45 rfl (fun hc => ?_) (fun hc => ?_)
        · have t := iT t hc
          have ha10 : 1 ≤ (σ 84 (3652 + 12 * x4 + 3)) ∧ (σ 84 (3652 + 12 * x4 + 3)) ≤ 2 := hc
          obtain ⟨p11, t⟩ := t
          refine i3 c_215_48 rfl (i5 c_215_49 rfl (i3 c_215_50 rfl (i1 c_215_52 ?_)))
          refine i80 (As := [.int (wI x4), .int (wI 5)]) (rest := [.int (wI x3)]) c_215_53 mi_199 rfl rfl (Nat.le_of_ble_eq_true rfl) (Nat.le_of_ble_eq_true rfl) (lo (c := 83) (kd := 112) (n := 0) rfl (by decide)) (q_199 p11 ?_)
          show wi (d + 1) 215 56 [.ref 83, .int (wI x1), .int (wI x2), .int (wI x3), .int (wI x4)] [.int (wI (σ 84 (3652 + 12 * x4 + 5))), .int (wI x3)] S σ τ Q
          refine i10 c_215_56 (i6 (L' := [.ref 83, .int (wI x1), .int (wI x2), .int (wI (x3 + (σ 84 (3652 + 12 * x4 + 5)))), .int (wI x4)]) c_215_57 rfl (i9 (L' := [.ref 83, .int (wI x1), .int (wI x2), .int (wI (x3 + (σ 84 (3652 + 12 * x4 + 5)))), .int (wI (x4 + 1))]) c_215_58 rfl rfl (i38 c_215_61 rfl t)))
        · have t := iF t hc
          have ha10 : ¬ (1 ≤ (σ 84 (3652 + 12 * x4 + 3)) ∧ (σ 84 (3652 + 12 * x4 + 3)) ≤ 2) := hc
          refine i9 (L' := [.ref 83, .int (wI x1), .int (wI x2), .int (wI x3), .int (wI (x4 + 1))]) c_215_58 rfl rfl (i38 c_215_61 rfl t)
theorem q_215 {d : Nat} {S : zS} {σ τ : zI} {Q : zQ} {m : Int} {but : Int} (p0 : rg m) (p1 : rg but) (p2 : Jv (σ 84)) (t : ∀ (v : Int), v = r_had (σ 84) m but → 0 ≤ v ∧ v ≤ 3000 → Q (some (.int (wI v))) S σ τ) : wc (d + 1) 215 [.ref 83, .int (wI m), .int (wI but)] S σ τ Q := by
  have hC := jC p2
  unfold jv_C at hC
  have hP := jP p2
  have t := t (r_had (σ 84) m but) rfl (by
    have b := sI_b (f := fun p => if p = but then 0 else if σ 84 (3652 + 12 * p + 4) = m then (if 1 ≤ σ 84 (3652 + 12 * p + 3) ∧ σ 84 (3652 + 12 * p + 3) ≤ 2 then σ 84 (3652 + 12 * p + 5) else 0) else 0) (n := σ 84 4) (lo := 0) (hi := 50) (by omega) (fun p h0 h1 => by
      have := hP p h0 h1
      try dsimp only
      repeat' (first | omega | split))
    show 0 ≤ r_had (σ 84) m but ∧ r_had (σ 84) m but ≤ 3000
    unfold r_had
    omega)
  refine wc_of mi_215 rfl (u_215_0 ?_)
  have key : ∀ p, 0 ≤ p → p ≤ σ 84 4 → ∀ s, s = sI (fun p => if p = but then 0 else if σ 84 (3652 + 12 * p + 4) = m then (if 1 ≤ σ 84 (3652 + 12 * p + 3) ∧ σ 84 (3652 + 12 * p + 3) ≤ 2 then σ 84 (3652 + 12 * p + 5) else 0) else 0) p → wi (d + 1) 215 5 [.ref 83, .int (wI m), .int (wI but), .int (wI s), .int (wI p)] [] S σ τ Q := by
    refine lp_up (fun p h0 h1 ih => ?_)
    intro s hs
    refine u_215_5 ⟨by omega, ?_⟩
    by_cases c : σ 84 4 ≤ p
    · have : p = σ 84 4 := by omega
      subst this
      rw [if_pos (by omega), hs]
      exact t
    · have ih := ih (by omega)
      rw [sI_s h0, ← hs] at ih
      rw [if_neg c]
      refine ⟨p1, ?_⟩
      split
      · next h => rw [if_pos h, Int.add_zero] at ih; exact ih s rfl
      · next h =>
        rw [if_neg h] at ih
        refine ⟨by omega, p0, ?_⟩
        split
        · next h2 =>
          rw [if_pos h2] at ih
          refine ⟨by omega, ?_⟩
          split
          · next h3 => rw [if_pos h3] at ih; exact ⟨by omega, ih _ rfl⟩
          · next h3 => rw [if_neg h3, Int.add_zero] at ih; exact ih s rfl
        · next h2 => rw [if_neg h2, Int.add_zero] at ih; exact ih s rfl
  exact key 0 (by omega) (by omega) 0 rfl
-- method 216: MillTownModel.endOne(I)V
theorem c_216_0 : pg_cd 216 0 = (1, 3, 0, 0, 3652) := by decide +kernel
theorem c_216_3 : pg_cd 216 3 = (1, 2, 0, 0, 12) := by decide +kernel
theorem c_216_5 : pg_cd 216 5 = (3, 1, 0, 1, 0) := by decide +kernel
theorem c_216_6 : pg_cd 216 6 = (12, 1, 0, 0, 0) := by decide +kernel
theorem c_216_7 : pg_cd 216 7 = (10, 1, 0, 0, 0) := by decide +kernel
theorem c_216_8 : pg_cd 216 8 = (6, 1, 0, 2, 0) := by decide +kernel
theorem c_216_9 : pg_cd 216 9 = (5, 1, 0, 0, 0) := by decide +kernel
theorem c_216_10 : pg_cd 216 10 = (45, 12, 8, 0, 0) := by decide +kernel
theorem c_216_13 : pg_cd 216 13 = (3, 1, 0, 2, 0) := by decide +kernel
theorem c_216_14 : pg_cd 216 14 = (1, 1, 0, 0, 3) := by decide +kernel
theorem c_216_15 : pg_cd 216 15 = (10, 1, 0, 0, 0) := by decide +kernel
theorem c_216_16 : pg_cd 216 16 = (1, 1, 0, 0, 0) := by decide +kernel
theorem c_216_17 : pg_cd 216 17 = (54, 1, 0, 0, 0) := by decide +kernel
theorem c_216_18 : pg_cd 216 18 = (5, 1, 0, 0, 0) := by decide +kernel
theorem c_216_19 : pg_cd 216 19 = (45, 12, 8, 0, 0) := by decide +kernel
theorem c_216_22 : pg_cd 216 22 = (3, 1, 0, 2, 0) := by decide +kernel
theorem c_216_23 : pg_cd 216 23 = (1, 1, 0, 0, 4) := by decide +kernel
theorem c_216_24 : pg_cd 216 24 = (10, 1, 0, 0, 0) := by decide +kernel
theorem c_216_25 : pg_cd 216 25 = (1, 1, 0, 0, (-1)) := by decide +kernel
theorem c_216_26 : pg_cd 216 26 = (54, 1, 0, 0, 0) := by decide +kernel
theorem c_216_27 : pg_cd 216 27 = (5, 1, 0, 0, 0) := by decide +kernel
theorem c_216_28 : pg_cd 216 28 = (45, 12, 8, 0, 0) := by decide +kernel
theorem c_216_31 : pg_cd 216 31 = (3, 1, 0, 2, 0) := by decide +kernel
theorem c_216_32 : pg_cd 216 32 = (1, 1, 0, 0, 5) := by decide +kernel
theorem c_216_33 : pg_cd 216 33 = (10, 1, 0, 0, 0) := by decide +kernel
theorem c_216_34 : pg_cd 216 34 = (1, 1, 0, 0, 0) := by decide +kernel
theorem c_216_35 : pg_cd 216 35 = (54, 1, 0, 0, 0) := by decide +kernel
theorem c_216_36 : pg_cd 216 36 = (5, 1, 0, 0, 0) := by decide +kernel
theorem c_216_37 : pg_cd 216 37 = (45, 12, 8, 0, 0) := by decide +kernel
theorem c_216_40 : pg_cd 216 40 = (3, 1, 0, 2, 0) := by decide +kernel
theorem c_216_41 : pg_cd 216 41 = (1, 2, 0, 0, 6) := by decide +kernel
theorem c_216_43 : pg_cd 216 43 = (10, 1, 0, 0, 0) := by decide +kernel
theorem c_216_44 : pg_cd 216 44 = (1, 1, 0, 0, (-1)) := by decide +kernel
theorem c_216_45 : pg_cd 216 45 = (54, 1, 0, 0, 0) := by decide +kernel
theorem c_216_46 : pg_cd 216 46 = (5, 1, 0, 0, 0) := by decide +kernel
theorem c_216_47 : pg_cd 216 47 = (45, 12, 8, 0, 0) := by decide +kernel
theorem c_216_50 : pg_cd 216 50 = (3, 1, 0, 2, 0) := by decide +kernel
theorem c_216_51 : pg_cd 216 51 = (1, 2, 0, 0, 7) := by decide +kernel
theorem c_216_53 : pg_cd 216 53 = (10, 1, 0, 0, 0) := by decide +kernel
theorem c_216_54 : pg_cd 216 54 = (1, 1, 0, 0, 0) := by decide +kernel
theorem c_216_55 : pg_cd 216 55 = (54, 1, 0, 0, 0) := by decide +kernel
theorem c_216_56 : pg_cd 216 56 = (94, 0, 0, 0, 0) := by decide +kernel
theorem mi_216 : pg_mc 216 = 12 ∧ pg_na 216 = 1 ∧ pg_mx 216 = 3 := by decide +kernel
set_option maxRecDepth 20000 in
theorem u_216_0 {d : Nat} {S : zS} {σ τ : zI} {Q : zQ} {x1 : Int} (t : (0 ≤ (3652 + (12 * x1)) + 3 ∧ (3652 + (12 * x1)) + 3 < 112300) ∧ (0 ≤ (3652 + (12 * x1)) + 4 ∧ (3652 + (12 * x1)) + 4 < 112300) ∧ (0 ≤ (3652 + (12 * x1)) + 5 ∧ (3652 + (12 * x1)) + 5 < 112300) ∧ (0 ≤ (3652 + (12 * x1)) + 6 ∧ (3652 + (12 * x1)) + 6 < 112300) ∧ (0 ≤ (3652 + (12 * x1)) + 7 ∧ (3652 + (12 * x1)) + 7 < 112300) ∧ Q none S (uc σ 84 (u1 (u1 (u1 (u1 (u1 (σ 84) ((3652 + (12 * x1)) + 3) 0) ((3652 + (12 * x1)) + 4) (-1)) ((3652 + (12 * x1)) + 5) 0) ((3652 + (12 * x1)) + 6) (-1)) ((3652 + (12 * x1)) + 7) 0)) τ) : wi (d + 0) 216 0 [.ref 83, .int (wI x1), .retAddr 0] [] S σ τ Q := by
  obtain ⟨r1, t⟩ := t
  obtain ⟨r2, t⟩ := t
  obtain ⟨r3, t⟩ := t
  obtain ⟨r4, t⟩ := t
  obtain ⟨r5, t⟩ := t
  refine i1 c_216_0 (i1 c_216_3 (i3 c_216_5 rfl (i12 c_216_6 (i10 c_216_7 (i6 (L' := [.ref 83, .int (wI x1), .int (wI (3652 + (12 * x1)))]) c_216_8 rfl (i5 c_216_9 rfl (i45 c_216_10 (lo (c := 83) (kd := 112) (n := 0) rfl (by decide)) (lro (c := 83) (k := 0) (j := 84) (by decide)) (i3 c_216_13 rfl (i1 c_216_14 (i10 c_216_15 (i1 c_216_16 (i54 (σ1 := uc σ 84 (u1 (σ 84) ((3652 + (12 * x1)) + 3) 0)) c_216_17 (lo (c := 84) (kd := 0) (n := 112300) rfl (by decide)) (by decide) r1 (by decide) rfl (by decide) (wr_ rfl rfl) (i5 c_216_18 rfl (i45 c_216_19 (lo (c := 83) (kd := 112) (n := 0) rfl (by decide)) (lro (c := 83) (k := 0) (j := 84) (by decide)) (i3 c_216_22 rfl (i1 c_216_23 (i10 c_216_24 (i1 c_216_25 (i54 (σ1 := uc σ 84 (u1 (u1 (σ 84) ((3652 + (12 * x1)) + 3) 0) ((3652 + (12 * x1)) + 4) (-1))) c_216_26 (lo (c := 84) (kd := 0) (n := 112300) rfl (by decide)) (by decide) r2 (by decide) rfl (by decide) (wr_ (uc_s _ _ _) (uc_uc _ _ _ _)) (i5 c_216_27 rfl (i45 c_216_28 (lo (c := 83) (kd := 112) (n := 0) rfl (by decide)) (lro (c := 83) (k := 0) (j := 84) (by decide)) (i3 c_216_31 rfl (i1 c_216_32 (i10 c_216_33 (i1 c_216_34 (i54 (σ1 := uc σ 84 (u1 (u1 (u1 (σ 84) ((3652 + (12 * x1)) + 3) 0) ((3652 + (12 * x1)) + 4) (-1)) ((3652 + (12 * x1)) + 5) 0)) c_216_35 (lo (c := 84) (kd := 0) (n := 112300) rfl (by decide)) (by decide) r3 (by decide) rfl (by decide) (wr_ (uc_s _ _ _) (uc_uc _ _ _ _)) (i5 c_216_36 rfl (i45 c_216_37 (lo (c := 83) (kd := 112) (n := 0) rfl (by decide)) (lro (c := 83) (k := 0) (j := 84) (by decide)) (i3 c_216_40 rfl (i1 c_216_41 (i10 c_216_43 (i1 c_216_44 (i54 (σ1 := uc σ 84 (u1 (u1 (u1 (u1 (σ 84) ((3652 + (12 * x1)) + 3) 0) ((3652 + (12 * x1)) + 4) (-1)) ((3652 + (12 * x1)) + 5) 0) ((3652 + (12 * x1)) + 6) (-1))) c_216_45 (lo (c := 84) (kd := 0) (n := 112300) rfl (by decide)) (by decide) r4 (by decide) rfl (by decide) (wr_ (uc_s _ _ _) (uc_uc _ _ _ _)) (i5 c_216_46 rfl (i45 c_216_47 (lo (c := 83) (kd := 112) (n := 0) rfl (by decide)) (lro (c := 83) (k := 0) (j := 84) (by decide)) (i3 c_216_50 rfl (i1 c_216_51 (i10 c_216_53 (i1 c_216_54 (i54 (σ1 := uc σ 84 (u1 (u1 (u1 (u1 (u1 (σ 84) ((3652 + (12 * x1)) + 3) 0) ((3652 + (12 * x1)) + 4) (-1)) ((3652 + (12 * x1)) + 5) 0) ((3652 + (12 * x1)) + 6) (-1)) ((3652 + (12 * x1)) + 7) 0)) c_216_55 (lo (c := 84) (kd := 0) (n := 112300) rfl (by decide)) (by decide) r5 (by decide) rfl (by decide) (wr_ (uc_s _ _ _) (uc_uc _ _ _ _)) ?_))))))))))))))))))))))))))))))))))))))))
  exact i94 c_216_56 t
theorem q_216 {d : Nat} {S : zS} {σ τ : zI} {Q : zQ} {p : Int} (p0 : 0 ≤ p ∧ p < 60) (t : Q none S (uc σ 84 (r_end1 (σ 84) p)) τ) : wc (d + 0) 216 [.ref 83, .int (wI p)] S σ τ Q := by
  refine wc_of mi_216 rfl (u_216_0 ?_)
  unfold r_end1 at t
  exact ⟨by omega, by omega, by omega, by omega, by omega, t⟩
-- method 217: MillTownModel.endWork(I)V
theorem c_217_0 : pg_cd 217 0 = (5, 1, 0, 0, 0) := by decide +kernel
theorem c_217_1 : pg_cd 217 1 = (3, 1, 0, 1, 0) := by decide +kernel
theorem c_217_2 : pg_cd 217 2 = (1, 1, 0, 0, 3) := by decide +kernel
theorem c_217_3 : pg_cd 217 3 = (80, 199, 102, 0, 0) := by decide +kernel
theorem c_217_6 : pg_cd 217 6 = (1, 1, 0, 0, 1) := by decide +kernel
theorem c_217_7 : pg_cd 217 7 = (37, 3, 0, 1, 47) := by decide +kernel
theorem c_217_10 : pg_cd 217 10 = (1, 1, 0, 0, 0) := by decide +kernel
theorem c_217_11 : pg_cd 217 11 = (6, 1, 0, 2, 0) := by decide +kernel
theorem c_217_12 : pg_cd 217 12 = (3, 1, 0, 2, 0) := by decide +kernel
theorem c_217_13 : pg_cd 217 13 = (5, 1, 0, 0, 0) := by decide +kernel
theorem c_217_14 : pg_cd 217 14 = (45, 12, 8, 0, 0) := by decide +kernel
theorem c_217_17 : pg_cd 217 17 = (1, 1, 0, 0, 4) := by decide +kernel
theorem c_217_18 : pg_cd 217 18 = (50, 1, 0, 0, 0) := by decide +kernel
theorem c_217_19 : pg_cd 217 19 = (37, 3, 0, 3, 35) := by decide +kernel
theorem c_217_22 : pg_cd 217 22 = (5, 1, 0, 0, 0) := by decide +kernel
theorem c_217_23 : pg_cd 217 23 = (3, 1, 0, 2, 0) := by decide +kernel
theorem c_217_24 : pg_cd 217 24 = (1, 1, 0, 0, 3) := by decide +kernel
theorem c_217_25 : pg_cd 217 25 = (80, 199, 102, 0, 0) := by decide +kernel
theorem c_217_28 : pg_cd 217 28 = (1, 1, 0, 0, 2) := by decide +kernel
theorem c_217_29 : pg_cd 217 29 = (37, 3, 0, 1, 19) := by decide +kernel
theorem c_217_32 : pg_cd 217 32 = (5, 1, 0, 0, 0) := by decide +kernel
theorem c_217_33 : pg_cd 217 33 = (3, 1, 0, 2, 0) := by decide +kernel
theorem c_217_34 : pg_cd 217 34 = (1, 2, 0, 0, 6) := by decide +kernel
theorem c_217_36 : pg_cd 217 36 = (80, 199, 102, 0, 0) := by decide +kernel
theorem c_217_39 : pg_cd 217 39 = (3, 1, 0, 1, 0) := by decide +kernel
theorem c_217_40 : pg_cd 217 40 = (37, 3, 0, 1, 8) := by decide +kernel
theorem c_217_43 : pg_cd 217 43 = (5, 1, 0, 0, 0) := by decide +kernel
theorem c_217_44 : pg_cd 217 44 = (3, 1, 0, 2, 0) := by decide +kernel
theorem c_217_45 : pg_cd 217 45 = (80, 216, 105, 0, 0) := by decide +kernel
theorem c_217_48 : pg_cd 217 48 = (9, 3, 0, 2, 1) := by decide +kernel
theorem c_217_51 : pg_cd 217 51 = (38, 3, 0, 0, (-39)) := by decide +kernel
theorem c_217_54 : pg_cd 217 54 = (5, 1, 0, 0, 0) := by decide +kernel
theorem c_217_55 : pg_cd 217 55 = (3, 1, 0, 1, 0) := by decide +kernel
theorem c_217_56 : pg_cd 217 56 = (80, 216, 105, 0, 0) := by decide +kernel
theorem c_217_59 : pg_cd 217 59 = (94, 0, 0, 0, 0) := by decide +kernel
theorem mi_217 : pg_mc 217 = 12 ∧ pg_na 217 = 1 ∧ pg_mx 217 = 3 := by decide +kernel
set_option maxRecDepth 20000 in
theorem u_217_0 {d : Nat} {S : zS} {σ τ : zI} {Q : zQ} {x1 : Int} (t : (0 ≤ 3652 + 12 * x1 + 3 ∧ 3652 + 12 * x1 + 3 < 112300) ∧ if (σ 84 (3652 + 12 * x1 + 3)) = 1 then (wi (d + 2) 217 12 [.ref 83, .int (wI x1), .int (wI 0)] [] S σ τ Q) else ((0 ≤ x1 ∧ x1 < 60) ∧ Q none S (uc σ 84 (r_end1 ((σ 84)) x1)) τ)) : wi (d + 2) 217 0 [.ref 83, .int (wI x1), .retAddr 0] [] S σ τ Q := by
  obtain ⟨p1, t⟩ := t
  refine i5 c_217_0 rfl (i3 c_217_1 rfl (i1 c_217_2 ?_))
  refine i80 (As := [.int (wI x1), .int (wI 3)]) (rest := []) c_217_3 mi_199 rfl rfl (Nat.le_of_ble_eq_true rfl) (Nat.le_of_ble_eq_true rfl) (lo (c := 83) (kd := 112) (n := 0) rfl (by decide)) (q_199 p1 ?_)
  show wi (d + 2) 217 6 [.ref 83, .int (wI x1), .retAddr 0] [.int (wI (σ 84 (3652 + 12 * x1 + 3)))] S σ τ Q
  refine wi_ok (fun K2 => ?_)
  refine i1 c_217_6 ?_
  refine i37 c_217_7 (rge_ K2 rfl) (by decide) rfl (fun hc => ?_) (fun hc => ?_)
  · have t := iF t hc
    have ha3 : ¬ ((σ 84 (3652 + 12 * x1 + 3)) = 1) := hc
    obtain ⟨p4, t⟩ := t
    refine i5 c_217_54 rfl (i3 c_217_55 rfl ?_)
    refine i80 (As := [.int (wI x1)]) (rest := []) c_217_56 mi_216 rfl rfl (Nat.le_of_ble_eq_true rfl) (Nat.le_of_ble_eq_true rfl) (lo (c := 83) (kd := 112) (n := 0) rfl (by decide)) (q_216 p4 ?_)
    show wi (d + 2) 217 59 [.ref 83, .int (wI x1), .retAddr 0] [] S (uc σ 84 (r_end1 ((σ 84)) x1)) τ Q
    exact i94 c_217_59 t
  · have t := iT t (Decidable.not_not.mp hc)
    have ha3 : (σ 84 (3652 + 12 * x1 + 3)) = 1 := Decidable.not_not.mp hc
    refine i1 c_217_10 (i6 (L' := [.ref 83, .int (wI x1), .int (wI 0)]) c_217_11 rfl t)
set_option maxRecDepth 20000 in
theorem u_217_12 {d : Nat} {S : zS} {σ τ : zI} {Q : zQ} {x1 : Int} {x2 : Int} (t : (rg x2) ∧ if (σ 84 4) ≤ x2 then ((0 ≤ x1 ∧ x1 < 60) ∧ Q none S (uc σ 84 (r_end1 ((σ 84)) x1)) τ) else ((0 ≤ 3652 + 12 * x2 + 3 ∧ 3652 + 12 * x2 + 3 < 112300) ∧ if (σ 84 (3652 + 12 * x2 + 3)) = 2 then ((0 ≤ 3652 + 12 * x2 + 6 ∧ 3652 + 12 * x2 + 6 < 112300) ∧ (rg x1) ∧ if (σ 84 (3652 + 12 * x2 + 6)) = x1 then ((0 ≤ x2 ∧ x2 < 60) ∧ wi (d + 2) 217 12 [.ref 83, .int (wI x1), .int (wI (x2 + 1))] [] S (uc σ 84 (r_end1 ((σ 84)) x2)) τ Q) else (wi (d + 2) 217 12 [.ref 83, .int (wI x1), .int (wI (x2 + 1))] [] S σ τ Q)) else (wi (d + 2) 217 12 [.ref 83, .int (wI x1), .int (wI (x2 + 1))] [] S σ τ Q))) : wi (d + 2) 217 12 [.ref 83, .int (wI x1), .int (wI x2)] [] S σ τ Q := by
  refine i3 c_217_12 rfl (i5 c_217_13 rfl (i45 c_217_14 (lo (c := 83) (kd := 112) (n := 0) rfl (by decide)) (lro (c := 83) (k := 0) (j := 84) (by decide)) (i1 c_217_17 (wi_ok (fun K1 => ?_)))))
  obtain ⟨r2, t⟩ := t
  refine i50 (v := σ 84 4) c_217_18 (lo (c := 84) (kd := 0) (n := 112300) rfl (by decide)) (by decide) (by decide) rfl ?_
  refine i37 c_217_19 r2 (rge_ K1 rfl) rfl (fun hc => ?_) (fun hc => ?_)
  · have t := iT t hc
    have ha3 : (σ 84 4) ≤ x2 := hc
    obtain ⟨p4, t⟩ := t
    refine i5 c_217_54 rfl (i3 c_217_55 rfl ?_)
    refine i80 (As := [.int (wI x1)]) (rest := []) c_217_56 mi_216 rfl rfl (Nat.le_of_ble_eq_true rfl) (Nat.le_of_ble_eq_true rfl) (lo (c := 83) (kd := 112) (n := 0) rfl (by decide)) (q_216 p4 ?_)
    show wi (d + 2) 217 59 [.ref 83, .int (wI x1), .int (wI x2)] [] S (uc σ 84 (r_end1 ((σ 84)) x1)) τ Q
    exact i94 c_217_59 t
  · have t := iF t hc
    have ha3 : ¬ ((σ 84 4) ≤ x2) := hc
    obtain ⟨p5, t⟩ := t
    refine i5 c_217_22 rfl (i3 c_217_23 rfl (i1 c_217_24 ?_))
    refine i80 (As := [.int (wI x2), .int (wI 3)]) (rest := []) c_217_25 mi_199 rfl rfl (Nat.le_of_ble_eq_true rfl) (Nat.le_of_ble_eq_true rfl) (lo (c := 83) (kd := 112) (n := 0) rfl (by decide)) (q_199 p5 ?_)
    show wi (d + 2) 217 28 [.ref 83, .int (wI x1), .int (wI x2)] [.int (wI (σ 84 (3652 + 12 * x2 + 3)))] S σ τ Q
    refine i1 c_217_28 ?_
    refine i37 c_217_29 (rge_ K1 rfl) (by decide) rfl (fun hc => ?_) (fun hc => ?_)
    · have t := iF t hc
      have ha6 : ¬ ((σ 84 (3652 + 12 * x2 + 3)) = 2) := hc
      refine i9 (L' := [.ref 83, .int (wI x1), .int (wI (x2 + 1))]) c_217_48 rfl rfl (i38 c_217_51 rfl t)
    · have t := iT t (Decidable.not_not.mp hc)
      have ha6 : (σ 84 (3652 + 12 * x2 + 3)) = 2 := Decidable.not_not.mp hc
      obtain ⟨p7, t⟩ := t
      refine i5 c_217_32 rfl (i3 c_217_33 rfl (i1 c_217_34 ?_))
      refine i80 (As := [.int (wI x2), .int (wI 6)]) (rest := []) c_217_36 mi_199 rfl rfl (Nat.le_of_ble_eq_true rfl) (Nat.le_of_ble_eq_true rfl) (lo (c := 83) (kd := 112) (n := 0) rfl (by decide)) (q_199 p7 ?_)
      show wi (d + 2) 217 39 [.ref 83, .int (wI x1), .int (wI x2)] [.int (wI (σ 84 (3652 + 12 * x2 + 6)))] S σ τ Q
      obtain ⟨r8, t⟩ := t
      refine i3 c_217_39 rfl ?_
      refine i37 c_217_40 (rge_ K1 rfl) r8 rfl (fun hc => ?_) (fun hc => ?_)
      · have t := iF t hc
        have ha9 : ¬ ((σ 84 (3652 + 12 * x2 + 6)) = x1) := hc
        refine i9 (L' := [.ref 83, .int (wI x1), .int (wI (x2 + 1))]) c_217_48 rfl rfl (i38 c_217_51 rfl t)
      · have t := iT t (Decidable.not_not.mp hc)
        have ha9 : (σ 84 (3652 + 12 * x2 + 6)) = x1 := Decidable.not_not.mp hc
        obtain ⟨p10, t⟩ := t
        refine i5 c_217_43 rfl (i3 c_217_44 rfl ?_)
        refine i80 (As := [.int (wI x2)]) (rest := []) c_217_45 mi_216 rfl rfl (Nat.le_of_ble_eq_true rfl) (Nat.le_of_ble_eq_true rfl) (lo (c := 83) (kd := 112) (n := 0) rfl (by decide)) (q_216 p10 ?_)
        show wi (d + 2) 217 48 [.ref 83, .int (wI x1), .int (wI x2)] [] S (uc σ 84 (r_end1 ((σ 84)) x2)) τ Q
        refine i9 (L' := [.ref 83, .int (wI x1), .int (wI (x2 + 1))]) c_217_48 rfl rfl (i38 c_217_51 rfl t)
theorem q_217 {d : Nat} {S : zS} {σ τ : zI} {Q : zQ} {p : Int} (p0 : 0 ≤ p ∧ p < 60) (p1 : 0 ≤ σ 84 4 ∧ σ 84 4 ≤ 60) (t : Q none S (uc σ 84 (r_endW (σ 84) p)) τ) : wc (d + 2) 217 [.ref 83, .int (wI p)] S σ τ Q := by
  refine wc_of mi_217 rfl (u_217_0 ⟨by omega, ?_⟩)
  unfold r_endW at t
  by_cases c : σ 84 (3652 + 12 * p + 3) = 1
  · rw [if_pos c] at t
    rw [if_pos c]
    have key : ∀ q, 0 ≤ q → q ≤ σ 84 4 → wi (d + 2) 217 12 [.ref 83, .int (wI p), .int (wI q)] [] S (uc σ 84 (fI (r_endL p) q (σ 84))) τ Q := by
      refine lp_up (fun q h0 h1 ih => ?_)
      have e4 : fI (r_endL p) q (σ 84) 4 = σ 84 4 := r_endL_n h0 (by omega)
      refine u_217_12 ?_
      simp only [uc_s, uc_uc, e4]
      refine ⟨by omega, ?_⟩
      by_cases c1 : σ 84 4 ≤ q
      · have : q = σ 84 4 := by omega
        subst this
        rw [if_pos (by omega)]
        exact ⟨by omega, t⟩
      · have ih := ih (by omega)
        rw [fI_s h0] at ih
        unfold r_endL at ih
        rw [if_neg c1]
        refine ⟨by omega, ?_⟩
        split
        · next h =>
          unfold r_endL at h
          rw [if_pos h] at ih
          refine ⟨by omega, by omega, ?_⟩
          split
          · next h2 =>
            unfold r_endL at h2
            rw [if_pos h2] at ih
            exact ⟨by omega, ih⟩
          · next h2 =>
            unfold r_endL at h2
            rw [if_neg h2] at ih
            exact ih
        · next h =>
          unfold r_endL at h
          rw [if_neg h] at ih
          exact ih
    have := key 0 (by omega) (by omega)
    rw [fI_0, uc_id] at this
    exact this
  · rw [if_neg c] at t
    rw [if_neg c]
    exact ⟨by omega, t⟩
