/-! ===== the reference: FORCES and HOURS (segments printed by wip/whole, contracts own work) ===== -/
-- method 267: MillTownModel.hasClause(II)Z
theorem c_267_0 : pg_cd 267 0 = (1, 1, 0, 0, 0) := by decide +kernel
theorem c_267_1 : pg_cd 267 1 = (6, 1, 0, 3, 0) := by decide +kernel
theorem c_267_2 : pg_cd 267 2 = (3, 1, 0, 3, 0) := by decide +kernel
theorem c_267_3 : pg_cd 267 3 = (5, 1, 0, 0, 0) := by decide +kernel
theorem c_267_4 : pg_cd 267 4 = (3, 1, 0, 1, 0) := by decide +kernel
theorem c_267_5 : pg_cd 267 5 = (80, 266, 296, 0, 0) := by decide +kernel
theorem c_267_8 : pg_cd 267 8 = (37, 3, 0, 3, 26) := by decide +kernel
theorem c_267_11 : pg_cd 267 11 = (5, 1, 0, 0, 0) := by decide +kernel
theorem c_267_12 : pg_cd 267 12 = (45, 12, 8, 0, 0) := by decide +kernel
theorem c_267_15 : pg_cd 267 15 = (5, 1, 0, 0, 0) := by decide +kernel
theorem c_267_16 : pg_cd 267 16 = (3, 1, 0, 1, 0) := by decide +kernel
theorem c_267_17 : pg_cd 267 17 = (3, 1, 0, 3, 0) := by decide +kernel
theorem c_267_18 : pg_cd 267 18 = (80, 265, 299, 0, 0) := by decide +kernel
theorem c_267_21 : pg_cd 267 21 = (50, 1, 0, 0, 0) := by decide +kernel
theorem c_267_22 : pg_cd 267 22 = (3, 1, 0, 2, 0) := by decide +kernel
theorem c_267_23 : pg_cd 267 23 = (37, 3, 0, 1, 5) := by decide +kernel
theorem c_267_26 : pg_cd 267 26 = (1, 1, 0, 0, 1) := by decide +kernel
theorem c_267_27 : pg_cd 267 27 = (91, 0, 0, 0, 0) := by decide +kernel
theorem c_267_28 : pg_cd 267 28 = (9, 3, 0, 3, 1) := by decide +kernel
theorem c_267_31 : pg_cd 267 31 = (38, 3, 0, 0, (-29)) := by decide +kernel
theorem c_267_34 : pg_cd 267 34 = (1, 1, 0, 0, 0) := by decide +kernel
theorem c_267_35 : pg_cd 267 35 = (91, 0, 0, 0, 0) := by decide +kernel
theorem mi_267 : pg_mc 267 = 12 ∧ pg_na 267 = 2 ∧ pg_mx 267 = 4 := by decide +kernel
set_option maxRecDepth 20000 in
theorem u_267_0 {d : Nat} {S : zS} {σ τ : zI} {Q : zQ} {x1 : Int} {x2 : Int} (t : wi (d + 1) 267 2 [.ref 83, .int (wI x1), .int (wI x2), .int (wI 0)] [] S σ τ Q) : wi (d + 1) 267 0 [.ref 83, .int (wI x1), .int (wI x2), .retAddr 0] [] S σ τ Q := by
  refine i1 c_267_0 (i6 (L' := [.ref 83, .int (wI x1), .int (wI x2), .int (wI 0)]) c_267_1 rfl t)
set_option maxRecDepth 20000 in
theorem u_267_2 {d : Nat} {S : zS} {σ τ : zI} {Q : zQ} {x1 : Int} {x2 : Int} {x3 : Int} (t : (0 ≤ 5500 + 840 * x1 ∧ 5500 + 840 * x1 < 112300) ∧ (rg x3) ∧ if (σ 84 (5500 + 840 * x1)) ≤ x3 then (Q (some (.int (wI 0))) S σ τ) else ((0 ≤ 5500 + 840 * x1 + 1 + 8 * x3 ∧ 5500 + 840 * x1 + 1 + 8 * x3 < 112300) ∧ (rg x2) ∧ if (σ 84 (5500 + 840 * x1 + 1 + 8 * x3)) = x2 then (Q (some (.int (wI 1))) S σ τ) else (wi (d + 1) 267 2 [.ref 83, .int (wI x1), .int (wI x2), .int (wI (x3 + 1))] [] S σ τ Q))) : wi (d + 1) 267 2 [.ref 83, .int (wI x1), .int (wI x2), .int (wI x3)] [] S σ τ Q := by
  obtain ⟨p1, t⟩ := t
  refine i3 c_267_2 rfl (i5 c_267_3 rfl (i3 c_267_4 rfl ?_))
  refine i80 (As := [.int (wI x1)]) (rest := [.int (wI x3)]) c_267_5 mi_266 rfl rfl (Nat.le_of_ble_eq_true rfl) (Nat.le_of_ble_eq_true rfl) (lo (c := 83) (kd := 112) (n := 0) rfl (by decide)) (q_266 p1 ?_)
  show wi (d + 1) 267 8 [.ref 83, .int (wI x1), .int (wI x2), .int (wI x3)] [.int (wI (σ 84 (5500 + 840 * x1))), .int (wI x3)] S σ τ Q
  refine wi_ok (fun K2 => ?_)
  obtain ⟨r3, t⟩ := t
  refine i37 c_267_8 r3 (rge_ K2 rfl) rfl (fun hc => ?_) (fun hc => ?_)
  · have t := iT t hc
    have ha4 : (σ 84 (5500 + 840 * x1)) ≤ x3 := hc
    refine i1 c_267_34 ?_
    exact i91 c_267_35 (by decide) t
  · have t := iF t hc
    have ha4 : ¬ ((σ 84 (5500 + 840 * x1)) ≤ x3) := hc
    refine i5 c_267_11 rfl (i45 c_267_12 (lo (c := 83) (kd := 112) (n := 0) rfl (by decide)) (lro (c := 83) (k := 0) (j := 84) (by decide)) (i5 c_267_15 rfl (i3 c_267_16 rfl (i3 c_267_17 rfl ?_))))
    refine i80 (As := [.int (wI x1), .int (wI x3)]) (rest := [.ref 84]) c_267_18 mi_265 rfl rfl (Nat.le_of_ble_eq_true rfl) (Nat.le_of_ble_eq_true rfl) (lo (c := 83) (kd := 112) (n := 0) rfl (by decide)) (q_265 ?_)
    show wi (d + 1) 267 21 [.ref 83, .int (wI x1), .int (wI x2), .int (wI x3)] [.int (wI (5500 + 840 * x1 + 1 + 8 * x3)), .ref 84] S σ τ Q
    obtain ⟨r5, t⟩ := t
    obtain ⟨r6, t⟩ := t
    refine i50 (v := σ 84 (5500 + 840 * x1 + 1 + 8 * x3)) c_267_21 (lo (c := 84) (kd := 0) (n := 112300) rfl (by decide)) (by decide) r5 rfl (i3 c_267_22 rfl ?_)
    refine i37 c_267_23 (rge_ K2 rfl) r6 rfl (fun hc => ?_) (fun hc => ?_)
    · have t := iF t hc
      have ha7 : ¬ ((σ 84 (5500 + 840 * x1 + 1 + 8 * x3)) = x2) := hc
      refine i9 (L' := [.ref 83, .int (wI x1), .int (wI x2), .int (wI (x3 + 1))]) c_267_28 rfl rfl (i38 c_267_31 rfl t)
    · have t := iT t (Decidable.not_not.mp hc)
      have ha7 : (σ 84 (5500 + 840 * x1 + 1 + 8 * x3)) = x2 := Decidable.not_not.mp hc
      refine i1 c_267_26 ?_
      exact i91 c_267_27 (by decide) t
theorem q_267 {d : Nat} {S : zS} {σ τ : zI} {Q : zQ} {text : Int} {sort : Int} (p0 : jv_T (σ 84)) (p1 : σ 84 5 ≤ 20) (p2 : 0 ≤ text ∧ text < σ 84 5) (p3 : rg sort) (t : Q (some (.int (wI (if r_hc (σ 84) text sort = true then 1 else 0)))) S σ τ) : wc (d + 1) 267 [.ref 83, .int (wI text), .int (wI sort)] S σ τ Q := by
  have hT := (p0 text p2.1 p2.2).1
  have iff := r_hcN_iff (σ 84) text sort (σ 84 (5500 + 840 * text)).toNat
  refine wc_of mi_267 rfl (u_267_0 ?_)
  have key : ∀ c, 0 ≤ c → c ≤ σ 84 (5500 + 840 * text) → (∀ q, 0 ≤ q → q < c → σ 84 (5500 + 840 * text + 1 + 8 * q) ≠ sort) → wi (d + 1) 267 2 [.ref 83, .int (wI text), .int (wI sort), .int (wI c)] [] S σ τ Q := by
    refine lp_up (fun c h0 h1 ih => ?_)
    intro hq
    refine u_267_2 ⟨by omega, by omega, ?_⟩
    refine ifI (fun e => ?_) (fun e => ?_)
    · rw [if_neg (fun x => by
        obtain ⟨c', c0, c1, c2⟩ := iff.mp x
        exact hq c' c0 (by omega) c2)] at t
      exact t
    · refine ⟨by omega, p3, ?_⟩
      refine ifI (fun e2 => ?_) (fun e2 => ?_)
      · rw [if_pos (show r_hc (σ 84) text sort = true from iff.mpr ⟨c, h0, by omega, e2⟩)] at t
        exact t
      · refine ih (by omega) (fun q q0 q1 => ?_)
        by_cases eq : q = c
        · subst eq; exact e2
        · exact hq q q0 (by omega)
  exact key 0 (by omega) (by omega) (fun q _ _ => by omega)
-- method 268: MillTownModel.forceFor(IIII)I
theorem c_268_0 : pg_cd 268 0 = (5, 1, 0, 0, 0) := by decide +kernel
theorem c_268_1 : pg_cd 268 1 = (45, 12, 8, 0, 0) := by decide +kernel
theorem c_268_4 : pg_cd 268 4 = (1, 2, 0, 0, 6) := by decide +kernel
theorem c_268_6 : pg_cd 268 6 = (50, 1, 0, 0, 0) := by decide +kernel
theorem c_268_7 : pg_cd 268 7 = (1, 1, 0, 0, 1) := by decide +kernel
theorem c_268_8 : pg_cd 268 8 = (11, 1, 0, 0, 0) := by decide +kernel
theorem c_268_9 : pg_cd 268 9 = (6, 2, 0, 5, 0) := by decide +kernel
theorem c_268_11 : pg_cd 268 11 = (3, 2, 0, 5, 0) := by decide +kernel
theorem c_268_13 : pg_cd 268 13 = (36, 3, 0, 2, 103) := by decide +kernel
theorem c_268_16 : pg_cd 268 16 = (1, 3, 0, 0, 5012) := by decide +kernel
theorem c_268_19 : pg_cd 268 19 = (1, 2, 0, 0, 8) := by decide +kernel
theorem c_268_21 : pg_cd 268 21 = (3, 2, 0, 5, 0) := by decide +kernel
theorem c_268_23 : pg_cd 268 23 = (12, 1, 0, 0, 0) := by decide +kernel
theorem c_268_24 : pg_cd 268 24 = (10, 1, 0, 0, 0) := by decide +kernel
theorem c_268_25 : pg_cd 268 25 = (6, 2, 0, 6, 0) := by decide +kernel
theorem c_268_27 : pg_cd 268 27 = (5, 1, 0, 0, 0) := by decide +kernel
theorem c_268_28 : pg_cd 268 28 = (45, 12, 8, 0, 0) := by decide +kernel
theorem c_268_31 : pg_cd 268 31 = (3, 2, 0, 6, 0) := by decide +kernel
theorem c_268_33 : pg_cd 268 33 = (1, 1, 0, 0, 1) := by decide +kernel
theorem c_268_34 : pg_cd 268 34 = (10, 1, 0, 0, 0) := by decide +kernel
theorem c_268_35 : pg_cd 268 35 = (50, 1, 0, 0, 0) := by decide +kernel
theorem c_268_36 : pg_cd 268 36 = (1, 1, 0, 0, (-1)) := by decide +kernel
theorem c_268_37 : pg_cd 268 37 = (37, 3, 0, 0, 16) := by decide +kernel
theorem c_268_40 : pg_cd 268 40 = (5, 1, 0, 0, 0) := by decide +kernel
theorem c_268_41 : pg_cd 268 41 = (45, 12, 8, 0, 0) := by decide +kernel
theorem c_268_44 : pg_cd 268 44 = (3, 2, 0, 6, 0) := by decide +kernel
theorem c_268_46 : pg_cd 268 46 = (1, 1, 0, 0, 1) := by decide +kernel
theorem c_268_47 : pg_cd 268 47 = (10, 1, 0, 0, 0) := by decide +kernel
theorem c_268_48 : pg_cd 268 48 = (50, 1, 0, 0, 0) := by decide +kernel
theorem c_268_49 : pg_cd 268 49 = (3, 1, 0, 2, 0) := by decide +kernel
theorem c_268_50 : pg_cd 268 50 = (37, 3, 0, 1, 60) := by decide +kernel
theorem c_268_53 : pg_cd 268 53 = (3, 1, 0, 3, 0) := by decide +kernel
theorem c_268_54 : pg_cd 268 54 = (5, 1, 0, 0, 0) := by decide +kernel
theorem c_268_55 : pg_cd 268 55 = (45, 12, 8, 0, 0) := by decide +kernel
theorem c_268_58 : pg_cd 268 58 = (3, 2, 0, 6, 0) := by decide +kernel
theorem c_268_60 : pg_cd 268 60 = (1, 1, 0, 0, 2) := by decide +kernel
theorem c_268_61 : pg_cd 268 61 = (10, 1, 0, 0, 0) := by decide +kernel
theorem c_268_62 : pg_cd 268 62 = (50, 1, 0, 0, 0) := by decide +kernel
theorem c_268_63 : pg_cd 268 63 = (5, 1, 0, 0, 0) := by decide +kernel
theorem c_268_64 : pg_cd 268 64 = (45, 12, 8, 0, 0) := by decide +kernel
theorem c_268_67 : pg_cd 268 67 = (3, 2, 0, 6, 0) := by decide +kernel
theorem c_268_69 : pg_cd 268 69 = (1, 1, 0, 0, 3) := by decide +kernel
theorem c_268_70 : pg_cd 268 70 = (10, 1, 0, 0, 0) := by decide +kernel
theorem c_268_71 : pg_cd 268 71 = (50, 1, 0, 0, 0) := by decide +kernel
theorem c_268_72 : pg_cd 268 72 = (81, 196, 76, 0, 0) := by decide +kernel
theorem c_268_75 : pg_cd 268 75 = (36, 3, 0, 0, 35) := by decide +kernel
theorem c_268_78 : pg_cd 268 78 = (5, 1, 0, 0, 0) := by decide +kernel
theorem c_268_79 : pg_cd 268 79 = (45, 12, 8, 0, 0) := by decide +kernel
theorem c_268_82 : pg_cd 268 82 = (3, 2, 0, 6, 0) := by decide +kernel
theorem c_268_84 : pg_cd 268 84 = (1, 1, 0, 0, 4) := by decide +kernel
theorem c_268_85 : pg_cd 268 85 = (10, 1, 0, 0, 0) := by decide +kernel
theorem c_268_86 : pg_cd 268 86 = (50, 1, 0, 0, 0) := by decide +kernel
theorem c_268_87 : pg_cd 268 87 = (3, 2, 0, 4, 0) := by decide +kernel
theorem c_268_89 : pg_cd 268 89 = (37, 3, 0, 4, 21) := by decide +kernel
theorem c_268_92 : pg_cd 268 92 = (5, 1, 0, 0, 0) := by decide +kernel
theorem c_268_93 : pg_cd 268 93 = (5, 1, 0, 0, 0) := by decide +kernel
theorem c_268_94 : pg_cd 268 94 = (45, 12, 8, 0, 0) := by decide +kernel
theorem c_268_97 : pg_cd 268 97 = (3, 2, 0, 6, 0) := by decide +kernel
theorem c_268_99 : pg_cd 268 99 = (50, 1, 0, 0, 0) := by decide +kernel
theorem c_268_100 : pg_cd 268 100 = (3, 1, 0, 1, 0) := by decide +kernel
theorem c_268_101 : pg_cd 268 101 = (80, 267, 302, 0, 0) := by decide +kernel
theorem c_268_104 : pg_cd 268 104 = (36, 3, 0, 0, 6) := by decide +kernel
theorem c_268_107 : pg_cd 268 107 = (3, 2, 0, 5, 0) := by decide +kernel
theorem c_268_109 : pg_cd 268 109 = (90, 0, 0, 0, 0) := by decide +kernel
theorem c_268_110 : pg_cd 268 110 = (9, 3, 0, 5, (-1)) := by decide +kernel
theorem c_268_113 : pg_cd 268 113 = (38, 3, 0, 0, (-102)) := by decide +kernel
theorem c_268_116 : pg_cd 268 116 = (1, 1, 0, 0, (-1)) := by decide +kernel
theorem c_268_117 : pg_cd 268 117 = (90, 0, 0, 0, 0) := by decide +kernel
theorem mi_268 : pg_mc 268 = 12 ∧ pg_na 268 = 4 ∧ pg_mx 268 = 7 := by decide +kernel
set_option maxRecDepth 20000 in
theorem u_268_0 {d : Nat} {S : zS} {σ τ : zI} {Q : zQ} {x1 : Int} {x2 : Int} {x3 : Int} {x4 : Int} (t : wi (d + 3) 268 11 [.ref 83, .int (wI x1), .int (wI x2), .int (wI x3), .int (wI x4), .int (wI ((σ 84 6) - 1)), .retAddr 0] [] S σ τ Q) : wi (d + 3) 268 0 [.ref 83, .int (wI x1), .int (wI x2), .int (wI x3), .int (wI x4), .retAddr 0, .retAddr 0] [] S σ τ Q := by
  refine i5 c_268_0 rfl (i45 c_268_1 (lo (c := 83) (kd := 112) (n := 0) rfl (by decide)) (lro (c := 83) (k := 0) (j := 84) (by decide)) (i1 c_268_4 (wi_ok (fun K1 => ?_))))
  refine i50 (v := σ 84 6) c_268_6 (lo (c := 84) (kd := 0) (n := 112300) rfl (by decide)) (by decide) (by decide) rfl (i1 c_268_7 (i11 c_268_8 (i6 (L' := [.ref 83, .int (wI x1), .int (wI x2), .int (wI x3), .int (wI x4), .int (wI ((σ 84 6) - 1)), .retAddr 0]) c_268_9 rfl t)))
set_option maxRecDepth 20000 in
theorem u_268_11 {d : Nat} {S : zS} {σ τ : zI} {Q : zQ} {x1 : Int} {x2 : Int} {x3 : Int} {x4 : Int} {x5 : Int} {y6 : Value} (t : (rg x5) ∧ if x5 < 0 then (Q (some (.int (wI (-1)))) S σ τ) else ((0 ≤ (5012 + (8 * x5)) + 1 ∧ (5012 + (8 * x5)) + 1 < 112300) ∧ if (σ 84 ((5012 + (8 * x5)) + 1)) = (-1) then ((0 ≤ (5012 + (8 * x5)) + 2 ∧ (5012 + (8 * x5)) + 2 < 112300) ∧ (0 ≤ (5012 + (8 * x5)) + 3 ∧ (5012 + (8 * x5)) + 3 < 112300) ∧ (rg x3) ∧ if (σ 84 ((5012 + (8 * x5)) + 2)) ≤ x3 ∧ x3 ≤ (σ 84 ((5012 + (8 * x5)) + 3)) then ((0 ≤ (5012 + (8 * x5)) + 4 ∧ (5012 + (8 * x5)) + 4 < 112300) ∧ (rg x4) ∧ if x4 < (σ 84 ((5012 + (8 * x5)) + 4)) then (wi (d + 3) 268 11 [.ref 83, .int (wI x1), .int (wI x2), .int (wI x3), .int (wI x4), .int (wI (x5 + (-1))), .int (wI (5012 + (8 * x5)))] [] S σ τ Q) else ((0 ≤ 5012 + (8 * x5) ∧ 5012 + (8 * x5) < 112300) ∧ (jv_T (σ 84)) ∧ (σ 84 5 ≤ 20) ∧ (0 ≤ (σ 84 (5012 + (8 * x5))) ∧ (σ 84 (5012 + (8 * x5))) < σ 84 5) ∧ (rg x1) ∧ if r_hc (σ 84) (σ 84 (5012 + (8 * x5))) x1 = true then (Q (some (.int (wI x5))) S σ τ) else (wi (d + 3) 268 11 [.ref 83, .int (wI x1), .int (wI x2), .int (wI x3), .int (wI x4), .int (wI (x5 + (-1))), .int (wI (5012 + (8 * x5)))] [] S σ τ Q))) else (wi (d + 3) 268 11 [.ref 83, .int (wI x1), .int (wI x2), .int (wI x3), .int (wI x4), .int (wI (x5 + (-1))), .int (wI (5012 + (8 * x5)))] [] S σ τ Q)) else ((rg x2) ∧ if (σ 84 ((5012 + (8 * x5)) + 1)) = x2 then ((0 ≤ (5012 + (8 * x5)) + 2 ∧ (5012 + (8 * x5)) + 2 < 112300) ∧ (0 ≤ (5012 + (8 * x5)) + 3 ∧ (5012 + (8 * x5)) + 3 < 112300) ∧ (rg x3) ∧ if (σ 84 ((5012 + (8 * x5)) + 2)) ≤ x3 ∧ x3 ≤ (σ 84 ((5012 + (8 * x5)) + 3)) then ((0 ≤ (5012 + (8 * x5)) + 4 ∧ (5012 + (8 * x5)) + 4 < 112300) ∧ (rg x4) ∧ if x4 < (σ 84 ((5012 + (8 * x5)) + 4)) then (wi (d + 3) 268 11 [.ref 83, .int (wI x1), .int (wI x2), .int (wI x3), .int (wI x4), .int (wI (x5 + (-1))), .int (wI (5012 + (8 * x5)))] [] S σ τ Q) else ((0 ≤ 5012 + (8 * x5) ∧ 5012 + (8 * x5) < 112300) ∧ (jv_T (σ 84)) ∧ (σ 84 5 ≤ 20) ∧ (0 ≤ (σ 84 (5012 + (8 * x5))) ∧ (σ 84 (5012 + (8 * x5))) < σ 84 5) ∧ (rg x1) ∧ if r_hc (σ 84) (σ 84 (5012 + (8 * x5))) x1 = true then (Q (some (.int (wI x5))) S σ τ) else (wi (d + 3) 268 11 [.ref 83, .int (wI x1), .int (wI x2), .int (wI x3), .int (wI x4), .int (wI (x5 + (-1))), .int (wI (5012 + (8 * x5)))] [] S σ τ Q))) else (wi (d + 3) 268 11 [.ref 83, .int (wI x1), .int (wI x2), .int (wI x3), .int (wI x4), .int (wI (x5 + (-1))), .int (wI (5012 + (8 * x5)))] [] S σ τ Q)) else (wi (d + 3) 268 11 [.ref 83, .int (wI x1), .int (wI x2), .int (wI x3), .int (wI x4), .int (wI (x5 + (-1))), .int (wI (5012 + (8 * x5)))] [] S σ τ Q)))) : wi (d + 3) 268 11 [.ref 83, .int (wI x1), .int (wI x2), .int (wI x3), .int (wI x4), .int (wI x5), y6] [] S σ τ Q := by
  obtain ⟨r1, t⟩ := t
  refine i3 c_268_11 rfl ?_
  refine i36 c_268_13 r1 rfl (fun hc => ?_) (fun hc => ?_)
  · have t := iT t hc
    have ha2 : x5 < 0 := hc
    refine i1 c_268_116 ?_
    exact i90 c_268_117 t
  · have t := iF t hc
    have ha2 : ¬ (x5 < 0) := hc
    obtain ⟨r3, t⟩ := t
    refine i1 c_268_16 (i1 c_268_19 (i3 c_268_21 rfl (i12 c_268_23 (i10 c_268_24 (i6 (L' := [.ref 83, .int (wI x1), .int (wI x2), .int (wI x3), .int (wI x4), .int (wI x5), .int (wI (5012 + (8 * x5)))]) c_268_25 rfl (i5 c_268_27 rfl (i45 c_268_28 (lo (c := 83) (kd := 112) (n := 0) rfl (by decide)) (lro (c := 83) (k := 0) (j := 84) (by decide)) (i3 c_268_31 rfl (i1 c_268_33 (i10 c_268_34 (wi_ok (fun K4 => ?_))))))))))))
    refine i50 (v := σ 84 ((5012 + (8 * x5)) + 1)) c_268_35 (lo (c := 84) (kd := 0) (n := 112300) rfl (by decide)) (by decide) r3 rfl (i1 c_268_36 ?_)
    refine i37 c_268_37 (rge_ K4 rfl) (by decide) rfl (fun hc => ?_) (fun hc => ?_)
    · have t := iT t hc
      have ha5 : (σ 84 ((5012 + (8 * x5)) + 1)) = (-1) := hc
      obtain ⟨r6, t⟩ := t
      obtain ⟨r7, t⟩ := t
      obtain ⟨r8, t⟩ := t
      refine i3 c_268_53 rfl (i5 c_268_54 rfl (i45 c_268_55 (lo (c := 83) (kd := 112) (n := 0) rfl (by decide)) (lro (c := 83) (k := 0) (j := 84) (by decide)) (i3 c_268_58 rfl (i1 c_268_60 (i10 c_268_61 (i50 (v := σ 84 ((5012 + (8 * x5)) + 2)) c_268_62 (lo (c := 84) (kd := 0) (n := 112300) rfl (by decide)) (by decide) r6 rfl (i5 c_268_63 rfl (i45 c_268_64 (lo (c := 83) (kd := 112) (n := 0) rfl (by decide)) (lro (c := 83) (k := 0) (j := 84) (by decide)) (i3 c_268_67 rfl (i1 c_268_69 (i10 c_268_70 (i50 (v := σ 84 ((5012 + (8 * x5)) + 3)) c_268_71 (lo (c := 84) (kd := 0) (n := 112300) rfl (by decide)) (by decide) r7 rfl ?_))))))))))))
      refine i81 (As := [.int (wI x3), .int (wI (σ 84 ((5012 + (8 * x5)) + 2))), .int (wI (σ 84 ((5012 + (8 * x5)) + 3)))]) (rest := []) c_268_72 mi_196 rfl rfl (Nat.le_of_ble_eq_true rfl) (Nat.le_of_ble_eq_true rfl) (q_196 r8 (rge_ K4 rfl) (rge_ K4 rfl) ?_)
      show wi (d + 3) 268 75 [.ref 83, .int (wI x1), .int (wI x2), .int (wI x3), .int (wI x4), .int (wI x5), .int (wI (5012 + (8 * x5)))] [.int (wI (if (σ 84 ((5012 + (8 * x5)) + 2)) ≤ x3 ∧ x3 ≤ (σ 84 ((5012 + (8 * x5)) + 3)) then 1 else 0))] S σ τ Q
      refine i36e c_268_75 rfl (fun hc => ?_) (fun hc => ?_)
      · have t := iT t hc
        have ha9 : (σ 84 ((5012 + (8 * x5)) + 2)) ≤ x3 ∧ x3 ≤ (σ 84 ((5012 + (8 * x5)) + 3)) := hc
        obtain ⟨r10, t⟩ := t
        obtain ⟨r11, t⟩ := t
        refine i5 c_268_78 rfl (i45 c_268_79 (lo (c := 83) (kd := 112) (n := 0) rfl (by decide)) (lro (c := 83) (k := 0) (j := 84) (by decide)) (i3 c_268_82 rfl (i1 c_268_84 (i10 c_268_85 (i50 (v := σ 84 ((5012 + (8 * x5)) + 4)) c_268_86 (lo (c := 84) (kd := 0) (n := 112300) rfl (by decide)) (by decide) r10 rfl (i3 c_268_87 rfl ?_))))))
        refine i37 c_268_89 (rge_ K4 rfl) r11 rfl (fun hc => ?_) (fun hc => ?_)
        · have t := iT t hc
          have ha12 : x4 < (σ 84 ((5012 + (8 * x5)) + 4)) := hc
          refine i9 (L' := [.ref 83, .int (wI x1), .int (wI x2), .int (wI x3), .int (wI x4), .int (wI (x5 + (-1))), .int (wI (5012 + (8 * x5)))]) c_268_110 rfl rfl (i38 c_268_113 rfl t)
        · have t := iF t hc
          have ha12 : ¬ (x4 < (σ 84 ((5012 + (8 * x5)) + 4))) := hc
          obtain ⟨r13, t⟩ := t
          obtain ⟨p14, t⟩ := t
          obtain ⟨p15, t⟩ := t
          obtain ⟨p16, t⟩ := t
          obtain ⟨r17, t⟩ := t
          refine i5 c_268_92 rfl (i5 c_268_93 rfl (i45 c_268_94 (lo (c := 83) (kd := 112) (n := 0) rfl (by decide)) (lro (c := 83) (k := 0) (j := 84) (by decide)) (i3 c_268_97 rfl (i50 (v := σ 84 (5012 + (8 * x5))) c_268_99 (lo (c := 84) (kd := 0) (n := 112300) rfl (by decide)) (by decide) r13 rfl (i3 c_268_100 rfl ?_)))))
          refine i80 (As := [.int (wI (σ 84 (5012 + (8 * x5)))), .int (wI x1)]) (rest := []) c_268_101 mi_267 rfl rfl (Nat.le_of_ble_eq_true rfl) (Nat.le_of_ble_eq_true rfl) (lo (c := 83) (kd := 112) (n := 0) rfl (by decide)) (q_267 p14 p15 p16 r17 ?_)
          show wi (d + 3) 268 104 [.ref 83, .int (wI x1), .int (wI x2), .int (wI x3), .int (wI x4), .int (wI x5), .int (wI (5012 + (8 * x5)))] [.int (wI (if r_hc (σ 84) (σ 84 (5012 + (8 * x5))) x1 = true then 1 else 0))] S σ τ Q
          refine i36e c_268_104 rfl (fun hc => ?_) (fun hc => ?_)
          · have t := iT t hc
            have ha18 : r_hc (σ 84) (σ 84 (5012 + (8 * x5))) x1 = true := hc
            refine i3 c_268_107 rfl ?_
            exact i90 c_268_109 t
          · have t := iF t hc
            have ha18 : ¬ (r_hc (σ 84) (σ 84 (5012 + (8 * x5))) x1 = true) := hc
            refine i9 (L' := [.ref 83, .int (wI x1), .int (wI x2), .int (wI x3), .int (wI x4), .int (wI (x5 + (-1))), .int (wI (5012 + (8 * x5)))]) c_268_110 rfl rfl (i38 c_268_113 rfl t)
      · have t := iF t hc
        have ha9 : ¬ ((σ 84 ((5012 + (8 * x5)) + 2)) ≤ x3 ∧ x3 ≤ (σ 84 ((5012 + (8 * x5)) + 3))) := hc
        refine i9 (L' := [.ref 83, .int (wI x1), .int (wI x2), .int (wI x3), .int (wI x4), .int (wI (x5 + (-1))), .int (wI (5012 + (8 * x5)))]) c_268_110 rfl rfl (i38 c_268_113 rfl t)
    · have t := iF t hc
      have ha5 : ¬ ((σ 84 ((5012 + (8 * x5)) + 1)) = (-1)) := hc
      obtain ⟨r19, t⟩ := t
      refine i5 c_268_40 rfl (i45 c_268_41 (lo (c := 83) (kd := 112) (n := 0) rfl (by decide)) (lro (c := 83) (k := 0) (j := 84) (by decide)) (i3 c_268_44 rfl (i1 c_268_46 (i10 c_268_47 (i50 (v := σ 84 ((5012 + (8 * x5)) + 1)) c_268_48 (lo (c := 84) (kd := 0) (n := 112300) rfl (by decide)) (by decide) r3 rfl (i3 c_268_49 rfl ?_))))))
      refine i37 c_268_50 (rge_ K4 rfl) r19 rfl (fun hc => ?_) (fun hc => ?_)
      · have t := iF t hc
        have ha20 : ¬ ((σ 84 ((5012 + (8 * x5)) + 1)) = x2) := hc
        refine i9 (L' := [.ref 83, .int (wI x1), .int (wI x2), .int (wI x3), .int (wI x4), .int (wI (x5 + (-1))), .int (wI (5012 + (8 * x5)))]) c_268_110 rfl rfl (i38 c_268_113 rfl t)
      · have t := iT t (Decidable.not_not.mp hc)
        have ha20 : (σ 84 ((5012 + (8 * x5)) + 1)) = x2 := Decidable.not_not.mp hc
        obtain ⟨r21, t⟩ := t
        obtain ⟨r22, t⟩ := t
        obtain ⟨r23, t⟩ := t
        refine i3 c_268_53 rfl (i5 c_268_54 rfl (i45 c_268_55 (lo (c := 83) (kd := 112) (n := 0) rfl (by decide)) (lro (c := 83) (k := 0) (j := 84) (by decide)) (i3 c_268_58 rfl (i1 c_268_60 (i10 c_268_61 (i50 (v := σ 84 ((5012 + (8 * x5)) + 2)) c_268_62 (lo (c := 84) (kd := 0) (n := 112300) rfl (by decide)) (by decide) r21 rfl (i5 c_268_63 rfl (i45 c_268_64 (lo (c := 83) (kd := 112) (n := 0) rfl (by decide)) (lro (c := 83) (k := 0) (j := 84) (by decide)) (i3 c_268_67 rfl (i1 c_268_69 (i10 c_268_70 (i50 (v := σ 84 ((5012 + (8 * x5)) + 3)) c_268_71 (lo (c := 84) (kd := 0) (n := 112300) rfl (by decide)) (by decide) r22 rfl ?_))))))))))))
        refine i81 (As := [.int (wI x3), .int (wI (σ 84 ((5012 + (8 * x5)) + 2))), .int (wI (σ 84 ((5012 + (8 * x5)) + 3)))]) (rest := []) c_268_72 mi_196 rfl rfl (Nat.le_of_ble_eq_true rfl) (Nat.le_of_ble_eq_true rfl) (q_196 r23 (rge_ K4 rfl) (rge_ K4 rfl) ?_)
        show wi (d + 3) 268 75 [.ref 83, .int (wI x1), .int (wI x2), .int (wI x3), .int (wI x4), .int (wI x5), .int (wI (5012 + (8 * x5)))] [.int (wI (if (σ 84 ((5012 + (8 * x5)) + 2)) ≤ x3 ∧ x3 ≤ (σ 84 ((5012 + (8 * x5)) + 3)) then 1 else 0))] S σ τ Q
        refine i36e c_268_75 rfl (fun hc => ?_) (fun hc => ?_)
        · have t := iT t hc
          have ha24 : (σ 84 ((5012 + (8 * x5)) + 2)) ≤ x3 ∧ x3 ≤ (σ 84 ((5012 + (8 * x5)) + 3)) := hc
          obtain ⟨r25, t⟩ := t
          obtain ⟨r26, t⟩ := t
          refine i5 c_268_78 rfl (i45 c_268_79 (lo (c := 83) (kd := 112) (n := 0) rfl (by decide)) (lro (c := 83) (k := 0) (j := 84) (by decide)) (i3 c_268_82 rfl (i1 c_268_84 (i10 c_268_85 (i50 (v := σ 84 ((5012 + (8 * x5)) + 4)) c_268_86 (lo (c := 84) (kd := 0) (n := 112300) rfl (by decide)) (by decide) r25 rfl (i3 c_268_87 rfl ?_))))))
          refine i37 c_268_89 (rge_ K4 rfl) r26 rfl (fun hc => ?_) (fun hc => ?_)
          · have t := iT t hc
            have ha27 : x4 < (σ 84 ((5012 + (8 * x5)) + 4)) := hc
            refine i9 (L' := [.ref 83, .int (wI x1), .int (wI x2), .int (wI x3), .int (wI x4), .int (wI (x5 + (-1))), .int (wI (5012 + (8 * x5)))]) c_268_110 rfl rfl (i38 c_268_113 rfl t)
          · have t := iF t hc
            have ha27 : ¬ (x4 < (σ 84 ((5012 + (8 * x5)) + 4))) := hc
            obtain ⟨r28, t⟩ := t
            obtain ⟨p29, t⟩ := t
            obtain ⟨p30, t⟩ := t
            obtain ⟨p31, t⟩ := t
            obtain ⟨r32, t⟩ := t
            refine i5 c_268_92 rfl (i5 c_268_93 rfl (i45 c_268_94 (lo (c := 83) (kd := 112) (n := 0) rfl (by decide)) (lro (c := 83) (k := 0) (j := 84) (by decide)) (i3 c_268_97 rfl (i50 (v := σ 84 (5012 + (8 * x5))) c_268_99 (lo (c := 84) (kd := 0) (n := 112300) rfl (by decide)) (by decide) r28 rfl (i3 c_268_100 rfl ?_)))))
            refine i80 (As := [.int (wI (σ 84 (5012 + (8 * x5)))), .int (wI x1)]) (rest := []) c_268_101 mi_267 rfl rfl (Nat.le_of_ble_eq_true rfl) (Nat.le_of_ble_eq_true rfl) (lo (c := 83) (kd := 112) (n := 0) rfl (by decide)) (q_267 p29 p30 p31 r32 ?_)
            show wi (d + 3) 268 104 [.ref 83, .int (wI x1), .int (wI x2), .int (wI x3), .int (wI x4), .int (wI x5), .int (wI (5012 + (8 * x5)))] [.int (wI (if r_hc (σ 84) (σ 84 (5012 + (8 * x5))) x1 = true then 1 else 0))] S σ τ Q
            refine i36e c_268_104 rfl (fun hc => ?_) (fun hc => ?_)
            · have t := iT t hc
              have ha33 : r_hc (σ 84) (σ 84 (5012 + (8 * x5))) x1 = true := hc
              refine i3 c_268_107 rfl ?_
              exact i90 c_268_109 t
            · have t := iF t hc
              have ha33 : ¬ (r_hc (σ 84) (σ 84 (5012 + (8 * x5))) x1 = true) := hc
              refine i9 (L' := [.ref 83, .int (wI x1), .int (wI x2), .int (wI x3), .int (wI x4), .int (wI (x5 + (-1))), .int (wI (5012 + (8 * x5)))]) c_268_110 rfl rfl (i38 c_268_113 rfl t)
        · have t := iF t hc
          have ha24 : ¬ ((σ 84 ((5012 + (8 * x5)) + 2)) ≤ x3 ∧ x3 ≤ (σ 84 ((5012 + (8 * x5)) + 3))) := hc
          refine i9 (L' := [.ref 83, .int (wI x1), .int (wI x2), .int (wI x3), .int (wI x4), .int (wI (x5 + (-1))), .int (wI (5012 + (8 * x5)))]) c_268_110 rfl rfl (i38 c_268_113 rfl t)
theorem q_268 {d : Nat} {S : zS} {σ τ : zI} {Q : zQ} {sort : Int} {mill : Int} {week : Int} {known : Int} (p0 : Jl (σ 84)) (p1 : jv_T (σ 84)) (p2 : rg sort) (p3 : rg mill) (p4 : rg week) (p5 : rg known) (t : ∀ (v : Int), v = r_fc (σ 84) sort mill week known → -1 ≤ v ∧ v < σ 84 6 → Q (some (.int (wI v))) S σ τ) : wc (d + 3) 268 [.ref 83, .int (wI sort), .int (wI mill), .int (wI week), .int (wI known)] S σ τ Q := by
  have hC := lC p0
  unfold jv_C at hC
  have hF := lF p0
  have t := t _ rfl (by have := r_fc_b (a := σ 84) (sort := sort) (mill := mill) (week := week) (known := known) (by omega); exact ⟨this.1, this.2.1⟩)
  unfold r_fc at t
  refine wc_of mi_268 rfl (u_268_0 ?_)
  have key : ∀ f, -1 ≤ f → f < σ 84 6 → Q (some (.int (wI (r_fcI (σ 84) sort mill week known f)))) S σ τ → ∀ y, wi (d + 3) 268 11 [.ref 83, .int (wI sort), .int (wI mill), .int (wI week), .int (wI known), .int (wI f), y] [] S σ τ Q := by
    refine lp_dn (fun f hf ih => ?_)
    intro h1 t y
    refine u_268_11 ⟨by omega, ?_⟩
    by_cases c : f < 0
    · have : f = -1 := by omega
      subst this
      rw [if_pos (by omega)]
      exact t
    · have q := hF f (by omega) h1
      rw [if_neg c]
      rw [r_fcI_s (by omega)] at t
      have tp : fc_c (σ 84) sort mill week known f → Q (some (.int (wI f))) S σ τ := fun h => by rw [if_pos h] at t; exact t
      have tn : ¬ fc_c (σ 84) sort mill week known f → ∀ y, wi (d + 3) 268 11 [.ref 83, .int (wI sort), .int (wI mill), .int (wI week), .int (wI known), .int (wI (f + -1)), y] [] S σ τ Q := fun h y => by
        rw [if_neg h] at t
        exact ih (by omega) (by omega) t y
      clear t ih
      have hq : ∀ A : Prop, (A ∨ True) := fun _ => Or.inr trivial
      repeat' (first | exact tp ⟨by omega, by omega, by omega, by assumption⟩ | exact tn (fun h => by have := h.2.2.2; omega) _ | exact tn (fun h => absurd h.2.2.2 (by assumption)) _ | refine ⟨by assumption, ?_⟩ | refine ⟨by omega, ?_⟩ | refine ifI (fun _ => ?_) (fun _ => ?_))
  exact key (σ 84 6 - 1) (by omega) (by omega) t _
-- method 275: MillTownModel.mostOf(IIII)I
theorem c_275_0 : pg_cd 275 0 = (5, 1, 0, 0, 0) := by decide +kernel
theorem c_275_1 : pg_cd 275 1 = (3, 1, 0, 1, 0) := by decide +kernel
theorem c_275_2 : pg_cd 275 2 = (3, 1, 0, 2, 0) := by decide +kernel
theorem c_275_3 : pg_cd 275 3 = (3, 1, 0, 3, 0) := by decide +kernel
theorem c_275_4 : pg_cd 275 4 = (3, 2, 0, 4, 0) := by decide +kernel
theorem c_275_6 : pg_cd 275 6 = (80, 268, 315, 0, 0) := by decide +kernel
theorem c_275_9 : pg_cd 275 9 = (6, 2, 0, 5, 0) := by decide +kernel
theorem c_275_11 : pg_cd 275 11 = (1, 1, 0, 0, 0) := by decide +kernel
theorem c_275_12 : pg_cd 275 12 = (6, 2, 0, 6, 0) := by decide +kernel
theorem c_275_14 : pg_cd 275 14 = (1, 1, 0, 0, 0) := by decide +kernel
theorem c_275_15 : pg_cd 275 15 = (6, 2, 0, 7, 0) := by decide +kernel
theorem c_275_17 : pg_cd 275 17 = (3, 2, 0, 5, 0) := by decide +kernel
theorem c_275_19 : pg_cd 275 19 = (36, 3, 0, 2, 90) := by decide +kernel
theorem c_275_22 : pg_cd 275 22 = (3, 2, 0, 7, 0) := by decide +kernel
theorem c_275_24 : pg_cd 275 24 = (5, 1, 0, 0, 0) := by decide +kernel
theorem c_275_25 : pg_cd 275 25 = (5, 1, 0, 0, 0) := by decide +kernel
theorem c_275_26 : pg_cd 275 26 = (45, 12, 8, 0, 0) := by decide +kernel
theorem c_275_29 : pg_cd 275 29 = (1, 3, 0, 0, 5012) := by decide +kernel
theorem c_275_32 : pg_cd 275 32 = (1, 2, 0, 0, 8) := by decide +kernel
theorem c_275_34 : pg_cd 275 34 = (3, 2, 0, 5, 0) := by decide +kernel
theorem c_275_36 : pg_cd 275 36 = (12, 1, 0, 0, 0) := by decide +kernel
theorem c_275_37 : pg_cd 275 37 = (10, 1, 0, 0, 0) := by decide +kernel
theorem c_275_38 : pg_cd 275 38 = (50, 1, 0, 0, 0) := by decide +kernel
theorem c_275_39 : pg_cd 275 39 = (80, 266, 296, 0, 0) := by decide +kernel
theorem c_275_42 : pg_cd 275 42 = (37, 3, 0, 3, 67) := by decide +kernel
theorem c_275_45 : pg_cd 275 45 = (5, 1, 0, 0, 0) := by decide +kernel
theorem c_275_46 : pg_cd 275 46 = (5, 1, 0, 0, 0) := by decide +kernel
theorem c_275_47 : pg_cd 275 47 = (45, 12, 8, 0, 0) := by decide +kernel
theorem c_275_50 : pg_cd 275 50 = (1, 3, 0, 0, 5012) := by decide +kernel
theorem c_275_53 : pg_cd 275 53 = (1, 2, 0, 0, 8) := by decide +kernel
theorem c_275_55 : pg_cd 275 55 = (3, 2, 0, 5, 0) := by decide +kernel
theorem c_275_57 : pg_cd 275 57 = (12, 1, 0, 0, 0) := by decide +kernel
theorem c_275_58 : pg_cd 275 58 = (10, 1, 0, 0, 0) := by decide +kernel
theorem c_275_59 : pg_cd 275 59 = (50, 1, 0, 0, 0) := by decide +kernel
theorem c_275_60 : pg_cd 275 60 = (3, 2, 0, 7, 0) := by decide +kernel
theorem c_275_62 : pg_cd 275 62 = (80, 265, 299, 0, 0) := by decide +kernel
theorem c_275_65 : pg_cd 275 65 = (6, 2, 0, 8, 0) := by decide +kernel
theorem c_275_67 : pg_cd 275 67 = (5, 1, 0, 0, 0) := by decide +kernel
theorem c_275_68 : pg_cd 275 68 = (45, 12, 8, 0, 0) := by decide +kernel
theorem c_275_71 : pg_cd 275 71 = (3, 2, 0, 8, 0) := by decide +kernel
theorem c_275_73 : pg_cd 275 73 = (50, 1, 0, 0, 0) := by decide +kernel
theorem c_275_74 : pg_cd 275 74 = (3, 1, 0, 1, 0) := by decide +kernel
theorem c_275_75 : pg_cd 275 75 = (37, 3, 0, 1, 28) := by decide +kernel
theorem c_275_78 : pg_cd 275 78 = (5, 1, 0, 0, 0) := by decide +kernel
theorem c_275_79 : pg_cd 275 79 = (45, 12, 8, 0, 0) := by decide +kernel
theorem c_275_82 : pg_cd 275 82 = (3, 2, 0, 8, 0) := by decide +kernel
theorem c_275_84 : pg_cd 275 84 = (1, 1, 0, 0, 1) := by decide +kernel
theorem c_275_85 : pg_cd 275 85 = (10, 1, 0, 0, 0) := by decide +kernel
theorem c_275_86 : pg_cd 275 86 = (50, 1, 0, 0, 0) := by decide +kernel
theorem c_275_87 : pg_cd 275 87 = (3, 2, 0, 6, 0) := by decide +kernel
theorem c_275_89 : pg_cd 275 89 = (37, 3, 0, 5, 14) := by decide +kernel
theorem c_275_92 : pg_cd 275 92 = (5, 1, 0, 0, 0) := by decide +kernel
theorem c_275_93 : pg_cd 275 93 = (45, 12, 8, 0, 0) := by decide +kernel
theorem c_275_96 : pg_cd 275 96 = (3, 2, 0, 8, 0) := by decide +kernel
theorem c_275_98 : pg_cd 275 98 = (1, 1, 0, 0, 1) := by decide +kernel
theorem c_275_99 : pg_cd 275 99 = (10, 1, 0, 0, 0) := by decide +kernel
theorem c_275_100 : pg_cd 275 100 = (50, 1, 0, 0, 0) := by decide +kernel
theorem c_275_101 : pg_cd 275 101 = (6, 2, 0, 6, 0) := by decide +kernel
theorem c_275_103 : pg_cd 275 103 = (9, 3, 0, 7, 1) := by decide +kernel
theorem c_275_106 : pg_cd 275 106 = (38, 3, 0, 0, (-89)) := by decide +kernel
theorem c_275_109 : pg_cd 275 109 = (3, 2, 0, 6, 0) := by decide +kernel
theorem c_275_111 : pg_cd 275 111 = (90, 0, 0, 0, 0) := by decide +kernel
theorem mi_275 : pg_mc 275 = 12 ∧ pg_na 275 = 4 ∧ pg_mx 275 = 9 := by decide +kernel
set_option maxRecDepth 20000 in
theorem u_275_0 {d : Nat} {S : zS} {σ τ : zI} {Q : zQ} {x1 : Int} {x2 : Int} {x3 : Int} {x4 : Int} (t : (Jl (σ 84)) ∧ (jv_T (σ 84)) ∧ (rg x1) ∧ (rg x2) ∧ (rg x3) ∧ (rg x4) ∧ ∀ (v7 : Int), v7 = r_fc (σ 84) x1 x2 x3 x4 → -1 ≤ v7 ∧ v7 < σ 84 6 → wi (d + 4) 275 17 [.ref 83, .int (wI x1), .int (wI x2), .int (wI x3), .int (wI x4), .int (wI v7), .int (wI 0), .int (wI 0), .retAddr 0] [] S σ τ Q) : wi (d + 4) 275 0 [.ref 83, .int (wI x1), .int (wI x2), .int (wI x3), .int (wI x4), .retAddr 0, .retAddr 0, .retAddr 0, .retAddr 0] [] S σ τ Q := by
  obtain ⟨p1, t⟩ := t
  obtain ⟨p2, t⟩ := t
  obtain ⟨r3, t⟩ := t
  obtain ⟨r4, t⟩ := t
  obtain ⟨r5, t⟩ := t
  obtain ⟨r6, t⟩ := t
  refine i5 c_275_0 rfl (i3 c_275_1 rfl (i3 c_275_2 rfl (i3 c_275_3 rfl (i3 c_275_4 rfl ?_))))
  refine i80 (As := [.int (wI x1), .int (wI x2), .int (wI x3), .int (wI x4)]) (rest := []) c_275_6 mi_268 rfl rfl (Nat.le_of_ble_eq_true rfl) (Nat.le_of_ble_eq_true rfl) (lo (c := 83) (kd := 112) (n := 0) rfl (by decide)) (q_268 p1 p2 r3 r4 r5 r6 (fun v7 q8 q9 => ?_))
  have t := t v7 q8 q9
  show wi (d + 4) 275 9 [.ref 83, .int (wI x1), .int (wI x2), .int (wI x3), .int (wI x4), .retAddr 0, .retAddr 0, .retAddr 0, .retAddr 0] [.int (wI v7)] S σ τ Q
  refine i6 (L' := [.ref 83, .int (wI x1), .int (wI x2), .int (wI x3), .int (wI x4), .int (wI v7), .retAddr 0, .retAddr 0, .retAddr 0]) c_275_9 rfl (i1 c_275_11 (i6 (L' := [.ref 83, .int (wI x1), .int (wI x2), .int (wI x3), .int (wI x4), .int (wI v7), .int (wI 0), .retAddr 0, .retAddr 0]) c_275_12 rfl (i1 c_275_14 (i6 (L' := [.ref 83, .int (wI x1), .int (wI x2), .int (wI x3), .int (wI x4), .int (wI v7), .int (wI 0), .int (wI 0), .retAddr 0]) c_275_15 rfl t))))
set_option maxRecDepth 20000 in
theorem u_275_17 {d : Nat} {S : zS} {σ τ : zI} {Q : zQ} {x1 : Int} {x2 : Int} {x3 : Int} {x4 : Int} {x5 : Int} {x6 : Int} {x7 : Int} {y8 : Value} (t : (rg x5) ∧ if x5 < 0 then (Q (some (.int (wI x6))) S σ τ) else ((0 ≤ 5012 + (8 * x5) ∧ 5012 + (8 * x5) < 112300) ∧ (0 ≤ 5500 + 840 * (σ 84 (5012 + (8 * x5))) ∧ 5500 + 840 * (σ 84 (5012 + (8 * x5))) < 112300) ∧ (rg x7) ∧ if (σ 84 (5500 + 840 * (σ 84 (5012 + (8 * x5))))) ≤ x7 then (Q (some (.int (wI x6))) S σ τ) else ((0 ≤ 5500 + 840 * (σ 84 (5012 + (8 * x5))) + 1 + 8 * x7 ∧ 5500 + 840 * (σ 84 (5012 + (8 * x5))) + 1 + 8 * x7 < 112300) ∧ (rg x1) ∧ if (σ 84 (5500 + 840 * (σ 84 (5012 + (8 * x5))) + 1 + 8 * x7)) = x1 then ((0 ≤ (5500 + 840 * (σ 84 (5012 + (8 * x5))) + 1 + 8 * x7) + 1 ∧ (5500 + 840 * (σ 84 (5012 + (8 * x5))) + 1 + 8 * x7) + 1 < 112300) ∧ (rg x6) ∧ if (σ 84 ((5500 + 840 * (σ 84 (5012 + (8 * x5))) + 1 + 8 * x7) + 1)) ≤ x6 then (wi (d + 4) 275 17 [.ref 83, .int (wI x1), .int (wI x2), .int (wI x3), .int (wI x4), .int (wI x5), .int (wI x6), .int (wI (x7 + 1)), .int (wI (5500 + 840 * (σ 84 (5012 + (8 * x5))) + 1 + 8 * x7))] [] S σ τ Q) else (wi (d + 4) 275 17 [.ref 83, .int (wI x1), .int (wI x2), .int (wI x3), .int (wI x4), .int (wI x5), .int (wI (σ 84 ((5500 + 840 * (σ 84 (5012 + (8 * x5))) + 1 + 8 * x7) + 1))), .int (wI (x7 + 1)), .int (wI (5500 + 840 * (σ 84 (5012 + (8 * x5))) + 1 + 8 * x7))] [] S σ τ Q)) else (wi (d + 4) 275 17 [.ref 83, .int (wI x1), .int (wI x2), .int (wI x3), .int (wI x4), .int (wI x5), .int (wI x6), .int (wI (x7 + 1)), .int (wI (5500 + 840 * (σ 84 (5012 + (8 * x5))) + 1 + 8 * x7))] [] S σ τ Q)))) : wi (d + 4) 275 17 [.ref 83, .int (wI x1), .int (wI x2), .int (wI x3), .int (wI x4), .int (wI x5), .int (wI x6), .int (wI x7), y8] [] S σ τ Q := by
  obtain ⟨r1, t⟩ := t
  refine i3 c_275_17 rfl ?_
  refine i36 c_275_19 r1 rfl (fun hc => ?_) (fun hc => ?_)
  · have t := iT t hc
    have ha2 : x5 < 0 := hc
    refine i3 c_275_109 rfl ?_
    exact i90 c_275_111 t
  · have t := iF t hc
    have ha2 : ¬ (x5 < 0) := hc
    obtain ⟨r3, t⟩ := t
    refine i3 c_275_22 rfl (i5 c_275_24 rfl (i5 c_275_25 rfl (i45 c_275_26 (lo (c := 83) (kd := 112) (n := 0) rfl (by decide)) (lro (c := 83) (k := 0) (j := 84) (by decide)) (i1 c_275_29 (i1 c_275_32 (i3 c_275_34 rfl (i12 c_275_36 (i10 c_275_37 (wi_ok (fun K4 => ?_))))))))))
    obtain ⟨p5, t⟩ := t
    refine i50 (v := σ 84 (5012 + (8 * x5))) c_275_38 (lo (c := 84) (kd := 0) (n := 112300) rfl (by decide)) (by decide) r3 rfl ?_
    refine i80 (As := [.int (wI (σ 84 (5012 + (8 * x5))))]) (rest := [.int (wI x7)]) c_275_39 mi_266 rfl rfl (Nat.le_of_ble_eq_true rfl) (Nat.le_of_ble_eq_true rfl) (lo (c := 83) (kd := 112) (n := 0) rfl (by decide)) (q_266 p5 ?_)
    show wi (d + 4) 275 42 [.ref 83, .int (wI x1), .int (wI x2), .int (wI x3), .int (wI x4), .int (wI x5), .int (wI x6), .int (wI x7), y8] [.int (wI (σ 84 (5500 + 840 * (σ 84 (5012 + (8 * x5)))))), .int (wI x7)] S σ τ Q
    obtain ⟨r6, t⟩ := t
    refine i37 c_275_42 r6 (rge_ K4 rfl) rfl (fun hc => ?_) (fun hc => ?_)
    · have t := iT t hc
      have ha7 : (σ 84 (5500 + 840 * (σ 84 (5012 + (8 * x5))))) ≤ x7 := hc
      refine i3 c_275_109 rfl ?_
      exact i90 c_275_111 t
    · have t := iF t hc
      have ha7 : ¬ ((σ 84 (5500 + 840 * (σ 84 (5012 + (8 * x5))))) ≤ x7) := hc
      refine i5 c_275_45 rfl (i5 c_275_46 rfl (i45 c_275_47 (lo (c := 83) (kd := 112) (n := 0) rfl (by decide)) (lro (c := 83) (k := 0) (j := 84) (by decide)) (i1 c_275_50 (i1 c_275_53 (i3 c_275_55 rfl (i12 c_275_57 (i10 c_275_58 (i50 (v := σ 84 (5012 + (8 * x5))) c_275_59 (lo (c := 84) (kd := 0) (n := 112300) rfl (by decide)) (by decide) r3 rfl (i3 c_275_60 rfl ?_)))))))))
      refine i80 (As := [.int (wI (σ 84 (5012 + (8 * x5)))), .int (wI x7)]) (rest := []) c_275_62 mi_265 rfl rfl (Nat.le_of_ble_eq_true rfl) (Nat.le_of_ble_eq_true rfl) (lo (c := 83) (kd := 112) (n := 0) rfl (by decide)) (q_265 ?_)
      show wi (d + 4) 275 65 [.ref 83, .int (wI x1), .int (wI x2), .int (wI x3), .int (wI x4), .int (wI x5), .int (wI x6), .int (wI x7), y8] [.int (wI (5500 + 840 * (σ 84 (5012 + (8 * x5))) + 1 + 8 * x7))] S σ τ Q
      obtain ⟨r8, t⟩ := t
      obtain ⟨r9, t⟩ := t
      refine i6 (L' := [.ref 83, .int (wI x1), .int (wI x2), .int (wI x3), .int (wI x4), .int (wI x5), .int (wI x6), .int (wI x7), .int (wI (5500 + 840 * (σ 84 (5012 + (8 * x5))) + 1 + 8 * x7))]) c_275_65 rfl (i5 c_275_67 rfl (i45 c_275_68 (lo (c := 83) (kd := 112) (n := 0) rfl (by decide)) (lro (c := 83) (k := 0) (j := 84) (by decide)) (i3 c_275_71 rfl (i50 (v := σ 84 (5500 + 840 * (σ 84 (5012 + (8 * x5))) + 1 + 8 * x7)) c_275_73 (lo (c := 84) (kd := 0) (n := 112300) rfl (by decide)) (by decide) r8 rfl (i3 c_275_74 rfl ?_)))))
      refine i37 c_275_75 (rge_ K4 rfl) r9 rfl (fun hc => ?_) (fun hc => ?_)
      · have t := iF t hc
        have ha10 : ¬ ((σ 84 (5500 + 840 * (σ 84 (5012 + (8 * x5))) + 1 + 8 * x7)) = x1) := hc
        refine i9 (L' := [.ref 83, .int (wI x1), .int (wI x2), .int (wI x3), .int (wI x4), .int (wI x5), .int (wI x6), .int (wI (x7 + 1)), .int (wI (5500 + 840 * (σ 84 (5012 + (8 * x5))) + 1 + 8 * x7))]) c_275_103 rfl rfl (i38 c_275_106 rfl t)
      · have t := iT t (Decidable.not_not.mp hc)
        have ha10 : (σ 84 (5500 + 840 * (σ 84 (5012 + (8 * x5))) + 1 + 8 * x7)) = x1 := Decidable.not_not.mp hc
        obtain ⟨r11, t⟩ := t
        obtain ⟨r12, t⟩ := t
        refine i5 c_275_78 rfl (i45 c_275_79 (lo (c := 83) (kd := 112) (n := 0) rfl (by decide)) (lro (c := 83) (k := 0) (j := 84) (by decide)) (i3 c_275_82 rfl (i1 c_275_84 (i10 c_275_85 (i50 (v := σ 84 ((5500 + 840 * (σ 84 (5012 + (8 * x5))) + 1 + 8 * x7) + 1)) c_275_86 (lo (c := 84) (kd := 0) (n := 112300) rfl (by decide)) (by decide) r11 rfl (i3 c_275_87 rfl ?_))))))
        refine i37 c_275_89 (rge_ K4 rfl) r12 rfl (fun hc => ?_) (fun hc => ?_)
        · have t := iT t hc
          have ha13 : (σ 84 ((5500 + 840 * (σ 84 (5012 + (8 * x5))) + 1 + 8 * x7) + 1)) ≤ x6 := hc
          refine i9 (L' := [.ref 83, .int (wI x1), .int (wI x2), .int (wI x3), .int (wI x4), .int (wI x5), .int (wI x6), .int (wI (x7 + 1)), .int (wI (5500 + 840 * (σ 84 (5012 + (8 * x5))) + 1 + 8 * x7))]) c_275_103 rfl rfl (i38 c_275_106 rfl t)
        · have t := iF t hc
          have ha13 : ¬ ((σ 84 ((5500 + 840 * (σ 84 (5012 + (8 * x5))) + 1 + 8 * x7) + 1)) ≤ x6) := hc
          refine i5 c_275_92 rfl (i45 c_275_93 (lo (c := 83) (kd := 112) (n := 0) rfl (by decide)) (lro (c := 83) (k := 0) (j := 84) (by decide)) (i3 c_275_96 rfl (i1 c_275_98 (i10 c_275_99 (i50 (v := σ 84 ((5500 + 840 * (σ 84 (5012 + (8 * x5))) + 1 + 8 * x7) + 1)) c_275_100 (lo (c := 84) (kd := 0) (n := 112300) rfl (by decide)) (by decide) r11 rfl (i6 (L' := [.ref 83, .int (wI x1), .int (wI x2), .int (wI x3), .int (wI x4), .int (wI x5), .int (wI (σ 84 ((5500 + 840 * (σ 84 (5012 + (8 * x5))) + 1 + 8 * x7) + 1))), .int (wI x7), .int (wI (5500 + 840 * (σ 84 (5012 + (8 * x5))) + 1 + 8 * x7))]) c_275_101 rfl (i9 (L' := [.ref 83, .int (wI x1), .int (wI x2), .int (wI x3), .int (wI x4), .int (wI x5), .int (wI (σ 84 ((5500 + 840 * (σ 84 (5012 + (8 * x5))) + 1 + 8 * x7) + 1))), .int (wI (x7 + 1)), .int (wI (5500 + 840 * (σ 84 (5012 + (8 * x5))) + 1 + 8 * x7))]) c_275_103 rfl rfl (i38 c_275_106 rfl t))))))))
theorem q_275 {d : Nat} {S : zS} {σ τ : zI} {Q : zQ} {sort : Int} {mill : Int} {week : Int} {known : Int} (p0 : Jl (σ 84)) (p1 : jv_T (σ 84)) (p2 : (8 : Int) ≤ sort ∧ sort ≤ (9 : Int)) (p3 : rg mill) (p4 : rg week) (p5 : rg known) (t : ∀ (v : Int), v = r_most (σ 84) sort mill week known → 0 ≤ v ∧ v ≤ 20 → Q (some (.int (wI v))) S σ τ) : wc (d + 4) 275 [.ref 83, .int (wI sort), .int (wI mill), .int (wI week), .int (wI known)] S σ τ Q := by
  have hC := lC p0
  unfold jv_C at hC
  have hF := lF p0
  have fb := r_fc_b (a := σ 84) (sort := sort) (mill := mill) (week := week) (known := known) (by omega)
  have bm : 0 ≤ r_fc (σ 84) sort mill week known → ∀ n, 0 ≤ n → n ≤ σ 84 (5500 + 840 * σ 84 (5012 + 8 * r_fc (σ 84) sort mill week known)) → 0 ≤ r_mx (σ 84) (σ 84 (5012 + 8 * r_fc (σ 84) sort mill week known)) sort n ∧ r_mx (σ 84) (σ 84 (5012 + 8 * r_fc (σ 84) sort mill week known)) sort n ≤ 20 := fun h n n0 n1 => by
    have q := hF _ h fb.2.1
    have jt := p1 (σ 84 (5012 + 8 * r_fc (σ 84) sort mill week known)) (by omega) (by omega)
    refine r_mx_b n0 (by omega) (fun c c0 c1 c2 => ?_)
    have := (jt.2 c c0 (by omega)).2.2.2.2
    omega
  have t := t (r_most (σ 84) sort mill week known) rfl (by
    unfold r_most
    split
    · omega
    · next h =>
      have q := hF _ (by omega) fb.2.1
      have jt := p1 (σ 84 (5012 + 8 * r_fc (σ 84) sort mill week known)) (by omega) (by omega)
      exact bm (by omega) _ (by omega) (by omega))
  unfold r_most at t
  refine wc_of mi_275 rfl (u_275_0 ⟨p0, p1, by omega, p3, p4, p5, ?_⟩)
  intro f hf hb
  subst hf
  generalize hfe : r_fc (σ 84) sort mill week known = f at *
  by_cases c : f < 0
  · rw [if_pos c] at t
    refine u_275_17 ⟨by omega, ?_⟩
    rw [if_pos c]
    exact t
  · rw [if_neg c] at t
    have q := hF f (by omega) hb.2
    have jt := p1 (σ 84 (5012 + 8 * f)) (by omega) (by omega)
    have key : ∀ i, 0 ≤ i → i ≤ σ 84 (5500 + 840 * σ 84 (5012 + 8 * f)) → ∀ v y, v = r_mx (σ 84) (σ 84 (5012 + 8 * f)) sort i → wi (d + 4) 275 17 [.ref 83, .int (wI sort), .int (wI mill), .int (wI week), .int (wI known), .int (wI f), .int (wI v), .int (wI i), y] [] S σ τ Q := by
      refine lp_up (fun i i0 i1 ih => ?_)
      intro v y hv
      have bi := bm (by omega) i i0 i1
      rw [← hv] at bi
      refine u_275_17 ⟨by omega, ?_⟩
      rw [if_neg c]
      refine ⟨by omega, by omega, by omega, ?_⟩
      refine ifI (fun e => ?_) (fun e => ?_)
      · have : i = σ 84 (5500 + 840 * σ 84 (5012 + 8 * f)) := by omega
        rw [hv, this]
        exact t
      · have ih := ih (by omega)
        rw [r_mx_s i0, ← hv] at ih
        refine ⟨by omega, by omega, ?_⟩
        refine ifI (fun e2 => ?_) (fun e2 => ?_)
        · refine ⟨by omega, by omega, ?_⟩
          refine ifI (fun e3 => ?_) (fun e3 => ?_)
          · rw [if_neg (by omega)] at ih; exact ih _ _ rfl
          · rw [if_pos (by omega)] at ih; exact ih _ _ rfl
        · rw [if_neg (by omega)] at ih; exact ih _ _ rfl
    exact key 0 (by omega) (by omega) 0 _ rfl
-- method 276: MillTownModel.hoursOf(IIII)I
theorem c_276_0 : pg_cd 276 0 = (5, 1, 0, 0, 0) := by decide +kernel
theorem c_276_1 : pg_cd 276 1 = (1, 2, 0, 0, 7) := by decide +kernel
theorem c_276_3 : pg_cd 276 3 = (3, 1, 0, 2, 0) := by decide +kernel
theorem c_276_4 : pg_cd 276 4 = (3, 1, 0, 3, 0) := by decide +kernel
theorem c_276_5 : pg_cd 276 5 = (3, 2, 0, 4, 0) := by decide +kernel
theorem c_276_7 : pg_cd 276 7 = (80, 268, 315, 0, 0) := by decide +kernel
theorem c_276_10 : pg_cd 276 10 = (6, 2, 0, 5, 0) := by decide +kernel
theorem c_276_12 : pg_cd 276 12 = (3, 2, 0, 5, 0) := by decide +kernel
theorem c_276_14 : pg_cd 276 14 = (36, 3, 0, 3, 8) := by decide +kernel
theorem c_276_17 : pg_cd 276 17 = (1, 2, 0, 0, 60) := by decide +kernel
theorem c_276_19 : pg_cd 276 19 = (38, 3, 0, 0, 4) := by decide +kernel
theorem c_276_22 : pg_cd 276 22 = (1, 1, 0, 0, (-1)) := by decide +kernel
theorem c_276_23 : pg_cd 276 23 = (6, 2, 0, 6, 0) := by decide +kernel
theorem c_276_25 : pg_cd 276 25 = (1, 1, 0, 0, 0) := by decide +kernel
theorem c_276_26 : pg_cd 276 26 = (6, 2, 0, 7, 0) := by decide +kernel
theorem c_276_28 : pg_cd 276 28 = (3, 2, 0, 5, 0) := by decide +kernel
theorem c_276_30 : pg_cd 276 30 = (36, 3, 0, 2, 107) := by decide +kernel
theorem c_276_33 : pg_cd 276 33 = (3, 2, 0, 7, 0) := by decide +kernel
theorem c_276_35 : pg_cd 276 35 = (5, 1, 0, 0, 0) := by decide +kernel
theorem c_276_36 : pg_cd 276 36 = (5, 1, 0, 0, 0) := by decide +kernel
theorem c_276_37 : pg_cd 276 37 = (45, 12, 8, 0, 0) := by decide +kernel
theorem c_276_40 : pg_cd 276 40 = (1, 3, 0, 0, 5012) := by decide +kernel
theorem c_276_43 : pg_cd 276 43 = (1, 2, 0, 0, 8) := by decide +kernel
theorem c_276_45 : pg_cd 276 45 = (3, 2, 0, 5, 0) := by decide +kernel
theorem c_276_47 : pg_cd 276 47 = (12, 1, 0, 0, 0) := by decide +kernel
theorem c_276_48 : pg_cd 276 48 = (10, 1, 0, 0, 0) := by decide +kernel
theorem c_276_49 : pg_cd 276 49 = (50, 1, 0, 0, 0) := by decide +kernel
theorem c_276_50 : pg_cd 276 50 = (80, 266, 296, 0, 0) := by decide +kernel
theorem c_276_53 : pg_cd 276 53 = (37, 3, 0, 3, 84) := by decide +kernel
theorem c_276_56 : pg_cd 276 56 = (3, 2, 0, 6, 0) := by decide +kernel
theorem c_276_58 : pg_cd 276 58 = (36, 3, 0, 3, 79) := by decide +kernel
theorem c_276_61 : pg_cd 276 61 = (5, 1, 0, 0, 0) := by decide +kernel
theorem c_276_62 : pg_cd 276 62 = (5, 1, 0, 0, 0) := by decide +kernel
theorem c_276_63 : pg_cd 276 63 = (45, 12, 8, 0, 0) := by decide +kernel
theorem c_276_66 : pg_cd 276 66 = (1, 3, 0, 0, 5012) := by decide +kernel
theorem c_276_69 : pg_cd 276 69 = (1, 2, 0, 0, 8) := by decide +kernel
theorem c_276_71 : pg_cd 276 71 = (3, 2, 0, 5, 0) := by decide +kernel
theorem c_276_73 : pg_cd 276 73 = (12, 1, 0, 0, 0) := by decide +kernel
theorem c_276_74 : pg_cd 276 74 = (10, 1, 0, 0, 0) := by decide +kernel
theorem c_276_75 : pg_cd 276 75 = (50, 1, 0, 0, 0) := by decide +kernel
theorem c_276_76 : pg_cd 276 76 = (3, 2, 0, 7, 0) := by decide +kernel
theorem c_276_78 : pg_cd 276 78 = (80, 265, 299, 0, 0) := by decide +kernel
theorem c_276_81 : pg_cd 276 81 = (6, 2, 0, 8, 0) := by decide +kernel
theorem c_276_83 : pg_cd 276 83 = (5, 1, 0, 0, 0) := by decide +kernel
theorem c_276_84 : pg_cd 276 84 = (45, 12, 8, 0, 0) := by decide +kernel
theorem c_276_87 : pg_cd 276 87 = (3, 2, 0, 8, 0) := by decide +kernel
theorem c_276_89 : pg_cd 276 89 = (50, 1, 0, 0, 0) := by decide +kernel
theorem c_276_90 : pg_cd 276 90 = (1, 2, 0, 0, 7) := by decide +kernel
theorem c_276_92 : pg_cd 276 92 = (37, 3, 0, 1, 39) := by decide +kernel
theorem c_276_95 : pg_cd 276 95 = (3, 1, 0, 1, 0) := by decide +kernel
theorem c_276_96 : pg_cd 276 96 = (5, 1, 0, 0, 0) := by decide +kernel
theorem c_276_97 : pg_cd 276 97 = (45, 12, 8, 0, 0) := by decide +kernel
theorem c_276_100 : pg_cd 276 100 = (3, 2, 0, 8, 0) := by decide +kernel
theorem c_276_102 : pg_cd 276 102 = (1, 1, 0, 0, 1) := by decide +kernel
theorem c_276_103 : pg_cd 276 103 = (10, 1, 0, 0, 0) := by decide +kernel
theorem c_276_104 : pg_cd 276 104 = (50, 1, 0, 0, 0) := by decide +kernel
theorem c_276_105 : pg_cd 276 105 = (5, 1, 0, 0, 0) := by decide +kernel
theorem c_276_106 : pg_cd 276 106 = (45, 12, 8, 0, 0) := by decide +kernel
theorem c_276_109 : pg_cd 276 109 = (3, 2, 0, 8, 0) := by decide +kernel
theorem c_276_111 : pg_cd 276 111 = (1, 1, 0, 0, 2) := by decide +kernel
theorem c_276_112 : pg_cd 276 112 = (10, 1, 0, 0, 0) := by decide +kernel
theorem c_276_113 : pg_cd 276 113 = (50, 1, 0, 0, 0) := by decide +kernel
theorem c_276_114 : pg_cd 276 114 = (81, 196, 76, 0, 0) := by decide +kernel
theorem c_276_117 : pg_cd 276 117 = (36, 3, 0, 0, 14) := by decide +kernel
theorem c_276_120 : pg_cd 276 120 = (5, 1, 0, 0, 0) := by decide +kernel
theorem c_276_121 : pg_cd 276 121 = (45, 12, 8, 0, 0) := by decide +kernel
theorem c_276_124 : pg_cd 276 124 = (3, 2, 0, 8, 0) := by decide +kernel
theorem c_276_126 : pg_cd 276 126 = (1, 1, 0, 0, 3) := by decide +kernel
theorem c_276_127 : pg_cd 276 127 = (10, 1, 0, 0, 0) := by decide +kernel
theorem c_276_128 : pg_cd 276 128 = (50, 1, 0, 0, 0) := by decide +kernel
theorem c_276_129 : pg_cd 276 129 = (6, 2, 0, 6, 0) := by decide +kernel
theorem c_276_131 : pg_cd 276 131 = (9, 3, 0, 7, 1) := by decide +kernel
theorem c_276_134 : pg_cd 276 134 = (38, 3, 0, 0, (-106)) := by decide +kernel
theorem c_276_137 : pg_cd 276 137 = (3, 2, 0, 6, 0) := by decide +kernel
theorem c_276_139 : pg_cd 276 139 = (36, 3, 0, 3, 7) := by decide +kernel
theorem c_276_142 : pg_cd 276 142 = (1, 1, 0, 0, 0) := by decide +kernel
theorem c_276_143 : pg_cd 276 143 = (38, 3, 0, 0, 5) := by decide +kernel
theorem c_276_146 : pg_cd 276 146 = (3, 2, 0, 6, 0) := by decide +kernel
theorem c_276_148 : pg_cd 276 148 = (5, 1, 0, 0, 0) := by decide +kernel
theorem c_276_149 : pg_cd 276 149 = (1, 2, 0, 0, 8) := by decide +kernel
theorem c_276_151 : pg_cd 276 151 = (3, 1, 0, 2, 0) := by decide +kernel
theorem c_276_152 : pg_cd 276 152 = (3, 1, 0, 3, 0) := by decide +kernel
theorem c_276_153 : pg_cd 276 153 = (3, 2, 0, 4, 0) := by decide +kernel
theorem c_276_155 : pg_cd 276 155 = (80, 275, 340, 0, 0) := by decide +kernel
theorem c_276_158 : pg_cd 276 158 = (11, 1, 0, 0, 0) := by decide +kernel
theorem c_276_159 : pg_cd 276 159 = (5, 1, 0, 0, 0) := by decide +kernel
theorem c_276_160 : pg_cd 276 160 = (1, 2, 0, 0, 9) := by decide +kernel
theorem c_276_162 : pg_cd 276 162 = (3, 1, 0, 2, 0) := by decide +kernel
theorem c_276_163 : pg_cd 276 163 = (3, 1, 0, 3, 0) := by decide +kernel
theorem c_276_164 : pg_cd 276 164 = (3, 2, 0, 4, 0) := by decide +kernel
theorem c_276_166 : pg_cd 276 166 = (80, 275, 340, 0, 0) := by decide +kernel
theorem c_276_169 : pg_cd 276 169 = (11, 1, 0, 0, 0) := by decide +kernel
theorem c_276_170 : pg_cd 276 170 = (6, 2, 0, 6, 0) := by decide +kernel
theorem c_276_172 : pg_cd 276 172 = (3, 2, 0, 6, 0) := by decide +kernel
theorem c_276_174 : pg_cd 276 174 = (36, 3, 0, 3, 7) := by decide +kernel
theorem c_276_177 : pg_cd 276 177 = (1, 1, 0, 0, 0) := by decide +kernel
theorem c_276_178 : pg_cd 276 178 = (38, 3, 0, 0, 5) := by decide +kernel
theorem c_276_181 : pg_cd 276 181 = (3, 2, 0, 6, 0) := by decide +kernel
theorem c_276_183 : pg_cd 276 183 = (90, 0, 0, 0, 0) := by decide +kernel
theorem mi_276 : pg_mc 276 = 12 ∧ pg_na 276 = 4 ∧ pg_mx 276 = 9 := by decide +kernel
set_option maxRecDepth 20000 in
theorem u_276_0 {d : Nat} {S : zS} {σ τ : zI} {Q : zQ} {x1 : Int} {x2 : Int} {x3 : Int} {x4 : Int} (t : (Jl (σ 84)) ∧ (jv_T (σ 84)) ∧ (rg x2) ∧ (rg x3) ∧ (rg x4) ∧ ∀ (v6 : Int), v6 = r_fc (σ 84) 7 x2 x3 x4 → -1 ≤ v6 ∧ v6 < σ 84 6 → (rg v6) ∧ if (0 : Int) ≤ v6 then (wi (d + 5) 276 28 [.ref 83, .int (wI x1), .int (wI x2), .int (wI x3), .int (wI x4), .int (wI v6), .int (wI (-1)), .int (wI 0), .retAddr 0] [] S σ τ Q) else (wi (d + 5) 276 28 [.ref 83, .int (wI x1), .int (wI x2), .int (wI x3), .int (wI x4), .int (wI v6), .int (wI 60), .int (wI 0), .retAddr 0] [] S σ τ Q)) : wi (d + 5) 276 0 [.ref 83, .int (wI x1), .int (wI x2), .int (wI x3), .int (wI x4), .retAddr 0, .retAddr 0, .retAddr 0, .retAddr 0] [] S σ τ Q := by
  obtain ⟨p1, t⟩ := t
  obtain ⟨p2, t⟩ := t
  obtain ⟨r3, t⟩ := t
  obtain ⟨r4, t⟩ := t
  obtain ⟨r5, t⟩ := t
  refine i5 c_276_0 rfl (i1 c_276_1 (i3 c_276_3 rfl (i3 c_276_4 rfl (i3 c_276_5 rfl ?_))))
  refine i80 (As := [.int (wI 7), .int (wI x2), .int (wI x3), .int (wI x4)]) (rest := []) c_276_7 mi_268 rfl rfl (Nat.le_of_ble_eq_true rfl) (Nat.le_of_ble_eq_true rfl) (lo (c := 83) (kd := 112) (n := 0) rfl (by decide)) (q_268 p1 p2 (by decide) r3 r4 r5 (fun v6 q7 q8 => ?_))
  have t := t v6 q7 q8
  show wi (d + 5) 276 10 [.ref 83, .int (wI x1), .int (wI x2), .int (wI x3), .int (wI x4), .retAddr 0, .retAddr 0, .retAddr 0, .retAddr 0] [.int (wI v6)] S σ τ Q
  obtain ⟨r9, t⟩ := t
  refine i6 (L' := [.ref 83, .int (wI x1), .int (wI x2), .int (wI x3), .int (wI x4), .int (wI v6), .retAddr 0, .retAddr 0, .retAddr 0]) c_276_10 rfl (i3 c_276_12 rfl ?_)
  refine i36 c_276_14 r9 rfl (fun hc => ?_) (fun hc => ?_)
  · have t := iT t hc
    have ha10 : (0 : Int) ≤ v6 := hc
    refine i1 c_276_22 (i6 (L' := [.ref 83, .int (wI x1), .int (wI x2), .int (wI x3), .int (wI x4), .int (wI v6), .int (wI (-1)), .retAddr 0, .retAddr 0]) c_276_23 rfl (i1 c_276_25 (i6 (L' := [.ref 83, .int (wI x1), .int (wI x2), .int (wI x3), .int (wI x4), .int (wI v6), .int (wI (-1)), .int (wI 0), .retAddr 0]) c_276_26 rfl t)))
  · have t := iF t hc
    have ha10 : ¬ ((0 : Int) ≤ v6) := hc
    refine i1 c_276_17 (i38 c_276_19 rfl (i6 (L' := [.ref 83, .int (wI x1), .int (wI x2), .int (wI x3), .int (wI x4), .int (wI v6), .int (wI 60), .retAddr 0, .retAddr 0]) c_276_23 rfl (i1 c_276_25 (i6 (L' := [.ref 83, .int (wI x1), .int (wI x2), .int (wI x3), .int (wI x4), .int (wI v6), .int (wI 60), .int (wI 0), .retAddr 0]) c_276_26 rfl t))))
set_option maxRecDepth 20000 in
theorem u_276_28 {d : Nat} {S : zS} {σ τ : zI} {Q : zQ} {x1 : Int} {x2 : Int} {x3 : Int} {x4 : Int} {x5 : Int} {x6 : Int} {x7 : Int} {y8 : Value} (t : (rg x5) ∧ if x5 < 0 then ((rg x6) ∧ if (0 : Int) ≤ x6 then ((Jl (σ 84)) ∧ (jv_T (σ 84)) ∧ ((8 : Int) ≤ 8 ∧ 8 ≤ (9 : Int)) ∧ (rg x2) ∧ (rg x3) ∧ (rg x4) ∧ ∀ (v11 : Int), v11 = r_most (σ 84) 8 x2 x3 x4 → 0 ≤ v11 ∧ v11 ≤ 20 → ((8 : Int) ≤ 9 ∧ 9 ≤ (9 : Int)) ∧ ∀ (v15 : Int), v15 = r_most (σ 84) 9 x2 x3 x4 → 0 ≤ v15 ∧ v15 ≤ 20 → (rg ((x6 - v11) - v15)) ∧ if (0 : Int) ≤ ((x6 - v11) - v15) then (Q (some (.int (wI ((x6 - v11) - v15)))) S σ τ) else (Q (some (.int (wI 0))) S σ τ)) else ((Jl (σ 84)) ∧ (jv_T (σ 84)) ∧ ((8 : Int) ≤ 8 ∧ 8 ≤ (9 : Int)) ∧ (rg x2) ∧ (rg x3) ∧ (rg x4) ∧ ∀ (v26 : Int), v26 = r_most (σ 84) 8 x2 x3 x4 → 0 ≤ v26 ∧ v26 ≤ 20 → ((8 : Int) ≤ 9 ∧ 9 ≤ (9 : Int)) ∧ ∀ (v30 : Int), v30 = r_most (σ 84) 9 x2 x3 x4 → 0 ≤ v30 ∧ v30 ≤ 20 → (rg ((0 - v26) - v30)) ∧ if (0 : Int) ≤ ((0 - v26) - v30) then (Q (some (.int (wI ((0 - v26) - v30)))) S σ τ) else (Q (some (.int (wI 0))) S σ τ))) else ((0 ≤ 5012 + (8 * x5) ∧ 5012 + (8 * x5) < 112300) ∧ (0 ≤ 5500 + 840 * (σ 84 (5012 + (8 * x5))) ∧ 5500 + 840 * (σ 84 (5012 + (8 * x5))) < 112300) ∧ (rg x7) ∧ if (σ 84 (5500 + 840 * (σ 84 (5012 + (8 * x5))))) ≤ x7 then ((rg x6) ∧ if (0 : Int) ≤ x6 then ((Jl (σ 84)) ∧ (jv_T (σ 84)) ∧ ((8 : Int) ≤ 8 ∧ 8 ≤ (9 : Int)) ∧ (rg x2) ∧ (rg x3) ∧ (rg x4) ∧ ∀ (v48 : Int), v48 = r_most (σ 84) 8 x2 x3 x4 → 0 ≤ v48 ∧ v48 ≤ 20 → ((8 : Int) ≤ 9 ∧ 9 ≤ (9 : Int)) ∧ ∀ (v52 : Int), v52 = r_most (σ 84) 9 x2 x3 x4 → 0 ≤ v52 ∧ v52 ≤ 20 → (rg ((x6 - v48) - v52)) ∧ if (0 : Int) ≤ ((x6 - v48) - v52) then (Q (some (.int (wI ((x6 - v48) - v52)))) S σ τ) else (Q (some (.int (wI 0))) S σ τ)) else ((Jl (σ 84)) ∧ (jv_T (σ 84)) ∧ ((8 : Int) ≤ 8 ∧ 8 ≤ (9 : Int)) ∧ (rg x2) ∧ (rg x3) ∧ (rg x4) ∧ ∀ (v63 : Int), v63 = r_most (σ 84) 8 x2 x3 x4 → 0 ≤ v63 ∧ v63 ≤ 20 → ((8 : Int) ≤ 9 ∧ 9 ≤ (9 : Int)) ∧ ∀ (v67 : Int), v67 = r_most (σ 84) 9 x2 x3 x4 → 0 ≤ v67 ∧ v67 ≤ 20 → (rg ((0 - v63) - v67)) ∧ if (0 : Int) ≤ ((0 - v63) - v67) then (Q (some (.int (wI ((0 - v63) - v67)))) S σ τ) else (Q (some (.int (wI 0))) S σ τ))) else ((rg x6) ∧ if (0 : Int) ≤ x6 then ((Jl (σ 84)) ∧ (jv_T (σ 84)) ∧ ((8 : Int) ≤ 8 ∧ 8 ≤ (9 : Int)) ∧ (rg x2) ∧ (rg x3) ∧ (rg x4) ∧ ∀ (v81 : Int), v81 = r_most (σ 84) 8 x2 x3 x4 → 0 ≤ v81 ∧ v81 ≤ 20 → ((8 : Int) ≤ 9 ∧ 9 ≤ (9 : Int)) ∧ ∀ (v85 : Int), v85 = r_most (σ 84) 9 x2 x3 x4 → 0 ≤ v85 ∧ v85 ≤ 20 → (rg ((x6 - v81) - v85)) ∧ if (0 : Int) ≤ ((x6 - v81) - v85) then (Q (some (.int (wI ((x6 - v81) - v85)))) S σ τ) else (Q (some (.int (wI 0))) S σ τ)) else ((0 ≤ 5500 + 840 * (σ 84 (5012 + (8 * x5))) + 1 + 8 * x7 ∧ 5500 + 840 * (σ 84 (5012 + (8 * x5))) + 1 + 8 * x7 < 112300) ∧ if (σ 84 (5500 + 840 * (σ 84 (5012 + (8 * x5))) + 1 + 8 * x7)) = 7 then ((0 ≤ (5500 + 840 * (σ 84 (5012 + (8 * x5))) + 1 + 8 * x7) + 1 ∧ (5500 + 840 * (σ 84 (5012 + (8 * x5))) + 1 + 8 * x7) + 1 < 112300) ∧ (0 ≤ (5500 + 840 * (σ 84 (5012 + (8 * x5))) + 1 + 8 * x7) + 2 ∧ (5500 + 840 * (σ 84 (5012 + (8 * x5))) + 1 + 8 * x7) + 2 < 112300) ∧ (rg x1) ∧ if (σ 84 ((5500 + 840 * (σ 84 (5012 + (8 * x5))) + 1 + 8 * x7) + 1)) ≤ x1 ∧ x1 ≤ (σ 84 ((5500 + 840 * (σ 84 (5012 + (8 * x5))) + 1 + 8 * x7) + 2)) then ((0 ≤ (5500 + 840 * (σ 84 (5012 + (8 * x5))) + 1 + 8 * x7) + 3 ∧ (5500 + 840 * (σ 84 (5012 + (8 * x5))) + 1 + 8 * x7) + 3 < 112300) ∧ wi (d + 5) 276 28 [.ref 83, .int (wI x1), .int (wI x2), .int (wI x3), .int (wI x4), .int (wI x5), .int (wI (σ 84 ((5500 + 840 * (σ 84 (5012 + (8 * x5))) + 1 + 8 * x7) + 3))), .int (wI (x7 + 1)), .int (wI (5500 + 840 * (σ 84 (5012 + (8 * x5))) + 1 + 8 * x7))] [] S σ τ Q) else (wi (d + 5) 276 28 [.ref 83, .int (wI x1), .int (wI x2), .int (wI x3), .int (wI x4), .int (wI x5), .int (wI x6), .int (wI (x7 + 1)), .int (wI (5500 + 840 * (σ 84 (5012 + (8 * x5))) + 1 + 8 * x7))] [] S σ τ Q)) else (wi (d + 5) 276 28 [.ref 83, .int (wI x1), .int (wI x2), .int (wI x3), .int (wI x4), .int (wI x5), .int (wI x6), .int (wI (x7 + 1)), .int (wI (5500 + 840 * (σ 84 (5012 + (8 * x5))) + 1 + 8 * x7))] [] S σ τ Q))))) : wi (d + 5) 276 28 [.ref 83, .int (wI x1), .int (wI x2), .int (wI x3), .int (wI x4), .int (wI x5), .int (wI x6), .int (wI x7), y8] [] S σ τ Q := by
  obtain ⟨r1, t⟩ := t
  refine i3 c_276_28 rfl ?_
  refine i36 c_276_30 r1 rfl (fun hc => ?_) (fun hc => ?_)
  · have t := iT t hc
    have ha2 : x5 < 0 := hc
    obtain ⟨r3, t⟩ := t
    refine i3 c_276_137 rfl ?_
    refine i36 c_276_139 r3 rfl (fun hc => ?_) (fun hc => ?_)
    · have t := iT t hc
      have ha4 : (0 : Int) ≤ x6 := hc
      obtain ⟨p5, t⟩ := t
      obtain ⟨p6, t⟩ := t
      obtain ⟨p7, t⟩ := t
      obtain ⟨r8, t⟩ := t
      obtain ⟨r9, t⟩ := t
      obtain ⟨r10, t⟩ := t
      refine i3 c_276_146 rfl (i5 c_276_148 rfl (i1 c_276_149 (i3 c_276_151 rfl (i3 c_276_152 rfl (i3 c_276_153 rfl ?_)))))
      refine i80 (As := [.int (wI 8), .int (wI x2), .int (wI x3), .int (wI x4)]) (rest := [.int (wI x6)]) c_276_155 mi_275 rfl rfl (Nat.le_of_ble_eq_true rfl) (Nat.le_of_ble_eq_true rfl) (lo (c := 83) (kd := 112) (n := 0) rfl (by decide)) (q_275 p5 p6 p7 r8 r9 r10 (fun v11 q12 q13 => ?_))
      have t := t v11 q12 q13
      show wi (d + 5) 276 158 [.ref 83, .int (wI x1), .int (wI x2), .int (wI x3), .int (wI x4), .int (wI x5), .int (wI x6), .int (wI x7), y8] [.int (wI v11), .int (wI x6)] S σ τ Q
      obtain ⟨p14, t⟩ := t
      refine i11 c_276_158 (i5 c_276_159 rfl (i1 c_276_160 (i3 c_276_162 rfl (i3 c_276_163 rfl (i3 c_276_164 rfl ?_)))))
      refine i80 (As := [.int (wI 9), .int (wI x2), .int (wI x3), .int (wI x4)]) (rest := [.int (wI (x6 - v11))]) c_276_166 mi_275 rfl rfl (Nat.le_of_ble_eq_true rfl) (Nat.le_of_ble_eq_true rfl) (lo (c := 83) (kd := 112) (n := 0) rfl (by decide)) (q_275 p5 p6 p14 r8 r9 r10 (fun v15 q16 q17 => ?_))
      have t := t v15 q16 q17
      show wi (d + 5) 276 169 [.ref 83, .int (wI x1), .int (wI x2), .int (wI x3), .int (wI x4), .int (wI x5), .int (wI x6), .int (wI x7), y8] [.int (wI v15), .int (wI (x6 - v11))] S σ τ Q
      obtain ⟨r18, t⟩ := t
      refine i11 c_276_169 (i6 (L' := [.ref 83, .int (wI x1), .int (wI x2), .int (wI x3), .int (wI x4), .int (wI x5), .int (wI ((x6 - v11) - v15)), .int (wI x7), y8]) c_276_170 rfl (i3 c_276_172 rfl ?_))
      refine i36 c_276_174 r18 rfl (fun hc => ?_) (fun hc => ?_)
      · have t := iT t hc
        have ha19 : (0 : Int) ≤ ((x6 - v11) - v15) := hc
        refine i3 c_276_181 rfl ?_
        exact i90 c_276_183 t
      · have t := iF t hc
        have ha19 : ¬ ((0 : Int) ≤ ((x6 - v11) - v15)) := hc
        refine i1 c_276_177 (i38 c_276_178 rfl ?_)
        exact i90 c_276_183 t
    · have t := iF t hc
      have ha4 : ¬ ((0 : Int) ≤ x6) := hc
      obtain ⟨p20, t⟩ := t
      obtain ⟨p21, t⟩ := t
      obtain ⟨p22, t⟩ := t
      obtain ⟨r23, t⟩ := t
      obtain ⟨r24, t⟩ := t
      obtain ⟨r25, t⟩ := t
      refine i1 c_276_142 (i38 c_276_143 rfl (i5 c_276_148 rfl (i1 c_276_149 (i3 c_276_151 rfl (i3 c_276_152 rfl (i3 c_276_153 rfl ?_))))))
      refine i80 (As := [.int (wI 8), .int (wI x2), .int (wI x3), .int (wI x4)]) (rest := [.int (wI 0)]) c_276_155 mi_275 rfl rfl (Nat.le_of_ble_eq_true rfl) (Nat.le_of_ble_eq_true rfl) (lo (c := 83) (kd := 112) (n := 0) rfl (by decide)) (q_275 p20 p21 p22 r23 r24 r25 (fun v26 q27 q28 => ?_))
      have t := t v26 q27 q28
      show wi (d + 5) 276 158 [.ref 83, .int (wI x1), .int (wI x2), .int (wI x3), .int (wI x4), .int (wI x5), .int (wI x6), .int (wI x7), y8] [.int (wI v26), .int (wI 0)] S σ τ Q
      obtain ⟨p29, t⟩ := t
      refine i11 c_276_158 (i5 c_276_159 rfl (i1 c_276_160 (i3 c_276_162 rfl (i3 c_276_163 rfl (i3 c_276_164 rfl ?_)))))
      refine i80 (As := [.int (wI 9), .int (wI x2), .int (wI x3), .int (wI x4)]) (rest := [.int (wI (0 - v26))]) c_276_166 mi_275 rfl rfl (Nat.le_of_ble_eq_true rfl) (Nat.le_of_ble_eq_true rfl) (lo (c := 83) (kd := 112) (n := 0) rfl (by decide)) (q_275 p20 p21 p29 r23 r24 r25 (fun v30 q31 q32 => ?_))
      have t := t v30 q31 q32
      show wi (d + 5) 276 169 [.ref 83, .int (wI x1), .int (wI x2), .int (wI x3), .int (wI x4), .int (wI x5), .int (wI x6), .int (wI x7), y8] [.int (wI v30), .int (wI (0 - v26))] S σ τ Q
      obtain ⟨r33, t⟩ := t
      refine i11 c_276_169 (i6 (L' := [.ref 83, .int (wI x1), .int (wI x2), .int (wI x3), .int (wI x4), .int (wI x5), .int (wI ((0 - v26) - v30)), .int (wI x7), y8]) c_276_170 rfl (i3 c_276_172 rfl ?_))
      refine i36 c_276_174 r33 rfl (fun hc => ?_) (fun hc => ?_)
      · have t := iT t hc
        have ha34 : (0 : Int) ≤ ((0 - v26) - v30) := hc
        refine i3 c_276_181 rfl ?_
        exact i90 c_276_183 t
      · have t := iF t hc
        have ha34 : ¬ ((0 : Int) ≤ ((0 - v26) - v30)) := hc
        refine i1 c_276_177 (i38 c_276_178 rfl ?_)
        exact i90 c_276_183 t
  · have t := iF t hc
    have ha2 : ¬ (x5 < 0) := hc
    obtain ⟨r35, t⟩ := t
    refine i3 c_276_33 rfl (i5 c_276_35 rfl (i5 c_276_36 rfl (i45 c_276_37 (lo (c := 83) (kd := 112) (n := 0) rfl (by decide)) (lro (c := 83) (k := 0) (j := 84) (by decide)) (i1 c_276_40 (i1 c_276_43 (i3 c_276_45 rfl (i12 c_276_47 (i10 c_276_48 (wi_ok (fun K36 => ?_))))))))))
    obtain ⟨p37, t⟩ := t
    refine i50 (v := σ 84 (5012 + (8 * x5))) c_276_49 (lo (c := 84) (kd := 0) (n := 112300) rfl (by decide)) (by decide) r35 rfl ?_
    refine i80 (As := [.int (wI (σ 84 (5012 + (8 * x5))))]) (rest := [.int (wI x7)]) c_276_50 mi_266 rfl rfl (Nat.le_of_ble_eq_true rfl) (Nat.le_of_ble_eq_true rfl) (lo (c := 83) (kd := 112) (n := 0) rfl (by decide)) (q_266 p37 ?_)
    show wi (d + 5) 276 53 [.ref 83, .int (wI x1), .int (wI x2), .int (wI x3), .int (wI x4), .int (wI x5), .int (wI x6), .int (wI x7), y8] [.int (wI (σ 84 (5500 + 840 * (σ 84 (5012 + (8 * x5)))))), .int (wI x7)] S σ τ Q
    obtain ⟨r38, t⟩ := t
    refine i37 c_276_53 r38 (rge_ K36 rfl) rfl (fun hc => ?_) (fun hc => ?_)
    · have t := iT t hc
      have ha39 : (σ 84 (5500 + 840 * (σ 84 (5012 + (8 * x5))))) ≤ x7 := hc
      obtain ⟨r40, t⟩ := t
      refine i3 c_276_137 rfl ?_
      refine i36 c_276_139 r40 rfl (fun hc => ?_) (fun hc => ?_)
      · have t := iT t hc
        have ha41 : (0 : Int) ≤ x6 := hc
        obtain ⟨p42, t⟩ := t
        obtain ⟨p43, t⟩ := t
        obtain ⟨p44, t⟩ := t
        obtain ⟨r45, t⟩ := t
        obtain ⟨r46, t⟩ := t
        obtain ⟨r47, t⟩ := t
        refine i3 c_276_146 rfl (i5 c_276_148 rfl (i1 c_276_149 (i3 c_276_151 rfl (i3 c_276_152 rfl (i3 c_276_153 rfl ?_)))))
        refine i80 (As := [.int (wI 8), .int (wI x2), .int (wI x3), .int (wI x4)]) (rest := [.int (wI x6)]) c_276_155 mi_275 rfl rfl (Nat.le_of_ble_eq_true rfl) (Nat.le_of_ble_eq_true rfl) (lo (c := 83) (kd := 112) (n := 0) rfl (by decide)) (q_275 p42 p43 p44 r45 r46 r47 (fun v48 q49 q50 => ?_))
        have t := t v48 q49 q50
        show wi (d + 5) 276 158 [.ref 83, .int (wI x1), .int (wI x2), .int (wI x3), .int (wI x4), .int (wI x5), .int (wI x6), .int (wI x7), y8] [.int (wI v48), .int (wI x6)] S σ τ Q
        obtain ⟨p51, t⟩ := t
        refine i11 c_276_158 (i5 c_276_159 rfl (i1 c_276_160 (i3 c_276_162 rfl (i3 c_276_163 rfl (i3 c_276_164 rfl ?_)))))
        refine i80 (As := [.int (wI 9), .int (wI x2), .int (wI x3), .int (wI x4)]) (rest := [.int (wI (x6 - v48))]) c_276_166 mi_275 rfl rfl (Nat.le_of_ble_eq_true rfl) (Nat.le_of_ble_eq_true rfl) (lo (c := 83) (kd := 112) (n := 0) rfl (by decide)) (q_275 p42 p43 p51 r45 r46 r47 (fun v52 q53 q54 => ?_))
        have t := t v52 q53 q54
        show wi (d + 5) 276 169 [.ref 83, .int (wI x1), .int (wI x2), .int (wI x3), .int (wI x4), .int (wI x5), .int (wI x6), .int (wI x7), y8] [.int (wI v52), .int (wI (x6 - v48))] S σ τ Q
        obtain ⟨r55, t⟩ := t
        refine i11 c_276_169 (i6 (L' := [.ref 83, .int (wI x1), .int (wI x2), .int (wI x3), .int (wI x4), .int (wI x5), .int (wI ((x6 - v48) - v52)), .int (wI x7), y8]) c_276_170 rfl (i3 c_276_172 rfl ?_))
        refine i36 c_276_174 r55 rfl (fun hc => ?_) (fun hc => ?_)
        · have t := iT t hc
          have ha56 : (0 : Int) ≤ ((x6 - v48) - v52) := hc
          refine i3 c_276_181 rfl ?_
          exact i90 c_276_183 t
        · have t := iF t hc
          have ha56 : ¬ ((0 : Int) ≤ ((x6 - v48) - v52)) := hc
          refine i1 c_276_177 (i38 c_276_178 rfl ?_)
          exact i90 c_276_183 t
      · have t := iF t hc
        have ha41 : ¬ ((0 : Int) ≤ x6) := hc
        obtain ⟨p57, t⟩ := t
        obtain ⟨p58, t⟩ := t
        obtain ⟨p59, t⟩ := t
        obtain ⟨r60, t⟩ := t
        obtain ⟨r61, t⟩ := t
        obtain ⟨r62, t⟩ := t
        refine i1 c_276_142 (i38 c_276_143 rfl (i5 c_276_148 rfl (i1 c_276_149 (i3 c_276_151 rfl (i3 c_276_152 rfl (i3 c_276_153 rfl ?_))))))
        refine i80 (As := [.int (wI 8), .int (wI x2), .int (wI x3), .int (wI x4)]) (rest := [.int (wI 0)]) c_276_155 mi_275 rfl rfl (Nat.le_of_ble_eq_true rfl) (Nat.le_of_ble_eq_true rfl) (lo (c := 83) (kd := 112) (n := 0) rfl (by decide)) (q_275 p57 p58 p59 r60 r61 r62 (fun v63 q64 q65 => ?_))
        have t := t v63 q64 q65
        show wi (d + 5) 276 158 [.ref 83, .int (wI x1), .int (wI x2), .int (wI x3), .int (wI x4), .int (wI x5), .int (wI x6), .int (wI x7), y8] [.int (wI v63), .int (wI 0)] S σ τ Q
        obtain ⟨p66, t⟩ := t
        refine i11 c_276_158 (i5 c_276_159 rfl (i1 c_276_160 (i3 c_276_162 rfl (i3 c_276_163 rfl (i3 c_276_164 rfl ?_)))))
        refine i80 (As := [.int (wI 9), .int (wI x2), .int (wI x3), .int (wI x4)]) (rest := [.int (wI (0 - v63))]) c_276_166 mi_275 rfl rfl (Nat.le_of_ble_eq_true rfl) (Nat.le_of_ble_eq_true rfl) (lo (c := 83) (kd := 112) (n := 0) rfl (by decide)) (q_275 p57 p58 p66 r60 r61 r62 (fun v67 q68 q69 => ?_))
        have t := t v67 q68 q69
        show wi (d + 5) 276 169 [.ref 83, .int (wI x1), .int (wI x2), .int (wI x3), .int (wI x4), .int (wI x5), .int (wI x6), .int (wI x7), y8] [.int (wI v67), .int (wI (0 - v63))] S σ τ Q
        obtain ⟨r70, t⟩ := t
        refine i11 c_276_169 (i6 (L' := [.ref 83, .int (wI x1), .int (wI x2), .int (wI x3), .int (wI x4), .int (wI x5), .int (wI ((0 - v63) - v67)), .int (wI x7), y8]) c_276_170 rfl (i3 c_276_172 rfl ?_))
        refine i36 c_276_174 r70 rfl (fun hc => ?_) (fun hc => ?_)
        · have t := iT t hc
          have ha71 : (0 : Int) ≤ ((0 - v63) - v67) := hc
          refine i3 c_276_181 rfl ?_
          exact i90 c_276_183 t
        · have t := iF t hc
          have ha71 : ¬ ((0 : Int) ≤ ((0 - v63) - v67)) := hc
          refine i1 c_276_177 (i38 c_276_178 rfl ?_)
          exact i90 c_276_183 t
    · have t := iF t hc
      have ha39 : ¬ ((σ 84 (5500 + 840 * (σ 84 (5012 + (8 * x5))))) ≤ x7) := hc
      obtain ⟨r72, t⟩ := t
      refine i3 c_276_56 rfl ?_
      refine i36 c_276_58 r72 rfl (fun hc => ?_) (fun hc => ?_)
      · have t := iT t hc
        have ha73 : (0 : Int) ≤ x6 := hc
        refine i3 c_276_137 rfl ?_
        refine i36 c_276_139 r72 rfl (fun _ => ?_) (fun hc => absurd (show (0 : Int) ≤ x6 by omega) hc)
        obtain ⟨p75, t⟩ := t
        obtain ⟨p76, t⟩ := t
        obtain ⟨p77, t⟩ := t
        obtain ⟨r78, t⟩ := t
        obtain ⟨r79, t⟩ := t
        obtain ⟨r80, t⟩ := t
        refine i3 c_276_146 rfl (i5 c_276_148 rfl (i1 c_276_149 (i3 c_276_151 rfl (i3 c_276_152 rfl (i3 c_276_153 rfl ?_)))))
        refine i80 (As := [.int (wI 8), .int (wI x2), .int (wI x3), .int (wI x4)]) (rest := [.int (wI x6)]) c_276_155 mi_275 rfl rfl (Nat.le_of_ble_eq_true rfl) (Nat.le_of_ble_eq_true rfl) (lo (c := 83) (kd := 112) (n := 0) rfl (by decide)) (q_275 p75 p76 p77 r78 r79 r80 (fun v81 q82 q83 => ?_))
        have t := t v81 q82 q83
        show wi (d + 5) 276 158 [.ref 83, .int (wI x1), .int (wI x2), .int (wI x3), .int (wI x4), .int (wI x5), .int (wI x6), .int (wI x7), y8] [.int (wI v81), .int (wI x6)] S σ τ Q
        obtain ⟨p84, t⟩ := t
        refine i11 c_276_158 (i5 c_276_159 rfl (i1 c_276_160 (i3 c_276_162 rfl (i3 c_276_163 rfl (i3 c_276_164 rfl ?_)))))
        refine i80 (As := [.int (wI 9), .int (wI x2), .int (wI x3), .int (wI x4)]) (rest := [.int (wI (x6 - v81))]) c_276_166 mi_275 rfl rfl (Nat.le_of_ble_eq_true rfl) (Nat.le_of_ble_eq_true rfl) (lo (c := 83) (kd := 112) (n := 0) rfl (by decide)) (q_275 p75 p76 p84 r78 r79 r80 (fun v85 q86 q87 => ?_))
        have t := t v85 q86 q87
        show wi (d + 5) 276 169 [.ref 83, .int (wI x1), .int (wI x2), .int (wI x3), .int (wI x4), .int (wI x5), .int (wI x6), .int (wI x7), y8] [.int (wI v85), .int (wI (x6 - v81))] S σ τ Q
        obtain ⟨r88, t⟩ := t
        refine i11 c_276_169 (i6 (L' := [.ref 83, .int (wI x1), .int (wI x2), .int (wI x3), .int (wI x4), .int (wI x5), .int (wI ((x6 - v81) - v85)), .int (wI x7), y8]) c_276_170 rfl (i3 c_276_172 rfl ?_))
        refine i36 c_276_174 r88 rfl (fun hc => ?_) (fun hc => ?_)
        · have t := iT t hc
          have ha89 : (0 : Int) ≤ ((x6 - v81) - v85) := hc
          refine i3 c_276_181 rfl ?_
          exact i90 c_276_183 t
        · have t := iF t hc
          have ha89 : ¬ ((0 : Int) ≤ ((x6 - v81) - v85)) := hc
          refine i1 c_276_177 (i38 c_276_178 rfl ?_)
          exact i90 c_276_183 t
      · have t := iF t hc
        have ha73 : ¬ ((0 : Int) ≤ x6) := hc
        refine i5 c_276_61 rfl (i5 c_276_62 rfl (i45 c_276_63 (lo (c := 83) (kd := 112) (n := 0) rfl (by decide)) (lro (c := 83) (k := 0) (j := 84) (by decide)) (i1 c_276_66 (i1 c_276_69 (i3 c_276_71 rfl (i12 c_276_73 (i10 c_276_74 (i50 (v := σ 84 (5012 + (8 * x5))) c_276_75 (lo (c := 84) (kd := 0) (n := 112300) rfl (by decide)) (by decide) r35 rfl (i3 c_276_76 rfl ?_)))))))))
        refine i80 (As := [.int (wI (σ 84 (5012 + (8 * x5)))), .int (wI x7)]) (rest := []) c_276_78 mi_265 rfl rfl (Nat.le_of_ble_eq_true rfl) (Nat.le_of_ble_eq_true rfl) (lo (c := 83) (kd := 112) (n := 0) rfl (by decide)) (q_265 ?_)
        show wi (d + 5) 276 81 [.ref 83, .int (wI x1), .int (wI x2), .int (wI x3), .int (wI x4), .int (wI x5), .int (wI x6), .int (wI x7), y8] [.int (wI (5500 + 840 * (σ 84 (5012 + (8 * x5))) + 1 + 8 * x7))] S σ τ Q
        obtain ⟨r90, t⟩ := t
        refine i6 (L' := [.ref 83, .int (wI x1), .int (wI x2), .int (wI x3), .int (wI x4), .int (wI x5), .int (wI x6), .int (wI x7), .int (wI (5500 + 840 * (σ 84 (5012 + (8 * x5))) + 1 + 8 * x7))]) c_276_81 rfl (i5 c_276_83 rfl (i45 c_276_84 (lo (c := 83) (kd := 112) (n := 0) rfl (by decide)) (lro (c := 83) (k := 0) (j := 84) (by decide)) (i3 c_276_87 rfl (i50 (v := σ 84 (5500 + 840 * (σ 84 (5012 + (8 * x5))) + 1 + 8 * x7)) c_276_89 (lo (c := 84) (kd := 0) (n := 112300) rfl (by decide)) (by decide) r90 rfl (i1 c_276_90 ?_)))))
        refine i37 c_276_92 (rge_ K36 rfl) (by decide) rfl (fun hc => ?_) (fun hc => ?_)
        · have t := iF t hc
          have ha91 : ¬ ((σ 84 (5500 + 840 * (σ 84 (5012 + (8 * x5))) + 1 + 8 * x7)) = 7) := hc
          refine i9 (L' := [.ref 83, .int (wI x1), .int (wI x2), .int (wI x3), .int (wI x4), .int (wI x5), .int (wI x6), .int (wI (x7 + 1)), .int (wI (5500 + 840 * (σ 84 (5012 + (8 * x5))) + 1 + 8 * x7))]) c_276_131 rfl rfl (i38 c_276_134 rfl t)
        · have t := iT t (Decidable.not_not.mp hc)
          have ha91 : (σ 84 (5500 + 840 * (σ 84 (5012 + (8 * x5))) + 1 + 8 * x7)) = 7 := Decidable.not_not.mp hc
          obtain ⟨r92, t⟩ := t
          obtain ⟨r93, t⟩ := t
          obtain ⟨r94, t⟩ := t
          refine i3 c_276_95 rfl (i5 c_276_96 rfl (i45 c_276_97 (lo (c := 83) (kd := 112) (n := 0) rfl (by decide)) (lro (c := 83) (k := 0) (j := 84) (by decide)) (i3 c_276_100 rfl (i1 c_276_102 (i10 c_276_103 (i50 (v := σ 84 ((5500 + 840 * (σ 84 (5012 + (8 * x5))) + 1 + 8 * x7) + 1)) c_276_104 (lo (c := 84) (kd := 0) (n := 112300) rfl (by decide)) (by decide) r92 rfl (i5 c_276_105 rfl (i45 c_276_106 (lo (c := 83) (kd := 112) (n := 0) rfl (by decide)) (lro (c := 83) (k := 0) (j := 84) (by decide)) (i3 c_276_109 rfl (i1 c_276_111 (i10 c_276_112 (i50 (v := σ 84 ((5500 + 840 * (σ 84 (5012 + (8 * x5))) + 1 + 8 * x7) + 2)) c_276_113 (lo (c := 84) (kd := 0) (n := 112300) rfl (by decide)) (by decide) r93 rfl ?_))))))))))))
          refine i81 (As := [.int (wI x1), .int (wI (σ 84 ((5500 + 840 * (σ 84 (5012 + (8 * x5))) + 1 + 8 * x7) + 1))), .int (wI (σ 84 ((5500 + 840 * (σ 84 (5012 + (8 * x5))) + 1 + 8 * x7) + 2)))]) (rest := []) c_276_114 mi_196 rfl rfl (Nat.le_of_ble_eq_true rfl) (Nat.le_of_ble_eq_true rfl) (q_196 r94 (rge_ K36 rfl) (rge_ K36 rfl) ?_)
          show wi (d + 5) 276 117 [.ref 83, .int (wI x1), .int (wI x2), .int (wI x3), .int (wI x4), .int (wI x5), .int (wI x6), .int (wI x7), .int (wI (5500 + 840 * (σ 84 (5012 + (8 * x5))) + 1 + 8 * x7))] [.int (wI (if (σ 84 ((5500 + 840 * (σ 84 (5012 + (8 * x5))) + 1 + 8 * x7) + 1)) ≤ x1 ∧ x1 ≤ (σ 84 ((5500 + 840 * (σ 84 (5012 + (8 * x5))) + 1 + 8 * x7) + 2)) then 1 else 0))] S σ τ Q
          refine i36e c_276_117 rfl (fun hc => ?_) (fun hc => ?_)
          · have t := iT t hc
            have ha95 : (σ 84 ((5500 + 840 * (σ 84 (5012 + (8 * x5))) + 1 + 8 * x7) + 1)) ≤ x1 ∧ x1 ≤ (σ 84 ((5500 + 840 * (σ 84 (5012 + (8 * x5))) + 1 + 8 * x7) + 2)) := hc
            obtain ⟨r96, t⟩ := t
            refine i5 c_276_120 rfl (i45 c_276_121 (lo (c := 83) (kd := 112) (n := 0) rfl (by decide)) (lro (c := 83) (k := 0) (j := 84) (by decide)) (i3 c_276_124 rfl (i1 c_276_126 (i10 c_276_127 (i50 (v := σ 84 ((5500 + 840 * (σ 84 (5012 + (8 * x5))) + 1 + 8 * x7) + 3)) c_276_128 (lo (c := 84) (kd := 0) (n := 112300) rfl (by decide)) (by decide) r96 rfl (i6 (L' := [.ref 83, .int (wI x1), .int (wI x2), .int (wI x3), .int (wI x4), .int (wI x5), .int (wI (σ 84 ((5500 + 840 * (σ 84 (5012 + (8 * x5))) + 1 + 8 * x7) + 3))), .int (wI x7), .int (wI (5500 + 840 * (σ 84 (5012 + (8 * x5))) + 1 + 8 * x7))]) c_276_129 rfl (i9 (L' := [.ref 83, .int (wI x1), .int (wI x2), .int (wI x3), .int (wI x4), .int (wI x5), .int (wI (σ 84 ((5500 + 840 * (σ 84 (5012 + (8 * x5))) + 1 + 8 * x7) + 3))), .int (wI (x7 + 1)), .int (wI (5500 + 840 * (σ 84 (5012 + (8 * x5))) + 1 + 8 * x7))]) c_276_131 rfl rfl (i38 c_276_134 rfl t))))))))
          · have t := iF t hc
            have ha95 : ¬ ((σ 84 ((5500 + 840 * (σ 84 (5012 + (8 * x5))) + 1 + 8 * x7) + 1)) ≤ x1 ∧ x1 ≤ (σ 84 ((5500 + 840 * (σ 84 (5012 + (8 * x5))) + 1 + 8 * x7) + 2))) := hc
            refine i9 (L' := [.ref 83, .int (wI x1), .int (wI x2), .int (wI x3), .int (wI x4), .int (wI x5), .int (wI x6), .int (wI (x7 + 1)), .int (wI (5500 + 840 * (σ 84 (5012 + (8 * x5))) + 1 + 8 * x7))]) c_276_131 rfl rfl (i38 c_276_134 rfl t)
theorem q_276 {d : Nat} {S : zS} {σ τ : zI} {Q : zQ} {age : Int} {mill : Int} {week : Int} {known : Int} (p0 : Jl (σ 84)) (p1 : jv_T (σ 84)) (p2 : rg age) (p3 : rg mill) (p4 : rg week) (p5 : rg known) (t : ∀ (v : Int), v = r_hours (σ 84) age mill week known → 0 ≤ v ∧ v ≤ 80 → Q (some (.int (wI v))) S σ τ) : wc (d + 5) 276 [.ref 83, .int (wI age), .int (wI mill), .int (wI week), .int (wI known)] S σ τ Q := by
  have hC := lC p0
  unfold jv_C at hC
  have hF := lF p0
  have fb := r_fc_b (a := σ 84) (sort := 7) (mill := mill) (week := week) (known := known) (by omega)
  have ba : 0 ≤ r_fc (σ 84) 7 mill week known → ∀ n, 0 ≤ n → n ≤ σ 84 (5500 + 840 * σ 84 (5012 + 8 * r_fc (σ 84) 7 mill week known)) → -1 ≤ r_ag (σ 84) (σ 84 (5012 + 8 * r_fc (σ 84) 7 mill week known)) age n ∧ r_ag (σ 84) (σ 84 (5012 + 8 * r_fc (σ 84) 7 mill week known)) age n ≤ 80 := fun h n n0 n1 => by
    have q := hF _ h fb.2.1
    have jt := p1 (σ 84 (5012 + 8 * r_fc (σ 84) 7 mill week known)) (by omega) (by omega)
    exact r_ag_b n0 (fun c c0 c1 c2 => ((jt.2 c c0 (by omega)).2.2.2.1 c2).2.2)
  have bs : -1 ≤ r_ages (σ 84) age mill week known ∧ r_ages (σ 84) age mill week known ≤ 80 := by
    unfold r_ages
    split
    · omega
    · next h =>
      have q := hF _ (by omega) fb.2.1
      have jt := p1 (σ 84 (5012 + 8 * r_fc (σ 84) 7 mill week known)) (by omega) (by omega)
      exact ba (by omega) _ (by omega) (by omega)
  refine wc_of mi_276 rfl (u_276_0 ⟨p0, p1, p3, p4, p5, ?_⟩)
  intro f hf hb
  subst hf
  have hh : ∀ x, x = (if r_ages (σ 84) age mill week known < 0 then 0 else r_ages (σ 84) age mill week known) → r_hours (σ 84) age mill week known = if x - r_most (σ 84) 8 mill week known - r_most (σ 84) 9 mill week known < 0 then 0 else x - r_most (σ 84) 8 mill week known - r_most (σ 84) 9 mill week known := fun x e => by rw [e]; rfl
  generalize r_hours (σ 84) age mill week known = H at hh t
  have hA : r_ages (σ 84) age mill week known = if r_fc (σ 84) 7 mill week known < 0 then 60 else r_ag (σ 84) (σ 84 (5012 + 8 * r_fc (σ 84) 7 mill week known)) age (σ 84 (5500 + 840 * σ 84 (5012 + 8 * r_fc (σ 84) 7 mill week known))) := rfl
  generalize r_ages (σ 84) age mill week known = A at hh hA bs
  generalize hfe : r_fc (σ 84) 7 mill week known = f at *
  refine ⟨by omega, ?_⟩
  by_cases c : f < 0
  · rw [if_pos c] at hA
    rw [if_neg (by omega)]
    refine u_276_28 ⟨by omega, ?_⟩
    rw [if_pos c]
    refine ⟨by omega, ?_⟩
    rw [if_pos (by omega)]
    have hx := hh 60 (by rw [hA]; rfl)
    refine ⟨p0, p1, by omega, p3, p4, p5, ?_⟩
    intro m8 e8 b8
    refine ⟨by omega, ?_⟩
    intro m9 e9 b9
    rw [← e8, ← e9] at hx
    refine ⟨by omega, ?_⟩
    exact ifI (fun e => t _ (by rw [hx, if_neg (by omega)]) (by omega)) (fun e => t _ (by rw [hx, if_pos (by omega)]) (by omega))
  · rw [if_neg c] at hA
    rw [if_pos (by omega)]
    have q := hF f (by omega) hb.2
    have jt := p1 (σ 84 (5012 + 8 * f)) (by omega) (by omega)
    have key : ∀ i, 0 ≤ i → i ≤ σ 84 (5500 + 840 * σ 84 (5012 + 8 * f)) → ∀ v y, v = r_ag (σ 84) (σ 84 (5012 + 8 * f)) age i → wi (d + 5) 276 28 [.ref 83, .int (wI age), .int (wI mill), .int (wI week), .int (wI known), .int (wI f), .int (wI v), .int (wI i), y] [] S σ τ Q := by
      refine lp_up (fun i i0 i1 ih => ?_)
      intro v y hv
      have bi := ba (by omega) i i0 i1
      rw [← hv] at bi
      refine u_276_28 ⟨by omega, ?_⟩
      rw [if_neg c]
      refine ⟨by omega, by omega, by omega, ?_⟩
      refine ifI (fun e => ?_) (fun e => ?_)
      · have : i = σ 84 (5500 + 840 * σ 84 (5012 + 8 * f)) := by omega
        rw [← this, ← hv] at hA
        refine ⟨by omega, ?_⟩
        refine ifI (fun e2 => ?_) (fun e2 => ?_)
        · have hx := hh v (by rw [hA, if_neg (by omega)])
          refine ⟨p0, p1, by omega, p3, p4, p5, ?_⟩
          intro m8 e8 b8
          refine ⟨by omega, ?_⟩
          intro m9 e9 b9
          rw [← e8, ← e9] at hx
          refine ⟨by omega, ?_⟩
          exact ifI (fun e => t _ (by rw [hx, if_neg (by omega)]) (by omega)) (fun e => t _ (by rw [hx, if_pos (by omega)]) (by omega))
        · have hx := hh 0 (by rw [hA, if_pos (by omega)])
          refine ⟨p0, p1, by omega, p3, p4, p5, ?_⟩
          intro m8 e8 b8
          refine ⟨by omega, ?_⟩
          intro m9 e9 b9
          rw [← e8, ← e9] at hx
          refine ⟨by omega, ?_⟩
          exact ifI (fun e => t _ (by rw [hx, if_neg (by omega)]) (by omega)) (fun e => t _ (by rw [hx, if_pos (by omega)]) (by omega))
      · refine ⟨by omega, ?_⟩
        refine ifI (fun e2 => ?_) (fun e2 => ?_)
        · rw [r_ag_k i0 (by omega) i1, ← hv] at hA
          have hx := hh v (by rw [hA, if_neg (by omega)])
          refine ⟨p0, p1, by omega, p3, p4, p5, ?_⟩
          intro m8 e8 b8
          refine ⟨by omega, ?_⟩
          intro m9 e9 b9
          rw [← e8, ← e9] at hx
          refine ⟨by omega, ?_⟩
          exact ifI (fun e => t _ (by rw [hx, if_neg (by omega)]) (by omega)) (fun e => t _ (by rw [hx, if_pos (by omega)]) (by omega))
        · have ih := ih (by omega)
          rw [r_ag_s i0, ← hv, if_neg e2] at ih
          refine ⟨by omega, ?_⟩
          have hv1 : v = -1 := by omega
          refine ifI (fun e3 => ?_) (fun e3 => ?_)
          · refine ⟨by omega, by omega, by omega, ?_⟩
            refine ifI (fun e4 => ?_) (fun e4 => ?_)
            · rw [if_pos ⟨e3, e4⟩] at ih
              exact ⟨by omega, ih _ _ rfl⟩
            · rw [if_neg (fun h => e4 h.2)] at ih
              rw [hv1]; exact ih _ _ rfl
          · rw [if_neg (fun h => e3 h.1)] at ih
            rw [hv1]; exact ih _ _ rfl
    exact key 0 (by omega) (by omega) (-1) _ rfl
