/-! ===== a WEEK of the class: PAYS and HOURS (segments printed by wip/whole, contracts own work) ===== -/
-- method 111: MillTown$Week.canRun(LMillTown$Town;I)Z
theorem c_111_0 : pg_cd 111 0 = (5, 1, 0, 0, 0) := by decide +kernel
theorem c_111_1 : pg_cd 111 1 = (45, 8, 115, 2, 0) := by decide +kernel
theorem c_111_4 : pg_cd 111 4 = (3, 1, 0, 1, 0) := by decide +kernel
theorem c_111_5 : pg_cd 111 5 = (1, 1, 0, 0, 4) := by decide +kernel
theorem c_111_6 : pg_cd 111 6 = (80, 55, 118, 0, 0) := by decide +kernel
theorem c_111_9 : pg_cd 111 9 = (36, 3, 0, 1, 19) := by decide +kernel
theorem c_111_12 : pg_cd 111 12 = (5, 1, 0, 0, 0) := by decide +kernel
theorem c_111_13 : pg_cd 111 13 = (45, 8, 115, 2, 0) := by decide +kernel
theorem c_111_16 : pg_cd 111 16 = (3, 1, 0, 1, 0) := by decide +kernel
theorem c_111_17 : pg_cd 111 17 = (1, 1, 0, 0, 5) := by decide +kernel
theorem c_111_18 : pg_cd 111 18 = (80, 55, 118, 0, 0) := by decide +kernel
theorem c_111_21 : pg_cd 111 21 = (36, 3, 0, 1, 7) := by decide +kernel
theorem c_111_24 : pg_cd 111 24 = (1, 1, 0, 0, 1) := by decide +kernel
theorem c_111_25 : pg_cd 111 25 = (38, 3, 0, 0, 4) := by decide +kernel
theorem c_111_28 : pg_cd 111 28 = (1, 1, 0, 0, 0) := by decide +kernel
theorem c_111_29 : pg_cd 111 29 = (91, 0, 0, 0, 0) := by decide +kernel
theorem mi_111 : pg_mc 111 = 9 ∧ pg_na 111 = 2 ∧ pg_mx 111 = 2 := by decide +kernel
set_option maxRecDepth 20000 in
theorem u_111_0 {d : Nat} {S : zS} {σ τ : zI} {Q : zQ} {x0 : Nat} {x1 : Int} (hx0 : tw x0) (t : (rg x1) ∧ if (rt_ (σ (x0 + 5) 2) (σ (x0 + 6)) 13 4 x1) = 0 then (if (rt_ (σ (x0 + 5) 2) (σ (x0 + 6)) 13 5 x1) = 0 then (Q (some (.int (wI 1))) S σ τ) else (Q (some (.int (wI 0))) S σ τ)) else (Q (some (.int (wI 0))) S σ τ)) : wi (d + 1) 111 0 [.ref x0, .int (wI x1)] [] S σ τ Q := by
  obtain ⟨r1, t⟩ := t
  refine i5 c_111_0 rfl (i45 c_111_1 (lo (lyt_0 hx0) (by have := tw_b hx0; omega)) (lro (lrt_2 hx0)) (i3 c_111_4 rfl (i1 c_111_5 (wi_ok (fun K2 => ?_)))))
  refine i80 (As := [.int (wI x1), .int (wI 4)]) (rest := []) c_111_6 mi_55 rfl rfl (Nat.le_of_ble_eq_true rfl) (Nat.le_of_ble_eq_true rfl) (lo (lyt_5 hx0) (by have := tw_b hx0; omega)) (q_at (ow_mills hx0) r1 (by decide) ?_)
  show wi (d + 1) 111 9 [.ref x0, .int (wI x1)] [.int (wI (rt_ (σ (x0 + 5) 2) (σ (x0 + 6)) 13 4 x1))] S σ τ Q
  refine i36 c_111_9 (rg_rt_ (fun k => kO_r K2 _ k) _ _ _ _) rfl (fun hc => ?_) (fun hc => ?_)
  · have t := iF t hc
    have ha3 : ¬ ((rt_ (σ (x0 + 5) 2) (σ (x0 + 6)) 13 4 x1) = 0) := hc
    refine i1 c_111_28 ?_
    exact i91 c_111_29 (by decide) t
  · have t := iT t (Decidable.not_not.mp hc)
    have ha3 : (rt_ (σ (x0 + 5) 2) (σ (x0 + 6)) 13 4 x1) = 0 := Decidable.not_not.mp hc
    refine i5 c_111_12 rfl (i45 c_111_13 (lo (lyt_0 hx0) (by have := tw_b hx0; omega)) (lro (lrt_2 hx0)) (i3 c_111_16 rfl (i1 c_111_17 ?_)))
    refine i80 (As := [.int (wI x1), .int (wI 5)]) (rest := []) c_111_18 mi_55 rfl rfl (Nat.le_of_ble_eq_true rfl) (Nat.le_of_ble_eq_true rfl) (lo (lyt_5 hx0) (by have := tw_b hx0; omega)) (q_at (ow_mills hx0) r1 (by decide) ?_)
    show wi (d + 1) 111 21 [.ref x0, .int (wI x1)] [.int (wI (rt_ (σ (x0 + 5) 2) (σ (x0 + 6)) 13 5 x1))] S σ τ Q
    refine i36 c_111_21 (rg_rt_ (fun k => kO_r K2 _ k) _ _ _ _) rfl (fun hc => ?_) (fun hc => ?_)
    · have t := iF t hc
      have ha4 : ¬ ((rt_ (σ (x0 + 5) 2) (σ (x0 + 6)) 13 5 x1) = 0) := hc
      refine i1 c_111_28 ?_
      exact i91 c_111_29 (by decide) t
    · have t := iT t (Decidable.not_not.mp hc)
      have ha4 : (rt_ (σ (x0 + 5) 2) (σ (x0 + 6)) 13 5 x1) = 0 := Decidable.not_not.mp hc
      refine i1 c_111_24 (i38 c_111_25 rfl ?_)
      exact i91 c_111_29 (by decide) t
theorem q_111 {d : Nat} {S : zS} {σ τ : zI} {Q : zQ} {tn : Nat} {m : Int} {a : Int → Int} {PE : Int → Int → Int} {MI : Int → Int → Int} {TK : Int → Int} {OD : Int → Int → Int} (htn : tw tn) (p0 : CS σ tn a PE MI TK OD) (p1 : 0 ≤ m ∧ m < a 1) (t : Q (some (.int (wI (if MI m 5 = 0 ∧ MI m 6 = 0 then 1 else 0)))) S σ τ) : wc (d + 1) 111 [.ref tn, .int (wI m)] S σ τ Q := by
  refine wc_ok fun K => ?_
  have r := kO_r K (tn + 5) 2
  have cm := (cs_M p0).1
  refine wc_of mi_111 rfl (u_111_0 htn ⟨by omega, ?_⟩)
  rw [vm p0 p1 (show mcR 4 5 by omega), vm p0 p1 (show mcR 5 6 by omega)]
  refine ifI (fun e => ifI (fun e2 => ?_) (fun e2 => ?_)) (fun e => ?_)
  · rw [if_pos ⟨e, e2⟩] at t; exact t
  · rw [if_neg (fun q => e2 q.2)] at t; exact t
  · rw [if_neg (fun q => e q.1)] at t; exact t
-- method 112: MillTown$Week.isOpenOrder(LMillTown$Town;I)Z
theorem c_112_0 : pg_cd 112 0 = (5, 1, 0, 0, 0) := by decide +kernel
theorem c_112_1 : pg_cd 112 1 = (45, 8, 105, 6, 0) := by decide +kernel
theorem c_112_4 : pg_cd 112 4 = (8, 1, 0, 2, 0) := by decide +kernel
theorem c_112_5 : pg_cd 112 5 = (5, 1, 0, 2, 0) := by decide +kernel
theorem c_112_6 : pg_cd 112 6 = (3, 1, 0, 1, 0) := by decide +kernel
theorem c_112_7 : pg_cd 112 7 = (1, 1, 0, 0, 3) := by decide +kernel
theorem c_112_8 : pg_cd 112 8 = (80, 55, 118, 0, 0) := by decide +kernel
theorem c_112_11 : pg_cd 112 11 = (5, 1, 0, 0, 0) := by decide +kernel
theorem c_112_12 : pg_cd 112 12 = (43, 8, 48, 8, 0) := by decide +kernel
theorem c_112_15 : pg_cd 112 15 = (37, 3, 0, 4, 35) := by decide +kernel
theorem c_112_18 : pg_cd 112 18 = (5, 1, 0, 0, 0) := by decide +kernel
theorem c_112_19 : pg_cd 112 19 = (43, 8, 48, 8, 0) := by decide +kernel
theorem c_112_22 : pg_cd 112 22 = (5, 1, 0, 2, 0) := by decide +kernel
theorem c_112_23 : pg_cd 112 23 = (3, 1, 0, 1, 0) := by decide +kernel
theorem c_112_24 : pg_cd 112 24 = (1, 1, 0, 0, 4) := by decide +kernel
theorem c_112_25 : pg_cd 112 25 = (80, 55, 118, 0, 0) := by decide +kernel
theorem c_112_28 : pg_cd 112 28 = (37, 3, 0, 4, 22) := by decide +kernel
theorem c_112_31 : pg_cd 112 31 = (5, 1, 0, 2, 0) := by decide +kernel
theorem c_112_32 : pg_cd 112 32 = (3, 1, 0, 1, 0) := by decide +kernel
theorem c_112_33 : pg_cd 112 33 = (1, 1, 0, 0, 1) := by decide +kernel
theorem c_112_34 : pg_cd 112 34 = (80, 55, 118, 0, 0) := by decide +kernel
theorem c_112_37 : pg_cd 112 37 = (5, 1, 0, 2, 0) := by decide +kernel
theorem c_112_38 : pg_cd 112 38 = (3, 1, 0, 1, 0) := by decide +kernel
theorem c_112_39 : pg_cd 112 39 = (1, 1, 0, 0, 5) := by decide +kernel
theorem c_112_40 : pg_cd 112 40 = (80, 55, 118, 0, 0) := by decide +kernel
theorem c_112_43 : pg_cd 112 43 = (37, 3, 0, 5, 7) := by decide +kernel
theorem c_112_46 : pg_cd 112 46 = (1, 1, 0, 0, 1) := by decide +kernel
theorem c_112_47 : pg_cd 112 47 = (38, 3, 0, 0, 4) := by decide +kernel
theorem c_112_50 : pg_cd 112 50 = (1, 1, 0, 0, 0) := by decide +kernel
theorem c_112_51 : pg_cd 112 51 = (91, 0, 0, 0, 0) := by decide +kernel
theorem mi_112 : pg_mc 112 = 9 ∧ pg_na 112 = 2 ∧ pg_mx 112 = 3 := by decide +kernel
set_option maxRecDepth 20000 in
theorem u_112_0 {d : Nat} {S : zS} {σ τ : zI} {Q : zQ} {x0 : Nat} {x1 : Int} (hx0 : tw x0) (t : (rg x1) ∧ if (σ x0 8) < (rt_ (σ (x0 + 13) 2) (σ (x0 + 14)) 6 3 x1) then (Q (some (.int (wI 0))) S σ τ) else (if (rt_ (σ (x0 + 13) 2) (σ (x0 + 14)) 6 4 x1) < (σ x0 8) then (Q (some (.int (wI 0))) S σ τ) else (if (rt_ (σ (x0 + 13) 2) (σ (x0 + 14)) 6 1 x1) ≤ (rt_ (σ (x0 + 13) 2) (σ (x0 + 14)) 6 5 x1) then (Q (some (.int (wI 0))) S σ τ) else (Q (some (.int (wI 1))) S σ τ)))) : wi (d + 1) 112 0 [.ref x0, .int (wI x1), .retAddr 0] [] S σ τ Q := by
  obtain ⟨r1, t⟩ := t
  refine i5 c_112_0 rfl (i45 c_112_1 (lo (lyt_0 hx0) (by have := tw_b hx0; omega)) (lro (lrt_6 hx0)) (i8 (L' := [.ref x0, .int (wI x1), .ref (x0 + 13)]) c_112_4 rfl (i5 c_112_5 rfl (i3 c_112_6 rfl (i1 c_112_7 (wi_ok (fun K2 => ?_)))))))
  refine i80 (As := [.int (wI x1), .int (wI 3)]) (rest := []) c_112_8 mi_55 rfl rfl (Nat.le_of_ble_eq_true rfl) (Nat.le_of_ble_eq_true rfl) (lo (lyt_13 hx0) (by have := tw_b hx0; omega)) (q_at (ow_orders hx0) r1 (by decide) ?_)
  show wi (d + 1) 112 11 [.ref x0, .int (wI x1), .ref (x0 + 13)] [.int (wI (rt_ (σ (x0 + 13) 2) (σ (x0 + 14)) 6 3 x1))] S σ τ Q
  refine i5 c_112_11 rfl (i43 (v := σ x0 8) c_112_12 (lo (lyt_0 hx0) (by have := tw_b hx0; omega)) rfl ?_)
  refine i37 c_112_15 (rg_rt_ (fun k => kO_r K2 _ k) _ _ _ _) (rge_ K2 rfl) rfl (fun hc => ?_) (fun hc => ?_)
  · have t := iT t hc
    have ha3 : (σ x0 8) < (rt_ (σ (x0 + 13) 2) (σ (x0 + 14)) 6 3 x1) := hc
    refine i1 c_112_50 ?_
    exact i91 c_112_51 (by decide) t
  · have t := iF t hc
    have ha3 : ¬ ((σ x0 8) < (rt_ (σ (x0 + 13) 2) (σ (x0 + 14)) 6 3 x1)) := hc
    refine i5 c_112_18 rfl (i43 (v := σ x0 8) c_112_19 (lo (lyt_0 hx0) (by have := tw_b hx0; omega)) rfl (i5 c_112_22 rfl (i3 c_112_23 rfl (i1 c_112_24 ?_))))
    refine i80 (As := [.int (wI x1), .int (wI 4)]) (rest := [.int (wI (σ x0 8))]) c_112_25 mi_55 rfl rfl (Nat.le_of_ble_eq_true rfl) (Nat.le_of_ble_eq_true rfl) (lo (lyt_13 hx0) (by have := tw_b hx0; omega)) (q_at (ow_orders hx0) r1 (by decide) ?_)
    show wi (d + 1) 112 28 [.ref x0, .int (wI x1), .ref (x0 + 13)] [.int (wI (rt_ (σ (x0 + 13) 2) (σ (x0 + 14)) 6 4 x1)), .int (wI (σ x0 8))] S σ τ Q
    refine i37 c_112_28 (rge_ K2 rfl) (rg_rt_ (fun k => kO_r K2 _ k) _ _ _ _) rfl (fun hc => ?_) (fun hc => ?_)
    · have t := iT t hc
      have ha4 : (rt_ (σ (x0 + 13) 2) (σ (x0 + 14)) 6 4 x1) < (σ x0 8) := hc
      refine i1 c_112_50 ?_
      exact i91 c_112_51 (by decide) t
    · have t := iF t hc
      have ha4 : ¬ ((rt_ (σ (x0 + 13) 2) (σ (x0 + 14)) 6 4 x1) < (σ x0 8)) := hc
      refine i5 c_112_31 rfl (i3 c_112_32 rfl (i1 c_112_33 ?_))
      refine i80 (As := [.int (wI x1), .int (wI 1)]) (rest := []) c_112_34 mi_55 rfl rfl (Nat.le_of_ble_eq_true rfl) (Nat.le_of_ble_eq_true rfl) (lo (lyt_13 hx0) (by have := tw_b hx0; omega)) (q_at (ow_orders hx0) r1 (by decide) ?_)
      show wi (d + 1) 112 37 [.ref x0, .int (wI x1), .ref (x0 + 13)] [.int (wI (rt_ (σ (x0 + 13) 2) (σ (x0 + 14)) 6 1 x1))] S σ τ Q
      refine i5 c_112_37 rfl (i3 c_112_38 rfl (i1 c_112_39 ?_))
      refine i80 (As := [.int (wI x1), .int (wI 5)]) (rest := [.int (wI (rt_ (σ (x0 + 13) 2) (σ (x0 + 14)) 6 1 x1))]) c_112_40 mi_55 rfl rfl (Nat.le_of_ble_eq_true rfl) (Nat.le_of_ble_eq_true rfl) (lo (lyt_13 hx0) (by have := tw_b hx0; omega)) (q_at (ow_orders hx0) r1 (by decide) ?_)
      show wi (d + 1) 112 43 [.ref x0, .int (wI x1), .ref (x0 + 13)] [.int (wI (rt_ (σ (x0 + 13) 2) (σ (x0 + 14)) 6 5 x1)), .int (wI (rt_ (σ (x0 + 13) 2) (σ (x0 + 14)) 6 1 x1))] S σ τ Q
      refine i37 c_112_43 (rg_rt_ (fun k => kO_r K2 _ k) _ _ _ _) (rg_rt_ (fun k => kO_r K2 _ k) _ _ _ _) rfl (fun hc => ?_) (fun hc => ?_)
      · have t := iT t hc
        have ha5 : (rt_ (σ (x0 + 13) 2) (σ (x0 + 14)) 6 1 x1) ≤ (rt_ (σ (x0 + 13) 2) (σ (x0 + 14)) 6 5 x1) := hc
        refine i1 c_112_50 ?_
        exact i91 c_112_51 (by decide) t
      · have t := iF t hc
        have ha5 : ¬ ((rt_ (σ (x0 + 13) 2) (σ (x0 + 14)) 6 1 x1) ≤ (rt_ (σ (x0 + 13) 2) (σ (x0 + 14)) 6 5 x1)) := hc
        refine i1 c_112_46 (i38 c_112_47 rfl ?_)
        exact i91 c_112_51 (by decide) t
theorem q_112 {d : Nat} {S : zS} {σ τ : zI} {Q : zQ} {tn : Nat} {o : Int} {a : Int → Int} {PE : Int → Int → Int} {MI : Int → Int → Int} {TK : Int → Int} {OD : Int → Int → Int} (htn : tw tn) (p0 : CS σ tn a PE MI TK OD) (p1 : 0 ≤ o ∧ o < a 7) (t : Q (some (.int (wI (if (OD o 3 ≤ a 0 ∧ a 0 ≤ OD o 4) ∧ OD o 5 < OD o 1 then 1 else 0)))) S σ τ) : wc (d + 1) 112 [.ref tn, .int (wI o)] S σ τ Q := by
  refine wc_ok fun K => ?_
  have r := kO_r K (tn + 13) 2
  have co := (cs_O p0).1
  have c0 : σ tn 8 = a 0 := (cs_R p0).1.1
  refine wc_of mi_112 rfl (u_112_0 htn ⟨by omega, ?_⟩)
  rw [vo p0 p1 (k := 3) (by omega), vo p0 p1 (k := 4) (by omega), vo p0 p1 (k := 1) (by omega), vo p0 p1 (k := 5) (by omega), c0]
  repeat' (first | (rw [if_pos (by omega)] at t; exact t) | (rw [if_neg (by omega)] at t; exact t) | refine ifI (fun _ => ?_) (fun _ => ?_))
-- method 114: MillTown$Week.payFor(II)I
theorem c_114_0 : pg_cd 114 0 = (3, 1, 0, 1, 0) := by decide +kernel
theorem c_114_1 : pg_cd 114 1 = (1, 2, 0, 0, 6) := by decide +kernel
theorem c_114_3 : pg_cd 114 3 = (12, 1, 0, 0, 0) := by decide +kernel
theorem c_114_4 : pg_cd 114 4 = (3, 1, 0, 2, 0) := by decide +kernel
theorem c_114_5 : pg_cd 114 5 = (10, 1, 0, 0, 0) := by decide +kernel
theorem c_114_6 : pg_cd 114 6 = (6, 1, 0, 3, 0) := by decide +kernel
theorem c_114_7 : pg_cd 114 7 = (3, 1, 0, 3, 0) := by decide +kernel
theorem c_114_8 : pg_cd 114 8 = (36, 3, 0, 2, 21) := by decide +kernel
theorem c_114_11 : pg_cd 114 11 = (3, 1, 0, 3, 0) := by decide +kernel
theorem c_114_12 : pg_cd 114 12 = (5, 1, 0, 0, 0) := by decide +kernel
theorem c_114_13 : pg_cd 114 13 = (45, 9, 32, 4, 0) := by decide +kernel
theorem c_114_16 : pg_cd 114 16 = (58, 0, 0, 0, 0) := by decide +kernel
theorem c_114_17 : pg_cd 114 17 = (37, 3, 0, 3, 12) := by decide +kernel
theorem c_114_20 : pg_cd 114 20 = (5, 1, 0, 0, 0) := by decide +kernel
theorem c_114_21 : pg_cd 114 21 = (45, 9, 32, 4, 0) := by decide +kernel
theorem c_114_24 : pg_cd 114 24 = (3, 1, 0, 3, 0) := by decide +kernel
theorem c_114_25 : pg_cd 114 25 = (50, 1, 0, 0, 0) := by decide +kernel
theorem c_114_26 : pg_cd 114 26 = (38, 3, 0, 0, 4) := by decide +kernel
theorem c_114_29 : pg_cd 114 29 = (1, 1, 0, 0, 0) := by decide +kernel
theorem c_114_30 : pg_cd 114 30 = (90, 0, 0, 0, 0) := by decide +kernel
theorem mi_114 : pg_mc 114 = 9 ∧ pg_na 114 = 2 ∧ pg_mx 114 = 4 := by decide +kernel
set_option maxRecDepth 20000 in
theorem u_114_0 {d : Nat} {S : zS} {σ τ : zI} {Q : zQ} {x1 : Int} {x2 : Int} (t : (rg ((x1 * 6) + x2)) ∧ if ((x1 * 6) + x2) < 0 then (Q (some (.int (wI 0))) S σ τ) else (if (48 : Int) ≤ ((x1 * 6) + x2) then (Q (some (.int (wI 0))) S σ τ) else ((0 ≤ (x1 * 6) + x2 ∧ (x1 * 6) + x2 < 48) ∧ Q (some (.int (wI (σ 62 ((x1 * 6) + x2))))) S σ τ))) : wi (d + 0) 114 0 [.ref 53, .int (wI x1), .int (wI x2), .retAddr 0] [] S σ τ Q := by
  obtain ⟨r1, t⟩ := t
  refine i3 c_114_0 rfl (i1 c_114_1 (i12 c_114_3 (i3 c_114_4 rfl (i10 c_114_5 (i6 (L' := [.ref 53, .int (wI x1), .int (wI x2), .int (wI ((x1 * 6) + x2))]) c_114_6 rfl (i3 c_114_7 rfl ?_))))))
  refine i36 c_114_8 r1 rfl (fun hc => ?_) (fun hc => ?_)
  · have t := iT t hc
    have ha2 : ((x1 * 6) + x2) < 0 := hc
    refine i1 c_114_29 ?_
    exact i90 c_114_30 t
  · have t := iF t hc
    have ha2 : ¬ (((x1 * 6) + x2) < 0) := hc
    refine i3 c_114_11 rfl (i5 c_114_12 rfl (i45 c_114_13 (lo (c := 53) (kd := 109) (n := 0) rfl (by decide)) (lro (c := 53) (k := 4) (j := 62) (by decide)) (i58 (v := 48) c_114_16 (lo (c := 62) (kd := 0) (n := 48) rfl (by decide)) rfl ?_)))
    refine i37 c_114_17 r1 (by decide) rfl (fun hc => ?_) (fun hc => ?_)
    · have t := iT t hc
      have ha3 : (48 : Int) ≤ ((x1 * 6) + x2) := hc
      refine i1 c_114_29 ?_
      exact i90 c_114_30 t
    · have t := iF t hc
      have ha3 : ¬ ((48 : Int) ≤ ((x1 * 6) + x2)) := hc
      obtain ⟨r4, t⟩ := t
      refine i5 c_114_20 rfl (i45 c_114_21 (lo (c := 53) (kd := 109) (n := 0) rfl (by decide)) (lro (c := 53) (k := 4) (j := 62) (by decide)) (i3 c_114_24 rfl (wi_ok (fun K5 => ?_))))
      refine i50 (v := σ 62 ((x1 * 6) + x2)) c_114_25 (lo (c := 62) (kd := 0) (n := 48) rfl (by decide)) (by decide) r4 rfl (i38 c_114_26 rfl ?_)
      exact i90 c_114_30 t
theorem q_114 {d : Nat} {S : zS} {σ τ : zI} {Q : zQ} {m : Int} {k : Int} (p0 : 0 ≤ m ∧ m < (8 : Int)) (p1 : 0 ≤ k ∧ k < (6 : Int)) (t : Q (some (.int (wI (σ 62 (m * 6 + k))))) S σ τ) : wc (d + 0) 114 [.ref 53, .int (wI m), .int (wI k)] S σ τ Q := by
  refine wc_of mi_114 rfl (u_114_0 ⟨by omega, ?_⟩)
  rw [if_neg (by omega), if_neg (by omega)]
  exact ⟨by omega, t⟩
theorem TX_e {σ : zI} {x : Nat} {a a' : Int → Int} {n : Int} (e : eL a a') (hn : 0 ≤ n ∧ n < 20) (h24 : 0 ≤ a (5500 + 840 * n) ∧ a (5500 + 840 * n) ≤ 24) (h : TX σ x a n) : TX σ x a' n := by
  obtain ⟨h1, h2, h3, h4, h5, h6, h7⟩ := h
  have e0 := e (5500 + 840 * n) (by omega)
  refine ⟨h1, by rw [e0]; exact h2, fun c c0 c1 => ?_, fun s s0 s1 => ?_, h5, fun i i0 i1 => ?_, fun c c0 c1 => ?_⟩
  · rw [e0] at c1
    have q := h3 c c0 c1
    unfold TC at *
    rw [e (5500 + 840 * n + 1 + 8 * c) (by omega), e (5500 + 840 * n + 1 + 8 * c + 1) (by omega), e (5500 + 840 * n + 1 + 8 * c + 2) (by omega), e (5500 + 840 * n + 1 + 8 * c + 3) (by omega), e (5500 + 840 * n + 1 + 8 * c + 4) (by omega), e (5500 + 840 * n + 1 + 8 * c + 5) (by omega), e (5500 + 840 * n + 1 + 8 * c + 6) (by omega), e (5500 + 840 * n + 1 + 8 * c + 7) (by omega)]
    exact q
  · rw [h4 s s0 s1, e0]
    constructor
    · intro q c c0 c1; rw [e (5500 + 840 * n + 1 + 8 * c) (by omega)]; exact q c c0 c1
    · intro q c c0 c1; have := q c c0 c1; rw [e (5500 + 840 * n + 1 + 8 * c) (by omega)] at this; exact this
  · rw [e (5500 + 840 * n + 200 + 2 * i) (by omega), e (5500 + 840 * n + 200 + 2 * i + 1) (by omega)]
    exact h6 i i0 i1
  · rw [e0] at c1
    rw [e (5500 + 840 * n + 1 + 8 * c) (by omega), e (5500 + 840 * n + 1 + 8 * c + 7) (by omega)]
    exact h7 c c0 c1
theorem RX_e {S : zS} {σ : zI} {a a' : Int → Int} (e : eL a a') (hT : jv_T a) (h : RX S σ a) : RX S σ a' := by
  refine ⟨by rw [e 5 (by omega)]; exact h.1, fun n n0 n1 => ?_⟩
  rw [e 5 (by omega)] at n1
  obtain ⟨x, x1, x2, x3⟩ := h.2 n n0 n1
  have := h.1
  exact ⟨x, x1, x2, TX_e e (by omega) (hT n n0 n1).1 x3⟩
def wk_b0 (a : Int → Int) : Int → Int := As a (fun p c => a (3652 + 12 * p + c)) (MI0 a) (OD1 a 0)
theorem b0_B {a : Int → Int} : eB a (wk_b0 a) := eB_A (fun _ _ => rfl)
/-- the class's town when a WEEK has begun -/
def CB0 (σ : zI) (t : Nat) (a : Int → Int) : Prop := CS σ t a (fun p c => a (3652 + 12 * p + c)) (MI0 a) (fun _ => 0) (OD1 a 0) ∧ ∀ p, 0 ≤ p → p < a 4 → σ (t + 12) (p * 9 + 8) = a (3652 + 12 * p + 8)
theorem CB0_f {σ σ' : zI} {t : Nat} {a : Int → Int} (f : ∀ c, t ≤ c ∧ c ≤ t + 16 → σ' c = σ c) (h : CB0 σ t a) : CB0 σ' t a := ⟨CS_f f h.1, by rw [f (t + 12) (by omega)]; exact h.2⟩
theorem CB0_RT {σ : zI} {t : Nat} {a : Int → Int} (hC : jv_C a) (h : CB0 σ t a) : RT σ t (wk_b0 a) := by
  unfold jv_C at hC
  exact CS_RT h.2 (by omega) h.1
def PYo (σ : zI) (a : Int → Int) (o m : Int) : Prop := ∀ o' m', 0 ≤ o' → 0 ≤ m' → m' < a 1 → o' < o ∨ o' = o ∧ m' < m → wk_op a (wk_T a 0) o' → wk_cr a m' → σ 62 (m' * 6 + a (4372 + 8 * o')) ≠ -1
def PYv (σ : zI) (a : Int → Int) : Prop := ∀ m k, 0 ≤ m → m < 8 → 0 ≤ k → k ≤ 5 → σ 62 (m * 6 + k) = -1 ∨ σ 62 (m * 6 + k) = r_pay a k m (a 0) (a 0)
theorem OD1_k {a : Int → Int} {n o c : Int} (hc : c ≠ 5) : OD1 a n o c = a (4372 + 8 * o + c) := by
  unfold OD1
  rw [if_neg (by omega)]
theorem OD1_5 {a : Int → Int} {n o : Int} (ho : o < a 7) : OD1 a n o 5 = wk_T a n o := by
  unfold OD1
  rw [if_pos ⟨rfl, ho⟩]
-- method 113: MillTown$Week.fillPays(LMillTown$Town;)V
theorem c_113_0 : pg_cd 113 0 = (1, 1, 0, 0, 0) := by decide +kernel
theorem c_113_1 : pg_cd 113 1 = (6, 1, 0, 2, 0) := by decide +kernel
theorem c_113_2 : pg_cd 113 2 = (3, 1, 0, 2, 0) := by decide +kernel
theorem c_113_3 : pg_cd 113 3 = (5, 1, 0, 1, 0) := by decide +kernel
theorem c_113_4 : pg_cd 113 4 = (45, 8, 105, 6, 0) := by decide +kernel
theorem c_113_7 : pg_cd 113 7 = (43, 4, 121, 2, 0) := by decide +kernel
theorem c_113_10 : pg_cd 113 10 = (37, 3, 0, 3, 118) := by decide +kernel
theorem c_113_13 : pg_cd 113 13 = (5, 1, 0, 1, 0) := by decide +kernel
theorem c_113_14 : pg_cd 113 14 = (45, 8, 105, 6, 0) := by decide +kernel
theorem c_113_17 : pg_cd 113 17 = (3, 1, 0, 2, 0) := by decide +kernel
theorem c_113_18 : pg_cd 113 18 = (1, 1, 0, 0, 0) := by decide +kernel
theorem c_113_19 : pg_cd 113 19 = (80, 55, 118, 0, 0) := by decide +kernel
theorem c_113_22 : pg_cd 113 22 = (6, 1, 0, 3, 0) := by decide +kernel
theorem c_113_23 : pg_cd 113 23 = (1, 1, 0, 0, 0) := by decide +kernel
theorem c_113_24 : pg_cd 113 24 = (6, 2, 0, 4, 0) := by decide +kernel
theorem c_113_26 : pg_cd 113 26 = (5, 1, 0, 1, 0) := by decide +kernel
theorem c_113_27 : pg_cd 113 27 = (3, 1, 0, 2, 0) := by decide +kernel
theorem c_113_28 : pg_cd 113 28 = (81, 112, 124, 0, 0) := by decide +kernel
theorem c_113_31 : pg_cd 113 31 = (36, 3, 0, 0, 91) := by decide +kernel
theorem c_113_34 : pg_cd 113 34 = (3, 2, 0, 4, 0) := by decide +kernel
theorem c_113_36 : pg_cd 113 36 = (5, 1, 0, 1, 0) := by decide +kernel
theorem c_113_37 : pg_cd 113 37 = (45, 8, 115, 2, 0) := by decide +kernel
theorem c_113_40 : pg_cd 113 40 = (43, 4, 121, 2, 0) := by decide +kernel
theorem c_113_43 : pg_cd 113 43 = (37, 3, 0, 3, 79) := by decide +kernel
theorem c_113_46 : pg_cd 113 46 = (3, 2, 0, 4, 0) := by decide +kernel
theorem c_113_48 : pg_cd 113 48 = (1, 2, 0, 0, 6) := by decide +kernel
theorem c_113_50 : pg_cd 113 50 = (12, 1, 0, 0, 0) := by decide +kernel
theorem c_113_51 : pg_cd 113 51 = (3, 1, 0, 3, 0) := by decide +kernel
theorem c_113_52 : pg_cd 113 52 = (10, 1, 0, 0, 0) := by decide +kernel
theorem c_113_53 : pg_cd 113 53 = (6, 2, 0, 5, 0) := by decide +kernel
theorem c_113_55 : pg_cd 113 55 = (3, 2, 0, 5, 0) := by decide +kernel
theorem c_113_57 : pg_cd 113 57 = (36, 3, 0, 2, 59) := by decide +kernel
theorem c_113_60 : pg_cd 113 60 = (3, 2, 0, 5, 0) := by decide +kernel
theorem c_113_62 : pg_cd 113 62 = (5, 1, 0, 0, 0) := by decide +kernel
theorem c_113_63 : pg_cd 113 63 = (45, 9, 32, 4, 0) := by decide +kernel
theorem c_113_66 : pg_cd 113 66 = (58, 0, 0, 0, 0) := by decide +kernel
theorem c_113_67 : pg_cd 113 67 = (37, 3, 0, 3, 49) := by decide +kernel
theorem c_113_70 : pg_cd 113 70 = (5, 1, 0, 0, 0) := by decide +kernel
theorem c_113_71 : pg_cd 113 71 = (45, 9, 32, 4, 0) := by decide +kernel
theorem c_113_74 : pg_cd 113 74 = (3, 2, 0, 5, 0) := by decide +kernel
theorem c_113_76 : pg_cd 113 76 = (50, 1, 0, 0, 0) := by decide +kernel
theorem c_113_77 : pg_cd 113 77 = (1, 1, 0, 0, (-1)) := by decide +kernel
theorem c_113_78 : pg_cd 113 78 = (37, 3, 0, 1, 38) := by decide +kernel
theorem c_113_81 : pg_cd 113 81 = (5, 1, 0, 1, 0) := by decide +kernel
theorem c_113_82 : pg_cd 113 82 = (3, 2, 0, 4, 0) := by decide +kernel
theorem c_113_84 : pg_cd 113 84 = (81, 111, 128, 0, 0) := by decide +kernel
theorem c_113_87 : pg_cd 113 87 = (36, 3, 0, 0, 29) := by decide +kernel
theorem c_113_90 : pg_cd 113 90 = (5, 1, 0, 0, 0) := by decide +kernel
theorem c_113_91 : pg_cd 113 91 = (45, 9, 32, 4, 0) := by decide +kernel
theorem c_113_94 : pg_cd 113 94 = (3, 2, 0, 5, 0) := by decide +kernel
theorem c_113_96 : pg_cd 113 96 = (5, 1, 0, 0, 0) := by decide +kernel
theorem c_113_97 : pg_cd 113 97 = (45, 9, 12, 0, 0) := by decide +kernel
theorem c_113_100 : pg_cd 113 100 = (5, 1, 0, 1, 0) := by decide +kernel
theorem c_113_101 : pg_cd 113 101 = (3, 1, 0, 3, 0) := by decide +kernel
theorem c_113_102 : pg_cd 113 102 = (3, 2, 0, 4, 0) := by decide +kernel
theorem c_113_104 : pg_cd 113 104 = (5, 1, 0, 1, 0) := by decide +kernel
theorem c_113_105 : pg_cd 113 105 = (43, 8, 48, 8, 0) := by decide +kernel
theorem c_113_108 : pg_cd 113 108 = (5, 1, 0, 1, 0) := by decide +kernel
theorem c_113_109 : pg_cd 113 109 = (43, 8, 48, 8, 0) := by decide +kernel
theorem c_113_112 : pg_cd 113 112 = (80, 19, 131, 0, 0) := by decide +kernel
theorem c_113_115 : pg_cd 113 115 = (54, 1, 0, 0, 0) := by decide +kernel
theorem c_113_116 : pg_cd 113 116 = (9, 3, 0, 4, 1) := by decide +kernel
theorem c_113_119 : pg_cd 113 119 = (38, 3, 0, 0, (-93)) := by decide +kernel
theorem c_113_122 : pg_cd 113 122 = (9, 3, 0, 2, 1) := by decide +kernel
theorem c_113_125 : pg_cd 113 125 = (38, 3, 0, 0, (-123)) := by decide +kernel
theorem c_113_128 : pg_cd 113 128 = (94, 0, 0, 0, 0) := by decide +kernel
theorem mi_113 : pg_mc 113 = 9 ∧ pg_na 113 = 1 ∧ pg_mx 113 = 6 := by decide +kernel
set_option maxRecDepth 20000 in
theorem u_113_0 {d : Nat} {S : zS} {σ τ : zI} {Q : zQ} {x1 : Nat} (hx1 : tw x1) (t : wi (d + 13) 113 2 [.ref 53, .ref x1, .int (wI 0), .retAddr 0, .retAddr 0, .retAddr 0] [] S σ τ Q) : wi (d + 13) 113 0 [.ref 53, .ref x1, .retAddr 0, .retAddr 0, .retAddr 0, .retAddr 0] [] S σ τ Q := by
  refine i1 c_113_0 (i6 (L' := [.ref 53, .ref x1, .int (wI 0), .retAddr 0, .retAddr 0, .retAddr 0]) c_113_1 rfl t)
set_option maxRecDepth 20000 in
theorem u_113_2 {d : Nat} {S : zS} {σ τ : zI} {Q : zQ} {x1 : Nat} {x2 : Int} {y3 : Value} {y4 : Value} {y5 : Value} (hx1 : tw x1) (t : (rg x2) ∧ if (σ (x1 + 13) 2) ≤ x2 then (Q none S σ τ) else (wi (d + 13) 113 26 [.ref 53, .ref x1, .int (wI x2), .int (wI (rt_ (σ (x1 + 13) 2) (σ (x1 + 14)) 6 0 x2)), .int (wI 0), y5] [] S σ τ Q)) : wi (d + 13) 113 2 [.ref 53, .ref x1, .int (wI x2), y3, y4, y5] [] S σ τ Q := by
  refine i3 c_113_2 rfl (i5 c_113_3 rfl (i45 c_113_4 (lo (lyt_0 hx1) (by have := tw_b hx1; omega)) (lro (lrt_6 hx1)) (wi_ok (fun K1 => ?_))))
  obtain ⟨r2, t⟩ := t
  refine i43 (v := σ (x1 + 13) 2) c_113_7 (lo (lyt_13 hx1) (by have := tw_b hx1; omega)) rfl ?_
  refine i37 c_113_10 r2 (rge_ K1 rfl) rfl (fun hc => ?_) (fun hc => ?_)
  · have t := iT t hc
    have ha3 : (σ (x1 + 13) 2) ≤ x2 := hc
    exact i94 c_113_128 t
  · have t := iF t hc
    have ha3 : ¬ ((σ (x1 + 13) 2) ≤ x2) := hc
    refine i5 c_113_13 rfl (i45 c_113_14 (lo (lyt_0 hx1) (by have := tw_b hx1; omega)) (lro (lrt_6 hx1)) (i3 c_113_17 rfl (i1 c_113_18 ?_)))
    refine i80 (As := [.int (wI x2), .int (wI 0)]) (rest := []) c_113_19 mi_55 rfl rfl (Nat.le_of_ble_eq_true rfl) (Nat.le_of_ble_eq_true rfl) (lo (lyt_13 hx1) (by have := tw_b hx1; omega)) (q_at (ow_orders hx1) r2 (by decide) ?_)
    show wi (d + 13) 113 22 [.ref 53, .ref x1, .int (wI x2), y3, y4, y5] [.int (wI (rt_ (σ (x1 + 13) 2) (σ (x1 + 14)) 6 0 x2))] S σ τ Q
    refine i6 (L' := [.ref 53, .ref x1, .int (wI x2), .int (wI (rt_ (σ (x1 + 13) 2) (σ (x1 + 14)) 6 0 x2)), y4, y5]) c_113_22 rfl (i1 c_113_23 (i6 (L' := [.ref 53, .ref x1, .int (wI x2), .int (wI (rt_ (σ (x1 + 13) 2) (σ (x1 + 14)) 6 0 x2)), .int (wI 0), y5]) c_113_24 rfl t))
set_option maxRecDepth 20000 in
theorem u_113_26 {d : Nat} {S : zS} {σ τ : zI} {Q : zQ} {x1 : Nat} {x2 : Int} {x3 : Int} {x4 : Int} {y5 : Value} (hx1 : tw x1) (t : ∃ a1 : Int → Int, ∃ PE2 : Int → Int → Int, ∃ MI3 : Int → Int → Int, ∃ TK4 : Int → Int, ∃ OD5 : Int → Int → Int, (CS σ x1 a1 PE2 MI3 TK4 OD5) ∧ (0 ≤ x2 ∧ x2 < a1 7) ∧ if (OD5 x2 3 ≤ a1 0 ∧ a1 0 ≤ OD5 x2 4) ∧ OD5 x2 5 < OD5 x2 1 then ((rg x4) ∧ if (σ (x1 + 5) 2) ≤ x4 then (wi (d + 13) 113 2 [.ref 53, .ref x1, .int (wI (x2 + 1)), .int (wI x3), .int (wI x4), y5] [] S σ τ Q) else ((rg ((x4 * 6) + x3)) ∧ if ((x4 * 6) + x3) < 0 then (wi (d + 13) 113 26 [.ref 53, .ref x1, .int (wI x2), .int (wI x3), .int (wI (x4 + 1)), .int (wI ((x4 * 6) + x3))] [] S σ τ Q) else (if (48 : Int) ≤ ((x4 * 6) + x3) then (wi (d + 13) 113 26 [.ref 53, .ref x1, .int (wI x2), .int (wI x3), .int (wI (x4 + 1)), .int (wI ((x4 * 6) + x3))] [] S σ τ Q) else ((0 ≤ (x4 * 6) + x3 ∧ (x4 * 6) + x3 < 48) ∧ if (σ 62 ((x4 * 6) + x3)) = (-1) then (∃ a17 : Int → Int, ∃ PE18 : Int → Int → Int, ∃ MI19 : Int → Int → Int, ∃ TK20 : Int → Int, ∃ OD21 : Int → Int → Int, (CS σ x1 a17 PE18 MI19 TK20 OD21) ∧ (0 ≤ x4 ∧ x4 < a17 1) ∧ if MI19 x4 5 = 0 ∧ MI19 x4 6 = 0 then (∃ a25 : Int → Int, (RT σ x1 a25) ∧ (RX S σ a25) ∧ (Jl a25) ∧ (jv_T a25) ∧ (jv_E a25) ∧ (0 ≤ x3 ∧ x3 ≤ 5) ∧ ∀ (σ132 : zI) (τ133 : zI), F54 σ σ132 τ τ133 → Wc σ132 a25 x3 x4 (σ x1 8) (σ x1 8) → ∃ w36 : Int, wI w36 = wI (r_pay a25 x3 x4 (σ x1 8) (σ x1 8)) ∧ rg w36 ∧ wi (d + 13) 113 26 [.ref 53, .ref x1, .int (wI x2), .int (wI x3), .int (wI (x4 + 1)), .int (wI ((x4 * 6) + x3))] [] S (uc σ132 62 (u1 (σ132 62) ((x4 * 6) + x3) w36)) τ133 Q) else (wi (d + 13) 113 26 [.ref 53, .ref x1, .int (wI x2), .int (wI x3), .int (wI (x4 + 1)), .int (wI ((x4 * 6) + x3))] [] S σ τ Q)) else (wi (d + 13) 113 26 [.ref 53, .ref x1, .int (wI x2), .int (wI x3), .int (wI (x4 + 1)), .int (wI ((x4 * 6) + x3))] [] S σ τ Q))))) else (wi (d + 13) 113 2 [.ref 53, .ref x1, .int (wI (x2 + 1)), .int (wI x3), .int (wI x4), y5] [] S σ τ Q)) : wi (d + 13) 113 26 [.ref 53, .ref x1, .int (wI x2), .int (wI x3), .int (wI x4), y5] [] S σ τ Q := by
  obtain ⟨a1, t⟩ := t
  obtain ⟨PE2, t⟩ := t
  obtain ⟨MI3, t⟩ := t
  obtain ⟨TK4, t⟩ := t
  obtain ⟨OD5, t⟩ := t
  obtain ⟨p6, t⟩ := t
  obtain ⟨p7, t⟩ := t
  refine i5 c_113_26 rfl (i3 c_113_27 rfl ?_)
  refine i81 (As := [.ref x1, .int (wI x2)]) (rest := []) c_113_28 mi_112 rfl rfl (Nat.le_of_ble_eq_true rfl) (Nat.le_of_ble_eq_true rfl) (q_112 (a := a1) (PE := PE2) (MI := MI3) (TK := TK4) (OD := OD5) hx1 p6 p7 ?_)
  show wi (d + 13) 113 31 [.ref 53, .ref x1, .int (wI x2), .int (wI x3), .int (wI x4), y5] [.int (wI (if (OD5 x2 3 ≤ a1 0 ∧ a1 0 ≤ OD5 x2 4) ∧ OD5 x2 5 < OD5 x2 1 then 1 else 0))] S σ τ Q
  refine i36e c_113_31 rfl (fun hc => ?_) (fun hc => ?_)
  · have t := iT t hc
    have ha8 : (OD5 x2 3 ≤ a1 0 ∧ a1 0 ≤ OD5 x2 4) ∧ OD5 x2 5 < OD5 x2 1 := hc
    refine i3 c_113_34 rfl (i5 c_113_36 rfl (i45 c_113_37 (lo (lyt_0 hx1) (by have := tw_b hx1; omega)) (lro (lrt_2 hx1)) (wi_ok (fun K9 => ?_))))
    obtain ⟨r10, t⟩ := t
    refine i43 (v := σ (x1 + 5) 2) c_113_40 (lo (lyt_5 hx1) (by have := tw_b hx1; omega)) rfl ?_
    refine i37 c_113_43 r10 (rge_ K9 rfl) rfl (fun hc => ?_) (fun hc => ?_)
    · have t := iT t hc
      have ha11 : (σ (x1 + 5) 2) ≤ x4 := hc
      refine i9 (L' := [.ref 53, .ref x1, .int (wI (x2 + 1)), .int (wI x3), .int (wI x4), y5]) c_113_122 rfl rfl (i38 c_113_125 rfl t)
    · have t := iF t hc
      have ha11 : ¬ ((σ (x1 + 5) 2) ≤ x4) := hc
      obtain ⟨r12, t⟩ := t
      refine i3 c_113_46 rfl (i1 c_113_48 (i12 c_113_50 (i3 c_113_51 rfl (i10 c_113_52 (i6 (L' := [.ref 53, .ref x1, .int (wI x2), .int (wI x3), .int (wI x4), .int (wI ((x4 * 6) + x3))]) c_113_53 rfl (i3 c_113_55 rfl ?_))))))
      refine i36 c_113_57 r12 rfl (fun hc => ?_) (fun hc => ?_)
      · have t := iT t hc
        have ha13 : ((x4 * 6) + x3) < 0 := hc
        refine i9 (L' := [.ref 53, .ref x1, .int (wI x2), .int (wI x3), .int (wI (x4 + 1)), .int (wI ((x4 * 6) + x3))]) c_113_116 rfl rfl (i38 c_113_119 rfl t)
      · have t := iF t hc
        have ha13 : ¬ (((x4 * 6) + x3) < 0) := hc
        refine i3 c_113_60 rfl (i5 c_113_62 rfl (i45 c_113_63 (lo (c := 53) (kd := 109) (n := 0) rfl (by decide)) (lro (c := 53) (k := 4) (j := 62) (by decide)) (i58 (v := 48) c_113_66 (lo (c := 62) (kd := 0) (n := 48) rfl (by decide)) rfl ?_)))
        refine i37 c_113_67 r12 (by decide) rfl (fun hc => ?_) (fun hc => ?_)
        · have t := iT t hc
          have ha14 : (48 : Int) ≤ ((x4 * 6) + x3) := hc
          refine i9 (L' := [.ref 53, .ref x1, .int (wI x2), .int (wI x3), .int (wI (x4 + 1)), .int (wI ((x4 * 6) + x3))]) c_113_116 rfl rfl (i38 c_113_119 rfl t)
        · have t := iF t hc
          have ha14 : ¬ ((48 : Int) ≤ ((x4 * 6) + x3)) := hc
          obtain ⟨r15, t⟩ := t
          refine i5 c_113_70 rfl (i45 c_113_71 (lo (c := 53) (kd := 109) (n := 0) rfl (by decide)) (lro (c := 53) (k := 4) (j := 62) (by decide)) (i3 c_113_74 rfl (i50 (v := σ 62 ((x4 * 6) + x3)) c_113_76 (lo (c := 62) (kd := 0) (n := 48) rfl (by decide)) (by decide) r15 rfl (i1 c_113_77 ?_))))
          refine i37 c_113_78 (rge_ K9 rfl) (by decide) rfl (fun hc => ?_) (fun hc => ?_)
          · have t := iF t hc
            have ha16 : ¬ ((σ 62 ((x4 * 6) + x3)) = (-1)) := hc
            refine i9 (L' := [.ref 53, .ref x1, .int (wI x2), .int (wI x3), .int (wI (x4 + 1)), .int (wI ((x4 * 6) + x3))]) c_113_116 rfl rfl (i38 c_113_119 rfl t)
          · have t := iT t (Decidable.not_not.mp hc)
            have ha16 : (σ 62 ((x4 * 6) + x3)) = (-1) := Decidable.not_not.mp hc
            obtain ⟨a17, t⟩ := t
            obtain ⟨PE18, t⟩ := t
            obtain ⟨MI19, t⟩ := t
            obtain ⟨TK20, t⟩ := t
            obtain ⟨OD21, t⟩ := t
            obtain ⟨p22, t⟩ := t
            obtain ⟨p23, t⟩ := t
            refine i5 c_113_81 rfl (i3 c_113_82 rfl ?_)
            refine i81 (As := [.ref x1, .int (wI x4)]) (rest := []) c_113_84 mi_111 rfl rfl (Nat.le_of_ble_eq_true rfl) (Nat.le_of_ble_eq_true rfl) (q_111 (a := a17) (PE := PE18) (MI := MI19) (TK := TK20) (OD := OD21) hx1 p22 p23 ?_)
            show wi (d + 13) 113 87 [.ref 53, .ref x1, .int (wI x2), .int (wI x3), .int (wI x4), .int (wI ((x4 * 6) + x3))] [.int (wI (if MI19 x4 5 = 0 ∧ MI19 x4 6 = 0 then 1 else 0))] S σ τ Q
            refine i36e c_113_87 rfl (fun hc => ?_) (fun hc => ?_)
            · have t := iT t hc
              have ha24 : MI19 x4 5 = 0 ∧ MI19 x4 6 = 0 := hc
              obtain ⟨a25, t⟩ := t
              obtain ⟨p26, t⟩ := t
              obtain ⟨p27, t⟩ := t
              obtain ⟨p28, t⟩ := t
              obtain ⟨p29, t⟩ := t
              obtain ⟨p30, t⟩ := t
              obtain ⟨p31, t⟩ := t
              refine i5 c_113_90 rfl (i45 c_113_91 (lo (c := 53) (kd := 109) (n := 0) rfl (by decide)) (lro (c := 53) (k := 4) (j := 62) (by decide)) (i3 c_113_94 rfl (i5 c_113_96 rfl (i45 c_113_97 (lo (c := 53) (kd := 109) (n := 0) rfl (by decide)) (lro (c := 53) (k := 0) (j := 54) (by decide)) (i5 c_113_100 rfl (i3 c_113_101 rfl (i3 c_113_102 rfl (i5 c_113_104 rfl (i43 (v := σ x1 8) c_113_105 (lo (lyt_0 hx1) (by have := tw_b hx1; omega)) rfl (i5 c_113_108 rfl (i43 (v := σ x1 8) c_113_109 (lo (lyt_0 hx1) (by have := tw_b hx1; omega)) rfl ?_)))))))))))
              refine i80 (As := [.ref x1, .int (wI x3), .int (wI x4), .int (wI (σ x1 8)), .int (wI (σ x1 8))]) (rest := [.int (wI ((x4 * 6) + x3)), .ref 62]) c_113_112 mi_19 rfl rfl (Nat.le_of_ble_eq_true rfl) (Nat.le_of_ble_eq_true rfl) (lo (c := 54) (kd := 101) (n := 0) rfl (by decide)) (q_19 (a := a25) hx1 p26 p27 p28 p29 p30 p31 r10 (rge_ K9 rfl) (rge_ K9 rfl) (fun σ132 τ133 q34 q35 => ?_))
              have t := t σ132 τ133 q34 q35
              show wi (d + 13) 113 115 [.ref 53, .ref x1, .int (wI x2), .int (wI x3), .int (wI x4), .int (wI ((x4 * 6) + x3))] [.int (wI (r_pay a25 x3 x4 (σ x1 8) (σ x1 8))), .int (wI ((x4 * 6) + x3)), .ref 62] S σ132 τ133 Q
              obtain ⟨w36, e37, r38, t⟩ := t
              refine i54 (σ1 := uc σ132 62 (u1 (σ132 62) ((x4 * 6) + x3) w36)) c_113_115 (lo (c := 62) (kd := 0) (n := 48) rfl (by decide)) (by decide) r15 (by decide) e37 r38 (wr_ rfl rfl) (i9 (L' := [.ref 53, .ref x1, .int (wI x2), .int (wI x3), .int (wI (x4 + 1)), .int (wI ((x4 * 6) + x3))]) c_113_116 rfl rfl (i38 c_113_119 rfl t))
            · have t := iF t hc
              have ha24 : ¬ (MI19 x4 5 = 0 ∧ MI19 x4 6 = 0) := hc
              refine i9 (L' := [.ref 53, .ref x1, .int (wI x2), .int (wI x3), .int (wI (x4 + 1)), .int (wI ((x4 * 6) + x3))]) c_113_116 rfl rfl (i38 c_113_119 rfl t)
  · have t := iF t hc
    have ha8 : ¬ ((OD5 x2 3 ≤ a1 0 ∧ a1 0 ≤ OD5 x2 4) ∧ OD5 x2 5 < OD5 x2 1) := hc
    refine i9 (L' := [.ref 53, .ref x1, .int (wI (x2 + 1)), .int (wI x3), .int (wI x4), y5]) c_113_122 rfl rfl (i38 c_113_125 rfl t)
theorem q_113 {d : Nat} {S : zS} {σ τ : zI} {Q : zQ} {tn : Nat} {a : Int → Int} (htn : tw tn) (p0 : CB0 σ tn a) (p1 : RX S σ a) (p2 : Jv a) (p3 : jv_T a) (p4 : jv_E a) (p5 : a 0 ≤ 399) (p6 : (∀ k, 0 ≤ k → k < 48 → σ 62 k = -1)) (t : ∀ (σ1 : zI) (τ1 : zI), (∀ c, c ≠ 54 → c ≠ 62 → σ1 c = σ c) → (∀ k, k < 3 ∨ 4 < k → σ1 54 k = σ 54 k) → (∀ o m, 0 ≤ o → o < a 7 → 0 ≤ m → m < a 1 → wk_op a (wk_T a 0) o → wk_cr a m → σ1 62 (m * 6 + a (4372 + 8 * o)) = wk_py a m o) → Q none S σ1 τ1) : wc (d + 13) 113 [.ref 53, .ref tn] S σ τ Q := by
  have hC := jC p2
  have hC' := hC
  unfold jv_C at hC
  have tb := tw_b htn
  have co := (cs_O p0.1).1
  have cm := (cs_M p0.1).1
  have c0 : σ tn 8 = a 0 := (cs_R p0.1).1.1
  refine wc_of mi_113 rfl (u_113_0 htn ?_)
  have key : ∀ o, 0 ≤ o → o ≤ a 7 → ∀ σ' τ', (∀ c, c ≠ 54 → c ≠ 62 → σ' c = σ c) → (∀ k, k < 3 ∨ 4 < k → σ' 54 k = σ 54 k) → PYv σ' a → PYo σ' a o 0 → ∀ y3 y4 y5, wi (d + 13) 113 2 [.ref 53, .ref tn, .int (wI o), y3, y4, y5] [] S σ' τ' Q := by
    refine lp_up (fun o q0 q1 ih => ?_)
    intro σ' τ' f f54 pv po y3 y4 y5
    refine u_113_2 htn ?_
    have cso : ∀ σ2 : zI, (∀ c, c ≠ 54 → c ≠ 62 → σ2 c = σ c) → CB0 σ2 tn a := fun σ2 f2 => CB0_f (fun c hc => f2 c (by omega) (by omega)) p0
    have cs := cso σ' f
    rw [f (tn + 13) (by omega) (by omega), co]
    refine ⟨by omega, ifI (fun e => ?_) (fun e => ?_)⟩
    · have e : o = a 7 := by omega
      subst e
      refine t σ' τ' f f54 (fun x m x0 x1 m0 m1 op cr => ?_)
      have hO := (jO p2).1 x x0 x1
      have := po x m x0 m0 m1 (Or.inl x1) op cr
      rcases pv m (a (4372 + 8 * x)) m0 (by omega) hO.1.1 hO.1.2 with h | h
      · exact absurd h this
      · exact h
    · have hO := (jO p2).1 o q0 (by omega)
      have ih := ih (by omega)
      have ek : rt_ (a 7) (σ' (tn + 14)) 6 0 o = a (4372 + 8 * o) := by
        have := vo cs.1 (o := o) (k := 0) ⟨q0, by omega⟩ (by omega)
        rw [(cs_O cs.1).1] at this
        rw [this, OD1_k (by omega), Int.add_zero]
      rw [ek]
      have inner : ∀ m, 0 ≤ m → m ≤ a 1 → ∀ σ2 τ2, (∀ c, c ≠ 54 → c ≠ 62 → σ2 c = σ c) → (∀ k, k < 3 ∨ 4 < k → σ2 54 k = σ 54 k) → PYv σ2 a → PYo σ2 a o m → ∀ y5, wi (d + 13) 113 26 [.ref 53, .ref tn, .int (wI o), .int (wI (a (4372 + 8 * o))), .int (wI m), y5] [] S σ2 τ2 Q := by
        refine lp_up (fun m m0 m1 ih2 => ?_)
        intro σ2 τ2 g g54 gv go y5
        have cs2 := cso σ2 g
        refine u_113_26 htn ⟨a, _, _, _, _, cs2.1, ⟨q0, by omega⟩, ?_⟩
        rw [OD1_5 (by omega), OD1_k (by omega), OD1_k (by omega), OD1_k (by omega), g (tn + 5) (by omega) (by omega), cm, g tn (by omega) (by omega), c0]
        have opiff : (a (4372 + 8 * o + 3) ≤ a 0 ∧ a 0 ≤ a (4372 + 8 * o + 4)) ∧ wk_T a 0 o < a (4372 + 8 * o + 1) ↔ wk_op a (wk_T a 0) o := by
          unfold wk_op; omega
        refine ifI (fun e1 => ⟨by omega, ifI (fun e2 => ?_) (fun e2 => ?_)⟩) (fun e1 => ?_)
        · have e2 : m = a 1 := by omega
          subst e2
          refine ih σ2 τ2 g g54 gv (fun x y x0 y0 y1 hxy op cr => ?_) _ _ _
          exact go x y x0 y0 y1 (by omega) op cr
        · have ih2 := ih2 (by omega)
          refine ⟨by omega, ifI (fun e3 => by omega) (fun e3 => ifI (fun e4 => by omega) (fun e4 => ⟨by omega, ifI (fun e5 => ?_) (fun e5 => ?_)⟩))⟩
          · refine ⟨a, _, _, _, _, cs2.1, ⟨m0, by omega⟩, ?_⟩
            have i5 : MI0 a m 5 = a (3300 + 16 * m + 5) := by unfold MI0; rw [if_neg (by omega)]
            have i6 : MI0 a m 6 = a (3300 + 16 * m + 6) := by unfold MI0; rw [if_neg (by omega)]
            rw [i5, i6]
            refine ifI (fun e6 => ?_) (fun e6 => ?_)
            · refine ⟨wk_b0 a, CB0_RT hC' cs2, RX_e (eB_L b0_B) p3 (RX_f p1 (fun c hc => g c (by omega) (by omega))), eB_l b0_B hC' (Jl_of p2), jT_c (eB_L b0_B) hC' p3, jE_c (eB_L b0_B) hC' p3 p4, hO.1, fun σ3 τ3 fr _ => ?_⟩
              have pb := r_pay_b (kind := a (4372 + 8 * o)) (mill := m) (week := a 0) (known := a 0) (Jl_of p2) p3
              rw [pay_c (eB_L b0_B) (Jl_of p2) p3 p4 hO.1]
              refine ⟨_, rfl, by omega, ih2 _ τ3 (fun c h1 h2 => by rw [uc_n h2, fr.1 c h1]; exact g c h1 h2) (fun k hk => by rw [uc_n (by decide), fr.2.1 k hk]; exact g54 k hk) (fun x k x0 x1 k0 k1 => ?_) (fun x y x0 y0 y1 hxy op cr => ?_) _⟩
              · rw [uc_s]
                by_cases ex : x * 6 + k = m * 6 + a (4372 + 8 * o)
                · rw [ex, u1_s]
                  right
                  have e7 : x = m := by omega
                  have e8 : k = a (4372 + 8 * o) := by omega
                  rw [e7, e8]
                · rw [u1_n ex, fr.1 62 (by decide)]; exact gv x k x0 x1 k0 k1
              · rw [uc_s]
                by_cases ex : y * 6 + a (4372 + 8 * x) = m * 6 + a (4372 + 8 * o)
                · rw [ex, u1_s]; omega
                · rw [u1_n ex, fr.1 62 (by decide)]
                  refine go x y x0 y0 y1 ?_ op cr
                  by_cases ey : x = o ∧ y = m
                  · exact absurd (by rw [ey.1, ey.2]) ex
                  · omega
            · refine ih2 σ2 τ2 g g54 gv (fun x y x0 y0 y1 hxy op cr => ?_) _
              by_cases ey : x = o ∧ y = m
              · rw [ey.2] at cr; exact absurd cr e6
              · exact go x y x0 y0 y1 (by omega) op cr
          · refine ih2 σ2 τ2 g g54 gv (fun x y x0 y0 y1 hxy op cr => ?_) _
            by_cases ey : x = o ∧ y = m
            · rw [ey.1, ey.2]; exact e5
            · exact go x y x0 y0 y1 (by omega) op cr
        · refine ih σ2 τ2 g g54 gv (fun x y x0 y0 y1 hxy op cr => ?_) _ _ _
          by_cases ex : x = o
          · rw [ex] at op; exact absurd (opiff.mpr op) e1
          · exact go x y x0 y0 y1 (by omega) op cr
      refine inner 0 (by omega) (by omega) σ' τ' f f54 pv (fun x y x0 y0 y1 hxy op cr => po x y x0 y0 y1 (by omega) op cr) _
  refine key 0 (by omega) (by omega) σ τ (fun _ _ _ => rfl) (fun _ _ => rfl) (fun m k m0 m1 k0 k1 => Or.inl (p6 _ (by omega) (by omega))) (fun x y x0 y0 y1 hxy op cr => by omega) _ _ _
theorem hours_eq {a : Int → Int} {age m w k x : Int} (hx : x = r_ages a age m w k) : max ((if x < 0 then 0 else x) - (r_most a 8 m w k + r_most a 9 m w k)) 0 = r_hours a age m w k := by
  unfold r_hours
  rw [← hx]
  split <;> split <;> omega
def HRi (σ : zI) (a : Int → Int) (m q : Int) : Prop := ∀ p, 0 ≤ p → p < a 4 → σ 60 p = if (0 ≤ a (3652 + 12 * p + 4) ∧ a (3652 + 12 * p + 4) < m) ∨ (a (3652 + 12 * p + 4) = m ∧ p < q) then wk_h a p else 0
theorem c_115_0 : pg_cd 115 0 = (1, 1, 0, 0, 0) := by decide +kernel
theorem c_115_1 : pg_cd 115 1 = (6, 1, 0, 2, 0) := by decide +kernel
theorem c_115_2 : pg_cd 115 2 = (3, 1, 0, 2, 0) := by decide +kernel
theorem c_115_3 : pg_cd 115 3 = (5, 1, 0, 1, 0) := by decide +kernel
theorem c_115_4 : pg_cd 115 4 = (45, 8, 115, 2, 0) := by decide +kernel
theorem c_115_7 : pg_cd 115 7 = (43, 4, 121, 2, 0) := by decide +kernel
theorem c_115_10 : pg_cd 115 10 = (37, 3, 0, 3, 113) := by decide +kernel
theorem c_115_13 : pg_cd 115 13 = (5, 1, 0, 0, 0) := by decide +kernel
theorem c_115_14 : pg_cd 115 14 = (45, 9, 12, 0, 0) := by decide +kernel
theorem c_115_17 : pg_cd 115 17 = (5, 1, 0, 1, 0) := by decide +kernel
theorem c_115_18 : pg_cd 115 18 = (1, 2, 0, 0, 7) := by decide +kernel
theorem c_115_20 : pg_cd 115 20 = (3, 1, 0, 2, 0) := by decide +kernel
theorem c_115_21 : pg_cd 115 21 = (5, 1, 0, 1, 0) := by decide +kernel
theorem c_115_22 : pg_cd 115 22 = (43, 8, 48, 8, 0) := by decide +kernel
theorem c_115_25 : pg_cd 115 25 = (5, 1, 0, 1, 0) := by decide +kernel
theorem c_115_26 : pg_cd 115 26 = (43, 8, 48, 8, 0) := by decide +kernel
theorem c_115_29 : pg_cd 115 29 = (80, 13, 135, 0, 0) := by decide +kernel
theorem c_115_32 : pg_cd 115 32 = (8, 1, 0, 3, 0) := by decide +kernel
theorem c_115_33 : pg_cd 115 33 = (5, 1, 0, 0, 0) := by decide +kernel
theorem c_115_34 : pg_cd 115 34 = (45, 9, 12, 0, 0) := by decide +kernel
theorem c_115_37 : pg_cd 115 37 = (5, 1, 0, 1, 0) := by decide +kernel
theorem c_115_38 : pg_cd 115 38 = (3, 1, 0, 2, 0) := by decide +kernel
theorem c_115_39 : pg_cd 115 39 = (5, 1, 0, 1, 0) := by decide +kernel
theorem c_115_40 : pg_cd 115 40 = (43, 8, 48, 8, 0) := by decide +kernel
theorem c_115_43 : pg_cd 115 43 = (5, 1, 0, 1, 0) := by decide +kernel
theorem c_115_44 : pg_cd 115 44 = (43, 8, 48, 8, 0) := by decide +kernel
theorem c_115_47 : pg_cd 115 47 = (80, 15, 139, 0, 0) := by decide +kernel
theorem c_115_50 : pg_cd 115 50 = (6, 2, 0, 4, 0) := by decide +kernel
theorem c_115_52 : pg_cd 115 52 = (1, 1, 0, 0, 0) := by decide +kernel
theorem c_115_53 : pg_cd 115 53 = (6, 2, 0, 5, 0) := by decide +kernel
theorem c_115_55 : pg_cd 115 55 = (3, 2, 0, 5, 0) := by decide +kernel
theorem c_115_57 : pg_cd 115 57 = (5, 1, 0, 1, 0) := by decide +kernel
theorem c_115_58 : pg_cd 115 58 = (45, 8, 143, 5, 0) := by decide +kernel
theorem c_115_61 : pg_cd 115 61 = (43, 4, 121, 2, 0) := by decide +kernel
theorem c_115_64 : pg_cd 115 64 = (37, 3, 0, 3, 53) := by decide +kernel
theorem c_115_67 : pg_cd 115 67 = (3, 2, 0, 5, 0) := by decide +kernel
theorem c_115_69 : pg_cd 115 69 = (1, 2, 0, 0, 60) := by decide +kernel
theorem c_115_71 : pg_cd 115 71 = (37, 3, 0, 3, 46) := by decide +kernel
theorem c_115_74 : pg_cd 115 74 = (5, 1, 0, 1, 0) := by decide +kernel
theorem c_115_75 : pg_cd 115 75 = (45, 8, 143, 5, 0) := by decide +kernel
theorem c_115_78 : pg_cd 115 78 = (3, 2, 0, 5, 0) := by decide +kernel
theorem c_115_80 : pg_cd 115 80 = (1, 1, 0, 0, 4) := by decide +kernel
theorem c_115_81 : pg_cd 115 81 = (80, 55, 118, 0, 0) := by decide +kernel
theorem c_115_84 : pg_cd 115 84 = (3, 1, 0, 2, 0) := by decide +kernel
theorem c_115_85 : pg_cd 115 85 = (37, 3, 0, 1, 26) := by decide +kernel
theorem c_115_88 : pg_cd 115 88 = (5, 1, 0, 0, 0) := by decide +kernel
theorem c_115_89 : pg_cd 115 89 = (45, 9, 25, 2, 0) := by decide +kernel
theorem c_115_92 : pg_cd 115 92 = (3, 2, 0, 5, 0) := by decide +kernel
theorem c_115_94 : pg_cd 115 94 = (5, 1, 0, 3, 0) := by decide +kernel
theorem c_115_95 : pg_cd 115 95 = (3, 2, 0, 4, 0) := by decide +kernel
theorem c_115_97 : pg_cd 115 97 = (5, 1, 0, 1, 0) := by decide +kernel
theorem c_115_98 : pg_cd 115 98 = (45, 8, 143, 5, 0) := by decide +kernel
theorem c_115_101 : pg_cd 115 101 = (3, 2, 0, 5, 0) := by decide +kernel
theorem c_115_103 : pg_cd 115 103 = (1, 1, 0, 0, 1) := by decide +kernel
theorem c_115_104 : pg_cd 115 104 = (80, 55, 118, 0, 0) := by decide +kernel
theorem c_115_107 : pg_cd 115 107 = (81, 16, 146, 0, 0) := by decide +kernel
theorem c_115_110 : pg_cd 115 110 = (54, 1, 0, 0, 0) := by decide +kernel
theorem c_115_111 : pg_cd 115 111 = (9, 3, 0, 5, 1) := by decide +kernel
theorem c_115_114 : pg_cd 115 114 = (38, 3, 0, 0, (-59)) := by decide +kernel
theorem c_115_117 : pg_cd 115 117 = (9, 3, 0, 2, 1) := by decide +kernel
theorem c_115_120 : pg_cd 115 120 = (38, 3, 0, 0, (-118)) := by decide +kernel
theorem c_115_123 : pg_cd 115 123 = (94, 0, 0, 0, 0) := by decide +kernel
theorem mi_115 : pg_mc 115 = 9 ∧ pg_na 115 = 1 ∧ pg_mx 115 = 6 := by decide +kernel
set_option maxRecDepth 20000 in
theorem u_115_0 {d : Nat} {S : zS} {σ τ : zI} {Q : zQ} {x1 : Nat} (hx1 : tw x1) (t : wi (d + 13) 115 2 [.ref 53, .ref x1, .int (wI 0), .retAddr 0, .retAddr 0, .retAddr 0] [] S σ τ Q) : wi (d + 13) 115 0 [.ref 53, .ref x1, .retAddr 0, .retAddr 0, .retAddr 0, .retAddr 0] [] S σ τ Q := by
  refine i1 c_115_0 (i6 (L' := [.ref 53, .ref x1, .int (wI 0), .retAddr 0, .retAddr 0, .retAddr 0]) c_115_1 rfl t)
set_option maxRecDepth 20000 in
theorem u_115_2 {d : Nat} {S : zS} {σ τ : zI} {Q : zQ} {x1 : Nat} {x2 : Int} {y3 : Value} {y4 : Value} {y5 : Value} (hx1 : tw x1) (t : (rg x2) ∧ if (σ (x1 + 5) 2) ≤ x2 then (Q none S σ τ) else (∃ a4 : Int → Int, ∃ sort5 : Int, (RT σ x1 a4) ∧ (RX S σ a4) ∧ (Jl a4) ∧ (jv_T a4) ∧ ((sort5 = (1 : Int) ∧ 7 = (3 : Int)) ∨ ((6 : Int) ≤ sort5 ∧ sort5 ≤ 9 ∧ 7 = sort5)) ∧ ((r_fc a4 sort5 x2 (σ x1 8) (σ x1 8) < 0 → ∃ a16 : Int → Int, (RT σ x1 a16) ∧ (RX S σ a16) ∧ (Jl a16) ∧ (jv_T a16) ∧ wi (d + 13) 115 55 [.ref 53, .ref x1, .int (wI x2), .null, .int (wI (r_most a16 8 x2 (σ x1 8) (σ x1 8) + r_most a16 9 x2 (σ x1 8) (σ x1 8))), .int (wI 0)] [] S σ τ Q) ∧ ∀ j11 : Nat, oT S j11 → 0 ≤ r_fc a4 sort5 x2 (σ x1 8) (σ x1 8) → TX σ j11 a4 (a4 (5012 + 8 * r_fc a4 sort5 x2 (σ x1 8) (σ x1 8))) → ∃ a21 : Int → Int, (RT σ x1 a21) ∧ (RX S σ a21) ∧ (Jl a21) ∧ (jv_T a21) ∧ wi (d + 13) 115 55 [.ref 53, .ref x1, .int (wI x2), .ref j11, .int (wI (r_most a21 8 x2 (σ x1 8) (σ x1 8) + r_most a21 9 x2 (σ x1 8) (σ x1 8))), .int (wI 0)] [] S σ τ Q))) : wi (d + 13) 115 2 [.ref 53, .ref x1, .int (wI x2), y3, y4, y5] [] S σ τ Q := by
  refine i3 c_115_2 rfl (i5 c_115_3 rfl (i45 c_115_4 (lo (lyt_0 hx1) (by have := tw_b hx1; omega)) (lro (lrt_2 hx1)) (wi_ok (fun K1 => ?_))))
  obtain ⟨r2, t⟩ := t
  refine i43 (v := σ (x1 + 5) 2) c_115_7 (lo (lyt_5 hx1) (by have := tw_b hx1; omega)) rfl ?_
  refine i37 c_115_10 r2 (rge_ K1 rfl) rfl (fun hc => ?_) (fun hc => ?_)
  · have t := iT t hc
    have ha3 : (σ (x1 + 5) 2) ≤ x2 := hc
    exact i94 c_115_123 t
  · have t := iF t hc
    have ha3 : ¬ ((σ (x1 + 5) 2) ≤ x2) := hc
    obtain ⟨a4, t⟩ := t
    obtain ⟨sort5, t⟩ := t
    obtain ⟨p6, t⟩ := t
    obtain ⟨p7, t⟩ := t
    obtain ⟨p8, t⟩ := t
    obtain ⟨p9, t⟩ := t
    obtain ⟨p10, t⟩ := t
    refine i5 c_115_13 rfl (i45 c_115_14 (lo (c := 53) (kd := 109) (n := 0) rfl (by decide)) (lro (c := 53) (k := 0) (j := 54) (by decide)) (i5 c_115_17 rfl (i1 c_115_18 (i3 c_115_20 rfl (i5 c_115_21 rfl (i43 (v := σ x1 8) c_115_22 (lo (lyt_0 hx1) (by have := tw_b hx1; omega)) rfl (i5 c_115_25 rfl (i43 (v := σ x1 8) c_115_26 (lo (lyt_0 hx1) (by have := tw_b hx1; omega)) rfl ?_))))))))
    refine i80 (As := [.ref x1, .int (wI 7), .int (wI x2), .int (wI (σ x1 8)), .int (wI (σ x1 8))]) (rest := []) c_115_29 mi_13 rfl rfl (Nat.le_of_ble_eq_true rfl) (Nat.le_of_ble_eq_true rfl) (lo (c := 54) (kd := 101) (n := 0) rfl (by decide)) (q_13 (a := a4) (sort := sort5) hx1 p6 p7 p8 p9 p10 r2 (rge_ K1 rfl) (rge_ K1 rfl) (fun hn12 => ?_) (fun j11 q13 q14 q15 => ?_))
    · have t := t.1 hn12
      show wi (d + 13) 115 32 [.ref 53, .ref x1, .int (wI x2), y3, y4, y5] [.null] S σ τ Q
      obtain ⟨a16, t⟩ := t
      obtain ⟨p17, t⟩ := t
      obtain ⟨p18, t⟩ := t
      obtain ⟨p19, t⟩ := t
      obtain ⟨p20, t⟩ := t
      refine i8n (L' := [.ref 53, .ref x1, .int (wI x2), .null, y4, y5]) c_115_32 rfl (i5 c_115_33 rfl (i45 c_115_34 (lo (c := 53) (kd := 109) (n := 0) rfl (by decide)) (lro (c := 53) (k := 0) (j := 54) (by decide)) (i5 c_115_37 rfl (i3 c_115_38 rfl (i5 c_115_39 rfl (i43 (v := σ x1 8) c_115_40 (lo (lyt_0 hx1) (by have := tw_b hx1; omega)) rfl (i5 c_115_43 rfl (i43 (v := σ x1 8) c_115_44 (lo (lyt_0 hx1) (by have := tw_b hx1; omega)) rfl ?_))))))))
      refine i80 (As := [.ref x1, .int (wI x2), .int (wI (σ x1 8)), .int (wI (σ x1 8))]) (rest := []) c_115_47 mi_15 rfl rfl (Nat.le_of_ble_eq_true rfl) (Nat.le_of_ble_eq_true rfl) (lo (c := 54) (kd := 101) (n := 0) rfl (by decide)) (q_15 (a := a16) hx1 p17 p18 p19 p20 r2 (rge_ K1 rfl) (rge_ K1 rfl) ?_)
      show wi (d + 13) 115 50 [.ref 53, .ref x1, .int (wI x2), .null, y4, y5] [.int (wI (r_most a16 8 x2 (σ x1 8) (σ x1 8) + r_most a16 9 x2 (σ x1 8) (σ x1 8)))] S σ τ Q
      refine i6 (L' := [.ref 53, .ref x1, .int (wI x2), .null, .int (wI (r_most a16 8 x2 (σ x1 8) (σ x1 8) + r_most a16 9 x2 (σ x1 8) (σ x1 8))), y5]) c_115_50 rfl (i1 c_115_52 (i6 (L' := [.ref 53, .ref x1, .int (wI x2), .null, .int (wI (r_most a16 8 x2 (σ x1 8) (σ x1 8) + r_most a16 9 x2 (σ x1 8) (σ x1 8))), .int (wI 0)]) c_115_53 rfl t))
    · have t := t.2 j11 q13 q14 q15
      have hj11 := q13
      show wi (d + 13) 115 32 [.ref 53, .ref x1, .int (wI x2), y3, y4, y5] [.ref j11] S σ τ Q
      obtain ⟨a21, t⟩ := t
      obtain ⟨p22, t⟩ := t
      obtain ⟨p23, t⟩ := t
      obtain ⟨p24, t⟩ := t
      obtain ⟨p25, t⟩ := t
      refine i8 (L' := [.ref 53, .ref x1, .int (wI x2), .ref j11, y4, y5]) c_115_32 rfl (i5 c_115_33 rfl (i45 c_115_34 (lo (c := 53) (kd := 109) (n := 0) rfl (by decide)) (lro (c := 53) (k := 0) (j := 54) (by decide)) (i5 c_115_37 rfl (i3 c_115_38 rfl (i5 c_115_39 rfl (i43 (v := σ x1 8) c_115_40 (lo (lyt_0 hx1) (by have := tw_b hx1; omega)) rfl (i5 c_115_43 rfl (i43 (v := σ x1 8) c_115_44 (lo (lyt_0 hx1) (by have := tw_b hx1; omega)) rfl ?_))))))))
      refine i80 (As := [.ref x1, .int (wI x2), .int (wI (σ x1 8)), .int (wI (σ x1 8))]) (rest := []) c_115_47 mi_15 rfl rfl (Nat.le_of_ble_eq_true rfl) (Nat.le_of_ble_eq_true rfl) (lo (c := 54) (kd := 101) (n := 0) rfl (by decide)) (q_15 (a := a21) hx1 p22 p23 p24 p25 r2 (rge_ K1 rfl) (rge_ K1 rfl) ?_)
      show wi (d + 13) 115 50 [.ref 53, .ref x1, .int (wI x2), .ref j11, y4, y5] [.int (wI (r_most a21 8 x2 (σ x1 8) (σ x1 8) + r_most a21 9 x2 (σ x1 8) (σ x1 8)))] S σ τ Q
      refine i6 (L' := [.ref 53, .ref x1, .int (wI x2), .ref j11, .int (wI (r_most a21 8 x2 (σ x1 8) (σ x1 8) + r_most a21 9 x2 (σ x1 8) (σ x1 8))), y5]) c_115_50 rfl (i1 c_115_52 (i6 (L' := [.ref 53, .ref x1, .int (wI x2), .ref j11, .int (wI (r_most a21 8 x2 (σ x1 8) (σ x1 8) + r_most a21 9 x2 (σ x1 8) (σ x1 8))), .int (wI 0)]) c_115_53 rfl t))
set_option maxRecDepth 20000 in
theorem u_115_55 {d : Nat} {S : zS} {σ τ : zI} {Q : zQ} {x1 : Nat} {x2 : Int} {x4 : Int} {x5 : Int} (hx1 : tw x1) (t : (rg x5) ∧ if (σ (x1 + 11) 2) ≤ x5 then (wi (d + 13) 115 2 [.ref 53, .ref x1, .int (wI (x2 + 1)), .null, .int (wI x4), .int (wI x5)] [] S σ τ Q) else (if (60 : Int) ≤ x5 then (wi (d + 13) 115 2 [.ref 53, .ref x1, .int (wI (x2 + 1)), .null, .int (wI x4), .int (wI x5)] [] S σ τ Q) else ((rg x2) ∧ if (rt_ (σ (x1 + 11) 2) (σ (x1 + 12)) 9 4 x5) = x2 then ((0 ≤ x4 ∧ x4 ≤ 40) ∧ (0 ≤ x5 ∧ x5 < 60) ∧ ∃ w9 : Int, wI w9 = wI (max (60 - x4) 0) ∧ rg w9 ∧ wi (d + 13) 115 55 [.ref 53, .ref x1, .int (wI x2), .null, .int (wI x4), .int (wI (x5 + 1))] [] S (uc σ 60 (u1 (σ 60) x5 w9)) τ Q) else (wi (d + 13) 115 55 [.ref 53, .ref x1, .int (wI x2), .null, .int (wI x4), .int (wI (x5 + 1))] [] S σ τ Q)))) : wi (d + 13) 115 55 [.ref 53, .ref x1, .int (wI x2), .null, .int (wI x4), .int (wI x5)] [] S σ τ Q := by
  refine i3 c_115_55 rfl (i5 c_115_57 rfl (i45 c_115_58 (lo (lyt_0 hx1) (by have := tw_b hx1; omega)) (lro (lrt_5 hx1)) (wi_ok (fun K1 => ?_))))
  obtain ⟨r2, t⟩ := t
  refine i43 (v := σ (x1 + 11) 2) c_115_61 (lo (lyt_11 hx1) (by have := tw_b hx1; omega)) rfl ?_
  refine i37 c_115_64 r2 (rge_ K1 rfl) rfl (fun hc => ?_) (fun hc => ?_)
  · have t := iT t hc
    have ha3 : (σ (x1 + 11) 2) ≤ x5 := hc
    refine i9 (L' := [.ref 53, .ref x1, .int (wI (x2 + 1)), .null, .int (wI x4), .int (wI x5)]) c_115_117 rfl rfl (i38 c_115_120 rfl t)
  · have t := iF t hc
    have ha3 : ¬ ((σ (x1 + 11) 2) ≤ x5) := hc
    refine i3 c_115_67 rfl (i1 c_115_69 ?_)
    refine i37 c_115_71 r2 (by decide) rfl (fun hc => ?_) (fun hc => ?_)
    · have t := iT t hc
      have ha4 : (60 : Int) ≤ x5 := hc
      refine i9 (L' := [.ref 53, .ref x1, .int (wI (x2 + 1)), .null, .int (wI x4), .int (wI x5)]) c_115_117 rfl rfl (i38 c_115_120 rfl t)
    · have t := iF t hc
      have ha4 : ¬ ((60 : Int) ≤ x5) := hc
      refine i5 c_115_74 rfl (i45 c_115_75 (lo (lyt_0 hx1) (by have := tw_b hx1; omega)) (lro (lrt_5 hx1)) (i3 c_115_78 rfl (i1 c_115_80 ?_)))
      refine i80 (As := [.int (wI x5), .int (wI 4)]) (rest := []) c_115_81 mi_55 rfl rfl (Nat.le_of_ble_eq_true rfl) (Nat.le_of_ble_eq_true rfl) (lo (lyt_11 hx1) (by have := tw_b hx1; omega)) (q_at (ow_persons hx1) r2 (by decide) ?_)
      show wi (d + 13) 115 84 [.ref 53, .ref x1, .int (wI x2), .null, .int (wI x4), .int (wI x5)] [.int (wI (rt_ (σ (x1 + 11) 2) (σ (x1 + 12)) 9 4 x5))] S σ τ Q
      obtain ⟨r5, t⟩ := t
      refine i3 c_115_84 rfl ?_
      refine i37 c_115_85 (rg_rt_ (fun k => kO_r K1 _ k) _ _ _ _) r5 rfl (fun hc => ?_) (fun hc => ?_)
      · have t := iF t hc
        have ha6 : ¬ ((rt_ (σ (x1 + 11) 2) (σ (x1 + 12)) 9 4 x5) = x2) := hc
        refine i9 (L' := [.ref 53, .ref x1, .int (wI x2), .null, .int (wI x4), .int (wI (x5 + 1))]) c_115_111 rfl rfl (i38 c_115_114 rfl t)
      · have t := iT t (Decidable.not_not.mp hc)
        have ha6 : (rt_ (σ (x1 + 11) 2) (σ (x1 + 12)) 9 4 x5) = x2 := Decidable.not_not.mp hc
        refine i5 c_115_88 rfl (i45 c_115_89 (lo (c := 53) (kd := 109) (n := 0) rfl (by decide)) (lro (c := 53) (k := 2) (j := 60) (by decide)) (i3 c_115_92 rfl (i5n c_115_94 rfl (i3 c_115_95 rfl (i5 c_115_97 rfl (i45 c_115_98 (lo (lyt_0 hx1) (by have := tw_b hx1; omega)) (lro (lrt_5 hx1)) (i3 c_115_101 rfl (i1 c_115_103 ?_))))))))
        refine i80 (As := [.int (wI x5), .int (wI 1)]) (rest := [.int (wI x4), .null, .int (wI x5), .ref 60]) c_115_104 mi_55 rfl rfl (Nat.le_of_ble_eq_true rfl) (Nat.le_of_ble_eq_true rfl) (lo (lyt_11 hx1) (by have := tw_b hx1; omega)) (q_at (ow_persons hx1) r2 (by decide) ?_)
        show wi (d + 13) 115 107 [.ref 53, .ref x1, .int (wI x2), .null, .int (wI x4), .int (wI x5)] [.int (wI (rt_ (σ (x1 + 11) 2) (σ (x1 + 12)) 9 1 x5)), .int (wI x4), .null, .int (wI x5), .ref 60] S σ τ Q
        obtain ⟨p7, t⟩ := t
        refine i81 (As := [.null, .int (wI x4), .int (wI (rt_ (σ (x1 + 11) 2) (σ (x1 + 12)) 9 1 x5))]) (rest := [.int (wI x5), .ref 60]) c_115_107 mi_16 rfl rfl (Nat.le_of_ble_eq_true rfl) (Nat.le_of_ble_eq_true rfl) (qn_16 p7 ?_)
        show wi (d + 13) 115 110 [.ref 53, .ref x1, .int (wI x2), .null, .int (wI x4), .int (wI x5)] [.int (wI (max (60 - x4) 0)), .int (wI x5), .ref 60] S σ τ Q
        obtain ⟨r8, t⟩ := t
        obtain ⟨w9, e10, r11, t⟩ := t
        refine i54 (σ1 := uc σ 60 (u1 (σ 60) x5 w9)) c_115_110 (lo (c := 60) (kd := 0) (n := 60) rfl (by decide)) (by decide) r8 (by decide) e10 r11 (wr_ rfl rfl) (i9 (L' := [.ref 53, .ref x1, .int (wI x2), .null, .int (wI x4), .int (wI (x5 + 1))]) c_115_111 rfl rfl (i38 c_115_114 rfl t))
set_option maxRecDepth 20000 in
theorem u_115_55t {d : Nat} {S : zS} {σ τ : zI} {Q : zQ} {x1 : Nat} {x2 : Int} {x3 : Nat} {x4 : Int} {x5 : Int} (hx1 : tw x1) (hx3 : oT S x3) (t : (rg x5) ∧ if (σ (x1 + 11) 2) ≤ x5 then (wi (d + 13) 115 2 [.ref 53, .ref x1, .int (wI (x2 + 1)), .ref x3, .int (wI x4), .int (wI x5)] [] S σ τ Q) else (if (60 : Int) ≤ x5 then (wi (d + 13) 115 2 [.ref 53, .ref x1, .int (wI (x2 + 1)), .ref x3, .int (wI x4), .int (wI x5)] [] S σ τ Q) else ((rg x2) ∧ if (rt_ (σ (x1 + 11) 2) (σ (x1 + 12)) 9 4 x5) = x2 then (∃ a7 : Int → Int, ∃ n8 : Int, (TX σ x3 a7 n8) ∧ (jv_T a7) ∧ (0 ≤ n8 ∧ n8 < a7 5) ∧ (0 ≤ x4 ∧ x4 ≤ 40) ∧ (0 ≤ x5 ∧ x5 < 60) ∧ ∃ w14 : Int, wI w14 = wI (max ((if r_ag a7 n8 (rt_ (σ (x1 + 11) 2) (σ (x1 + 12)) 9 1 x5) (a7 (5500 + 840 * n8)) < 0 then 0 else r_ag a7 n8 (rt_ (σ (x1 + 11) 2) (σ (x1 + 12)) 9 1 x5) (a7 (5500 + 840 * n8))) - x4) 0) ∧ rg w14 ∧ wi (d + 13) 115 55 [.ref 53, .ref x1, .int (wI x2), .ref x3, .int (wI x4), .int (wI (x5 + 1))] [] S (uc σ 60 (u1 (σ 60) x5 w14)) τ Q) else (wi (d + 13) 115 55 [.ref 53, .ref x1, .int (wI x2), .ref x3, .int (wI x4), .int (wI (x5 + 1))] [] S σ τ Q)))) : wi (d + 13) 115 55 [.ref 53, .ref x1, .int (wI x2), .ref x3, .int (wI x4), .int (wI x5)] [] S σ τ Q := by
  refine i3 c_115_55 rfl (i5 c_115_57 rfl (i45 c_115_58 (lo (lyt_0 hx1) (by have := tw_b hx1; omega)) (lro (lrt_5 hx1)) (wi_ok (fun K1 => ?_))))
  obtain ⟨r2, t⟩ := t
  refine i43 (v := σ (x1 + 11) 2) c_115_61 (lo (lyt_11 hx1) (by have := tw_b hx1; omega)) rfl ?_
  refine i37 c_115_64 r2 (rge_ K1 rfl) rfl (fun hc => ?_) (fun hc => ?_)
  · have t := iT t hc
    have ha3 : (σ (x1 + 11) 2) ≤ x5 := hc
    refine i9 (L' := [.ref 53, .ref x1, .int (wI (x2 + 1)), .ref x3, .int (wI x4), .int (wI x5)]) c_115_117 rfl rfl (i38 c_115_120 rfl t)
  · have t := iF t hc
    have ha3 : ¬ ((σ (x1 + 11) 2) ≤ x5) := hc
    refine i3 c_115_67 rfl (i1 c_115_69 ?_)
    refine i37 c_115_71 r2 (by decide) rfl (fun hc => ?_) (fun hc => ?_)
    · have t := iT t hc
      have ha4 : (60 : Int) ≤ x5 := hc
      refine i9 (L' := [.ref 53, .ref x1, .int (wI (x2 + 1)), .ref x3, .int (wI x4), .int (wI x5)]) c_115_117 rfl rfl (i38 c_115_120 rfl t)
    · have t := iF t hc
      have ha4 : ¬ ((60 : Int) ≤ x5) := hc
      refine i5 c_115_74 rfl (i45 c_115_75 (lo (lyt_0 hx1) (by have := tw_b hx1; omega)) (lro (lrt_5 hx1)) (i3 c_115_78 rfl (i1 c_115_80 ?_)))
      refine i80 (As := [.int (wI x5), .int (wI 4)]) (rest := []) c_115_81 mi_55 rfl rfl (Nat.le_of_ble_eq_true rfl) (Nat.le_of_ble_eq_true rfl) (lo (lyt_11 hx1) (by have := tw_b hx1; omega)) (q_at (ow_persons hx1) r2 (by decide) ?_)
      show wi (d + 13) 115 84 [.ref 53, .ref x1, .int (wI x2), .ref x3, .int (wI x4), .int (wI x5)] [.int (wI (rt_ (σ (x1 + 11) 2) (σ (x1 + 12)) 9 4 x5))] S σ τ Q
      obtain ⟨r5, t⟩ := t
      refine i3 c_115_84 rfl ?_
      refine i37 c_115_85 (rg_rt_ (fun k => kO_r K1 _ k) _ _ _ _) r5 rfl (fun hc => ?_) (fun hc => ?_)
      · have t := iF t hc
        have ha6 : ¬ ((rt_ (σ (x1 + 11) 2) (σ (x1 + 12)) 9 4 x5) = x2) := hc
        refine i9 (L' := [.ref 53, .ref x1, .int (wI x2), .ref x3, .int (wI x4), .int (wI (x5 + 1))]) c_115_111 rfl rfl (i38 c_115_114 rfl t)
      · have t := iT t (Decidable.not_not.mp hc)
        have ha6 : (rt_ (σ (x1 + 11) 2) (σ (x1 + 12)) 9 4 x5) = x2 := Decidable.not_not.mp hc
        refine i5 c_115_88 rfl (i45 c_115_89 (lo (c := 53) (kd := 109) (n := 0) rfl (by decide)) (lro (c := 53) (k := 2) (j := 60) (by decide)) (i3 c_115_92 rfl (i5 c_115_94 rfl (i3 c_115_95 rfl (i5 c_115_97 rfl (i45 c_115_98 (lo (lyt_0 hx1) (by have := tw_b hx1; omega)) (lro (lrt_5 hx1)) (i3 c_115_101 rfl (i1 c_115_103 ?_))))))))
        refine i80 (As := [.int (wI x5), .int (wI 1)]) (rest := [.int (wI x4), .ref x3, .int (wI x5), .ref 60]) c_115_104 mi_55 rfl rfl (Nat.le_of_ble_eq_true rfl) (Nat.le_of_ble_eq_true rfl) (lo (lyt_11 hx1) (by have := tw_b hx1; omega)) (q_at (ow_persons hx1) r2 (by decide) ?_)
        show wi (d + 13) 115 107 [.ref 53, .ref x1, .int (wI x2), .ref x3, .int (wI x4), .int (wI x5)] [.int (wI (rt_ (σ (x1 + 11) 2) (σ (x1 + 12)) 9 1 x5)), .int (wI x4), .ref x3, .int (wI x5), .ref 60] S σ τ Q
        obtain ⟨a7, t⟩ := t
        obtain ⟨n8, t⟩ := t
        obtain ⟨p9, t⟩ := t
        obtain ⟨p10, t⟩ := t
        obtain ⟨p11, t⟩ := t
        obtain ⟨p12, t⟩ := t
        refine i81 (As := [.ref x3, .int (wI x4), .int (wI (rt_ (σ (x1 + 11) 2) (σ (x1 + 12)) 9 1 x5))]) (rest := [.int (wI x5), .ref 60]) c_115_107 mi_16 rfl rfl (Nat.le_of_ble_eq_true rfl) (Nat.le_of_ble_eq_true rfl) (q_16 (a := a7) (n := n8) hx3 p9 p10 p11 p12 (rg_rt_ (fun k => kO_r K1 _ k) _ _ _ _) ?_)
        show wi (d + 13) 115 110 [.ref 53, .ref x1, .int (wI x2), .ref x3, .int (wI x4), .int (wI x5)] [.int (wI (max ((if r_ag a7 n8 (rt_ (σ (x1 + 11) 2) (σ (x1 + 12)) 9 1 x5) (a7 (5500 + 840 * n8)) < 0 then 0 else r_ag a7 n8 (rt_ (σ (x1 + 11) 2) (σ (x1 + 12)) 9 1 x5) (a7 (5500 + 840 * n8))) - x4) 0)), .int (wI x5), .ref 60] S σ τ Q
        obtain ⟨r13, t⟩ := t
        obtain ⟨w14, e15, r16, t⟩ := t
        refine i54 (σ1 := uc σ 60 (u1 (σ 60) x5 w14)) c_115_110 (lo (c := 60) (kd := 0) (n := 60) rfl (by decide)) (by decide) r13 (by decide) e15 r16 (wr_ rfl rfl) (i9 (L' := [.ref 53, .ref x1, .int (wI x2), .ref x3, .int (wI x4), .int (wI (x5 + 1))]) c_115_111 rfl rfl (i38 c_115_114 rfl t))
theorem q_115 {d : Nat} {S : zS} {σ τ : zI} {Q : zQ} {tn : Nat} {a : Int → Int} (htn : tw tn) (p0 : CB0 σ tn a) (p1 : RX S σ a) (p2 : Jv a) (p3 : jv_T a) (p4 : a 0 ≤ 399) (p5 : (∀ p, 0 ≤ p → p < 60 → σ 60 p = 0)) (t : ∀ (σ1 : zI), (∀ c, c ≠ 60 → σ1 c = σ c) → (∀ p, 0 ≤ p → p < a 4 → σ1 60 p = wk_h a p) → Q none S σ1 τ) : wc (d + 13) 115 [.ref 53, .ref tn] S σ τ Q := by
  have hC := jC p2
  have hC' := hC
  unfold jv_C at hC
  have tb := tw_b htn
  have cp := (cs_P p0.1).1
  have cm := (cs_M p0.1).1
  have c0 : σ tn 8 = a 0 := (cs_R p0.1).1.1
  refine wc_of mi_115 rfl (u_115_0 htn ?_)
  have key : ∀ m, 0 ≤ m → m ≤ a 1 → ∀ σ' : zI, (∀ c, c ≠ 60 → σ' c = σ c) → HRi σ' a m 0 → ∀ y3 y4 y5, wi (d + 13) 115 2 [.ref 53, .ref tn, .int (wI m), y3, y4, y5] [] S σ' τ Q := by
    refine lp_up (fun m m0 m1 ih => ?_)
    intro σ' f hr y3 y4 y5
    have cs : CB0 σ' tn a := CB0_f (fun c hc => f c (by omega)) p0
    have rt := CB0_RT hC' cs
    have rx : RX S σ' (wk_b0 a) := RX_e (eB_L b0_B) p3 (RX_f p1 (fun c hc => f c (by omega)))
    have jl := eB_l b0_B hC' (Jl_of p2)
    have jt := jT_c (eB_L b0_B) hC' p3
    refine u_115_2 htn ?_
    rw [f (tn + 5) (by omega), cm, f tn (by omega), c0]
    refine ⟨by omega, ifI (fun e => ?_) (fun e => ?_)⟩
    · have e : m = a 1 := by omega
      subst e
      refine t σ' f (fun p q0 q1 => ?_)
      have hP := jP p2 p q0 q1
      rw [hr p q0 q1]
      by_cases c : 0 ≤ a (3652 + 12 * p + 4)
      · rw [if_pos (by omega)]
      · rw [if_neg (by omega)]; unfold wk_h; rw [if_pos (by omega)]
    · have ih := ih (by omega)
      have fb := r_fc_b (a := wk_b0 a) (sort := 7) (mill := m) (week := a 0) (known := a 0) (by have := lC jl; unfold jv_C at this; omega)
      have mb : 0 ≤ r_most (wk_b0 a) 8 m (a 0) (a 0) + r_most (wk_b0 a) 9 m (a 0) (a 0) ∧ r_most (wk_b0 a) 8 m (a 0) (a 0) + r_most (wk_b0 a) 9 m (a 0) (a 0) ≤ 40 := by
        have x1 := r_most_b (s := 8) (mill := m) (week := a 0) (known := a 0) jl jt (by omega)
        have x2 := r_most_b (s := 9) (mill := m) (week := a 0) (known := a 0) jl jt (by omega)
        omega
      have hv : ∀ p, 0 ≤ p → p < a 4 → a (3652 + 12 * p + 4) = m → ∀ x, x = r_ages (wk_b0 a) (a (3652 + 12 * p + 1)) m (a 0) (a 0) → max ((if x < 0 then 0 else x) - (r_most (wk_b0 a) 8 m (a 0) (a 0) + r_most (wk_b0 a) 9 m (a 0) (a 0))) 0 = wk_h a p := fun p q0 q1 hm x hx => by
        rw [hours_eq hx, hours_c (eB_L b0_B) (Jl_of p2) p3]
        unfold wk_h
        rw [if_neg (by omega), hm]
      have wb := wk_h_b (Jl_of p2) p3
      have nx : ∀ (σ2 : zI) q, HRi σ2 a m q → q = a 4 → HRi σ2 a (m + 1) 0 := fun σ2 q h2 hq p q0 q1 => by
        rw [h2 p q0 q1]
        by_cases c : (0 ≤ a (3652 + 12 * p + 4) ∧ a (3652 + 12 * p + 4) < m) ∨ (a (3652 + 12 * p + 4) = m ∧ p < q)
        · rw [if_pos c, if_pos (by omega)]
        · rw [if_neg c, if_neg (by omega)]
      have st : ∀ (σ2 : zI) q, 0 ≤ q → q < a 4 → HRi σ2 a m q → (∀ w, a (3652 + 12 * q + 4) = m → w = wk_h a q → HRi (uc σ2 60 (u1 (σ2 60) q w)) a m (q + 1)) ∧ (a (3652 + 12 * q + 4) ≠ m → HRi σ2 a m (q + 1)) := fun σ2 q q0 q1 h2 => by
        refine ⟨fun w hm hw p r0 r1 => ?_, fun hm p r0 r1 => ?_⟩
        · rw [uc_s]
          by_cases ex : p = q
          · subst ex; rw [u1_s, if_pos (by omega), hw]
          · rw [u1_n ex, h2 p r0 r1]
            by_cases c : (0 ≤ a (3652 + 12 * p + 4) ∧ a (3652 + 12 * p + 4) < m) ∨ (a (3652 + 12 * p + 4) = m ∧ p < q)
            · rw [if_pos c, if_pos (by omega)]
            · rw [if_neg c, if_neg (by omega)]
        · rw [h2 p r0 r1]
          by_cases c : (0 ≤ a (3652 + 12 * p + 4) ∧ a (3652 + 12 * p + 4) < m) ∨ (a (3652 + 12 * p + 4) = m ∧ p < q)
          · rw [if_pos c, if_pos (by omega)]
          · rw [if_neg c, if_neg (fun z => c (by
              rcases z with z | z
              · exact Or.inl z
              · by_cases ex : p = q
                · rw [ex] at z; exact absurd z.1 hm
                · exact Or.inr ⟨z.1, by omega⟩))]
      have vv : ∀ (σ2 : zI), (∀ c, c ≠ 60 → σ2 c = σ c) → ∀ q k, 0 ≤ q → q < a 4 → 0 ≤ k → k ≤ 7 → rt_ (a 4) (σ2 (tn + 12)) 9 k q = a (3652 + 12 * q + k) := fun σ2 g q k q0 q1 k0 k1 => by
        have cs2 : CB0 σ2 tn a := CB0_f (fun c hc => g c (by omega)) p0
        have := vp cs2.1 (p := q) (k := k) ⟨q0, q1⟩ ⟨k0, k1⟩
        rw [(cs_P cs2.1).1] at this
        exact this
      refine ⟨wk_b0 a, 7, rt, rx, jl, jt, by omega, fun hf => ⟨wk_b0 a, rt, rx, jl, jt, ?_⟩, fun j oj hf tx => ⟨wk_b0 a, rt, rx, jl, jt, ?_⟩⟩
      · have pers : ∀ q, 0 ≤ q → q ≤ a 4 → ∀ σ2 : zI, (∀ c, c ≠ 60 → σ2 c = σ c) → HRi σ2 a m q → wi (d + 13) 115 55 [.ref 53, .ref tn, .int (wI m), .null, .int (wI (r_most (wk_b0 a) 8 m (a 0) (a 0) + r_most (wk_b0 a) 9 m (a 0) (a 0))), .int (wI q)] [] S σ2 τ Q := by
          refine lp_up (fun q q0 q1 ih2 => ?_)
          intro σ2 g h2
          refine u_115_55 htn ?_
          rw [g (tn + 11) (by omega), cp]
          refine ⟨by omega, ifI (fun e1 => ih σ2 g (nx σ2 q h2 (by omega)) _ _ _) (fun e1 => ifI (fun e2 => by omega) (fun e2 => ⟨by omega, ?_⟩))⟩
          have ih2 := ih2 (by omega)
          rw [vv σ2 g q 4 q0 (by omega) (by omega) (by omega)]
          have s := st σ2 q q0 (by omega) h2
          refine ifI (fun e3 => ⟨mb, by omega, max (60 - (r_most (wk_b0 a) 8 m (a 0) (a 0) + r_most (wk_b0 a) 9 m (a 0) (a 0))) 0, rfl, by omega, ih2 _ (fun c hc => by rw [uc_n hc]; exact g c hc) (s.1 _ e3 ?_)⟩) (fun e3 => ih2 σ2 g (s.2 e3))
          have := hv q q0 (by omega) e3 60 (by unfold r_ages; rw [if_pos hf])
          rw [if_neg (by omega)] at this
          exact this
        exact pers 0 (by omega) (by omega) σ' f hr
      · have fb2 := ft_b jl jt (sort := 7) (mill := m) (week := a 0) (known := a 0) (by omega)
        have pers : ∀ q, 0 ≤ q → q ≤ a 4 → ∀ σ2 : zI, (∀ c, c ≠ 60 → σ2 c = σ c) → HRi σ2 a m q → wi (d + 13) 115 55 [.ref 53, .ref tn, .int (wI m), .ref j, .int (wI (r_most (wk_b0 a) 8 m (a 0) (a 0) + r_most (wk_b0 a) 9 m (a 0) (a 0))), .int (wI q)] [] S σ2 τ Q := by
          refine lp_up (fun q q0 q1 ih2 => ?_)
          intro σ2 g h2
          refine u_115_55t htn oj ?_
          rw [g (tn + 11) (by omega), cp]
          refine ⟨by omega, ifI (fun e1 => ih σ2 g (nx σ2 q h2 (by omega)) _ _ _) (fun e1 => ifI (fun e2 => by omega) (fun e2 => ⟨by omega, ?_⟩))⟩
          have ih2 := ih2 (by omega)
          rw [vv σ2 g q 4 q0 (by omega) (by omega) (by omega), vv σ2 g q 1 q0 (by omega) (by omega) (by omega)]
          have s := st σ2 q q0 (by omega) h2
          refine ifI (fun e3 => ?_) (fun e3 => ih2 σ2 g (s.2 e3))
          have h60 := hv q q0 (by omega) e3 (r_ag (wk_b0 a) (wk_b0 a (5012 + 8 * r_fc (wk_b0 a) 7 m (a 0) (a 0))) (a (3652 + 12 * q + 1)) (wk_b0 a (5500 + 840 * wk_b0 a (5012 + 8 * r_fc (wk_b0 a) 7 m (a 0) (a 0))))) (by unfold r_ages; rw [if_neg (by omega)])
          refine ⟨wk_b0 a, _, TX_f tx (fun c hc _ => by have := oT_b oj; rw [g c (by omega), ← f c (by omega)]), jt, fb2.1, mb, by omega, wk_h a q, by rw [h60], by have := wb q; omega, ih2 _ (fun c hc => by rw [uc_n hc]; exact g c hc) (s.1 _ e3 rfl)⟩
        exact pers 0 (by omega) (by omega) σ' f hr
  refine key 0 (by omega) (by omega) σ (fun _ _ => rfl) (fun p q0 q1 => ?_) _ _ _
  rw [p5 p q0 (by omega), if_neg (by omega)]
