/-! ===== the class: the rest of what is told, and what is asked (segments printed by wip/whole, contracts own work) ===== -/
-- method 169: MillTown.strike(IZ)Z
theorem c_169_0 : pg_cd 169 0 = (3, 1, 0, 2, 0) := by decide +kernel
theorem c_169_1 : pg_cd 169 1 = (36, 3, 0, 0, 7) := by decide +kernel
theorem c_169_4 : pg_cd 169 4 = (1, 1, 0, 0, 1) := by decide +kernel
theorem c_169_5 : pg_cd 169 5 = (38, 3, 0, 0, 4) := by decide +kernel
theorem c_169_8 : pg_cd 169 8 = (1, 1, 0, 0, 0) := by decide +kernel
theorem c_169_9 : pg_cd 169 9 = (6, 1, 0, 3, 0) := by decide +kernel
theorem c_169_10 : pg_cd 169 10 = (5, 1, 0, 0, 0) := by decide +kernel
theorem c_169_11 : pg_cd 169 11 = (3, 1, 0, 1, 0) := by decide +kernel
theorem c_169_12 : pg_cd 169 12 = (80, 154, 146, 0, 0) := by decide +kernel
theorem c_169_15 : pg_cd 169 15 = (36, 3, 0, 0, 19) := by decide +kernel
theorem c_169_18 : pg_cd 169 18 = (5, 1, 0, 0, 0) := by decide +kernel
theorem c_169_19 : pg_cd 169 19 = (45, 11, 12, 0, 0) := by decide +kernel
theorem c_169_22 : pg_cd 169 22 = (45, 8, 71, 2, 0) := by decide +kernel
theorem c_169_25 : pg_cd 169 25 = (3, 1, 0, 1, 0) := by decide +kernel
theorem c_169_26 : pg_cd 169 26 = (1, 1, 0, 0, 5) := by decide +kernel
theorem c_169_27 : pg_cd 169 27 = (80, 55, 130, 0, 0) := by decide +kernel
theorem c_169_30 : pg_cd 169 30 = (3, 1, 0, 3, 0) := by decide +kernel
theorem c_169_31 : pg_cd 169 31 = (37, 3, 0, 1, 5) := by decide +kernel
theorem c_169_34 : pg_cd 169 34 = (1, 1, 0, 0, 0) := by decide +kernel
theorem c_169_35 : pg_cd 169 35 = (91, 0, 0, 0, 0) := by decide +kernel
theorem c_169_36 : pg_cd 169 36 = (5, 1, 0, 0, 0) := by decide +kernel
theorem c_169_37 : pg_cd 169 37 = (45, 11, 12, 0, 0) := by decide +kernel
theorem c_169_40 : pg_cd 169 40 = (45, 8, 71, 2, 0) := by decide +kernel
theorem c_169_43 : pg_cd 169 43 = (3, 1, 0, 1, 0) := by decide +kernel
theorem c_169_44 : pg_cd 169 44 = (1, 1, 0, 0, 5) := by decide +kernel
theorem c_169_45 : pg_cd 169 45 = (3, 1, 0, 3, 0) := by decide +kernel
theorem c_169_46 : pg_cd 169 46 = (80, 56, 104, 0, 0) := by decide +kernel
theorem c_169_49 : pg_cd 169 49 = (1, 1, 0, 0, 1) := by decide +kernel
theorem c_169_50 : pg_cd 169 50 = (91, 0, 0, 0, 0) := by decide +kernel
theorem mi_169 : pg_mc 169 = 11 ∧ pg_na 169 = 2 ∧ pg_mx 169 = 4 := by decide +kernel
set_option maxRecDepth 20000 in
theorem u_169_0 {d : Nat} {S : zS} {σ τ : zI} {Q : zQ} {x1 : Int} {x2 : Int} (t : (rg x2) ∧ if x2 = 0 then ((rg x1) ∧ if (0 ≤ x1 ∧ x1 < σ 7 2) ∧ rt_ (σ 7 2) (σ 8) 13 4 x1 = 0 then (if (rt_ (σ 7 2) (σ 8) 13 5 x1) = 0 then (Q (some (.int (wI 0))) S σ τ) else ((0 ≤ x1 ∧ x1 < (σ 7 2)) ∧ Q (some (.int (wI 1))) S (uc σ 8 (u1 (σ 8) (x1 * 13 + 5) 0)) τ)) else (Q (some (.int (wI 0))) S σ τ)) else ((rg x1) ∧ if (0 ≤ x1 ∧ x1 < σ 7 2) ∧ rt_ (σ 7 2) (σ 8) 13 4 x1 = 0 then (if (rt_ (σ 7 2) (σ 8) 13 5 x1) = 1 then (Q (some (.int (wI 0))) S σ τ) else ((0 ≤ x1 ∧ x1 < (σ 7 2)) ∧ Q (some (.int (wI 1))) S (uc σ 8 (u1 (σ 8) (x1 * 13 + 5) 1)) τ)) else (Q (some (.int (wI 0))) S σ τ))) : wi (d + 8) 169 0 [.ref 1, .int (wI x1), .int (wI x2), .retAddr 0] [] S σ τ Q := by
  obtain ⟨r1, t⟩ := t
  refine i3 c_169_0 rfl ?_
  refine i36 c_169_1 r1 rfl (fun hc => ?_) (fun hc => ?_)
  · have t := iT t hc
    have ha2 : x2 = 0 := hc
    obtain ⟨r3, t⟩ := t
    refine i1 c_169_8 (i6 (L' := [.ref 1, .int (wI x1), .int (wI x2), .int (wI 0)]) c_169_9 rfl (i5 c_169_10 rfl (i3 c_169_11 rfl ?_)))
    refine i80 (As := [.int (wI x1)]) (rest := []) c_169_12 mi_154 rfl rfl (Nat.le_of_ble_eq_true rfl) (Nat.le_of_ble_eq_true rfl) (lo (c := 1) (kd := 111) (n := 0) rfl (by decide)) (q_154 r3 ?_)
    show wi (d + 8) 169 15 [.ref 1, .int (wI x1), .int (wI x2), .int (wI 0)] [.int (wI (if (0 ≤ x1 ∧ x1 < σ 7 2) ∧ rt_ (σ 7 2) (σ 8) 13 4 x1 = 0 then 1 else 0))] S σ τ Q
    refine i36e c_169_15 rfl (fun hc => ?_) (fun hc => ?_)
    · have t := iT t hc
      have ha4 : (0 ≤ x1 ∧ x1 < σ 7 2) ∧ rt_ (σ 7 2) (σ 8) 13 4 x1 = 0 := hc
      refine i5 c_169_18 rfl (i45 c_169_19 (lo (c := 1) (kd := 111) (n := 0) rfl (by decide)) (lro (c := 1) (k := 0) (j := 2) (by decide)) (i45 c_169_22 (lo (c := 2) (kd := 108) (n := 0) rfl (by decide)) (lro (c := 2) (k := 2) (j := 7) (by decide)) (i3 c_169_25 rfl (i1 c_169_26 (wi_ok (fun K5 => ?_))))))
      refine i80 (As := [.int (wI x1), .int (wI 5)]) (rest := []) c_169_27 mi_55 rfl rfl (Nat.le_of_ble_eq_true rfl) (Nat.le_of_ble_eq_true rfl) (lo (c := 7) (kd := 104) (n := 0) rfl (by decide)) (q_at (ow_mills tw_2) r3 (by decide) ?_)
      show wi (d + 8) 169 30 [.ref 1, .int (wI x1), .int (wI x2), .int (wI 0)] [.int (wI (rt_ (σ 7 2) (σ 8) 13 5 x1))] S σ τ Q
      refine i3 c_169_30 rfl ?_
      refine i37 c_169_31 (rg_rt_ (fun k => kO_r K5 _ k) _ _ _ _) (by decide) rfl (fun hc => ?_) (fun hc => ?_)
      · have t := iF t hc
        have ha6 : ¬ ((rt_ (σ 7 2) (σ 8) 13 5 x1) = 0) := hc
        obtain ⟨b7, t⟩ := t
        refine i5 c_169_36 rfl (i45 c_169_37 (lo (c := 1) (kd := 111) (n := 0) rfl (by decide)) (lro (c := 1) (k := 0) (j := 2) (by decide)) (i45 c_169_40 (lo (c := 2) (kd := 108) (n := 0) rfl (by decide)) (lro (c := 2) (k := 2) (j := 7) (by decide)) (i3 c_169_43 rfl (i1 c_169_44 (i3 c_169_45 rfl ?_)))))
        refine i80 (As := [.int (wI x1), .int (wI 5), .int (wI 0)]) (rest := []) c_169_46 mi_56 rfl rfl (Nat.le_of_ble_eq_true rfl) (Nat.le_of_ble_eq_true rfl) (lo (c := 7) (kd := 104) (n := 0) rfl (by decide)) (q_put (v2 := 0) (ow_mills tw_2) r3 b7 (by decide) rfl (by decide) ?_)
        show wi (d + 8) 169 49 [.ref 1, .int (wI x1), .int (wI x2), .int (wI 0)] [] S (uc σ 8 (u1 (σ 8) (x1 * 13 + 5) 0)) τ Q
        refine i1 c_169_49 ?_
        exact i91 c_169_50 (by decide) t
      · have t := iT t (Decidable.not_not.mp hc)
        have ha6 : (rt_ (σ 7 2) (σ 8) 13 5 x1) = 0 := Decidable.not_not.mp hc
        refine i1 c_169_34 ?_
        exact i91 c_169_35 (by decide) t
    · have t := iF t hc
      have ha4 : ¬ ((0 ≤ x1 ∧ x1 < σ 7 2) ∧ rt_ (σ 7 2) (σ 8) 13 4 x1 = 0) := hc
      refine i1 c_169_34 ?_
      exact i91 c_169_35 (by decide) t
  · have t := iF t hc
    have ha2 : ¬ (x2 = 0) := hc
    obtain ⟨r8, t⟩ := t
    refine i1 c_169_4 (i38 c_169_5 rfl (i6 (L' := [.ref 1, .int (wI x1), .int (wI x2), .int (wI 1)]) c_169_9 rfl (i5 c_169_10 rfl (i3 c_169_11 rfl ?_))))
    refine i80 (As := [.int (wI x1)]) (rest := []) c_169_12 mi_154 rfl rfl (Nat.le_of_ble_eq_true rfl) (Nat.le_of_ble_eq_true rfl) (lo (c := 1) (kd := 111) (n := 0) rfl (by decide)) (q_154 r8 ?_)
    show wi (d + 8) 169 15 [.ref 1, .int (wI x1), .int (wI x2), .int (wI 1)] [.int (wI (if (0 ≤ x1 ∧ x1 < σ 7 2) ∧ rt_ (σ 7 2) (σ 8) 13 4 x1 = 0 then 1 else 0))] S σ τ Q
    refine i36e c_169_15 rfl (fun hc => ?_) (fun hc => ?_)
    · have t := iT t hc
      have ha9 : (0 ≤ x1 ∧ x1 < σ 7 2) ∧ rt_ (σ 7 2) (σ 8) 13 4 x1 = 0 := hc
      refine i5 c_169_18 rfl (i45 c_169_19 (lo (c := 1) (kd := 111) (n := 0) rfl (by decide)) (lro (c := 1) (k := 0) (j := 2) (by decide)) (i45 c_169_22 (lo (c := 2) (kd := 108) (n := 0) rfl (by decide)) (lro (c := 2) (k := 2) (j := 7) (by decide)) (i3 c_169_25 rfl (i1 c_169_26 (wi_ok (fun K10 => ?_))))))
      refine i80 (As := [.int (wI x1), .int (wI 5)]) (rest := []) c_169_27 mi_55 rfl rfl (Nat.le_of_ble_eq_true rfl) (Nat.le_of_ble_eq_true rfl) (lo (c := 7) (kd := 104) (n := 0) rfl (by decide)) (q_at (ow_mills tw_2) r8 (by decide) ?_)
      show wi (d + 8) 169 30 [.ref 1, .int (wI x1), .int (wI x2), .int (wI 1)] [.int (wI (rt_ (σ 7 2) (σ 8) 13 5 x1))] S σ τ Q
      refine i3 c_169_30 rfl ?_
      refine i37 c_169_31 (rg_rt_ (fun k => kO_r K10 _ k) _ _ _ _) (by decide) rfl (fun hc => ?_) (fun hc => ?_)
      · have t := iF t hc
        have ha11 : ¬ ((rt_ (σ 7 2) (σ 8) 13 5 x1) = 1) := hc
        obtain ⟨b12, t⟩ := t
        refine i5 c_169_36 rfl (i45 c_169_37 (lo (c := 1) (kd := 111) (n := 0) rfl (by decide)) (lro (c := 1) (k := 0) (j := 2) (by decide)) (i45 c_169_40 (lo (c := 2) (kd := 108) (n := 0) rfl (by decide)) (lro (c := 2) (k := 2) (j := 7) (by decide)) (i3 c_169_43 rfl (i1 c_169_44 (i3 c_169_45 rfl ?_)))))
        refine i80 (As := [.int (wI x1), .int (wI 5), .int (wI 1)]) (rest := []) c_169_46 mi_56 rfl rfl (Nat.le_of_ble_eq_true rfl) (Nat.le_of_ble_eq_true rfl) (lo (c := 7) (kd := 104) (n := 0) rfl (by decide)) (q_put (v2 := 1) (ow_mills tw_2) r8 b12 (by decide) rfl (by decide) ?_)
        show wi (d + 8) 169 49 [.ref 1, .int (wI x1), .int (wI x2), .int (wI 1)] [] S (uc σ 8 (u1 (σ 8) (x1 * 13 + 5) 1)) τ Q
        refine i1 c_169_49 ?_
        exact i91 c_169_50 (by decide) t
      · have t := iT t (Decidable.not_not.mp hc)
        have ha11 : (rt_ (σ 7 2) (σ 8) 13 5 x1) = 1 := Decidable.not_not.mp hc
        refine i1 c_169_34 ?_
        exact i91 c_169_35 (by decide) t
    · have t := iF t hc
      have ha9 : ¬ ((0 ≤ x1 ∧ x1 < σ 7 2) ∧ rt_ (σ 7 2) (σ 8) 13 4 x1 = 0) := hc
      refine i1 c_169_34 ?_
      exact i91 c_169_35 (by decide) t
theorem q_169 {d : Nat} {S : zS} {σ τ : zI} {Q : zQ} {mill : Int} {on : Int} {a : Int → Int} (p0 : RT σ 2 a) (p1 : Jv a) (p2 : jv_Z a) (p3 : rg mill) (p4 : on = 0 ∨ on = 1) (t : ∀ (σ1 : zI), RT σ1 2 (r_strike a mill on) → F2 σ σ1 → Q (some (.int (wI (if k_strike a mill on then 1 else 0)))) S σ1 τ) : wc (d + 8) 169 [.ref 1, .int (wI mill), .int (wI on)] S σ τ Q := by
  have hC := jC p1
  have hC' := hC
  unfold jv_C at hC
  have l2 := tl_2 p0
  have e4 : 0 ≤ mill ∧ mill < a 1 → rt_ (σ 7 2) (σ 8) 13 4 mill = a (3300 + 16 * mill + 5) := fun h => vM4 p0 h
  have e5 : 0 ≤ mill ∧ mill < a 1 → rt_ (σ 7 2) (σ 8) 13 5 mill = a (3300 + 16 * mill + 6) := fun h => vM5 p0 h
  have hM : 0 ≤ mill ∧ mill < a 1 → (0 ≤ a (3300 + 16 * mill + 5) ∧ a (3300 + 16 * mill + 5) ≤ 1) ∧ (0 ≤ a (3300 + 16 * mill + 6) ∧ a (3300 + 16 * mill + 6) ≤ 1) := fun h => by
    have := jM p1 mill h.1 h.2
    omega
  refine wc_of mi_169 rfl (u_169_0 ⟨by omega, ?_⟩)
  by_cases hk : k_strike a mill on
  · rw [if_pos hk] at t
    have er : r_strike a mill on = _ := if_pos hk
    simp only [k_strike] at hk
    have e4 := e4 hk.1
    have e5 := e5 hk.1
    have hM := hM hk.1
    have t2 := t (uc σ 8 (u1 (σ 8) (mill * 13 + 5) on)) (by
      rw [er]
      refine XM p0 hC' (fun c h1 h2 => uc_n h2) ⟨?_, ?_⟩ (fun k hk => by simp (disch := omega) only [u1_n])
      · rw [uc_n (by omega), u1_n (by omega)]; exact l2.2.1
      · rw [uc_s]; exact fM_u5 (fM_of (tM p0)) hk.1) (fun c hc => uc_n (by omega))
    clear t
    rw [e4, e5]
    rcases p4 with rfl | rfl
    · repeat' (first | exact t2 | refine ⟨by assumption, ?_⟩ | refine ⟨by omega, ?_⟩ | refine ifI (fun _ => ?_) (fun _ => ?_) | (exfalso; omega))
    · repeat' (first | exact t2 | refine ⟨by assumption, ?_⟩ | refine ⟨by omega, ?_⟩ | refine ifI (fun _ => ?_) (fun _ => ?_) | (exfalso; omega))
  · rw [if_neg hk] at t
    have er : r_strike a mill on = a := if_neg hk
    have t2 := t σ (by rw [er]; exact p0) (fun _ _ => rfl)
    clear t
    simp only [k_strike] at hk
    by_cases b : 0 ≤ mill ∧ mill < a 1
    · have e4 := e4 b
      have e5 := e5 b
      have hM := hM b
      rw [e4, e5]
      rcases p4 with rfl | rfl
      · repeat' (first | exact t2 | refine ⟨by assumption, ?_⟩ | refine ⟨by omega, ?_⟩ | refine ifI (fun _ => ?_) (fun _ => ?_) | (exfalso; omega))
      · repeat' (first | exact t2 | refine ⟨by assumption, ?_⟩ | refine ⟨by omega, ?_⟩ | refine ifI (fun _ => ?_) (fun _ => ?_) | (exfalso; omega))
    · repeat' (first | exact t2 | (exfalso; omega) | refine ⟨by assumption, ?_⟩ | refine ifI (fun _ => ?_) (fun _ => ?_))
-- method 180: MillTown.offer(II)Z
theorem c_180_0 : pg_cd 180 0 = (3, 1, 0, 1, 0) := by decide +kernel
theorem c_180_1 : pg_cd 180 1 = (1, 1, 0, 0, 0) := by decide +kernel
theorem c_180_2 : pg_cd 180 2 = (1, 1, 0, 0, 1) := by decide +kernel
theorem c_180_3 : pg_cd 180 3 = (81, 141, 85, 0, 0) := by decide +kernel
theorem c_180_6 : pg_cd 180 6 = (36, 3, 0, 0, 14) := by decide +kernel
theorem c_180_9 : pg_cd 180 9 = (3, 1, 0, 2, 0) := by decide +kernel
theorem c_180_10 : pg_cd 180 10 = (1, 1, 0, 0, 0) := by decide +kernel
theorem c_180_11 : pg_cd 180 11 = (1, 3, 0, 0, 1000) := by decide +kernel
theorem c_180_14 : pg_cd 180 14 = (81, 141, 85, 0, 0) := by decide +kernel
theorem c_180_17 : pg_cd 180 17 = (36, 3, 0, 1, 5) := by decide +kernel
theorem c_180_20 : pg_cd 180 20 = (1, 1, 0, 0, 0) := by decide +kernel
theorem c_180_21 : pg_cd 180 21 = (91, 0, 0, 0, 0) := by decide +kernel
theorem c_180_22 : pg_cd 180 22 = (3, 1, 0, 1, 0) := by decide +kernel
theorem c_180_23 : pg_cd 180 23 = (36, 3, 0, 1, 14) := by decide +kernel
theorem c_180_26 : pg_cd 180 26 = (5, 1, 0, 0, 0) := by decide +kernel
theorem c_180_27 : pg_cd 180 27 = (45, 11, 12, 0, 0) := by decide +kernel
theorem c_180_30 : pg_cd 180 30 = (3, 1, 0, 2, 0) := by decide +kernel
theorem c_180_31 : pg_cd 180 31 = (46, 8, 282, 16, 0) := by decide +kernel
theorem c_180_34 : pg_cd 180 34 = (38, 3, 0, 0, 11) := by decide +kernel
theorem c_180_37 : pg_cd 180 37 = (5, 1, 0, 0, 0) := by decide +kernel
theorem c_180_38 : pg_cd 180 38 = (45, 11, 12, 0, 0) := by decide +kernel
theorem c_180_41 : pg_cd 180 41 = (3, 1, 0, 2, 0) := by decide +kernel
theorem c_180_42 : pg_cd 180 42 = (46, 8, 285, 17, 0) := by decide +kernel
theorem c_180_45 : pg_cd 180 45 = (1, 1, 0, 0, 1) := by decide +kernel
theorem c_180_46 : pg_cd 180 46 = (91, 0, 0, 0, 0) := by decide +kernel
theorem mi_180 : pg_mc 180 = 11 ∧ pg_na 180 = 2 ∧ pg_mx 180 = 3 := by decide +kernel
set_option maxRecDepth 20000 in
theorem u_180_0 {d : Nat} {S : zS} {σ τ : zI} {Q : zQ} {x1 : Int} {x2 : Int} (t : (rg x1) ∧ if 0 ≤ x1 ∧ x1 ≤ 1 then ((rg x2) ∧ if 0 ≤ x2 ∧ x2 ≤ 1000 then (if x1 = 0 then (Q (some (.int (wI 1))) S (uc σ 2 (u1 (σ 2) 16 x2)) τ) else (Q (some (.int (wI 1))) S (uc σ 2 (u1 (σ 2) 17 x2)) τ)) else (Q (some (.int (wI 0))) S σ τ)) else (Q (some (.int (wI 0))) S σ τ)) : wi (d + 8) 180 0 [.ref 1, .int (wI x1), .int (wI x2)] [] S σ τ Q := by
  obtain ⟨r1, t⟩ := t
  refine i3 c_180_0 rfl (i1 c_180_1 (i1 c_180_2 ?_))
  refine i81 (As := [.int (wI x1), .int (wI 0), .int (wI 1)]) (rest := []) c_180_3 mi_141 rfl rfl (Nat.le_of_ble_eq_true rfl) (Nat.le_of_ble_eq_true rfl) (q_141 r1 (by decide) (by decide) ?_)
  show wi (d + 8) 180 6 [.ref 1, .int (wI x1), .int (wI x2)] [.int (wI (if 0 ≤ x1 ∧ x1 ≤ 1 then 1 else 0))] S σ τ Q
  refine i36e c_180_6 rfl (fun hc => ?_) (fun hc => ?_)
  · have t := iT t hc
    have ha2 : 0 ≤ x1 ∧ x1 ≤ 1 := hc
    obtain ⟨r3, t⟩ := t
    refine i3 c_180_9 rfl (i1 c_180_10 (i1 c_180_11 ?_))
    refine i81 (As := [.int (wI x2), .int (wI 0), .int (wI 1000)]) (rest := []) c_180_14 mi_141 rfl rfl (Nat.le_of_ble_eq_true rfl) (Nat.le_of_ble_eq_true rfl) (q_141 r3 (by decide) (by decide) ?_)
    show wi (d + 8) 180 17 [.ref 1, .int (wI x1), .int (wI x2)] [.int (wI (if 0 ≤ x2 ∧ x2 ≤ 1000 then 1 else 0))] S σ τ Q
    refine i36f c_180_17 rfl (fun hc => ?_) (fun hc => ?_)
    · have t := iT t hc
      have ha4 : 0 ≤ x2 ∧ x2 ≤ 1000 := hc
      refine i3 c_180_22 rfl ?_
      refine i36 c_180_23 r1 rfl (fun hc => ?_) (fun hc => ?_)
      · have t := iF t hc
        have ha5 : ¬ (x1 = 0) := hc
        refine i5 c_180_37 rfl (i45 c_180_38 (lo (c := 1) (kd := 111) (n := 0) rfl (by decide)) (lro (c := 1) (k := 0) (j := 2) (by decide)) (i3 c_180_41 rfl (i46 (σ1 := uc σ 2 (u1 (σ 2) 17 x2)) c_180_42 (lo (c := 2) (kd := 108) (n := 0) rfl (by decide)) (by decide) rfl r3 (wr_ rfl rfl) (i1 c_180_45 ?_))))
        exact i91 c_180_46 (by decide) t
      · have t := iT t (Decidable.not_not.mp hc)
        have ha5 : x1 = 0 := Decidable.not_not.mp hc
        refine i5 c_180_26 rfl (i45 c_180_27 (lo (c := 1) (kd := 111) (n := 0) rfl (by decide)) (lro (c := 1) (k := 0) (j := 2) (by decide)) (i3 c_180_30 rfl (i46 (σ1 := uc σ 2 (u1 (σ 2) 16 x2)) c_180_31 (lo (c := 2) (kd := 108) (n := 0) rfl (by decide)) (by decide) rfl r3 (wr_ rfl rfl) (i38 c_180_34 rfl (i1 c_180_45 ?_)))))
        exact i91 c_180_46 (by decide) t
    · have t := iF t hc
      have ha4 : ¬ (0 ≤ x2 ∧ x2 ≤ 1000) := hc
      refine i1 c_180_20 ?_
      exact i91 c_180_21 (by decide) t
  · have t := iF t hc
    have ha2 : ¬ (0 ≤ x1 ∧ x1 ≤ 1) := hc
    refine i1 c_180_20 ?_
    exact i91 c_180_21 (by decide) t
theorem q_180 {d : Nat} {S : zS} {σ τ : zI} {Q : zQ} {side : Int} {v : Int} {a : Int → Int} (p0 : RT σ 2 a) (p1 : Jv a) (p2 : jv_Z a) (p3 : rg side) (p4 : rg v) (t : ∀ (σ1 : zI), RT σ1 2 (r_offer a side v) → F2 σ σ1 → Q (some (.int (wI (if k_offer a side v then 1 else 0)))) S σ1 τ) : wc (d + 8) 180 [.ref 1, .int (wI side), .int (wI v)] S σ τ Q := by
  have hC' := jC p1
  have lS := tl_S p0
  refine wc_of mi_180 rfl (u_180_0 ?_)
  by_cases hk : k_offer a side v
  · rw [if_pos hk] at t
    have er : r_offer a side v = _ := if_pos hk
    simp only [k_offer] at hk
    have t0 : side = 0 → Q (some (.int (wI 1))) S (uc σ 2 (u1 (σ 2) 16 v)) τ := fun e => t _ (by
      subst e
      rw [er]
      refine XS p0 hC' (fun c h1 => uc_n h1) ?_ (fun k hk => by simp (disch := omega) only [u1_n])
      unfold rT_S
      rw [uc_s]
      simp (disch := omega) only [u1_n, u1_s]
      simp [lS, u1]) (fun c hc => uc_n (by omega))
    have t1 : side = 1 → Q (some (.int (wI 1))) S (uc σ 2 (u1 (σ 2) 17 v)) τ := fun e => t _ (by
      subst e
      rw [er]
      refine XS p0 hC' (fun c h1 => uc_n h1) ?_ (fun k hk => by simp (disch := omega) only [u1_n])
      unfold rT_S
      rw [uc_s]
      simp (disch := omega) only [u1_n, u1_s]
      simp [lS, u1]) (fun c hc => uc_n (by omega))
    repeat' (first | exact t0 (by omega) | exact t1 (by omega) | refine ⟨_, rfl, by omega, ?_⟩ | refine ⟨by omega, ?_⟩ | refine ifI (fun _ => ?_) (fun _ => ?_) | (exfalso; omega))
  · rw [if_neg hk] at t
    have er : r_offer a side v = a := if_neg hk
    have t := t σ (by rw [er]; exact p0) (fun _ _ => rfl)
    simp only [k_offer] at hk
    repeat' (first | exact t | (exfalso; omega) | refine ⟨by omega, ?_⟩ | refine ifI (fun _ => ?_) (fun _ => ?_))
-- method 181: MillTown.meet()I
theorem c_181_0 : pg_cd 181 0 = (5, 1, 0, 0, 0) := by decide +kernel
theorem c_181_1 : pg_cd 181 1 = (45, 11, 12, 0, 0) := by decide +kernel
theorem c_181_4 : pg_cd 181 4 = (43, 8, 282, 16, 0) := by decide +kernel
theorem c_181_7 : pg_cd 181 7 = (1, 1, 0, 0, (-1)) := by decide +kernel
theorem c_181_8 : pg_cd 181 8 = (37, 3, 0, 0, 31) := by decide +kernel
theorem c_181_11 : pg_cd 181 11 = (5, 1, 0, 0, 0) := by decide +kernel
theorem c_181_12 : pg_cd 181 12 = (45, 11, 12, 0, 0) := by decide +kernel
theorem c_181_15 : pg_cd 181 15 = (43, 8, 285, 17, 0) := by decide +kernel
theorem c_181_18 : pg_cd 181 18 = (1, 1, 0, 0, (-1)) := by decide +kernel
theorem c_181_19 : pg_cd 181 19 = (37, 3, 0, 0, 20) := by decide +kernel
theorem c_181_22 : pg_cd 181 22 = (5, 1, 0, 0, 0) := by decide +kernel
theorem c_181_23 : pg_cd 181 23 = (45, 11, 12, 0, 0) := by decide +kernel
theorem c_181_26 : pg_cd 181 26 = (43, 8, 282, 16, 0) := by decide +kernel
theorem c_181_29 : pg_cd 181 29 = (5, 1, 0, 0, 0) := by decide +kernel
theorem c_181_30 : pg_cd 181 30 = (45, 11, 12, 0, 0) := by decide +kernel
theorem c_181_33 : pg_cd 181 33 = (43, 8, 285, 17, 0) := by decide +kernel
theorem c_181_36 : pg_cd 181 36 = (37, 3, 0, 5, 5) := by decide +kernel
theorem c_181_39 : pg_cd 181 39 = (1, 1, 0, 0, (-1)) := by decide +kernel
theorem c_181_40 : pg_cd 181 40 = (90, 0, 0, 0, 0) := by decide +kernel
theorem c_181_41 : pg_cd 181 41 = (5, 1, 0, 0, 0) := by decide +kernel
theorem c_181_42 : pg_cd 181 42 = (45, 11, 12, 0, 0) := by decide +kernel
theorem c_181_45 : pg_cd 181 45 = (43, 8, 282, 16, 0) := by decide +kernel
theorem c_181_48 : pg_cd 181 48 = (5, 1, 0, 0, 0) := by decide +kernel
theorem c_181_49 : pg_cd 181 49 = (45, 11, 12, 0, 0) := by decide +kernel
theorem c_181_52 : pg_cd 181 52 = (43, 8, 285, 17, 0) := by decide +kernel
theorem c_181_55 : pg_cd 181 55 = (10, 1, 0, 0, 0) := by decide +kernel
theorem c_181_56 : pg_cd 181 56 = (1, 1, 0, 0, 2) := by decide +kernel
theorem c_181_57 : pg_cd 181 57 = (16, 1, 0, 0, 0) := by decide +kernel
theorem c_181_58 : pg_cd 181 58 = (6, 1, 0, 1, 0) := by decide +kernel
theorem c_181_59 : pg_cd 181 59 = (5, 1, 0, 0, 0) := by decide +kernel
theorem c_181_60 : pg_cd 181 60 = (45, 11, 12, 0, 0) := by decide +kernel
theorem c_181_63 : pg_cd 181 63 = (1, 1, 0, 0, (-1)) := by decide +kernel
theorem c_181_64 : pg_cd 181 64 = (46, 8, 282, 16, 0) := by decide +kernel
theorem c_181_67 : pg_cd 181 67 = (5, 1, 0, 0, 0) := by decide +kernel
theorem c_181_68 : pg_cd 181 68 = (45, 11, 12, 0, 0) := by decide +kernel
theorem c_181_71 : pg_cd 181 71 = (1, 1, 0, 0, (-1)) := by decide +kernel
theorem c_181_72 : pg_cd 181 72 = (46, 8, 285, 17, 0) := by decide +kernel
theorem c_181_75 : pg_cd 181 75 = (3, 1, 0, 1, 0) := by decide +kernel
theorem c_181_76 : pg_cd 181 76 = (90, 0, 0, 0, 0) := by decide +kernel
theorem mi_181 : pg_mc 181 = 11 ∧ pg_na 181 = 0 ∧ pg_mx 181 = 2 := by decide +kernel
set_option maxRecDepth 20000 in
theorem u_181_0 {d : Nat} {S : zS} {σ τ : zI} {Q : zQ} (t : if (σ 2 16) = (-1) then (Q (some (.int (wI (-1)))) S σ τ) else (if (σ 2 17) = (-1) then (Q (some (.int (wI (-1)))) S σ τ) else (if (σ 2 16) ≤ (σ 2 17) then ((rg ((σ 2 16) + (σ 2 17))) ∧ Q (some (.int (wI (Int.tdiv ((σ 2 16) + (σ 2 17)) 2)))) S (uc σ 2 (u1 (u1 (σ 2) 16 (-1)) 17 (-1))) τ) else (Q (some (.int (wI (-1)))) S σ τ)))) : wi (d + 8) 181 0 [.ref 1, .retAddr 0] [] S σ τ Q := by
  refine i5 c_181_0 rfl (i45 c_181_1 (lo (c := 1) (kd := 111) (n := 0) rfl (by decide)) (lro (c := 1) (k := 0) (j := 2) (by decide)) (wi_ok (fun K1 => ?_)))
  refine i43 (v := σ 2 16) c_181_4 (lo (c := 2) (kd := 108) (n := 0) rfl (by decide)) rfl (i1 c_181_7 ?_)
  refine i37 c_181_8 (rge_ K1 rfl) (by decide) rfl (fun hc => ?_) (fun hc => ?_)
  · have t := iT t hc
    have ha2 : (σ 2 16) = (-1) := hc
    refine i1 c_181_39 ?_
    exact i90 c_181_40 t
  · have t := iF t hc
    have ha2 : ¬ ((σ 2 16) = (-1)) := hc
    refine i5 c_181_11 rfl (i45 c_181_12 (lo (c := 1) (kd := 111) (n := 0) rfl (by decide)) (lro (c := 1) (k := 0) (j := 2) (by decide)) (i43 (v := σ 2 17) c_181_15 (lo (c := 2) (kd := 108) (n := 0) rfl (by decide)) rfl (i1 c_181_18 ?_)))
    refine i37 c_181_19 (rge_ K1 rfl) (by decide) rfl (fun hc => ?_) (fun hc => ?_)
    · have t := iT t hc
      have ha3 : (σ 2 17) = (-1) := hc
      refine i1 c_181_39 ?_
      exact i90 c_181_40 t
    · have t := iF t hc
      have ha3 : ¬ ((σ 2 17) = (-1)) := hc
      refine i5 c_181_22 rfl (i45 c_181_23 (lo (c := 1) (kd := 111) (n := 0) rfl (by decide)) (lro (c := 1) (k := 0) (j := 2) (by decide)) (i43 (v := σ 2 16) c_181_26 (lo (c := 2) (kd := 108) (n := 0) rfl (by decide)) rfl (i5 c_181_29 rfl (i45 c_181_30 (lo (c := 1) (kd := 111) (n := 0) rfl (by decide)) (lro (c := 1) (k := 0) (j := 2) (by decide)) (i43 (v := σ 2 17) c_181_33 (lo (c := 2) (kd := 108) (n := 0) rfl (by decide)) rfl ?_)))))
      refine i37 c_181_36 (rge_ K1 rfl) (rge_ K1 rfl) rfl (fun hc => ?_) (fun hc => ?_)
      · have t := iT t hc
        have ha4 : (σ 2 16) ≤ (σ 2 17) := hc
        obtain ⟨r5, t⟩ := t
        refine i5 c_181_41 rfl (i45 c_181_42 (lo (c := 1) (kd := 111) (n := 0) rfl (by decide)) (lro (c := 1) (k := 0) (j := 2) (by decide)) (i43 (v := σ 2 16) c_181_45 (lo (c := 2) (kd := 108) (n := 0) rfl (by decide)) rfl (i5 c_181_48 rfl (i45 c_181_49 (lo (c := 1) (kd := 111) (n := 0) rfl (by decide)) (lro (c := 1) (k := 0) (j := 2) (by decide)) (i43 (v := σ 2 17) c_181_52 (lo (c := 2) (kd := 108) (n := 0) rfl (by decide)) rfl (i10 c_181_55 (i1 c_181_56 (i16 c_181_57 r5 (by decide) (by decide) (i6 (L' := [.ref 1, .int (wI (Int.tdiv ((σ 2 16) + (σ 2 17)) 2))]) c_181_58 rfl (i5 c_181_59 rfl (i45 c_181_60 (lo (c := 1) (kd := 111) (n := 0) rfl (by decide)) (lro (c := 1) (k := 0) (j := 2) (by decide)) (i1 c_181_63 (i46 (σ1 := uc σ 2 (u1 (σ 2) 16 (-1))) c_181_64 (lo (c := 2) (kd := 108) (n := 0) rfl (by decide)) (by decide) rfl (by decide) (wr_ rfl rfl) (i5 c_181_67 rfl (i45 c_181_68 (lo (c := 1) (kd := 111) (n := 0) rfl (by decide)) (lro (c := 1) (k := 0) (j := 2) (by decide)) (i1 c_181_71 (i46 (σ1 := uc σ 2 (u1 (u1 (σ 2) 16 (-1)) 17 (-1))) c_181_72 (lo (c := 2) (kd := 108) (n := 0) rfl (by decide)) (by decide) rfl (by decide) (wr_ (uc_s _ _ _) (uc_uc _ _ _ _)) (i3 c_181_75 rfl ?_))))))))))))))))))
        exact i90 c_181_76 t
      · have t := iF t hc
        have ha4 : ¬ ((σ 2 16) ≤ (σ 2 17)) := hc
        refine i1 c_181_39 ?_
        exact i90 c_181_40 t
theorem q_181 {d : Nat} {S : zS} {σ τ : zI} {Q : zQ} {a : Int → Int} (p0 : RT σ 2 a) (p1 : Jv a) (p2 : jv_Z a) (t : ∀ (σ1 : zI), RT σ1 2 (r_meet a) → F2 σ σ1 → Q (some (.int (wI (v_meet a)))) S σ1 τ) : wc (d + 8) 181 [.ref 1] S σ τ Q := by
  have hC' := jC p1
  have lS := tl_S p0
  have hS := jS p1
  unfold jv_S at hS
  unfold v_meet at t
  refine wc_of mi_181 rfl (u_181_0 ?_)
  have e1 := lS.2.2.2.2.2.2.2.2.1
  have e2 := lS.2.2.2.2.2.2.2.2.2
  by_cases hk : k_meet a
  · rw [if_pos hk] at t
    have er : r_meet a = _ := if_pos hk
    simp only [k_meet] at hk
    have t := t (uc σ 2 (u1 (u1 (σ 2) 16 (-1)) 17 (-1))) (by
      rw [er]
      refine XS p0 hC' (fun c h1 => uc_n h1) ?_ (fun k hk => by simp (disch := omega) only [u1_n])
      unfold rT_S
      rw [uc_s]
      simp (disch := omega) only [u1_n, u1_s]
      simp [lS, u1]) (fun c hc => uc_n (by omega))
    rw [e1, e2]
    repeat' (first | exact t | refine ⟨by omega, ?_⟩ | refine ifI (fun _ => ?_) (fun _ => ?_) | (exfalso; omega))
  · rw [if_neg hk] at t
    have er : r_meet a = a := if_neg hk
    have t := t σ (by rw [er]; exact p0) (fun _ _ => rfl)
    simp only [k_meet] at hk
    rw [e1, e2]
    repeat' (first | exact t | (exfalso; omega) | refine ⟨by omega, ?_⟩ | refine ifI (fun _ => ?_) (fun _ => ?_))
-- method 182: MillTown.wish(II)Z
theorem c_182_0 : pg_cd 182 0 = (3, 1, 0, 1, 0) := by decide +kernel
theorem c_182_1 : pg_cd 182 1 = (1, 1, 0, 0, 0) := by decide +kernel
theorem c_182_2 : pg_cd 182 2 = (1, 1, 0, 0, 5) := by decide +kernel
theorem c_182_3 : pg_cd 182 3 = (81, 141, 85, 0, 0) := by decide +kernel
theorem c_182_6 : pg_cd 182 6 = (36, 3, 0, 0, 19) := by decide +kernel
theorem c_182_9 : pg_cd 182 9 = (3, 1, 0, 2, 0) := by decide +kernel
theorem c_182_10 : pg_cd 182 10 = (1, 1, 0, 0, (-1)) := by decide +kernel
theorem c_182_11 : pg_cd 182 11 = (37, 3, 0, 0, 16) := by decide +kernel
theorem c_182_14 : pg_cd 182 14 = (3, 1, 0, 2, 0) := by decide +kernel
theorem c_182_15 : pg_cd 182 15 = (1, 1, 0, 0, 0) := by decide +kernel
theorem c_182_16 : pg_cd 182 16 = (1, 3, 0, 0, 10000) := by decide +kernel
theorem c_182_19 : pg_cd 182 19 = (81, 141, 85, 0, 0) := by decide +kernel
theorem c_182_22 : pg_cd 182 22 = (36, 3, 0, 1, 5) := by decide +kernel
theorem c_182_25 : pg_cd 182 25 = (1, 1, 0, 0, 0) := by decide +kernel
theorem c_182_26 : pg_cd 182 26 = (91, 0, 0, 0, 0) := by decide +kernel
theorem c_182_27 : pg_cd 182 27 = (5, 1, 0, 0, 0) := by decide +kernel
theorem c_182_28 : pg_cd 182 28 = (45, 11, 12, 0, 0) := by decide +kernel
theorem c_182_31 : pg_cd 182 31 = (45, 8, 288, 0, 0) := by decide +kernel
theorem c_182_34 : pg_cd 182 34 = (3, 1, 0, 1, 0) := by decide +kernel
theorem c_182_35 : pg_cd 182 35 = (1, 1, 0, 0, 5) := by decide +kernel
theorem c_182_36 : pg_cd 182 36 = (3, 1, 0, 2, 0) := by decide +kernel
theorem c_182_37 : pg_cd 182 37 = (80, 56, 104, 0, 0) := by decide +kernel
theorem c_182_40 : pg_cd 182 40 = (1, 1, 0, 0, 1) := by decide +kernel
theorem c_182_41 : pg_cd 182 41 = (91, 0, 0, 0, 0) := by decide +kernel
theorem mi_182 : pg_mc 182 = 11 ∧ pg_na 182 = 2 ∧ pg_mx 182 = 3 := by decide +kernel
set_option maxRecDepth 20000 in
theorem u_182_0 {d : Nat} {S : zS} {σ τ : zI} {Q : zQ} {x1 : Int} {x2 : Int} (t : (rg x1) ∧ if 0 ≤ x1 ∧ x1 ≤ 5 then ((rg x2) ∧ if x2 = (-1) then ((0 ≤ x1 ∧ x1 < (σ 3 2)) ∧ Q (some (.int (wI 1))) S (uc σ 4 (u1 (σ 4) (x1 * 6 + 5) x2)) τ) else (if 0 ≤ x2 ∧ x2 ≤ 10000 then ((0 ≤ x1 ∧ x1 < (σ 3 2)) ∧ Q (some (.int (wI 1))) S (uc σ 4 (u1 (σ 4) (x1 * 6 + 5) x2)) τ) else (Q (some (.int (wI 0))) S σ τ))) else (Q (some (.int (wI 0))) S σ τ)) : wi (d + 8) 182 0 [.ref 1, .int (wI x1), .int (wI x2)] [] S σ τ Q := by
  obtain ⟨r1, t⟩ := t
  refine i3 c_182_0 rfl (i1 c_182_1 (i1 c_182_2 ?_))
  refine i81 (As := [.int (wI x1), .int (wI 0), .int (wI 5)]) (rest := []) c_182_3 mi_141 rfl rfl (Nat.le_of_ble_eq_true rfl) (Nat.le_of_ble_eq_true rfl) (q_141 r1 (by decide) (by decide) ?_)
  show wi (d + 8) 182 6 [.ref 1, .int (wI x1), .int (wI x2)] [.int (wI (if 0 ≤ x1 ∧ x1 ≤ 5 then 1 else 0))] S σ τ Q
  refine i36e c_182_6 rfl (fun hc => ?_) (fun hc => ?_)
  · have t := iT t hc
    have ha2 : 0 ≤ x1 ∧ x1 ≤ 5 := hc
    obtain ⟨r3, t⟩ := t
    refine i3 c_182_9 rfl (i1 c_182_10 ?_)
    refine i37 c_182_11 r3 (by decide) rfl (fun hc => ?_) (fun hc => ?_)
    · have t := iT t hc
      have ha4 : x2 = (-1) := hc
      obtain ⟨b5, t⟩ := t
      refine i5 c_182_27 rfl (i45 c_182_28 (lo (c := 1) (kd := 111) (n := 0) rfl (by decide)) (lro (c := 1) (k := 0) (j := 2) (by decide)) (i45 c_182_31 (lo (c := 2) (kd := 108) (n := 0) rfl (by decide)) (lro (c := 2) (k := 0) (j := 3) (by decide)) (i3 c_182_34 rfl (i1 c_182_35 (i3 c_182_36 rfl ?_)))))
      refine i80 (As := [.int (wI x1), .int (wI 5), .int (wI x2)]) (rest := []) c_182_37 mi_56 rfl rfl (Nat.le_of_ble_eq_true rfl) (Nat.le_of_ble_eq_true rfl) (lo (c := 3) (kd := 104) (n := 0) rfl (by decide)) (q_put (v2 := x2) (ow_kinds tw_2) r1 b5 (by decide) rfl r3 ?_)
      show wi (d + 8) 182 40 [.ref 1, .int (wI x1), .int (wI x2)] [] S (uc σ 4 (u1 (σ 4) (x1 * 6 + 5) x2)) τ Q
      refine i1 c_182_40 ?_
      exact i91 c_182_41 (by decide) t
    · have t := iF t hc
      have ha4 : ¬ (x2 = (-1)) := hc
      refine i3 c_182_14 rfl (i1 c_182_15 (i1 c_182_16 ?_))
      refine i81 (As := [.int (wI x2), .int (wI 0), .int (wI 10000)]) (rest := []) c_182_19 mi_141 rfl rfl (Nat.le_of_ble_eq_true rfl) (Nat.le_of_ble_eq_true rfl) (q_141 r3 (by decide) (by decide) ?_)
      show wi (d + 8) 182 22 [.ref 1, .int (wI x1), .int (wI x2)] [.int (wI (if 0 ≤ x2 ∧ x2 ≤ 10000 then 1 else 0))] S σ τ Q
      refine i36f c_182_22 rfl (fun hc => ?_) (fun hc => ?_)
      · have t := iT t hc
        have ha6 : 0 ≤ x2 ∧ x2 ≤ 10000 := hc
        obtain ⟨b7, t⟩ := t
        refine i5 c_182_27 rfl (i45 c_182_28 (lo (c := 1) (kd := 111) (n := 0) rfl (by decide)) (lro (c := 1) (k := 0) (j := 2) (by decide)) (i45 c_182_31 (lo (c := 2) (kd := 108) (n := 0) rfl (by decide)) (lro (c := 2) (k := 0) (j := 3) (by decide)) (i3 c_182_34 rfl (i1 c_182_35 (i3 c_182_36 rfl ?_)))))
        refine i80 (As := [.int (wI x1), .int (wI 5), .int (wI x2)]) (rest := []) c_182_37 mi_56 rfl rfl (Nat.le_of_ble_eq_true rfl) (Nat.le_of_ble_eq_true rfl) (lo (c := 3) (kd := 104) (n := 0) rfl (by decide)) (q_put (v2 := x2) (ow_kinds tw_2) r1 b7 (by decide) rfl r3 ?_)
        show wi (d + 8) 182 40 [.ref 1, .int (wI x1), .int (wI x2)] [] S (uc σ 4 (u1 (σ 4) (x1 * 6 + 5) x2)) τ Q
        refine i1 c_182_40 ?_
        exact i91 c_182_41 (by decide) t
      · have t := iF t hc
        have ha6 : ¬ (0 ≤ x2 ∧ x2 ≤ 10000) := hc
        refine i1 c_182_25 ?_
        exact i91 c_182_26 (by decide) t
  · have t := iF t hc
    have ha2 : ¬ (0 ≤ x1 ∧ x1 ≤ 5) := hc
    refine i1 c_182_25 ?_
    exact i91 c_182_26 (by decide) t
theorem q_182 {d : Nat} {S : zS} {σ τ : zI} {Q : zQ} {kind : Int} {v : Int} {a : Int → Int} (p0 : RT σ 2 a) (p1 : Jv a) (p2 : jv_Z a) (p3 : rg kind) (p4 : rg v) (t : ∀ (σ1 : zI), RT σ1 2 (r_wish a kind v) → F2 σ σ1 → Q (some (.int (wI (if k_wish a kind v then 1 else 0)))) S σ1 τ) : wc (d + 8) 182 [.ref 1, .int (wI kind), .int (wI v)] S σ τ Q := by
  have hC' := jC p1
  have l2 := tl_2 p0
  refine wc_of mi_182 rfl (u_182_0 ?_)
  by_cases hk : k_wish a kind v
  · rw [if_pos hk] at t
    have er : r_wish a kind v = _ := if_pos hk
    simp only [k_wish] at hk
    have t := t (uc σ 4 (u1 (σ 4) (kind * 6 + 5) v)) (by
      rw [er]
      refine XK p0 hC' (fun c h1 h2 => uc_n h2) ⟨l2.1.1, ?_⟩ (fun k hk => by simp (disch := omega) only [u1_n])
      intro x x0 x1
      have q := (tK p0).2 x x0 x1
      rw [uc_s]
      by_cases e : x = kind
      · subst e
        simp (disch := omega) only [u1_n, u1_s]
        exact ⟨q.1, q.2.1, q.2.2.1, q.2.2.2.1, q.2.2.2.2.1, trivial⟩
      · simp (disch := omega) only [u1_n]
        exact q) (fun c hc => uc_n (by omega))
    repeat' (first | exact t | refine ⟨_, rfl, by omega, ?_⟩ | refine ⟨by omega, ?_⟩ | refine ifI (fun _ => ?_) (fun _ => ?_) | (exfalso; omega))
  · rw [if_neg hk] at t
    have er : r_wish a kind v = a := if_neg hk
    have t := t σ (by rw [er]; exact p0) (fun _ _ => rfl)
    simp only [k_wish] at hk
    repeat' (first | exact t | (exfalso; omega) | refine ⟨by omega, ?_⟩ | refine ifI (fun _ => ?_) (fun _ => ?_))
-- method 148: MillTown.priceOf(II)I
theorem c_148_0 : pg_cd 148 0 = (3, 1, 0, 1, 0) := by decide +kernel
theorem c_148_1 : pg_cd 148 1 = (1, 1, 0, 0, 0) := by decide +kernel
theorem c_148_2 : pg_cd 148 2 = (1, 2, 0, 0, 7) := by decide +kernel
theorem c_148_4 : pg_cd 148 4 = (81, 141, 85, 0, 0) := by decide +kernel
theorem c_148_7 : pg_cd 148 7 = (36, 3, 0, 0, 10) := by decide +kernel
theorem c_148_10 : pg_cd 148 10 = (3, 1, 0, 2, 0) := by decide +kernel
theorem c_148_11 : pg_cd 148 11 = (81, 142, 97, 0, 0) := by decide +kernel
theorem c_148_14 : pg_cd 148 14 = (36, 3, 0, 1, 5) := by decide +kernel
theorem c_148_17 : pg_cd 148 17 = (1, 1, 0, 0, (-1)) := by decide +kernel
theorem c_148_18 : pg_cd 148 18 = (90, 0, 0, 0, 0) := by decide +kernel
theorem c_148_19 : pg_cd 148 19 = (5, 1, 0, 0, 0) := by decide +kernel
theorem c_148_20 : pg_cd 148 20 = (45, 11, 12, 0, 0) := by decide +kernel
theorem c_148_23 : pg_cd 148 23 = (3, 1, 0, 1, 0) := by decide +kernel
theorem c_148_24 : pg_cd 148 24 = (3, 1, 0, 2, 0) := by decide +kernel
theorem c_148_25 : pg_cd 148 25 = (80, 90, 108, 0, 0) := by decide +kernel
theorem c_148_28 : pg_cd 148 28 = (90, 0, 0, 0, 0) := by decide +kernel
theorem mi_148 : pg_mc 148 = 11 ∧ pg_na 148 = 2 ∧ pg_mx 148 = 3 := by decide +kernel
set_option maxRecDepth 20000 in
theorem u_148_0 {d : Nat} {S : zS} {σ τ : zI} {Q : zQ} {x1 : Int} {x2 : Int} (t : (rg x1) ∧ if 0 ≤ x1 ∧ x1 ≤ 7 then ((rg x2) ∧ if 0 ≤ x2 ∧ x2 ≤ 399 then (∃ a5 : Int → Int, (RT σ 2 a5) ∧ ((0 ≤ x1 ∧ x1 ≤ 7) ∧ -1 ≤ x2 ∧ x2 ≤ 399) ∧ Q (some (.int (wI (r_pr a5 x1 x2)))) S σ τ) else (Q (some (.int (wI (-1)))) S σ τ)) else (Q (some (.int (wI (-1)))) S σ τ)) : wi (d + 8) 148 0 [.ref 1, .int (wI x1), .int (wI x2)] [] S σ τ Q := by
  obtain ⟨r1, t⟩ := t
  refine i3 c_148_0 rfl (i1 c_148_1 (i1 c_148_2 ?_))
  refine i81 (As := [.int (wI x1), .int (wI 0), .int (wI 7)]) (rest := []) c_148_4 mi_141 rfl rfl (Nat.le_of_ble_eq_true rfl) (Nat.le_of_ble_eq_true rfl) (q_141 r1 (by decide) (by decide) ?_)
  show wi (d + 8) 148 7 [.ref 1, .int (wI x1), .int (wI x2)] [.int (wI (if 0 ≤ x1 ∧ x1 ≤ 7 then 1 else 0))] S σ τ Q
  refine i36e c_148_7 rfl (fun hc => ?_) (fun hc => ?_)
  · have t := iT t hc
    have ha2 : 0 ≤ x1 ∧ x1 ≤ 7 := hc
    obtain ⟨r3, t⟩ := t
    refine i3 c_148_10 rfl ?_
    refine i81 (As := [.int (wI x2)]) (rest := []) c_148_11 mi_142 rfl rfl (Nat.le_of_ble_eq_true rfl) (Nat.le_of_ble_eq_true rfl) (q_142 r3 ?_)
    show wi (d + 8) 148 14 [.ref 1, .int (wI x1), .int (wI x2)] [.int (wI (if 0 ≤ x2 ∧ x2 ≤ 399 then 1 else 0))] S σ τ Q
    refine i36f c_148_14 rfl (fun hc => ?_) (fun hc => ?_)
    · have t := iT t hc
      have ha4 : 0 ≤ x2 ∧ x2 ≤ 399 := hc
      obtain ⟨a5, t⟩ := t
      obtain ⟨p6, t⟩ := t
      obtain ⟨p7, t⟩ := t
      refine i5 c_148_19 rfl (i45 c_148_20 (lo (c := 1) (kd := 111) (n := 0) rfl (by decide)) (lro (c := 1) (k := 0) (j := 2) (by decide)) (i3 c_148_23 rfl (i3 c_148_24 rfl ?_)))
      refine i80 (As := [.int (wI x1), .int (wI x2)]) (rest := []) c_148_25 mi_90 rfl rfl (Nat.le_of_ble_eq_true rfl) (Nat.le_of_ble_eq_true rfl) (lo (c := 2) (kd := 108) (n := 0) rfl (by decide)) (q_90 (a := a5) tw_2 p6 p7 ?_)
      show wi (d + 8) 148 28 [.ref 1, .int (wI x1), .int (wI x2)] [.int (wI (r_pr a5 x1 x2))] S σ τ Q
      exact i90 c_148_28 t
    · have t := iF t hc
      have ha4 : ¬ (0 ≤ x2 ∧ x2 ≤ 399) := hc
      refine i1 c_148_17 ?_
      exact i90 c_148_18 t
  · have t := iF t hc
    have ha2 : ¬ (0 ≤ x1 ∧ x1 ≤ 7) := hc
    refine i1 c_148_17 ?_
    exact i90 c_148_18 t
theorem q_148 {d : Nat} {S : zS} {σ τ : zI} {Q : zQ} {what : Int} {week : Int} {a : Int → Int} (p0 : RT σ 2 a) (p1 : rg what) (p2 : rg week) (t : Q (some (.int (wI (if (0 ≤ what ∧ what ≤ 7) ∧ (0 ≤ week ∧ week ≤ 399) then r_pr a what week else -1)))) S σ τ) : wc (d + 8) 148 [.ref 1, .int (wI what), .int (wI week)] S σ τ Q := by
  refine wc_of mi_148 rfl (u_148_0 ?_)
  by_cases hk : (0 ≤ what ∧ what ≤ 7) ∧ (0 ≤ week ∧ week ≤ 399)
  · rw [if_pos hk] at t
    repeat' (first | exact t | refine ⟨a, p0, ?_⟩ | refine ⟨by omega, ?_⟩ | refine ifI (fun _ => ?_) (fun _ => ?_) | (exfalso; omega))
  · rw [if_neg hk] at t
    repeat' (first | exact t | (exfalso; omega) | refine ⟨by omega, ?_⟩ | refine ifI (fun _ => ?_) (fun _ => ?_))
-- method 184: MillTown.proof(II)Z
theorem c_184_0 : pg_cd 184 0 = (5, 1, 0, 0, 0) := by decide +kernel
theorem c_184_1 : pg_cd 184 1 = (45, 11, 12, 0, 0) := by decide +kernel
theorem c_184_4 : pg_cd 184 4 = (45, 8, 288, 0, 0) := by decide +kernel
theorem c_184_7 : pg_cd 184 7 = (3, 1, 0, 1, 0) := by decide +kernel
theorem c_184_8 : pg_cd 184 8 = (1, 1, 0, 0, 5) := by decide +kernel
theorem c_184_9 : pg_cd 184 9 = (80, 55, 130, 0, 0) := by decide +kernel
theorem c_184_12 : pg_cd 184 12 = (6, 1, 0, 3, 0) := by decide +kernel
theorem c_184_13 : pg_cd 184 13 = (5, 1, 0, 0, 0) := by decide +kernel
theorem c_184_14 : pg_cd 184 14 = (45, 11, 12, 0, 0) := by decide +kernel
theorem c_184_17 : pg_cd 184 17 = (45, 8, 288, 0, 0) := by decide +kernel
theorem c_184_20 : pg_cd 184 20 = (3, 1, 0, 2, 0) := by decide +kernel
theorem c_184_21 : pg_cd 184 21 = (1, 1, 0, 0, 5) := by decide +kernel
theorem c_184_22 : pg_cd 184 22 = (80, 55, 130, 0, 0) := by decide +kernel
theorem c_184_25 : pg_cd 184 25 = (6, 2, 0, 4, 0) := by decide +kernel
theorem c_184_27 : pg_cd 184 27 = (3, 1, 0, 3, 0) := by decide +kernel
theorem c_184_28 : pg_cd 184 28 = (1, 1, 0, 0, (-1)) := by decide +kernel
theorem c_184_29 : pg_cd 184 29 = (37, 3, 0, 0, 73) := by decide +kernel
theorem c_184_32 : pg_cd 184 32 = (3, 2, 0, 4, 0) := by decide +kernel
theorem c_184_34 : pg_cd 184 34 = (1, 1, 0, 0, (-1)) := by decide +kernel
theorem c_184_35 : pg_cd 184 35 = (37, 3, 0, 0, 67) := by decide +kernel
theorem c_184_38 : pg_cd 184 38 = (3, 1, 0, 3, 0) := by decide +kernel
theorem c_184_39 : pg_cd 184 39 = (3, 2, 0, 4, 0) := by decide +kernel
theorem c_184_41 : pg_cd 184 41 = (37, 3, 0, 3, 61) := by decide +kernel
theorem c_184_44 : pg_cd 184 44 = (5, 1, 0, 0, 0) := by decide +kernel
theorem c_184_45 : pg_cd 184 45 = (45, 11, 12, 0, 0) := by decide +kernel
theorem c_184_48 : pg_cd 184 48 = (45, 8, 288, 0, 0) := by decide +kernel
theorem c_184_51 : pg_cd 184 51 = (3, 1, 0, 1, 0) := by decide +kernel
theorem c_184_52 : pg_cd 184 52 = (1, 1, 0, 0, 0) := by decide +kernel
theorem c_184_53 : pg_cd 184 53 = (80, 55, 130, 0, 0) := by decide +kernel
theorem c_184_56 : pg_cd 184 56 = (5, 1, 0, 0, 0) := by decide +kernel
theorem c_184_57 : pg_cd 184 57 = (45, 11, 12, 0, 0) := by decide +kernel
theorem c_184_60 : pg_cd 184 60 = (45, 8, 288, 0, 0) := by decide +kernel
theorem c_184_63 : pg_cd 184 63 = (3, 1, 0, 2, 0) := by decide +kernel
theorem c_184_64 : pg_cd 184 64 = (1, 1, 0, 0, 0) := by decide +kernel
theorem c_184_65 : pg_cd 184 65 = (80, 55, 130, 0, 0) := by decide +kernel
theorem c_184_68 : pg_cd 184 68 = (37, 3, 0, 2, 34) := by decide +kernel
theorem c_184_71 : pg_cd 184 71 = (5, 1, 0, 0, 0) := by decide +kernel
theorem c_184_72 : pg_cd 184 72 = (45, 11, 12, 0, 0) := by decide +kernel
theorem c_184_75 : pg_cd 184 75 = (45, 8, 288, 0, 0) := by decide +kernel
theorem c_184_78 : pg_cd 184 78 = (3, 1, 0, 1, 0) := by decide +kernel
theorem c_184_79 : pg_cd 184 79 = (1, 1, 0, 0, 1) := by decide +kernel
theorem c_184_80 : pg_cd 184 80 = (80, 55, 130, 0, 0) := by decide +kernel
theorem c_184_83 : pg_cd 184 83 = (5, 1, 0, 0, 0) := by decide +kernel
theorem c_184_84 : pg_cd 184 84 = (45, 11, 12, 0, 0) := by decide +kernel
theorem c_184_87 : pg_cd 184 87 = (45, 8, 288, 0, 0) := by decide +kernel
theorem c_184_90 : pg_cd 184 90 = (3, 1, 0, 2, 0) := by decide +kernel
theorem c_184_91 : pg_cd 184 91 = (1, 1, 0, 0, 1) := by decide +kernel
theorem c_184_92 : pg_cd 184 92 = (80, 55, 130, 0, 0) := by decide +kernel
theorem c_184_95 : pg_cd 184 95 = (37, 3, 0, 2, 7) := by decide +kernel
theorem c_184_98 : pg_cd 184 98 = (1, 1, 0, 0, 1) := by decide +kernel
theorem c_184_99 : pg_cd 184 99 = (38, 3, 0, 0, 4) := by decide +kernel
theorem c_184_102 : pg_cd 184 102 = (1, 1, 0, 0, 0) := by decide +kernel
theorem c_184_103 : pg_cd 184 103 = (91, 0, 0, 0, 0) := by decide +kernel
theorem mi_184 : pg_mc 184 = 11 ∧ pg_na 184 = 2 ∧ pg_mx 184 = 5 := by decide +kernel
set_option maxRecDepth 20000 in
theorem u_184_0 {d : Nat} {S : zS} {σ τ : zI} {Q : zQ} {x1 : Int} {x2 : Int} (t : (rg x1) ∧ (rg x2) ∧ if (rt_ (σ 3 2) (σ 4) 6 5 x1) = (-1) then (Q (some (.int (wI 0))) S σ τ) else (if (rt_ (σ 3 2) (σ 4) 6 5 x2) = (-1) then (Q (some (.int (wI 0))) S σ τ) else (if (rt_ (σ 3 2) (σ 4) 6 5 x2) ≤ (rt_ (σ 3 2) (σ 4) 6 5 x1) then (Q (some (.int (wI 0))) S σ τ) else (if (rt_ (σ 3 2) (σ 4) 6 0 x1) < (rt_ (σ 3 2) (σ 4) 6 0 x2) then (Q (some (.int (wI 0))) S σ τ) else (if (rt_ (σ 3 2) (σ 4) 6 1 x1) < (rt_ (σ 3 2) (σ 4) 6 1 x2) then (Q (some (.int (wI 0))) S σ τ) else (Q (some (.int (wI 1))) S σ τ)))))) : wi (d + 8) 184 0 [.ref 1, .int (wI x1), .int (wI x2), .retAddr 0, .retAddr 0] [] S σ τ Q := by
  obtain ⟨r1, t⟩ := t
  refine i5 c_184_0 rfl (i45 c_184_1 (lo (c := 1) (kd := 111) (n := 0) rfl (by decide)) (lro (c := 1) (k := 0) (j := 2) (by decide)) (i45 c_184_4 (lo (c := 2) (kd := 108) (n := 0) rfl (by decide)) (lro (c := 2) (k := 0) (j := 3) (by decide)) (i3 c_184_7 rfl (i1 c_184_8 (wi_ok (fun K2 => ?_))))))
  refine i80 (As := [.int (wI x1), .int (wI 5)]) (rest := []) c_184_9 mi_55 rfl rfl (Nat.le_of_ble_eq_true rfl) (Nat.le_of_ble_eq_true rfl) (lo (c := 3) (kd := 104) (n := 0) rfl (by decide)) (q_at (ow_kinds tw_2) r1 (by decide) ?_)
  show wi (d + 8) 184 12 [.ref 1, .int (wI x1), .int (wI x2), .retAddr 0, .retAddr 0] [.int (wI (rt_ (σ 3 2) (σ 4) 6 5 x1))] S σ τ Q
  obtain ⟨r3, t⟩ := t
  refine i6 (L' := [.ref 1, .int (wI x1), .int (wI x2), .int (wI (rt_ (σ 3 2) (σ 4) 6 5 x1)), .retAddr 0]) c_184_12 rfl (i5 c_184_13 rfl (i45 c_184_14 (lo (c := 1) (kd := 111) (n := 0) rfl (by decide)) (lro (c := 1) (k := 0) (j := 2) (by decide)) (i45 c_184_17 (lo (c := 2) (kd := 108) (n := 0) rfl (by decide)) (lro (c := 2) (k := 0) (j := 3) (by decide)) (i3 c_184_20 rfl (i1 c_184_21 ?_)))))
  refine i80 (As := [.int (wI x2), .int (wI 5)]) (rest := []) c_184_22 mi_55 rfl rfl (Nat.le_of_ble_eq_true rfl) (Nat.le_of_ble_eq_true rfl) (lo (c := 3) (kd := 104) (n := 0) rfl (by decide)) (q_at (ow_kinds tw_2) r3 (by decide) ?_)
  show wi (d + 8) 184 25 [.ref 1, .int (wI x1), .int (wI x2), .int (wI (rt_ (σ 3 2) (σ 4) 6 5 x1)), .retAddr 0] [.int (wI (rt_ (σ 3 2) (σ 4) 6 5 x2))] S σ τ Q
  refine i6 (L' := [.ref 1, .int (wI x1), .int (wI x2), .int (wI (rt_ (σ 3 2) (σ 4) 6 5 x1)), .int (wI (rt_ (σ 3 2) (σ 4) 6 5 x2))]) c_184_25 rfl (i3 c_184_27 rfl (i1 c_184_28 ?_))
  refine i37 c_184_29 (rg_rt_ (fun k => kO_r K2 _ k) _ _ _ _) (by decide) rfl (fun hc => ?_) (fun hc => ?_)
  · have t := iT t hc
    have ha4 : (rt_ (σ 3 2) (σ 4) 6 5 x1) = (-1) := hc
    refine i1 c_184_102 ?_
    exact i91 c_184_103 (by decide) t
  · have t := iF t hc
    have ha4 : ¬ ((rt_ (σ 3 2) (σ 4) 6 5 x1) = (-1)) := hc
    refine i3 c_184_32 rfl (i1 c_184_34 ?_)
    refine i37 c_184_35 (rg_rt_ (fun k => kO_r K2 _ k) _ _ _ _) (by decide) rfl (fun hc => ?_) (fun hc => ?_)
    · have t := iT t hc
      have ha5 : (rt_ (σ 3 2) (σ 4) 6 5 x2) = (-1) := hc
      refine i1 c_184_102 ?_
      exact i91 c_184_103 (by decide) t
    · have t := iF t hc
      have ha5 : ¬ ((rt_ (σ 3 2) (σ 4) 6 5 x2) = (-1)) := hc
      refine i3 c_184_38 rfl (i3 c_184_39 rfl ?_)
      refine i37 c_184_41 (rg_rt_ (fun k => kO_r K2 _ k) _ _ _ _) (rg_rt_ (fun k => kO_r K2 _ k) _ _ _ _) rfl (fun hc => ?_) (fun hc => ?_)
      · have t := iT t hc
        have ha6 : (rt_ (σ 3 2) (σ 4) 6 5 x2) ≤ (rt_ (σ 3 2) (σ 4) 6 5 x1) := hc
        refine i1 c_184_102 ?_
        exact i91 c_184_103 (by decide) t
      · have t := iF t hc
        have ha6 : ¬ ((rt_ (σ 3 2) (σ 4) 6 5 x2) ≤ (rt_ (σ 3 2) (σ 4) 6 5 x1)) := hc
        refine i5 c_184_44 rfl (i45 c_184_45 (lo (c := 1) (kd := 111) (n := 0) rfl (by decide)) (lro (c := 1) (k := 0) (j := 2) (by decide)) (i45 c_184_48 (lo (c := 2) (kd := 108) (n := 0) rfl (by decide)) (lro (c := 2) (k := 0) (j := 3) (by decide)) (i3 c_184_51 rfl (i1 c_184_52 ?_))))
        refine i80 (As := [.int (wI x1), .int (wI 0)]) (rest := []) c_184_53 mi_55 rfl rfl (Nat.le_of_ble_eq_true rfl) (Nat.le_of_ble_eq_true rfl) (lo (c := 3) (kd := 104) (n := 0) rfl (by decide)) (q_at (ow_kinds tw_2) r1 (by decide) ?_)
        show wi (d + 8) 184 56 [.ref 1, .int (wI x1), .int (wI x2), .int (wI (rt_ (σ 3 2) (σ 4) 6 5 x1)), .int (wI (rt_ (σ 3 2) (σ 4) 6 5 x2))] [.int (wI (rt_ (σ 3 2) (σ 4) 6 0 x1))] S σ τ Q
        refine i5 c_184_56 rfl (i45 c_184_57 (lo (c := 1) (kd := 111) (n := 0) rfl (by decide)) (lro (c := 1) (k := 0) (j := 2) (by decide)) (i45 c_184_60 (lo (c := 2) (kd := 108) (n := 0) rfl (by decide)) (lro (c := 2) (k := 0) (j := 3) (by decide)) (i3 c_184_63 rfl (i1 c_184_64 ?_))))
        refine i80 (As := [.int (wI x2), .int (wI 0)]) (rest := [.int (wI (rt_ (σ 3 2) (σ 4) 6 0 x1))]) c_184_65 mi_55 rfl rfl (Nat.le_of_ble_eq_true rfl) (Nat.le_of_ble_eq_true rfl) (lo (c := 3) (kd := 104) (n := 0) rfl (by decide)) (q_at (ow_kinds tw_2) r3 (by decide) ?_)
        show wi (d + 8) 184 68 [.ref 1, .int (wI x1), .int (wI x2), .int (wI (rt_ (σ 3 2) (σ 4) 6 5 x1)), .int (wI (rt_ (σ 3 2) (σ 4) 6 5 x2))] [.int (wI (rt_ (σ 3 2) (σ 4) 6 0 x2)), .int (wI (rt_ (σ 3 2) (σ 4) 6 0 x1))] S σ τ Q
        refine i37 c_184_68 (rg_rt_ (fun k => kO_r K2 _ k) _ _ _ _) (rg_rt_ (fun k => kO_r K2 _ k) _ _ _ _) rfl (fun hc => ?_) (fun hc => ?_)
        · have t := iT t hc
          have ha7 : (rt_ (σ 3 2) (σ 4) 6 0 x1) < (rt_ (σ 3 2) (σ 4) 6 0 x2) := hc
          refine i1 c_184_102 ?_
          exact i91 c_184_103 (by decide) t
        · have t := iF t hc
          have ha7 : ¬ ((rt_ (σ 3 2) (σ 4) 6 0 x1) < (rt_ (σ 3 2) (σ 4) 6 0 x2)) := hc
          refine i5 c_184_71 rfl (i45 c_184_72 (lo (c := 1) (kd := 111) (n := 0) rfl (by decide)) (lro (c := 1) (k := 0) (j := 2) (by decide)) (i45 c_184_75 (lo (c := 2) (kd := 108) (n := 0) rfl (by decide)) (lro (c := 2) (k := 0) (j := 3) (by decide)) (i3 c_184_78 rfl (i1 c_184_79 ?_))))
          refine i80 (As := [.int (wI x1), .int (wI 1)]) (rest := []) c_184_80 mi_55 rfl rfl (Nat.le_of_ble_eq_true rfl) (Nat.le_of_ble_eq_true rfl) (lo (c := 3) (kd := 104) (n := 0) rfl (by decide)) (q_at (ow_kinds tw_2) r1 (by decide) ?_)
          show wi (d + 8) 184 83 [.ref 1, .int (wI x1), .int (wI x2), .int (wI (rt_ (σ 3 2) (σ 4) 6 5 x1)), .int (wI (rt_ (σ 3 2) (σ 4) 6 5 x2))] [.int (wI (rt_ (σ 3 2) (σ 4) 6 1 x1))] S σ τ Q
          refine i5 c_184_83 rfl (i45 c_184_84 (lo (c := 1) (kd := 111) (n := 0) rfl (by decide)) (lro (c := 1) (k := 0) (j := 2) (by decide)) (i45 c_184_87 (lo (c := 2) (kd := 108) (n := 0) rfl (by decide)) (lro (c := 2) (k := 0) (j := 3) (by decide)) (i3 c_184_90 rfl (i1 c_184_91 ?_))))
          refine i80 (As := [.int (wI x2), .int (wI 1)]) (rest := [.int (wI (rt_ (σ 3 2) (σ 4) 6 1 x1))]) c_184_92 mi_55 rfl rfl (Nat.le_of_ble_eq_true rfl) (Nat.le_of_ble_eq_true rfl) (lo (c := 3) (kd := 104) (n := 0) rfl (by decide)) (q_at (ow_kinds tw_2) r3 (by decide) ?_)
          show wi (d + 8) 184 95 [.ref 1, .int (wI x1), .int (wI x2), .int (wI (rt_ (σ 3 2) (σ 4) 6 5 x1)), .int (wI (rt_ (σ 3 2) (σ 4) 6 5 x2))] [.int (wI (rt_ (σ 3 2) (σ 4) 6 1 x2)), .int (wI (rt_ (σ 3 2) (σ 4) 6 1 x1))] S σ τ Q
          refine i37 c_184_95 (rg_rt_ (fun k => kO_r K2 _ k) _ _ _ _) (rg_rt_ (fun k => kO_r K2 _ k) _ _ _ _) rfl (fun hc => ?_) (fun hc => ?_)
          · have t := iT t hc
            have ha8 : (rt_ (σ 3 2) (σ 4) 6 1 x1) < (rt_ (σ 3 2) (σ 4) 6 1 x2) := hc
            refine i1 c_184_102 ?_
            exact i91 c_184_103 (by decide) t
          · have t := iF t hc
            have ha8 : ¬ ((rt_ (σ 3 2) (σ 4) 6 1 x1) < (rt_ (σ 3 2) (σ 4) 6 1 x2)) := hc
            refine i1 c_184_98 (i38 c_184_99 rfl ?_)
            exact i91 c_184_103 (by decide) t
theorem q_184 {d : Nat} {S : zS} {σ τ : zI} {Q : zQ} {first : Int} {second : Int} {a : Int → Int} (p0 : RT σ 2 a) (p1 : jv_K a) (p2 : rg first) (p3 : rg second) (t : Q (some (.int (wI (if k_proof a first second then 1 else 0)))) S σ τ) : wc (d + 8) 184 [.ref 1, .int (wI first), .int (wI second)] S σ τ Q := by
  have l2 := tl_2 p0
  have o : ∀ x k, ¬ (0 ≤ x ∧ x ≤ 5) → rt_ (σ 3 2) (σ 4) 6 k x = -1 := fun x k h => rt_n (by omega)
  refine wc_of mi_184 rfl (u_184_0 ⟨p2, p3, ?_⟩)
  by_cases b1 : 0 ≤ first ∧ first ≤ 5
  · by_cases b2 : 0 ≤ second ∧ second ≤ 5
    · have q1 := p1 first b1.1 b1.2
      have q2 := p1 second b2.1 b2.2
      rw [show rt_ (σ 3 2) (σ 4) 6 5 first = _ from vK5 p0 b1, show rt_ (σ 3 2) (σ 4) 6 5 second = _ from vK5 p0 b2, show rt_ (σ 3 2) (σ 4) 6 0 first = _ from vK0 p0 b1, show rt_ (σ 3 2) (σ 4) 6 0 second = _ from vK0 p0 b2, show rt_ (σ 3 2) (σ 4) 6 1 first = _ from vK1 p0 b1, show rt_ (σ 3 2) (σ 4) 6 1 second = _ from vK1 p0 b2]
      by_cases hk : k_proof a first second
      · rw [if_pos hk] at t
        simp only [k_proof] at hk
        repeat' (first | exact t | refine ifI (fun _ => ?_) (fun _ => ?_) | (exfalso; omega))
      · rw [if_neg hk] at t
        simp only [k_proof] at hk
        repeat' (first | exact t | refine ifI (fun _ => ?_) (fun _ => ?_) | (exfalso; omega))
    · rw [if_neg (fun h => b2 h.2.1)] at t
      rw [o second 5 b2]
      repeat' (first | exact t | refine ifI (fun _ => ?_) (fun _ => ?_) | (exfalso; omega))
  · rw [if_neg (fun h => b1 h.1)] at t
    rw [o first 5 b1, if_pos rfl]
    exact t
-- method 175: MillTown.orderOf(II)I
theorem c_175_0 : pg_cd 175 0 = (3, 1, 0, 2, 0) := by decide +kernel
theorem c_175_1 : pg_cd 175 1 = (1, 1, 0, 0, 0) := by decide +kernel
theorem c_175_2 : pg_cd 175 2 = (1, 1, 0, 0, 4) := by decide +kernel
theorem c_175_3 : pg_cd 175 3 = (81, 141, 85, 0, 0) := by decide +kernel
theorem c_175_6 : pg_cd 175 6 = (36, 3, 0, 0, 18) := by decide +kernel
theorem c_175_9 : pg_cd 175 9 = (5, 1, 0, 0, 0) := by decide +kernel
theorem c_175_10 : pg_cd 175 10 = (45, 11, 12, 0, 0) := by decide +kernel
theorem c_175_13 : pg_cd 175 13 = (45, 8, 244, 6, 0) := by decide +kernel
theorem c_175_16 : pg_cd 175 16 = (3, 1, 0, 1, 0) := by decide +kernel
theorem c_175_17 : pg_cd 175 17 = (3, 1, 0, 2, 0) := by decide +kernel
theorem c_175_18 : pg_cd 175 18 = (80, 55, 130, 0, 0) := by decide +kernel
theorem c_175_21 : pg_cd 175 21 = (38, 3, 0, 0, 4) := by decide +kernel
theorem c_175_24 : pg_cd 175 24 = (1, 1, 0, 0, (-1)) := by decide +kernel
theorem c_175_25 : pg_cd 175 25 = (90, 0, 0, 0, 0) := by decide +kernel
theorem mi_175 : pg_mc 175 = 11 ∧ pg_na 175 = 2 ∧ pg_mx 175 = 3 := by decide +kernel
set_option maxRecDepth 20000 in
theorem u_175_0 {d : Nat} {S : zS} {σ τ : zI} {Q : zQ} {x1 : Int} {x2 : Int} (t : (rg x2) ∧ if 0 ≤ x2 ∧ x2 ≤ 4 then ((rg x1) ∧ Q (some (.int (wI (ra_ (σ 15 2) (σ 16) 6 x1 x2)))) S σ τ) else (Q (some (.int (wI (-1)))) S σ τ)) : wi (d + 8) 175 0 [.ref 1, .int (wI x1), .int (wI x2)] [] S σ τ Q := by
  obtain ⟨r1, t⟩ := t
  refine i3 c_175_0 rfl (i1 c_175_1 (i1 c_175_2 ?_))
  refine i81 (As := [.int (wI x2), .int (wI 0), .int (wI 4)]) (rest := []) c_175_3 mi_141 rfl rfl (Nat.le_of_ble_eq_true rfl) (Nat.le_of_ble_eq_true rfl) (q_141 r1 (by decide) (by decide) ?_)
  show wi (d + 8) 175 6 [.ref 1, .int (wI x1), .int (wI x2)] [.int (wI (if 0 ≤ x2 ∧ x2 ≤ 4 then 1 else 0))] S σ τ Q
  refine i36e c_175_6 rfl (fun hc => ?_) (fun hc => ?_)
  · have t := iT t hc
    have ha2 : 0 ≤ x2 ∧ x2 ≤ 4 := hc
    obtain ⟨r3, t⟩ := t
    refine i5 c_175_9 rfl (i45 c_175_10 (lo (c := 1) (kd := 111) (n := 0) rfl (by decide)) (lro (c := 1) (k := 0) (j := 2) (by decide)) (i45 c_175_13 (lo (c := 2) (kd := 108) (n := 0) rfl (by decide)) (lro (c := 2) (k := 6) (j := 15) (by decide)) (i3 c_175_16 rfl (i3 c_175_17 rfl (wi_ok (fun K4 => ?_))))))
    refine i80 (As := [.int (wI x1), .int (wI x2)]) (rest := []) c_175_18 mi_55 rfl rfl (Nat.le_of_ble_eq_true rfl) (Nat.le_of_ble_eq_true rfl) (lo (c := 15) (kd := 104) (n := 0) rfl (by decide)) (q_atv (ow_orders tw_2) r3 r1 ?_)
    show wi (d + 8) 175 21 [.ref 1, .int (wI x1), .int (wI x2)] [.int (wI (ra_ (σ 15 2) (σ 16) 6 x1 x2))] S σ τ Q
    refine i38 c_175_21 rfl ?_
    exact i90 c_175_25 t
  · have t := iF t hc
    have ha2 : ¬ (0 ≤ x2 ∧ x2 ≤ 4) := hc
    refine i1 c_175_24 ?_
    exact i90 c_175_25 t
theorem q_175 {d : Nat} {S : zS} {σ τ : zI} {Q : zQ} {order : Int} {what : Int} {a : Int → Int} (p0 : RT σ 2 a) (p1 : Jv a) (p2 : rg order) (p3 : rg what) (t : Q (some (.int (wI (v_orderOf a order what)))) S σ τ) : wc (d + 8) 175 [.ref 1, .int (wI order), .int (wI what)] S σ τ Q := by
  have hC := jC p1
  unfold jv_C at hC
  have l2 := tl_2 p0
  unfold v_orderOf at t
  refine wc_of mi_175 rfl (u_175_0 ⟨p3, ?_⟩)
  refine ifI (fun h => ?_) (fun h => ?_)
  · refine ⟨p2, ?_⟩
    unfold ra_
    by_cases b : 0 ≤ order ∧ order < a 7
    · rw [if_pos (by omega)] at t
      rw [if_pos (by omega)]
      have q := (tO p0).2 order b.1 b.2
      have e : what = 0 ∨ what = 1 ∨ what = 2 ∨ what = 3 ∨ what = 4 := by omega
      rcases e with rfl | rfl | rfl | rfl | rfl
      · rw [show 4372 + 8 * order + 0 = 4372 + 8 * order by omega, ← q.1] at t; exact t
      · rw [← q.2.1] at t; exact t
      · rw [← q.2.2.1] at t; exact t
      · rw [← q.2.2.2.1] at t; exact t
      · rw [← q.2.2.2.2] at t; exact t
    · rw [if_neg (by omega)] at t
      rw [if_neg (by omega)]
      exact t
  · rw [if_neg (by omega)] at t
    exact t
-- method 173: MillTown.personOf(II)I
theorem c_173_0 : pg_cd 173 0 = (3, 1, 0, 2, 0) := by decide +kernel
theorem c_173_1 : pg_cd 173 1 = (1, 1, 0, 0, 0) := by decide +kernel
theorem c_173_2 : pg_cd 173 2 = (1, 2, 0, 0, 8) := by decide +kernel
theorem c_173_4 : pg_cd 173 4 = (81, 141, 85, 0, 0) := by decide +kernel
theorem c_173_7 : pg_cd 173 7 = (36, 3, 0, 0, 18) := by decide +kernel
theorem c_173_10 : pg_cd 173 10 = (5, 1, 0, 0, 0) := by decide +kernel
theorem c_173_11 : pg_cd 173 11 = (45, 11, 12, 0, 0) := by decide +kernel
theorem c_173_14 : pg_cd 173 14 = (45, 8, 136, 5, 0) := by decide +kernel
theorem c_173_17 : pg_cd 173 17 = (3, 1, 0, 1, 0) := by decide +kernel
theorem c_173_18 : pg_cd 173 18 = (3, 1, 0, 2, 0) := by decide +kernel
theorem c_173_19 : pg_cd 173 19 = (80, 55, 130, 0, 0) := by decide +kernel
theorem c_173_22 : pg_cd 173 22 = (38, 3, 0, 0, 4) := by decide +kernel
theorem c_173_25 : pg_cd 173 25 = (1, 1, 0, 0, (-1)) := by decide +kernel
theorem c_173_26 : pg_cd 173 26 = (90, 0, 0, 0, 0) := by decide +kernel
theorem mi_173 : pg_mc 173 = 11 ∧ pg_na 173 = 2 ∧ pg_mx 173 = 3 := by decide +kernel
set_option maxRecDepth 20000 in
theorem u_173_0 {d : Nat} {S : zS} {σ τ : zI} {Q : zQ} {x1 : Int} {x2 : Int} (t : (rg x2) ∧ if 0 ≤ x2 ∧ x2 ≤ 8 then ((rg x1) ∧ Q (some (.int (wI (ra_ (σ 13 2) (σ 14) 9 x1 x2)))) S σ τ) else (Q (some (.int (wI (-1)))) S σ τ)) : wi (d + 8) 173 0 [.ref 1, .int (wI x1), .int (wI x2)] [] S σ τ Q := by
  obtain ⟨r1, t⟩ := t
  refine i3 c_173_0 rfl (i1 c_173_1 (i1 c_173_2 ?_))
  refine i81 (As := [.int (wI x2), .int (wI 0), .int (wI 8)]) (rest := []) c_173_4 mi_141 rfl rfl (Nat.le_of_ble_eq_true rfl) (Nat.le_of_ble_eq_true rfl) (q_141 r1 (by decide) (by decide) ?_)
  show wi (d + 8) 173 7 [.ref 1, .int (wI x1), .int (wI x2)] [.int (wI (if 0 ≤ x2 ∧ x2 ≤ 8 then 1 else 0))] S σ τ Q
  refine i36e c_173_7 rfl (fun hc => ?_) (fun hc => ?_)
  · have t := iT t hc
    have ha2 : 0 ≤ x2 ∧ x2 ≤ 8 := hc
    obtain ⟨r3, t⟩ := t
    refine i5 c_173_10 rfl (i45 c_173_11 (lo (c := 1) (kd := 111) (n := 0) rfl (by decide)) (lro (c := 1) (k := 0) (j := 2) (by decide)) (i45 c_173_14 (lo (c := 2) (kd := 108) (n := 0) rfl (by decide)) (lro (c := 2) (k := 5) (j := 13) (by decide)) (i3 c_173_17 rfl (i3 c_173_18 rfl (wi_ok (fun K4 => ?_))))))
    refine i80 (As := [.int (wI x1), .int (wI x2)]) (rest := []) c_173_19 mi_55 rfl rfl (Nat.le_of_ble_eq_true rfl) (Nat.le_of_ble_eq_true rfl) (lo (c := 13) (kd := 104) (n := 0) rfl (by decide)) (q_atv (ow_persons tw_2) r3 r1 ?_)
    show wi (d + 8) 173 22 [.ref 1, .int (wI x1), .int (wI x2)] [.int (wI (ra_ (σ 13 2) (σ 14) 9 x1 x2))] S σ τ Q
    refine i38 c_173_22 rfl ?_
    exact i90 c_173_26 t
  · have t := iF t hc
    have ha2 : ¬ (0 ≤ x2 ∧ x2 ≤ 8) := hc
    refine i1 c_173_25 ?_
    exact i90 c_173_26 t
theorem q_173 {d : Nat} {S : zS} {σ τ : zI} {Q : zQ} {person : Int} {what : Int} {a : Int → Int} (p0 : RT σ 2 a) (p1 : Jv a) (p2 : rg person) (p3 : rg what) (t : Q (some (.int (wI (v_personOf a person what)))) S σ τ) : wc (d + 8) 173 [.ref 1, .int (wI person), .int (wI what)] S σ τ Q := by
  have l2 := tl_2 p0
  unfold v_personOf at t
  refine wc_of mi_173 rfl (u_173_0 ⟨p3, ?_⟩)
  refine ifI (fun h => ?_) (fun h => ?_)
  · refine ⟨p2, ?_⟩
    unfold ra_
    by_cases b : 0 ≤ person ∧ person < a 4
    · rw [if_pos ⟨b, h⟩, ← (tP p0).2 person b.1 b.2 what h.1 h.2] at t
      rw [if_pos (by omega)]
      exact t
    · rw [if_neg (fun q => b q.1)] at t
      rw [if_neg (by omega)]
      exact t
  · rw [if_neg (fun q => h q.2)] at t
    exact t
-- method 174: MillTown.shopOf(II)I
theorem c_174_0 : pg_cd 174 0 = (3, 1, 0, 2, 0) := by decide +kernel
theorem c_174_1 : pg_cd 174 1 = (1, 1, 0, 0, 0) := by decide +kernel
theorem c_174_2 : pg_cd 174 2 = (1, 1, 0, 0, 2) := by decide +kernel
theorem c_174_3 : pg_cd 174 3 = (81, 141, 85, 0, 0) := by decide +kernel
theorem c_174_6 : pg_cd 174 6 = (36, 3, 0, 0, 18) := by decide +kernel
theorem c_174_9 : pg_cd 174 9 = (5, 1, 0, 0, 0) := by decide +kernel
theorem c_174_10 : pg_cd 174 10 = (45, 11, 12, 0, 0) := by decide +kernel
theorem c_174_13 : pg_cd 174 13 = (45, 8, 121, 3, 0) := by decide +kernel
theorem c_174_16 : pg_cd 174 16 = (3, 1, 0, 1, 0) := by decide +kernel
theorem c_174_17 : pg_cd 174 17 = (3, 1, 0, 2, 0) := by decide +kernel
theorem c_174_18 : pg_cd 174 18 = (80, 55, 130, 0, 0) := by decide +kernel
theorem c_174_21 : pg_cd 174 21 = (38, 3, 0, 0, 4) := by decide +kernel
theorem c_174_24 : pg_cd 174 24 = (1, 1, 0, 0, (-1)) := by decide +kernel
theorem c_174_25 : pg_cd 174 25 = (90, 0, 0, 0, 0) := by decide +kernel
theorem mi_174 : pg_mc 174 = 11 ∧ pg_na 174 = 2 ∧ pg_mx 174 = 3 := by decide +kernel
set_option maxRecDepth 20000 in
theorem u_174_0 {d : Nat} {S : zS} {σ τ : zI} {Q : zQ} {x1 : Int} {x2 : Int} (t : (rg x2) ∧ if 0 ≤ x2 ∧ x2 ≤ 2 then ((rg x1) ∧ Q (some (.int (wI (ra_ (σ 9 2) (σ 10) 5 x1 x2)))) S σ τ) else (Q (some (.int (wI (-1)))) S σ τ)) : wi (d + 8) 174 0 [.ref 1, .int (wI x1), .int (wI x2)] [] S σ τ Q := by
  obtain ⟨r1, t⟩ := t
  refine i3 c_174_0 rfl (i1 c_174_1 (i1 c_174_2 ?_))
  refine i81 (As := [.int (wI x2), .int (wI 0), .int (wI 2)]) (rest := []) c_174_3 mi_141 rfl rfl (Nat.le_of_ble_eq_true rfl) (Nat.le_of_ble_eq_true rfl) (q_141 r1 (by decide) (by decide) ?_)
  show wi (d + 8) 174 6 [.ref 1, .int (wI x1), .int (wI x2)] [.int (wI (if 0 ≤ x2 ∧ x2 ≤ 2 then 1 else 0))] S σ τ Q
  refine i36e c_174_6 rfl (fun hc => ?_) (fun hc => ?_)
  · have t := iT t hc
    have ha2 : 0 ≤ x2 ∧ x2 ≤ 2 := hc
    obtain ⟨r3, t⟩ := t
    refine i5 c_174_9 rfl (i45 c_174_10 (lo (c := 1) (kd := 111) (n := 0) rfl (by decide)) (lro (c := 1) (k := 0) (j := 2) (by decide)) (i45 c_174_13 (lo (c := 2) (kd := 108) (n := 0) rfl (by decide)) (lro (c := 2) (k := 3) (j := 9) (by decide)) (i3 c_174_16 rfl (i3 c_174_17 rfl (wi_ok (fun K4 => ?_))))))
    refine i80 (As := [.int (wI x1), .int (wI x2)]) (rest := []) c_174_18 mi_55 rfl rfl (Nat.le_of_ble_eq_true rfl) (Nat.le_of_ble_eq_true rfl) (lo (c := 9) (kd := 104) (n := 0) rfl (by decide)) (q_atv (ow_shops tw_2) r3 r1 ?_)
    show wi (d + 8) 174 21 [.ref 1, .int (wI x1), .int (wI x2)] [.int (wI (ra_ (σ 9 2) (σ 10) 5 x1 x2))] S σ τ Q
    refine i38 c_174_21 rfl ?_
    exact i90 c_174_25 t
  · have t := iF t hc
    have ha2 : ¬ (0 ≤ x2 ∧ x2 ≤ 2) := hc
    refine i1 c_174_24 ?_
    exact i90 c_174_25 t
theorem q_174 {d : Nat} {S : zS} {σ τ : zI} {Q : zQ} {shop : Int} {what : Int} {a : Int → Int} (p0 : RT σ 2 a) (p1 : Jv a) (p2 : rg shop) (p3 : rg what) (t : Q (some (.int (wI (v_shopOf a shop what)))) S σ τ) : wc (d + 8) 174 [.ref 1, .int (wI shop), .int (wI what)] S σ τ Q := by
  have hC := jC p1
  unfold jv_C at hC
  have l2 := tl_2 p0
  unfold v_shopOf at t
  refine wc_of mi_174 rfl (u_174_0 ⟨p3, ?_⟩)
  refine ifI (fun h => ?_) (fun h => ?_)
  · refine ⟨p2, ?_⟩
    unfold ra_
    by_cases b : 0 ≤ shop ∧ shop < a 2
    · rw [if_pos (by omega)] at t
      rw [if_pos (by omega)]
      have q := (tQ p0).2 shop b.1 b.2
      have e : what = 0 ∨ what = 1 ∨ what = 2 := by omega
      rcases e with rfl | rfl | rfl
      · rw [if_pos rfl, ← q.1] at t; exact t
      · rw [if_neg (by omega), if_pos rfl, ← q.2.1] at t; exact t
      · rw [if_neg (by omega), if_neg (by omega), if_pos rfl, ← q.2.2.1] at t; exact t
    · rw [if_neg (by omega)] at t
      rw [if_neg (by omega)]
      exact t
  · have : (if 0 ≤ shop ∧ shop ≤ a 2 - 1 then (if what = 0 then a (3428 + 8 * shop) else if what = 1 then r_debts a shop else if what = 2 then a (3428 + 8 * shop + 3) else -1) else -1) = -1 := by
      rw [if_neg (show ¬ what = 0 by omega), if_neg (show ¬ what = 1 by omega), if_neg (show ¬ what = 2 by omega)]
      split <;> rfl
    rw [this] at t
    exact t
-- method 172: MillTown.homeOf(II)I
theorem c_172_0 : pg_cd 172 0 = (3, 1, 0, 2, 0) := by decide +kernel
theorem c_172_1 : pg_cd 172 1 = (1, 1, 0, 0, 0) := by decide +kernel
theorem c_172_2 : pg_cd 172 2 = (1, 2, 0, 0, 6) := by decide +kernel
theorem c_172_4 : pg_cd 172 4 = (81, 141, 85, 0, 0) := by decide +kernel
theorem c_172_7 : pg_cd 172 7 = (36, 3, 0, 0, 18) := by decide +kernel
theorem c_172_10 : pg_cd 172 10 = (5, 1, 0, 0, 0) := by decide +kernel
theorem c_172_11 : pg_cd 172 11 = (45, 11, 12, 0, 0) := by decide +kernel
theorem c_172_14 : pg_cd 172 14 = (45, 8, 127, 4, 0) := by decide +kernel
theorem c_172_17 : pg_cd 172 17 = (3, 1, 0, 1, 0) := by decide +kernel
theorem c_172_18 : pg_cd 172 18 = (3, 1, 0, 2, 0) := by decide +kernel
theorem c_172_19 : pg_cd 172 19 = (80, 55, 130, 0, 0) := by decide +kernel
theorem c_172_22 : pg_cd 172 22 = (38, 3, 0, 0, 4) := by decide +kernel
theorem c_172_25 : pg_cd 172 25 = (1, 1, 0, 0, (-1)) := by decide +kernel
theorem c_172_26 : pg_cd 172 26 = (90, 0, 0, 0, 0) := by decide +kernel
theorem mi_172 : pg_mc 172 = 11 ∧ pg_na 172 = 2 ∧ pg_mx 172 = 3 := by decide +kernel
set_option maxRecDepth 20000 in
theorem u_172_0 {d : Nat} {S : zS} {σ τ : zI} {Q : zQ} {x1 : Int} {x2 : Int} (t : (rg x2) ∧ if 0 ≤ x2 ∧ x2 ≤ 6 then ((rg x1) ∧ Q (some (.int (wI (ra_ (σ 11 2) (σ 12) 8 x1 x2)))) S σ τ) else (Q (some (.int (wI (-1)))) S σ τ)) : wi (d + 8) 172 0 [.ref 1, .int (wI x1), .int (wI x2)] [] S σ τ Q := by
  obtain ⟨r1, t⟩ := t
  refine i3 c_172_0 rfl (i1 c_172_1 (i1 c_172_2 ?_))
  refine i81 (As := [.int (wI x2), .int (wI 0), .int (wI 6)]) (rest := []) c_172_4 mi_141 rfl rfl (Nat.le_of_ble_eq_true rfl) (Nat.le_of_ble_eq_true rfl) (q_141 r1 (by decide) (by decide) ?_)
  show wi (d + 8) 172 7 [.ref 1, .int (wI x1), .int (wI x2)] [.int (wI (if 0 ≤ x2 ∧ x2 ≤ 6 then 1 else 0))] S σ τ Q
  refine i36e c_172_7 rfl (fun hc => ?_) (fun hc => ?_)
  · have t := iT t hc
    have ha2 : 0 ≤ x2 ∧ x2 ≤ 6 := hc
    obtain ⟨r3, t⟩ := t
    refine i5 c_172_10 rfl (i45 c_172_11 (lo (c := 1) (kd := 111) (n := 0) rfl (by decide)) (lro (c := 1) (k := 0) (j := 2) (by decide)) (i45 c_172_14 (lo (c := 2) (kd := 108) (n := 0) rfl (by decide)) (lro (c := 2) (k := 4) (j := 11) (by decide)) (i3 c_172_17 rfl (i3 c_172_18 rfl (wi_ok (fun K4 => ?_))))))
    refine i80 (As := [.int (wI x1), .int (wI x2)]) (rest := []) c_172_19 mi_55 rfl rfl (Nat.le_of_ble_eq_true rfl) (Nat.le_of_ble_eq_true rfl) (lo (c := 11) (kd := 104) (n := 0) rfl (by decide)) (q_atv (ow_homes tw_2) r3 r1 ?_)
    show wi (d + 8) 172 22 [.ref 1, .int (wI x1), .int (wI x2)] [.int (wI (ra_ (σ 11 2) (σ 12) 8 x1 x2))] S σ τ Q
    refine i38 c_172_22 rfl ?_
    exact i90 c_172_26 t
  · have t := iF t hc
    have ha2 : ¬ (0 ≤ x2 ∧ x2 ≤ 6) := hc
    refine i1 c_172_25 ?_
    exact i90 c_172_26 t
theorem q_172 {d : Nat} {S : zS} {σ τ : zI} {Q : zQ} {home : Int} {what : Int} {a : Int → Int} (p0 : RT σ 2 a) (p1 : Jv a) (p2 : rg home) (p3 : rg what) (t : Q (some (.int (wI (v_homeOf a home what)))) S σ τ) : wc (d + 8) 172 [.ref 1, .int (wI home), .int (wI what)] S σ τ Q := by
  have hC := jC p1
  unfold jv_C at hC
  have l2 := tl_2 p0
  unfold v_homeOf at t
  refine wc_of mi_172 rfl (u_172_0 ⟨p3, ?_⟩)
  refine ifI (fun h => ?_) (fun h => ?_)
  · refine ⟨p2, ?_⟩
    unfold ra_
    by_cases b : 0 ≤ home ∧ home < a 3
    · rw [if_pos (by omega)] at t
      rw [if_pos (by omega)]
      have q := (tH p0).2 home b.1 b.2
      have e : what = 0 ∨ what = 1 ∨ what = 2 ∨ what = 3 ∨ what = 4 ∨ what = 5 ∨ what = 6 := by omega
      rcases e with rfl | rfl | rfl | rfl | rfl | rfl | rfl
      · rw [if_pos rfl, ← q.1] at t; exact t
      · rw [if_neg (by omega), if_pos rfl, ← q.2.1] at t; exact t
      · rw [if_neg (by omega), if_neg (by omega), if_pos rfl, ← q.2.2.1] at t; exact t
      · rw [if_neg (by omega), if_neg (by omega), if_neg (by omega), if_pos rfl, ← q.2.2.2.1] at t; exact t
      · rw [if_neg (by omega), if_neg (by omega), if_neg (by omega), if_neg (by omega), if_pos rfl, ← q.2.2.2.2.1] at t; exact t
      · rw [if_neg (by omega), if_neg (by omega), if_neg (by omega), if_neg (by omega), if_neg (by omega), if_pos rfl, ← q.2.2.2.2.2.1] at t; exact t
      · rw [if_neg (by omega), if_neg (by omega), if_neg (by omega), if_neg (by omega), if_neg (by omega), if_neg (by omega), if_pos rfl, ← q.2.2.2.2.2.2.1] at t; exact t
    · rw [if_neg (by omega)] at t
      rw [if_neg (by omega)]
      exact t
  · rw [if_neg (show ¬ what = 0 by omega), if_neg (show ¬ what = 1 by omega), if_neg (show ¬ what = 2 by omega), if_neg (show ¬ what = 3 by omega), if_neg (show ¬ what = 4 by omega), if_neg (show ¬ what = 5 by omega), if_neg (show ¬ what = 6 by omega), ite_self] at t
    exact t
-- method 171: MillTown.millOf(II)I
theorem c_171_0 : pg_cd 171 0 = (5, 1, 0, 0, 0) := by decide +kernel
theorem c_171_1 : pg_cd 171 1 = (45, 11, 12, 0, 0) := by decide +kernel
theorem c_171_4 : pg_cd 171 4 = (45, 8, 71, 2, 0) := by decide +kernel
theorem c_171_7 : pg_cd 171 7 = (3, 1, 0, 1, 0) := by decide +kernel
theorem c_171_8 : pg_cd 171 8 = (80, 53, 75, 0, 0) := by decide +kernel
theorem c_171_11 : pg_cd 171 11 = (36, 3, 0, 0, 13) := by decide +kernel
theorem c_171_14 : pg_cd 171 14 = (3, 1, 0, 2, 0) := by decide +kernel
theorem c_171_15 : pg_cd 171 15 = (1, 1, 0, 0, 0) := by decide +kernel
theorem c_171_16 : pg_cd 171 16 = (1, 2, 0, 0, 9) := by decide +kernel
theorem c_171_18 : pg_cd 171 18 = (81, 141, 85, 0, 0) := by decide +kernel
theorem c_171_21 : pg_cd 171 21 = (36, 3, 0, 1, 5) := by decide +kernel
theorem c_171_24 : pg_cd 171 24 = (1, 1, 0, 0, (-1)) := by decide +kernel
theorem c_171_25 : pg_cd 171 25 = (90, 0, 0, 0, 0) := by decide +kernel
theorem c_171_26 : pg_cd 171 26 = (3, 1, 0, 2, 0) := by decide +kernel
theorem c_171_27 : pg_cd 171 27 = (1, 1, 0, 0, 1) := by decide +kernel
theorem c_171_28 : pg_cd 171 28 = (37, 3, 0, 1, 14) := by decide +kernel
theorem c_171_31 : pg_cd 171 31 = (5, 1, 0, 0, 0) := by decide +kernel
theorem c_171_32 : pg_cd 171 32 = (45, 11, 12, 0, 0) := by decide +kernel
theorem c_171_35 : pg_cd 171 35 = (3, 1, 0, 1, 0) := by decide +kernel
theorem c_171_36 : pg_cd 171 36 = (80, 99, 157, 0, 0) := by decide +kernel
theorem c_171_39 : pg_cd 171 39 = (38, 3, 0, 0, 15) := by decide +kernel
theorem c_171_42 : pg_cd 171 42 = (5, 1, 0, 0, 0) := by decide +kernel
theorem c_171_43 : pg_cd 171 43 = (45, 11, 12, 0, 0) := by decide +kernel
theorem c_171_46 : pg_cd 171 46 = (45, 8, 71, 2, 0) := by decide +kernel
theorem c_171_49 : pg_cd 171 49 = (3, 1, 0, 1, 0) := by decide +kernel
theorem c_171_50 : pg_cd 171 50 = (3, 1, 0, 2, 0) := by decide +kernel
theorem c_171_51 : pg_cd 171 51 = (80, 55, 130, 0, 0) := by decide +kernel
theorem c_171_54 : pg_cd 171 54 = (90, 0, 0, 0, 0) := by decide +kernel
theorem mi_171 : pg_mc 171 = 11 ∧ pg_na 171 = 2 ∧ pg_mx 171 = 3 := by decide +kernel
set_option maxRecDepth 20000 in
theorem u_171_0 {d : Nat} {S : zS} {σ τ : zI} {Q : zQ} {x1 : Int} {x2 : Int} (t : (rg x1) ∧ if 0 ≤ x1 ∧ x1 < (σ 7 2) then ((rg x2) ∧ if 0 ≤ x2 ∧ x2 ≤ 9 then (if x2 = 1 then (∃ a7 : Int → Int, (RT σ 2 a7) ∧ (Jv a7) ∧ ∀ (v10 : Int), v10 = r_had a7 x1 (-1) → 0 ≤ v10 ∧ v10 ≤ 3000 → Q (some (.int (wI v10))) S σ τ) else (Q (some (.int (wI (ra_ (σ 7 2) (σ 8) 13 x1 x2)))) S σ τ)) else (Q (some (.int (wI (-1)))) S σ τ)) else (Q (some (.int (wI (-1)))) S σ τ)) : wi (d + 8) 171 0 [.ref 1, .int (wI x1), .int (wI x2)] [] S σ τ Q := by
  obtain ⟨r1, t⟩ := t
  refine i5 c_171_0 rfl (i45 c_171_1 (lo (c := 1) (kd := 111) (n := 0) rfl (by decide)) (lro (c := 1) (k := 0) (j := 2) (by decide)) (i45 c_171_4 (lo (c := 2) (kd := 108) (n := 0) rfl (by decide)) (lro (c := 2) (k := 2) (j := 7) (by decide)) (i3 c_171_7 rfl (wi_ok (fun K2 => ?_)))))
  refine i80 (As := [.int (wI x1)]) (rest := []) c_171_8 mi_53 rfl rfl (Nat.le_of_ble_eq_true rfl) (Nat.le_of_ble_eq_true rfl) (lo (c := 7) (kd := 104) (n := 0) rfl (by decide)) (q_has (ow_mills tw_2) r1 ?_)
  show wi (d + 8) 171 11 [.ref 1, .int (wI x1), .int (wI x2)] [.int (wI (if 0 ≤ x1 ∧ x1 < σ 7 2 then 1 else 0))] S σ τ Q
  refine i36e c_171_11 rfl (fun hc => ?_) (fun hc => ?_)
  · have t := iT t hc
    have ha3 : 0 ≤ x1 ∧ x1 < (σ 7 2) := hc
    obtain ⟨r4, t⟩ := t
    refine i3 c_171_14 rfl (i1 c_171_15 (i1 c_171_16 ?_))
    refine i81 (As := [.int (wI x2), .int (wI 0), .int (wI 9)]) (rest := []) c_171_18 mi_141 rfl rfl (Nat.le_of_ble_eq_true rfl) (Nat.le_of_ble_eq_true rfl) (q_141 r4 (by decide) (by decide) ?_)
    show wi (d + 8) 171 21 [.ref 1, .int (wI x1), .int (wI x2)] [.int (wI (if 0 ≤ x2 ∧ x2 ≤ 9 then 1 else 0))] S σ τ Q
    refine i36f c_171_21 rfl (fun hc => ?_) (fun hc => ?_)
    · have t := iT t hc
      have ha5 : 0 ≤ x2 ∧ x2 ≤ 9 := hc
      refine i3 c_171_26 rfl (i1 c_171_27 ?_)
      refine i37 c_171_28 r4 (by decide) rfl (fun hc => ?_) (fun hc => ?_)
      · have t := iF t hc
        have ha6 : ¬ (x2 = 1) := hc
        refine i5 c_171_42 rfl (i45 c_171_43 (lo (c := 1) (kd := 111) (n := 0) rfl (by decide)) (lro (c := 1) (k := 0) (j := 2) (by decide)) (i45 c_171_46 (lo (c := 2) (kd := 108) (n := 0) rfl (by decide)) (lro (c := 2) (k := 2) (j := 7) (by decide)) (i3 c_171_49 rfl (i3 c_171_50 rfl ?_))))
        refine i80 (As := [.int (wI x1), .int (wI x2)]) (rest := []) c_171_51 mi_55 rfl rfl (Nat.le_of_ble_eq_true rfl) (Nat.le_of_ble_eq_true rfl) (lo (c := 7) (kd := 104) (n := 0) rfl (by decide)) (q_atv (ow_mills tw_2) r1 r4 ?_)
        show wi (d + 8) 171 54 [.ref 1, .int (wI x1), .int (wI x2)] [.int (wI (ra_ (σ 7 2) (σ 8) 13 x1 x2))] S σ τ Q
        exact i90 c_171_54 t
      · have t := iT t (Decidable.not_not.mp hc)
        have ha6 : x2 = 1 := Decidable.not_not.mp hc
        obtain ⟨a7, t⟩ := t
        obtain ⟨p8, t⟩ := t
        obtain ⟨p9, t⟩ := t
        refine i5 c_171_31 rfl (i45 c_171_32 (lo (c := 1) (kd := 111) (n := 0) rfl (by decide)) (lro (c := 1) (k := 0) (j := 2) (by decide)) (i3 c_171_35 rfl ?_))
        refine i80 (As := [.int (wI x1)]) (rest := []) c_171_36 mi_99 rfl rfl (Nat.le_of_ble_eq_true rfl) (Nat.le_of_ble_eq_true rfl) (lo (c := 2) (kd := 108) (n := 0) rfl (by decide)) (q_99 (a := a7) tw_2 p8 p9 r1 (fun v10 q11 q12 => ?_))
        have t := t v10 q11 q12
        show wi (d + 8) 171 39 [.ref 1, .int (wI x1), .int (wI x2)] [.int (wI v10)] S σ τ Q
        refine i38 c_171_39 rfl ?_
        exact i90 c_171_54 t
    · have t := iF t hc
      have ha5 : ¬ (0 ≤ x2 ∧ x2 ≤ 9) := hc
      refine i1 c_171_24 ?_
      exact i90 c_171_25 t
  · have t := iF t hc
    have ha3 : ¬ (0 ≤ x1 ∧ x1 < (σ 7 2)) := hc
    refine i1 c_171_24 ?_
    exact i90 c_171_25 t
theorem q_171 {d : Nat} {S : zS} {σ τ : zI} {Q : zQ} {mill : Int} {what : Int} {a : Int → Int} (p0 : RT σ 2 a) (p1 : Jv a) (p2 : rg mill) (p3 : rg what) (t : Q (some (.int (wI (v_millOf a mill what)))) S σ τ) : wc (d + 8) 171 [.ref 1, .int (wI mill), .int (wI what)] S σ τ Q := by
  have hC := jC p1
  unfold jv_C at hC
  have l2 := tl_2 p0
  unfold v_millOf at t
  refine wc_of mi_171 rfl (u_171_0 ⟨p2, ?_⟩)
  refine ifI (fun b => ?_) (fun b => ?_)
  · rw [if_pos (by omega)] at t
    refine ⟨p3, ?_⟩
    refine ifI (fun h => ?_) (fun h => ?_)
    · refine ifI (fun e => ?_) (fun e => ?_)
      · rw [if_neg (by omega), if_pos e] at t
        refine ⟨a, p0, p1, ?_⟩
        intro v hv hb
        subst hv
        exact t
      · unfold ra_
        rw [if_pos (by omega)]
        have q := (tM p0).2 mill b.1 (by omega)
        have e : what = 0 ∨ what = 2 ∨ what = 3 ∨ what = 4 ∨ what = 5 ∨ what = 6 ∨ what = 7 ∨ what = 8 ∨ what = 9 := by omega
        rcases e with rfl | rfl | rfl | rfl | rfl | rfl | rfl | rfl | rfl
        · rw [if_pos rfl, ← q.1] at t; exact t
        · rw [if_neg (by omega), if_neg (by omega), if_pos rfl, ← q.2.1] at t; exact t
        · rw [if_neg (by omega), if_neg (by omega), if_neg (by omega), if_pos rfl, ← q.2.2.1] at t; exact t
        · rw [if_neg (by omega), if_neg (by omega), if_neg (by omega), if_neg (by omega), if_pos rfl, ← q.2.2.2.1] at t; exact t
        · rw [if_neg (by omega), if_neg (by omega), if_neg (by omega), if_neg (by omega), if_neg (by omega), if_pos rfl, ← q.2.2.2.2.1] at t; exact t
        · rw [if_neg (by omega), if_neg (by omega), if_neg (by omega), if_neg (by omega), if_neg (by omega), if_neg (by omega), if_pos rfl, ← q.2.2.2.2.2.1] at t; exact t
        · rw [if_neg (by omega), if_neg (by omega), if_neg (by omega), if_neg (by omega), if_neg (by omega), if_neg (by omega), if_neg (by omega), if_pos rfl, ← q.2.2.2.2.2.2.1] at t; exact t
        · rw [if_neg (by omega), if_neg (by omega), if_neg (by omega), if_neg (by omega), if_neg (by omega), if_neg (by omega), if_neg (by omega), if_neg (by omega), if_pos rfl, ← q.2.2.2.2.2.2.2.1] at t; exact t
        · rw [if_neg (by omega), if_neg (by omega), if_neg (by omega), if_neg (by omega), if_neg (by omega), if_neg (by omega), if_neg (by omega), if_neg (by omega), if_neg (by omega), if_pos rfl, ← q.2.2.2.2.2.2.2.2.1] at t; exact t
    · rw [if_neg (show ¬ what = 0 by omega), if_neg (show ¬ what = 1 by omega), if_neg (show ¬ what = 2 by omega), if_neg (show ¬ what = 3 by omega), if_neg (show ¬ what = 4 by omega), if_neg (show ¬ what = 5 by omega), if_neg (show ¬ what = 6 by omega), if_neg (show ¬ what = 7 by omega), if_neg (show ¬ what = 8 by omega), if_neg (show ¬ what = 9 by omega)] at t
      exact t
  · rw [if_neg (by omega)] at t
    exact t
