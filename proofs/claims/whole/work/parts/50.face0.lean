/-! ===== the class: small ones of its face (segments printed by wip/whole, contracts own work) ===== -/
-- method 141: MillTown.within(III)Z
theorem c_141_0 : pg_cd 141 0 = (3, 1, 0, 0, 0) := by decide +kernel
theorem c_141_1 : pg_cd 141 1 = (3, 1, 0, 1, 0) := by decide +kernel
theorem c_141_2 : pg_cd 141 2 = (37, 3, 0, 2, 12) := by decide +kernel
theorem c_141_5 : pg_cd 141 5 = (3, 1, 0, 0, 0) := by decide +kernel
theorem c_141_6 : pg_cd 141 6 = (3, 1, 0, 2, 0) := by decide +kernel
theorem c_141_7 : pg_cd 141 7 = (37, 3, 0, 4, 7) := by decide +kernel
theorem c_141_10 : pg_cd 141 10 = (1, 1, 0, 0, 1) := by decide +kernel
theorem c_141_11 : pg_cd 141 11 = (38, 3, 0, 0, 4) := by decide +kernel
theorem c_141_14 : pg_cd 141 14 = (1, 1, 0, 0, 0) := by decide +kernel
theorem c_141_15 : pg_cd 141 15 = (91, 0, 0, 0, 0) := by decide +kernel
theorem mi_141 : pg_mc 141 = 11 ∧ pg_na 141 = 3 ∧ pg_mx 141 = 3 := by decide +kernel
set_option maxRecDepth 20000 in
theorem u_141_0 {d : Nat} {S : zS} {σ τ : zI} {Q : zQ} {x0 : Int} {x1 : Int} {x2 : Int} (t : (rg x0) ∧ (rg x1) ∧ if x0 < x1 then (Q (some (.int (wI 0))) S σ τ) else ((rg x2) ∧ if x2 < x0 then (Q (some (.int (wI 0))) S σ τ) else (Q (some (.int (wI 1))) S σ τ))) : wi (d + 0) 141 0 [.int (wI x0), .int (wI x1), .int (wI x2)] [] S σ τ Q := by
  obtain ⟨r1, t⟩ := t
  obtain ⟨r2, t⟩ := t
  refine i3 c_141_0 rfl (i3 c_141_1 rfl ?_)
  refine i37 c_141_2 r1 r2 rfl (fun hc => ?_) (fun hc => ?_)
  · have t := iT t hc
    have ha3 : x0 < x1 := hc
    refine i1 c_141_14 ?_
    exact i91 c_141_15 (by decide) t
  · have t := iF t hc
    have ha3 : ¬ (x0 < x1) := hc
    obtain ⟨r4, t⟩ := t
    refine i3 c_141_5 rfl (i3 c_141_6 rfl ?_)
    refine i37 c_141_7 r1 r4 rfl (fun hc => ?_) (fun hc => ?_)
    · have t := iT t hc
      have ha5 : x2 < x0 := hc
      refine i1 c_141_14 ?_
      exact i91 c_141_15 (by decide) t
    · have t := iF t hc
      have ha5 : ¬ (x2 < x0) := hc
      refine i1 c_141_10 (i38 c_141_11 rfl ?_)
      exact i91 c_141_15 (by decide) t
theorem q_141 {d : Nat} {S : zS} {σ τ : zI} {Q : zQ} {v : Int} {low : Int} {high : Int} (p0 : rg v) (p1 : rg low) (p2 : rg high) (t : Q (some (.int (wI (if low ≤ v ∧ v ≤ high then 1 else 0)))) S σ τ) : wc (d + 0) 141 [.int (wI v), .int (wI low), .int (wI high)] S σ τ Q := by
  refine wc_of mi_141 rfl (u_141_0 ⟨p0, p1, ?_⟩)
  refine ifI (fun _ => ?_) (fun _ => ?_)
  · (first | (rw [if_pos (by omega)] at t; exact t) | (rw [if_neg (by omega)] at t; exact t))
  · refine ⟨p2, ?_⟩
    refine ifI (fun _ => ?_) (fun _ => ?_)
    · (first | (rw [if_pos (by omega)] at t; exact t) | (rw [if_neg (by omega)] at t; exact t))
    · (first | (rw [if_pos (by omega)] at t; exact t) | (rw [if_neg (by omega)] at t; exact t))
-- method 142: MillTown.isWeek(I)Z
theorem c_142_0 : pg_cd 142 0 = (3, 1, 0, 0, 0) := by decide +kernel
theorem c_142_1 : pg_cd 142 1 = (36, 3, 0, 2, 14) := by decide +kernel
theorem c_142_4 : pg_cd 142 4 = (3, 1, 0, 0, 0) := by decide +kernel
theorem c_142_5 : pg_cd 142 5 = (1, 3, 0, 0, 400) := by decide +kernel
theorem c_142_8 : pg_cd 142 8 = (37, 3, 0, 3, 7) := by decide +kernel
theorem c_142_11 : pg_cd 142 11 = (1, 1, 0, 0, 1) := by decide +kernel
theorem c_142_12 : pg_cd 142 12 = (38, 3, 0, 0, 4) := by decide +kernel
theorem c_142_15 : pg_cd 142 15 = (1, 1, 0, 0, 0) := by decide +kernel
theorem c_142_16 : pg_cd 142 16 = (91, 0, 0, 0, 0) := by decide +kernel
theorem mi_142 : pg_mc 142 = 11 ∧ pg_na 142 = 1 ∧ pg_mx 142 = 1 := by decide +kernel
set_option maxRecDepth 20000 in
theorem u_142_0 {d : Nat} {S : zS} {σ τ : zI} {Q : zQ} {x0 : Int} (t : (rg x0) ∧ if x0 < 0 then (Q (some (.int (wI 0))) S σ τ) else (if (400 : Int) ≤ x0 then (Q (some (.int (wI 0))) S σ τ) else (Q (some (.int (wI 1))) S σ τ))) : wi (d + 0) 142 0 [.int (wI x0)] [] S σ τ Q := by
  obtain ⟨r1, t⟩ := t
  refine i3 c_142_0 rfl ?_
  refine i36 c_142_1 r1 rfl (fun hc => ?_) (fun hc => ?_)
  · have t := iT t hc
    have ha2 : x0 < 0 := hc
    refine i1 c_142_15 ?_
    exact i91 c_142_16 (by decide) t
  · have t := iF t hc
    have ha2 : ¬ (x0 < 0) := hc
    refine i3 c_142_4 rfl (i1 c_142_5 ?_)
    refine i37 c_142_8 r1 (by decide) rfl (fun hc => ?_) (fun hc => ?_)
    · have t := iT t hc
      have ha3 : (400 : Int) ≤ x0 := hc
      refine i1 c_142_15 ?_
      exact i91 c_142_16 (by decide) t
    · have t := iF t hc
      have ha3 : ¬ ((400 : Int) ≤ x0) := hc
      refine i1 c_142_11 (i38 c_142_12 rfl ?_)
      exact i91 c_142_16 (by decide) t
theorem q_142 {d : Nat} {S : zS} {σ τ : zI} {Q : zQ} {w : Int} (p0 : rg w) (t : Q (some (.int (wI (if 0 ≤ w ∧ w ≤ 399 then 1 else 0)))) S σ τ) : wc (d + 0) 142 [.int (wI w)] S σ τ Q := by
  refine wc_of mi_142 rfl (u_142_0 ⟨p0, ?_⟩)
  refine ifI (fun _ => ?_) (fun _ => ?_)
  · (first | (rw [if_pos (by omega)] at t; exact t) | (rw [if_neg (by omega)] at t; exact t))
  · refine ifI (fun _ => ?_) (fun _ => ?_)
    · (first | (rw [if_pos (by omega)] at t; exact t) | (rw [if_neg (by omega)] at t; exact t))
    · (first | (rw [if_pos (by omega)] at t; exact t) | (rw [if_neg (by omega)] at t; exact t))
-- method 143: MillTown.isPlace(I)Z
theorem c_143_0 : pg_cd 143 0 = (3, 1, 0, 1, 0) := by decide +kernel
theorem c_143_1 : pg_cd 143 1 = (1, 1, 0, 0, (-1)) := by decide +kernel
theorem c_143_2 : pg_cd 143 2 = (37, 3, 0, 0, 17) := by decide +kernel
theorem c_143_5 : pg_cd 143 5 = (5, 1, 0, 0, 0) := by decide +kernel
theorem c_143_6 : pg_cd 143 6 = (45, 11, 12, 0, 0) := by decide +kernel
theorem c_143_9 : pg_cd 143 9 = (45, 8, 71, 2, 0) := by decide +kernel
theorem c_143_12 : pg_cd 143 12 = (3, 1, 0, 1, 0) := by decide +kernel
theorem c_143_13 : pg_cd 143 13 = (80, 53, 75, 0, 0) := by decide +kernel
theorem c_143_16 : pg_cd 143 16 = (36, 3, 0, 0, 7) := by decide +kernel
theorem c_143_19 : pg_cd 143 19 = (1, 1, 0, 0, 1) := by decide +kernel
theorem c_143_20 : pg_cd 143 20 = (38, 3, 0, 0, 4) := by decide +kernel
theorem c_143_23 : pg_cd 143 23 = (1, 1, 0, 0, 0) := by decide +kernel
theorem c_143_24 : pg_cd 143 24 = (91, 0, 0, 0, 0) := by decide +kernel
theorem mi_143 : pg_mc 143 = 11 ∧ pg_na 143 = 1 ∧ pg_mx 143 = 2 := by decide +kernel
set_option maxRecDepth 20000 in
theorem u_143_0 {d : Nat} {S : zS} {σ τ : zI} {Q : zQ} {x1 : Int} (t : (rg x1) ∧ if x1 = (-1) then (Q (some (.int (wI 1))) S σ τ) else (if 0 ≤ x1 ∧ x1 < (σ 7 2) then (Q (some (.int (wI 1))) S σ τ) else (Q (some (.int (wI 0))) S σ τ))) : wi (d + 1) 143 0 [.ref 1, .int (wI x1)] [] S σ τ Q := by
  obtain ⟨r1, t⟩ := t
  refine i3 c_143_0 rfl (i1 c_143_1 ?_)
  refine i37 c_143_2 r1 (by decide) rfl (fun hc => ?_) (fun hc => ?_)
  · have t := iT t hc
    have ha2 : x1 = (-1) := hc
    refine i1 c_143_19 (i38 c_143_20 rfl ?_)
    exact i91 c_143_24 (by decide) t
  · have t := iF t hc
    have ha2 : ¬ (x1 = (-1)) := hc
    refine i5 c_143_5 rfl (i45 c_143_6 (lo (c := 1) (kd := 111) (n := 0) rfl (by decide)) (lro (c := 1) (k := 0) (j := 2) (by decide)) (i45 c_143_9 (lo (c := 2) (kd := 108) (n := 0) rfl (by decide)) (lro (c := 2) (k := 2) (j := 7) (by decide)) (i3 c_143_12 rfl (wi_ok (fun K3 => ?_)))))
    refine i80 (As := [.int (wI x1)]) (rest := []) c_143_13 mi_53 rfl rfl (Nat.le_of_ble_eq_true rfl) (Nat.le_of_ble_eq_true rfl) (lo (c := 7) (kd := 104) (n := 0) rfl (by decide)) (q_has (ow_mills tw_2) r1 ?_)
    show wi (d + 1) 143 16 [.ref 1, .int (wI x1)] [.int (wI (if 0 ≤ x1 ∧ x1 < σ 7 2 then 1 else 0))] S σ τ Q
    refine i36e c_143_16 rfl (fun hc => ?_) (fun hc => ?_)
    · have t := iT t hc
      have ha4 : 0 ≤ x1 ∧ x1 < (σ 7 2) := hc
      refine i1 c_143_19 (i38 c_143_20 rfl ?_)
      exact i91 c_143_24 (by decide) t
    · have t := iF t hc
      have ha4 : ¬ (0 ≤ x1 ∧ x1 < (σ 7 2)) := hc
      refine i1 c_143_23 ?_
      exact i91 c_143_24 (by decide) t
theorem q_143 {d : Nat} {S : zS} {σ τ : zI} {Q : zQ} {m : Int} (p0 : rg m) (t : Q (some (.int (wI (if m = -1 ∨ 0 ≤ m ∧ m < σ 7 2 then 1 else 0)))) S σ τ) : wc (d + 1) 143 [.ref 1, .int (wI m)] S σ τ Q := by
  refine wc_of mi_143 rfl (u_143_0 ⟨p0, ?_⟩)
  repeat' (first | (first | (rw [if_pos (by omega)] at t; exact t) | (rw [if_neg (by omega)] at t; exact t)) | refine ifI (fun _ => ?_) (fun _ => ?_))
-- method 144: MillTown.isText(I)Z
theorem c_144_0 : pg_cd 144 0 = (3, 1, 0, 1, 0) := by decide +kernel
theorem c_144_1 : pg_cd 144 1 = (36, 3, 0, 2, 18) := by decide +kernel
theorem c_144_4 : pg_cd 144 4 = (3, 1, 0, 1, 0) := by decide +kernel
theorem c_144_5 : pg_cd 144 5 = (5, 1, 0, 0, 0) := by decide +kernel
theorem c_144_6 : pg_cd 144 6 = (45, 11, 12, 0, 0) := by decide +kernel
theorem c_144_9 : pg_cd 144 9 = (43, 8, 81, 9, 0) := by decide +kernel
theorem c_144_12 : pg_cd 144 12 = (37, 3, 0, 3, 7) := by decide +kernel
theorem c_144_15 : pg_cd 144 15 = (1, 1, 0, 0, 1) := by decide +kernel
theorem c_144_16 : pg_cd 144 16 = (38, 3, 0, 0, 4) := by decide +kernel
theorem c_144_19 : pg_cd 144 19 = (1, 1, 0, 0, 0) := by decide +kernel
theorem c_144_20 : pg_cd 144 20 = (91, 0, 0, 0, 0) := by decide +kernel
theorem mi_144 : pg_mc 144 = 11 ∧ pg_na 144 = 1 ∧ pg_mx 144 = 2 := by decide +kernel
set_option maxRecDepth 20000 in
theorem u_144_0 {d : Nat} {S : zS} {σ τ : zI} {Q : zQ} {x1 : Int} (t : (rg x1) ∧ if x1 < 0 then (Q (some (.int (wI 0))) S σ τ) else (if (σ 2 9) ≤ x1 then (Q (some (.int (wI 0))) S σ τ) else (Q (some (.int (wI 1))) S σ τ))) : wi (d + 1) 144 0 [.ref 1, .int (wI x1)] [] S σ τ Q := by
  obtain ⟨r1, t⟩ := t
  refine i3 c_144_0 rfl ?_
  refine i36 c_144_1 r1 rfl (fun hc => ?_) (fun hc => ?_)
  · have t := iT t hc
    have ha2 : x1 < 0 := hc
    refine i1 c_144_19 ?_
    exact i91 c_144_20 (by decide) t
  · have t := iF t hc
    have ha2 : ¬ (x1 < 0) := hc
    refine i3 c_144_4 rfl (i5 c_144_5 rfl (i45 c_144_6 (lo (c := 1) (kd := 111) (n := 0) rfl (by decide)) (lro (c := 1) (k := 0) (j := 2) (by decide)) (wi_ok (fun K3 => ?_))))
    refine i43 (v := σ 2 9) c_144_9 (lo (c := 2) (kd := 108) (n := 0) rfl (by decide)) rfl ?_
    refine i37 c_144_12 r1 (rge_ K3 rfl) rfl (fun hc => ?_) (fun hc => ?_)
    · have t := iT t hc
      have ha4 : (σ 2 9) ≤ x1 := hc
      refine i1 c_144_19 ?_
      exact i91 c_144_20 (by decide) t
    · have t := iF t hc
      have ha4 : ¬ ((σ 2 9) ≤ x1) := hc
      refine i1 c_144_15 (i38 c_144_16 rfl ?_)
      exact i91 c_144_20 (by decide) t
theorem q_144 {d : Nat} {S : zS} {σ τ : zI} {Q : zQ} {x : Int} (p0 : rg x) (t : Q (some (.int (wI (if 0 ≤ x ∧ x < σ 2 9 then 1 else 0)))) S σ τ) : wc (d + 1) 144 [.ref 1, .int (wI x)] S σ τ Q := by
  refine wc_of mi_144 rfl (u_144_0 ⟨p0, ?_⟩)
  repeat' (first | (first | (rw [if_pos (by omega)] at t; exact t) | (rw [if_neg (by omega)] at t; exact t)) | refine ifI (fun _ => ?_) (fun _ => ?_))
-- method 154: MillTown.isOpenMill(I)Z
theorem c_154_0 : pg_cd 154 0 = (5, 1, 0, 0, 0) := by decide +kernel
theorem c_154_1 : pg_cd 154 1 = (45, 11, 12, 0, 0) := by decide +kernel
theorem c_154_4 : pg_cd 154 4 = (45, 8, 71, 2, 0) := by decide +kernel
theorem c_154_7 : pg_cd 154 7 = (3, 1, 0, 1, 0) := by decide +kernel
theorem c_154_8 : pg_cd 154 8 = (80, 53, 75, 0, 0) := by decide +kernel
theorem c_154_11 : pg_cd 154 11 = (36, 3, 0, 0, 22) := by decide +kernel
theorem c_154_14 : pg_cd 154 14 = (5, 1, 0, 0, 0) := by decide +kernel
theorem c_154_15 : pg_cd 154 15 = (45, 11, 12, 0, 0) := by decide +kernel
theorem c_154_18 : pg_cd 154 18 = (45, 8, 71, 2, 0) := by decide +kernel
theorem c_154_21 : pg_cd 154 21 = (3, 1, 0, 1, 0) := by decide +kernel
theorem c_154_22 : pg_cd 154 22 = (1, 1, 0, 0, 4) := by decide +kernel
theorem c_154_23 : pg_cd 154 23 = (80, 55, 130, 0, 0) := by decide +kernel
theorem c_154_26 : pg_cd 154 26 = (36, 3, 0, 1, 7) := by decide +kernel
theorem c_154_29 : pg_cd 154 29 = (1, 1, 0, 0, 1) := by decide +kernel
theorem c_154_30 : pg_cd 154 30 = (38, 3, 0, 0, 4) := by decide +kernel
theorem c_154_33 : pg_cd 154 33 = (1, 1, 0, 0, 0) := by decide +kernel
theorem c_154_34 : pg_cd 154 34 = (91, 0, 0, 0, 0) := by decide +kernel
theorem mi_154 : pg_mc 154 = 11 ∧ pg_na 154 = 1 ∧ pg_mx 154 = 2 := by decide +kernel
set_option maxRecDepth 20000 in
theorem u_154_0 {d : Nat} {S : zS} {σ τ : zI} {Q : zQ} {x1 : Int} (t : (rg x1) ∧ if 0 ≤ x1 ∧ x1 < (σ 7 2) then (if (rt_ (σ 7 2) (σ 8) 13 4 x1) = 0 then (Q (some (.int (wI 1))) S σ τ) else (Q (some (.int (wI 0))) S σ τ)) else (Q (some (.int (wI 0))) S σ τ)) : wi (d + 1) 154 0 [.ref 1, .int (wI x1)] [] S σ τ Q := by
  obtain ⟨r1, t⟩ := t
  refine i5 c_154_0 rfl (i45 c_154_1 (lo (c := 1) (kd := 111) (n := 0) rfl (by decide)) (lro (c := 1) (k := 0) (j := 2) (by decide)) (i45 c_154_4 (lo (c := 2) (kd := 108) (n := 0) rfl (by decide)) (lro (c := 2) (k := 2) (j := 7) (by decide)) (i3 c_154_7 rfl (wi_ok (fun K2 => ?_)))))
  refine i80 (As := [.int (wI x1)]) (rest := []) c_154_8 mi_53 rfl rfl (Nat.le_of_ble_eq_true rfl) (Nat.le_of_ble_eq_true rfl) (lo (c := 7) (kd := 104) (n := 0) rfl (by decide)) (q_has (ow_mills tw_2) r1 ?_)
  show wi (d + 1) 154 11 [.ref 1, .int (wI x1)] [.int (wI (if 0 ≤ x1 ∧ x1 < σ 7 2 then 1 else 0))] S σ τ Q
  refine i36e c_154_11 rfl (fun hc => ?_) (fun hc => ?_)
  · have t := iT t hc
    have ha3 : 0 ≤ x1 ∧ x1 < (σ 7 2) := hc
    refine i5 c_154_14 rfl (i45 c_154_15 (lo (c := 1) (kd := 111) (n := 0) rfl (by decide)) (lro (c := 1) (k := 0) (j := 2) (by decide)) (i45 c_154_18 (lo (c := 2) (kd := 108) (n := 0) rfl (by decide)) (lro (c := 2) (k := 2) (j := 7) (by decide)) (i3 c_154_21 rfl (i1 c_154_22 ?_))))
    refine i80 (As := [.int (wI x1), .int (wI 4)]) (rest := []) c_154_23 mi_55 rfl rfl (Nat.le_of_ble_eq_true rfl) (Nat.le_of_ble_eq_true rfl) (lo (c := 7) (kd := 104) (n := 0) rfl (by decide)) (q_at (ow_mills tw_2) r1 (by decide) ?_)
    show wi (d + 1) 154 26 [.ref 1, .int (wI x1)] [.int (wI (rt_ (σ 7 2) (σ 8) 13 4 x1))] S σ τ Q
    refine i36 c_154_26 (rg_rt_ (fun k => kO_r K2 _ k) _ _ _ _) rfl (fun hc => ?_) (fun hc => ?_)
    · have t := iF t hc
      have ha4 : ¬ ((rt_ (σ 7 2) (σ 8) 13 4 x1) = 0) := hc
      refine i1 c_154_33 ?_
      exact i91 c_154_34 (by decide) t
    · have t := iT t (Decidable.not_not.mp hc)
      have ha4 : (rt_ (σ 7 2) (σ 8) 13 4 x1) = 0 := Decidable.not_not.mp hc
      refine i1 c_154_29 (i38 c_154_30 rfl ?_)
      exact i91 c_154_34 (by decide) t
  · have t := iF t hc
    have ha3 : ¬ (0 ≤ x1 ∧ x1 < (σ 7 2)) := hc
    refine i1 c_154_33 ?_
    exact i91 c_154_34 (by decide) t
theorem q_154 {d : Nat} {S : zS} {σ τ : zI} {Q : zQ} {m : Int} (p0 : rg m) (t : Q (some (.int (wI (if (0 ≤ m ∧ m < σ 7 2) ∧ rt_ (σ 7 2) (σ 8) 13 4 m = 0 then 1 else 0)))) S σ τ) : wc (d + 1) 154 [.ref 1, .int (wI m)] S σ τ Q := by
  refine wc_of mi_154 rfl (u_154_0 ⟨p0, ?_⟩)
  repeat' (first | (first | (rw [if_pos (by omega)] at t; exact t) | (rw [if_neg (by omega)] at t; exact t)) | refine ifI (fun _ => ?_) (fun _ => ?_))
-- method 176: MillTown.isOver(I)Z
theorem c_176_0 : pg_cd 176 0 = (3, 1, 0, 1, 0) := by decide +kernel
theorem c_176_1 : pg_cd 176 1 = (36, 3, 0, 2, 18) := by decide +kernel
theorem c_176_4 : pg_cd 176 4 = (3, 1, 0, 1, 0) := by decide +kernel
theorem c_176_5 : pg_cd 176 5 = (5, 1, 0, 0, 0) := by decide +kernel
theorem c_176_6 : pg_cd 176 6 = (45, 11, 12, 0, 0) := by decide +kernel
theorem c_176_9 : pg_cd 176 9 = (43, 8, 193, 8, 0) := by decide +kernel
theorem c_176_12 : pg_cd 176 12 = (37, 3, 0, 3, 7) := by decide +kernel
theorem c_176_15 : pg_cd 176 15 = (1, 1, 0, 0, 1) := by decide +kernel
theorem c_176_16 : pg_cd 176 16 = (38, 3, 0, 0, 4) := by decide +kernel
theorem c_176_19 : pg_cd 176 19 = (1, 1, 0, 0, 0) := by decide +kernel
theorem c_176_20 : pg_cd 176 20 = (91, 0, 0, 0, 0) := by decide +kernel
theorem mi_176 : pg_mc 176 = 11 ∧ pg_na 176 = 1 ∧ pg_mx 176 = 2 := by decide +kernel
set_option maxRecDepth 20000 in
theorem u_176_0 {d : Nat} {S : zS} {σ τ : zI} {Q : zQ} {x1 : Int} (t : (rg x1) ∧ if x1 < 0 then (Q (some (.int (wI 0))) S σ τ) else (if (σ 2 8) ≤ x1 then (Q (some (.int (wI 0))) S σ τ) else (Q (some (.int (wI 1))) S σ τ))) : wi (d + 1) 176 0 [.ref 1, .int (wI x1)] [] S σ τ Q := by
  obtain ⟨r1, t⟩ := t
  refine i3 c_176_0 rfl ?_
  refine i36 c_176_1 r1 rfl (fun hc => ?_) (fun hc => ?_)
  · have t := iT t hc
    have ha2 : x1 < 0 := hc
    refine i1 c_176_19 ?_
    exact i91 c_176_20 (by decide) t
  · have t := iF t hc
    have ha2 : ¬ (x1 < 0) := hc
    refine i3 c_176_4 rfl (i5 c_176_5 rfl (i45 c_176_6 (lo (c := 1) (kd := 111) (n := 0) rfl (by decide)) (lro (c := 1) (k := 0) (j := 2) (by decide)) (wi_ok (fun K3 => ?_))))
    refine i43 (v := σ 2 8) c_176_9 (lo (c := 2) (kd := 108) (n := 0) rfl (by decide)) rfl ?_
    refine i37 c_176_12 r1 (rge_ K3 rfl) rfl (fun hc => ?_) (fun hc => ?_)
    · have t := iT t hc
      have ha4 : (σ 2 8) ≤ x1 := hc
      refine i1 c_176_19 ?_
      exact i91 c_176_20 (by decide) t
    · have t := iF t hc
      have ha4 : ¬ ((σ 2 8) ≤ x1) := hc
      refine i1 c_176_15 (i38 c_176_16 rfl ?_)
      exact i91 c_176_20 (by decide) t
theorem q_176 {d : Nat} {S : zS} {σ τ : zI} {Q : zQ} {w : Int} (p0 : rg w) (t : Q (some (.int (wI (if 0 ≤ w ∧ w < σ 2 8 then 1 else 0)))) S σ τ) : wc (d + 1) 176 [.ref 1, .int (wI w)] S σ τ Q := by
  refine wc_of mi_176 rfl (u_176_0 ⟨p0, ?_⟩)
  repeat' (first | (first | (rw [if_pos (by omega)] at t; exact t) | (rw [if_neg (by omega)] at t; exact t)) | refine ifI (fun _ => ?_) (fun _ => ?_))
-- method 162: MillTown.isAsked(III)Z
theorem c_162_0 : pg_cd 162 0 = (5, 1, 0, 0, 0) := by decide +kernel
theorem c_162_1 : pg_cd 162 1 = (45, 11, 12, 0, 0) := by decide +kernel
theorem c_162_4 : pg_cd 162 4 = (45, 8, 71, 2, 0) := by decide +kernel
theorem c_162_7 : pg_cd 162 7 = (3, 1, 0, 1, 0) := by decide +kernel
theorem c_162_8 : pg_cd 162 8 = (80, 53, 75, 0, 0) := by decide +kernel
theorem c_162_11 : pg_cd 162 11 = (36, 3, 0, 0, 21) := by decide +kernel
theorem c_162_14 : pg_cd 162 14 = (3, 1, 0, 2, 0) := by decide +kernel
theorem c_162_15 : pg_cd 162 15 = (81, 142, 97, 0, 0) := by decide +kernel
theorem c_162_18 : pg_cd 162 18 = (36, 3, 0, 0, 14) := by decide +kernel
theorem c_162_21 : pg_cd 162 21 = (3, 1, 0, 3, 0) := by decide +kernel
theorem c_162_22 : pg_cd 162 22 = (81, 142, 97, 0, 0) := by decide +kernel
theorem c_162_25 : pg_cd 162 25 = (36, 3, 0, 0, 7) := by decide +kernel
theorem c_162_28 : pg_cd 162 28 = (1, 1, 0, 0, 1) := by decide +kernel
theorem c_162_29 : pg_cd 162 29 = (38, 3, 0, 0, 4) := by decide +kernel
theorem c_162_32 : pg_cd 162 32 = (1, 1, 0, 0, 0) := by decide +kernel
theorem c_162_33 : pg_cd 162 33 = (91, 0, 0, 0, 0) := by decide +kernel
theorem mi_162 : pg_mc 162 = 11 ∧ pg_na 162 = 3 ∧ pg_mx 162 = 4 := by decide +kernel
set_option maxRecDepth 20000 in
theorem u_162_0 {d : Nat} {S : zS} {σ τ : zI} {Q : zQ} {x1 : Int} {x2 : Int} {x3 : Int} (t : (rg x1) ∧ if 0 ≤ x1 ∧ x1 < (σ 7 2) then ((rg x2) ∧ if 0 ≤ x2 ∧ x2 ≤ 399 then ((rg x3) ∧ if 0 ≤ x3 ∧ x3 ≤ 399 then (Q (some (.int (wI 1))) S σ τ) else (Q (some (.int (wI 0))) S σ τ)) else (Q (some (.int (wI 0))) S σ τ)) else (Q (some (.int (wI 0))) S σ τ)) : wi (d + 1) 162 0 [.ref 1, .int (wI x1), .int (wI x2), .int (wI x3)] [] S σ τ Q := by
  obtain ⟨r1, t⟩ := t
  refine i5 c_162_0 rfl (i45 c_162_1 (lo (c := 1) (kd := 111) (n := 0) rfl (by decide)) (lro (c := 1) (k := 0) (j := 2) (by decide)) (i45 c_162_4 (lo (c := 2) (kd := 108) (n := 0) rfl (by decide)) (lro (c := 2) (k := 2) (j := 7) (by decide)) (i3 c_162_7 rfl (wi_ok (fun K2 => ?_)))))
  refine i80 (As := [.int (wI x1)]) (rest := []) c_162_8 mi_53 rfl rfl (Nat.le_of_ble_eq_true rfl) (Nat.le_of_ble_eq_true rfl) (lo (c := 7) (kd := 104) (n := 0) rfl (by decide)) (q_has (ow_mills tw_2) r1 ?_)
  show wi (d + 1) 162 11 [.ref 1, .int (wI x1), .int (wI x2), .int (wI x3)] [.int (wI (if 0 ≤ x1 ∧ x1 < σ 7 2 then 1 else 0))] S σ τ Q
  refine i36e c_162_11 rfl (fun hc => ?_) (fun hc => ?_)
  · have t := iT t hc
    have ha3 : 0 ≤ x1 ∧ x1 < (σ 7 2) := hc
    obtain ⟨r4, t⟩ := t
    refine i3 c_162_14 rfl ?_
    refine i81 (As := [.int (wI x2)]) (rest := []) c_162_15 mi_142 rfl rfl (Nat.le_of_ble_eq_true rfl) (Nat.le_of_ble_eq_true rfl) (q_142 r4 ?_)
    show wi (d + 1) 162 18 [.ref 1, .int (wI x1), .int (wI x2), .int (wI x3)] [.int (wI (if 0 ≤ x2 ∧ x2 ≤ 399 then 1 else 0))] S σ τ Q
    refine i36e c_162_18 rfl (fun hc => ?_) (fun hc => ?_)
    · have t := iT t hc
      have ha5 : 0 ≤ x2 ∧ x2 ≤ 399 := hc
      obtain ⟨r6, t⟩ := t
      refine i3 c_162_21 rfl ?_
      refine i81 (As := [.int (wI x3)]) (rest := []) c_162_22 mi_142 rfl rfl (Nat.le_of_ble_eq_true rfl) (Nat.le_of_ble_eq_true rfl) (q_142 r6 ?_)
      show wi (d + 1) 162 25 [.ref 1, .int (wI x1), .int (wI x2), .int (wI x3)] [.int (wI (if 0 ≤ x3 ∧ x3 ≤ 399 then 1 else 0))] S σ τ Q
      refine i36e c_162_25 rfl (fun hc => ?_) (fun hc => ?_)
      · have t := iT t hc
        have ha7 : 0 ≤ x3 ∧ x3 ≤ 399 := hc
        refine i1 c_162_28 (i38 c_162_29 rfl ?_)
        exact i91 c_162_33 (by decide) t
      · have t := iF t hc
        have ha7 : ¬ (0 ≤ x3 ∧ x3 ≤ 399) := hc
        refine i1 c_162_32 ?_
        exact i91 c_162_33 (by decide) t
    · have t := iF t hc
      have ha5 : ¬ (0 ≤ x2 ∧ x2 ≤ 399) := hc
      refine i1 c_162_32 ?_
      exact i91 c_162_33 (by decide) t
  · have t := iF t hc
    have ha3 : ¬ (0 ≤ x1 ∧ x1 < (σ 7 2)) := hc
    refine i1 c_162_32 ?_
    exact i91 c_162_33 (by decide) t
theorem q_162 {d : Nat} {S : zS} {σ τ : zI} {Q : zQ} {m : Int} {w : Int} {k : Int} (p0 : rg m) (p1 : rg w) (p2 : rg k) (t : Q (some (.int (wI (if (0 ≤ m ∧ m < σ 7 2) ∧ (0 ≤ w ∧ w ≤ 399) ∧ (0 ≤ k ∧ k ≤ 399) then 1 else 0)))) S σ τ) : wc (d + 1) 162 [.ref 1, .int (wI m), .int (wI w), .int (wI k)] S σ τ Q := by
  refine wc_of mi_162 rfl (u_162_0 ⟨p0, ?_⟩)
  repeat' (first | (first | (rw [if_pos (by omega)] at t; exact t) | (rw [if_neg (by omega)] at t; exact t)) | refine ⟨by assumption, ?_⟩ | refine ifI (fun _ => ?_) (fun _ => ?_))
