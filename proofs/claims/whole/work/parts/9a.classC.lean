/-! ===== a WEEK of the class: MILLS take ORDERS (segments printed by wip/whole, contracts own work) ===== -/
theorem q_104c {d : Nat} {S : zS} {σ τ : zI} {Q : zQ} {tn : Nat} {k : Int} {a : Int → Int} {PE : Int → Int → Int} {MI : Int → Int → Int} {TK : Int → Int} {OD : Int → Int → Int} (htn : tw tn) (p0 : CS σ tn a PE MI TK OD) (p1 : jv_K a) (p2 : 0 ≤ k ∧ k ≤ (5 : Int)) (t : ∀ (v : Int), v = r_cost a k → 2000 ≤ v ∧ v ≤ 228000 → Q (some (.int (wI v))) S σ τ) : wc (d + 1) 104 [.ref tn, .int (wI k)] S σ τ Q := by
  have b := r_cost_b p1 p2
  refine wc_of mi_104 rfl (u_104_0 htn ⟨by omega, ?_⟩)
  rw [vk p0 p2 (k := 0) (by omega), vk p0 p2 (k := 1) (by omega), vk p0 p2 (k := 3) (by omega)]
  exact t (r_cost a k) rfl b
theorem q_105c {d : Nat} {S : zS} {σ τ : zI} {Q : zQ} {tn : Nat} {p : Int} {h : Int} {a : Int → Int} {PE : Int → Int → Int} {MI : Int → Int → Int} {TK : Int → Int} {OD : Int → Int → Int} (htn : tw tn) (p0 : CS σ tn a PE MI TK OD) (p1 : sP a PE) (p2 : sM a MI) (p3 : 0 ≤ p ∧ p < a 4 ∧ a 4 ≤ 60) (p4 : 0 ≤ a (3652 + 12 * p + 4) ∧ a (3652 + 12 * p + 4) < a 1 ∧ a 1 ≤ 8) (t : ∀ (v : Int), v = r_pts a p h → Q (some (.int (wI v))) S σ τ) : wc (d + 1) 105 [.ref tn, .int (wI p), .int (wI h)] S σ τ Q := by
  refine wc_of mi_105 rfl (u_105_0 htn ⟨by omega, ?_⟩)
  rw [vp p0 (k := 5) (by omega) (by omega), vp p0 (k := 4) (by omega) (by omega), vp p0 (k := 2) (by omega) (by omega), p1 p 5 (by omega) (by omega) (by omega) (by omega) (by omega) (by omega), p1 p 4 (by omega) (by omega) (by omega) (by omega) (by omega) (by omega), p1 p 2 (by omega) (by omega) (by omega) (by omega) (by omega) (by omega), vm p0 (by omega) (show mcR 10 1 by omega), p2 _ 1 (by omega) (by omega) (by omega)]
  exact t _ rfl
set_option maxRecDepth 20000 in
theorem u_106_0c {d : Nat} {S : zS} {σ τ : zI} {Q : zQ} {x0 : Nat} {x1 : Int} {x2 : Int} {x3 : Int} (hx0 : tw x0) (t : ∃ a1 : Int → Int, ∃ PE2 : Int → Int → Int, ∃ MI3 : Int → Int → Int, ∃ TK4 : Int → Int, ∃ OD5 : Int → Int → Int, (CS σ x0 a1 PE2 MI3 TK4 OD5) ∧ (jv_K a1) ∧ (0 ≤ x3 ∧ x3 ≤ (5 : Int)) ∧ ∀ (v9 : Int), v9 = r_cost a1 x3 → 2000 ≤ v9 ∧ v9 ≤ 228000 → (rg v9) ∧ if v9 ≤ 0 then (Q (some (.int (wI 0))) S σ τ) else ((rg x1) ∧ ∃ a16 : Int → Int, ∃ PE17 : Int → Int → Int, ∃ MI18 : Int → Int → Int, ∃ TK19 : Int → Int, ∃ OD20 : Int → Int → Int, (CS σ x0 a16 PE17 MI18 TK19 OD20) ∧ (sP a16 PE17) ∧ (sM a16 MI18) ∧ (0 ≤ x1 ∧ x1 < a16 4 ∧ a16 4 ≤ 60) ∧ (0 ≤ a16 (3652 + 12 * x1 + 4) ∧ a16 (3652 + 12 * x1 + 4) < a16 1 ∧ a16 1 ≤ 8) ∧ ∀ (v26 : Int), v26 = r_pts a16 x1 x2 → (rg ((rt_ (σ (x0 + 11) 2) (σ (x0 + 12)) 9 7 x1) + v26)) ∧ (v9 ≠ 0) ∧ Q (some (.int (wI (Int.tdiv ((rt_ (σ (x0 + 11) 2) (σ (x0 + 12)) 9 7 x1) + v26) v9)))) S σ τ)) : wi (d + 2) 106 0 [.ref x0, .int (wI x1), .int (wI x2), .int (wI x3), .retAddr 0] [] S σ τ Q := by
  obtain ⟨a1, t⟩ := t
  obtain ⟨PE2, t⟩ := t
  obtain ⟨MI3, t⟩ := t
  obtain ⟨TK4, t⟩ := t
  obtain ⟨OD5, t⟩ := t
  obtain ⟨p6, t⟩ := t
  obtain ⟨p7, t⟩ := t
  obtain ⟨p8, t⟩ := t
  refine i5 c_106_0 rfl (i3 c_106_1 rfl ?_)
  refine i80 (As := [.int (wI x3)]) (rest := []) c_106_2 mi_104 rfl rfl (Nat.le_of_ble_eq_true rfl) (Nat.le_of_ble_eq_true rfl) (lo (lyt_0 hx0) (by have := tw_b hx0; omega)) (q_104c (a := a1) (PE := PE2) (MI := MI3) (TK := TK4) (OD := OD5) hx0 p6 p7 p8 (fun v9 q10 q11 => ?_))
  have t := t v9 q10 q11
  show wi (d + 2) 106 5 [.ref x0, .int (wI x1), .int (wI x2), .int (wI x3), .retAddr 0] [.int (wI v9)] S σ τ Q
  obtain ⟨r12, t⟩ := t
  refine i6 (L' := [.ref x0, .int (wI x1), .int (wI x2), .int (wI x3), .int (wI v9)]) c_106_5 rfl (i3 c_106_7 rfl ?_)
  refine i36 c_106_9 r12 rfl (fun hc => ?_) (fun hc => ?_)
  · have t := iT t hc
    have ha13 : v9 ≤ 0 := hc
    refine i1 c_106_35 ?_
    exact i90 c_106_36 t
  · have t := iF t hc
    have ha13 : ¬ (v9 ≤ 0) := hc
    obtain ⟨r14, t⟩ := t
    refine i5 c_106_12 rfl (i45 c_106_13 (lo (lyt_0 hx0) (by have := tw_b hx0; omega)) (lro (lrt_5 hx0)) (i3 c_106_16 rfl (i1 c_106_17 (wi_ok (fun K15 => ?_)))))
    refine i80 (As := [.int (wI x1), .int (wI 7)]) (rest := []) c_106_19 mi_55 rfl rfl (Nat.le_of_ble_eq_true rfl) (Nat.le_of_ble_eq_true rfl) (lo (lyt_11 hx0) (by have := tw_b hx0; omega)) (q_at (ow_persons hx0) r14 (by decide) ?_)
    show wi (d + 2) 106 22 [.ref x0, .int (wI x1), .int (wI x2), .int (wI x3), .int (wI v9)] [.int (wI (rt_ (σ (x0 + 11) 2) (σ (x0 + 12)) 9 7 x1))] S σ τ Q
    obtain ⟨a16, t⟩ := t
    obtain ⟨PE17, t⟩ := t
    obtain ⟨MI18, t⟩ := t
    obtain ⟨TK19, t⟩ := t
    obtain ⟨OD20, t⟩ := t
    obtain ⟨p21, t⟩ := t
    obtain ⟨p22, t⟩ := t
    obtain ⟨p23, t⟩ := t
    obtain ⟨p24, t⟩ := t
    obtain ⟨p25, t⟩ := t
    refine i5 c_106_22 rfl (i3 c_106_23 rfl (i3 c_106_24 rfl ?_))
    refine i80 (As := [.int (wI x1), .int (wI x2)]) (rest := [.int (wI (rt_ (σ (x0 + 11) 2) (σ (x0 + 12)) 9 7 x1))]) c_106_25 mi_105 rfl rfl (Nat.le_of_ble_eq_true rfl) (Nat.le_of_ble_eq_true rfl) (lo (lyt_0 hx0) (by have := tw_b hx0; omega)) (q_105c (a := a16) (PE := PE17) (MI := MI18) (TK := TK19) (OD := OD20) hx0 p21 p22 p23 p24 p25 (fun v26 q27 => ?_))
    have t := t v26 q27
    show wi (d + 2) 106 28 [.ref x0, .int (wI x1), .int (wI x2), .int (wI x3), .int (wI v9)] [.int (wI v26), .int (wI (rt_ (σ (x0 + 11) 2) (σ (x0 + 12)) 9 7 x1))] S σ τ Q
    obtain ⟨r28, t⟩ := t
    obtain ⟨y29, t⟩ := t
    refine i10 c_106_28 (i3 c_106_29 rfl (i16 c_106_31 r28 r12 y29 (i38 c_106_32 rfl ?_)))
    exact i90 c_106_36 t
theorem q_106c {d : Nat} {S : zS} {σ τ : zI} {Q : zQ} {tn : Nat} {p : Int} {h : Int} {k : Int} {a : Int → Int} {PE : Int → Int → Int} {MI : Int → Int → Int} {TK : Int → Int} {OD : Int → Int → Int} (htn : tw tn) (p0 : CS σ tn a PE MI TK OD) (p1 : jv_K a) (p2 : sP a PE) (p3 : sM a MI) (p4 : 0 ≤ p ∧ p < a 4 ∧ a 4 ≤ 60) (p5 : 0 ≤ a (3652 + 12 * p + 4) ∧ a (3652 + 12 * p + 4) < a 1 ∧ a 1 ≤ 8) (p6 : 0 ≤ k ∧ k ≤ (5 : Int)) (p7 : rg (PE p 7 + r_pts a p h)) (t : ∀ (v : Int), v = (PE p 7 + r_pts a p h).tdiv (r_cost a k) → Q (some (.int (wI v))) S σ τ) : wc (d + 2) 106 [.ref tn, .int (wI p), .int (wI h), .int (wI k)] S σ τ Q := by
  refine wc_of mi_106 rfl (u_106_0c htn ⟨a, PE, MI, TK, OD, p0, p1, p6, fun v hv vb => ⟨by omega, ifI (fun e => by omega) (fun e => ⟨by omega, a, PE, MI, TK, OD, p0, p2, p3, p4, p5, fun v2 hv2 => ?_⟩)⟩⟩)
  rw [vp p0 (k := 7) (by omega) (by omega), hv2, hv]
  exact ⟨p7, by omega, t _ rfl⟩
-- method 117: MillTown$Week.gainOf(LMillTown$Town;II)I
theorem c_117_0 : pg_cd 117 0 = (5, 1, 0, 1, 0) := by decide +kernel
theorem c_117_1 : pg_cd 117 1 = (45, 8, 105, 6, 0) := by decide +kernel
theorem c_117_4 : pg_cd 117 4 = (3, 1, 0, 3, 0) := by decide +kernel
theorem c_117_5 : pg_cd 117 5 = (1, 1, 0, 0, 0) := by decide +kernel
theorem c_117_6 : pg_cd 117 6 = (80, 55, 118, 0, 0) := by decide +kernel
theorem c_117_9 : pg_cd 117 9 = (6, 2, 0, 4, 0) := by decide +kernel
theorem c_117_11 : pg_cd 117 11 = (5, 1, 0, 1, 0) := by decide +kernel
theorem c_117_12 : pg_cd 117 12 = (45, 8, 105, 6, 0) := by decide +kernel
theorem c_117_15 : pg_cd 117 15 = (3, 1, 0, 3, 0) := by decide +kernel
theorem c_117_16 : pg_cd 117 16 = (1, 1, 0, 0, 2) := by decide +kernel
theorem c_117_17 : pg_cd 117 17 = (80, 55, 118, 0, 0) := by decide +kernel
theorem c_117_20 : pg_cd 117 20 = (5, 1, 0, 1, 0) := by decide +kernel
theorem c_117_21 : pg_cd 117 21 = (43, 8, 158, 11, 0) := by decide +kernel
theorem c_117_24 : pg_cd 117 24 = (11, 1, 0, 0, 0) := by decide +kernel
theorem c_117_25 : pg_cd 117 25 = (5, 1, 0, 0, 0) := by decide +kernel
theorem c_117_26 : pg_cd 117 26 = (3, 1, 0, 2, 0) := by decide +kernel
theorem c_117_27 : pg_cd 117 27 = (3, 2, 0, 4, 0) := by decide +kernel
theorem c_117_29 : pg_cd 117 29 = (80, 114, 161, 0, 0) := by decide +kernel
theorem c_117_32 : pg_cd 117 32 = (11, 1, 0, 0, 0) := by decide +kernel
theorem c_117_33 : pg_cd 117 33 = (5, 1, 0, 1, 0) := by decide +kernel
theorem c_117_34 : pg_cd 117 34 = (45, 8, 164, 0, 0) := by decide +kernel
theorem c_117_37 : pg_cd 117 37 = (3, 2, 0, 4, 0) := by decide +kernel
theorem c_117_39 : pg_cd 117 39 = (1, 1, 0, 0, 2) := by decide +kernel
theorem c_117_40 : pg_cd 117 40 = (80, 55, 118, 0, 0) := by decide +kernel
theorem c_117_43 : pg_cd 117 43 = (5, 1, 0, 0, 0) := by decide +kernel
theorem c_117_44 : pg_cd 117 44 = (43, 9, 96, 5, 0) := by decide +kernel
theorem c_117_47 : pg_cd 117 47 = (12, 1, 0, 0, 0) := by decide +kernel
theorem c_117_48 : pg_cd 117 48 = (1, 3, 0, 0, 400) := by decide +kernel
theorem c_117_51 : pg_cd 117 51 = (16, 1, 0, 0, 0) := by decide +kernel
theorem c_117_52 : pg_cd 117 52 = (11, 1, 0, 0, 0) := by decide +kernel
theorem c_117_53 : pg_cd 117 53 = (90, 0, 0, 0, 0) := by decide +kernel
theorem mi_117 : pg_mc 117 = 9 ∧ pg_na 117 = 3 ∧ pg_mx 117 = 5 := by decide +kernel
set_option maxRecDepth 20000 in
theorem u_117_0 {d : Nat} {S : zS} {σ τ : zI} {Q : zQ} {x1 : Nat} {x2 : Int} {x3 : Int} (hx1 : tw x1) (t : (rg x3) ∧ (0 ≤ x2 ∧ x2 < (8 : Int)) ∧ (0 ≤ (rt_ (σ (x1 + 13) 2) (σ (x1 + 14)) 6 0 x3) ∧ (rt_ (σ (x1 + 13) 2) (σ (x1 + 14)) 6 0 x3) < (6 : Int)) ∧ (rg ((rt_ (σ (x1 + 1) 2) (σ (x1 + 2)) 6 2 (rt_ (σ (x1 + 13) 2) (σ (x1 + 14)) 6 0 x3)) * (σ 53 5))) ∧ Q (some (.int (wI ((((rt_ (σ (x1 + 13) 2) (σ (x1 + 14)) 6 2 x3) - (σ x1 11)) - (σ 62 (x2 * 6 + (rt_ (σ (x1 + 13) 2) (σ (x1 + 14)) 6 0 x3)))) - (Int.tdiv ((rt_ (σ (x1 + 1) 2) (σ (x1 + 2)) 6 2 (rt_ (σ (x1 + 13) 2) (σ (x1 + 14)) 6 0 x3)) * (σ 53 5)) 400))))) S σ τ) : wi (d + 1) 117 0 [.ref 53, .ref x1, .int (wI x2), .int (wI x3), .retAddr 0] [] S σ τ Q := by
  obtain ⟨r1, t⟩ := t
  refine i5 c_117_0 rfl (i45 c_117_1 (lo (lyt_0 hx1) (by have := tw_b hx1; omega)) (lro (lrt_6 hx1)) (i3 c_117_4 rfl (i1 c_117_5 (wi_ok (fun K2 => ?_)))))
  refine i80 (As := [.int (wI x3), .int (wI 0)]) (rest := []) c_117_6 mi_55 rfl rfl (Nat.le_of_ble_eq_true rfl) (Nat.le_of_ble_eq_true rfl) (lo (lyt_13 hx1) (by have := tw_b hx1; omega)) (q_at (ow_orders hx1) r1 (by decide) ?_)
  show wi (d + 1) 117 9 [.ref 53, .ref x1, .int (wI x2), .int (wI x3), .retAddr 0] [.int (wI (rt_ (σ (x1 + 13) 2) (σ (x1 + 14)) 6 0 x3))] S σ τ Q
  refine i6 (L' := [.ref 53, .ref x1, .int (wI x2), .int (wI x3), .int (wI (rt_ (σ (x1 + 13) 2) (σ (x1 + 14)) 6 0 x3))]) c_117_9 rfl (i5 c_117_11 rfl (i45 c_117_12 (lo (lyt_0 hx1) (by have := tw_b hx1; omega)) (lro (lrt_6 hx1)) (i3 c_117_15 rfl (i1 c_117_16 ?_))))
  refine i80 (As := [.int (wI x3), .int (wI 2)]) (rest := []) c_117_17 mi_55 rfl rfl (Nat.le_of_ble_eq_true rfl) (Nat.le_of_ble_eq_true rfl) (lo (lyt_13 hx1) (by have := tw_b hx1; omega)) (q_at (ow_orders hx1) r1 (by decide) ?_)
  show wi (d + 1) 117 20 [.ref 53, .ref x1, .int (wI x2), .int (wI x3), .int (wI (rt_ (σ (x1 + 13) 2) (σ (x1 + 14)) 6 0 x3))] [.int (wI (rt_ (σ (x1 + 13) 2) (σ (x1 + 14)) 6 2 x3))] S σ τ Q
  obtain ⟨p3, t⟩ := t
  obtain ⟨p4, t⟩ := t
  refine i5 c_117_20 rfl (i43 (v := σ x1 11) c_117_21 (lo (lyt_0 hx1) (by have := tw_b hx1; omega)) rfl (i11 c_117_24 (i5 c_117_25 rfl (i3 c_117_26 rfl (i3 c_117_27 rfl ?_)))))
  refine i80 (As := [.int (wI x2), .int (wI (rt_ (σ (x1 + 13) 2) (σ (x1 + 14)) 6 0 x3))]) (rest := [.int (wI ((rt_ (σ (x1 + 13) 2) (σ (x1 + 14)) 6 2 x3) - (σ x1 11)))]) c_117_29 mi_114 rfl rfl (Nat.le_of_ble_eq_true rfl) (Nat.le_of_ble_eq_true rfl) (lo (c := 53) (kd := 109) (n := 0) rfl (by decide)) (q_114 p3 p4 ?_)
  show wi (d + 1) 117 32 [.ref 53, .ref x1, .int (wI x2), .int (wI x3), .int (wI (rt_ (σ (x1 + 13) 2) (σ (x1 + 14)) 6 0 x3))] [.int (wI (σ 62 (x2 * 6 + (rt_ (σ (x1 + 13) 2) (σ (x1 + 14)) 6 0 x3)))), .int (wI ((rt_ (σ (x1 + 13) 2) (σ (x1 + 14)) 6 2 x3) - (σ x1 11)))] S σ τ Q
  refine i11 c_117_32 (i5 c_117_33 rfl (i45 c_117_34 (lo (lyt_0 hx1) (by have := tw_b hx1; omega)) (lro (lrt_0 hx1)) (i3 c_117_37 rfl (i1 c_117_39 ?_))))
  refine i80 (As := [.int (wI (rt_ (σ (x1 + 13) 2) (σ (x1 + 14)) 6 0 x3)), .int (wI 2)]) (rest := [.int (wI (((rt_ (σ (x1 + 13) 2) (σ (x1 + 14)) 6 2 x3) - (σ x1 11)) - (σ 62 (x2 * 6 + (rt_ (σ (x1 + 13) 2) (σ (x1 + 14)) 6 0 x3)))))]) c_117_40 mi_55 rfl rfl (Nat.le_of_ble_eq_true rfl) (Nat.le_of_ble_eq_true rfl) (lo (lyt_1 hx1) (by have := tw_b hx1; omega)) (q_at (ow_kinds hx1) (rg_rt_ (fun k => kO_r K2 _ k) _ _ _ _) (by decide) ?_)
  show wi (d + 1) 117 43 [.ref 53, .ref x1, .int (wI x2), .int (wI x3), .int (wI (rt_ (σ (x1 + 13) 2) (σ (x1 + 14)) 6 0 x3))] [.int (wI (rt_ (σ (x1 + 1) 2) (σ (x1 + 2)) 6 2 (rt_ (σ (x1 + 13) 2) (σ (x1 + 14)) 6 0 x3))), .int (wI (((rt_ (σ (x1 + 13) 2) (σ (x1 + 14)) 6 2 x3) - (σ x1 11)) - (σ 62 (x2 * 6 + (rt_ (σ (x1 + 13) 2) (σ (x1 + 14)) 6 0 x3)))))] S σ τ Q
  obtain ⟨r5, t⟩ := t
  refine i5 c_117_43 rfl (i43 (v := σ 53 5) c_117_44 (lo (c := 53) (kd := 109) (n := 0) rfl (by decide)) rfl (i12 c_117_47 (i1 c_117_48 (i16 c_117_51 r5 (by decide) (by decide) (i11 c_117_52 ?_)))))
  exact i90 c_117_53 t
theorem q_117 {d : Nat} {S : zS} {σ τ : zI} {Q : zQ} {tn : Nat} {m : Int} {o : Int} {a : Int → Int} {PE : Int → Int → Int} {MI : Int → Int → Int} {TK : Int → Int} {OD : Int → Int → Int} (htn : tw tn) (p0 : CS σ tn a PE MI TK OD) (p1 : Jv a) (p2 : jv_T a) (p3 : a 0 ≤ 399) (p4 : 0 ≤ m ∧ m < a 1) (p5 : 0 ≤ o ∧ o < a 7) (p6 : OD o 0 = a (4372 + 8 * o) ∧ OD o 2 = a (4372 + 8 * o + 2)) (p7 : σ 53 5 = wk_ct a) (p8 : σ 62 (m * 6 + a (4372 + 8 * o)) = wk_py a m o) (t : Q (some (.int (wI (wk_gn a m o)))) S σ τ) : wc (d + 1) 117 [.ref 53, .ref tn, .int (wI m), .int (wI o)] S σ τ Q := by
  have hC := jC p1
  unfold jv_C at hC
  have hO := (jO p1).1 o p5.1 p5.2
  have g := wk_gn_b p1 p2 p3 (m := m) p5
  have c11 : σ tn 11 = a 11 := (cs_R p0).1.2.2.2.1
  refine wc_of mi_117 rfl (u_117_0 htn ?_)
  rw [vo p0 p5 (k := 0) (by omega), vo p0 p5 (k := 2) (by omega), p6.1, p6.2, vk p0 hO.1 (k := 2) (by omega), show (2 : Int) + 1 = 3 from rfl, p7, p8, c11]
  exact ⟨by omega, by omega, by omega, by omega, t⟩
theorem wk_T_m {a : Int → Int} (hJ : Jv a) (hT : jv_T a) (h0 : a 0 ≤ 399) {n o : Int} (hn : 0 ≤ n ∧ n ≤ a 1) (ho : 0 ≤ o ∧ o < a 7) (h : wk_op a (wk_T a n) o) : wk_op a (wk_T a 0) o := by
  have := wk_T_b hJ hT h0 n hn.1 hn.2 o ho.1 ho.2
  refine ⟨h.1, ?_⟩
  have e : wk_T a 0 o = 0 := rfl
  have h2 := h.2
  rw [e]; omega
/-- the class's best ORDER so far beside the reference's -/
abbrev bOr (b : Int × Int) (L x y : Int) : Prop := (x = -1 ∧ ¬ (0 ≤ b.1 ∧ L ≤ b.2)) ∨ ((0 ≤ b.1 ∧ L ≤ b.2) ∧ x = b.1 ∧ y = b.2)
def PYk (σ : zI) (a : Int → Int) : Prop := ∀ o m, 0 ≤ o → o < a 7 → 0 ≤ m → m < a 1 → wk_op a (wk_T a 0) o → wk_cr a m → σ 62 (m * 6 + a (4372 + 8 * o)) = wk_py a m o
-- method 118: MillTown$Week.bestOrder(LMillTown$Town;I)I
theorem c_118_0 : pg_cd 118 0 = (1, 1, 0, 0, (-1)) := by decide +kernel
theorem c_118_1 : pg_cd 118 1 = (6, 1, 0, 3, 0) := by decide +kernel
theorem c_118_2 : pg_cd 118 2 = (1, 1, 0, 0, 0) := by decide +kernel
theorem c_118_3 : pg_cd 118 3 = (6, 2, 0, 4, 0) := by decide +kernel
theorem c_118_5 : pg_cd 118 5 = (1, 1, 0, 0, 0) := by decide +kernel
theorem c_118_6 : pg_cd 118 6 = (6, 2, 0, 5, 0) := by decide +kernel
theorem c_118_8 : pg_cd 118 8 = (3, 2, 0, 5, 0) := by decide +kernel
theorem c_118_10 : pg_cd 118 10 = (5, 1, 0, 1, 0) := by decide +kernel
theorem c_118_11 : pg_cd 118 11 = (45, 8, 105, 6, 0) := by decide +kernel
theorem c_118_14 : pg_cd 118 14 = (43, 4, 121, 2, 0) := by decide +kernel
theorem c_118_17 : pg_cd 118 17 = (37, 3, 0, 3, 103) := by decide +kernel
theorem c_118_20 : pg_cd 118 20 = (5, 1, 0, 1, 0) := by decide +kernel
theorem c_118_21 : pg_cd 118 21 = (3, 2, 0, 5, 0) := by decide +kernel
theorem c_118_23 : pg_cd 118 23 = (81, 112, 124, 0, 0) := by decide +kernel
theorem c_118_26 : pg_cd 118 26 = (36, 3, 0, 0, 88) := by decide +kernel
theorem c_118_29 : pg_cd 118 29 = (5, 1, 0, 0, 0) := by decide +kernel
theorem c_118_30 : pg_cd 118 30 = (5, 1, 0, 1, 0) := by decide +kernel
theorem c_118_31 : pg_cd 118 31 = (3, 1, 0, 2, 0) := by decide +kernel
theorem c_118_32 : pg_cd 118 32 = (3, 2, 0, 5, 0) := by decide +kernel
theorem c_118_34 : pg_cd 118 34 = (80, 117, 167, 0, 0) := by decide +kernel
theorem c_118_37 : pg_cd 118 37 = (6, 2, 0, 6, 0) := by decide +kernel
theorem c_118_39 : pg_cd 118 39 = (5, 1, 0, 1, 0) := by decide +kernel
theorem c_118_40 : pg_cd 118 40 = (45, 8, 105, 6, 0) := by decide +kernel
theorem c_118_43 : pg_cd 118 43 = (3, 2, 0, 5, 0) := by decide +kernel
theorem c_118_45 : pg_cd 118 45 = (1, 1, 0, 0, 4) := by decide +kernel
theorem c_118_46 : pg_cd 118 46 = (80, 55, 118, 0, 0) := by decide +kernel
theorem c_118_49 : pg_cd 118 49 = (5, 1, 0, 1, 0) := by decide +kernel
theorem c_118_50 : pg_cd 118 50 = (45, 8, 105, 6, 0) := by decide +kernel
theorem c_118_53 : pg_cd 118 53 = (3, 1, 0, 3, 0) := by decide +kernel
theorem c_118_54 : pg_cd 118 54 = (1, 1, 0, 0, 4) := by decide +kernel
theorem c_118_55 : pg_cd 118 55 = (80, 55, 118, 0, 0) := by decide +kernel
theorem c_118_58 : pg_cd 118 58 = (37, 3, 0, 3, 7) := by decide +kernel
theorem c_118_61 : pg_cd 118 61 = (1, 1, 0, 0, 1) := by decide +kernel
theorem c_118_62 : pg_cd 118 62 = (38, 3, 0, 0, 4) := by decide +kernel
theorem c_118_65 : pg_cd 118 65 = (1, 1, 0, 0, 0) := by decide +kernel
theorem c_118_66 : pg_cd 118 66 = (6, 2, 0, 7, 0) := by decide +kernel
theorem c_118_68 : pg_cd 118 68 = (3, 2, 0, 6, 0) := by decide +kernel
theorem c_118_70 : pg_cd 118 70 = (5, 1, 0, 1, 0) := by decide +kernel
theorem c_118_71 : pg_cd 118 71 = (45, 8, 115, 2, 0) := by decide +kernel
theorem c_118_74 : pg_cd 118 74 = (3, 1, 0, 2, 0) := by decide +kernel
theorem c_118_75 : pg_cd 118 75 = (1, 2, 0, 0, 11) := by decide +kernel
theorem c_118_77 : pg_cd 118 77 = (80, 55, 118, 0, 0) := by decide +kernel
theorem c_118_80 : pg_cd 118 80 = (37, 3, 0, 2, 34) := by decide +kernel
theorem c_118_83 : pg_cd 118 83 = (3, 1, 0, 3, 0) := by decide +kernel
theorem c_118_84 : pg_cd 118 84 = (1, 1, 0, 0, (-1)) := by decide +kernel
theorem c_118_85 : pg_cd 118 85 = (37, 3, 0, 0, 22) := by decide +kernel
theorem c_118_88 : pg_cd 118 88 = (3, 2, 0, 6, 0) := by decide +kernel
theorem c_118_90 : pg_cd 118 90 = (3, 2, 0, 4, 0) := by decide +kernel
theorem c_118_92 : pg_cd 118 92 = (37, 3, 0, 4, 15) := by decide +kernel
theorem c_118_95 : pg_cd 118 95 = (3, 2, 0, 6, 0) := by decide +kernel
theorem c_118_97 : pg_cd 118 97 = (3, 2, 0, 4, 0) := by decide +kernel
theorem c_118_99 : pg_cd 118 99 = (37, 3, 0, 1, 15) := by decide +kernel
theorem c_118_102 : pg_cd 118 102 = (3, 2, 0, 7, 0) := by decide +kernel
theorem c_118_104 : pg_cd 118 104 = (36, 3, 0, 0, 10) := by decide +kernel
theorem c_118_107 : pg_cd 118 107 = (3, 2, 0, 5, 0) := by decide +kernel
theorem c_118_109 : pg_cd 118 109 = (6, 1, 0, 3, 0) := by decide +kernel
theorem c_118_110 : pg_cd 118 110 = (3, 2, 0, 6, 0) := by decide +kernel
theorem c_118_112 : pg_cd 118 112 = (6, 2, 0, 4, 0) := by decide +kernel
theorem c_118_114 : pg_cd 118 114 = (9, 3, 0, 5, 1) := by decide +kernel
theorem c_118_117 : pg_cd 118 117 = (38, 3, 0, 0, (-109)) := by decide +kernel
theorem c_118_120 : pg_cd 118 120 = (3, 1, 0, 3, 0) := by decide +kernel
theorem c_118_121 : pg_cd 118 121 = (90, 0, 0, 0, 0) := by decide +kernel
theorem mi_118 : pg_mc 118 = 9 ∧ pg_na 118 = 2 ∧ pg_mx 118 = 8 := by decide +kernel
set_option maxRecDepth 20000 in
theorem u_118_0 {d : Nat} {S : zS} {σ τ : zI} {Q : zQ} {x1 : Nat} {x2 : Int} (hx1 : tw x1) (t : wi (d + 2) 118 8 [.ref 53, .ref x1, .int (wI x2), .int (wI (-1)), .int (wI 0), .int (wI 0), .retAddr 0, .retAddr 0] [] S σ τ Q) : wi (d + 2) 118 0 [.ref 53, .ref x1, .int (wI x2), .retAddr 0, .retAddr 0, .retAddr 0, .retAddr 0, .retAddr 0] [] S σ τ Q := by
  refine i1 c_118_0 (i6 (L' := [.ref 53, .ref x1, .int (wI x2), .int (wI (-1)), .retAddr 0, .retAddr 0, .retAddr 0, .retAddr 0]) c_118_1 rfl (i1 c_118_2 (i6 (L' := [.ref 53, .ref x1, .int (wI x2), .int (wI (-1)), .int (wI 0), .retAddr 0, .retAddr 0, .retAddr 0]) c_118_3 rfl (i1 c_118_5 (i6 (L' := [.ref 53, .ref x1, .int (wI x2), .int (wI (-1)), .int (wI 0), .int (wI 0), .retAddr 0, .retAddr 0]) c_118_6 rfl t)))))
set_option maxRecDepth 20000 in
theorem u_118_8 {d : Nat} {S : zS} {σ τ : zI} {Q : zQ} {x1 : Nat} {x2 : Int} {x3 : Int} {x4 : Int} {x5 : Int} {y6 : Value} {y7 : Value} (hx1 : tw x1) (t : (rg x5) ∧ if (σ (x1 + 13) 2) ≤ x5 then (Q (some (.int (wI x3))) S σ τ) else (∃ a4 : Int → Int, ∃ PE5 : Int → Int → Int, ∃ MI6 : Int → Int → Int, ∃ TK7 : Int → Int, ∃ OD8 : Int → Int → Int, (CS σ x1 a4 PE5 MI6 TK7 OD8) ∧ (0 ≤ x5 ∧ x5 < a4 7) ∧ if (OD8 x5 3 ≤ a4 0 ∧ a4 0 ≤ OD8 x5 4) ∧ OD8 x5 5 < OD8 x5 1 then (∃ a12 : Int → Int, ∃ PE13 : Int → Int → Int, ∃ MI14 : Int → Int → Int, ∃ TK15 : Int → Int, ∃ OD16 : Int → Int → Int, (CS σ x1 a12 PE13 MI14 TK15 OD16) ∧ (Jv a12) ∧ (jv_T a12) ∧ (a12 0 ≤ 399) ∧ (0 ≤ x2 ∧ x2 < a12 1) ∧ (0 ≤ x5 ∧ x5 < a12 7) ∧ (OD16 x5 0 = a12 (4372 + 8 * x5) ∧ OD16 x5 2 = a12 (4372 + 8 * x5 + 2)) ∧ (σ 53 5 = wk_ct a12) ∧ (σ 62 (x2 * 6 + a12 (4372 + 8 * x5)) = wk_py a12 x2 x5) ∧ (rg x3) ∧ if (rt_ (σ (x1 + 13) 2) (σ (x1 + 14)) 6 4 x3) ≤ (rt_ (σ (x1 + 13) 2) (σ (x1 + 14)) 6 4 x5) then (wi (d + 2) 118 66 [.ref 53, .ref x1, .int (wI x2), .int (wI x3), .int (wI x4), .int (wI x5), .int (wI (wk_gn a12 x2 x5)), y7] [.int (wI 0)] S σ τ Q) else (wi (d + 2) 118 66 [.ref 53, .ref x1, .int (wI x2), .int (wI x3), .int (wI x4), .int (wI x5), .int (wI (wk_gn a12 x2 x5)), y7] [.int (wI 1)] S σ τ Q)) else (wi (d + 2) 118 114 [.ref 53, .ref x1, .int (wI x2), .int (wI x3), .int (wI x4), .int (wI x5), y6, y7] [] S σ τ Q))) : wi (d + 2) 118 8 [.ref 53, .ref x1, .int (wI x2), .int (wI x3), .int (wI x4), .int (wI x5), y6, y7] [] S σ τ Q := by
  refine i3 c_118_8 rfl (i5 c_118_10 rfl (i45 c_118_11 (lo (lyt_0 hx1) (by have := tw_b hx1; omega)) (lro (lrt_6 hx1)) (wi_ok (fun K1 => ?_))))
  obtain ⟨r2, t⟩ := t
  refine i43 (v := σ (x1 + 13) 2) c_118_14 (lo (lyt_13 hx1) (by have := tw_b hx1; omega)) rfl ?_
  refine i37 c_118_17 r2 (rge_ K1 rfl) rfl (fun hc => ?_) (fun hc => ?_)
  · have t := iT t hc
    have ha3 : (σ (x1 + 13) 2) ≤ x5 := hc
    refine i3 c_118_120 rfl ?_
    exact i90 c_118_121 t
  · have t := iF t hc
    have ha3 : ¬ ((σ (x1 + 13) 2) ≤ x5) := hc
    obtain ⟨a4, t⟩ := t
    obtain ⟨PE5, t⟩ := t
    obtain ⟨MI6, t⟩ := t
    obtain ⟨TK7, t⟩ := t
    obtain ⟨OD8, t⟩ := t
    obtain ⟨p9, t⟩ := t
    obtain ⟨p10, t⟩ := t
    refine i5 c_118_20 rfl (i3 c_118_21 rfl ?_)
    refine i81 (As := [.ref x1, .int (wI x5)]) (rest := []) c_118_23 mi_112 rfl rfl (Nat.le_of_ble_eq_true rfl) (Nat.le_of_ble_eq_true rfl) (q_112 (a := a4) (PE := PE5) (MI := MI6) (TK := TK7) (OD := OD8) hx1 p9 p10 ?_)
    show wi (d + 2) 118 26 [.ref 53, .ref x1, .int (wI x2), .int (wI x3), .int (wI x4), .int (wI x5), y6, y7] [.int (wI (if (OD8 x5 3 ≤ a4 0 ∧ a4 0 ≤ OD8 x5 4) ∧ OD8 x5 5 < OD8 x5 1 then 1 else 0))] S σ τ Q
    refine i36e c_118_26 rfl (fun hc => ?_) (fun hc => ?_)
    · have t := iT t hc
      have ha11 : (OD8 x5 3 ≤ a4 0 ∧ a4 0 ≤ OD8 x5 4) ∧ OD8 x5 5 < OD8 x5 1 := hc
      obtain ⟨a12, t⟩ := t
      obtain ⟨PE13, t⟩ := t
      obtain ⟨MI14, t⟩ := t
      obtain ⟨TK15, t⟩ := t
      obtain ⟨OD16, t⟩ := t
      obtain ⟨p17, t⟩ := t
      obtain ⟨p18, t⟩ := t
      obtain ⟨p19, t⟩ := t
      obtain ⟨p20, t⟩ := t
      obtain ⟨p21, t⟩ := t
      obtain ⟨p22, t⟩ := t
      obtain ⟨p23, t⟩ := t
      obtain ⟨p24, t⟩ := t
      obtain ⟨p25, t⟩ := t
      refine i5 c_118_29 rfl (i5 c_118_30 rfl (i3 c_118_31 rfl (i3 c_118_32 rfl ?_)))
      refine i80 (As := [.ref x1, .int (wI x2), .int (wI x5)]) (rest := []) c_118_34 mi_117 rfl rfl (Nat.le_of_ble_eq_true rfl) (Nat.le_of_ble_eq_true rfl) (lo (c := 53) (kd := 109) (n := 0) rfl (by decide)) (q_117 (a := a12) (PE := PE13) (MI := MI14) (TK := TK15) (OD := OD16) hx1 p17 p18 p19 p20 p21 p22 p23 p24 p25 ?_)
      show wi (d + 2) 118 37 [.ref 53, .ref x1, .int (wI x2), .int (wI x3), .int (wI x4), .int (wI x5), y6, y7] [.int (wI (wk_gn a12 x2 x5))] S σ τ Q
      refine i6 (L' := [.ref 53, .ref x1, .int (wI x2), .int (wI x3), .int (wI x4), .int (wI x5), .int (wI (wk_gn a12 x2 x5)), y7]) c_118_37 rfl (i5 c_118_39 rfl (i45 c_118_40 (lo (lyt_0 hx1) (by have := tw_b hx1; omega)) (lro (lrt_6 hx1)) (i3 c_118_43 rfl (i1 c_118_45 ?_))))
      refine i80 (As := [.int (wI x5), .int (wI 4)]) (rest := []) c_118_46 mi_55 rfl rfl (Nat.le_of_ble_eq_true rfl) (Nat.le_of_ble_eq_true rfl) (lo (lyt_13 hx1) (by have := tw_b hx1; omega)) (q_at (ow_orders hx1) r2 (by decide) ?_)
      show wi (d + 2) 118 49 [.ref 53, .ref x1, .int (wI x2), .int (wI x3), .int (wI x4), .int (wI x5), .int (wI (wk_gn a12 x2 x5)), y7] [.int (wI (rt_ (σ (x1 + 13) 2) (σ (x1 + 14)) 6 4 x5))] S σ τ Q
      obtain ⟨r26, t⟩ := t
      refine i5 c_118_49 rfl (i45 c_118_50 (lo (lyt_0 hx1) (by have := tw_b hx1; omega)) (lro (lrt_6 hx1)) (i3 c_118_53 rfl (i1 c_118_54 ?_)))
      refine i80 (As := [.int (wI x3), .int (wI 4)]) (rest := [.int (wI (rt_ (σ (x1 + 13) 2) (σ (x1 + 14)) 6 4 x5))]) c_118_55 mi_55 rfl rfl (Nat.le_of_ble_eq_true rfl) (Nat.le_of_ble_eq_true rfl) (lo (lyt_13 hx1) (by have := tw_b hx1; omega)) (q_at (ow_orders hx1) r26 (by decide) ?_)
      show wi (d + 2) 118 58 [.ref 53, .ref x1, .int (wI x2), .int (wI x3), .int (wI x4), .int (wI x5), .int (wI (wk_gn a12 x2 x5)), y7] [.int (wI (rt_ (σ (x1 + 13) 2) (σ (x1 + 14)) 6 4 x3)), .int (wI (rt_ (σ (x1 + 13) 2) (σ (x1 + 14)) 6 4 x5))] S σ τ Q
      refine i37 c_118_58 (rg_rt_ (fun k => kO_r K1 _ k) _ _ _ _) (rg_rt_ (fun k => kO_r K1 _ k) _ _ _ _) rfl (fun hc => ?_) (fun hc => ?_)
      · have t := iT t hc
        have ha27 : (rt_ (σ (x1 + 13) 2) (σ (x1 + 14)) 6 4 x3) ≤ (rt_ (σ (x1 + 13) 2) (σ (x1 + 14)) 6 4 x5) := hc
        refine i1 c_118_65 t
      · have t := iF t hc
        have ha27 : ¬ ((rt_ (σ (x1 + 13) 2) (σ (x1 + 14)) 6 4 x3) ≤ (rt_ (σ (x1 + 13) 2) (σ (x1 + 14)) 6 4 x5)) := hc
        refine i1 c_118_61 (i38 c_118_62 rfl t)
    · have t := iF t hc
      have ha11 : ¬ ((OD8 x5 3 ≤ a4 0 ∧ a4 0 ≤ OD8 x5 4) ∧ OD8 x5 5 < OD8 x5 1) := hc
      exact t
set_option maxRecDepth 20000 in
theorem u_118_66 {d : Nat} {S : zS} {σ τ : zI} {Q : zQ} {x1 : Nat} {x2 : Int} {x3 : Int} {x4 : Int} {x5 : Int} {x6 : Int} {y7 : Value} {s0 : Int} (hx1 : tw x1) (t : (rg x2) ∧ (rg x6) ∧ if x6 < (rt_ (σ (x1 + 5) 2) (σ (x1 + 6)) 13 11 x2) then (wi (d + 2) 118 114 [.ref 53, .ref x1, .int (wI x2), .int (wI x3), .int (wI x4), .int (wI x5), .int (wI x6), .int (wI s0)] [] S σ τ Q) else ((rg x3) ∧ if x3 = (-1) then (wi (d + 2) 118 107 [.ref 53, .ref x1, .int (wI x2), .int (wI x3), .int (wI x4), .int (wI x5), .int (wI x6), .int (wI s0)] [] S σ τ Q) else ((rg x4) ∧ if x4 < x6 then (wi (d + 2) 118 107 [.ref 53, .ref x1, .int (wI x2), .int (wI x3), .int (wI x4), .int (wI x5), .int (wI x6), .int (wI s0)] [] S σ τ Q) else (if x6 = x4 then ((rg s0) ∧ if s0 = 0 then (wi (d + 2) 118 114 [.ref 53, .ref x1, .int (wI x2), .int (wI x3), .int (wI x4), .int (wI x5), .int (wI x6), .int (wI s0)] [] S σ τ Q) else (wi (d + 2) 118 107 [.ref 53, .ref x1, .int (wI x2), .int (wI x3), .int (wI x4), .int (wI x5), .int (wI x6), .int (wI s0)] [] S σ τ Q)) else (wi (d + 2) 118 114 [.ref 53, .ref x1, .int (wI x2), .int (wI x3), .int (wI x4), .int (wI x5), .int (wI x6), .int (wI s0)] [] S σ τ Q))))) : wi (d + 2) 118 66 [.ref 53, .ref x1, .int (wI x2), .int (wI x3), .int (wI x4), .int (wI x5), .int (wI x6), y7] [.int (wI s0)] S σ τ Q := by
  obtain ⟨r1, t⟩ := t
  refine i6 (L' := [.ref 53, .ref x1, .int (wI x2), .int (wI x3), .int (wI x4), .int (wI x5), .int (wI x6), .int (wI s0)]) c_118_66 rfl (i3 c_118_68 rfl (i5 c_118_70 rfl (i45 c_118_71 (lo (lyt_0 hx1) (by have := tw_b hx1; omega)) (lro (lrt_2 hx1)) (i3 c_118_74 rfl (i1 c_118_75 (wi_ok (fun K2 => ?_)))))))
  refine i80 (As := [.int (wI x2), .int (wI 11)]) (rest := [.int (wI x6)]) c_118_77 mi_55 rfl rfl (Nat.le_of_ble_eq_true rfl) (Nat.le_of_ble_eq_true rfl) (lo (lyt_5 hx1) (by have := tw_b hx1; omega)) (q_at (ow_mills hx1) r1 (by decide) ?_)
  show wi (d + 2) 118 80 [.ref 53, .ref x1, .int (wI x2), .int (wI x3), .int (wI x4), .int (wI x5), .int (wI x6), .int (wI s0)] [.int (wI (rt_ (σ (x1 + 5) 2) (σ (x1 + 6)) 13 11 x2)), .int (wI x6)] S σ τ Q
  obtain ⟨r3, t⟩ := t
  refine i37 c_118_80 r3 (rg_rt_ (fun k => kO_r K2 _ k) _ _ _ _) rfl (fun hc => ?_) (fun hc => ?_)
  · have t := iT t hc
    have ha4 : x6 < (rt_ (σ (x1 + 5) 2) (σ (x1 + 6)) 13 11 x2) := hc
    exact t
  · have t := iF t hc
    have ha4 : ¬ (x6 < (rt_ (σ (x1 + 5) 2) (σ (x1 + 6)) 13 11 x2)) := hc
    obtain ⟨r5, t⟩ := t
    refine i3 c_118_83 rfl (i1 c_118_84 ?_)
    refine i37 c_118_85 r5 (by decide) rfl (fun hc => ?_) (fun hc => ?_)
    · have t := iT t hc
      have ha6 : x3 = (-1) := hc
      exact t
    · have t := iF t hc
      have ha6 : ¬ (x3 = (-1)) := hc
      obtain ⟨r7, t⟩ := t
      refine i3 c_118_88 rfl (i3 c_118_90 rfl ?_)
      refine i37 c_118_92 r3 r7 rfl (fun hc => ?_) (fun hc => ?_)
      · have t := iT t hc
        have ha8 : x4 < x6 := hc
        exact t
      · have t := iF t hc
        have ha8 : ¬ (x4 < x6) := hc
        refine i3 c_118_95 rfl (i3 c_118_97 rfl ?_)
        refine i37 c_118_99 r3 r7 rfl (fun hc => ?_) (fun hc => ?_)
        · have t := iF t hc
          have ha9 : ¬ (x6 = x4) := hc
          exact t
        · have t := iT t (Decidable.not_not.mp hc)
          have ha9 : x6 = x4 := Decidable.not_not.mp hc
          obtain ⟨r10, t⟩ := t
          refine i3 c_118_102 rfl ?_
          refine i36 c_118_104 r10 rfl (fun hc => ?_) (fun hc => ?_)
          · have t := iT t hc
            have ha11 : s0 = 0 := hc
            exact t
          · have t := iF t hc
            have ha11 : ¬ (s0 = 0) := hc
            exact t
set_option maxRecDepth 20000 in
theorem u_118_107 {d : Nat} {S : zS} {σ τ : zI} {Q : zQ} {x1 : Nat} {x2 : Int} {x3 : Int} {x4 : Int} {x5 : Int} {x6 : Int} {x7 : Int} (hx1 : tw x1) (t : wi (d + 2) 118 114 [.ref 53, .ref x1, .int (wI x2), .int (wI x5), .int (wI x6), .int (wI x5), .int (wI x6), .int (wI x7)] [] S σ τ Q) : wi (d + 2) 118 107 [.ref 53, .ref x1, .int (wI x2), .int (wI x3), .int (wI x4), .int (wI x5), .int (wI x6), .int (wI x7)] [] S σ τ Q := by
  refine i3 c_118_107 rfl (i6 (L' := [.ref 53, .ref x1, .int (wI x2), .int (wI x5), .int (wI x4), .int (wI x5), .int (wI x6), .int (wI x7)]) c_118_109 rfl (i3 c_118_110 rfl (i6 (L' := [.ref 53, .ref x1, .int (wI x2), .int (wI x5), .int (wI x6), .int (wI x5), .int (wI x6), .int (wI x7)]) c_118_112 rfl t)))
set_option maxRecDepth 20000 in
theorem u_118_114 {d : Nat} {S : zS} {σ τ : zI} {Q : zQ} {x1 : Nat} {x2 : Int} {x3 : Int} {x4 : Int} {x5 : Int} {y6 : Value} {y7 : Value} (hx1 : tw x1) (t : wi (d + 2) 118 8 [.ref 53, .ref x1, .int (wI x2), .int (wI x3), .int (wI x4), .int (wI (x5 + 1)), y6, y7] [] S σ τ Q) : wi (d + 2) 118 114 [.ref 53, .ref x1, .int (wI x2), .int (wI x3), .int (wI x4), .int (wI x5), y6, y7] [] S σ τ Q := by
  refine i9 (L' := [.ref 53, .ref x1, .int (wI x2), .int (wI x3), .int (wI x4), .int (wI (x5 + 1)), y6, y7]) c_118_114 rfl rfl (i38 c_118_117 rfl t)
theorem q_118 {d : Nat} {S : zS} {σ τ : zI} {Q : zQ} {tn : Nat} {m : Int} {a : Int → Int} {PE : Int → Int → Int} {MI : Int → Int → Int} {TK : Int → Int} (htn : tw tn) (p0 : CS σ tn a PE MI TK (OD1 a m)) (p1 : Jv a) (p2 : jv_T a) (p3 : a 0 ≤ 399) (p4 : 0 ≤ m ∧ m < a 1) (p5 : wk_cr a m) (p6 : MI m 3 = a (3300 + 16 * m + 3)) (p7 : σ 53 5 = wk_ct a) (p8 : PYk σ a) (t : Q (some (.int (wI (if wk_ok a (wk_T a m) m then wk_bo a (wk_T a m) m else -1)))) S σ τ) : wc (d + 2) 118 [.ref 53, .ref tn, .int (wI m)] S σ τ Q := by
  have hC := jC p1
  unfold jv_C at hC
  have tb := tw_b htn
  have co := (cs_O p0).1
  have hM := jM p1 m p4.1 p4.2
  refine wc_of mi_118 rfl (u_118_0 htn ?_)
  have key : ∀ o, 0 ≤ o → o ≤ a 7 → ∀ x y, bOr (wk_b a (wk_T a m) m o) (a (3300 + 16 * m + 3)) x y → ∀ y6 y7, wi (d + 2) 118 8 [.ref 53, .ref tn, .int (wI m), .int (wI x), .int (wI y), .int (wI o), y6, y7] [] S σ τ Q := by
    refine lp_up (fun o q0 q1 ih => ?_)
    intro x y hb y6 y7
    have bb := wk_b_b (tk := wk_T a m) (m := m) o q0 q1
    have yb : x ≠ -1 → -120000 ≤ y ∧ y ≤ 10000 := fun hx => by
      rcases hb with ⟨h1, h2⟩ | ⟨h1, h2, h3⟩
      · omega
      · rw [h3, (bb.2.2 h1.1).2]
        exact (wk_gn_b p1 p2 p3 ⟨h1.1, by omega⟩).2.2.1
    refine u_118_8 htn ?_
    rw [co]
    refine ⟨by omega, ifI (fun e => ?_) (fun e => ?_)⟩
    · have e : o = a 7 := by omega
      subst e
      have eo : wk_bo a (wk_T a m) m = (wk_b a (wk_T a m) m (a 7)).1 := rfl
      have eg : wk_bg a (wk_T a m) m = (wk_b a (wk_T a m) m (a 7)).2 := rfl
      rcases hb with ⟨h1, h2⟩ | ⟨h1, h2, h3⟩
      · rw [if_neg (fun q => h2 ⟨by rw [← eo]; exact q.2.1, by rw [← eg]; exact q.2.2⟩)] at t
        rw [h1]; exact t
      · rw [if_pos ⟨p5, by rw [eo]; exact h1.1, by rw [eg]; exact h1.2⟩] at t
        rw [h2]; exact t
    · have ho : 0 ≤ o ∧ o < a 7 := ⟨q0, by omega⟩
      have ih := ih (by omega)
      have bs := wk_b_s (a := a) (tk := wk_T a m) (m := m) q0
      have gn := wk_gn_b p1 p2 p3 (m := m) ho
      refine ⟨a, PE, MI, TK, OD1 a m, p0, ho, ?_⟩
      rw [OD1_5 ho.2, OD1_k (by omega), OD1_k (by omega), OD1_k (by omega)]
      have opiff : (a (4372 + 8 * o + 3) ≤ a 0 ∧ a 0 ≤ a (4372 + 8 * o + 4)) ∧ wk_T a m o < a (4372 + 8 * o + 1) ↔ wk_op a (wk_T a m) o := by
        unfold wk_op; omega
      refine ifI (fun e1 => ?_) (fun e1 => ?_)
      · have op := opiff.mp e1
        rw [if_pos op] at bs
        have o4 : rt_ (a 7) (σ (tn + 14)) 6 4 o = a (4372 + 8 * o + 4) := by
          have := vo p0 (o := o) (k := 4) ho (by omega)
          rw [co] at this
          rw [this, OD1_k (by omega)]
        have ox : 0 ≤ x → rt_ (a 7) (σ (tn + 14)) 6 4 x = a (4372 + 8 * x + 4) := fun hx => by
          have := vo p0 (o := x) (k := 4) (by omega) (by omega)
          rw [co] at this
          rw [this, OD1_k (by omega)]
        -- the two ways on
        have keep : ∀ y6 y7, bOr (wk_b a (wk_T a m) m (o + 1)) (a (3300 + 16 * m + 3)) x y → wi (d + 2) 118 114 [.ref 53, .ref tn, .int (wI m), .int (wI x), .int (wI y), .int (wI o), y6, y7] [] S σ τ Q := fun y6 y7 h => u_118_114 htn (ih x y h _ _)
        have takeO : ∀ s0, bOr (wk_b a (wk_T a m) m (o + 1)) (a (3300 + 16 * m + 3)) o (wk_gn a m o) → wi (d + 2) 118 107 [.ref 53, .ref tn, .int (wI m), .int (wI x), .int (wI y), .int (wI o), .int (wI (wk_gn a m o)), .int (wI s0)] [] S σ τ Q := fun s0 h => u_118_107 htn (u_118_114 htn (ih o _ h _ _))
        have go : ∀ s0, rg s0 → (0 ≤ x → (s0 = 0 ↔ a (4372 + 8 * x + 4) ≤ a (4372 + 8 * o + 4))) → ∀ y7, wi (d + 2) 118 66 [.ref 53, .ref tn, .int (wI m), .int (wI x), .int (wI y), .int (wI o), .int (wI (wk_gn a m o)), y7] [.int (wI s0)] S σ τ Q := fun s0 r0 hs y7 => by
          refine u_118_66 htn ?_
          rw [vm p0 p4 (show mcR 11 3 by omega), p6]
          rw [bs] at keep takeO
          refine ⟨by omega, by omega, ifI (fun c1 => keep _ _ ?_) (fun c1 => ⟨by omega, ifI (fun c2 => takeO _ ?_) (fun c2 => ⟨by omega, ifI (fun c3 => takeO _ ?_) (fun c3 => ifI (fun c4 => ⟨r0, ifI (fun c5 => keep _ _ ?_) (fun c5 => takeO _ ?_)⟩) (fun c4 => keep _ _ ?_))⟩)⟩)⟩
          · split
            · exact hb
            · next c =>
              rcases hb with ⟨h1, h2⟩ | ⟨h1, h2, h3⟩
              · exact Or.inl ⟨h1, fun q => by have := q.2; dsimp only at this; omega⟩
              · exfalso; omega
          · rcases hb with ⟨h1, h2⟩ | ⟨h1, h2, h3⟩
            · rw [if_neg (by omega)]
              exact Or.inr ⟨⟨q0, by dsimp only; omega⟩, rfl, rfl⟩
            · omega
          · rcases hb with ⟨h1, h2⟩ | ⟨h1, h2, h3⟩
            · omega
            · rw [if_neg (by omega)]
              exact Or.inr ⟨⟨q0, by dsimp only; omega⟩, rfl, rfl⟩
          · rcases hb with ⟨h1, h2⟩ | ⟨h1, h2, h3⟩
            · omega
            · have := (hs (by omega)).mp c5
              rw [h2] at this
              rw [if_pos (by omega)]
              exact Or.inr ⟨h1, h2, h3⟩
          · rcases hb with ⟨h1, h2⟩ | ⟨h1, h2, h3⟩
            · omega
            · have this : ¬ (a (4372 + 8 * x + 4) ≤ a (4372 + 8 * o + 4)) := fun q => c5 ((hs (by omega)).mpr q)
              rw [h2] at this
              rw [if_neg (by omega)]
              exact Or.inr ⟨⟨q0, by dsimp only; omega⟩, rfl, rfl⟩
          · rcases hb with ⟨h1, h2⟩ | ⟨h1, h2, h3⟩
            · omega
            · rw [if_pos (by omega)]
              exact Or.inr ⟨h1, h2, h3⟩
        refine ⟨a, PE, MI, TK, OD1 a m, p0, p1, p2, p3, p4, ho, ⟨by rw [OD1_k (by omega), Int.add_zero], OD1_k (by omega)⟩, p7, p8 o m q0 ho.2 p4.1 p4.2 (wk_T_m p1 p2 p3 ⟨p4.1, by omega⟩ ho op) p5, by omega, ?_⟩
        rw [o4]
        refine ifI (fun c1 => go 0 (by decide) (fun hx => ?_) _) (fun c1 => go 1 (by decide) (fun hx => ?_) _)
        · rw [ox hx] at c1; exact ⟨fun _ => c1, fun _ => rfl⟩
        · rw [ox hx] at c1; exact ⟨fun q => by omega, fun q => absurd q c1⟩
      · rw [if_neg (fun q => e1 (opiff.mpr q))] at bs
        rw [← bs] at hb
        exact u_118_114 htn (ih x y hb _ _)
  exact key 0 (by omega) (by omega) (-1) 0 (Or.inl ⟨rfl, fun q => by have := q.1; rw [wk_b_0] at this; exact absurd this (by decide)⟩) _ _
def PEc (a : Int → Int) (PE : Int → Int → Int) (m q p c : Int) : Int := if c = 7 ∧ p < q ∧ a (3652 + 12 * p + 4) = m then 0 else PE p c
def PEd (a : Int → Int) (PE : Int → Int → Int) (m p c : Int) : Int := if c = 7 ∧ a (3652 + 12 * p + 4) = m then 0 else PE p c
-- method 120: MillTown$Week.clearRests(LMillTown$Town;I)V
theorem c_120_0 : pg_cd 120 0 = (1, 1, 0, 0, 0) := by decide +kernel
theorem c_120_1 : pg_cd 120 1 = (6, 1, 0, 2, 0) := by decide +kernel
theorem c_120_2 : pg_cd 120 2 = (3, 1, 0, 2, 0) := by decide +kernel
theorem c_120_3 : pg_cd 120 3 = (5, 1, 0, 0, 0) := by decide +kernel
theorem c_120_4 : pg_cd 120 4 = (45, 8, 143, 5, 0) := by decide +kernel
theorem c_120_7 : pg_cd 120 7 = (43, 4, 121, 2, 0) := by decide +kernel
theorem c_120_10 : pg_cd 120 10 = (37, 3, 0, 3, 33) := by decide +kernel
theorem c_120_13 : pg_cd 120 13 = (5, 1, 0, 0, 0) := by decide +kernel
theorem c_120_14 : pg_cd 120 14 = (45, 8, 143, 5, 0) := by decide +kernel
theorem c_120_17 : pg_cd 120 17 = (3, 1, 0, 2, 0) := by decide +kernel
theorem c_120_18 : pg_cd 120 18 = (1, 1, 0, 0, 4) := by decide +kernel
theorem c_120_19 : pg_cd 120 19 = (80, 55, 118, 0, 0) := by decide +kernel
theorem c_120_22 : pg_cd 120 22 = (3, 1, 0, 1, 0) := by decide +kernel
theorem c_120_23 : pg_cd 120 23 = (37, 3, 0, 1, 14) := by decide +kernel
theorem c_120_26 : pg_cd 120 26 = (5, 1, 0, 0, 0) := by decide +kernel
theorem c_120_27 : pg_cd 120 27 = (45, 8, 143, 5, 0) := by decide +kernel
theorem c_120_30 : pg_cd 120 30 = (3, 1, 0, 2, 0) := by decide +kernel
theorem c_120_31 : pg_cd 120 31 = (1, 2, 0, 0, 7) := by decide +kernel
theorem c_120_33 : pg_cd 120 33 = (1, 1, 0, 0, 0) := by decide +kernel
theorem c_120_34 : pg_cd 120 34 = (80, 56, 171, 0, 0) := by decide +kernel
theorem c_120_37 : pg_cd 120 37 = (9, 3, 0, 2, 1) := by decide +kernel
theorem c_120_40 : pg_cd 120 40 = (38, 3, 0, 0, (-38)) := by decide +kernel
theorem c_120_43 : pg_cd 120 43 = (94, 0, 0, 0, 0) := by decide +kernel
theorem mi_120 : pg_mc 120 = 9 ∧ pg_na 120 = 2 ∧ pg_mx 120 = 3 := by decide +kernel
set_option maxRecDepth 20000 in
theorem u_120_0 {d : Nat} {S : zS} {σ τ : zI} {Q : zQ} {x0 : Nat} {x1 : Int} (hx0 : tw x0) (t : wi (d + 1) 120 2 [.ref x0, .int (wI x1), .int (wI 0)] [] S σ τ Q) : wi (d + 1) 120 0 [.ref x0, .int (wI x1), .retAddr 0] [] S σ τ Q := by
  refine i1 c_120_0 (i6 (L' := [.ref x0, .int (wI x1), .int (wI 0)]) c_120_1 rfl t)
set_option maxRecDepth 20000 in
theorem u_120_2 {d : Nat} {S : zS} {σ τ : zI} {Q : zQ} {x0 : Nat} {x1 : Int} {x2 : Int} (hx0 : tw x0) (t : (rg x2) ∧ if (σ (x0 + 11) 2) ≤ x2 then (Q none S σ τ) else ((rg x1) ∧ if (rt_ (σ (x0 + 11) 2) (σ (x0 + 12)) 9 4 x2) = x1 then ((0 ≤ x2 ∧ x2 < (σ (x0 + 11) 2)) ∧ wi (d + 1) 120 2 [.ref x0, .int (wI x1), .int (wI (x2 + 1))] [] S (uc σ (x0 + 12) (u1 (σ (x0 + 12)) (x2 * 9 + 7) 0)) τ Q) else (wi (d + 1) 120 2 [.ref x0, .int (wI x1), .int (wI (x2 + 1))] [] S σ τ Q))) : wi (d + 1) 120 2 [.ref x0, .int (wI x1), .int (wI x2)] [] S σ τ Q := by
  refine i3 c_120_2 rfl (i5 c_120_3 rfl (i45 c_120_4 (lo (lyt_0 hx0) (by have := tw_b hx0; omega)) (lro (lrt_5 hx0)) (wi_ok (fun K1 => ?_))))
  obtain ⟨r2, t⟩ := t
  refine i43 (v := σ (x0 + 11) 2) c_120_7 (lo (lyt_11 hx0) (by have := tw_b hx0; omega)) rfl ?_
  refine i37 c_120_10 r2 (rge_ K1 rfl) rfl (fun hc => ?_) (fun hc => ?_)
  · have t := iT t hc
    have ha3 : (σ (x0 + 11) 2) ≤ x2 := hc
    exact i94 c_120_43 t
  · have t := iF t hc
    have ha3 : ¬ ((σ (x0 + 11) 2) ≤ x2) := hc
    refine i5 c_120_13 rfl (i45 c_120_14 (lo (lyt_0 hx0) (by have := tw_b hx0; omega)) (lro (lrt_5 hx0)) (i3 c_120_17 rfl (i1 c_120_18 ?_)))
    refine i80 (As := [.int (wI x2), .int (wI 4)]) (rest := []) c_120_19 mi_55 rfl rfl (Nat.le_of_ble_eq_true rfl) (Nat.le_of_ble_eq_true rfl) (lo (lyt_11 hx0) (by have := tw_b hx0; omega)) (q_at (ow_persons hx0) r2 (by decide) ?_)
    show wi (d + 1) 120 22 [.ref x0, .int (wI x1), .int (wI x2)] [.int (wI (rt_ (σ (x0 + 11) 2) (σ (x0 + 12)) 9 4 x2))] S σ τ Q
    obtain ⟨r4, t⟩ := t
    refine i3 c_120_22 rfl ?_
    refine i37 c_120_23 (rg_rt_ (fun k => kO_r K1 _ k) _ _ _ _) r4 rfl (fun hc => ?_) (fun hc => ?_)
    · have t := iF t hc
      have ha5 : ¬ ((rt_ (σ (x0 + 11) 2) (σ (x0 + 12)) 9 4 x2) = x1) := hc
      refine i9 (L' := [.ref x0, .int (wI x1), .int (wI (x2 + 1))]) c_120_37 rfl rfl (i38 c_120_40 rfl t)
    · have t := iT t (Decidable.not_not.mp hc)
      have ha5 : (rt_ (σ (x0 + 11) 2) (σ (x0 + 12)) 9 4 x2) = x1 := Decidable.not_not.mp hc
      obtain ⟨b6, t⟩ := t
      refine i5 c_120_26 rfl (i45 c_120_27 (lo (lyt_0 hx0) (by have := tw_b hx0; omega)) (lro (lrt_5 hx0)) (i3 c_120_30 rfl (i1 c_120_31 (i1 c_120_33 ?_))))
      refine i80 (As := [.int (wI x2), .int (wI 7), .int (wI 0)]) (rest := []) c_120_34 mi_56 rfl rfl (Nat.le_of_ble_eq_true rfl) (Nat.le_of_ble_eq_true rfl) (lo (lyt_11 hx0) (by have := tw_b hx0; omega)) (q_put (v2 := 0) (ow_persons hx0) r2 b6 (by decide) rfl (by decide) ?_)
      show wi (d + 1) 120 37 [.ref x0, .int (wI x1), .int (wI x2)] [] S (uc σ (x0 + 12) (u1 (σ (x0 + 12)) (x2 * 9 + 7) 0)) τ Q
      refine i9 (L' := [.ref x0, .int (wI x1), .int (wI (x2 + 1))]) c_120_37 rfl rfl (i38 c_120_40 rfl t)
theorem q_120 {d : Nat} {S : zS} {σ τ : zI} {Q : zQ} {tn : Nat} {m : Int} {a : Int → Int} {PE : Int → Int → Int} {MI : Int → Int → Int} {TK : Int → Int} {OD : Int → Int → Int} (htn : tw tn) (p0 : CS σ tn a PE MI TK OD) (p1 : rg m) (p2 : a 4 ≤ 60) (p3 : (∀ p, 0 ≤ p → p < a 4 → PE p 4 = a (3652 + 12 * p + 4))) (t : ∀ (σ1 : zI), (∀ c, c ≠ tn + 12 → σ1 c = σ c) → cT_P σ1 tn a (PEd a PE m) → (∀ p, 0 ≤ p → p < a 4 → σ1 (tn + 12) (p * 9 + 8) = σ (tn + 12) (p * 9 + 8)) → Q none S σ1 τ) : wc (d + 1) 120 [.ref tn, .int (wI m)] S σ τ Q := by
  have tb := tw_b htn
  refine wc_ok fun K => ?_
  have h4 : 0 ≤ a 4 := by
    have := (ow_persons htn K).2.2.2.2.2.1
    rw [(cs_P p0).1] at this
    exact this
  refine wc_of mi_120 rfl (u_120_0 htn ?_)
  have key : ∀ q, 0 ≤ q → q ≤ a 4 → ∀ σ' : zI, (∀ c, c ≠ tn + 12 → σ' c = σ c) → (cT_P σ' tn a (PEc a PE m q) ∧ ∀ p, 0 ≤ p → p < a 4 → σ' (tn + 12) (p * 9 + 8) = σ (tn + 12) (p * 9 + 8)) → wi (d + 1) 120 2 [.ref tn, .int (wI m), .int (wI q)] [] S σ' τ Q := by
    refine lp_up (fun q q0 q1 ih => ?_)
    intro σ' f cp
    refine u_120_2 htn ?_
    rw [cp.1.1]
    have v4 : q < a 4 → rt_ (a 4) (σ' (tn + 12)) 9 4 q = a (3652 + 12 * q + 4) := fun hq => by
      rw [rt_p ⟨q0, hq⟩]
      have := cp.1.2 q 4 q0 hq (by omega) (by omega)
      unfold PEc at this
      rw [if_neg (by omega)] at this
      rw [← p3 q q0 hq]
      exact this
    refine ⟨by omega, ifI (fun e => ?_) (fun e => ⟨p1, ?_⟩)⟩
    · have e : q = a 4 := by omega
      subst e
      refine t σ' f ?_ cp.2
      refine ⟨cp.1.1, fun p c r0 r1 c0 c1 => ?_⟩
      rw [cp.1.2 p c r0 r1 c0 c1]
      unfold PEc PEd
      by_cases x : c = 7 ∧ a (3652 + 12 * p + 4) = m
      · rw [if_pos ⟨x.1, r1, x.2⟩, if_pos x]
      · rw [if_neg (fun z => x ⟨z.1, z.2.2⟩), if_neg x]
    · rw [v4 (by omega)]
      refine ifI (fun e2 => ⟨by omega, ih (by omega) _ (fun c hc => by rw [uc_n hc]; exact f c hc) ⟨?_, fun p r0 r1 => ?_⟩⟩) (fun e2 => ih (by omega) σ' f ⟨?_, cp.2⟩)
      · have u := up_P (v := 0) (p := q) (c := 7) ⟨q0, by omega⟩ (by omega) cp.1
        refine ⟨u.1, fun p c r0 r1 c0 c1 => ?_⟩
        rw [u.2 p c r0 r1 c0 c1]
        unfold t2 PEc
        by_cases x : p = q ∧ c = 7
        · obtain ⟨rfl, rfl⟩ := x
          rw [if_pos ⟨rfl, rfl⟩, if_pos ⟨rfl, by omega, e2⟩]
        · rw [if_neg x]
          by_cases y : c = 7 ∧ p < q ∧ a (3652 + 12 * p + 4) = m
          · rw [if_pos y, if_pos ⟨y.1, by omega, y.2.2⟩]
          · rw [if_neg y, if_neg (fun z => y ⟨z.1, by omega, z.2.2⟩)]
      · rw [uc_s, u1_n (by omega)]; exact cp.2 p r0 r1
      · refine ⟨cp.1.1, fun p c r0 r1 c0 c1 => ?_⟩
        rw [cp.1.2 p c r0 r1 c0 c1]
        unfold PEc
        by_cases y : c = 7 ∧ p < q ∧ a (3652 + 12 * p + 4) = m
        · rw [if_pos y, if_pos ⟨y.1, by omega, y.2.2⟩]
        · rw [if_neg y, if_neg (fun z => y ⟨z.1, by
            by_cases ex : p = q
            · rw [ex] at z; exact absurd z.2.2 e2
            · omega, z.2.2⟩)]
  refine key 0 (by omega) h4 σ (fun _ _ => rfl) ⟨⟨(cs_P p0).1, fun p c r0 r1 c0 c1 => ?_⟩, fun _ _ _ => rfl⟩
  rw [(cs_P p0).2 p c r0 r1 c0 c1]
  unfold PEc
  rw [if_neg (by omega)]
-- method 121: MillTown$Week.canMake(LMillTown$Town;II)I
theorem c_121_0 : pg_cd 121 0 = (1, 1, 0, 0, 0) := by decide +kernel
theorem c_121_1 : pg_cd 121 1 = (6, 2, 0, 4, 0) := by decide +kernel
theorem c_121_3 : pg_cd 121 3 = (1, 1, 0, 0, 0) := by decide +kernel
theorem c_121_4 : pg_cd 121 4 = (6, 2, 0, 5, 0) := by decide +kernel
theorem c_121_6 : pg_cd 121 6 = (3, 2, 0, 5, 0) := by decide +kernel
theorem c_121_8 : pg_cd 121 8 = (5, 1, 0, 1, 0) := by decide +kernel
theorem c_121_9 : pg_cd 121 9 = (45, 8, 143, 5, 0) := by decide +kernel
theorem c_121_12 : pg_cd 121 12 = (43, 4, 121, 2, 0) := by decide +kernel
theorem c_121_15 : pg_cd 121 15 = (37, 3, 0, 3, 58) := by decide +kernel
theorem c_121_18 : pg_cd 121 18 = (3, 2, 0, 5, 0) := by decide +kernel
theorem c_121_20 : pg_cd 121 20 = (1, 2, 0, 0, 60) := by decide +kernel
theorem c_121_22 : pg_cd 121 22 = (37, 3, 0, 3, 51) := by decide +kernel
theorem c_121_25 : pg_cd 121 25 = (5, 1, 0, 1, 0) := by decide +kernel
theorem c_121_26 : pg_cd 121 26 = (45, 8, 143, 5, 0) := by decide +kernel
theorem c_121_29 : pg_cd 121 29 = (3, 2, 0, 5, 0) := by decide +kernel
theorem c_121_31 : pg_cd 121 31 = (1, 1, 0, 0, 4) := by decide +kernel
theorem c_121_32 : pg_cd 121 32 = (80, 55, 118, 0, 0) := by decide +kernel
theorem c_121_35 : pg_cd 121 35 = (3, 1, 0, 2, 0) := by decide +kernel
theorem c_121_36 : pg_cd 121 36 = (37, 3, 0, 1, 31) := by decide +kernel
theorem c_121_39 : pg_cd 121 39 = (5, 1, 0, 1, 0) := by decide +kernel
theorem c_121_40 : pg_cd 121 40 = (3, 2, 0, 5, 0) := by decide +kernel
theorem c_121_42 : pg_cd 121 42 = (80, 97, 193, 0, 0) := by decide +kernel
theorem c_121_45 : pg_cd 121 45 = (36, 3, 0, 0, 22) := by decide +kernel
theorem c_121_48 : pg_cd 121 48 = (3, 2, 0, 4, 0) := by decide +kernel
theorem c_121_50 : pg_cd 121 50 = (5, 1, 0, 1, 0) := by decide +kernel
theorem c_121_51 : pg_cd 121 51 = (3, 2, 0, 5, 0) := by decide +kernel
theorem c_121_53 : pg_cd 121 53 = (5, 1, 0, 0, 0) := by decide +kernel
theorem c_121_54 : pg_cd 121 54 = (45, 9, 25, 2, 0) := by decide +kernel
theorem c_121_57 : pg_cd 121 57 = (3, 2, 0, 5, 0) := by decide +kernel
theorem c_121_59 : pg_cd 121 59 = (50, 1, 0, 0, 0) := by decide +kernel
theorem c_121_60 : pg_cd 121 60 = (3, 1, 0, 3, 0) := by decide +kernel
theorem c_121_61 : pg_cd 121 61 = (80, 106, 197, 0, 0) := by decide +kernel
theorem c_121_64 : pg_cd 121 64 = (10, 1, 0, 0, 0) := by decide +kernel
theorem c_121_65 : pg_cd 121 65 = (6, 2, 0, 4, 0) := by decide +kernel
theorem c_121_67 : pg_cd 121 67 = (9, 3, 0, 5, 1) := by decide +kernel
theorem c_121_70 : pg_cd 121 70 = (38, 3, 0, 0, (-64)) := by decide +kernel
theorem c_121_73 : pg_cd 121 73 = (3, 2, 0, 4, 0) := by decide +kernel
theorem c_121_75 : pg_cd 121 75 = (90, 0, 0, 0, 0) := by decide +kernel
theorem mi_121 : pg_mc 121 = 9 ∧ pg_na 121 = 3 ∧ pg_mx 121 = 6 := by decide +kernel
set_option maxRecDepth 20000 in
theorem u_121_0 {d : Nat} {S : zS} {σ τ : zI} {Q : zQ} {x1 : Nat} {x2 : Int} {x3 : Int} (hx1 : tw x1) (t : wi (d + 3) 121 6 [.ref 53, .ref x1, .int (wI x2), .int (wI x3), .int (wI 0), .int (wI 0)] [] S σ τ Q) : wi (d + 3) 121 0 [.ref 53, .ref x1, .int (wI x2), .int (wI x3), .retAddr 0, .retAddr 0] [] S σ τ Q := by
  refine i1 c_121_0 (i6 (L' := [.ref 53, .ref x1, .int (wI x2), .int (wI x3), .int (wI 0), .retAddr 0]) c_121_1 rfl (i1 c_121_3 (i6 (L' := [.ref 53, .ref x1, .int (wI x2), .int (wI x3), .int (wI 0), .int (wI 0)]) c_121_4 rfl t)))
set_option maxRecDepth 20000 in
theorem u_121_6 {d : Nat} {S : zS} {σ τ : zI} {Q : zQ} {x1 : Nat} {x2 : Int} {x3 : Int} {x4 : Int} {x5 : Int} (hx1 : tw x1) (t : (rg x5) ∧ if (σ (x1 + 11) 2) ≤ x5 then (Q (some (.int (wI x4))) S σ τ) else (if (60 : Int) ≤ x5 then (Q (some (.int (wI x4))) S σ τ) else ((rg x2) ∧ if (rt_ (σ (x1 + 11) 2) (σ (x1 + 12)) 9 4 x5) = x2 then (if rt_ (σ (x1 + 11) 2) (σ (x1 + 12)) 9 3 x5 = 1 ∨ rt_ (σ (x1 + 11) 2) (σ (x1 + 12)) 9 3 x5 = 2 then ((0 ≤ x5 ∧ x5 < 60) ∧ ∃ a9 : Int → Int, ∃ PE10 : Int → Int → Int, ∃ MI11 : Int → Int → Int, ∃ TK12 : Int → Int, ∃ OD13 : Int → Int → Int, (CS σ x1 a9 PE10 MI11 TK12 OD13) ∧ (jv_K a9) ∧ (sP a9 PE10) ∧ (sM a9 MI11) ∧ (0 ≤ x5 ∧ x5 < a9 4 ∧ a9 4 ≤ 60) ∧ (0 ≤ a9 (3652 + 12 * x5 + 4) ∧ a9 (3652 + 12 * x5 + 4) < a9 1 ∧ a9 1 ≤ 8) ∧ (0 ≤ x3 ∧ x3 ≤ (5 : Int)) ∧ (rg (PE10 x5 7 + r_pts a9 x5 (σ 60 x5))) ∧ ∀ (v22 : Int), v22 = (PE10 x5 7 + r_pts a9 x5 (σ 60 x5)).tdiv (r_cost a9 x3) → wi (d + 3) 121 6 [.ref 53, .ref x1, .int (wI x2), .int (wI x3), .int (wI (x4 + v22)), .int (wI (x5 + 1))] [] S σ τ Q) else (wi (d + 3) 121 6 [.ref 53, .ref x1, .int (wI x2), .int (wI x3), .int (wI x4), .int (wI (x5 + 1))] [] S σ τ Q)) else (wi (d + 3) 121 6 [.ref 53, .ref x1, .int (wI x2), .int (wI x3), .int (wI x4), .int (wI (x5 + 1))] [] S σ τ Q)))) : wi (d + 3) 121 6 [.ref 53, .ref x1, .int (wI x2), .int (wI x3), .int (wI x4), .int (wI x5)] [] S σ τ Q := by
  refine i3 c_121_6 rfl (i5 c_121_8 rfl (i45 c_121_9 (lo (lyt_0 hx1) (by have := tw_b hx1; omega)) (lro (lrt_5 hx1)) (wi_ok (fun K1 => ?_))))
  obtain ⟨r2, t⟩ := t
  refine i43 (v := σ (x1 + 11) 2) c_121_12 (lo (lyt_11 hx1) (by have := tw_b hx1; omega)) rfl ?_
  refine i37 c_121_15 r2 (rge_ K1 rfl) rfl (fun hc => ?_) (fun hc => ?_)
  · have t := iT t hc
    have ha3 : (σ (x1 + 11) 2) ≤ x5 := hc
    refine i3 c_121_73 rfl ?_
    exact i90 c_121_75 t
  · have t := iF t hc
    have ha3 : ¬ ((σ (x1 + 11) 2) ≤ x5) := hc
    refine i3 c_121_18 rfl (i1 c_121_20 ?_)
    refine i37 c_121_22 r2 (by decide) rfl (fun hc => ?_) (fun hc => ?_)
    · have t := iT t hc
      have ha4 : (60 : Int) ≤ x5 := hc
      refine i3 c_121_73 rfl ?_
      exact i90 c_121_75 t
    · have t := iF t hc
      have ha4 : ¬ ((60 : Int) ≤ x5) := hc
      refine i5 c_121_25 rfl (i45 c_121_26 (lo (lyt_0 hx1) (by have := tw_b hx1; omega)) (lro (lrt_5 hx1)) (i3 c_121_29 rfl (i1 c_121_31 ?_)))
      refine i80 (As := [.int (wI x5), .int (wI 4)]) (rest := []) c_121_32 mi_55 rfl rfl (Nat.le_of_ble_eq_true rfl) (Nat.le_of_ble_eq_true rfl) (lo (lyt_11 hx1) (by have := tw_b hx1; omega)) (q_at (ow_persons hx1) r2 (by decide) ?_)
      show wi (d + 3) 121 35 [.ref 53, .ref x1, .int (wI x2), .int (wI x3), .int (wI x4), .int (wI x5)] [.int (wI (rt_ (σ (x1 + 11) 2) (σ (x1 + 12)) 9 4 x5))] S σ τ Q
      obtain ⟨r5, t⟩ := t
      refine i3 c_121_35 rfl ?_
      refine i37 c_121_36 (rg_rt_ (fun k => kO_r K1 _ k) _ _ _ _) r5 rfl (fun hc => ?_) (fun hc => ?_)
      · have t := iF t hc
        have ha6 : ¬ ((rt_ (σ (x1 + 11) 2) (σ (x1 + 12)) 9 4 x5) = x2) := hc
        refine i9 (L' := [.ref 53, .ref x1, .int (wI x2), .int (wI x3), .int (wI x4), .int (wI (x5 + 1))]) c_121_67 rfl rfl (i38 c_121_70 rfl t)
      · have t := iT t (Decidable.not_not.mp hc)
        have ha6 : (rt_ (σ (x1 + 11) 2) (σ (x1 + 12)) 9 4 x5) = x2 := Decidable.not_not.mp hc
        refine i5 c_121_39 rfl (i3 c_121_40 rfl ?_)
        refine i80 (As := [.int (wI x5)]) (rest := []) c_121_42 mi_97 rfl rfl (Nat.le_of_ble_eq_true rfl) (Nat.le_of_ble_eq_true rfl) (lo (lyt_0 hx1) (by have := tw_b hx1; omega)) (q_97 hx1 r2 ?_)
        show wi (d + 3) 121 45 [.ref 53, .ref x1, .int (wI x2), .int (wI x3), .int (wI x4), .int (wI x5)] [.int (wI (if rt_ (σ (x1 + 11) 2) (σ (x1 + 12)) 9 3 x5 = 1 ∨ rt_ (σ (x1 + 11) 2) (σ (x1 + 12)) 9 3 x5 = 2 then 1 else 0))] S σ τ Q
        refine i36e c_121_45 rfl (fun hc => ?_) (fun hc => ?_)
        · have t := iT t hc
          have ha7 : rt_ (σ (x1 + 11) 2) (σ (x1 + 12)) 9 3 x5 = 1 ∨ rt_ (σ (x1 + 11) 2) (σ (x1 + 12)) 9 3 x5 = 2 := hc
          obtain ⟨r8, t⟩ := t
          obtain ⟨a9, t⟩ := t
          obtain ⟨PE10, t⟩ := t
          obtain ⟨MI11, t⟩ := t
          obtain ⟨TK12, t⟩ := t
          obtain ⟨OD13, t⟩ := t
          obtain ⟨p14, t⟩ := t
          obtain ⟨p15, t⟩ := t
          obtain ⟨p16, t⟩ := t
          obtain ⟨p17, t⟩ := t
          obtain ⟨p18, t⟩ := t
          obtain ⟨p19, t⟩ := t
          obtain ⟨p20, t⟩ := t
          obtain ⟨p21, t⟩ := t
          refine i3 c_121_48 rfl (i5 c_121_50 rfl (i3 c_121_51 rfl (i5 c_121_53 rfl (i45 c_121_54 (lo (c := 53) (kd := 109) (n := 0) rfl (by decide)) (lro (c := 53) (k := 2) (j := 60) (by decide)) (i3 c_121_57 rfl (i50 (v := σ 60 x5) c_121_59 (lo (c := 60) (kd := 0) (n := 60) rfl (by decide)) (by decide) r8 rfl (i3 c_121_60 rfl ?_)))))))
          refine i80 (As := [.int (wI x5), .int (wI (σ 60 x5)), .int (wI x3)]) (rest := [.int (wI x4)]) c_121_61 mi_106 rfl rfl (Nat.le_of_ble_eq_true rfl) (Nat.le_of_ble_eq_true rfl) (lo (lyt_0 hx1) (by have := tw_b hx1; omega)) (q_106c (a := a9) (PE := PE10) (MI := MI11) (TK := TK12) (OD := OD13) hx1 p14 p15 p16 p17 p18 p19 p20 p21 (fun v22 q23 => ?_))
          have t := t v22 q23
          show wi (d + 3) 121 64 [.ref 53, .ref x1, .int (wI x2), .int (wI x3), .int (wI x4), .int (wI x5)] [.int (wI v22), .int (wI x4)] S σ τ Q
          refine i10 c_121_64 (i6 (L' := [.ref 53, .ref x1, .int (wI x2), .int (wI x3), .int (wI (x4 + v22)), .int (wI x5)]) c_121_65 rfl (i9 (L' := [.ref 53, .ref x1, .int (wI x2), .int (wI x3), .int (wI (x4 + v22)), .int (wI (x5 + 1))]) c_121_67 rfl rfl (i38 c_121_70 rfl t)))
        · have t := iF t hc
          have ha7 : ¬ (rt_ (σ (x1 + 11) 2) (σ (x1 + 12)) 9 3 x5 = 1 ∨ rt_ (σ (x1 + 11) 2) (σ (x1 + 12)) 9 3 x5 = 2) := hc
          refine i9 (L' := [.ref 53, .ref x1, .int (wI x2), .int (wI x3), .int (wI x4), .int (wI (x5 + 1))]) c_121_67 rfl rfl (i38 c_121_70 rfl t)
theorem q_121 {d : Nat} {S : zS} {σ τ : zI} {Q : zQ} {tn : Nat} {m : Int} {k : Int} {a : Int → Int} {PE : Int → Int → Int} {MI : Int → Int → Int} {TK : Int → Int} {OD : Int → Int → Int} {tk : Int → Int} (htn : tw tn) (p0 : CS σ tn a PE MI TK OD) (p1 : Jv a) (p2 : jv_T a) (p3 : sP a PE) (p4 : sM a MI) (p5 : 0 ≤ m ∧ m < a 1) (p6 : k = wk_kd a tk m ∧ (0 ≤ k ∧ k ≤ 5)) (p7 : (∀ p, 0 ≤ p → p < a 4 → wk_wv a m p → PE p 7 = wk_r0 a tk m p)) (p8 : (∀ p, 0 ≤ p → p < a 4 → σ 60 p = wk_h a p)) (t : ∀ (v : Int), v = wk_can a tk m → 0 ≤ v ∧ v ≤ 35640 → Q (some (.int (wI v))) S σ τ) : wc (d + 3) 121 [.ref 53, .ref tn, .int (wI m), .int (wI k)] S σ τ Q := by
  have hC := jC p1
  unfold jv_C at hC
  obtain ⟨rfl, kb⟩ := p6
  have cp := (cs_P p0).1
  refine wc_of mi_121 rfl (u_121_0 htn ?_)
  have key : ∀ p, 0 ≤ p → p ≤ a 4 → wi (d + 3) 121 6 [.ref 53, .ref tn, .int (wI m), .int (wI (wk_kd a tk m)), .int (wI (sI (wk_c1 a tk m) p)), .int (wI p)] [] S σ τ Q := by
    refine lp_up (fun p q0 q1 ih => ?_)
    have cb := wk_can_b p1 p2 p5.1 ⟨q0, q1⟩ kb
    refine u_121_6 htn ?_
    rw [cp]
    refine ⟨by omega, ifI (fun e => ?_) (fun e => ifI (fun e2 => by omega) (fun e2 => ⟨by omega, ?_⟩))⟩
    · have e : p = a 4 := by omega
      rw [e] at cb ⊢
      exact t _ rfl cb
    · have ih := ih (by omega)
      rw [sI_s q0] at ih
      have hP := jP p1 p q0 (by omega)
      have v : ∀ k, 0 ≤ k → k ≤ 6 → rt_ (a 4) (σ (tn + 12)) 9 k p = a (3652 + 12 * p + k) := fun k k0 k1 => by
        have := vp p0 (p := p) (k := k) ⟨q0, by omega⟩ (by omega)
        rw [cp] at this
        rw [this]
        exact p3 p k (by omega) (by omega) k0 (by omega) (by omega) (by omega)
      rw [v 4 (by omega) (by omega), v 3 (by omega) (by omega)]
      have no : ¬ wk_wv a m p → wi (d + 3) 121 6 [.ref 53, .ref tn, .int (wI m), .int (wI (wk_kd a tk m)), .int (wI (sI (wk_c1 a tk m) p)), .int (wI (p + 1))] [] S σ τ Q := fun hn => by
        have ec : wk_c1 a tk m p = 0 := if_neg hn
        rw [ec, Int.add_zero] at ih
        exact ih
      refine ifI (fun e3 => ifI (fun e4 => ?_) (fun e4 => no (fun q => by have := q.2; omega))) (fun e3 => no (fun q => e3 q.1))
      have hw : wk_wv a m p := ⟨e3, by omega⟩
      have w7 := p7 p q0 (by omega) hw
      have rb := wk_r0_b (tk := tk) (m := m) p1 ⟨q0, by omega⟩
      have pb := wk_pt_b p1 ⟨q0, by omega⟩ p5.1 hw (wk_h_b (Jl_of p1) p2 p)
      have ec : wk_c1 a tk m p = (wk_r0 a tk m p + r_pts a p (wk_h a p)).tdiv (r_cost a (wk_kd a tk m)) := if_pos hw
      rw [ec] at ih
      rw [p8 p q0 (by omega)]
      refine ⟨by omega, a, PE, MI, TK, OD, p0, jK p1, p3, p4, by omega, by omega, kb, by rw [w7]; omega, fun v hv => ?_⟩
      rw [w7] at hv
      rw [hv]
      exact ih
  exact key 0 (by omega) (by omega)
theorem q_90c {d : Nat} {S : zS} {σ τ : zI} {Q : zQ} {tn : Nat} {what : Int} {week : Int} {a : Int → Int} (htn : tw tn) (p0 : rT_W σ tn a) (p1 : ((0 : Int) ≤ what ∧ what ≤ (7 : Int)) ∧ -1 ≤ week ∧ week ≤ 399) (t : Q (some (.int (wI (r_pr a what week)))) S σ τ) : wc (d + 1) 90 [.ref tn, .int (wI what), .int (wI week)] S σ τ Q := by
  have hc := p0.1
  have hw := p0.2 what p1.1.1 p1.1.2
  have em : rt_ (σ (tn + 3) 2) (σ (tn + 4)) 401 400 what = a (70 + what) := by
    rw [rt_p ⟨p1.1.1, by omega⟩]; exact hw.2
  refine wc_of mi_90 rfl (u_90_0 htn ?_)
  have key : ∀ w, -1 ≤ w → w ≤ 399 → Q (some (.int (wI (r_pr a what w)))) S σ τ → ∀ x : Value, wi (d + 1) 90 2 [.ref tn, .int (wI what), .int (wI week), .int (wI w), x] [] S σ τ Q := by
    refine lp_dn (fun w hw2 ih => ?_)
    intro h1 t x
    refine u_90_2 htn ⟨by omega, ?_⟩
    rw [em]
    by_cases c : w < 0
    · have : w = -1 := by omega
      subst this
      rw [r_pr_m] at t
      rw [if_pos (by omega)]
      exact ⟨by omega, t⟩
    · have ev : ra_ (σ (tn + 3) 2) (σ (tn + 4)) 401 what w = a (100 + 400 * what + w) := by
        unfold ra_
        rw [if_pos ⟨⟨p1.1.1, by omega⟩, by omega, by omega⟩]
        exact hw.1 w (by omega) h1
      rw [r_pr_s (by omega)] at t
      rw [if_neg c, ev]
      refine ⟨by omega, ?_⟩
      by_cases c0 : a (100 + 400 * what + w) = 0
      · rw [if_neg (by omega), if_pos c0] at t
        rw [if_pos c0]
        exact t
      · rw [if_neg c0]
        by_cases c1 : a (100 + 400 * what + w) = -1
        · rw [if_pos c1] at t
          rw [if_pos c1]
          exact ih (by omega) (by omega) t _
        · rw [if_neg c1, if_neg c0] at t
          rw [if_neg c1]
          exact t
  exact key week p1.2.1 p1.2.2 t _
