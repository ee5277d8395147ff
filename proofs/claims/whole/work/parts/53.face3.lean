/-! ===== the class: the tape, images, persons and work (segments printed by wip/whole, contracts own work) ===== -/
theorem zush_255 {v s : Int} (hs : s = 24 ∨ s = 16 ∨ s = 8 ∨ s = 0) : zand (zush v s) 255 = zand (zshr v s) 255 := by
  unfold zand zush zshr
  rw [wI_toInt, wI_toInt]
  congr 1
  generalize wI v = x
  have k : ∀ s : Nat, s ≤ 24 → ((x.toUInt32 >>> ((nI s).toUInt32 &&& Int32.toUInt32 31)).toInt32 &&& 255) = (x >>> (nI s &&& 31)) &&& 255 := by
    intro s h
    apply b_ext
    intro i hi
    rw [b_and, b_and, b_ushr s (by omega), b_sshr s (by omega) x hi, b_255]
    by_cases c : i < 8
    · rw [if_pos (by omega)]
    · simp [c]
  rcases hs with rfl | rfl | rfl | rfl
  · exact k 24 (by omega)
  · exact k 16 (by omega)
  · exact k 8 (by omega)
  · exact k 0 (by omega)
-- method 157: MillTown.feedFour(I)V
theorem c_157_0 : pg_cd 157 0 = (1, 2, 0, 0, 24) := by decide +kernel
theorem c_157_2 : pg_cd 157 2 = (6, 1, 0, 2, 0) := by decide +kernel
theorem c_157_3 : pg_cd 157 3 = (3, 1, 0, 2, 0) := by decide +kernel
theorem c_157_4 : pg_cd 157 4 = (36, 3, 0, 2, 45) := by decide +kernel
theorem c_157_7 : pg_cd 157 7 = (5, 1, 0, 0, 0) := by decide +kernel
theorem c_157_8 : pg_cd 157 8 = (43, 11, 164, 11, 0) := by decide +kernel
theorem c_157_11 : pg_cd 157 11 = (1, 3, 0, 0, 300) := by decide +kernel
theorem c_157_14 : pg_cd 157 14 = (37, 3, 0, 3, 35) := by decide +kernel
theorem c_157_17 : pg_cd 157 17 = (5, 1, 0, 0, 0) := by decide +kernel
theorem c_157_18 : pg_cd 157 18 = (45, 11, 67, 10, 0) := by decide +kernel
theorem c_157_21 : pg_cd 157 21 = (5, 1, 0, 0, 0) := by decide +kernel
theorem c_157_22 : pg_cd 157 22 = (43, 11, 164, 11, 0) := by decide +kernel
theorem c_157_25 : pg_cd 157 25 = (3, 1, 0, 1, 0) := by decide +kernel
theorem c_157_26 : pg_cd 157 26 = (3, 1, 0, 2, 0) := by decide +kernel
theorem c_157_27 : pg_cd 157 27 = (20, 1, 0, 0, 0) := by decide +kernel
theorem c_157_28 : pg_cd 157 28 = (1, 3, 0, 0, 255) := by decide +kernel
theorem c_157_31 : pg_cd 157 31 = (13, 1, 0, 0, 0) := by decide +kernel
theorem c_157_32 : pg_cd 157 32 = (54, 1, 0, 0, 0) := by decide +kernel
theorem c_157_33 : pg_cd 157 33 = (5, 1, 0, 0, 0) := by decide +kernel
theorem c_157_34 : pg_cd 157 34 = (33, 1, 0, 0, 0) := by decide +kernel
theorem c_157_35 : pg_cd 157 35 = (43, 11, 164, 11, 0) := by decide +kernel
theorem c_157_38 : pg_cd 157 38 = (1, 1, 0, 0, 1) := by decide +kernel
theorem c_157_39 : pg_cd 157 39 = (10, 1, 0, 0, 0) := by decide +kernel
theorem c_157_40 : pg_cd 157 40 = (46, 11, 164, 11, 0) := by decide +kernel
theorem c_157_43 : pg_cd 157 43 = (9, 3, 0, 2, (-8)) := by decide +kernel
theorem c_157_46 : pg_cd 157 46 = (38, 3, 0, 0, (-43)) := by decide +kernel
theorem c_157_49 : pg_cd 157 49 = (94, 0, 0, 0, 0) := by decide +kernel
theorem mi_157 : pg_mc 157 = 11 ∧ pg_na 157 = 1 ∧ pg_mx 157 = 3 := by decide +kernel
set_option maxRecDepth 20000 in
theorem u_157_0 {d : Nat} {S : zS} {σ τ : zI} {Q : zQ} {x1 : Int} (t : wi (d + 0) 157 3 [.ref 1, .int (wI x1), .int (wI 24)] [] S σ τ Q) : wi (d + 0) 157 0 [.ref 1, .int (wI x1), .retAddr 0] [] S σ τ Q := by
  refine i1 c_157_0 (i6 (L' := [.ref 1, .int (wI x1), .int (wI 24)]) c_157_2 rfl t)
set_option maxRecDepth 20000 in
theorem u_157_3 {d : Nat} {S : zS} {σ τ : zI} {Q : zQ} {x1 : Int} {x2 : Int} (t : (rg x2) ∧ if x2 < 0 then (Q none S σ τ) else (if (300 : Int) ≤ (σ 1 11) then (Q none S σ τ) else ((0 ≤ σ 1 11 ∧ σ 1 11 < 300) ∧ ∃ w7 : Int, wI w7 = wI ((σ 1 11) + 1) ∧ rg w7 ∧ wi (d + 0) 157 3 [.ref 1, .int (wI x1), .int (wI (x2 + (-8)))] [] S (uc (uc σ 82 (u1 (σ 82) (σ 1 11) (zand (zush x1 x2) 255))) 1 (u1 (σ 1) 11 w7)) τ Q))) : wi (d + 0) 157 3 [.ref 1, .int (wI x1), .int (wI x2)] [] S σ τ Q := by
  obtain ⟨r1, t⟩ := t
  refine i3 c_157_3 rfl ?_
  refine i36 c_157_4 r1 rfl (fun hc => ?_) (fun hc => ?_)
  · have t := iT t hc
    have ha2 : x2 < 0 := hc
    exact i94 c_157_49 t
  · have t := iF t hc
    have ha2 : ¬ (x2 < 0) := hc
    refine i5 c_157_7 rfl (wi_ok (fun K3 => ?_))
    refine i43 (v := σ 1 11) c_157_8 (lo (c := 1) (kd := 111) (n := 0) rfl (by decide)) rfl (i1 c_157_11 ?_)
    refine i37 c_157_14 (rge_ K3 rfl) (by decide) rfl (fun hc => ?_) (fun hc => ?_)
    · have t := iT t hc
      have ha4 : (300 : Int) ≤ (σ 1 11) := hc
      exact i94 c_157_49 t
    · have t := iF t hc
      have ha4 : ¬ ((300 : Int) ≤ (σ 1 11)) := hc
      obtain ⟨r5, t⟩ := t
      refine i5 c_157_17 rfl (i45 c_157_18 (lo (c := 1) (kd := 111) (n := 0) rfl (by decide)) (lro (c := 1) (k := 10) (j := 82) (by decide)) (i5 c_157_21 rfl (i43 (v := σ 1 11) c_157_22 (lo (c := 1) (kd := 111) (n := 0) rfl (by decide)) rfl (i3 c_157_25 rfl (i3 c_157_26 rfl (i20 c_157_27 (i1 c_157_28 (i13 c_157_31 (i54 (σ1 := uc σ 82 (u1 (σ 82) (σ 1 11) (zand (zush x1 x2) 255))) c_157_32 (lo (c := 82) (kd := 0) (n := 300) rfl (by decide)) (by decide) r5 (by decide) rfl (rg_toInt _) (wr_ rfl rfl) (i5 c_157_33 rfl (i33a c_157_34 (wi_ok (fun K6 => ?_)))))))))))))
      obtain ⟨w7, e8, r9, t⟩ := t
      refine i43 (v := σ 1 11) c_157_35 (lo (c := 1) (kd := 111) (n := 0) rfl (by decide)) (congrFun (uc_ns rfl (by decide)) _) (i1 c_157_38 (i10 c_157_39 (i46 (σ1 := uc (uc σ 82 (u1 (σ 82) (σ 1 11) (zand (zush x1 x2) 255))) 1 (u1 (σ 1) 11 w7)) c_157_40 (lo (c := 1) (kd := 111) (n := 0) rfl (by decide)) (by decide) e8 r9 (wr_ (uc_ns rfl (by decide)) rfl) (i9 (L' := [.ref 1, .int (wI x1), .int (wI (x2 + (-8)))]) c_157_43 rfl rfl (i38 c_157_46 rfl t)))))
theorem q_157 {d : Nat} {S : zS} {σ τ : zI} {Q : zQ} {v : Int} (p0 : rg v) (p1 : 0 ≤ σ 1 11 ∧ σ 1 11 ≤ 296) (t : ∀ (σ1 : zI), σ1 82 = r_four (σ 82) (σ 1 11) v → σ1 1 = u1 (σ 1) 11 (σ 1 11 + 4) → (∀ c, c ≠ 1 → c ≠ 82 → σ1 c = σ c) → Q none S σ1 τ) : wc (d + 0) 157 [.ref 1, .int (wI v)] S σ τ Q := by
  unfold r_four at t
  rw [← zush_255 (by simp), ← zush_255 (by simp), ← zush_255 (by simp), ← zush_255 (by simp)] at t
  refine wc_of mi_157 rfl (u_157_0 ?_)
  refine u_157_3 ?_
  refine ⟨by omega, ?_⟩
  rw [if_neg (by omega), if_neg (by omega)]
  refine ⟨by omega, _, rfl, by omega, ?_⟩
  refine u_157_3 ?_
  simp only [uc_s, uc_n (show (1 : Nat) ≠ 82 by decide), uc_n (show (82 : Nat) ≠ 1 by decide), u1_s, u1_u1, Int.reduceAdd, Int.reduceNeg]
  refine ⟨by omega, ?_⟩
  rw [if_neg (by omega), if_neg (by omega)]
  refine ⟨by omega, _, rfl, by omega, ?_⟩
  rw [uc4 (by decide)]
  refine u_157_3 ?_
  simp only [uc_s, uc_n (show (1 : Nat) ≠ 82 by decide), uc_n (show (82 : Nat) ≠ 1 by decide), u1_s, u1_u1, Int.reduceAdd, Int.reduceNeg]
  refine ⟨by omega, ?_⟩
  rw [if_neg (by omega), if_neg (by omega)]
  refine ⟨by omega, _, rfl, by omega, ?_⟩
  rw [uc4 (by decide)]
  refine u_157_3 ?_
  simp only [uc_s, uc_n (show (1 : Nat) ≠ 82 by decide), uc_n (show (82 : Nat) ≠ 1 by decide), u1_s, u1_u1, Int.reduceAdd, Int.reduceNeg]
  refine ⟨by omega, ?_⟩
  rw [if_neg (by omega), if_neg (by omega)]
  refine ⟨by omega, _, rfl, by omega, ?_⟩
  rw [uc4 (by decide)]
  refine u_157_3 ?_
  refine ⟨by omega, ?_⟩
  rw [if_pos (by omega)]
  refine t _ ?_ ?_ ?_
  · simp only [uc_s, uc_n (show (82 : Nat) ≠ 1 by decide)]
  · rw [uc_s]
    rw [show σ 1 11 + 4 = σ 1 11 + 1 + 1 + 1 + 1 by omega]
  · intro c h1 h2
    rw [uc_n h1, uc_n h2]
-- method 156: MillTown.feed(IIIII)I
theorem c_156_0 : pg_cd 156 0 = (5, 1, 0, 0, 0) := by decide +kernel
theorem c_156_1 : pg_cd 156 1 = (43, 11, 164, 11, 0) := by decide +kernel
theorem c_156_4 : pg_cd 156 4 = (1, 2, 0, 0, 20) := by decide +kernel
theorem c_156_6 : pg_cd 156 6 = (10, 1, 0, 0, 0) := by decide +kernel
theorem c_156_7 : pg_cd 156 7 = (1, 3, 0, 0, 300) := by decide +kernel
theorem c_156_10 : pg_cd 156 10 = (37, 3, 0, 5, 5) := by decide +kernel
theorem c_156_13 : pg_cd 156 13 = (1, 1, 0, 0, (-1)) := by decide +kernel
theorem c_156_14 : pg_cd 156 14 = (90, 0, 0, 0, 0) := by decide +kernel
theorem c_156_15 : pg_cd 156 15 = (5, 1, 0, 0, 0) := by decide +kernel
theorem c_156_16 : pg_cd 156 16 = (3, 1, 0, 1, 0) := by decide +kernel
theorem c_156_17 : pg_cd 156 17 = (80, 157, 167, 0, 0) := by decide +kernel
theorem c_156_20 : pg_cd 156 20 = (5, 1, 0, 0, 0) := by decide +kernel
theorem c_156_21 : pg_cd 156 21 = (3, 1, 0, 2, 0) := by decide +kernel
theorem c_156_22 : pg_cd 156 22 = (80, 157, 167, 0, 0) := by decide +kernel
theorem c_156_25 : pg_cd 156 25 = (5, 1, 0, 0, 0) := by decide +kernel
theorem c_156_26 : pg_cd 156 26 = (3, 1, 0, 3, 0) := by decide +kernel
theorem c_156_27 : pg_cd 156 27 = (80, 157, 167, 0, 0) := by decide +kernel
theorem c_156_30 : pg_cd 156 30 = (5, 1, 0, 0, 0) := by decide +kernel
theorem c_156_31 : pg_cd 156 31 = (3, 2, 0, 4, 0) := by decide +kernel
theorem c_156_33 : pg_cd 156 33 = (80, 157, 167, 0, 0) := by decide +kernel
theorem c_156_36 : pg_cd 156 36 = (5, 1, 0, 0, 0) := by decide +kernel
theorem c_156_37 : pg_cd 156 37 = (3, 2, 0, 5, 0) := by decide +kernel
theorem c_156_39 : pg_cd 156 39 = (80, 157, 167, 0, 0) := by decide +kernel
theorem c_156_42 : pg_cd 156 42 = (5, 1, 0, 0, 0) := by decide +kernel
theorem c_156_43 : pg_cd 156 43 = (43, 11, 164, 11, 0) := by decide +kernel
theorem c_156_46 : pg_cd 156 46 = (90, 0, 0, 0, 0) := by decide +kernel
theorem mi_156 : pg_mc 156 = 11 ∧ pg_na 156 = 5 ∧ pg_mx 156 = 6 := by decide +kernel
set_option maxRecDepth 20000 in
theorem u_156_0 {d : Nat} {S : zS} {σ τ : zI} {Q : zQ} {x1 : Int} {x2 : Int} {x3 : Int} {x4 : Int} {x5 : Int} (t : (rg ((σ 1 11) + 20)) ∧ if ((σ 1 11) + 20) ≤ 300 then ((rg x1) ∧ (0 ≤ σ 1 11 ∧ σ 1 11 ≤ 296) ∧ ∀ (σ16 : zI), σ16 82 = r_four (σ 82) (σ 1 11) x1 → σ16 1 = u1 (σ 1) 11 (σ 1 11 + 4) → (∀ c, c ≠ 1 → c ≠ 82 → σ16 c = σ c) → (rg x2) ∧ (0 ≤ σ16 1 11 ∧ σ16 1 11 ≤ 296) ∧ ∀ (σ112 : zI), σ112 82 = r_four (σ16 82) (σ16 1 11) x2 → σ112 1 = u1 (σ16 1) 11 (σ16 1 11 + 4) → (∀ c, c ≠ 1 → c ≠ 82 → σ112 c = σ16 c) → (rg x3) ∧ (0 ≤ σ112 1 11 ∧ σ112 1 11 ≤ 296) ∧ ∀ (σ118 : zI), σ118 82 = r_four (σ112 82) (σ112 1 11) x3 → σ118 1 = u1 (σ112 1) 11 (σ112 1 11 + 4) → (∀ c, c ≠ 1 → c ≠ 82 → σ118 c = σ112 c) → (rg x4) ∧ (0 ≤ σ118 1 11 ∧ σ118 1 11 ≤ 296) ∧ ∀ (σ124 : zI), σ124 82 = r_four (σ118 82) (σ118 1 11) x4 → σ124 1 = u1 (σ118 1) 11 (σ118 1 11 + 4) → (∀ c, c ≠ 1 → c ≠ 82 → σ124 c = σ118 c) → (rg x5) ∧ (0 ≤ σ124 1 11 ∧ σ124 1 11 ≤ 296) ∧ ∀ (σ130 : zI), σ130 82 = r_four (σ124 82) (σ124 1 11) x5 → σ130 1 = u1 (σ124 1) 11 (σ124 1 11 + 4) → (∀ c, c ≠ 1 → c ≠ 82 → σ130 c = σ124 c) → Q (some (.int (wI (σ130 1 11)))) S σ130 τ) else (Q (some (.int (wI (-1)))) S σ τ)) : wi (d + 1) 156 0 [.ref 1, .int (wI x1), .int (wI x2), .int (wI x3), .int (wI x4), .int (wI x5)] [] S σ τ Q := by
  refine i5 c_156_0 rfl (wi_ok (fun K1 => ?_))
  obtain ⟨r2, t⟩ := t
  refine i43 (v := σ 1 11) c_156_1 (lo (c := 1) (kd := 111) (n := 0) rfl (by decide)) rfl (i1 c_156_4 (i10 c_156_6 (i1 c_156_7 ?_)))
  refine i37 c_156_10 r2 (by decide) rfl (fun hc => ?_) (fun hc => ?_)
  · have t := iT t hc
    have ha3 : ((σ 1 11) + 20) ≤ 300 := hc
    obtain ⟨r4, t⟩ := t
    obtain ⟨p5, t⟩ := t
    refine i5 c_156_15 rfl (i3 c_156_16 rfl ?_)
    refine i80 (As := [.int (wI x1)]) (rest := []) c_156_17 mi_157 rfl rfl (Nat.le_of_ble_eq_true rfl) (Nat.le_of_ble_eq_true rfl) (lo (c := 1) (kd := 111) (n := 0) rfl (by decide)) (q_157 r4 p5 (fun σ16 q7 q8 q9 => ?_))
    have t := t σ16 q7 q8 q9
    show wi (d + 1) 156 20 [.ref 1, .int (wI x1), .int (wI x2), .int (wI x3), .int (wI x4), .int (wI x5)] [] S σ16 τ Q
    obtain ⟨r10, t⟩ := t
    obtain ⟨p11, t⟩ := t
    refine i5 c_156_20 rfl (i3 c_156_21 rfl ?_)
    refine i80 (As := [.int (wI x2)]) (rest := []) c_156_22 mi_157 rfl rfl (Nat.le_of_ble_eq_true rfl) (Nat.le_of_ble_eq_true rfl) (lo (c := 1) (kd := 111) (n := 0) rfl (by decide)) (q_157 r10 p11 (fun σ112 q13 q14 q15 => ?_))
    have t := t σ112 q13 q14 q15
    show wi (d + 1) 156 25 [.ref 1, .int (wI x1), .int (wI x2), .int (wI x3), .int (wI x4), .int (wI x5)] [] S σ112 τ Q
    obtain ⟨r16, t⟩ := t
    obtain ⟨p17, t⟩ := t
    refine i5 c_156_25 rfl (i3 c_156_26 rfl ?_)
    refine i80 (As := [.int (wI x3)]) (rest := []) c_156_27 mi_157 rfl rfl (Nat.le_of_ble_eq_true rfl) (Nat.le_of_ble_eq_true rfl) (lo (c := 1) (kd := 111) (n := 0) rfl (by decide)) (q_157 r16 p17 (fun σ118 q19 q20 q21 => ?_))
    have t := t σ118 q19 q20 q21
    show wi (d + 1) 156 30 [.ref 1, .int (wI x1), .int (wI x2), .int (wI x3), .int (wI x4), .int (wI x5)] [] S σ118 τ Q
    obtain ⟨r22, t⟩ := t
    obtain ⟨p23, t⟩ := t
    refine i5 c_156_30 rfl (i3 c_156_31 rfl ?_)
    refine i80 (As := [.int (wI x4)]) (rest := []) c_156_33 mi_157 rfl rfl (Nat.le_of_ble_eq_true rfl) (Nat.le_of_ble_eq_true rfl) (lo (c := 1) (kd := 111) (n := 0) rfl (by decide)) (q_157 r22 p23 (fun σ124 q25 q26 q27 => ?_))
    have t := t σ124 q25 q26 q27
    show wi (d + 1) 156 36 [.ref 1, .int (wI x1), .int (wI x2), .int (wI x3), .int (wI x4), .int (wI x5)] [] S σ124 τ Q
    obtain ⟨r28, t⟩ := t
    obtain ⟨p29, t⟩ := t
    refine i5 c_156_36 rfl (i3 c_156_37 rfl ?_)
    refine i80 (As := [.int (wI x5)]) (rest := []) c_156_39 mi_157 rfl rfl (Nat.le_of_ble_eq_true rfl) (Nat.le_of_ble_eq_true rfl) (lo (c := 1) (kd := 111) (n := 0) rfl (by decide)) (q_157 r28 p29 (fun σ130 q31 q32 q33 => ?_))
    have t := t σ130 q31 q32 q33
    show wi (d + 1) 156 42 [.ref 1, .int (wI x1), .int (wI x2), .int (wI x3), .int (wI x4), .int (wI x5)] [] S σ130 τ Q
    refine i5 c_156_42 rfl (wi_ok (fun K34 => ?_))
    refine i43 (v := σ130 1 11) c_156_43 (lo (c := 1) (kd := 111) (n := 0) rfl (by decide)) rfl ?_
    exact i90 c_156_46 t
  · have t := iF t hc
    have ha3 : ¬ (((σ 1 11) + 20) ≤ 300) := hc
    refine i1 c_156_13 ?_
    exact i90 c_156_14 t
theorem q_156 {d : Nat} {S : zS} {σ τ : zI} {Q : zQ} {a : Int} {b : Int} {c : Int} {dd : Int} {e : Int} (p0 : rg a) (p1 : rg b) (p2 : rg c) (p3 : rg dd) (p4 : rg e) (p5 : 0 ≤ σ 1 11 ∧ σ 1 11 ≤ 300) (t : ∀ (σ1 : zI), σ1 82 = (if σ 1 11 + 20 ≤ 300 then r_feed (σ 82) (σ 1 11) a b c dd e else σ 82) → σ1 1 = (if σ 1 11 + 20 ≤ 300 then u1 (σ 1) 11 (σ 1 11 + 20) else σ 1) → (∀ c, c ≠ 1 → c ≠ 82 → σ1 c = σ c) → Q (some (.int (wI (if σ 1 11 + 20 ≤ 300 then σ 1 11 + 20 else -1)))) S σ1 τ) : wc (d + 1) 156 [.ref 1, .int (wI a), .int (wI b), .int (wI c), .int (wI dd), .int (wI e)] S σ τ Q := by
  refine wc_of mi_156 rfl (u_156_0 ⟨by omega, ?_⟩)
  by_cases hk : σ 1 11 + 20 ≤ 300
  · rw [if_pos hk]
    refine ⟨p0, by omega, ?_⟩
    intro s1 a1 b1 c1
    have e1 : s1 1 11 = σ 1 11 + 4 := by rw [b1]; exact u1_s _ _ _
    refine ⟨p1, by omega, ?_⟩
    intro s2 a2 b2 c2
    have e2 : s2 1 11 = σ 1 11 + 4 + 4 := by rw [b2, u1_s, e1]
    refine ⟨p2, by omega, ?_⟩
    intro s3 a3 b3 c3
    have e3 : s3 1 11 = σ 1 11 + 4 + 4 + 4 := by rw [b3, u1_s, e2]
    refine ⟨p3, by omega, ?_⟩
    intro s4 a4 b4 c4
    have e4 : s4 1 11 = σ 1 11 + 4 + 4 + 4 + 4 := by rw [b4, u1_s, e3]
    refine ⟨p4, by omega, ?_⟩
    intro s5 a5 b5 c5
    have e5 : s5 1 11 = σ 1 11 + 20 := by rw [b5, u1_s, e4]; omega
    have t := t s5 ?_ ?_ ?_
    · rw [if_pos hk] at t
      rw [e5]
      exact t
    · rw [if_pos hk]
      unfold r_feed
      rw [a5, a4, a3, a2, a1, e1, e2, e3, e4]
    · have f2 : s2 1 = u1 (σ 1) 11 (σ 1 11 + 4 + 4) := by rw [b2, e1, b1, u1_u1]
      have f3 : s3 1 = u1 (σ 1) 11 (σ 1 11 + 4 + 4 + 4) := by rw [b3, e2, f2, u1_u1]
      have f4 : s4 1 = u1 (σ 1) 11 (σ 1 11 + 4 + 4 + 4 + 4) := by rw [b4, e3, f3, u1_u1]
      rw [if_pos hk, b5, e4, f4, u1_u1, show σ 1 11 + 4 + 4 + 4 + 4 + 4 = σ 1 11 + 20 by omega]
    · intro c h1 h2
      rw [c5 c h1 h2, c4 c h1 h2, c3 c h1 h2, c2 c h1 h2, c1 c h1 h2]
  · rw [if_neg hk]
    have t := t σ ?_ ?_ (fun _ _ _ => rfl)
    · rw [if_neg hk] at t
      exact t
    · rw [if_neg hk]
    · rw [if_neg hk]
-- method 158: MillTown.end(I)I
theorem c_158_0 : pg_cd 158 0 = (3, 1, 0, 1, 0) := by decide +kernel
theorem c_158_1 : pg_cd 158 1 = (36, 3, 0, 2, 11) := by decide +kernel
theorem c_158_4 : pg_cd 158 4 = (3, 1, 0, 1, 0) := by decide +kernel
theorem c_158_5 : pg_cd 158 5 = (5, 1, 0, 0, 0) := by decide +kernel
theorem c_158_6 : pg_cd 158 6 = (43, 11, 164, 11, 0) := by decide +kernel
theorem c_158_9 : pg_cd 158 9 = (37, 3, 0, 5, 5) := by decide +kernel
theorem c_158_12 : pg_cd 158 12 = (1, 1, 0, 0, (-1)) := by decide +kernel
theorem c_158_13 : pg_cd 158 13 = (90, 0, 0, 0, 0) := by decide +kernel
theorem c_158_14 : pg_cd 158 14 = (5, 1, 0, 0, 0) := by decide +kernel
theorem c_158_15 : pg_cd 158 15 = (3, 1, 0, 1, 0) := by decide +kernel
theorem c_158_16 : pg_cd 158 16 = (46, 11, 164, 11, 0) := by decide +kernel
theorem c_158_19 : pg_cd 158 19 = (3, 1, 0, 1, 0) := by decide +kernel
theorem c_158_20 : pg_cd 158 20 = (90, 0, 0, 0, 0) := by decide +kernel
theorem mi_158 : pg_mc 158 = 11 ∧ pg_na 158 = 1 ∧ pg_mx 158 = 2 := by decide +kernel
set_option maxRecDepth 20000 in
theorem u_158_0 {d : Nat} {S : zS} {σ τ : zI} {Q : zQ} {x1 : Int} (t : (rg x1) ∧ if x1 < 0 then (Q (some (.int (wI (-1)))) S σ τ) else (if x1 ≤ (σ 1 11) then (Q (some (.int (wI x1))) S (uc σ 1 (u1 (σ 1) 11 x1)) τ) else (Q (some (.int (wI (-1)))) S σ τ))) : wi (d + 1) 158 0 [.ref 1, .int (wI x1)] [] S σ τ Q := by
  obtain ⟨r1, t⟩ := t
  refine i3 c_158_0 rfl ?_
  refine i36 c_158_1 r1 rfl (fun hc => ?_) (fun hc => ?_)
  · have t := iT t hc
    have ha2 : x1 < 0 := hc
    refine i1 c_158_12 ?_
    exact i90 c_158_13 t
  · have t := iF t hc
    have ha2 : ¬ (x1 < 0) := hc
    refine i3 c_158_4 rfl (i5 c_158_5 rfl (wi_ok (fun K3 => ?_)))
    refine i43 (v := σ 1 11) c_158_6 (lo (c := 1) (kd := 111) (n := 0) rfl (by decide)) rfl ?_
    refine i37 c_158_9 r1 (rge_ K3 rfl) rfl (fun hc => ?_) (fun hc => ?_)
    · have t := iT t hc
      have ha4 : x1 ≤ (σ 1 11) := hc
      refine i5 c_158_14 rfl (i3 c_158_15 rfl (i46 (σ1 := uc σ 1 (u1 (σ 1) 11 x1)) c_158_16 (lo (c := 1) (kd := 111) (n := 0) rfl (by decide)) (by decide) rfl r1 (wr_ rfl rfl) (i3 c_158_19 rfl ?_)))
      exact i90 c_158_20 t
    · have t := iF t hc
      have ha4 : ¬ (x1 ≤ (σ 1 11)) := hc
      refine i1 c_158_12 ?_
      exact i90 c_158_13 t
theorem q_158 {d : Nat} {S : zS} {σ τ : zI} {Q : zQ} {n : Int} (p0 : rg n) (t : Q (some (.int (wI (if 0 ≤ n ∧ n ≤ σ 1 11 then n else -1)))) S (uc σ 1 (u1 (σ 1) 11 (if 0 ≤ n ∧ n ≤ σ 1 11 then n else σ 1 11))) τ) : wc (d + 1) 158 [.ref 1, .int (wI n)] S σ τ Q := by
  refine wc_ok fun K => ?_
  refine wc_of mi_158 rfl (u_158_0 ?_)
  by_cases hk : 0 ≤ n ∧ n ≤ σ 1 11
  · rw [if_pos hk, if_pos hk] at t
    repeat' (first | exact t | (intro v hv hb; subst hv) | refine ⟨_, rfl, by omega, ?_⟩ | refine ⟨by assumption, ?_⟩ | refine ⟨by omega, ?_⟩ | refine ifI (fun _ => ?_) (fun _ => ?_) | (exfalso; omega))
  · rw [if_neg hk, if_neg hk] at t
    have e : u1 (σ 1) 11 (σ 1 11) = σ 1 := by
      funext j
      unfold u1
      split
      · next h => rw [h]
      · rfl
    rw [e, uc_id] at t
    repeat' (first | exact t | (intro v hv hb; subst hv) | refine ⟨_, rfl, by omega, ?_⟩ | refine ⟨by assumption, ?_⟩ | refine ⟨by omega, ?_⟩ | refine ifI (fun _ => ?_) (fun _ => ?_) | (exfalso; omega))
-- method 33: MillTown$Reader.latestFault()I
theorem c_33_0 : pg_cd 33 0 = (5, 1, 0, 0, 0) := by decide +kernel
theorem c_33_1 : pg_cd 33 1 = (43, 3, 21, 5, 0) := by decide +kernel
theorem c_33_4 : pg_cd 33 4 = (90, 0, 0, 0, 0) := by decide +kernel
theorem mi_33 : pg_mc 33 = 3 ∧ pg_na 33 = 0 ∧ pg_mx 33 = 1 := by decide +kernel
set_option maxRecDepth 20000 in
theorem u_33_0 {d : Nat} {S : zS} {σ τ : zI} {Q : zQ} (t : Q (some (.int (wI (σ 63 5)))) S σ τ) : wi (d + 0) 33 0 [.ref 63] [] S σ τ Q := by
  refine i5 c_33_0 rfl (wi_ok (fun K1 => ?_))
  refine i43 (v := σ 63 5) c_33_1 (lo (c := 63) (kd := 103) (n := 0) rfl (by decide)) rfl ?_
  exact i90 c_33_4 t
theorem q_33 {d : Nat} {S : zS} {σ τ : zI} {Q : zQ} (t : Q (some (.int (wI (σ 63 5)))) S σ τ) : wc (d + 0) 33 [.ref 63] S σ τ Q := by
  exact wc_of mi_33 rfl (u_33_0 t)
-- method 34: MillTown$Reader.latestPlace()I
theorem c_34_0 : pg_cd 34 0 = (5, 1, 0, 0, 0) := by decide +kernel
theorem c_34_1 : pg_cd 34 1 = (43, 3, 25, 6, 0) := by decide +kernel
theorem c_34_4 : pg_cd 34 4 = (90, 0, 0, 0, 0) := by decide +kernel
theorem mi_34 : pg_mc 34 = 3 ∧ pg_na 34 = 0 ∧ pg_mx 34 = 1 := by decide +kernel
set_option maxRecDepth 20000 in
theorem u_34_0 {d : Nat} {S : zS} {σ τ : zI} {Q : zQ} (t : Q (some (.int (wI (σ 63 6)))) S σ τ) : wi (d + 0) 34 0 [.ref 63] [] S σ τ Q := by
  refine i5 c_34_0 rfl (wi_ok (fun K1 => ?_))
  refine i43 (v := σ 63 6) c_34_1 (lo (c := 63) (kd := 103) (n := 0) rfl (by decide)) rfl ?_
  exact i90 c_34_4 t
theorem q_34 {d : Nat} {S : zS} {σ τ : zI} {Q : zQ} (t : Q (some (.int (wI (σ 63 6)))) S σ τ) : wc (d + 0) 34 [.ref 63] S σ τ Q := by
  exact wc_of mi_34 rfl (u_34_0 t)
-- method 160: MillTown.fault(I)I
theorem c_160_0 : pg_cd 160 0 = (3, 1, 0, 1, 0) := by decide +kernel
theorem c_160_1 : pg_cd 160 1 = (36, 3, 0, 1, 11) := by decide +kernel
theorem c_160_4 : pg_cd 160 4 = (5, 1, 0, 0, 0) := by decide +kernel
theorem c_160_5 : pg_cd 160 5 = (45, 11, 42, 6, 0) := by decide +kernel
theorem c_160_8 : pg_cd 160 8 = (80, 33, 180, 0, 0) := by decide +kernel
theorem c_160_11 : pg_cd 160 11 = (90, 0, 0, 0, 0) := by decide +kernel
theorem c_160_12 : pg_cd 160 12 = (3, 1, 0, 1, 0) := by decide +kernel
theorem c_160_13 : pg_cd 160 13 = (1, 1, 0, 0, 1) := by decide +kernel
theorem c_160_14 : pg_cd 160 14 = (37, 3, 0, 1, 13) := by decide +kernel
theorem c_160_17 : pg_cd 160 17 = (5, 1, 0, 0, 0) := by decide +kernel
theorem c_160_18 : pg_cd 160 18 = (45, 11, 42, 6, 0) := by decide +kernel
theorem c_160_21 : pg_cd 160 21 = (80, 34, 184, 0, 0) := by decide +kernel
theorem c_160_24 : pg_cd 160 24 = (38, 3, 0, 0, 4) := by decide +kernel
theorem c_160_27 : pg_cd 160 27 = (1, 1, 0, 0, (-1)) := by decide +kernel
theorem c_160_28 : pg_cd 160 28 = (90, 0, 0, 0, 0) := by decide +kernel
theorem mi_160 : pg_mc 160 = 11 ∧ pg_na 160 = 1 ∧ pg_mx 160 = 2 := by decide +kernel
set_option maxRecDepth 20000 in
theorem u_160_0 {d : Nat} {S : zS} {σ τ : zI} {Q : zQ} {x1 : Int} (t : (rg x1) ∧ if x1 = 0 then (Q (some (.int (wI (σ 63 5)))) S σ τ) else (if x1 = 1 then (Q (some (.int (wI (σ 63 6)))) S σ τ) else (Q (some (.int (wI (-1)))) S σ τ))) : wi (d + 1) 160 0 [.ref 1, .int (wI x1)] [] S σ τ Q := by
  obtain ⟨r1, t⟩ := t
  refine i3 c_160_0 rfl ?_
  refine i36 c_160_1 r1 rfl (fun hc => ?_) (fun hc => ?_)
  · have t := iF t hc
    have ha2 : ¬ (x1 = 0) := hc
    refine i3 c_160_12 rfl (i1 c_160_13 ?_)
    refine i37 c_160_14 r1 (by decide) rfl (fun hc => ?_) (fun hc => ?_)
    · have t := iF t hc
      have ha3 : ¬ (x1 = 1) := hc
      refine i1 c_160_27 ?_
      exact i90 c_160_28 t
    · have t := iT t (Decidable.not_not.mp hc)
      have ha3 : x1 = 1 := Decidable.not_not.mp hc
      refine i5 c_160_17 rfl (i45 c_160_18 (lo (c := 1) (kd := 111) (n := 0) rfl (by decide)) (lro (c := 1) (k := 6) (j := 63) (by decide)) ?_)
      refine i80 (As := []) (rest := []) c_160_21 mi_34 rfl rfl (Nat.le_of_ble_eq_true rfl) (Nat.le_of_ble_eq_true rfl) (lo (c := 63) (kd := 103) (n := 0) rfl (by decide)) (q_34 ?_)
      show wi (d + 1) 160 24 [.ref 1, .int (wI x1)] [.int (wI (σ 63 6))] S σ τ Q
      refine i38 c_160_24 rfl ?_
      exact i90 c_160_28 t
  · have t := iT t (Decidable.not_not.mp hc)
    have ha2 : x1 = 0 := Decidable.not_not.mp hc
    refine i5 c_160_4 rfl (i45 c_160_5 (lo (c := 1) (kd := 111) (n := 0) rfl (by decide)) (lro (c := 1) (k := 6) (j := 63) (by decide)) ?_)
    refine i80 (As := []) (rest := []) c_160_8 mi_33 rfl rfl (Nat.le_of_ble_eq_true rfl) (Nat.le_of_ble_eq_true rfl) (lo (c := 63) (kd := 103) (n := 0) rfl (by decide)) (q_33 ?_)
    show wi (d + 1) 160 11 [.ref 1, .int (wI x1)] [.int (wI (σ 63 5))] S σ τ Q
    exact i90 c_160_11 t
theorem q_160 {d : Nat} {S : zS} {σ τ : zI} {Q : zQ} {what : Int} (p0 : rg what) (t : Q (some (.int (wI (if what = 0 then σ 63 5 else if what = 1 then σ 63 6 else -1)))) S σ τ) : wc (d + 1) 160 [.ref 1, .int (wI what)] S σ τ Q := by
  refine wc_of mi_160 rfl (u_160_0 ⟨p0, ?_⟩)
  split at t
  · next h => rw [if_pos h]; exact t
  · next h =>
    rw [if_neg h]
    split at t
    · next h => rw [if_pos h]; exact t
    · next h => rw [if_neg h]; exact t
-- method 191: MillTown.image()I
theorem c_191_0 : pg_cd 191 0 = (5, 1, 0, 0, 0) := by decide +kernel
theorem c_191_1 : pg_cd 191 1 = (45, 11, 16, 1, 0) := by decide +kernel
theorem c_191_4 : pg_cd 191 4 = (5, 1, 0, 0, 0) := by decide +kernel
theorem c_191_5 : pg_cd 191 5 = (45, 11, 12, 0, 0) := by decide +kernel
theorem c_191_8 : pg_cd 191 8 = (80, 87, 258, 0, 0) := by decide +kernel
theorem c_191_11 : pg_cd 191 11 = (5, 1, 0, 0, 0) := by decide +kernel
theorem c_191_12 : pg_cd 191 12 = (45, 11, 12, 0, 0) := by decide +kernel
theorem c_191_15 : pg_cd 191 15 = (43, 8, 193, 8, 0) := by decide +kernel
theorem c_191_18 : pg_cd 191 18 = (90, 0, 0, 0, 0) := by decide +kernel
theorem mi_191 : pg_mc 191 = 11 ∧ pg_na 191 = 0 ∧ pg_mx 191 = 1 := by decide +kernel
set_option maxRecDepth 20000 in
theorem u_191_0 {d : Nat} {S : zS} {σ τ : zI} {Q : zQ} (t : ∃ a1 : Int → Int, (RT σ 2 a1) ∧ (19 ≠ 2) ∧ (Jv a1) ∧ ∀ (σ15 : zI), RT σ15 19 a1 → (∀ c, c < 19 ∨ 19 + 16 < c → σ15 c = σ c) → Q (some (.int (wI (σ15 2 8)))) S σ15 τ) : wi (d + 10) 191 0 [.ref 1] [] S σ τ Q := by
  obtain ⟨a1, t⟩ := t
  obtain ⟨p2, t⟩ := t
  obtain ⟨p3, t⟩ := t
  obtain ⟨p4, t⟩ := t
  refine i5 c_191_0 rfl (i45 c_191_1 (lo (c := 1) (kd := 111) (n := 0) rfl (by decide)) (lro (c := 1) (k := 1) (j := 19) (by decide)) (i5 c_191_4 rfl (i45 c_191_5 (lo (c := 1) (kd := 111) (n := 0) rfl (by decide)) (lro (c := 1) (k := 0) (j := 2) (by decide)) ?_)))
  refine i80 (As := [.ref 2]) (rest := []) c_191_8 mi_87 rfl rfl (Nat.le_of_ble_eq_true rfl) (Nat.le_of_ble_eq_true rfl) (lo (c := 19) (kd := 108) (n := 0) rfl (by decide)) (q_87 (a := a1) tw_19 tw_2 p2 p3 p4 (fun σ15 q6 q7 => ?_))
  have t := t σ15 q6 q7
  show wi (d + 10) 191 11 [.ref 1] [] S σ15 τ Q
  refine i5 c_191_11 rfl (i45 c_191_12 (lo (c := 1) (kd := 111) (n := 0) rfl (by decide)) (lro (c := 1) (k := 0) (j := 2) (by decide)) (wi_ok (fun K8 => ?_)))
  refine i43 (v := σ15 2 8) c_191_15 (lo (c := 2) (kd := 108) (n := 0) rfl (by decide)) rfl ?_
  exact i90 c_191_18 t
theorem q_191 {d : Nat} {S : zS} {σ τ : zI} {Q : zQ} {a : Int → Int} (p0 : RT σ 2 a) (p1 : Jv a) (t : ∀ (σ1 : zI), RT σ1 19 a → (∀ c, c < 19 ∨ 35 < c → σ1 c = σ c) → Q (some (.int (wI (a 0)))) S σ1 τ) : wc (d + 10) 191 [.ref 1] S σ τ Q := by
  refine wc_of mi_191 rfl (u_191_0 ⟨a, p0, by decide, p1, ?_⟩)
  intro s1 h1 h2
  have e : s1 2 8 = a 0 := by rw [h2 2 (by omega)]; exact (tS p0).1
  rw [e]
  exact t s1 h1 (fun c hc => h2 c (by omega))
-- method 192: MillTown.back()I
theorem c_192_0 : pg_cd 192 0 = (5, 1, 0, 0, 0) := by decide +kernel
theorem c_192_1 : pg_cd 192 1 = (45, 11, 12, 0, 0) := by decide +kernel
theorem c_192_4 : pg_cd 192 4 = (5, 1, 0, 0, 0) := by decide +kernel
theorem c_192_5 : pg_cd 192 5 = (45, 11, 16, 1, 0) := by decide +kernel
theorem c_192_8 : pg_cd 192 8 = (80, 87, 258, 0, 0) := by decide +kernel
theorem c_192_11 : pg_cd 192 11 = (5, 1, 0, 0, 0) := by decide +kernel
theorem c_192_12 : pg_cd 192 12 = (45, 11, 12, 0, 0) := by decide +kernel
theorem c_192_15 : pg_cd 192 15 = (43, 8, 193, 8, 0) := by decide +kernel
theorem c_192_18 : pg_cd 192 18 = (90, 0, 0, 0, 0) := by decide +kernel
theorem mi_192 : pg_mc 192 = 11 ∧ pg_na 192 = 0 ∧ pg_mx 192 = 1 := by decide +kernel
set_option maxRecDepth 20000 in
theorem u_192_0 {d : Nat} {S : zS} {σ τ : zI} {Q : zQ} (t : ∃ a1 : Int → Int, (RT σ 19 a1) ∧ (2 ≠ 19) ∧ (Jv a1) ∧ ∀ (σ15 : zI), RT σ15 2 a1 → (∀ c, c < 2 ∨ 2 + 16 < c → σ15 c = σ c) → Q (some (.int (wI (σ15 2 8)))) S σ15 τ) : wi (d + 10) 192 0 [.ref 1] [] S σ τ Q := by
  obtain ⟨a1, t⟩ := t
  obtain ⟨p2, t⟩ := t
  obtain ⟨p3, t⟩ := t
  obtain ⟨p4, t⟩ := t
  refine i5 c_192_0 rfl (i45 c_192_1 (lo (c := 1) (kd := 111) (n := 0) rfl (by decide)) (lro (c := 1) (k := 0) (j := 2) (by decide)) (i5 c_192_4 rfl (i45 c_192_5 (lo (c := 1) (kd := 111) (n := 0) rfl (by decide)) (lro (c := 1) (k := 1) (j := 19) (by decide)) ?_)))
  refine i80 (As := [.ref 19]) (rest := []) c_192_8 mi_87 rfl rfl (Nat.le_of_ble_eq_true rfl) (Nat.le_of_ble_eq_true rfl) (lo (c := 2) (kd := 108) (n := 0) rfl (by decide)) (q_87 (a := a1) tw_2 tw_19 p2 p3 p4 (fun σ15 q6 q7 => ?_))
  have t := t σ15 q6 q7
  show wi (d + 10) 192 11 [.ref 1] [] S σ15 τ Q
  refine i5 c_192_11 rfl (i45 c_192_12 (lo (c := 1) (kd := 111) (n := 0) rfl (by decide)) (lro (c := 1) (k := 0) (j := 2) (by decide)) (wi_ok (fun K8 => ?_)))
  refine i43 (v := σ15 2 8) c_192_15 (lo (c := 2) (kd := 108) (n := 0) rfl (by decide)) rfl ?_
  exact i90 c_192_18 t
theorem q_192 {d : Nat} {S : zS} {σ τ : zI} {Q : zQ} {a : Int → Int} (p0 : RT σ 19 a) (p1 : Jv a) (t : ∀ (σ1 : zI), RT σ1 2 a → F2 σ σ1 → Q (some (.int (wI (a 0)))) S σ1 τ) : wc (d + 10) 192 [.ref 1] S σ τ Q := by
  refine wc_of mi_192 rfl (u_192_0 ⟨a, p0, by decide, p1, ?_⟩)
  intro s1 h1 h2
  have e : s1 2 8 = a 0 := (tS h1).1
  rw [e]
  exact t s1 h1 (fun c hc => h2 c (by omega))
theorem sI_but {f : Int → Int} {n b : Int} (hb : 0 ≤ b ∧ b < n) : sI f n = sI (fun p => if p = b then 0 else f p) n + f b := by
  have key : ∀ m : Nat, (sN f m = sN (fun p => if p = b then 0 else f p) m + if b < m then f b else 0) := by
    intro m
    induction m with
    | zero => rw [if_neg (by omega)]; rfl
    | succ m ih =>
      show sN f m + f m = sN _ m + (if (m : Int) = b then 0 else f m) + _
      rw [ih]
      by_cases e : (m : Int) = b
      · rw [if_pos e, if_neg (by omega), if_pos (by omega), e]
      · rw [if_neg e]
        by_cases c : b < m
        · rw [if_pos c, if_pos (by omega)]; omega
        · rw [if_neg c, if_neg (by omega)]; omega
  have := key n.toNat
  rw [if_pos (by omega)] at this
  exact this
theorem r_had_but {a : Int → Int} {m p : Int} (hp : 0 ≤ p ∧ p < a 4) : r_had a m (-1) = r_had a m p + (if a (3652 + 12 * p + 4) = m then (if 1 ≤ a (3652 + 12 * p + 3) ∧ a (3652 + 12 * p + 3) ≤ 2 then a (3652 + 12 * p + 5) else 0) else 0) := by
  unfold r_had
  rw [sI_but hp, if_neg (show ¬ p = -1 by omega)]
  congr 1
  refine sI_c (fun q q0 q1 => ?_)
  rw [if_neg (show ¬ q = -1 by omega)]
-- method 155: MillTown.fitsWork(IIII)Z
theorem c_155_0 : pg_cd 155 0 = (3, 1, 0, 2, 0) := by decide +kernel
theorem c_155_1 : pg_cd 155 1 = (1, 1, 0, 0, 1) := by decide +kernel
theorem c_155_2 : pg_cd 155 2 = (37, 3, 0, 0, 8) := by decide +kernel
theorem c_155_5 : pg_cd 155 5 = (3, 1, 0, 2, 0) := by decide +kernel
theorem c_155_6 : pg_cd 155 6 = (1, 1, 0, 0, 2) := by decide +kernel
theorem c_155_7 : pg_cd 155 7 = (37, 3, 0, 1, 69) := by decide +kernel
theorem c_155_10 : pg_cd 155 10 = (5, 1, 0, 0, 0) := by decide +kernel
theorem c_155_11 : pg_cd 155 11 = (45, 11, 12, 0, 0) := by decide +kernel
theorem c_155_14 : pg_cd 155 14 = (3, 1, 0, 3, 0) := by decide +kernel
theorem c_155_15 : pg_cd 155 15 = (80, 99, 157, 0, 0) := by decide +kernel
theorem c_155_18 : pg_cd 155 18 = (5, 1, 0, 0, 0) := by decide +kernel
theorem c_155_19 : pg_cd 155 19 = (45, 11, 12, 0, 0) := by decide +kernel
theorem c_155_22 : pg_cd 155 22 = (3, 1, 0, 1, 0) := by decide +kernel
theorem c_155_23 : pg_cd 155 23 = (3, 1, 0, 3, 0) := by decide +kernel
theorem c_155_24 : pg_cd 155 24 = (80, 98, 161, 0, 0) := by decide +kernel
theorem c_155_27 : pg_cd 155 27 = (11, 1, 0, 0, 0) := by decide +kernel
theorem c_155_28 : pg_cd 155 28 = (6, 2, 0, 5, 0) := by decide +kernel
theorem c_155_30 : pg_cd 155 30 = (3, 2, 0, 4, 0) := by decide +kernel
theorem c_155_32 : pg_cd 155 32 = (1, 1, 0, 0, 1) := by decide +kernel
theorem c_155_33 : pg_cd 155 33 = (3, 1, 0, 2, 0) := by decide +kernel
theorem c_155_34 : pg_cd 155 34 = (1, 1, 0, 0, 1) := by decide +kernel
theorem c_155_35 : pg_cd 155 35 = (37, 3, 0, 1, 8) := by decide +kernel
theorem c_155_38 : pg_cd 155 38 = (1, 2, 0, 0, 6) := by decide +kernel
theorem c_155_40 : pg_cd 155 40 = (38, 3, 0, 0, 4) := by decide +kernel
theorem c_155_43 : pg_cd 155 43 = (1, 1, 0, 0, 2) := by decide +kernel
theorem c_155_44 : pg_cd 155 44 = (81, 141, 85, 0, 0) := by decide +kernel
theorem c_155_47 : pg_cd 155 47 = (36, 3, 0, 0, 27) := by decide +kernel
theorem c_155_50 : pg_cd 155 50 = (3, 2, 0, 5, 0) := by decide +kernel
theorem c_155_52 : pg_cd 155 52 = (3, 2, 0, 4, 0) := by decide +kernel
theorem c_155_54 : pg_cd 155 54 = (10, 1, 0, 0, 0) := by decide +kernel
theorem c_155_55 : pg_cd 155 55 = (5, 1, 0, 0, 0) := by decide +kernel
theorem c_155_56 : pg_cd 155 56 = (45, 11, 12, 0, 0) := by decide +kernel
theorem c_155_59 : pg_cd 155 59 = (45, 8, 71, 2, 0) := by decide +kernel
theorem c_155_62 : pg_cd 155 62 = (3, 1, 0, 3, 0) := by decide +kernel
theorem c_155_63 : pg_cd 155 63 = (1, 1, 0, 0, 0) := by decide +kernel
theorem c_155_64 : pg_cd 155 64 = (80, 55, 130, 0, 0) := by decide +kernel
theorem c_155_67 : pg_cd 155 67 = (37, 3, 0, 4, 7) := by decide +kernel
theorem c_155_70 : pg_cd 155 70 = (1, 1, 0, 0, 1) := by decide +kernel
theorem c_155_71 : pg_cd 155 71 = (38, 3, 0, 0, 4) := by decide +kernel
theorem c_155_74 : pg_cd 155 74 = (1, 1, 0, 0, 0) := by decide +kernel
theorem c_155_75 : pg_cd 155 75 = (91, 0, 0, 0, 0) := by decide +kernel
theorem c_155_76 : pg_cd 155 76 = (3, 2, 0, 4, 0) := by decide +kernel
theorem c_155_78 : pg_cd 155 78 = (1, 1, 0, 0, 1) := by decide +kernel
theorem c_155_79 : pg_cd 155 79 = (1, 2, 0, 0, 50) := by decide +kernel
theorem c_155_81 : pg_cd 155 81 = (81, 141, 85, 0, 0) := by decide +kernel
theorem c_155_84 : pg_cd 155 84 = (36, 3, 0, 0, 29) := by decide +kernel
theorem c_155_87 : pg_cd 155 87 = (3, 1, 0, 2, 0) := by decide +kernel
theorem c_155_88 : pg_cd 155 88 = (1, 1, 0, 0, 3) := by decide +kernel
theorem c_155_89 : pg_cd 155 89 = (37, 3, 0, 0, 20) := by decide +kernel
theorem c_155_92 : pg_cd 155 92 = (5, 1, 0, 0, 0) := by decide +kernel
theorem c_155_93 : pg_cd 155 93 = (45, 11, 12, 0, 0) := by decide +kernel
theorem c_155_96 : pg_cd 155 96 = (45, 8, 136, 5, 0) := by decide +kernel
theorem c_155_99 : pg_cd 155 99 = (3, 1, 0, 1, 0) := by decide +kernel
theorem c_155_100 : pg_cd 155 100 = (1, 1, 0, 0, 1) := by decide +kernel
theorem c_155_101 : pg_cd 155 101 = (80, 55, 130, 0, 0) := by decide +kernel
theorem c_155_104 : pg_cd 155 104 = (1, 2, 0, 0, 18) := by decide +kernel
theorem c_155_106 : pg_cd 155 106 = (37, 3, 0, 3, 7) := by decide +kernel
theorem c_155_109 : pg_cd 155 109 = (1, 1, 0, 0, 1) := by decide +kernel
theorem c_155_110 : pg_cd 155 110 = (38, 3, 0, 0, 4) := by decide +kernel
theorem c_155_113 : pg_cd 155 113 = (1, 1, 0, 0, 0) := by decide +kernel
theorem c_155_114 : pg_cd 155 114 = (91, 0, 0, 0, 0) := by decide +kernel
theorem mi_155 : pg_mc 155 = 11 ∧ pg_na 155 = 4 ∧ pg_mx 155 = 6 := by decide +kernel
set_option maxRecDepth 20000 in
theorem u_155_0 {d : Nat} {S : zS} {σ τ : zI} {Q : zQ} {x1 : Int} {x2 : Int} {x3 : Int} {x4 : Int} (t : (rg x2) ∧ if x2 = 1 then (∃ a3 : Int → Int, (RT σ 2 a3) ∧ (Jv a3) ∧ (rg x3) ∧ ∀ (v7 : Int), v7 = r_had a3 x3 (-1) → 0 ≤ v7 ∧ v7 ≤ 3000 → (rg x1) ∧ (rg x4) ∧ if 1 ≤ x4 ∧ x4 ≤ 6 then ((rg ((v7 - (if (rt_ (σ 13 2) (σ 14) 9 3 x1 = 1 ∨ rt_ (σ 13 2) (σ 14) 9 3 x1 = 2) ∧ rt_ (σ 13 2) (σ 14) 9 4 x1 = x3 then rt_ (σ 13 2) (σ 14) 9 5 x1 else 0)) + x4)) ∧ if (rt_ (σ 7 2) (σ 8) 13 0 x3) < ((v7 - (if (rt_ (σ 13 2) (σ 14) 9 3 x1 = 1 ∨ rt_ (σ 13 2) (σ 14) 9 3 x1 = 2) ∧ rt_ (σ 13 2) (σ 14) 9 4 x1 = x3 then rt_ (σ 13 2) (σ 14) 9 5 x1 else 0)) + x4) then (Q (some (.int (wI 0))) S σ τ) else (Q (some (.int (wI 1))) S σ τ)) else (Q (some (.int (wI 0))) S σ τ)) else (if x2 = 2 then (∃ a24 : Int → Int, (RT σ 2 a24) ∧ (Jv a24) ∧ (rg x3) ∧ ∀ (v28 : Int), v28 = r_had a24 x3 (-1) → 0 ≤ v28 ∧ v28 ≤ 3000 → (rg x1) ∧ (rg x4) ∧ if 1 ≤ x4 ∧ x4 ≤ 2 then ((rg ((v28 - (if (rt_ (σ 13 2) (σ 14) 9 3 x1 = 1 ∨ rt_ (σ 13 2) (σ 14) 9 3 x1 = 2) ∧ rt_ (σ 13 2) (σ 14) 9 4 x1 = x3 then rt_ (σ 13 2) (σ 14) 9 5 x1 else 0)) + x4)) ∧ if (rt_ (σ 7 2) (σ 8) 13 0 x3) < ((v28 - (if (rt_ (σ 13 2) (σ 14) 9 3 x1 = 1 ∨ rt_ (σ 13 2) (σ 14) 9 3 x1 = 2) ∧ rt_ (σ 13 2) (σ 14) 9 4 x1 = x3 then rt_ (σ 13 2) (σ 14) 9 5 x1 else 0)) + x4) then (Q (some (.int (wI 0))) S σ τ) else (Q (some (.int (wI 1))) S σ τ)) else (Q (some (.int (wI 0))) S σ τ)) else ((rg x4) ∧ if 1 ≤ x4 ∧ x4 ≤ 50 then (if x2 = 3 then (Q (some (.int (wI 1))) S σ τ) else ((rg x1) ∧ if (18 : Int) ≤ (rt_ (σ 13 2) (σ 14) 9 1 x1) then (Q (some (.int (wI 0))) S σ τ) else (Q (some (.int (wI 1))) S σ τ))) else (Q (some (.int (wI 0))) S σ τ)))) : wi (d + 8) 155 0 [.ref 1, .int (wI x1), .int (wI x2), .int (wI x3), .int (wI x4), .retAddr 0] [] S σ τ Q := by
  obtain ⟨r1, t⟩ := t
  refine i3 c_155_0 rfl (i1 c_155_1 ?_)
  refine i37 c_155_2 r1 (by decide) rfl (fun hc => ?_) (fun hc => ?_)
  · have t := iT t hc
    have ha2 : x2 = 1 := hc
    obtain ⟨a3, t⟩ := t
    obtain ⟨p4, t⟩ := t
    obtain ⟨p5, t⟩ := t
    obtain ⟨r6, t⟩ := t
    refine i5 c_155_10 rfl (i45 c_155_11 (lo (c := 1) (kd := 111) (n := 0) rfl (by decide)) (lro (c := 1) (k := 0) (j := 2) (by decide)) (i3 c_155_14 rfl ?_))
    refine i80 (As := [.int (wI x3)]) (rest := []) c_155_15 mi_99 rfl rfl (Nat.le_of_ble_eq_true rfl) (Nat.le_of_ble_eq_true rfl) (lo (c := 2) (kd := 108) (n := 0) rfl (by decide)) (q_99 (a := a3) tw_2 p4 p5 r6 (fun v7 q8 q9 => ?_))
    have t := t v7 q8 q9
    show wi (d + 8) 155 18 [.ref 1, .int (wI x1), .int (wI x2), .int (wI x3), .int (wI x4), .retAddr 0] [.int (wI v7)] S σ τ Q
    obtain ⟨r10, t⟩ := t
    refine i5 c_155_18 rfl (i45 c_155_19 (lo (c := 1) (kd := 111) (n := 0) rfl (by decide)) (lro (c := 1) (k := 0) (j := 2) (by decide)) (i3 c_155_22 rfl (i3 c_155_23 rfl ?_)))
    refine i80 (As := [.int (wI x1), .int (wI x3)]) (rest := [.int (wI v7)]) c_155_24 mi_98 rfl rfl (Nat.le_of_ble_eq_true rfl) (Nat.le_of_ble_eq_true rfl) (lo (c := 2) (kd := 108) (n := 0) rfl (by decide)) (q_98 tw_2 r10 r6 ?_)
    show wi (d + 8) 155 27 [.ref 1, .int (wI x1), .int (wI x2), .int (wI x3), .int (wI x4), .retAddr 0] [.int (wI (if (rt_ (σ 13 2) (σ 14) 9 3 x1 = 1 ∨ rt_ (σ 13 2) (σ 14) 9 3 x1 = 2) ∧ rt_ (σ 13 2) (σ 14) 9 4 x1 = x3 then rt_ (σ 13 2) (σ 14) 9 5 x1 else 0)), .int (wI v7)] S σ τ Q
    refine i11 c_155_27 (i6 (L' := [.ref 1, .int (wI x1), .int (wI x2), .int (wI x3), .int (wI x4), .int (wI (v7 - (if (rt_ (σ 13 2) (σ 14) 9 3 x1 = 1 ∨ rt_ (σ 13 2) (σ 14) 9 3 x1 = 2) ∧ rt_ (σ 13 2) (σ 14) 9 4 x1 = x3 then rt_ (σ 13 2) (σ 14) 9 5 x1 else 0)))]) c_155_28 rfl (i3 c_155_30 rfl (i1 c_155_32 (i3 c_155_33 rfl (i1 c_155_34 ?_)))))
    refine i37 c_155_35 r1 (by decide) rfl (fun hc => absurd (show x2 = 1 by omega) hc) (fun _ => ?_)
    obtain ⟨r12, t⟩ := t
    refine i1 c_155_38 (i38 c_155_40 rfl ?_)
    refine i81 (As := [.int (wI x4), .int (wI 1), .int (wI 6)]) (rest := []) c_155_44 mi_141 rfl rfl (Nat.le_of_ble_eq_true rfl) (Nat.le_of_ble_eq_true rfl) (q_141 r12 (by decide) (by decide) ?_)
    show wi (d + 8) 155 47 [.ref 1, .int (wI x1), .int (wI x2), .int (wI x3), .int (wI x4), .int (wI (v7 - (if (rt_ (σ 13 2) (σ 14) 9 3 x1 = 1 ∨ rt_ (σ 13 2) (σ 14) 9 3 x1 = 2) ∧ rt_ (σ 13 2) (σ 14) 9 4 x1 = x3 then rt_ (σ 13 2) (σ 14) 9 5 x1 else 0)))] [.int (wI (if 1 ≤ x4 ∧ x4 ≤ 6 then 1 else 0))] S σ τ Q
    refine i36e c_155_47 rfl (fun hc => ?_) (fun hc => ?_)
    · have t := iT t hc
      have ha13 : 1 ≤ x4 ∧ x4 ≤ 6 := hc
      refine i3 c_155_50 rfl (i3 c_155_52 rfl (i10 c_155_54 (i5 c_155_55 rfl (i45 c_155_56 (lo (c := 1) (kd := 111) (n := 0) rfl (by decide)) (lro (c := 1) (k := 0) (j := 2) (by decide)) (i45 c_155_59 (lo (c := 2) (kd := 108) (n := 0) rfl (by decide)) (lro (c := 2) (k := 2) (j := 7) (by decide)) (i3 c_155_62 rfl (i1 c_155_63 (wi_ok (fun K14 => ?_)))))))))
      refine i80 (As := [.int (wI x3), .int (wI 0)]) (rest := [.int (wI ((v7 - (if (rt_ (σ 13 2) (σ 14) 9 3 x1 = 1 ∨ rt_ (σ 13 2) (σ 14) 9 3 x1 = 2) ∧ rt_ (σ 13 2) (σ 14) 9 4 x1 = x3 then rt_ (σ 13 2) (σ 14) 9 5 x1 else 0)) + x4))]) c_155_64 mi_55 rfl rfl (Nat.le_of_ble_eq_true rfl) (Nat.le_of_ble_eq_true rfl) (lo (c := 7) (kd := 104) (n := 0) rfl (by decide)) (q_at (ow_mills tw_2) r6 (by decide) ?_)
      show wi (d + 8) 155 67 [.ref 1, .int (wI x1), .int (wI x2), .int (wI x3), .int (wI x4), .int (wI (v7 - (if (rt_ (σ 13 2) (σ 14) 9 3 x1 = 1 ∨ rt_ (σ 13 2) (σ 14) 9 3 x1 = 2) ∧ rt_ (σ 13 2) (σ 14) 9 4 x1 = x3 then rt_ (σ 13 2) (σ 14) 9 5 x1 else 0)))] [.int (wI (rt_ (σ 7 2) (σ 8) 13 0 x3)), .int (wI ((v7 - (if (rt_ (σ 13 2) (σ 14) 9 3 x1 = 1 ∨ rt_ (σ 13 2) (σ 14) 9 3 x1 = 2) ∧ rt_ (σ 13 2) (σ 14) 9 4 x1 = x3 then rt_ (σ 13 2) (σ 14) 9 5 x1 else 0)) + x4))] S σ τ Q
      obtain ⟨r15, t⟩ := t
      refine i37 c_155_67 r15 (rg_rt_ (fun k => kO_r K14 _ k) _ _ _ _) rfl (fun hc => ?_) (fun hc => ?_)
      · have t := iT t hc
        have ha16 : (rt_ (σ 7 2) (σ 8) 13 0 x3) < ((v7 - (if (rt_ (σ 13 2) (σ 14) 9 3 x1 = 1 ∨ rt_ (σ 13 2) (σ 14) 9 3 x1 = 2) ∧ rt_ (σ 13 2) (σ 14) 9 4 x1 = x3 then rt_ (σ 13 2) (σ 14) 9 5 x1 else 0)) + x4) := hc
        refine i1 c_155_74 ?_
        exact i91 c_155_75 (by decide) t
      · have t := iF t hc
        have ha16 : ¬ ((rt_ (σ 7 2) (σ 8) 13 0 x3) < ((v7 - (if (rt_ (σ 13 2) (σ 14) 9 3 x1 = 1 ∨ rt_ (σ 13 2) (σ 14) 9 3 x1 = 2) ∧ rt_ (σ 13 2) (σ 14) 9 4 x1 = x3 then rt_ (σ 13 2) (σ 14) 9 5 x1 else 0)) + x4)) := hc
        refine i1 c_155_70 (i38 c_155_71 rfl ?_)
        exact i91 c_155_75 (by decide) t
    · have t := iF t hc
      have ha13 : ¬ (1 ≤ x4 ∧ x4 ≤ 6) := hc
      refine i1 c_155_74 ?_
      exact i91 c_155_75 (by decide) t
  · have t := iF t hc
    have ha2 : ¬ (x2 = 1) := hc
    refine i3 c_155_5 rfl (i1 c_155_6 ?_)
    refine i37 c_155_7 r1 (by decide) rfl (fun hc => ?_) (fun hc => ?_)
    · have t := iF t hc
      have ha17 : ¬ (x2 = 2) := hc
      obtain ⟨r18, t⟩ := t
      refine i3 c_155_76 rfl (i1 c_155_78 (i1 c_155_79 ?_))
      refine i81 (As := [.int (wI x4), .int (wI 1), .int (wI 50)]) (rest := []) c_155_81 mi_141 rfl rfl (Nat.le_of_ble_eq_true rfl) (Nat.le_of_ble_eq_true rfl) (q_141 r18 (by decide) (by decide) ?_)
      show wi (d + 8) 155 84 [.ref 1, .int (wI x1), .int (wI x2), .int (wI x3), .int (wI x4), .retAddr 0] [.int (wI (if 1 ≤ x4 ∧ x4 ≤ 50 then 1 else 0))] S σ τ Q
      refine i36e c_155_84 rfl (fun hc => ?_) (fun hc => ?_)
      · have t := iT t hc
        have ha19 : 1 ≤ x4 ∧ x4 ≤ 50 := hc
        refine i3 c_155_87 rfl (i1 c_155_88 ?_)
        refine i37 c_155_89 r1 (by decide) rfl (fun hc => ?_) (fun hc => ?_)
        · have t := iT t hc
          have ha20 : x2 = 3 := hc
          refine i1 c_155_109 (i38 c_155_110 rfl ?_)
          exact i91 c_155_114 (by decide) t
        · have t := iF t hc
          have ha20 : ¬ (x2 = 3) := hc
          obtain ⟨r21, t⟩ := t
          refine i5 c_155_92 rfl (i45 c_155_93 (lo (c := 1) (kd := 111) (n := 0) rfl (by decide)) (lro (c := 1) (k := 0) (j := 2) (by decide)) (i45 c_155_96 (lo (c := 2) (kd := 108) (n := 0) rfl (by decide)) (lro (c := 2) (k := 5) (j := 13) (by decide)) (i3 c_155_99 rfl (i1 c_155_100 (wi_ok (fun K22 => ?_))))))
          refine i80 (As := [.int (wI x1), .int (wI 1)]) (rest := []) c_155_101 mi_55 rfl rfl (Nat.le_of_ble_eq_true rfl) (Nat.le_of_ble_eq_true rfl) (lo (c := 13) (kd := 104) (n := 0) rfl (by decide)) (q_at (ow_persons tw_2) r21 (by decide) ?_)
          show wi (d + 8) 155 104 [.ref 1, .int (wI x1), .int (wI x2), .int (wI x3), .int (wI x4), .retAddr 0] [.int (wI (rt_ (σ 13 2) (σ 14) 9 1 x1))] S σ τ Q
          refine i1 c_155_104 ?_
          refine i37 c_155_106 (rg_rt_ (fun k => kO_r K22 _ k) _ _ _ _) (by decide) rfl (fun hc => ?_) (fun hc => ?_)
          · have t := iT t hc
            have ha23 : (18 : Int) ≤ (rt_ (σ 13 2) (σ 14) 9 1 x1) := hc
            refine i1 c_155_113 ?_
            exact i91 c_155_114 (by decide) t
          · have t := iF t hc
            have ha23 : ¬ ((18 : Int) ≤ (rt_ (σ 13 2) (σ 14) 9 1 x1)) := hc
            refine i1 c_155_109 (i38 c_155_110 rfl ?_)
            exact i91 c_155_114 (by decide) t
      · have t := iF t hc
        have ha19 : ¬ (1 ≤ x4 ∧ x4 ≤ 50) := hc
        refine i1 c_155_113 ?_
        exact i91 c_155_114 (by decide) t
    · have t := iT t (Decidable.not_not.mp hc)
      have ha17 : x2 = 2 := Decidable.not_not.mp hc
      obtain ⟨a24, t⟩ := t
      obtain ⟨p25, t⟩ := t
      obtain ⟨p26, t⟩ := t
      obtain ⟨r27, t⟩ := t
      refine i5 c_155_10 rfl (i45 c_155_11 (lo (c := 1) (kd := 111) (n := 0) rfl (by decide)) (lro (c := 1) (k := 0) (j := 2) (by decide)) (i3 c_155_14 rfl ?_))
      refine i80 (As := [.int (wI x3)]) (rest := []) c_155_15 mi_99 rfl rfl (Nat.le_of_ble_eq_true rfl) (Nat.le_of_ble_eq_true rfl) (lo (c := 2) (kd := 108) (n := 0) rfl (by decide)) (q_99 (a := a24) tw_2 p25 p26 r27 (fun v28 q29 q30 => ?_))
      have t := t v28 q29 q30
      show wi (d + 8) 155 18 [.ref 1, .int (wI x1), .int (wI x2), .int (wI x3), .int (wI x4), .retAddr 0] [.int (wI v28)] S σ τ Q
      obtain ⟨r31, t⟩ := t
      refine i5 c_155_18 rfl (i45 c_155_19 (lo (c := 1) (kd := 111) (n := 0) rfl (by decide)) (lro (c := 1) (k := 0) (j := 2) (by decide)) (i3 c_155_22 rfl (i3 c_155_23 rfl ?_)))
      refine i80 (As := [.int (wI x1), .int (wI x3)]) (rest := [.int (wI v28)]) c_155_24 mi_98 rfl rfl (Nat.le_of_ble_eq_true rfl) (Nat.le_of_ble_eq_true rfl) (lo (c := 2) (kd := 108) (n := 0) rfl (by decide)) (q_98 tw_2 r31 r27 ?_)
      show wi (d + 8) 155 27 [.ref 1, .int (wI x1), .int (wI x2), .int (wI x3), .int (wI x4), .retAddr 0] [.int (wI (if (rt_ (σ 13 2) (σ 14) 9 3 x1 = 1 ∨ rt_ (σ 13 2) (σ 14) 9 3 x1 = 2) ∧ rt_ (σ 13 2) (σ 14) 9 4 x1 = x3 then rt_ (σ 13 2) (σ 14) 9 5 x1 else 0)), .int (wI v28)] S σ τ Q
      refine i11 c_155_27 (i6 (L' := [.ref 1, .int (wI x1), .int (wI x2), .int (wI x3), .int (wI x4), .int (wI (v28 - (if (rt_ (σ 13 2) (σ 14) 9 3 x1 = 1 ∨ rt_ (σ 13 2) (σ 14) 9 3 x1 = 2) ∧ rt_ (σ 13 2) (σ 14) 9 4 x1 = x3 then rt_ (σ 13 2) (σ 14) 9 5 x1 else 0)))]) c_155_28 rfl (i3 c_155_30 rfl (i1 c_155_32 (i3 c_155_33 rfl (i1 c_155_34 ?_)))))
      refine i37 c_155_35 r1 (by decide) rfl (fun _ => ?_) (fun hc => absurd (show ¬ (x2 = 1) by omega) hc)
      obtain ⟨r33, t⟩ := t
      refine i1 c_155_43 ?_
      refine i81 (As := [.int (wI x4), .int (wI 1), .int (wI 2)]) (rest := []) c_155_44 mi_141 rfl rfl (Nat.le_of_ble_eq_true rfl) (Nat.le_of_ble_eq_true rfl) (q_141 r33 (by decide) (by decide) ?_)
      show wi (d + 8) 155 47 [.ref 1, .int (wI x1), .int (wI x2), .int (wI x3), .int (wI x4), .int (wI (v28 - (if (rt_ (σ 13 2) (σ 14) 9 3 x1 = 1 ∨ rt_ (σ 13 2) (σ 14) 9 3 x1 = 2) ∧ rt_ (σ 13 2) (σ 14) 9 4 x1 = x3 then rt_ (σ 13 2) (σ 14) 9 5 x1 else 0)))] [.int (wI (if 1 ≤ x4 ∧ x4 ≤ 2 then 1 else 0))] S σ τ Q
      refine i36e c_155_47 rfl (fun hc => ?_) (fun hc => ?_)
      · have t := iT t hc
        have ha34 : 1 ≤ x4 ∧ x4 ≤ 2 := hc
        refine i3 c_155_50 rfl (i3 c_155_52 rfl (i10 c_155_54 (i5 c_155_55 rfl (i45 c_155_56 (lo (c := 1) (kd := 111) (n := 0) rfl (by decide)) (lro (c := 1) (k := 0) (j := 2) (by decide)) (i45 c_155_59 (lo (c := 2) (kd := 108) (n := 0) rfl (by decide)) (lro (c := 2) (k := 2) (j := 7) (by decide)) (i3 c_155_62 rfl (i1 c_155_63 (wi_ok (fun K35 => ?_)))))))))
        refine i80 (As := [.int (wI x3), .int (wI 0)]) (rest := [.int (wI ((v28 - (if (rt_ (σ 13 2) (σ 14) 9 3 x1 = 1 ∨ rt_ (σ 13 2) (σ 14) 9 3 x1 = 2) ∧ rt_ (σ 13 2) (σ 14) 9 4 x1 = x3 then rt_ (σ 13 2) (σ 14) 9 5 x1 else 0)) + x4))]) c_155_64 mi_55 rfl rfl (Nat.le_of_ble_eq_true rfl) (Nat.le_of_ble_eq_true rfl) (lo (c := 7) (kd := 104) (n := 0) rfl (by decide)) (q_at (ow_mills tw_2) r27 (by decide) ?_)
        show wi (d + 8) 155 67 [.ref 1, .int (wI x1), .int (wI x2), .int (wI x3), .int (wI x4), .int (wI (v28 - (if (rt_ (σ 13 2) (σ 14) 9 3 x1 = 1 ∨ rt_ (σ 13 2) (σ 14) 9 3 x1 = 2) ∧ rt_ (σ 13 2) (σ 14) 9 4 x1 = x3 then rt_ (σ 13 2) (σ 14) 9 5 x1 else 0)))] [.int (wI (rt_ (σ 7 2) (σ 8) 13 0 x3)), .int (wI ((v28 - (if (rt_ (σ 13 2) (σ 14) 9 3 x1 = 1 ∨ rt_ (σ 13 2) (σ 14) 9 3 x1 = 2) ∧ rt_ (σ 13 2) (σ 14) 9 4 x1 = x3 then rt_ (σ 13 2) (σ 14) 9 5 x1 else 0)) + x4))] S σ τ Q
        obtain ⟨r36, t⟩ := t
        refine i37 c_155_67 r36 (rg_rt_ (fun k => kO_r K35 _ k) _ _ _ _) rfl (fun hc => ?_) (fun hc => ?_)
        · have t := iT t hc
          have ha37 : (rt_ (σ 7 2) (σ 8) 13 0 x3) < ((v28 - (if (rt_ (σ 13 2) (σ 14) 9 3 x1 = 1 ∨ rt_ (σ 13 2) (σ 14) 9 3 x1 = 2) ∧ rt_ (σ 13 2) (σ 14) 9 4 x1 = x3 then rt_ (σ 13 2) (σ 14) 9 5 x1 else 0)) + x4) := hc
          refine i1 c_155_74 ?_
          exact i91 c_155_75 (by decide) t
        · have t := iF t hc
          have ha37 : ¬ ((rt_ (σ 7 2) (σ 8) 13 0 x3) < ((v28 - (if (rt_ (σ 13 2) (σ 14) 9 3 x1 = 1 ∨ rt_ (σ 13 2) (σ 14) 9 3 x1 = 2) ∧ rt_ (σ 13 2) (σ 14) 9 4 x1 = x3 then rt_ (σ 13 2) (σ 14) 9 5 x1 else 0)) + x4)) := hc
          refine i1 c_155_70 (i38 c_155_71 rfl ?_)
          exact i91 c_155_75 (by decide) t
      · have t := iF t hc
        have ha34 : ¬ (1 ≤ x4 ∧ x4 ≤ 2) := hc
        refine i1 c_155_74 ?_
        exact i91 c_155_75 (by decide) t
theorem q_155 {d : Nat} {S : zS} {σ τ : zI} {Q : zQ} {p : Int} {s : Int} {m : Int} {n : Int} {a : Int → Int} (p0 : RT σ 2 a) (p1 : Jv a) (p2 : 0 ≤ p ∧ p < a 4) (p3 : 0 ≤ m ∧ m < a 1) (p4 : 1 ≤ s ∧ s ≤ 4) (p5 : rg n) (t : Q (some (.int (wI (if (s = 1 ∧ (1 ≤ n ∧ n ≤ 6) ∧ r_had a m p + n ≤ a (3300 + 16 * m + 0)) ∨ (s = 2 ∧ (1 ≤ n ∧ n ≤ 2) ∧ r_had a m p + n ≤ a (3300 + 16 * m + 0)) ∨ (3 ≤ s ∧ (1 ≤ n ∧ n ≤ 50) ∧ (s = 4 → a (3652 + 12 * p + 1) < 18)) then 1 else 0)))) S σ τ) : wc (d + 8) 155 [.ref 1, .int (wI p), .int (wI s), .int (wI m), .int (wI n)] S σ τ Q := by
  have hC := jC p1
  unfold jv_C at hC
  have l2 := tl_2 p0
  have hP := jP p1 p p2.1 p2.2
  have hM := jM p1 m p3.1 p3.2
  have hb := r_had_but (m := m) p2
  have e3 : rt_ (σ 13 2) (σ 14) 9 3 p = a (3652 + 12 * p + 3) := vP p0 p2 (by omega)
  have e4 : rt_ (σ 13 2) (σ 14) 9 4 p = a (3652 + 12 * p + 4) := vP p0 p2 (by omega)
  have e5 : rt_ (σ 13 2) (σ 14) 9 5 p = a (3652 + 12 * p + 5) := vP p0 p2 (by omega)
  have e1 : rt_ (σ 13 2) (σ 14) 9 1 p = a (3652 + 12 * p + 1) := vP p0 p2 (by omega)
  have em : rt_ (σ 7 2) (σ 8) 13 0 m = a (3300 + 16 * m + 0) := vM0 p0 p3
  have ee : (if (a (3652 + 12 * p + 3) = 1 ∨ a (3652 + 12 * p + 3) = 2) ∧ a (3652 + 12 * p + 4) = m then a (3652 + 12 * p + 5) else 0) = (if a (3652 + 12 * p + 4) = m then (if 1 ≤ a (3652 + 12 * p + 3) ∧ a (3652 + 12 * p + 3) ≤ 2 then a (3652 + 12 * p + 5) else 0) else 0) := by
    repeat' (first | omega | split)
  refine wc_of mi_155 rfl (u_155_0 ⟨by omega, ?_⟩)
  rw [e1, em]
  rw [e3, e4, e5, ee]
  have hw : r_had a m (-1) - (if a (3652 + 12 * p + 4) = m then (if 1 ≤ a (3652 + 12 * p + 3) ∧ a (3652 + 12 * p + 3) ≤ 2 then a (3652 + 12 * p + 5) else 0) else 0) = r_had a m p := by omega
  have t0 : ¬ ((s = 1 ∧ (1 ≤ n ∧ n ≤ 6) ∧ r_had a m p + n ≤ a (3300 + 16 * m + 0)) ∨ (s = 2 ∧ (1 ≤ n ∧ n ≤ 2) ∧ r_had a m p + n ≤ a (3300 + 16 * m + 0)) ∨ (3 ≤ s ∧ (1 ≤ n ∧ n ≤ 50) ∧ (s = 4 → a (3652 + 12 * p + 1) < 18))) → Q (some (.int (wI 0))) S σ τ := fun h => by rw [if_neg h] at t; exact t
  have t1 : ((s = 1 ∧ (1 ≤ n ∧ n ≤ 6) ∧ r_had a m p + n ≤ a (3300 + 16 * m + 0)) ∨ (s = 2 ∧ (1 ≤ n ∧ n ≤ 2) ∧ r_had a m p + n ≤ a (3300 + 16 * m + 0)) ∨ (3 ≤ s ∧ (1 ≤ n ∧ n ≤ 50) ∧ (s = 4 → a (3652 + 12 * p + 1) < 18))) → Q (some (.int (wI 1))) S σ τ := fun h => by rw [if_pos h] at t; exact t
  clear t hP hb ee
  refine ifI (fun s1 => ?_) (fun s1 => ?_)
  · refine ⟨a, p0, p1, by omega, ?_⟩
    intro v hv hb
    subst hv
    rw [hw]
    have hr : 0 ≤ r_had a m p + 6000 ∧ r_had a m p ≤ 6000 := by
      have := sI_b (f := fun q => if q = p then 0 else if a (3652 + 12 * q + 4) = m then (if 1 ≤ a (3652 + 12 * q + 3) ∧ a (3652 + 12 * q + 3) ≤ 2 then a (3652 + 12 * q + 5) else 0) else 0) (n := a 4) (lo := 0) (hi := 50) (by omega) (fun q h0 h1 => by
        have := jP p1 q h0 h1
        try dsimp only
        repeat' (first | omega | split))
      unfold r_had
      omega
    refine ⟨by omega, p5, ?_⟩
    refine ifI (fun h => ?_) (fun h => ?_)
    · refine ⟨by omega, ?_⟩
      exact ifI (fun h2 => t0 (by omega)) (fun h2 => t1 (by omega))
    · exact t0 (by omega)
  refine ifI (fun s2 => ?_) (fun s2 => ?_)
  · refine ⟨a, p0, p1, by omega, ?_⟩
    intro v hv hb
    subst hv
    rw [hw]
    have hr : 0 ≤ r_had a m p + 6000 ∧ r_had a m p ≤ 6000 := by
      have := sI_b (f := fun q => if q = p then 0 else if a (3652 + 12 * q + 4) = m then (if 1 ≤ a (3652 + 12 * q + 3) ∧ a (3652 + 12 * q + 3) ≤ 2 then a (3652 + 12 * q + 5) else 0) else 0) (n := a 4) (lo := 0) (hi := 50) (by omega) (fun q h0 h1 => by
        have := jP p1 q h0 h1
        try dsimp only
        repeat' (first | omega | split))
      unfold r_had
      omega
    refine ⟨by omega, p5, ?_⟩
    refine ifI (fun h => ?_) (fun h => ?_)
    · refine ⟨by omega, ?_⟩
      exact ifI (fun h2 => t0 (by omega)) (fun h2 => t1 (by omega))
    · exact t0 (by omega)
  refine ⟨p5, ?_⟩
  refine ifI (fun h => ?_) (fun h => ?_)
  · refine ifI (fun h3 => ?_) (fun h3 => ?_)
    · exact t1 (by omega)
    · refine ⟨by omega, ?_⟩
      exact ifI (fun h2 => t0 (by omega)) (fun h2 => t1 (by omega))
  · exact t0 (by omega)
