/-! ===== the reference: feeding, images, the last askings (segments printed by wip/whole, contracts own work) ===== -/
def r_feed (tp : Int → Int) (n a b c d e : Int) : Int → Int := r_four (r_four (r_four (r_four (r_four tp n a) (n + 4) b) (n + 4 + 4) c) (n + 4 + 4 + 4) d) (n + 4 + 4 + 4 + 4) e
def cpA (f g : Int → Int) : Int → Int := fun j => if 0 ≤ j ∧ j < 112300 then f j else g j
-- method 226: MillTownModel.feed(IIIII)I
theorem c_226_0 : pg_cd 226 0 = (5, 1, 0, 0, 0) := by decide +kernel
theorem c_226_1 : pg_cd 226 1 = (43, 12, 128, 4, 0) := by decide +kernel
theorem c_226_4 : pg_cd 226 4 = (1, 2, 0, 0, 20) := by decide +kernel
theorem c_226_6 : pg_cd 226 6 = (10, 1, 0, 0, 0) := by decide +kernel
theorem c_226_7 : pg_cd 226 7 = (1, 3, 0, 0, 300) := by decide +kernel
theorem c_226_10 : pg_cd 226 10 = (37, 3, 0, 5, 5) := by decide +kernel
theorem c_226_13 : pg_cd 226 13 = (1, 1, 0, 0, (-1)) := by decide +kernel
theorem c_226_14 : pg_cd 226 14 = (90, 0, 0, 0, 0) := by decide +kernel
theorem c_226_15 : pg_cd 226 15 = (5, 1, 0, 0, 0) := by decide +kernel
theorem c_226_16 : pg_cd 226 16 = (3, 1, 0, 1, 0) := by decide +kernel
theorem c_226_17 : pg_cd 226 17 = (80, 225, 131, 0, 0) := by decide +kernel
theorem c_226_20 : pg_cd 226 20 = (5, 1, 0, 0, 0) := by decide +kernel
theorem c_226_21 : pg_cd 226 21 = (3, 1, 0, 2, 0) := by decide +kernel
theorem c_226_22 : pg_cd 226 22 = (80, 225, 131, 0, 0) := by decide +kernel
theorem c_226_25 : pg_cd 226 25 = (5, 1, 0, 0, 0) := by decide +kernel
theorem c_226_26 : pg_cd 226 26 = (3, 1, 0, 3, 0) := by decide +kernel
theorem c_226_27 : pg_cd 226 27 = (80, 225, 131, 0, 0) := by decide +kernel
theorem c_226_30 : pg_cd 226 30 = (5, 1, 0, 0, 0) := by decide +kernel
theorem c_226_31 : pg_cd 226 31 = (3, 2, 0, 4, 0) := by decide +kernel
theorem c_226_33 : pg_cd 226 33 = (80, 225, 131, 0, 0) := by decide +kernel
theorem c_226_36 : pg_cd 226 36 = (5, 1, 0, 0, 0) := by decide +kernel
theorem c_226_37 : pg_cd 226 37 = (3, 2, 0, 5, 0) := by decide +kernel
theorem c_226_39 : pg_cd 226 39 = (80, 225, 131, 0, 0) := by decide +kernel
theorem c_226_42 : pg_cd 226 42 = (5, 1, 0, 0, 0) := by decide +kernel
theorem c_226_43 : pg_cd 226 43 = (43, 12, 128, 4, 0) := by decide +kernel
theorem c_226_46 : pg_cd 226 46 = (90, 0, 0, 0, 0) := by decide +kernel
theorem mi_226 : pg_mc 226 = 12 ∧ pg_na 226 = 5 ∧ pg_mx 226 = 6 := by decide +kernel
set_option maxRecDepth 20000 in
theorem u_226_0 {d : Nat} {S : zS} {σ τ : zI} {Q : zQ} {x1 : Int} {x2 : Int} {x3 : Int} {x4 : Int} {x5 : Int} (t : (rg ((σ 83 4) + 20)) ∧ if ((σ 83 4) + 20) ≤ 300 then ((rg x1) ∧ (0 ≤ σ 83 4 ∧ σ 83 4 ≤ 296) ∧ ∀ (σ16 : zI), σ16 87 = r_four (σ 87) (σ 83 4) x1 → σ16 83 = u1 (σ 83) 4 (σ 83 4 + 4) → (∀ c, c ≠ 83 → c ≠ 87 → σ16 c = σ c) → (rg x2) ∧ (0 ≤ σ16 83 4 ∧ σ16 83 4 ≤ 296) ∧ ∀ (σ112 : zI), σ112 87 = r_four (σ16 87) (σ16 83 4) x2 → σ112 83 = u1 (σ16 83) 4 (σ16 83 4 + 4) → (∀ c, c ≠ 83 → c ≠ 87 → σ112 c = σ16 c) → (rg x3) ∧ (0 ≤ σ112 83 4 ∧ σ112 83 4 ≤ 296) ∧ ∀ (σ118 : zI), σ118 87 = r_four (σ112 87) (σ112 83 4) x3 → σ118 83 = u1 (σ112 83) 4 (σ112 83 4 + 4) → (∀ c, c ≠ 83 → c ≠ 87 → σ118 c = σ112 c) → (rg x4) ∧ (0 ≤ σ118 83 4 ∧ σ118 83 4 ≤ 296) ∧ ∀ (σ124 : zI), σ124 87 = r_four (σ118 87) (σ118 83 4) x4 → σ124 83 = u1 (σ118 83) 4 (σ118 83 4 + 4) → (∀ c, c ≠ 83 → c ≠ 87 → σ124 c = σ118 c) → (rg x5) ∧ (0 ≤ σ124 83 4 ∧ σ124 83 4 ≤ 296) ∧ ∀ (σ130 : zI), σ130 87 = r_four (σ124 87) (σ124 83 4) x5 → σ130 83 = u1 (σ124 83) 4 (σ124 83 4 + 4) → (∀ c, c ≠ 83 → c ≠ 87 → σ130 c = σ124 c) → Q (some (.int (wI (σ130 83 4)))) S σ130 τ) else (Q (some (.int (wI (-1)))) S σ τ)) : wi (d + 1) 226 0 [.ref 83, .int (wI x1), .int (wI x2), .int (wI x3), .int (wI x4), .int (wI x5)] [] S σ τ Q := by
  refine i5 c_226_0 rfl (wi_ok (fun K1 => ?_))
  obtain ⟨r2, t⟩ := t
  refine i43 (v := σ 83 4) c_226_1 (lo (c := 83) (kd := 112) (n := 0) rfl (by decide)) rfl (i1 c_226_4 (i10 c_226_6 (i1 c_226_7 ?_)))
  refine i37 c_226_10 r2 (by decide) rfl (fun hc => ?_) (fun hc => ?_)
  · have t := iT t hc
    have ha3 : ((σ 83 4) + 20) ≤ 300 := hc
    obtain ⟨r4, t⟩ := t
    obtain ⟨p5, t⟩ := t
    refine i5 c_226_15 rfl (i3 c_226_16 rfl ?_)
    refine i80 (As := [.int (wI x1)]) (rest := []) c_226_17 mi_225 rfl rfl (Nat.le_of_ble_eq_true rfl) (Nat.le_of_ble_eq_true rfl) (lo (c := 83) (kd := 112) (n := 0) rfl (by decide)) (q_225 r4 p5 (fun σ16 q7 q8 q9 => ?_))
    have t := t σ16 q7 q8 q9
    show wi (d + 1) 226 20 [.ref 83, .int (wI x1), .int (wI x2), .int (wI x3), .int (wI x4), .int (wI x5)] [] S σ16 τ Q
    obtain ⟨r10, t⟩ := t
    obtain ⟨p11, t⟩ := t
    refine i5 c_226_20 rfl (i3 c_226_21 rfl ?_)
    refine i80 (As := [.int (wI x2)]) (rest := []) c_226_22 mi_225 rfl rfl (Nat.le_of_ble_eq_true rfl) (Nat.le_of_ble_eq_true rfl) (lo (c := 83) (kd := 112) (n := 0) rfl (by decide)) (q_225 r10 p11 (fun σ112 q13 q14 q15 => ?_))
    have t := t σ112 q13 q14 q15
    show wi (d + 1) 226 25 [.ref 83, .int (wI x1), .int (wI x2), .int (wI x3), .int (wI x4), .int (wI x5)] [] S σ112 τ Q
    obtain ⟨r16, t⟩ := t
    obtain ⟨p17, t⟩ := t
    refine i5 c_226_25 rfl (i3 c_226_26 rfl ?_)
    refine i80 (As := [.int (wI x3)]) (rest := []) c_226_27 mi_225 rfl rfl (Nat.le_of_ble_eq_true rfl) (Nat.le_of_ble_eq_true rfl) (lo (c := 83) (kd := 112) (n := 0) rfl (by decide)) (q_225 r16 p17 (fun σ118 q19 q20 q21 => ?_))
    have t := t σ118 q19 q20 q21
    show wi (d + 1) 226 30 [.ref 83, .int (wI x1), .int (wI x2), .int (wI x3), .int (wI x4), .int (wI x5)] [] S σ118 τ Q
    obtain ⟨r22, t⟩ := t
    obtain ⟨p23, t⟩ := t
    refine i5 c_226_30 rfl (i3 c_226_31 rfl ?_)
    refine i80 (As := [.int (wI x4)]) (rest := []) c_226_33 mi_225 rfl rfl (Nat.le_of_ble_eq_true rfl) (Nat.le_of_ble_eq_true rfl) (lo (c := 83) (kd := 112) (n := 0) rfl (by decide)) (q_225 r22 p23 (fun σ124 q25 q26 q27 => ?_))
    have t := t σ124 q25 q26 q27
    show wi (d + 1) 226 36 [.ref 83, .int (wI x1), .int (wI x2), .int (wI x3), .int (wI x4), .int (wI x5)] [] S σ124 τ Q
    obtain ⟨r28, t⟩ := t
    obtain ⟨p29, t⟩ := t
    refine i5 c_226_36 rfl (i3 c_226_37 rfl ?_)
    refine i80 (As := [.int (wI x5)]) (rest := []) c_226_39 mi_225 rfl rfl (Nat.le_of_ble_eq_true rfl) (Nat.le_of_ble_eq_true rfl) (lo (c := 83) (kd := 112) (n := 0) rfl (by decide)) (q_225 r28 p29 (fun σ130 q31 q32 q33 => ?_))
    have t := t σ130 q31 q32 q33
    show wi (d + 1) 226 42 [.ref 83, .int (wI x1), .int (wI x2), .int (wI x3), .int (wI x4), .int (wI x5)] [] S σ130 τ Q
    refine i5 c_226_42 rfl (wi_ok (fun K34 => ?_))
    refine i43 (v := σ130 83 4) c_226_43 (lo (c := 83) (kd := 112) (n := 0) rfl (by decide)) rfl ?_
    exact i90 c_226_46 t
  · have t := iF t hc
    have ha3 : ¬ (((σ 83 4) + 20) ≤ 300) := hc
    refine i1 c_226_13 ?_
    exact i90 c_226_14 t
theorem q_226 {d : Nat} {S : zS} {σ τ : zI} {Q : zQ} {a : Int} {b : Int} {c : Int} {dd : Int} {e : Int} (p0 : rg a) (p1 : rg b) (p2 : rg c) (p3 : rg dd) (p4 : rg e) (p5 : 0 ≤ σ 83 4 ∧ σ 83 4 ≤ 300) (t : ∀ (σ1 : zI), σ1 87 = (if σ 83 4 + 20 ≤ 300 then r_feed (σ 87) (σ 83 4) a b c dd e else σ 87) → σ1 83 = (if σ 83 4 + 20 ≤ 300 then u1 (σ 83) 4 (σ 83 4 + 20) else σ 83) → (∀ c, c ≠ 83 → c ≠ 87 → σ1 c = σ c) → Q (some (.int (wI (if σ 83 4 + 20 ≤ 300 then σ 83 4 + 20 else -1)))) S σ1 τ) : wc (d + 1) 226 [.ref 83, .int (wI a), .int (wI b), .int (wI c), .int (wI dd), .int (wI e)] S σ τ Q := by
  refine wc_of mi_226 rfl (u_226_0 ⟨by omega, ?_⟩)
  by_cases hk : σ 83 4 + 20 ≤ 300
  · rw [if_pos hk]
    refine ⟨p0, by omega, ?_⟩
    intro s1 a1 b1 c1
    have e1 : s1 83 4 = σ 83 4 + 4 := by rw [b1]; exact u1_s _ _ _
    refine ⟨p1, by omega, ?_⟩
    intro s2 a2 b2 c2
    have e2 : s2 83 4 = σ 83 4 + 4 + 4 := by rw [b2, u1_s, e1]
    refine ⟨p2, by omega, ?_⟩
    intro s3 a3 b3 c3
    have e3 : s3 83 4 = σ 83 4 + 4 + 4 + 4 := by rw [b3, u1_s, e2]
    refine ⟨p3, by omega, ?_⟩
    intro s4 a4 b4 c4
    have e4 : s4 83 4 = σ 83 4 + 4 + 4 + 4 + 4 := by rw [b4, u1_s, e3]
    refine ⟨p4, by omega, ?_⟩
    intro s5 a5 b5 c5
    have e5 : s5 83 4 = σ 83 4 + 20 := by rw [b5, u1_s, e4]; omega
    have t := t s5 ?_ ?_ ?_
    · rw [if_pos hk] at t
      rw [e5]
      exact t
    · rw [if_pos hk]
      unfold r_feed
      rw [a5, a4, a3, a2, a1, e1, e2, e3, e4]
    · have f2 : s2 83 = u1 (σ 83) 4 (σ 83 4 + 4 + 4) := by rw [b2, e1, b1, u1_u1]
      have f3 : s3 83 = u1 (σ 83) 4 (σ 83 4 + 4 + 4 + 4) := by rw [b3, e2, f2, u1_u1]
      have f4 : s4 83 = u1 (σ 83) 4 (σ 83 4 + 4 + 4 + 4 + 4) := by rw [b4, e3, f3, u1_u1]
      rw [if_pos hk, b5, e4, f4, u1_u1, show σ 83 4 + 4 + 4 + 4 + 4 + 4 = σ 83 4 + 20 by omega]
    · intro c h1 h2
      rw [c5 c h1 h2, c4 c h1 h2, c3 c h1 h2, c2 c h1 h2, c1 c h1 h2]
  · rw [if_neg hk]
    have t := t σ ?_ ?_ (fun _ _ _ => rfl)
    · rw [if_neg hk] at t
      exact t
    · rw [if_neg hk]
    · rw [if_neg hk]
-- method 195: MillTownModel.copy([I[I)V
theorem c_195_0 : pg_cd 195 0 = (1, 1, 0, 0, 0) := by decide +kernel
theorem c_195_1 : pg_cd 195 1 = (6, 1, 0, 2, 0) := by decide +kernel
theorem c_195_2 : pg_cd 195 2 = (3, 1, 0, 2, 0) := by decide +kernel
theorem c_195_3 : pg_cd 195 3 = (1, 2, 7, 0, 112300) := by decide +kernel
theorem c_195_5 : pg_cd 195 5 = (37, 3, 0, 3, 15) := by decide +kernel
theorem c_195_8 : pg_cd 195 8 = (5, 1, 0, 1, 0) := by decide +kernel
theorem c_195_9 : pg_cd 195 9 = (3, 1, 0, 2, 0) := by decide +kernel
theorem c_195_10 : pg_cd 195 10 = (5, 1, 0, 0, 0) := by decide +kernel
theorem c_195_11 : pg_cd 195 11 = (3, 1, 0, 2, 0) := by decide +kernel
theorem c_195_12 : pg_cd 195 12 = (50, 1, 0, 0, 0) := by decide +kernel
theorem c_195_13 : pg_cd 195 13 = (54, 1, 0, 0, 0) := by decide +kernel
theorem c_195_14 : pg_cd 195 14 = (9, 3, 0, 2, 1) := by decide +kernel
theorem c_195_17 : pg_cd 195 17 = (38, 3, 0, 0, (-15)) := by decide +kernel
theorem c_195_20 : pg_cd 195 20 = (94, 0, 0, 0, 0) := by decide +kernel
theorem mi_195 : pg_mc 195 = 12 ∧ pg_na 195 = 2 ∧ pg_mx 195 = 3 := by decide +kernel
set_option maxRecDepth 20000 in
theorem u_195_0 {d : Nat} {S : zS} {σ τ : zI} {Q : zQ} {x0 : Nat} {x1 : Nat} (hx0 : (∀ σ τ, kO S σ τ → oK S x0 0 112300) ∧ isR x0 = false) (hx1 : (∀ σ τ, kO S σ τ → oK S x1 0 112300) ∧ isR x1 = false) (t : wi (d + 0) 195 2 [.ref x0, .ref x1, .int (wI 0)] [] S σ τ Q) : wi (d + 0) 195 0 [.ref x0, .ref x1, .retAddr 0] [] S σ τ Q := by
  refine i1 c_195_0 (i6 (L' := [.ref x0, .ref x1, .int (wI 0)]) c_195_1 rfl t)
set_option maxRecDepth 20000 in
theorem u_195_2 {d : Nat} {S : zS} {σ τ : zI} {Q : zQ} {x0 : Nat} {x1 : Nat} {x2 : Int} (hx0 : (∀ σ τ, kO S σ τ → oK S x0 0 112300) ∧ isR x0 = false) (hx1 : (∀ σ τ, kO S σ τ → oK S x1 0 112300) ∧ isR x1 = false) (t : (rg x2) ∧ if (112300 : Int) ≤ x2 then (Q none S σ τ) else ((0 ≤ x2 ∧ x2 < 112300) ∧ wi (d + 0) 195 2 [.ref x0, .ref x1, .int (wI (x2 + 1))] [] S (uc σ x1 (u1 (σ x1) x2 (σ x0 x2))) τ Q)) : wi (d + 0) 195 2 [.ref x0, .ref x1, .int (wI x2)] [] S σ τ Q := by
  obtain ⟨r1, t⟩ := t
  refine i3 c_195_2 rfl (i1 c_195_3 ?_)
  refine i37 c_195_5 r1 (by decide) rfl (fun hc => ?_) (fun hc => ?_)
  · have t := iT t hc
    have ha2 : (112300 : Int) ≤ x2 := hc
    exact i94 c_195_20 t
  · have t := iF t hc
    have ha2 : ¬ ((112300 : Int) ≤ x2) := hc
    obtain ⟨r3, t⟩ := t
    refine i5 c_195_8 rfl (i3 c_195_9 rfl (i5 c_195_10 rfl (i3 c_195_11 rfl (wi_ok (fun K4 => ?_)))))
    refine i50 (v := σ x0 x2) c_195_12 (hx0.1 _ _) (by decide) r3 rfl (i54 (σ1 := uc σ x1 (u1 (σ x1) x2 (σ x0 x2))) c_195_13 (hx1.1 _ _) (by decide) r3 hx1.2 rfl (rge_ K4 rfl) (wr_ rfl rfl) (i9 (L' := [.ref x0, .ref x1, .int (wI (x2 + 1))]) c_195_14 rfl rfl (i38 c_195_17 rfl t)))
theorem q_195 {d : Nat} {S : zS} {σ τ : zI} {Q : zQ} {from_ : Nat} {to : Nat} (hfrom_ : (∀ σ τ, kO S σ τ → oK S from_ 0 112300) ∧ isR from_ = false) (hto : (∀ σ τ, kO S σ τ → oK S to 0 112300) ∧ isR to = false) (p0 : from_ ≠ to) (t : Q none S (uc σ to (cpA (σ from_) (σ to))) τ) : wc (d + 0) 195 [.ref from_, .ref to] S σ τ Q := by
  refine wc_of mi_195 rfl (u_195_0 hfrom_ hto ?_)
  have key : ∀ k, 0 ≤ k → k ≤ 112300 → wi (d + 0) 195 2 [.ref from_, .ref to, .int (wI k)] [] S (uc σ to (fun j => if 0 ≤ j ∧ j < k then σ from_ j else σ to j)) τ Q := by
    refine lp_up (fun k h0 h1 ih => ?_)
    refine u_195_2 hfrom_ hto ⟨by omega, ?_⟩
    by_cases c : 112300 ≤ k
    · have : k = 112300 := by omega
      subst this
      rw [if_pos (by omega)]
      exact t
    · rw [if_neg c]
      refine ⟨by omega, ?_⟩
      have ih := ih (by omega)
      rw [uc_uc, uc_s, uc_n p0]
      have e : (fun j => if 0 ≤ j ∧ j < k + 1 then σ from_ j else σ to j) = u1 (fun j => if 0 ≤ j ∧ j < k then σ from_ j else σ to j) k (σ from_ k) := by
        funext j
        unfold u1
        by_cases q : j = k
        · subst q; rw [if_pos rfl, if_pos (by omega)]
        · rw [if_neg q]
          dsimp only
          by_cases q2 : 0 ≤ j ∧ j < k
          · rw [if_pos (by omega), if_pos q2]
          · rw [if_neg (by omega), if_neg q2]
      rw [e] at ih
      exact ih
  have := key 0 (by omega) (by omega)
  have e : (fun j => if 0 ≤ j ∧ j < 0 then σ from_ j else σ to j) = σ to := by
    funext j
    rw [if_neg (by omega)]
  rw [e, uc_id] at this
  exact this
-- method 324: MillTownModel.image()I
theorem c_324_0 : pg_cd 324 0 = (5, 1, 0, 0, 0) := by decide +kernel
theorem c_324_1 : pg_cd 324 1 = (45, 12, 8, 0, 0) := by decide +kernel
theorem c_324_4 : pg_cd 324 4 = (5, 1, 0, 0, 0) := by decide +kernel
theorem c_324_5 : pg_cd 324 5 = (45, 12, 14, 1, 0) := by decide +kernel
theorem c_324_8 : pg_cd 324 8 = (81, 195, 72, 0, 0) := by decide +kernel
theorem c_324_11 : pg_cd 324 11 = (5, 1, 0, 0, 0) := by decide +kernel
theorem c_324_12 : pg_cd 324 12 = (45, 12, 8, 0, 0) := by decide +kernel
theorem c_324_15 : pg_cd 324 15 = (1, 1, 0, 0, 0) := by decide +kernel
theorem c_324_16 : pg_cd 324 16 = (50, 1, 0, 0, 0) := by decide +kernel
theorem c_324_17 : pg_cd 324 17 = (90, 0, 0, 0, 0) := by decide +kernel
theorem mi_324 : pg_mc 324 = 12 ∧ pg_na 324 = 0 ∧ pg_mx 324 = 1 := by decide +kernel
set_option maxRecDepth 20000 in
theorem u_324_0 {d : Nat} {S : zS} {σ τ : zI} {Q : zQ} (t : (84 ≠ 85) ∧ Q (some (.int (wI (σ 84 0)))) S (uc σ 85 (cpA ((σ 84)) ((σ 85)))) τ) : wi (d + 1) 324 0 [.ref 83] [] S σ τ Q := by
  obtain ⟨p1, t⟩ := t
  refine i5 c_324_0 rfl (i45 c_324_1 (lo (c := 83) (kd := 112) (n := 0) rfl (by decide)) (lro (c := 83) (k := 0) (j := 84) (by decide)) (i5 c_324_4 rfl (i45 c_324_5 (lo (c := 83) (kd := 112) (n := 0) rfl (by decide)) (lro (c := 83) (k := 1) (j := 85) (by decide)) ?_)))
  refine i81 (As := [.ref 84, .ref 85]) (rest := []) c_324_8 mi_195 rfl rfl (Nat.le_of_ble_eq_true rfl) (Nat.le_of_ble_eq_true rfl) (q_195 ⟨fun _ _ => (lo (c := 84) (kd := 0) (n := 112300) rfl (by decide)), (by decide)⟩ ⟨fun _ _ => (lo (c := 85) (kd := 0) (n := 112300) rfl (by decide)), (by decide)⟩ p1 ?_)
  show wi (d + 1) 324 11 [.ref 83] [] S (uc σ 85 (cpA ((σ 84)) ((σ 85)))) τ Q
  refine i5 c_324_11 rfl (i45 c_324_12 (lo (c := 83) (kd := 112) (n := 0) rfl (by decide)) (lro (c := 83) (k := 0) (j := 84) (by decide)) (i1 c_324_15 (wi_ok (fun K2 => ?_))))
  refine i50 (v := σ 84 0) c_324_16 (lo (c := 84) (kd := 0) (n := 112300) rfl (by decide)) (by decide) (by decide) (congrFun (uc_ns rfl (by decide)) _) ?_
  exact i90 c_324_17 t
theorem q_324 {d : Nat} {S : zS} {σ τ : zI} {Q : zQ} (t : Q (some (.int (wI (σ 84 0)))) S (uc σ 85 (cpA (σ 84) (σ 85))) τ) : wc (d + 1) 324 [.ref 83] S σ τ Q := by
  exact wc_of mi_324 rfl (u_324_0 ⟨by decide, t⟩)
-- method 325: MillTownModel.back()I
theorem c_325_0 : pg_cd 325 0 = (5, 1, 0, 0, 0) := by decide +kernel
theorem c_325_1 : pg_cd 325 1 = (45, 12, 14, 1, 0) := by decide +kernel
theorem c_325_4 : pg_cd 325 4 = (5, 1, 0, 0, 0) := by decide +kernel
theorem c_325_5 : pg_cd 325 5 = (45, 12, 8, 0, 0) := by decide +kernel
theorem c_325_8 : pg_cd 325 8 = (81, 195, 72, 0, 0) := by decide +kernel
theorem c_325_11 : pg_cd 325 11 = (5, 1, 0, 0, 0) := by decide +kernel
theorem c_325_12 : pg_cd 325 12 = (45, 12, 8, 0, 0) := by decide +kernel
theorem c_325_15 : pg_cd 325 15 = (1, 1, 0, 0, 0) := by decide +kernel
theorem c_325_16 : pg_cd 325 16 = (50, 1, 0, 0, 0) := by decide +kernel
theorem c_325_17 : pg_cd 325 17 = (90, 0, 0, 0, 0) := by decide +kernel
theorem mi_325 : pg_mc 325 = 12 ∧ pg_na 325 = 0 ∧ pg_mx 325 = 1 := by decide +kernel
set_option maxRecDepth 20000 in
theorem u_325_0 {d : Nat} {S : zS} {σ τ : zI} {Q : zQ} (t : (85 ≠ 84) ∧ Q (some (.int (wI (cpA ((σ 85)) ((σ 84)) 0)))) S (uc σ 84 (cpA ((σ 85)) ((σ 84)))) τ) : wi (d + 1) 325 0 [.ref 83] [] S σ τ Q := by
  obtain ⟨p1, t⟩ := t
  refine i5 c_325_0 rfl (i45 c_325_1 (lo (c := 83) (kd := 112) (n := 0) rfl (by decide)) (lro (c := 83) (k := 1) (j := 85) (by decide)) (i5 c_325_4 rfl (i45 c_325_5 (lo (c := 83) (kd := 112) (n := 0) rfl (by decide)) (lro (c := 83) (k := 0) (j := 84) (by decide)) ?_)))
  refine i81 (As := [.ref 85, .ref 84]) (rest := []) c_325_8 mi_195 rfl rfl (Nat.le_of_ble_eq_true rfl) (Nat.le_of_ble_eq_true rfl) (q_195 ⟨fun _ _ => (lo (c := 85) (kd := 0) (n := 112300) rfl (by decide)), (by decide)⟩ ⟨fun _ _ => (lo (c := 84) (kd := 0) (n := 112300) rfl (by decide)), (by decide)⟩ p1 ?_)
  show wi (d + 1) 325 11 [.ref 83] [] S (uc σ 84 (cpA ((σ 85)) ((σ 84)))) τ Q
  refine i5 c_325_11 rfl (i45 c_325_12 (lo (c := 83) (kd := 112) (n := 0) rfl (by decide)) (lro (c := 83) (k := 0) (j := 84) (by decide)) (i1 c_325_15 (wi_ok (fun K2 => ?_))))
  refine i50 (v := cpA ((σ 85)) ((σ 84)) 0) c_325_16 (lo (c := 84) (kd := 0) (n := 112300) rfl (by decide)) (by decide) (by decide) (congrFun (uc_s _ _ _) _) ?_
  exact i90 c_325_17 t
theorem q_325 {d : Nat} {S : zS} {σ τ : zI} {Q : zQ} (t : Q (some (.int (wI (σ 85 0)))) S (uc σ 84 (cpA (σ 85) (σ 84))) τ) : wc (d + 1) 325 [.ref 83] S σ τ Q := by
  refine wc_of mi_325 rfl (u_325_0 ⟨by decide, ?_⟩)
  have e : cpA (σ 85) (σ 84) 0 = σ 85 0 := by unfold cpA; rw [if_pos (by omega)]
  rw [e]
  exact t
-- method 326: MillTownModel.about(I)I
theorem c_326_0 : pg_cd 326 0 = (3, 1, 0, 1, 0) := by decide +kernel
theorem c_326_1 : pg_cd 326 1 = (42, 9, 79, 0, 0) := by decide +kernel
theorem c_326_80 : pg_cd 326 80 = (5, 1, 0, 0, 0) := by decide +kernel
theorem c_326_81 : pg_cd 326 81 = (45, 12, 8, 0, 0) := by decide +kernel
theorem c_326_84 : pg_cd 326 84 = (1, 1, 0, 0, 0) := by decide +kernel
theorem c_326_85 : pg_cd 326 85 = (50, 1, 0, 0, 0) := by decide +kernel
theorem c_326_86 : pg_cd 326 86 = (90, 0, 0, 0, 0) := by decide +kernel
theorem c_326_87 : pg_cd 326 87 = (5, 1, 0, 0, 0) := by decide +kernel
theorem c_326_88 : pg_cd 326 88 = (45, 12, 8, 0, 0) := by decide +kernel
theorem c_326_91 : pg_cd 326 91 = (1, 1, 0, 0, 1) := by decide +kernel
theorem c_326_92 : pg_cd 326 92 = (50, 1, 0, 0, 0) := by decide +kernel
theorem c_326_93 : pg_cd 326 93 = (90, 0, 0, 0, 0) := by decide +kernel
theorem c_326_94 : pg_cd 326 94 = (5, 1, 0, 0, 0) := by decide +kernel
theorem c_326_95 : pg_cd 326 95 = (45, 12, 8, 0, 0) := by decide +kernel
theorem c_326_98 : pg_cd 326 98 = (1, 1, 0, 0, 2) := by decide +kernel
theorem c_326_99 : pg_cd 326 99 = (50, 1, 0, 0, 0) := by decide +kernel
theorem c_326_100 : pg_cd 326 100 = (90, 0, 0, 0, 0) := by decide +kernel
theorem c_326_101 : pg_cd 326 101 = (5, 1, 0, 0, 0) := by decide +kernel
theorem c_326_102 : pg_cd 326 102 = (45, 12, 8, 0, 0) := by decide +kernel
theorem c_326_105 : pg_cd 326 105 = (1, 1, 0, 0, 3) := by decide +kernel
theorem c_326_106 : pg_cd 326 106 = (50, 1, 0, 0, 0) := by decide +kernel
theorem c_326_107 : pg_cd 326 107 = (90, 0, 0, 0, 0) := by decide +kernel
theorem c_326_108 : pg_cd 326 108 = (5, 1, 0, 0, 0) := by decide +kernel
theorem c_326_109 : pg_cd 326 109 = (45, 12, 8, 0, 0) := by decide +kernel
theorem c_326_112 : pg_cd 326 112 = (1, 1, 0, 0, 4) := by decide +kernel
theorem c_326_113 : pg_cd 326 113 = (50, 1, 0, 0, 0) := by decide +kernel
theorem c_326_114 : pg_cd 326 114 = (90, 0, 0, 0, 0) := by decide +kernel
theorem c_326_115 : pg_cd 326 115 = (5, 1, 0, 0, 0) := by decide +kernel
theorem c_326_116 : pg_cd 326 116 = (45, 12, 8, 0, 0) := by decide +kernel
theorem c_326_119 : pg_cd 326 119 = (1, 1, 0, 0, 5) := by decide +kernel
theorem c_326_120 : pg_cd 326 120 = (50, 1, 0, 0, 0) := by decide +kernel
theorem c_326_121 : pg_cd 326 121 = (90, 0, 0, 0, 0) := by decide +kernel
theorem c_326_122 : pg_cd 326 122 = (5, 1, 0, 0, 0) := by decide +kernel
theorem c_326_123 : pg_cd 326 123 = (45, 12, 8, 0, 0) := by decide +kernel
theorem c_326_126 : pg_cd 326 126 = (1, 2, 0, 0, 6) := by decide +kernel
theorem c_326_128 : pg_cd 326 128 = (50, 1, 0, 0, 0) := by decide +kernel
theorem c_326_129 : pg_cd 326 129 = (90, 0, 0, 0, 0) := by decide +kernel
theorem c_326_130 : pg_cd 326 130 = (5, 1, 0, 0, 0) := by decide +kernel
theorem c_326_131 : pg_cd 326 131 = (45, 12, 8, 0, 0) := by decide +kernel
theorem c_326_134 : pg_cd 326 134 = (1, 2, 0, 0, 7) := by decide +kernel
theorem c_326_136 : pg_cd 326 136 = (50, 1, 0, 0, 0) := by decide +kernel
theorem c_326_137 : pg_cd 326 137 = (90, 0, 0, 0, 0) := by decide +kernel
theorem c_326_138 : pg_cd 326 138 = (5, 1, 0, 0, 0) := by decide +kernel
theorem c_326_139 : pg_cd 326 139 = (45, 12, 8, 0, 0) := by decide +kernel
theorem c_326_142 : pg_cd 326 142 = (1, 2, 0, 0, 8) := by decide +kernel
theorem c_326_144 : pg_cd 326 144 = (50, 1, 0, 0, 0) := by decide +kernel
theorem c_326_145 : pg_cd 326 145 = (90, 0, 0, 0, 0) := by decide +kernel
theorem c_326_146 : pg_cd 326 146 = (5, 1, 0, 0, 0) := by decide +kernel
theorem c_326_147 : pg_cd 326 147 = (45, 12, 8, 0, 0) := by decide +kernel
theorem c_326_150 : pg_cd 326 150 = (1, 2, 0, 0, 15) := by decide +kernel
theorem c_326_152 : pg_cd 326 152 = (50, 1, 0, 0, 0) := by decide +kernel
theorem c_326_153 : pg_cd 326 153 = (90, 0, 0, 0, 0) := by decide +kernel
theorem c_326_154 : pg_cd 326 154 = (5, 1, 0, 0, 0) := by decide +kernel
theorem c_326_155 : pg_cd 326 155 = (43, 12, 128, 4, 0) := by decide +kernel
theorem c_326_158 : pg_cd 326 158 = (90, 0, 0, 0, 0) := by decide +kernel
theorem c_326_159 : pg_cd 326 159 = (5, 1, 0, 0, 0) := by decide +kernel
theorem c_326_160 : pg_cd 326 160 = (45, 12, 8, 0, 0) := by decide +kernel
theorem c_326_163 : pg_cd 326 163 = (1, 2, 0, 0, 9) := by decide +kernel
theorem c_326_165 : pg_cd 326 165 = (50, 1, 0, 0, 0) := by decide +kernel
theorem c_326_166 : pg_cd 326 166 = (90, 0, 0, 0, 0) := by decide +kernel
theorem c_326_167 : pg_cd 326 167 = (5, 1, 0, 0, 0) := by decide +kernel
theorem c_326_168 : pg_cd 326 168 = (45, 12, 8, 0, 0) := by decide +kernel
theorem c_326_171 : pg_cd 326 171 = (1, 2, 0, 0, 10) := by decide +kernel
theorem c_326_173 : pg_cd 326 173 = (50, 1, 0, 0, 0) := by decide +kernel
theorem c_326_174 : pg_cd 326 174 = (90, 0, 0, 0, 0) := by decide +kernel
theorem c_326_175 : pg_cd 326 175 = (5, 1, 0, 0, 0) := by decide +kernel
theorem c_326_176 : pg_cd 326 176 = (45, 12, 8, 0, 0) := by decide +kernel
theorem c_326_179 : pg_cd 326 179 = (1, 2, 0, 0, 11) := by decide +kernel
theorem c_326_181 : pg_cd 326 181 = (50, 1, 0, 0, 0) := by decide +kernel
theorem c_326_182 : pg_cd 326 182 = (90, 0, 0, 0, 0) := by decide +kernel
theorem c_326_183 : pg_cd 326 183 = (5, 1, 0, 0, 0) := by decide +kernel
theorem c_326_184 : pg_cd 326 184 = (45, 12, 8, 0, 0) := by decide +kernel
theorem c_326_187 : pg_cd 326 187 = (1, 2, 0, 0, 12) := by decide +kernel
theorem c_326_189 : pg_cd 326 189 = (50, 1, 0, 0, 0) := by decide +kernel
theorem c_326_190 : pg_cd 326 190 = (90, 0, 0, 0, 0) := by decide +kernel
theorem c_326_191 : pg_cd 326 191 = (5, 1, 0, 0, 0) := by decide +kernel
theorem c_326_192 : pg_cd 326 192 = (45, 12, 8, 0, 0) := by decide +kernel
theorem c_326_195 : pg_cd 326 195 = (1, 1, 0, 0, 5) := by decide +kernel
theorem c_326_196 : pg_cd 326 196 = (50, 1, 0, 0, 0) := by decide +kernel
theorem c_326_197 : pg_cd 326 197 = (36, 3, 0, 1, 7) := by decide +kernel
theorem c_326_200 : pg_cd 326 200 = (1, 1, 0, 0, (-1)) := by decide +kernel
theorem c_326_201 : pg_cd 326 201 = (38, 3, 0, 0, 15) := by decide +kernel
theorem c_326_204 : pg_cd 326 204 = (5, 1, 0, 0, 0) := by decide +kernel
theorem c_326_205 : pg_cd 326 205 = (5, 1, 0, 0, 0) := by decide +kernel
theorem c_326_206 : pg_cd 326 206 = (45, 12, 8, 0, 0) := by decide +kernel
theorem c_326_209 : pg_cd 326 209 = (1, 1, 0, 0, 5) := by decide +kernel
theorem c_326_210 : pg_cd 326 210 = (50, 1, 0, 0, 0) := by decide +kernel
theorem c_326_211 : pg_cd 326 211 = (1, 1, 0, 0, 1) := by decide +kernel
theorem c_326_212 : pg_cd 326 212 = (11, 1, 0, 0, 0) := by decide +kernel
theorem c_326_213 : pg_cd 326 213 = (80, 266, 296, 0, 0) := by decide +kernel
theorem c_326_216 : pg_cd 326 216 = (90, 0, 0, 0, 0) := by decide +kernel
theorem c_326_217 : pg_cd 326 217 = (1, 1, 0, 0, (-1)) := by decide +kernel
theorem c_326_218 : pg_cd 326 218 = (90, 0, 0, 0, 0) := by decide +kernel
theorem mi_326 : pg_mc 326 = 12 ∧ pg_na 326 = 1 ∧ pg_mx 326 = 2 := by decide +kernel
theorem sw_9 : pg_sw 9 = (216, 0, 15, [79, 86, 93, 100, 107, 114, 121, 129, 137, 145, 153, 158, 166, 174, 182, 190]) := by decide +kernel
set_option maxRecDepth 20000 in
theorem u_326_0 {d : Nat} {S : zS} {σ τ : zI} {Q : zQ} {x1 : Int} (t : (rg x1) ∧ if x1 = 0 then (Q (some (.int (wI (σ 84 0)))) S σ τ) else (if x1 = 1 then (Q (some (.int (wI (σ 84 1)))) S σ τ) else (if x1 = 2 then (Q (some (.int (wI (σ 84 2)))) S σ τ) else (if x1 = 3 then (Q (some (.int (wI (σ 84 3)))) S σ τ) else (if x1 = 4 then (Q (some (.int (wI (σ 84 4)))) S σ τ) else (if x1 = 5 then (Q (some (.int (wI (σ 84 5)))) S σ τ) else (if x1 = 6 then (Q (some (.int (wI (σ 84 6)))) S σ τ) else (if x1 = 7 then (Q (some (.int (wI (σ 84 7)))) S σ τ) else (if x1 = 8 then (Q (some (.int (wI (σ 84 8)))) S σ τ) else (if x1 = 9 then (Q (some (.int (wI (σ 84 15)))) S σ τ) else (if x1 = 10 then (Q (some (.int (wI (σ 83 4)))) S σ τ) else (if x1 = 11 then (Q (some (.int (wI (σ 84 9)))) S σ τ) else (if x1 = 12 then (Q (some (.int (wI (σ 84 10)))) S σ τ) else (if x1 = 13 then (Q (some (.int (wI (σ 84 11)))) S σ τ) else (if x1 = 14 then (Q (some (.int (wI (σ 84 12)))) S σ τ) else (if x1 = 15 then (if (σ 84 5) = 0 then (Q (some (.int (wI (-1)))) S σ τ) else ((0 ≤ 5500 + 840 * ((σ 84 5) - 1) ∧ 5500 + 840 * ((σ 84 5) - 1) < 112300) ∧ Q (some (.int (wI (σ 84 (5500 + 840 * ((σ 84 5) - 1)))))) S σ τ)) else (Q (some (.int (wI (-1)))) S σ τ))))))))))))))))) : wi (d + 1) 326 0 [.ref 83, .int (wI x1)] [] S σ τ Q := by
  obtain ⟨r1, t⟩ := t
  refine i3 c_326_0 rfl ?_
  by_cases e0 : x1 = 0
  · have t := iT t e0
    refine i42 (o := 79) c_326_1 sw_9 0 e0 (by decide) (by decide) rfl rfl ?_
    refine i5 c_326_80 rfl (i45 c_326_81 (lo (c := 83) (kd := 112) (n := 0) rfl (by decide)) (lro (c := 83) (k := 0) (j := 84) (by decide)) (i1 c_326_84 (wi_ok (fun K2 => ?_))))
    refine i50 (v := σ 84 0) c_326_85 (lo (c := 84) (kd := 0) (n := 112300) rfl (by decide)) (by decide) (by decide) rfl ?_
    exact i90 c_326_86 t
  have t := iF t e0
  by_cases e1 : x1 = 1
  · have t := iT t e1
    refine i42 (o := 86) c_326_1 sw_9 1 e1 (by decide) (by decide) rfl rfl ?_
    refine i5 c_326_87 rfl (i45 c_326_88 (lo (c := 83) (kd := 112) (n := 0) rfl (by decide)) (lro (c := 83) (k := 0) (j := 84) (by decide)) (i1 c_326_91 (wi_ok (fun K3 => ?_))))
    refine i50 (v := σ 84 1) c_326_92 (lo (c := 84) (kd := 0) (n := 112300) rfl (by decide)) (by decide) (by decide) rfl ?_
    exact i90 c_326_93 t
  have t := iF t e1
  by_cases e2 : x1 = 2
  · have t := iT t e2
    refine i42 (o := 93) c_326_1 sw_9 2 e2 (by decide) (by decide) rfl rfl ?_
    refine i5 c_326_94 rfl (i45 c_326_95 (lo (c := 83) (kd := 112) (n := 0) rfl (by decide)) (lro (c := 83) (k := 0) (j := 84) (by decide)) (i1 c_326_98 (wi_ok (fun K4 => ?_))))
    refine i50 (v := σ 84 2) c_326_99 (lo (c := 84) (kd := 0) (n := 112300) rfl (by decide)) (by decide) (by decide) rfl ?_
    exact i90 c_326_100 t
  have t := iF t e2
  by_cases e3 : x1 = 3
  · have t := iT t e3
    refine i42 (o := 100) c_326_1 sw_9 3 e3 (by decide) (by decide) rfl rfl ?_
    refine i5 c_326_101 rfl (i45 c_326_102 (lo (c := 83) (kd := 112) (n := 0) rfl (by decide)) (lro (c := 83) (k := 0) (j := 84) (by decide)) (i1 c_326_105 (wi_ok (fun K5 => ?_))))
    refine i50 (v := σ 84 3) c_326_106 (lo (c := 84) (kd := 0) (n := 112300) rfl (by decide)) (by decide) (by decide) rfl ?_
    exact i90 c_326_107 t
  have t := iF t e3
  by_cases e4 : x1 = 4
  · have t := iT t e4
    refine i42 (o := 107) c_326_1 sw_9 4 e4 (by decide) (by decide) rfl rfl ?_
    refine i5 c_326_108 rfl (i45 c_326_109 (lo (c := 83) (kd := 112) (n := 0) rfl (by decide)) (lro (c := 83) (k := 0) (j := 84) (by decide)) (i1 c_326_112 (wi_ok (fun K6 => ?_))))
    refine i50 (v := σ 84 4) c_326_113 (lo (c := 84) (kd := 0) (n := 112300) rfl (by decide)) (by decide) (by decide) rfl ?_
    exact i90 c_326_114 t
  have t := iF t e4
  by_cases e5 : x1 = 5
  · have t := iT t e5
    refine i42 (o := 114) c_326_1 sw_9 5 e5 (by decide) (by decide) rfl rfl ?_
    refine i5 c_326_115 rfl (i45 c_326_116 (lo (c := 83) (kd := 112) (n := 0) rfl (by decide)) (lro (c := 83) (k := 0) (j := 84) (by decide)) (i1 c_326_119 (wi_ok (fun K7 => ?_))))
    refine i50 (v := σ 84 5) c_326_120 (lo (c := 84) (kd := 0) (n := 112300) rfl (by decide)) (by decide) (by decide) rfl ?_
    exact i90 c_326_121 t
  have t := iF t e5
  by_cases e6 : x1 = 6
  · have t := iT t e6
    refine i42 (o := 121) c_326_1 sw_9 6 e6 (by decide) (by decide) rfl rfl ?_
    refine i5 c_326_122 rfl (i45 c_326_123 (lo (c := 83) (kd := 112) (n := 0) rfl (by decide)) (lro (c := 83) (k := 0) (j := 84) (by decide)) (i1 c_326_126 (wi_ok (fun K8 => ?_))))
    refine i50 (v := σ 84 6) c_326_128 (lo (c := 84) (kd := 0) (n := 112300) rfl (by decide)) (by decide) (by decide) rfl ?_
    exact i90 c_326_129 t
  have t := iF t e6
  by_cases e7 : x1 = 7
  · have t := iT t e7
    refine i42 (o := 129) c_326_1 sw_9 7 e7 (by decide) (by decide) rfl rfl ?_
    refine i5 c_326_130 rfl (i45 c_326_131 (lo (c := 83) (kd := 112) (n := 0) rfl (by decide)) (lro (c := 83) (k := 0) (j := 84) (by decide)) (i1 c_326_134 (wi_ok (fun K9 => ?_))))
    refine i50 (v := σ 84 7) c_326_136 (lo (c := 84) (kd := 0) (n := 112300) rfl (by decide)) (by decide) (by decide) rfl ?_
    exact i90 c_326_137 t
  have t := iF t e7
  by_cases e8 : x1 = 8
  · have t := iT t e8
    refine i42 (o := 137) c_326_1 sw_9 8 e8 (by decide) (by decide) rfl rfl ?_
    refine i5 c_326_138 rfl (i45 c_326_139 (lo (c := 83) (kd := 112) (n := 0) rfl (by decide)) (lro (c := 83) (k := 0) (j := 84) (by decide)) (i1 c_326_142 (wi_ok (fun K10 => ?_))))
    refine i50 (v := σ 84 8) c_326_144 (lo (c := 84) (kd := 0) (n := 112300) rfl (by decide)) (by decide) (by decide) rfl ?_
    exact i90 c_326_145 t
  have t := iF t e8
  by_cases e9 : x1 = 9
  · have t := iT t e9
    refine i42 (o := 145) c_326_1 sw_9 9 e9 (by decide) (by decide) rfl rfl ?_
    refine i5 c_326_146 rfl (i45 c_326_147 (lo (c := 83) (kd := 112) (n := 0) rfl (by decide)) (lro (c := 83) (k := 0) (j := 84) (by decide)) (i1 c_326_150 (wi_ok (fun K11 => ?_))))
    refine i50 (v := σ 84 15) c_326_152 (lo (c := 84) (kd := 0) (n := 112300) rfl (by decide)) (by decide) (by decide) rfl ?_
    exact i90 c_326_153 t
  have t := iF t e9
  by_cases e10 : x1 = 10
  · have t := iT t e10
    refine i42 (o := 153) c_326_1 sw_9 10 e10 (by decide) (by decide) rfl rfl ?_
    refine i5 c_326_154 rfl (wi_ok (fun K12 => ?_))
    refine i43 (v := σ 83 4) c_326_155 (lo (c := 83) (kd := 112) (n := 0) rfl (by decide)) rfl ?_
    exact i90 c_326_158 t
  have t := iF t e10
  by_cases e11 : x1 = 11
  · have t := iT t e11
    refine i42 (o := 158) c_326_1 sw_9 11 e11 (by decide) (by decide) rfl rfl ?_
    refine i5 c_326_159 rfl (i45 c_326_160 (lo (c := 83) (kd := 112) (n := 0) rfl (by decide)) (lro (c := 83) (k := 0) (j := 84) (by decide)) (i1 c_326_163 (wi_ok (fun K13 => ?_))))
    refine i50 (v := σ 84 9) c_326_165 (lo (c := 84) (kd := 0) (n := 112300) rfl (by decide)) (by decide) (by decide) rfl ?_
    exact i90 c_326_166 t
  have t := iF t e11
  by_cases e12 : x1 = 12
  · have t := iT t e12
    refine i42 (o := 166) c_326_1 sw_9 12 e12 (by decide) (by decide) rfl rfl ?_
    refine i5 c_326_167 rfl (i45 c_326_168 (lo (c := 83) (kd := 112) (n := 0) rfl (by decide)) (lro (c := 83) (k := 0) (j := 84) (by decide)) (i1 c_326_171 (wi_ok (fun K14 => ?_))))
    refine i50 (v := σ 84 10) c_326_173 (lo (c := 84) (kd := 0) (n := 112300) rfl (by decide)) (by decide) (by decide) rfl ?_
    exact i90 c_326_174 t
  have t := iF t e12
  by_cases e13 : x1 = 13
  · have t := iT t e13
    refine i42 (o := 174) c_326_1 sw_9 13 e13 (by decide) (by decide) rfl rfl ?_
    refine i5 c_326_175 rfl (i45 c_326_176 (lo (c := 83) (kd := 112) (n := 0) rfl (by decide)) (lro (c := 83) (k := 0) (j := 84) (by decide)) (i1 c_326_179 (wi_ok (fun K15 => ?_))))
    refine i50 (v := σ 84 11) c_326_181 (lo (c := 84) (kd := 0) (n := 112300) rfl (by decide)) (by decide) (by decide) rfl ?_
    exact i90 c_326_182 t
  have t := iF t e13
  by_cases e14 : x1 = 14
  · have t := iT t e14
    refine i42 (o := 182) c_326_1 sw_9 14 e14 (by decide) (by decide) rfl rfl ?_
    refine i5 c_326_183 rfl (i45 c_326_184 (lo (c := 83) (kd := 112) (n := 0) rfl (by decide)) (lro (c := 83) (k := 0) (j := 84) (by decide)) (i1 c_326_187 (wi_ok (fun K16 => ?_))))
    refine i50 (v := σ 84 12) c_326_189 (lo (c := 84) (kd := 0) (n := 112300) rfl (by decide)) (by decide) (by decide) rfl ?_
    exact i90 c_326_190 t
  have t := iF t e14
  by_cases e15 : x1 = 15
  · have t := iT t e15
    refine i42 (o := 190) c_326_1 sw_9 15 e15 (by decide) (by decide) rfl rfl ?_
    refine i5 c_326_191 rfl (i45 c_326_192 (lo (c := 83) (kd := 112) (n := 0) rfl (by decide)) (lro (c := 83) (k := 0) (j := 84) (by decide)) (i1 c_326_195 (wi_ok (fun K17 => ?_))))
    refine i50 (v := σ 84 5) c_326_196 (lo (c := 84) (kd := 0) (n := 112300) rfl (by decide)) (by decide) (by decide) rfl ?_
    refine i36 c_326_197 (rge_ K17 rfl) rfl (fun hc => ?_) (fun hc => ?_)
    · have t := iF t hc
      have ha18 : ¬ ((σ 84 5) = 0) := hc
      obtain ⟨p19, t⟩ := t
      refine i5 c_326_204 rfl (i5 c_326_205 rfl (i45 c_326_206 (lo (c := 83) (kd := 112) (n := 0) rfl (by decide)) (lro (c := 83) (k := 0) (j := 84) (by decide)) (i1 c_326_209 (i50 (v := σ 84 5) c_326_210 (lo (c := 84) (kd := 0) (n := 112300) rfl (by decide)) (by decide) (by decide) rfl (i1 c_326_211 (i11 c_326_212 ?_))))))
      refine i80 (As := [.int (wI ((σ 84 5) - 1))]) (rest := []) c_326_213 mi_266 rfl rfl (Nat.le_of_ble_eq_true rfl) (Nat.le_of_ble_eq_true rfl) (lo (c := 83) (kd := 112) (n := 0) rfl (by decide)) (q_266 p19 ?_)
      show wi (d + 1) 326 216 [.ref 83, .int (wI x1)] [.int (wI (σ 84 (5500 + 840 * ((σ 84 5) - 1))))] S σ τ Q
      exact i90 c_326_216 t
    · have t := iT t (Decidable.not_not.mp hc)
      have ha18 : (σ 84 5) = 0 := Decidable.not_not.mp hc
      refine i1 c_326_200 (i38 c_326_201 rfl ?_)
      exact i90 c_326_216 t
  have t := iF t e15
  refine i42d c_326_1 sw_9 r1 (by omega) rfl ?_
  refine i1 c_326_217 ?_
  exact i90 c_326_218 t
theorem q_326 {d : Nat} {S : zS} {σ τ : zI} {Q : zQ} {what : Int} (p0 : rg what) (p1 : 0 ≤ σ 84 5 ∧ σ 84 5 ≤ 20) (t : Q (some (.int (wI (v_about (σ 84) (σ 83 4) what)))) S σ τ) : wc (d + 1) 326 [.ref 83, .int (wI what)] S σ τ Q := by
  refine wc_of mi_326 rfl (u_326_0 ⟨p0, ?_⟩)
  unfold v_about at t
  by_cases e0 : what = 0
  · rw [if_pos e0] at t
    rw [if_pos e0]
    exact t
  rw [if_neg e0] at t
  rw [if_neg e0]
  by_cases e1 : what = 1
  · rw [if_pos e1] at t
    rw [if_pos e1]
    exact t
  rw [if_neg e1] at t
  rw [if_neg e1]
  by_cases e2 : what = 2
  · rw [if_pos e2] at t
    rw [if_pos e2]
    exact t
  rw [if_neg e2] at t
  rw [if_neg e2]
  by_cases e3 : what = 3
  · rw [if_pos e3] at t
    rw [if_pos e3]
    exact t
  rw [if_neg e3] at t
  rw [if_neg e3]
  by_cases e4 : what = 4
  · rw [if_pos e4] at t
    rw [if_pos e4]
    exact t
  rw [if_neg e4] at t
  rw [if_neg e4]
  by_cases e5 : what = 5
  · rw [if_pos e5] at t
    rw [if_pos e5]
    exact t
  rw [if_neg e5] at t
  rw [if_neg e5]
  by_cases e6 : what = 6
  · rw [if_pos e6] at t
    rw [if_pos e6]
    exact t
  rw [if_neg e6] at t
  rw [if_neg e6]
  by_cases e7 : what = 7
  · rw [if_pos e7] at t
    rw [if_pos e7]
    exact t
  rw [if_neg e7] at t
  rw [if_neg e7]
  by_cases e8 : what = 8
  · rw [if_pos e8] at t
    rw [if_pos e8]
    exact t
  rw [if_neg e8] at t
  rw [if_neg e8]
  by_cases e9 : what = 9
  · rw [if_pos e9] at t
    rw [if_pos e9]
    exact t
  rw [if_neg e9] at t
  rw [if_neg e9]
  by_cases e10 : what = 10
  · rw [if_pos e10] at t
    rw [if_pos e10]
    exact t
  rw [if_neg e10] at t
  rw [if_neg e10]
  by_cases e11 : what = 11
  · rw [if_pos e11] at t
    rw [if_pos e11]
    exact t
  rw [if_neg e11] at t
  rw [if_neg e11]
  by_cases e12 : what = 12
  · rw [if_pos e12] at t
    rw [if_pos e12]
    exact t
  rw [if_neg e12] at t
  rw [if_neg e12]
  by_cases e13 : what = 13
  · rw [if_pos e13] at t
    rw [if_pos e13]
    exact t
  rw [if_neg e13] at t
  rw [if_neg e13]
  by_cases e14 : what = 14
  · rw [if_pos e14] at t
    rw [if_pos e14]
    exact t
  rw [if_neg e14] at t
  rw [if_neg e14]
  by_cases e15 : what = 15
  · rw [if_pos e15] at t
    rw [if_pos e15]
    by_cases e16 : σ 84 5 = 0
    · rw [if_pos e16] at t
      rw [if_pos e16]
      exact t
    · rw [if_neg e16] at t
      rw [if_neg e16]
      exact ⟨by omega, t⟩
  rw [if_neg e15] at t
  rw [if_neg e15]
  exact t
-- method 297: MillTownModel.homeOf(II)I
theorem c_297_0 : pg_cd 297 0 = (5, 1, 0, 0, 0) := by decide +kernel
theorem c_297_1 : pg_cd 297 1 = (3, 1, 0, 1, 0) := by decide +kernel
theorem c_297_2 : pg_cd 297 2 = (80, 202, 96, 0, 0) := by decide +kernel
theorem c_297_5 : pg_cd 297 5 = (36, 3, 0, 1, 5) := by decide +kernel
theorem c_297_8 : pg_cd 297 8 = (1, 1, 0, 0, (-1)) := by decide +kernel
theorem c_297_9 : pg_cd 297 9 = (90, 0, 0, 0, 0) := by decide +kernel
theorem c_297_10 : pg_cd 297 10 = (1, 1, 0, 0, 0) := by decide +kernel
theorem c_297_11 : pg_cd 297 11 = (6, 1, 0, 3, 0) := by decide +kernel
theorem c_297_12 : pg_cd 297 12 = (3, 1, 0, 2, 0) := by decide +kernel
theorem c_297_13 : pg_cd 297 13 = (42, 7, 43, 0, 0) := by decide +kernel
theorem c_297_56 : pg_cd 297 56 = (5, 1, 0, 0, 0) := by decide +kernel
theorem c_297_57 : pg_cd 297 57 = (3, 1, 0, 1, 0) := by decide +kernel
theorem c_297_58 : pg_cd 297 58 = (1, 1, 0, 0, 1) := by decide +kernel
theorem c_297_59 : pg_cd 297 59 = (80, 200, 99, 0, 0) := by decide +kernel
theorem c_297_62 : pg_cd 297 62 = (90, 0, 0, 0, 0) := by decide +kernel
theorem c_297_63 : pg_cd 297 63 = (5, 1, 0, 0, 0) := by decide +kernel
theorem c_297_64 : pg_cd 297 64 = (3, 1, 0, 1, 0) := by decide +kernel
theorem c_297_65 : pg_cd 297 65 = (1, 1, 0, 0, 2) := by decide +kernel
theorem c_297_66 : pg_cd 297 66 = (80, 200, 99, 0, 0) := by decide +kernel
theorem c_297_69 : pg_cd 297 69 = (90, 0, 0, 0, 0) := by decide +kernel
theorem c_297_70 : pg_cd 297 70 = (5, 1, 0, 0, 0) := by decide +kernel
theorem c_297_71 : pg_cd 297 71 = (3, 1, 0, 1, 0) := by decide +kernel
theorem c_297_72 : pg_cd 297 72 = (1, 1, 0, 0, 3) := by decide +kernel
theorem c_297_73 : pg_cd 297 73 = (80, 200, 99, 0, 0) := by decide +kernel
theorem c_297_76 : pg_cd 297 76 = (90, 0, 0, 0, 0) := by decide +kernel
theorem c_297_77 : pg_cd 297 77 = (5, 1, 0, 0, 0) := by decide +kernel
theorem c_297_78 : pg_cd 297 78 = (3, 1, 0, 1, 0) := by decide +kernel
theorem c_297_79 : pg_cd 297 79 = (80, 288, 370, 0, 0) := by decide +kernel
theorem c_297_82 : pg_cd 297 82 = (90, 0, 0, 0, 0) := by decide +kernel
theorem c_297_83 : pg_cd 297 83 = (1, 1, 0, 0, 0) := by decide +kernel
theorem c_297_84 : pg_cd 297 84 = (6, 2, 0, 4, 0) := by decide +kernel
theorem c_297_86 : pg_cd 297 86 = (3, 2, 0, 4, 0) := by decide +kernel
theorem c_297_88 : pg_cd 297 88 = (5, 1, 0, 0, 0) := by decide +kernel
theorem c_297_89 : pg_cd 297 89 = (45, 12, 8, 0, 0) := by decide +kernel
theorem c_297_92 : pg_cd 297 92 = (1, 1, 0, 0, 4) := by decide +kernel
theorem c_297_93 : pg_cd 297 93 = (50, 1, 0, 0, 0) := by decide +kernel
theorem c_297_94 : pg_cd 297 94 = (37, 3, 0, 3, 28) := by decide +kernel
theorem c_297_97 : pg_cd 297 97 = (3, 1, 0, 3, 0) := by decide +kernel
theorem c_297_98 : pg_cd 297 98 = (5, 1, 0, 0, 0) := by decide +kernel
theorem c_297_99 : pg_cd 297 99 = (3, 2, 0, 4, 0) := by decide +kernel
theorem c_297_101 : pg_cd 297 101 = (1, 1, 0, 0, 0) := by decide +kernel
theorem c_297_102 : pg_cd 297 102 = (80, 199, 102, 0, 0) := by decide +kernel
theorem c_297_105 : pg_cd 297 105 = (3, 1, 0, 1, 0) := by decide +kernel
theorem c_297_106 : pg_cd 297 106 = (37, 3, 0, 1, 7) := by decide +kernel
theorem c_297_109 : pg_cd 297 109 = (1, 1, 0, 0, 1) := by decide +kernel
theorem c_297_110 : pg_cd 297 110 = (38, 3, 0, 0, 4) := by decide +kernel
theorem c_297_113 : pg_cd 297 113 = (1, 1, 0, 0, 0) := by decide +kernel
theorem c_297_114 : pg_cd 297 114 = (10, 1, 0, 0, 0) := by decide +kernel
theorem c_297_115 : pg_cd 297 115 = (6, 1, 0, 3, 0) := by decide +kernel
theorem c_297_116 : pg_cd 297 116 = (9, 3, 0, 4, 1) := by decide +kernel
theorem c_297_119 : pg_cd 297 119 = (38, 3, 0, 0, (-33)) := by decide +kernel
theorem c_297_122 : pg_cd 297 122 = (3, 1, 0, 3, 0) := by decide +kernel
theorem c_297_123 : pg_cd 297 123 = (90, 0, 0, 0, 0) := by decide +kernel
theorem c_297_124 : pg_cd 297 124 = (5, 1, 0, 0, 0) := by decide +kernel
theorem c_297_125 : pg_cd 297 125 = (1, 3, 0, 0, 22300) := by decide +kernel
theorem c_297_128 : pg_cd 297 128 = (3, 1, 0, 1, 0) := by decide +kernel
theorem c_297_129 : pg_cd 297 129 = (80, 296, 411, 0, 0) := by decide +kernel
theorem c_297_132 : pg_cd 297 132 = (90, 0, 0, 0, 0) := by decide +kernel
theorem c_297_133 : pg_cd 297 133 = (5, 1, 0, 0, 0) := by decide +kernel
theorem c_297_134 : pg_cd 297 134 = (1, 3, 0, 0, 31900) := by decide +kernel
theorem c_297_137 : pg_cd 297 137 = (3, 1, 0, 1, 0) := by decide +kernel
theorem c_297_138 : pg_cd 297 138 = (80, 296, 411, 0, 0) := by decide +kernel
theorem c_297_141 : pg_cd 297 141 = (90, 0, 0, 0, 0) := by decide +kernel
theorem c_297_142 : pg_cd 297 142 = (1, 1, 0, 0, (-1)) := by decide +kernel
theorem c_297_143 : pg_cd 297 143 = (90, 0, 0, 0, 0) := by decide +kernel
theorem mi_297 : pg_mc 297 = 12 ∧ pg_na 297 = 2 ∧ pg_mx 297 = 5 := by decide +kernel
theorem sw_7 : pg_sw 7 = (129, 0, 6, [43, 50, 57, 64, 70, 111, 120]) := by decide +kernel
set_option maxRecDepth 20000 in
theorem u_297_0 {d : Nat} {S : zS} {σ τ : zI} {Q : zQ} {x1 : Int} {x2 : Int} (t : (rg x1) ∧ (0 ≤ σ 84 3) ∧ if 0 ≤ x1 ∧ x1 < σ 84 3 then ((rg x2) ∧ if x2 = 0 then ((0 ≤ 3460 + 8 * x1 + 1 ∧ 3460 + 8 * x1 + 1 < 112300) ∧ Q (some (.int (wI (σ 84 (3460 + 8 * x1 + 1))))) S σ τ) else (if x2 = 1 then ((0 ≤ 3460 + 8 * x1 + 2 ∧ 3460 + 8 * x1 + 2 < 112300) ∧ Q (some (.int (wI (σ 84 (3460 + 8 * x1 + 2))))) S σ τ) else (if x2 = 2 then ((0 ≤ 3460 + 8 * x1 + 3 ∧ 3460 + 8 * x1 + 3 < 112300) ∧ Q (some (.int (wI (σ 84 (3460 + 8 * x1 + 3))))) S σ τ) else (if x2 = 3 then ((0 ≤ σ 84 4 ∧ σ 84 4 ≤ 60) ∧ ∀ (v12 : Int), v12 = r_need (σ 84) x1 → 0 ≤ v12 ∧ v12 ≤ 240 → Q (some (.int (wI v12))) S σ τ) else (if x2 = 4 then (wi (d + 2) 297 86 [.ref 83, .int (wI x1), .int (wI x2), .int (wI 0), .int (wI 0)] [] S σ τ Q) else (if x2 = 5 then ((0 ≤ σ 84 0 ∧ σ 84 0 ≤ 400) ∧ (((0 : Int) + 22300 = 22300 ∨ (0 : Int) + 22300 = 31900) ∧ 0 ≤ x1 ∧ x1 < 24) ∧ Q (some (.int (wI (r_late (σ 84) 22300 x1)))) S σ τ) else (if x2 = 6 then ((0 ≤ σ 84 0 ∧ σ 84 0 ≤ 400) ∧ (((0 : Int) + 31900 = 22300 ∨ (0 : Int) + 31900 = 31900) ∧ 0 ≤ x1 ∧ x1 < 24) ∧ Q (some (.int (wI (r_late (σ 84) 31900 x1)))) S σ τ) else (Q (some (.int (wI (-1)))) S σ τ)))))))) else (Q (some (.int (wI (-1)))) S σ τ)) : wi (d + 2) 297 0 [.ref 83, .int (wI x1), .int (wI x2), .retAddr 0, .retAddr 0] [] S σ τ Q := by
  obtain ⟨r1, t⟩ := t
  obtain ⟨p2, t⟩ := t
  refine i5 c_297_0 rfl (i3 c_297_1 rfl ?_)
  refine i80 (As := [.int (wI x1)]) (rest := []) c_297_2 mi_202 rfl rfl (Nat.le_of_ble_eq_true rfl) (Nat.le_of_ble_eq_true rfl) (lo (c := 83) (kd := 112) (n := 0) rfl (by decide)) (q_202 r1 p2 ?_)
  show wi (d + 2) 297 5 [.ref 83, .int (wI x1), .int (wI x2), .retAddr 0, .retAddr 0] [.int (wI (if 0 ≤ x1 ∧ x1 < σ 84 3 then 1 else 0))] S σ τ Q
  refine i36f c_297_5 rfl (fun hc => ?_) (fun hc => ?_)
  · have t := iT t hc
    have ha3 : 0 ≤ x1 ∧ x1 < σ 84 3 := hc
    obtain ⟨r4, t⟩ := t
    refine i1 c_297_10 (i6 (L' := [.ref 83, .int (wI x1), .int (wI x2), .int (wI 0), .retAddr 0]) c_297_11 rfl (i3 c_297_12 rfl ?_))
    by_cases e0 : x2 = 0
    · have t := iT t e0
      refine i42 (o := 43) c_297_13 sw_7 0 e0 (by decide) (by decide) rfl rfl ?_
      obtain ⟨p5, t⟩ := t
      refine i5 c_297_56 rfl (i3 c_297_57 rfl (i1 c_297_58 ?_))
      refine i80 (As := [.int (wI x1), .int (wI 1)]) (rest := []) c_297_59 mi_200 rfl rfl (Nat.le_of_ble_eq_true rfl) (Nat.le_of_ble_eq_true rfl) (lo (c := 83) (kd := 112) (n := 0) rfl (by decide)) (q_200 p5 ?_)
      show wi (d + 2) 297 62 [.ref 83, .int (wI x1), .int (wI x2), .int (wI 0), .retAddr 0] [.int (wI (σ 84 (3460 + 8 * x1 + 1)))] S σ τ Q
      refine wi_ok (fun K6 => ?_)
      exact i90 c_297_62 t
    have t := iF t e0
    by_cases e1 : x2 = 1
    · have t := iT t e1
      refine i42 (o := 50) c_297_13 sw_7 1 e1 (by decide) (by decide) rfl rfl ?_
      obtain ⟨p7, t⟩ := t
      refine i5 c_297_63 rfl (i3 c_297_64 rfl (i1 c_297_65 ?_))
      refine i80 (As := [.int (wI x1), .int (wI 2)]) (rest := []) c_297_66 mi_200 rfl rfl (Nat.le_of_ble_eq_true rfl) (Nat.le_of_ble_eq_true rfl) (lo (c := 83) (kd := 112) (n := 0) rfl (by decide)) (q_200 p7 ?_)
      show wi (d + 2) 297 69 [.ref 83, .int (wI x1), .int (wI x2), .int (wI 0), .retAddr 0] [.int (wI (σ 84 (3460 + 8 * x1 + 2)))] S σ τ Q
      refine wi_ok (fun K8 => ?_)
      exact i90 c_297_69 t
    have t := iF t e1
    by_cases e2 : x2 = 2
    · have t := iT t e2
      refine i42 (o := 57) c_297_13 sw_7 2 e2 (by decide) (by decide) rfl rfl ?_
      obtain ⟨p9, t⟩ := t
      refine i5 c_297_70 rfl (i3 c_297_71 rfl (i1 c_297_72 ?_))
      refine i80 (As := [.int (wI x1), .int (wI 3)]) (rest := []) c_297_73 mi_200 rfl rfl (Nat.le_of_ble_eq_true rfl) (Nat.le_of_ble_eq_true rfl) (lo (c := 83) (kd := 112) (n := 0) rfl (by decide)) (q_200 p9 ?_)
      show wi (d + 2) 297 76 [.ref 83, .int (wI x1), .int (wI x2), .int (wI 0), .retAddr 0] [.int (wI (σ 84 (3460 + 8 * x1 + 3)))] S σ τ Q
      refine wi_ok (fun K10 => ?_)
      exact i90 c_297_76 t
    have t := iF t e2
    by_cases e3 : x2 = 3
    · have t := iT t e3
      refine i42 (o := 64) c_297_13 sw_7 3 e3 (by decide) (by decide) rfl rfl ?_
      obtain ⟨p11, t⟩ := t
      refine i5 c_297_77 rfl (i3 c_297_78 rfl ?_)
      refine i80 (As := [.int (wI x1)]) (rest := []) c_297_79 mi_288 rfl rfl (Nat.le_of_ble_eq_true rfl) (Nat.le_of_ble_eq_true rfl) (lo (c := 83) (kd := 112) (n := 0) rfl (by decide)) (q_288 r1 p11 (fun v12 q13 q14 => ?_))
      have t := t v12 q13 q14
      show wi (d + 2) 297 82 [.ref 83, .int (wI x1), .int (wI x2), .int (wI 0), .retAddr 0] [.int (wI v12)] S σ τ Q
      exact i90 c_297_82 t
    have t := iF t e3
    by_cases e4 : x2 = 4
    · have t := iT t e4
      refine i42 (o := 70) c_297_13 sw_7 4 e4 (by decide) (by decide) rfl rfl ?_
      refine i1 c_297_83 (i6 (L' := [.ref 83, .int (wI x1), .int (wI x2), .int (wI 0), .int (wI 0)]) c_297_84 rfl t)
    have t := iF t e4
    by_cases e5 : x2 = 5
    · have t := iT t e5
      refine i42 (o := 111) c_297_13 sw_7 5 e5 (by decide) (by decide) rfl rfl ?_
      obtain ⟨p15, t⟩ := t
      obtain ⟨p16, t⟩ := t
      refine i5 c_297_124 rfl (i1 c_297_125 (i3 c_297_128 rfl ?_))
      refine i80 (As := [.int (wI 22300), .int (wI x1)]) (rest := []) c_297_129 mi_296 rfl rfl (Nat.le_of_ble_eq_true rfl) (Nat.le_of_ble_eq_true rfl) (lo (c := 83) (kd := 112) (n := 0) rfl (by decide)) (q_296 p15 p16 ?_)
      show wi (d + 2) 297 132 [.ref 83, .int (wI x1), .int (wI x2), .int (wI 0), .retAddr 0] [.int (wI (r_late (σ 84) 22300 x1))] S σ τ Q
      exact i90 c_297_132 t
    have t := iF t e5
    by_cases e6 : x2 = 6
    · have t := iT t e6
      refine i42 (o := 120) c_297_13 sw_7 6 e6 (by decide) (by decide) rfl rfl ?_
      obtain ⟨p17, t⟩ := t
      obtain ⟨p18, t⟩ := t
      refine i5 c_297_133 rfl (i1 c_297_134 (i3 c_297_137 rfl ?_))
      refine i80 (As := [.int (wI 31900), .int (wI x1)]) (rest := []) c_297_138 mi_296 rfl rfl (Nat.le_of_ble_eq_true rfl) (Nat.le_of_ble_eq_true rfl) (lo (c := 83) (kd := 112) (n := 0) rfl (by decide)) (q_296 p17 p18 ?_)
      show wi (d + 2) 297 141 [.ref 83, .int (wI x1), .int (wI x2), .int (wI 0), .retAddr 0] [.int (wI (r_late (σ 84) 31900 x1))] S σ τ Q
      exact i90 c_297_141 t
    have t := iF t e6
    refine i42d c_297_13 sw_7 r4 (by omega) rfl ?_
    refine i1 c_297_142 ?_
    exact i90 c_297_143 t
  · have t := iF t hc
    have ha3 : ¬ (0 ≤ x1 ∧ x1 < σ 84 3) := hc
    refine i1 c_297_8 ?_
    exact i90 c_297_9 t
set_option maxRecDepth 20000 in
theorem u_297_86 {d : Nat} {S : zS} {σ τ : zI} {Q : zQ} {x1 : Int} {x2 : Int} {x3 : Int} {x4 : Int} (t : (rg x4) ∧ if (σ 84 4) ≤ x4 then (Q (some (.int (wI x3))) S σ τ) else ((0 ≤ 3652 + 12 * x4 + 0 ∧ 3652 + 12 * x4 + 0 < 112300) ∧ (rg x1) ∧ if (σ 84 (3652 + 12 * x4 + 0)) = x1 then (wi (d + 2) 297 86 [.ref 83, .int (wI x1), .int (wI x2), .int (wI (x3 + 1)), .int (wI (x4 + 1))] [] S σ τ Q) else (wi (d + 2) 297 86 [.ref 83, .int (wI x1), .int (wI x2), .int (wI (x3 + 0)), .int (wI (x4 + 1))] [] S σ τ Q))) : wi (d + 2) 297 86 [.ref 83, .int (wI x1), .int (wI x2), .int (wI x3), .int (wI x4)] [] S σ τ Q := by
  refine i3 c_297_86 rfl (i5 c_297_88 rfl (i45 c_297_89 (lo (c := 83) (kd := 112) (n := 0) rfl (by decide)) (lro (c := 83) (k := 0) (j := 84) (by decide)) (i1 c_297_92 (wi_ok (fun K1 => ?_)))))
  obtain ⟨r2, t⟩ := t
  refine i50 (v := σ 84 4) c_297_93 (lo (c := 84) (kd := 0) (n := 112300) rfl (by decide)) (by decide) (by decide) rfl ?_
  refine i37 c_297_94 r2 (rge_ K1 rfl) rfl (fun hc => ?_) (fun hc => ?_)
  · have t := iT t hc
    have ha3 : (σ 84 4) ≤ x4 := hc
    refine i3 c_297_122 rfl ?_
    exact i90 c_297_123 t
  · have t := iF t hc
    have ha3 : ¬ ((σ 84 4) ≤ x4) := hc
    obtain ⟨p4, t⟩ := t
    refine i3 c_297_97 rfl (i5 c_297_98 rfl (i3 c_297_99 rfl (i1 c_297_101 ?_)))
    refine i80 (As := [.int (wI x4), .int (wI 0)]) (rest := [.int (wI x3)]) c_297_102 mi_199 rfl rfl (Nat.le_of_ble_eq_true rfl) (Nat.le_of_ble_eq_true rfl) (lo (c := 83) (kd := 112) (n := 0) rfl (by decide)) (q_199 p4 ?_)
    show wi (d + 2) 297 105 [.ref 83, .int (wI x1), .int (wI x2), .int (wI x3), .int (wI x4)] [.int (wI (σ 84 (3652 + 12 * x4 + 0))), .int (wI x3)] S σ τ Q
    obtain ⟨r5, t⟩ := t
    refine i3 c_297_105 rfl ?_
    refine i37 c_297_106 (rge_ K1 rfl) r5 rfl (fun hc => ?_) (fun hc => ?_)
    · have t := iF t hc
      have ha6 : ¬ ((σ 84 (3652 + 12 * x4 + 0)) = x1) := hc
      refine i1 c_297_113 (i10 c_297_114 (i6 (L' := [.ref 83, .int (wI x1), .int (wI x2), .int (wI (x3 + 0)), .int (wI x4)]) c_297_115 rfl (i9 (L' := [.ref 83, .int (wI x1), .int (wI x2), .int (wI (x3 + 0)), .int (wI (x4 + 1))]) c_297_116 rfl rfl (i38 c_297_119 rfl t))))
    · have t := iT t (Decidable.not_not.mp hc)
      have ha6 : (σ 84 (3652 + 12 * x4 + 0)) = x1 := Decidable.not_not.mp hc
      refine i1 c_297_109 (i38 c_297_110 rfl (i10 c_297_114 (i6 (L' := [.ref 83, .int (wI x1), .int (wI x2), .int (wI (x3 + 1)), .int (wI x4)]) c_297_115 rfl (i9 (L' := [.ref 83, .int (wI x1), .int (wI x2), .int (wI (x3 + 1)), .int (wI (x4 + 1))]) c_297_116 rfl rfl (i38 c_297_119 rfl t)))))
theorem q_297 {d : Nat} {S : zS} {σ τ : zI} {Q : zQ} {home : Int} {what : Int} (p0 : rg home) (p1 : rg what) (p2 : Jv (σ 84)) (t : Q (some (.int (wI (v_homeOf (σ 84) home what)))) S σ τ) : wc (d + 2) 297 [.ref 83, .int (wI home), .int (wI what)] S σ τ Q := by
  have hC := jC p2
  unfold jv_C at hC
  refine wc_of mi_297 rfl (u_297_0 ⟨p0, by omega, ?_⟩)
  unfold v_homeOf at t
  by_cases b1 : 0 ≤ home ∧ home < σ 84 3
  · rw [if_pos b1] at t
    rw [if_pos b1]
    refine ⟨p1, ?_⟩
    have key : what = 4 → ∀ p, 0 ≤ p → p ≤ σ 84 4 → ∀ s, s = sI (fun p => if σ 84 (3652 + 12 * p + 0) = home then 1 else 0) p → wi (d + 2) 297 86 [.ref 83, .int (wI home), .int (wI what), .int (wI s), .int (wI p)] [] S σ τ Q := by
      intro h4
      rw [if_neg (by omega), if_neg (by omega), if_neg (by omega), if_neg (by omega), if_pos h4] at t
      refine lp_up (fun p h0 h1 ih => ?_)
      intro s hs
      refine u_297_86 ⟨by omega, ?_⟩
      by_cases c : σ 84 4 ≤ p
      · have : p = σ 84 4 := by omega
        subst this
        rw [if_pos (by omega), hs]
        exact t
      · have ih := ih (by omega)
        rw [sI_s h0, ← hs] at ih
        rw [if_neg c]
        refine ⟨by omega, p0, ?_⟩
        split
        · next h2 => rw [if_pos h2] at ih; exact ih _ rfl
        · next h2 => rw [if_neg h2] at ih; exact ih _ rfl
    repeat' (first | exact t | exact key (by assumption) 0 (by omega) (by omega) 0 rfl | (intro v hv hb; subst hv; exact t) | refine ⟨by omega, ?_⟩ | (split at t) | (rw [if_pos (by assumption)]) | (rw [if_neg (by assumption)]))
  · rw [if_neg b1] at t
    rw [if_neg b1]
    exact t
-- method 299: MillTownModel.shopOf(II)I
theorem c_299_0 : pg_cd 299 0 = (3, 1, 0, 1, 0) := by decide +kernel
theorem c_299_1 : pg_cd 299 1 = (1, 1, 0, 0, 0) := by decide +kernel
theorem c_299_2 : pg_cd 299 2 = (5, 1, 0, 0, 0) := by decide +kernel
theorem c_299_3 : pg_cd 299 3 = (45, 12, 8, 0, 0) := by decide +kernel
theorem c_299_6 : pg_cd 299 6 = (1, 1, 0, 0, 2) := by decide +kernel
theorem c_299_7 : pg_cd 299 7 = (50, 1, 0, 0, 0) := by decide +kernel
theorem c_299_8 : pg_cd 299 8 = (1, 1, 0, 0, 1) := by decide +kernel
theorem c_299_9 : pg_cd 299 9 = (11, 1, 0, 0, 0) := by decide +kernel
theorem c_299_10 : pg_cd 299 10 = (81, 196, 76, 0, 0) := by decide +kernel
theorem c_299_13 : pg_cd 299 13 = (36, 3, 0, 1, 5) := by decide +kernel
theorem c_299_16 : pg_cd 299 16 = (1, 1, 0, 0, (-1)) := by decide +kernel
theorem c_299_17 : pg_cd 299 17 = (90, 0, 0, 0, 0) := by decide +kernel
theorem c_299_18 : pg_cd 299 18 = (1, 1, 0, 0, 0) := by decide +kernel
theorem c_299_19 : pg_cd 299 19 = (6, 1, 0, 3, 0) := by decide +kernel
theorem c_299_20 : pg_cd 299 20 = (1, 1, 0, 0, 0) := by decide +kernel
theorem c_299_21 : pg_cd 299 21 = (6, 2, 0, 4, 0) := by decide +kernel
theorem c_299_23 : pg_cd 299 23 = (3, 2, 0, 4, 0) := by decide +kernel
theorem c_299_25 : pg_cd 299 25 = (5, 1, 0, 0, 0) := by decide +kernel
theorem c_299_26 : pg_cd 299 26 = (45, 12, 8, 0, 0) := by decide +kernel
theorem c_299_29 : pg_cd 299 29 = (1, 1, 0, 0, 3) := by decide +kernel
theorem c_299_30 : pg_cd 299 30 = (50, 1, 0, 0, 0) := by decide +kernel
theorem c_299_31 : pg_cd 299 31 = (37, 3, 0, 3, 34) := by decide +kernel
theorem c_299_34 : pg_cd 299 34 = (3, 1, 0, 3, 0) := by decide +kernel
theorem c_299_35 : pg_cd 299 35 = (5, 1, 0, 0, 0) := by decide +kernel
theorem c_299_36 : pg_cd 299 36 = (3, 2, 0, 4, 0) := by decide +kernel
theorem c_299_38 : pg_cd 299 38 = (1, 1, 0, 0, 0) := by decide +kernel
theorem c_299_39 : pg_cd 299 39 = (80, 200, 99, 0, 0) := by decide +kernel
theorem c_299_42 : pg_cd 299 42 = (3, 1, 0, 1, 0) := by decide +kernel
theorem c_299_43 : pg_cd 299 43 = (37, 3, 0, 1, 13) := by decide +kernel
theorem c_299_46 : pg_cd 299 46 = (5, 1, 0, 0, 0) := by decide +kernel
theorem c_299_47 : pg_cd 299 47 = (3, 2, 0, 4, 0) := by decide +kernel
theorem c_299_49 : pg_cd 299 49 = (1, 1, 0, 0, 2) := by decide +kernel
theorem c_299_50 : pg_cd 299 50 = (80, 200, 99, 0, 0) := by decide +kernel
theorem c_299_53 : pg_cd 299 53 = (38, 3, 0, 0, 4) := by decide +kernel
theorem c_299_56 : pg_cd 299 56 = (1, 1, 0, 0, 0) := by decide +kernel
theorem c_299_57 : pg_cd 299 57 = (10, 1, 0, 0, 0) := by decide +kernel
theorem c_299_58 : pg_cd 299 58 = (6, 1, 0, 3, 0) := by decide +kernel
theorem c_299_59 : pg_cd 299 59 = (9, 3, 0, 4, 1) := by decide +kernel
theorem c_299_62 : pg_cd 299 62 = (38, 3, 0, 0, (-39)) := by decide +kernel
theorem c_299_65 : pg_cd 299 65 = (3, 1, 0, 2, 0) := by decide +kernel
theorem c_299_66 : pg_cd 299 66 = (36, 3, 0, 1, 19) := by decide +kernel
theorem c_299_69 : pg_cd 299 69 = (5, 1, 0, 0, 0) := by decide +kernel
theorem c_299_70 : pg_cd 299 70 = (45, 12, 8, 0, 0) := by decide +kernel
theorem c_299_73 : pg_cd 299 73 = (1, 3, 0, 0, 3428) := by decide +kernel
theorem c_299_76 : pg_cd 299 76 = (1, 2, 0, 0, 8) := by decide +kernel
theorem c_299_78 : pg_cd 299 78 = (3, 1, 0, 1, 0) := by decide +kernel
theorem c_299_79 : pg_cd 299 79 = (12, 1, 0, 0, 0) := by decide +kernel
theorem c_299_80 : pg_cd 299 80 = (10, 1, 0, 0, 0) := by decide +kernel
theorem c_299_81 : pg_cd 299 81 = (50, 1, 0, 0, 0) := by decide +kernel
theorem c_299_82 : pg_cd 299 82 = (38, 3, 0, 0, 36) := by decide +kernel
theorem c_299_85 : pg_cd 299 85 = (3, 1, 0, 2, 0) := by decide +kernel
theorem c_299_86 : pg_cd 299 86 = (1, 1, 0, 0, 1) := by decide +kernel
theorem c_299_87 : pg_cd 299 87 = (37, 3, 0, 1, 7) := by decide +kernel
theorem c_299_90 : pg_cd 299 90 = (3, 1, 0, 3, 0) := by decide +kernel
theorem c_299_91 : pg_cd 299 91 = (38, 3, 0, 0, 27) := by decide +kernel
theorem c_299_94 : pg_cd 299 94 = (3, 1, 0, 2, 0) := by decide +kernel
theorem c_299_95 : pg_cd 299 95 = (1, 1, 0, 0, 2) := by decide +kernel
theorem c_299_96 : pg_cd 299 96 = (37, 3, 0, 1, 21) := by decide +kernel
theorem c_299_99 : pg_cd 299 99 = (5, 1, 0, 0, 0) := by decide +kernel
theorem c_299_100 : pg_cd 299 100 = (45, 12, 8, 0, 0) := by decide +kernel
theorem c_299_103 : pg_cd 299 103 = (1, 3, 0, 0, 3428) := by decide +kernel
theorem c_299_106 : pg_cd 299 106 = (1, 2, 0, 0, 8) := by decide +kernel
theorem c_299_108 : pg_cd 299 108 = (3, 1, 0, 1, 0) := by decide +kernel
theorem c_299_109 : pg_cd 299 109 = (12, 1, 0, 0, 0) := by decide +kernel
theorem c_299_110 : pg_cd 299 110 = (10, 1, 0, 0, 0) := by decide +kernel
theorem c_299_111 : pg_cd 299 111 = (1, 1, 0, 0, 3) := by decide +kernel
theorem c_299_112 : pg_cd 299 112 = (10, 1, 0, 0, 0) := by decide +kernel
theorem c_299_113 : pg_cd 299 113 = (50, 1, 0, 0, 0) := by decide +kernel
theorem c_299_114 : pg_cd 299 114 = (38, 3, 0, 0, 4) := by decide +kernel
theorem c_299_117 : pg_cd 299 117 = (1, 1, 0, 0, (-1)) := by decide +kernel
theorem c_299_118 : pg_cd 299 118 = (90, 0, 0, 0, 0) := by decide +kernel
theorem mi_299 : pg_mc 299 = 12 ∧ pg_na 299 = 2 ∧ pg_mx 299 = 5 := by decide +kernel
set_option maxRecDepth 20000 in
theorem u_299_0 {d : Nat} {S : zS} {σ τ : zI} {Q : zQ} {x1 : Int} {x2 : Int} (t : (rg x1) ∧ (rg ((σ 84 2) - 1)) ∧ if 0 ≤ x1 ∧ x1 ≤ ((σ 84 2) - 1) then (wi (d + 1) 299 23 [.ref 83, .int (wI x1), .int (wI x2), .int (wI 0), .int (wI 0)] [] S σ τ Q) else (Q (some (.int (wI (-1)))) S σ τ)) : wi (d + 1) 299 0 [.ref 83, .int (wI x1), .int (wI x2), .retAddr 0, .retAddr 0] [] S σ τ Q := by
  refine i3 c_299_0 rfl (i1 c_299_1 (i5 c_299_2 rfl (i45 c_299_3 (lo (c := 83) (kd := 112) (n := 0) rfl (by decide)) (lro (c := 83) (k := 0) (j := 84) (by decide)) (i1 c_299_6 (wi_ok (fun K1 => ?_))))))
  obtain ⟨r2, t⟩ := t
  obtain ⟨r3, t⟩ := t
  refine i50 (v := σ 84 2) c_299_7 (lo (c := 84) (kd := 0) (n := 112300) rfl (by decide)) (by decide) (by decide) rfl (i1 c_299_8 (i11 c_299_9 ?_))
  refine i81 (As := [.int (wI x1), .int (wI 0), .int (wI ((σ 84 2) - 1))]) (rest := []) c_299_10 mi_196 rfl rfl (Nat.le_of_ble_eq_true rfl) (Nat.le_of_ble_eq_true rfl) (q_196 r2 (by decide) r3 ?_)
  show wi (d + 1) 299 13 [.ref 83, .int (wI x1), .int (wI x2), .retAddr 0, .retAddr 0] [.int (wI (if 0 ≤ x1 ∧ x1 ≤ ((σ 84 2) - 1) then 1 else 0))] S σ τ Q
  refine i36f c_299_13 rfl (fun hc => ?_) (fun hc => ?_)
  · have t := iT t hc
    have ha4 : 0 ≤ x1 ∧ x1 ≤ ((σ 84 2) - 1) := hc
    refine i1 c_299_18 (i6 (L' := [.ref 83, .int (wI x1), .int (wI x2), .int (wI 0), .retAddr 0]) c_299_19 rfl (i1 c_299_20 (i6 (L' := [.ref 83, .int (wI x1), .int (wI x2), .int (wI 0), .int (wI 0)]) c_299_21 rfl t)))
  · have t := iF t hc
    have ha4 : ¬ (0 ≤ x1 ∧ x1 ≤ ((σ 84 2) - 1)) := hc
    refine i1 c_299_16 ?_
    exact i90 c_299_17 t
set_option maxRecDepth 20000 in
theorem u_299_23 {d : Nat} {S : zS} {σ τ : zI} {Q : zQ} {x1 : Int} {x2 : Int} {x3 : Int} {x4 : Int} (t : (rg x4) ∧ if (σ 84 3) ≤ x4 then ((rg x2) ∧ if x2 = 0 then ((0 ≤ 3428 + (8 * x1) ∧ 3428 + (8 * x1) < 112300) ∧ Q (some (.int (wI (σ 84 (3428 + (8 * x1)))))) S σ τ) else (if x2 = 1 then (Q (some (.int (wI x3))) S σ τ) else (if x2 = 2 then ((0 ≤ (3428 + (8 * x1)) + 3 ∧ (3428 + (8 * x1)) + 3 < 112300) ∧ Q (some (.int (wI (σ 84 ((3428 + (8 * x1)) + 3))))) S σ τ) else (Q (some (.int (wI (-1)))) S σ τ)))) else ((0 ≤ 3460 + 8 * x4 + 0 ∧ 3460 + 8 * x4 + 0 < 112300) ∧ (rg x1) ∧ if (σ 84 (3460 + 8 * x4 + 0)) = x1 then ((0 ≤ 3460 + 8 * x4 + 2 ∧ 3460 + 8 * x4 + 2 < 112300) ∧ wi (d + 1) 299 23 [.ref 83, .int (wI x1), .int (wI x2), .int (wI (x3 + (σ 84 (3460 + 8 * x4 + 2)))), .int (wI (x4 + 1))] [] S σ τ Q) else (wi (d + 1) 299 23 [.ref 83, .int (wI x1), .int (wI x2), .int (wI (x3 + 0)), .int (wI (x4 + 1))] [] S σ τ Q))) : wi (d + 1) 299 23 [.ref 83, .int (wI x1), .int (wI x2), .int (wI x3), .int (wI x4)] [] S σ τ Q := by
  refine i3 c_299_23 rfl (i5 c_299_25 rfl (i45 c_299_26 (lo (c := 83) (kd := 112) (n := 0) rfl (by decide)) (lro (c := 83) (k := 0) (j := 84) (by decide)) (i1 c_299_29 (wi_ok (fun K1 => ?_)))))
  obtain ⟨r2, t⟩ := t
  refine i50 (v := σ 84 3) c_299_30 (lo (c := 84) (kd := 0) (n := 112300) rfl (by decide)) (by decide) (by decide) rfl ?_
  refine i37 c_299_31 r2 (rge_ K1 rfl) rfl (fun hc => ?_) (fun hc => ?_)
  · have t := iT t hc
    have ha3 : (σ 84 3) ≤ x4 := hc
    obtain ⟨r4, t⟩ := t
    refine i3 c_299_65 rfl ?_
    refine i36 c_299_66 r4 rfl (fun hc => ?_) (fun hc => ?_)
    · have t := iF t hc
      have ha5 : ¬ (x2 = 0) := hc
      refine i3 c_299_85 rfl (i1 c_299_86 ?_)
      refine i37 c_299_87 r4 (by decide) rfl (fun hc => ?_) (fun hc => ?_)
      · have t := iF t hc
        have ha6 : ¬ (x2 = 1) := hc
        refine i3 c_299_94 rfl (i1 c_299_95 ?_)
        refine i37 c_299_96 r4 (by decide) rfl (fun hc => ?_) (fun hc => ?_)
        · have t := iF t hc
          have ha7 : ¬ (x2 = 2) := hc
          refine i1 c_299_117 ?_
          exact i90 c_299_118 t
        · have t := iT t (Decidable.not_not.mp hc)
          have ha7 : x2 = 2 := Decidable.not_not.mp hc
          obtain ⟨r8, t⟩ := t
          refine i5 c_299_99 rfl (i45 c_299_100 (lo (c := 83) (kd := 112) (n := 0) rfl (by decide)) (lro (c := 83) (k := 0) (j := 84) (by decide)) (i1 c_299_103 (i1 c_299_106 (i3 c_299_108 rfl (i12 c_299_109 (i10 c_299_110 (i1 c_299_111 (i10 c_299_112 (i50 (v := σ 84 ((3428 + (8 * x1)) + 3)) c_299_113 (lo (c := 84) (kd := 0) (n := 112300) rfl (by decide)) (by decide) r8 rfl (i38 c_299_114 rfl ?_))))))))))
          exact i90 c_299_118 t
      · have t := iT t (Decidable.not_not.mp hc)
        have ha6 : x2 = 1 := Decidable.not_not.mp hc
        refine i3 c_299_90 rfl (i38 c_299_91 rfl ?_)
        exact i90 c_299_118 t
    · have t := iT t (Decidable.not_not.mp hc)
      have ha5 : x2 = 0 := Decidable.not_not.mp hc
      obtain ⟨r9, t⟩ := t
      refine i5 c_299_69 rfl (i45 c_299_70 (lo (c := 83) (kd := 112) (n := 0) rfl (by decide)) (lro (c := 83) (k := 0) (j := 84) (by decide)) (i1 c_299_73 (i1 c_299_76 (i3 c_299_78 rfl (i12 c_299_79 (i10 c_299_80 (i50 (v := σ 84 (3428 + (8 * x1))) c_299_81 (lo (c := 84) (kd := 0) (n := 112300) rfl (by decide)) (by decide) r9 rfl (i38 c_299_82 rfl ?_))))))))
      exact i90 c_299_118 t
  · have t := iF t hc
    have ha3 : ¬ ((σ 84 3) ≤ x4) := hc
    obtain ⟨p10, t⟩ := t
    refine i3 c_299_34 rfl (i5 c_299_35 rfl (i3 c_299_36 rfl (i1 c_299_38 ?_)))
    refine i80 (As := [.int (wI x4), .int (wI 0)]) (rest := [.int (wI x3)]) c_299_39 mi_200 rfl rfl (Nat.le_of_ble_eq_true rfl) (Nat.le_of_ble_eq_true rfl) (lo (c := 83) (kd := 112) (n := 0) rfl (by decide)) (q_200 p10 ?_)
    show wi (d + 1) 299 42 [.ref 83, .int (wI x1), .int (wI x2), .int (wI x3), .int (wI x4)] [.int (wI (σ 84 (3460 + 8 * x4 + 0))), .int (wI x3)] S σ τ Q
    obtain ⟨r11, t⟩ := t
    refine i3 c_299_42 rfl ?_
    refine i37 c_299_43 (rge_ K1 rfl) r11 rfl (fun hc => ?_) (fun hc => ?_)
    · have t := iF t hc
      have ha12 : ¬ ((σ 84 (3460 + 8 * x4 + 0)) = x1) := hc
      refine i1 c_299_56 (i10 c_299_57 (i6 (L' := [.ref 83, .int (wI x1), .int (wI x2), .int (wI (x3 + 0)), .int (wI x4)]) c_299_58 rfl (i9 (L' := [.ref 83, .int (wI x1), .int (wI x2), .int (wI (x3 + 0)), .int (wI (x4 + 1))]) c_299_59 rfl rfl (i38 c_299_62 rfl t))))
    · have t := iT t (Decidable.not_not.mp hc)
      have ha12 : (σ 84 (3460 + 8 * x4 + 0)) = x1 := Decidable.not_not.mp hc
      obtain ⟨p13, t⟩ := t
      refine i5 c_299_46 rfl (i3 c_299_47 rfl (i1 c_299_49 ?_))
      refine i80 (As := [.int (wI x4), .int (wI 2)]) (rest := [.int (wI x3)]) c_299_50 mi_200 rfl rfl (Nat.le_of_ble_eq_true rfl) (Nat.le_of_ble_eq_true rfl) (lo (c := 83) (kd := 112) (n := 0) rfl (by decide)) (q_200 p13 ?_)
      show wi (d + 1) 299 53 [.ref 83, .int (wI x1), .int (wI x2), .int (wI x3), .int (wI x4)] [.int (wI (σ 84 (3460 + 8 * x4 + 2))), .int (wI x3)] S σ τ Q
      refine i38 c_299_53 rfl (i10 c_299_57 (i6 (L' := [.ref 83, .int (wI x1), .int (wI x2), .int (wI (x3 + (σ 84 (3460 + 8 * x4 + 2)))), .int (wI x4)]) c_299_58 rfl (i9 (L' := [.ref 83, .int (wI x1), .int (wI x2), .int (wI (x3 + (σ 84 (3460 + 8 * x4 + 2)))), .int (wI (x4 + 1))]) c_299_59 rfl rfl (i38 c_299_62 rfl t))))
theorem q_299 {d : Nat} {S : zS} {σ τ : zI} {Q : zQ} {shop : Int} {what : Int} (p0 : rg shop) (p1 : rg what) (p2 : Jv (σ 84)) (t : Q (some (.int (wI (v_shopOf (σ 84) shop what)))) S σ τ) : wc (d + 1) 299 [.ref 83, .int (wI shop), .int (wI what)] S σ τ Q := by
  have hC := jC p2
  unfold jv_C at hC
  refine wc_of mi_299 rfl (u_299_0 ⟨p0, by omega, ?_⟩)
  unfold v_shopOf at t
  by_cases b1 : 0 ≤ shop ∧ shop ≤ σ 84 2 - 1
  · rw [if_pos b1] at t
    rw [if_pos b1]
    have key : ∀ h, 0 ≤ h → h ≤ σ 84 3 → ∀ s, s = sI (fun h => if σ 84 (3460 + 8 * h + 0) = shop then σ 84 (3460 + 8 * h + 2) else 0) h → wi (d + 1) 299 23 [.ref 83, .int (wI shop), .int (wI what), .int (wI s), .int (wI h)] [] S σ τ Q := by
      refine lp_up (fun h h0 h1 ih => ?_)
      intro s hs
      refine u_299_23 ⟨by omega, ?_⟩
      by_cases c : σ 84 3 ≤ h
      · have : h = σ 84 3 := by omega
        subst this
        rw [if_pos (by omega), hs]
        refine ⟨p1, ?_⟩
        repeat' (first | exact t | refine ⟨by omega, ?_⟩ | (split at t) | (rw [if_pos (by assumption)]) | (rw [if_neg (by assumption)]))
      · have ih := ih (by omega)
        rw [sI_s h0, ← hs] at ih
        rw [if_neg c]
        refine ⟨by omega, p0, ?_⟩
        split
        · next h2 => rw [if_pos h2] at ih; exact ⟨by omega, ih _ rfl⟩
        · next h2 => rw [if_neg h2] at ih; exact ih _ rfl
    exact key 0 (by omega) (by omega) 0 rfl
  · rw [if_neg b1] at t
    rw [if_neg b1]
    exact t
