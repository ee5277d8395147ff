/-! ===== half time shared: plans; the reference (segments printed by wip/whole, contracts own work) ===== -/
def pw3 (n : Int) : Int := 3 ^ n.toNat
theorem pw3_0 : pw3 0 = 1 := rfl
theorem pw3_s {n : Int} (h : 0 ≤ n) : pw3 (n + 1) = 3 * pw3 n := by
  unfold pw3
  rw [show (n + 1).toNat = n.toNat + 1 by omega, Int.pow_succ, Int.mul_comm]
theorem pw3_p (n : Int) : 1 ≤ pw3 n := by
  unfold pw3
  induction n.toNat with
  | zero => decide
  | succ k ih => rw [Int.pow_succ]; omega
theorem pw3_b {n : Int} (h : 0 ≤ n ∧ n ≤ 8) : pw3 n ≤ 6561 := by
  have e : n = 0 ∨ n = 1 ∨ n = 2 ∨ n = 3 ∨ n = 4 ∨ n = 5 ∨ n = 6 ∨ n = 7 ∨ n = 8 := by omega
  rcases e with e | e | e | e | e | e | e | e | e <;> subst e <;> decide
/-- how the MILL m of M runs in the plan q -/
def dg (M q m : Int) : Int := 2 - q / pw3 (M - 1 - m) % 3
theorem dg_b (M q m : Int) : 0 ≤ dg M q m ∧ dg M q m ≤ 2 := by unfold dg; omega
/-- of a plan: the earnings of a HOME, the PIECES, whether it can be, how many are HUNGRY -/
def q_E (a : Int → Int) (q h : Int) : Int := sI (fun m => s_e a m (dg (a 1) q m) h) (a 1)
def q_N (a : Int → Int) (q : Int) : Int := sI (fun m => s_pc a m (dg (a 1) q m)) (a 1)
def q_G (a : Int → Int) (most q : Int) : Prop := (∀ m, 0 ≤ m → m < a 1 → dg (a 1) q m = 0 ∨ a (3300 + 16 * m + 5) = 0) ∧ q_N a q ≤ most
def q_h1 (a : Int → Int) (q h : Int) : Int := if a (3460 + 8 * h + 3) = 0 ∧ q_E a q h < r_need a h * r_pr a 1 (a 0) then 1 else 0
def q_H (a : Int → Int) (q : Int) : Int := sI (q_h1 a q) (a 3)
/-- b is the best of the plans below q -/
def BQ (a : Int → Int) (most q b Hb Nb : Int) : Prop := (b = -1 ∧ ∀ q', 0 ≤ q' → q' < q → ¬ q_G a most q') ∨ ((0 ≤ b ∧ b < q) ∧ q_G a most b ∧ Hb = q_H a b ∧ Nb = q_N a b ∧ ∀ q', 0 ≤ q' → q' < q → q_G a most q' → q_H a b < q_H a q' ∨ q_H a b = q_H a q' ∧ (q_N a q' < q_N a b ∨ q_N a q' = q_N a b ∧ b ≤ q'))
theorem s_pc_b {a : Int → Int} {m how : Int} (hJ : Jv a) (hT : jv_T a) (hm : 0 ≤ m ∧ m < a 1) : 0 ≤ s_pc a m how ∧ s_pc a m how ≤ 35640 := by
  have hC := jC hJ
  unfold jv_C at hC
  have := s_nn_b hJ hT hm (n := a 4) (by omega)
  unfold s_pc
  repeat' split
  · omega
  · omega
  · rw [Int.tdiv_eq_ediv_of_nonneg this.1]; omega
theorem s_e_b {a : Int → Int} {m how h : Int} (hJ : Jv a) (hT : jv_T a) (hm : 0 ≤ m ∧ m < a 1) : 0 ≤ s_e a m how h ∧ s_e a m how h ≤ 7200000000 := by
  have hC := jC hJ
  unfold jv_C at hC
  have := s_en_b (how := how) (h := h) hJ hT hm (n := a 4) (by omega)
  unfold s_e
  split <;> omega
theorem BQ_bad {a : Int → Int} {most q b H N : Int} (h : BQ a most q b H N) (n : ¬ q_G a most q) : BQ a most (q + 1) b H N := by
  rcases h with h | h
  · refine Or.inl ⟨h.1, fun q' q0 q1 => ?_⟩
    by_cases e : q' = q
    · subst e; exact n
    · exact h.2 q' q0 (by omega)
  · refine Or.inr ⟨by omega, h.2.1, h.2.2.1, h.2.2.2.1, fun q' q0 q1 g => ?_⟩
    by_cases e : q' = q
    · subst e; exact absurd g n
    · exact h.2.2.2.2 q' q0 (by omega) g
theorem BQ_keep {a : Int → Int} {most q b H N : Int} (h : BQ a most q b H N) (b0 : 0 ≤ b) (c : q_H a b < q_H a q ∨ q_H a b = q_H a q ∧ q_N a q ≤ q_N a b) : BQ a most (q + 1) b H N := by
  rcases h with h | h
  · omega
  · refine Or.inr ⟨by omega, h.2.1, h.2.2.1, h.2.2.2.1, fun q' q0 q1 g => ?_⟩
    by_cases e : q' = q
    · subst e; omega
    · exact h.2.2.2.2 q' q0 (by omega) g
theorem BQ_new {a : Int → Int} {most q b H N : Int} (q0 : 0 ≤ q) (h : BQ a most q b H N) (g : q_G a most q) (c : b < 0 ∨ q_H a q < q_H a b ∨ q_H a q = q_H a b ∧ q_N a b < q_N a q) : BQ a most (q + 1) q (q_H a q) (q_N a q) := by
  refine Or.inr ⟨by omega, g, rfl, rfl, fun q' a0 a1 g' => ?_⟩
  by_cases e : q' = q
  · subst e; omega
  · rcases h with h | h
    · exact absurd g' (h.2 q' a0 (by omega))
    · have := h.2.2.2.2 q' a0 (by omega) g'
      omega
theorem BQ_v {a : Int → Int} {most q b H N : Int} (h : BQ a most q b H N) (b0 : 0 ≤ b) : H = q_H a b ∧ N = q_N a b := by
  rcases h with h | h
  · omega
  · exact ⟨h.2.2.1, h.2.2.2.1⟩
theorem q_H_b (a : Int → Int) (q : Int) (h : 0 ≤ a 3 ∧ a 3 ≤ 24) : 0 ≤ q_H a q ∧ q_H a q ≤ 24 := by
  have := sI_b (f := q_h1 a q) (n := a 3) (lo := 0) (hi := 1) h.1 (fun p _ _ => by unfold q_h1; split <;> omega)
  unfold q_H
  omega
theorem r_need_b {a : Int → Int} {h : Int} (p : 0 ≤ a 4 ∧ a 4 ≤ 60) : 0 ≤ r_need a h ∧ r_need a h ≤ 240 := by
  have := sI_b (f := fun p => if a (3652 + 12 * p + 0) = h then (if 13 ≤ a (3652 + 12 * p + 1) then 4 else 2) else 0) (n := a 4) (lo := 0) (hi := 4) p.1 (fun p _ _ => by
    try dsimp only
    repeat' (first | omega | split))
  unfold r_need
  omega
/-- what share leaves alone -/
def FS (σ σ1 : zI) : Prop := (∀ c, c ≠ 83 → c ≠ 91 → c ≠ 92 → c ≠ 95 → c ≠ 98 → σ1 c = σ c) ∧ ∀ k, k < 22 ∨ 25 < k ∧ k < 37 ∨ 39 < k → σ1 83 k = σ 83 k
-- method 313: MillTownModel.hungryNow(I)I
theorem c_313_0 : pg_cd 313 0 = (1, 1, 0, 0, 0) := by decide +kernel
theorem c_313_1 : pg_cd 313 1 = (6, 1, 0, 2, 0) := by decide +kernel
theorem c_313_2 : pg_cd 313 2 = (1, 1, 0, 0, 0) := by decide +kernel
theorem c_313_3 : pg_cd 313 3 = (6, 1, 0, 3, 0) := by decide +kernel
theorem c_313_4 : pg_cd 313 4 = (3, 1, 0, 3, 0) := by decide +kernel
theorem c_313_5 : pg_cd 313 5 = (5, 1, 0, 0, 0) := by decide +kernel
theorem c_313_6 : pg_cd 313 6 = (45, 12, 8, 0, 0) := by decide +kernel
theorem c_313_9 : pg_cd 313 9 = (1, 1, 0, 0, 3) := by decide +kernel
theorem c_313_10 : pg_cd 313 10 = (50, 1, 0, 0, 0) := by decide +kernel
theorem c_313_11 : pg_cd 313 11 = (37, 3, 0, 3, 46) := by decide +kernel
theorem c_313_14 : pg_cd 313 14 = (3, 1, 0, 2, 0) := by decide +kernel
theorem c_313_15 : pg_cd 313 15 = (5, 1, 0, 0, 0) := by decide +kernel
theorem c_313_16 : pg_cd 313 16 = (3, 1, 0, 3, 0) := by decide +kernel
theorem c_313_17 : pg_cd 313 17 = (1, 1, 0, 0, 3) := by decide +kernel
theorem c_313_18 : pg_cd 313 18 = (80, 200, 99, 0, 0) := by decide +kernel
theorem c_313_21 : pg_cd 313 21 = (36, 3, 0, 1, 27) := by decide +kernel
theorem c_313_24 : pg_cd 313 24 = (5, 1, 0, 0, 0) := by decide +kernel
theorem c_313_25 : pg_cd 313 25 = (45, 12, 59, 36, 0) := by decide +kernel
theorem c_313_28 : pg_cd 313 28 = (3, 1, 0, 3, 0) := by decide +kernel
theorem c_313_29 : pg_cd 313 29 = (52, 1, 0, 0, 0) := by decide +kernel
theorem c_313_30 : pg_cd 313 30 = (5, 1, 0, 0, 0) := by decide +kernel
theorem c_313_31 : pg_cd 313 31 = (45, 12, 62, 40, 0) := by decide +kernel
theorem c_313_34 : pg_cd 313 34 = (3, 1, 0, 3, 0) := by decide +kernel
theorem c_313_35 : pg_cd 313 35 = (50, 1, 0, 0, 0) := by decide +kernel
theorem c_313_36 : pg_cd 313 36 = (31, 1, 0, 0, 0) := by decide +kernel
theorem c_313_37 : pg_cd 313 37 = (3, 1, 0, 1, 0) := by decide +kernel
theorem c_313_38 : pg_cd 313 38 = (31, 1, 0, 0, 0) := by decide +kernel
theorem c_313_39 : pg_cd 313 39 = (24, 1, 0, 0, 0) := by decide +kernel
theorem c_313_40 : pg_cd 313 40 = (28, 1, 0, 0, 0) := by decide +kernel
theorem c_313_41 : pg_cd 313 41 = (36, 3, 0, 3, 7) := by decide +kernel
theorem c_313_44 : pg_cd 313 44 = (1, 1, 0, 0, 1) := by decide +kernel
theorem c_313_45 : pg_cd 313 45 = (38, 3, 0, 0, 4) := by decide +kernel
theorem c_313_48 : pg_cd 313 48 = (1, 1, 0, 0, 0) := by decide +kernel
theorem c_313_49 : pg_cd 313 49 = (10, 1, 0, 0, 0) := by decide +kernel
theorem c_313_50 : pg_cd 313 50 = (6, 1, 0, 2, 0) := by decide +kernel
theorem c_313_51 : pg_cd 313 51 = (9, 3, 0, 3, 1) := by decide +kernel
theorem c_313_54 : pg_cd 313 54 = (38, 3, 0, 0, (-50)) := by decide +kernel
theorem c_313_57 : pg_cd 313 57 = (3, 1, 0, 2, 0) := by decide +kernel
theorem c_313_58 : pg_cd 313 58 = (90, 0, 0, 0, 0) := by decide +kernel
theorem mi_313 : pg_mc 313 = 12 ∧ pg_na 313 = 1 ∧ pg_mx 313 = 4 := by decide +kernel
set_option maxRecDepth 20000 in
theorem u_313_0 {d : Nat} {S : zS} {σ τ : zI} {Q : zQ} {x1 : Int} (t : wi (d + 1) 313 4 [.ref 83, .int (wI x1), .int (wI 0), .int (wI 0)] [] S σ τ Q) : wi (d + 1) 313 0 [.ref 83, .int (wI x1), .retAddr 0, .retAddr 0] [] S σ τ Q := by
  refine i1 c_313_0 (i6 (L' := [.ref 83, .int (wI x1), .int (wI 0), .retAddr 0]) c_313_1 rfl (i1 c_313_2 (i6 (L' := [.ref 83, .int (wI x1), .int (wI 0), .int (wI 0)]) c_313_3 rfl t)))
set_option maxRecDepth 20000 in
theorem u_313_4 {d : Nat} {S : zS} {σ τ : zI} {Q : zQ} {x1 : Int} {x2 : Int} {x3 : Int} (t : (rg x3) ∧ if (σ 84 3) ≤ x3 then (Q (some (.int (wI x2))) S σ τ) else ((0 ≤ 3460 + 8 * x3 + 3 ∧ 3460 + 8 * x3 + 3 < 112300) ∧ if (σ 84 (3460 + 8 * x3 + 3)) = 0 then ((0 ≤ x3 ∧ x3 < 24) ∧ (rg x1) ∧ (rj ((σ 98 x3) * x1)) ∧ if ((σ 98 x3) * x1) ≤ (τ 97 x3) then (wi (d + 1) 313 4 [.ref 83, .int (wI x1), .int (wI (x2 + 0)), .int (wI (x3 + 1))] [] S σ τ Q) else (wi (d + 1) 313 4 [.ref 83, .int (wI x1), .int (wI (x2 + 1)), .int (wI (x3 + 1))] [] S σ τ Q)) else (wi (d + 1) 313 4 [.ref 83, .int (wI x1), .int (wI (x2 + 0)), .int (wI (x3 + 1))] [] S σ τ Q))) : wi (d + 1) 313 4 [.ref 83, .int (wI x1), .int (wI x2), .int (wI x3)] [] S σ τ Q := by
  refine i3 c_313_4 rfl (i5 c_313_5 rfl (i45 c_313_6 (lo (c := 83) (kd := 112) (n := 0) rfl (by decide)) (lro (c := 83) (k := 0) (j := 84) (by decide)) (i1 c_313_9 (wi_ok (fun K1 => ?_)))))
  obtain ⟨r2, t⟩ := t
  refine i50 (v := σ 84 3) c_313_10 (lo (c := 84) (kd := 0) (n := 112300) rfl (by decide)) (by decide) (by decide) rfl ?_
  refine i37 c_313_11 r2 (rge_ K1 rfl) rfl (fun hc => ?_) (fun hc => ?_)
  · have t := iT t hc
    have ha3 : (σ 84 3) ≤ x3 := hc
    refine i3 c_313_57 rfl ?_
    exact i90 c_313_58 t
  · have t := iF t hc
    have ha3 : ¬ ((σ 84 3) ≤ x3) := hc
    obtain ⟨p4, t⟩ := t
    refine i3 c_313_14 rfl (i5 c_313_15 rfl (i3 c_313_16 rfl (i1 c_313_17 ?_)))
    refine i80 (As := [.int (wI x3), .int (wI 3)]) (rest := [.int (wI x2)]) c_313_18 mi_200 rfl rfl (Nat.le_of_ble_eq_true rfl) (Nat.le_of_ble_eq_true rfl) (lo (c := 83) (kd := 112) (n := 0) rfl (by decide)) (q_200 p4 ?_)
    show wi (d + 1) 313 21 [.ref 83, .int (wI x1), .int (wI x2), .int (wI x3)] [.int (wI (σ 84 (3460 + 8 * x3 + 3))), .int (wI x2)] S σ τ Q
    refine i36 c_313_21 (rge_ K1 rfl) rfl (fun hc => ?_) (fun hc => ?_)
    · have t := iF t hc
      have ha5 : ¬ ((σ 84 (3460 + 8 * x3 + 3)) = 0) := hc
      refine i1 c_313_48 (i10 c_313_49 (i6 (L' := [.ref 83, .int (wI x1), .int (wI (x2 + 0)), .int (wI x3)]) c_313_50 rfl (i9 (L' := [.ref 83, .int (wI x1), .int (wI (x2 + 0)), .int (wI (x3 + 1))]) c_313_51 rfl rfl (i38 c_313_54 rfl t))))
    · have t := iT t (Decidable.not_not.mp hc)
      have ha5 : (σ 84 (3460 + 8 * x3 + 3)) = 0 := Decidable.not_not.mp hc
      obtain ⟨r6, t⟩ := t
      obtain ⟨r7, t⟩ := t
      obtain ⟨r8, t⟩ := t
      refine i5 c_313_24 rfl (i45 c_313_25 (lo (c := 83) (kd := 112) (n := 0) rfl (by decide)) (lro (c := 83) (k := 36) (j := 97) (by decide)) (i3 c_313_28 rfl (i52 (v := τ 97 x3) c_313_29 (lo (c := 97) (kd := 1) (n := 24) rfl (by decide)) (by decide) r6 rfl (i5 c_313_30 rfl (i45 c_313_31 (lo (c := 83) (kd := 112) (n := 0) rfl (by decide)) (lro (c := 83) (k := 40) (j := 98) (by decide)) (i3 c_313_34 rfl (i50 (v := σ 98 x3) c_313_35 (lo (c := 98) (kd := 0) (n := 24) rfl (by decide)) (by decide) r6 rfl (i31 c_313_36 (rge_ K1 rfl) (i3 c_313_37 rfl (i31 c_313_38 r7 (i24 c_313_39 (i28 c_313_40 ?_))))))))))))
      refine i36l c_313_41 (rje_ K1 rfl) r8 rfl (fun hc => ?_) (fun hc => ?_)
      · have t := iT t hc
        have ha9 : ((σ 98 x3) * x1) ≤ (τ 97 x3) := hc
        refine i1 c_313_48 (i10 c_313_49 (i6 (L' := [.ref 83, .int (wI x1), .int (wI (x2 + 0)), .int (wI x3)]) c_313_50 rfl (i9 (L' := [.ref 83, .int (wI x1), .int (wI (x2 + 0)), .int (wI (x3 + 1))]) c_313_51 rfl rfl (i38 c_313_54 rfl t))))
      · have t := iF t hc
        have ha9 : ¬ (((σ 98 x3) * x1) ≤ (τ 97 x3)) := hc
        refine i1 c_313_44 (i38 c_313_45 rfl (i10 c_313_49 (i6 (L' := [.ref 83, .int (wI x1), .int (wI (x2 + 1)), .int (wI x3)]) c_313_50 rfl (i9 (L' := [.ref 83, .int (wI x1), .int (wI (x2 + 1)), .int (wI (x3 + 1))]) c_313_51 rfl rfl (i38 c_313_54 rfl t)))))
theorem q_313 {d : Nat} {S : zS} {σ τ : zI} {Q : zQ} {loaf : Int} (p0 : jv_C (σ 84)) (p1 : 0 ≤ loaf ∧ loaf ≤ (100000 : Int)) (p2 : (∀ h, 0 ≤ h → h < σ 84 3 → 0 ≤ σ 98 h ∧ σ 98 h ≤ 240)) (t : ∀ (v : Int), v = sI (fun h => if σ 84 (3460 + 8 * h + 3) = 0 ∧ τ 97 h < σ 98 h * loaf then 1 else 0) (σ 84 3) → Q (some (.int (wI v))) S σ τ) : wc (d + 1) 313 [.ref 83, .int (wI loaf)] S σ τ Q := by
  have hC := p0
  unfold jv_C at hC
  have t := t _ rfl
  refine wc_of mi_313 rfl (u_313_0 ?_)
  have key : ∀ h, 0 ≤ h → h ≤ σ 84 3 → ∀ s, s = sI (fun h => if σ 84 (3460 + 8 * h + 3) = 0 ∧ τ 97 h < σ 98 h * loaf then 1 else 0) h → wi (d + 1) 313 4 [.ref 83, .int (wI loaf), .int (wI s), .int (wI h)] [] S σ τ Q := by
    refine lp_up (fun h h0 h1 ih => ?_)
    intro s hs
    refine u_313_4 ⟨by omega, ifI (fun e => ?_) (fun e => ?_)⟩
    · have : h = σ 84 3 := by omega
      subst this
      rw [hs]; exact t
    · have ih := ih (by omega)
      rw [sI_s h0, ← hs] at ih
      have nb := p2 h h0 (by omega)
      have lb : 0 ≤ σ 98 h * loaf ∧ σ 98 h * loaf ≤ 240 * 100000 := ⟨Int.mul_nonneg nb.1 p1.1, Int.mul_le_mul nb.2 p1.2 (by omega) (by omega)⟩
      refine ⟨by omega, ifI (fun c => ⟨by omega, by omega, by omega, ifI (fun c2 => ?_) (fun c2 => ?_)⟩) (fun c => ?_)⟩
      · rw [if_neg (by omega)] at ih; exact ih _ rfl
      · rw [if_pos (by omega)] at ih; exact ih _ rfl
      · rw [if_neg (by omega)] at ih; exact ih _ rfl
  exact key 0 (by omega) (by omega) 0 rfl
theorem q_209i {d : Nat} {S : zS} {σ τ : zI} {Q : zQ} {what : Int} {week : Int} (p0 : ((0 : Int) ≤ what ∧ what ≤ (7 : Int)) ∧ (-1 : Int) ≤ week ∧ week ≤ (399 : Int)) (t : Q (some (.int (wI (r_pr (σ 84) what week)))) S σ τ) : wc (d + 0) 209 [.ref 83, .int (wI what), .int (wI week)] S σ τ Q := by
  exact q_209 p0 t
-- method 314: MillTownModel.share(I)V
theorem c_314_0 : pg_cd 314 0 = (1, 1, 0, 0, 0) := by decide +kernel
theorem c_314_1 : pg_cd 314 1 = (6, 1, 0, 2, 0) := by decide +kernel
theorem c_314_2 : pg_cd 314 2 = (3, 1, 0, 2, 0) := by decide +kernel
theorem c_314_3 : pg_cd 314 3 = (5, 1, 0, 0, 0) := by decide +kernel
theorem c_314_4 : pg_cd 314 4 = (45, 12, 8, 0, 0) := by decide +kernel
theorem c_314_7 : pg_cd 314 7 = (1, 1, 0, 0, 1) := by decide +kernel
theorem c_314_8 : pg_cd 314 8 = (50, 1, 0, 0, 0) := by decide +kernel
theorem c_314_9 : pg_cd 314 9 = (37, 3, 0, 3, 28) := by decide +kernel
theorem c_314_12 : pg_cd 314 12 = (1, 1, 0, 0, 0) := by decide +kernel
theorem c_314_13 : pg_cd 314 13 = (6, 1, 0, 3, 0) := by decide +kernel
theorem c_314_14 : pg_cd 314 14 = (3, 1, 0, 3, 0) := by decide +kernel
theorem c_314_15 : pg_cd 314 15 = (1, 1, 0, 0, 3) := by decide +kernel
theorem c_314_16 : pg_cd 314 16 = (37, 3, 0, 3, 15) := by decide +kernel
theorem c_314_19 : pg_cd 314 19 = (5, 1, 0, 0, 0) := by decide +kernel
theorem c_314_20 : pg_cd 314 20 = (3, 1, 0, 2, 0) := by decide +kernel
theorem c_314_21 : pg_cd 314 21 = (3, 1, 0, 3, 0) := by decide +kernel
theorem c_314_22 : pg_cd 314 22 = (80, 312, 427, 0, 0) := by decide +kernel
theorem c_314_25 : pg_cd 314 25 = (9, 3, 0, 3, 1) := by decide +kernel
theorem c_314_28 : pg_cd 314 28 = (38, 3, 0, 0, (-14)) := by decide +kernel
theorem c_314_31 : pg_cd 314 31 = (9, 3, 0, 2, 1) := by decide +kernel
theorem c_314_34 : pg_cd 314 34 = (38, 3, 0, 0, (-32)) := by decide +kernel
theorem c_314_37 : pg_cd 314 37 = (1, 1, 0, 0, 0) := by decide +kernel
theorem c_314_38 : pg_cd 314 38 = (6, 1, 0, 2, 0) := by decide +kernel
theorem c_314_39 : pg_cd 314 39 = (3, 1, 0, 2, 0) := by decide +kernel
theorem c_314_40 : pg_cd 314 40 = (5, 1, 0, 0, 0) := by decide +kernel
theorem c_314_41 : pg_cd 314 41 = (45, 12, 8, 0, 0) := by decide +kernel
theorem c_314_44 : pg_cd 314 44 = (1, 1, 0, 0, 3) := by decide +kernel
theorem c_314_45 : pg_cd 314 45 = (50, 1, 0, 0, 0) := by decide +kernel
theorem c_314_46 : pg_cd 314 46 = (37, 3, 0, 3, 20) := by decide +kernel
theorem c_314_49 : pg_cd 314 49 = (5, 1, 0, 0, 0) := by decide +kernel
theorem c_314_50 : pg_cd 314 50 = (45, 12, 62, 40, 0) := by decide +kernel
theorem c_314_53 : pg_cd 314 53 = (3, 1, 0, 2, 0) := by decide +kernel
theorem c_314_54 : pg_cd 314 54 = (5, 1, 0, 0, 0) := by decide +kernel
theorem c_314_55 : pg_cd 314 55 = (3, 1, 0, 2, 0) := by decide +kernel
theorem c_314_56 : pg_cd 314 56 = (80, 288, 370, 0, 0) := by decide +kernel
theorem c_314_59 : pg_cd 314 59 = (54, 1, 0, 0, 0) := by decide +kernel
theorem c_314_60 : pg_cd 314 60 = (9, 3, 0, 2, 1) := by decide +kernel
theorem c_314_63 : pg_cd 314 63 = (38, 3, 0, 0, (-24)) := by decide +kernel
theorem c_314_66 : pg_cd 314 66 = (5, 1, 0, 0, 0) := by decide +kernel
theorem c_314_67 : pg_cd 314 67 = (1, 1, 0, 0, 1) := by decide +kernel
theorem c_314_68 : pg_cd 314 68 = (5, 1, 0, 0, 0) := by decide +kernel
theorem c_314_69 : pg_cd 314 69 = (45, 12, 8, 0, 0) := by decide +kernel
theorem c_314_72 : pg_cd 314 72 = (1, 1, 0, 0, 0) := by decide +kernel
theorem c_314_73 : pg_cd 314 73 = (50, 1, 0, 0, 0) := by decide +kernel
theorem c_314_74 : pg_cd 314 74 = (80, 209, 92, 0, 0) := by decide +kernel
theorem c_314_77 : pg_cd 314 77 = (6, 1, 0, 2, 0) := by decide +kernel
theorem c_314_78 : pg_cd 314 78 = (1, 1, 0, 0, 1) := by decide +kernel
theorem c_314_79 : pg_cd 314 79 = (6, 1, 0, 3, 0) := by decide +kernel
theorem c_314_80 : pg_cd 314 80 = (1, 1, 0, 0, 0) := by decide +kernel
theorem c_314_81 : pg_cd 314 81 = (6, 2, 0, 4, 0) := by decide +kernel
theorem c_314_83 : pg_cd 314 83 = (3, 2, 0, 4, 0) := by decide +kernel
theorem c_314_85 : pg_cd 314 85 = (5, 1, 0, 0, 0) := by decide +kernel
theorem c_314_86 : pg_cd 314 86 = (45, 12, 8, 0, 0) := by decide +kernel
theorem c_314_89 : pg_cd 314 89 = (1, 1, 0, 0, 1) := by decide +kernel
theorem c_314_90 : pg_cd 314 90 = (50, 1, 0, 0, 0) := by decide +kernel
theorem c_314_91 : pg_cd 314 91 = (37, 3, 0, 3, 13) := by decide +kernel
theorem c_314_94 : pg_cd 314 94 = (3, 1, 0, 3, 0) := by decide +kernel
theorem c_314_95 : pg_cd 314 95 = (1, 1, 0, 0, 3) := by decide +kernel
theorem c_314_96 : pg_cd 314 96 = (12, 1, 0, 0, 0) := by decide +kernel
theorem c_314_97 : pg_cd 314 97 = (6, 1, 0, 3, 0) := by decide +kernel
theorem c_314_98 : pg_cd 314 98 = (9, 3, 0, 4, 1) := by decide +kernel
theorem c_314_101 : pg_cd 314 101 = (38, 3, 0, 0, (-18)) := by decide +kernel
theorem c_314_104 : pg_cd 314 104 = (5, 1, 0, 0, 0) := by decide +kernel
theorem c_314_105 : pg_cd 314 105 = (1, 1, 0, 0, (-1)) := by decide +kernel
theorem c_314_106 : pg_cd 314 106 = (46, 12, 430, 39, 0) := by decide +kernel
theorem c_314_109 : pg_cd 314 109 = (1, 1, 0, 0, 0) := by decide +kernel
theorem c_314_110 : pg_cd 314 110 = (6, 2, 0, 4, 0) := by decide +kernel
theorem c_314_112 : pg_cd 314 112 = (3, 2, 0, 4, 0) := by decide +kernel
theorem c_314_114 : pg_cd 314 114 = (3, 1, 0, 3, 0) := by decide +kernel
theorem c_314_115 : pg_cd 314 115 = (37, 3, 0, 3, 251) := by decide +kernel
theorem c_314_118 : pg_cd 314 118 = (3, 1, 0, 3, 0) := by decide +kernel
theorem c_314_119 : pg_cd 314 119 = (6, 2, 0, 5, 0) := by decide +kernel
theorem c_314_121 : pg_cd 314 121 = (1, 1, 0, 0, 0) := by decide +kernel
theorem c_314_122 : pg_cd 314 122 = (6, 2, 0, 6, 0) := by decide +kernel
theorem c_314_124 : pg_cd 314 124 = (1, 1, 0, 0, 1) := by decide +kernel
theorem c_314_125 : pg_cd 314 125 = (6, 2, 0, 7, 0) := by decide +kernel
theorem c_314_127 : pg_cd 314 127 = (1, 1, 0, 0, 0) := by decide +kernel
theorem c_314_128 : pg_cd 314 128 = (6, 2, 0, 8, 0) := by decide +kernel
theorem c_314_130 : pg_cd 314 130 = (3, 2, 0, 8, 0) := by decide +kernel
theorem c_314_132 : pg_cd 314 132 = (5, 1, 0, 0, 0) := by decide +kernel
theorem c_314_133 : pg_cd 314 133 = (45, 12, 8, 0, 0) := by decide +kernel
theorem c_314_136 : pg_cd 314 136 = (1, 1, 0, 0, 3) := by decide +kernel
theorem c_314_137 : pg_cd 314 137 = (50, 1, 0, 0, 0) := by decide +kernel
theorem c_314_138 : pg_cd 314 138 = (37, 3, 0, 3, 17) := by decide +kernel
theorem c_314_141 : pg_cd 314 141 = (5, 1, 0, 0, 0) := by decide +kernel
theorem c_314_142 : pg_cd 314 142 = (45, 12, 59, 36, 0) := by decide +kernel
theorem c_314_145 : pg_cd 314 145 = (3, 2, 0, 8, 0) := by decide +kernel
theorem c_314_147 : pg_cd 314 147 = (2, 1, 0, 0, 0) := by decide +kernel
theorem c_314_148 : pg_cd 314 148 = (56, 1, 0, 0, 0) := by decide +kernel
theorem c_314_149 : pg_cd 314 149 = (9, 3, 0, 8, 1) := by decide +kernel
theorem c_314_152 : pg_cd 314 152 = (38, 3, 0, 0, (-22)) := by decide +kernel
theorem c_314_155 : pg_cd 314 155 = (1, 1, 0, 0, 0) := by decide +kernel
theorem c_314_156 : pg_cd 314 156 = (6, 2, 0, 8, 0) := by decide +kernel
theorem c_314_158 : pg_cd 314 158 = (3, 2, 0, 8, 0) := by decide +kernel
theorem c_314_160 : pg_cd 314 160 = (5, 1, 0, 0, 0) := by decide +kernel
theorem c_314_161 : pg_cd 314 161 = (45, 12, 8, 0, 0) := by decide +kernel
theorem c_314_164 : pg_cd 314 164 = (1, 1, 0, 0, 1) := by decide +kernel
theorem c_314_165 : pg_cd 314 165 = (50, 1, 0, 0, 0) := by decide +kernel
theorem c_314_166 : pg_cd 314 166 = (37, 3, 0, 3, 118) := by decide +kernel
theorem c_314_169 : pg_cd 314 169 = (3, 2, 0, 5, 0) := by decide +kernel
theorem c_314_171 : pg_cd 314 171 = (1, 1, 0, 0, 3) := by decide +kernel
theorem c_314_172 : pg_cd 314 172 = (16, 1, 0, 0, 0) := by decide +kernel
theorem c_314_173 : pg_cd 314 173 = (6, 2, 0, 5, 0) := by decide +kernel
theorem c_314_175 : pg_cd 314 175 = (1, 1, 0, 0, 2) := by decide +kernel
theorem c_314_176 : pg_cd 314 176 = (3, 2, 0, 4, 0) := by decide +kernel
theorem c_314_178 : pg_cd 314 178 = (3, 2, 0, 5, 0) := by decide +kernel
theorem c_314_180 : pg_cd 314 180 = (16, 1, 0, 0, 0) := by decide +kernel
theorem c_314_181 : pg_cd 314 181 = (1, 1, 0, 0, 3) := by decide +kernel
theorem c_314_182 : pg_cd 314 182 = (17, 1, 0, 0, 0) := by decide +kernel
theorem c_314_183 : pg_cd 314 183 = (11, 1, 0, 0, 0) := by decide +kernel
theorem c_314_184 : pg_cd 314 184 = (6, 2, 0, 9, 0) := by decide +kernel
theorem c_314_186 : pg_cd 314 186 = (3, 2, 0, 7, 0) := by decide +kernel
theorem c_314_188 : pg_cd 314 188 = (36, 3, 0, 0, 22) := by decide +kernel
theorem c_314_191 : pg_cd 314 191 = (3, 2, 0, 9, 0) := by decide +kernel
theorem c_314_193 : pg_cd 314 193 = (36, 3, 0, 0, 13) := by decide +kernel
theorem c_314_196 : pg_cd 314 196 = (5, 1, 0, 0, 0) := by decide +kernel
theorem c_314_197 : pg_cd 314 197 = (3, 2, 0, 8, 0) := by decide +kernel
theorem c_314_199 : pg_cd 314 199 = (1, 1, 0, 0, 5) := by decide +kernel
theorem c_314_200 : pg_cd 314 200 = (80, 198, 118, 0, 0) := by decide +kernel
theorem c_314_203 : pg_cd 314 203 = (36, 3, 0, 1, 7) := by decide +kernel
theorem c_314_206 : pg_cd 314 206 = (1, 1, 0, 0, 1) := by decide +kernel
theorem c_314_207 : pg_cd 314 207 = (38, 3, 0, 0, 4) := by decide +kernel
theorem c_314_210 : pg_cd 314 210 = (1, 1, 0, 0, 0) := by decide +kernel
theorem c_314_211 : pg_cd 314 211 = (6, 2, 0, 7, 0) := by decide +kernel
theorem c_314_213 : pg_cd 314 213 = (3, 2, 0, 6, 0) := by decide +kernel
theorem c_314_215 : pg_cd 314 215 = (5, 1, 0, 0, 0) := by decide +kernel
theorem c_314_216 : pg_cd 314 216 = (45, 12, 53, 34, 0) := by decide +kernel
theorem c_314_219 : pg_cd 314 219 = (1, 1, 0, 0, 3) := by decide +kernel
theorem c_314_220 : pg_cd 314 220 = (3, 2, 0, 8, 0) := by decide +kernel
theorem c_314_222 : pg_cd 314 222 = (12, 1, 0, 0, 0) := by decide +kernel
theorem c_314_223 : pg_cd 314 223 = (3, 2, 0, 9, 0) := by decide +kernel
theorem c_314_225 : pg_cd 314 225 = (10, 1, 0, 0, 0) := by decide +kernel
theorem c_314_226 : pg_cd 314 226 = (50, 1, 0, 0, 0) := by decide +kernel
theorem c_314_227 : pg_cd 314 227 = (10, 1, 0, 0, 0) := by decide +kernel
theorem c_314_228 : pg_cd 314 228 = (6, 2, 0, 6, 0) := by decide +kernel
theorem c_314_230 : pg_cd 314 230 = (1, 1, 0, 0, 0) := by decide +kernel
theorem c_314_231 : pg_cd 314 231 = (6, 2, 0, 10, 0) := by decide +kernel
theorem c_314_233 : pg_cd 314 233 = (3, 2, 0, 10, 0) := by decide +kernel
theorem c_314_235 : pg_cd 314 235 = (5, 1, 0, 0, 0) := by decide +kernel
theorem c_314_236 : pg_cd 314 236 = (45, 12, 8, 0, 0) := by decide +kernel
theorem c_314_239 : pg_cd 314 239 = (1, 1, 0, 0, 3) := by decide +kernel
theorem c_314_240 : pg_cd 314 240 = (50, 1, 0, 0, 0) := by decide +kernel
theorem c_314_241 : pg_cd 314 241 = (37, 3, 0, 3, 37) := by decide +kernel
theorem c_314_244 : pg_cd 314 244 = (5, 1, 0, 0, 0) := by decide +kernel
theorem c_314_245 : pg_cd 314 245 = (45, 12, 59, 36, 0) := by decide +kernel
theorem c_314_248 : pg_cd 314 248 = (3, 2, 0, 10, 0) := by decide +kernel
theorem c_314_250 : pg_cd 314 250 = (34, 1, 0, 0, 0) := by decide +kernel
theorem c_314_251 : pg_cd 314 251 = (52, 1, 0, 0, 0) := by decide +kernel
theorem c_314_252 : pg_cd 314 252 = (5, 1, 0, 0, 0) := by decide +kernel
theorem c_314_253 : pg_cd 314 253 = (45, 12, 56, 35, 0) := by decide +kernel
theorem c_314_256 : pg_cd 314 256 = (1, 2, 0, 0, 24) := by decide +kernel
theorem c_314_258 : pg_cd 314 258 = (1, 1, 0, 0, 3) := by decide +kernel
theorem c_314_259 : pg_cd 314 259 = (3, 2, 0, 8, 0) := by decide +kernel
theorem c_314_261 : pg_cd 314 261 = (12, 1, 0, 0, 0) := by decide +kernel
theorem c_314_262 : pg_cd 314 262 = (3, 2, 0, 9, 0) := by decide +kernel
theorem c_314_264 : pg_cd 314 264 = (10, 1, 0, 0, 0) := by decide +kernel
theorem c_314_265 : pg_cd 314 265 = (12, 1, 0, 0, 0) := by decide +kernel
theorem c_314_266 : pg_cd 314 266 = (3, 2, 0, 10, 0) := by decide +kernel
theorem c_314_268 : pg_cd 314 268 = (10, 1, 0, 0, 0) := by decide +kernel
theorem c_314_269 : pg_cd 314 269 = (52, 1, 0, 0, 0) := by decide +kernel
theorem c_314_270 : pg_cd 314 270 = (22, 1, 0, 0, 0) := by decide +kernel
theorem c_314_271 : pg_cd 314 271 = (56, 1, 0, 0, 0) := by decide +kernel
theorem c_314_272 : pg_cd 314 272 = (9, 3, 0, 10, 1) := by decide +kernel
theorem c_314_275 : pg_cd 314 275 = (38, 3, 0, 0, (-42)) := by decide +kernel
theorem c_314_278 : pg_cd 314 278 = (9, 3, 0, 8, 1) := by decide +kernel
theorem c_314_281 : pg_cd 314 281 = (38, 3, 0, 0, (-123)) := by decide +kernel
theorem c_314_284 : pg_cd 314 284 = (3, 2, 0, 7, 0) := by decide +kernel
theorem c_314_286 : pg_cd 314 286 = (36, 3, 0, 0, 74) := by decide +kernel
theorem c_314_289 : pg_cd 314 289 = (3, 2, 0, 6, 0) := by decide +kernel
theorem c_314_291 : pg_cd 314 291 = (3, 1, 0, 1, 0) := by decide +kernel
theorem c_314_292 : pg_cd 314 292 = (37, 3, 0, 5, 6) := by decide +kernel
theorem c_314_295 : pg_cd 314 295 = (38, 3, 0, 0, 65) := by decide +kernel
theorem c_314_298 : pg_cd 314 298 = (5, 1, 0, 0, 0) := by decide +kernel
theorem c_314_299 : pg_cd 314 299 = (3, 1, 0, 2, 0) := by decide +kernel
theorem c_314_300 : pg_cd 314 300 = (80, 313, 433, 0, 0) := by decide +kernel
theorem c_314_303 : pg_cd 314 303 = (6, 2, 0, 8, 0) := by decide +kernel
theorem c_314_305 : pg_cd 314 305 = (5, 1, 0, 0, 0) := by decide +kernel
theorem c_314_306 : pg_cd 314 306 = (43, 12, 430, 39, 0) := by decide +kernel
theorem c_314_309 : pg_cd 314 309 = (36, 3, 0, 2, 33) := by decide +kernel
theorem c_314_312 : pg_cd 314 312 = (3, 2, 0, 8, 0) := by decide +kernel
theorem c_314_314 : pg_cd 314 314 = (5, 1, 0, 0, 0) := by decide +kernel
theorem c_314_315 : pg_cd 314 315 = (43, 12, 436, 37, 0) := by decide +kernel
theorem c_314_318 : pg_cd 314 318 = (37, 3, 0, 4, 42) := by decide +kernel
theorem c_314_321 : pg_cd 314 321 = (3, 2, 0, 8, 0) := by decide +kernel
theorem c_314_323 : pg_cd 314 323 = (5, 1, 0, 0, 0) := by decide +kernel
theorem c_314_324 : pg_cd 314 324 = (43, 12, 436, 37, 0) := by decide +kernel
theorem c_314_327 : pg_cd 314 327 = (37, 3, 0, 1, 15) := by decide +kernel
theorem c_314_330 : pg_cd 314 330 = (3, 2, 0, 6, 0) := by decide +kernel
theorem c_314_332 : pg_cd 314 332 = (5, 1, 0, 0, 0) := by decide +kernel
theorem c_314_333 : pg_cd 314 333 = (43, 12, 439, 38, 0) := by decide +kernel
theorem c_314_336 : pg_cd 314 336 = (37, 3, 0, 4, 6) := by decide +kernel
theorem c_314_339 : pg_cd 314 339 = (38, 3, 0, 0, 21) := by decide +kernel
theorem c_314_342 : pg_cd 314 342 = (5, 1, 0, 0, 0) := by decide +kernel
theorem c_314_343 : pg_cd 314 343 = (3, 2, 0, 4, 0) := by decide +kernel
theorem c_314_345 : pg_cd 314 345 = (46, 12, 430, 39, 0) := by decide +kernel
theorem c_314_348 : pg_cd 314 348 = (5, 1, 0, 0, 0) := by decide +kernel
theorem c_314_349 : pg_cd 314 349 = (3, 2, 0, 8, 0) := by decide +kernel
theorem c_314_351 : pg_cd 314 351 = (46, 12, 436, 37, 0) := by decide +kernel
theorem c_314_354 : pg_cd 314 354 = (5, 1, 0, 0, 0) := by decide +kernel
theorem c_314_355 : pg_cd 314 355 = (3, 2, 0, 6, 0) := by decide +kernel
theorem c_314_357 : pg_cd 314 357 = (46, 12, 439, 38, 0) := by decide +kernel
theorem c_314_360 : pg_cd 314 360 = (9, 3, 0, 4, 1) := by decide +kernel
theorem c_314_363 : pg_cd 314 363 = (38, 3, 0, 0, (-251)) := by decide +kernel
theorem c_314_366 : pg_cd 314 366 = (94, 0, 0, 0, 0) := by decide +kernel
theorem mi_314 : pg_mc 314 = 12 ∧ pg_na 314 = 1 ∧ pg_mx 314 = 11 := by decide +kernel
set_option maxRecDepth 20000 in
theorem u_314_0 {d : Nat} {S : zS} {σ τ : zI} {Q : zQ} {x1 : Int} (t : wi (d + 10) 314 2 [.ref 83, .int (wI x1), .int (wI 0), .retAddr 0, .retAddr 0, .retAddr 0, .retAddr 0, .retAddr 0, .retAddr 0, .retAddr 0, .retAddr 0] [] S σ τ Q) : wi (d + 10) 314 0 [.ref 83, .int (wI x1), .retAddr 0, .retAddr 0, .retAddr 0, .retAddr 0, .retAddr 0, .retAddr 0, .retAddr 0, .retAddr 0, .retAddr 0] [] S σ τ Q := by
  refine i1 c_314_0 (i6 (L' := [.ref 83, .int (wI x1), .int (wI 0), .retAddr 0, .retAddr 0, .retAddr 0, .retAddr 0, .retAddr 0, .retAddr 0, .retAddr 0, .retAddr 0]) c_314_1 rfl t)
set_option maxRecDepth 20000 in
theorem u_314_2 {d : Nat} {S : zS} {σ τ : zI} {Q : zQ} {x1 : Int} {x2 : Int} {y3 : Value} {y4 : Value} {y5 : Value} {y6 : Value} {y7 : Value} {y8 : Value} {y9 : Value} {y10 : Value} (t : (rg x2) ∧ if (σ 84 1) ≤ x2 then (wi (d + 10) 314 39 [.ref 83, .int (wI x1), .int (wI 0), y3, y4, y5, y6, y7, y8, y9, y10] [] S σ τ Q) else (wi (d + 10) 314 14 [.ref 83, .int (wI x1), .int (wI x2), .int (wI 0), y4, y5, y6, y7, y8, y9, y10] [] S σ τ Q)) : wi (d + 10) 314 2 [.ref 83, .int (wI x1), .int (wI x2), y3, y4, y5, y6, y7, y8, y9, y10] [] S σ τ Q := by
  refine i3 c_314_2 rfl (i5 c_314_3 rfl (i45 c_314_4 (lo (c := 83) (kd := 112) (n := 0) rfl (by decide)) (lro (c := 83) (k := 0) (j := 84) (by decide)) (i1 c_314_7 (wi_ok (fun K1 => ?_)))))
  obtain ⟨r2, t⟩ := t
  refine i50 (v := σ 84 1) c_314_8 (lo (c := 84) (kd := 0) (n := 112300) rfl (by decide)) (by decide) (by decide) rfl ?_
  refine i37 c_314_9 r2 (rge_ K1 rfl) rfl (fun hc => ?_) (fun hc => ?_)
  · have t := iT t hc
    have ha3 : (σ 84 1) ≤ x2 := hc
    refine i1 c_314_37 (i6 (L' := [.ref 83, .int (wI x1), .int (wI 0), y3, y4, y5, y6, y7, y8, y9, y10]) c_314_38 rfl t)
  · have t := iF t hc
    have ha3 : ¬ ((σ 84 1) ≤ x2) := hc
    refine i1 c_314_12 (i6 (L' := [.ref 83, .int (wI x1), .int (wI x2), .int (wI 0), y4, y5, y6, y7, y8, y9, y10]) c_314_13 rfl t)
set_option maxRecDepth 20000 in
theorem u_314_14 {d : Nat} {S : zS} {σ τ : zI} {Q : zQ} {x1 : Int} {x2 : Int} {x3 : Int} {y4 : Value} {y5 : Value} {y6 : Value} {y7 : Value} {y8 : Value} {y9 : Value} {y10 : Value} (t : (rg x3) ∧ if (3 : Int) ≤ x3 then (wi (d + 10) 314 2 [.ref 83, .int (wI x1), .int (wI (x2 + 1)), .int (wI x3), y4, y5, y6, y7, y8, y9, y10] [] S σ τ Q) else ((Jv (σ 84)) ∧ (jv_T (σ 84)) ∧ (jv_E (σ 84)) ∧ (0 ≤ x2 ∧ x2 < σ 84 1) ∧ (0 ≤ x3 ∧ x3 ≤ (2 : Int)) ∧ ∀ (σ18 : zI) (τ19 : zI), SH σ σ18 τ τ19 x2 x3 → wi (d + 10) 314 14 [.ref 83, .int (wI x1), .int (wI x2), .int (wI (x3 + 1)), y4, y5, y6, y7, y8, y9, y10] [] S σ18 τ19 Q)) : wi (d + 10) 314 14 [.ref 83, .int (wI x1), .int (wI x2), .int (wI x3), y4, y5, y6, y7, y8, y9, y10] [] S σ τ Q := by
  obtain ⟨r1, t⟩ := t
  refine i3 c_314_14 rfl (i1 c_314_15 ?_)
  refine i37 c_314_16 r1 (by decide) rfl (fun hc => ?_) (fun hc => ?_)
  · have t := iT t hc
    have ha2 : (3 : Int) ≤ x3 := hc
    refine i9 (L' := [.ref 83, .int (wI x1), .int (wI (x2 + 1)), .int (wI x3), y4, y5, y6, y7, y8, y9, y10]) c_314_31 rfl rfl (i38 c_314_34 rfl t)
  · have t := iF t hc
    have ha2 : ¬ ((3 : Int) ≤ x3) := hc
    obtain ⟨p3, t⟩ := t
    obtain ⟨p4, t⟩ := t
    obtain ⟨p5, t⟩ := t
    obtain ⟨p6, t⟩ := t
    obtain ⟨p7, t⟩ := t
    refine i5 c_314_19 rfl (i3 c_314_20 rfl (i3 c_314_21 rfl ?_))
    refine i80 (As := [.int (wI x2), .int (wI x3)]) (rest := []) c_314_22 mi_312 rfl rfl (Nat.le_of_ble_eq_true rfl) (Nat.le_of_ble_eq_true rfl) (lo (c := 83) (kd := 112) (n := 0) rfl (by decide)) (q_312 p3 p4 p5 p6 p7 (fun σ18 τ19 q10 => ?_))
    have t := t σ18 τ19 q10
    show wi (d + 10) 314 25 [.ref 83, .int (wI x1), .int (wI x2), .int (wI x3), y4, y5, y6, y7, y8, y9, y10] [] S σ18 τ19 Q
    refine i9 (L' := [.ref 83, .int (wI x1), .int (wI x2), .int (wI (x3 + 1)), y4, y5, y6, y7, y8, y9, y10]) c_314_25 rfl rfl (i38 c_314_28 rfl t)
set_option maxRecDepth 20000 in
theorem u_314_39 {d : Nat} {S : zS} {σ τ : zI} {Q : zQ} {x1 : Int} {x2 : Int} {y3 : Value} {y4 : Value} {y5 : Value} {y6 : Value} {y7 : Value} {y8 : Value} {y9 : Value} {y10 : Value} (t : (rg x2) ∧ if (σ 84 3) ≤ x2 then ((((0 : Int) ≤ 1 ∧ 1 ≤ (7 : Int)) ∧ (-1 : Int) ≤ (σ 84 0) ∧ (σ 84 0) ≤ (399 : Int)) ∧ wi (d + 10) 314 83 [.ref 83, .int (wI x1), .int (wI (r_pr (σ 84) 1 (σ 84 0))), .int (wI 1), .int (wI 0), y5, y6, y7, y8, y9, y10] [] S σ τ Q) else ((0 ≤ σ 84 4 ∧ σ 84 4 ≤ 60) ∧ ∀ (v6 : Int), v6 = r_need (σ 84) x2 → 0 ≤ v6 ∧ v6 ≤ 240 → (0 ≤ x2 ∧ x2 < 24) ∧ ∃ w10 : Int, wI w10 = wI v6 ∧ rg w10 ∧ wi (d + 10) 314 39 [.ref 83, .int (wI x1), .int (wI (x2 + 1)), y3, y4, y5, y6, y7, y8, y9, y10] [] S (uc σ 98 (u1 (σ 98) x2 w10)) τ Q)) : wi (d + 10) 314 39 [.ref 83, .int (wI x1), .int (wI x2), y3, y4, y5, y6, y7, y8, y9, y10] [] S σ τ Q := by
  refine i3 c_314_39 rfl (i5 c_314_40 rfl (i45 c_314_41 (lo (c := 83) (kd := 112) (n := 0) rfl (by decide)) (lro (c := 83) (k := 0) (j := 84) (by decide)) (i1 c_314_44 (wi_ok (fun K1 => ?_)))))
  obtain ⟨r2, t⟩ := t
  refine i50 (v := σ 84 3) c_314_45 (lo (c := 84) (kd := 0) (n := 112300) rfl (by decide)) (by decide) (by decide) rfl ?_
  refine i37 c_314_46 r2 (rge_ K1 rfl) rfl (fun hc => ?_) (fun hc => ?_)
  · have t := iT t hc
    have ha3 : (σ 84 3) ≤ x2 := hc
    obtain ⟨p4, t⟩ := t
    refine i5 c_314_66 rfl (i1 c_314_67 (i5 c_314_68 rfl (i45 c_314_69 (lo (c := 83) (kd := 112) (n := 0) rfl (by decide)) (lro (c := 83) (k := 0) (j := 84) (by decide)) (i1 c_314_72 (i50 (v := σ 84 0) c_314_73 (lo (c := 84) (kd := 0) (n := 112300) rfl (by decide)) (by decide) (by decide) rfl ?_)))))
    refine i80 (As := [.int (wI 1), .int (wI (σ 84 0))]) (rest := []) c_314_74 mi_209 rfl rfl (Nat.le_of_ble_eq_true rfl) (Nat.le_of_ble_eq_true rfl) (lo (c := 83) (kd := 112) (n := 0) rfl (by decide)) (q_209i p4 ?_)
    show wi (d + 10) 314 77 [.ref 83, .int (wI x1), .int (wI x2), y3, y4, y5, y6, y7, y8, y9, y10] [.int (wI (r_pr (σ 84) 1 (σ 84 0)))] S σ τ Q
    refine i6 (L' := [.ref 83, .int (wI x1), .int (wI (r_pr (σ 84) 1 (σ 84 0))), y3, y4, y5, y6, y7, y8, y9, y10]) c_314_77 rfl (i1 c_314_78 (i6 (L' := [.ref 83, .int (wI x1), .int (wI (r_pr (σ 84) 1 (σ 84 0))), .int (wI 1), y4, y5, y6, y7, y8, y9, y10]) c_314_79 rfl (i1 c_314_80 (i6 (L' := [.ref 83, .int (wI x1), .int (wI (r_pr (σ 84) 1 (σ 84 0))), .int (wI 1), .int (wI 0), y5, y6, y7, y8, y9, y10]) c_314_81 rfl t))))
  · have t := iF t hc
    have ha3 : ¬ ((σ 84 3) ≤ x2) := hc
    obtain ⟨p5, t⟩ := t
    refine i5 c_314_49 rfl (i45 c_314_50 (lo (c := 83) (kd := 112) (n := 0) rfl (by decide)) (lro (c := 83) (k := 40) (j := 98) (by decide)) (i3 c_314_53 rfl (i5 c_314_54 rfl (i3 c_314_55 rfl ?_))))
    refine i80 (As := [.int (wI x2)]) (rest := [.int (wI x2), .ref 98]) c_314_56 mi_288 rfl rfl (Nat.le_of_ble_eq_true rfl) (Nat.le_of_ble_eq_true rfl) (lo (c := 83) (kd := 112) (n := 0) rfl (by decide)) (q_288 r2 p5 (fun v6 q7 q8 => ?_))
    have t := t v6 q7 q8
    show wi (d + 10) 314 59 [.ref 83, .int (wI x1), .int (wI x2), y3, y4, y5, y6, y7, y8, y9, y10] [.int (wI v6), .int (wI x2), .ref 98] S σ τ Q
    obtain ⟨r9, t⟩ := t
    obtain ⟨w10, e11, r12, t⟩ := t
    refine i54 (σ1 := uc σ 98 (u1 (σ 98) x2 w10)) c_314_59 (lo (c := 98) (kd := 0) (n := 24) rfl (by decide)) (by decide) r9 (by decide) e11 r12 (wr_ rfl rfl) (i9 (L' := [.ref 83, .int (wI x1), .int (wI (x2 + 1)), y3, y4, y5, y6, y7, y8, y9, y10]) c_314_60 rfl rfl (i38 c_314_63 rfl t))
set_option maxRecDepth 20000 in
theorem u_314_83 {d : Nat} {S : zS} {σ τ : zI} {Q : zQ} {x1 : Int} {x2 : Int} {x3 : Int} {x4 : Int} {y5 : Value} {y6 : Value} {y7 : Value} {y8 : Value} {y9 : Value} {y10 : Value} (t : (rg x4) ∧ if (σ 84 1) ≤ x4 then (wi (d + 10) 314 112 [.ref 83, .int (wI x1), .int (wI x2), .int (wI x3), .int (wI 0), y5, y6, y7, y8, y9, y10] [] S (uc σ 83 (u1 (σ 83) 39 (-1))) τ Q) else (wi (d + 10) 314 83 [.ref 83, .int (wI x1), .int (wI x2), .int (wI (x3 * 3)), .int (wI (x4 + 1)), y5, y6, y7, y8, y9, y10] [] S σ τ Q)) : wi (d + 10) 314 83 [.ref 83, .int (wI x1), .int (wI x2), .int (wI x3), .int (wI x4), y5, y6, y7, y8, y9, y10] [] S σ τ Q := by
  refine i3 c_314_83 rfl (i5 c_314_85 rfl (i45 c_314_86 (lo (c := 83) (kd := 112) (n := 0) rfl (by decide)) (lro (c := 83) (k := 0) (j := 84) (by decide)) (i1 c_314_89 (wi_ok (fun K1 => ?_)))))
  obtain ⟨r2, t⟩ := t
  refine i50 (v := σ 84 1) c_314_90 (lo (c := 84) (kd := 0) (n := 112300) rfl (by decide)) (by decide) (by decide) rfl ?_
  refine i37 c_314_91 r2 (rge_ K1 rfl) rfl (fun hc => ?_) (fun hc => ?_)
  · have t := iT t hc
    have ha3 : (σ 84 1) ≤ x4 := hc
    refine i5 c_314_104 rfl (i1 c_314_105 (i46 (σ1 := uc σ 83 (u1 (σ 83) 39 (-1))) c_314_106 (lo (c := 83) (kd := 112) (n := 0) rfl (by decide)) (by decide) rfl (by decide) (wr_ rfl rfl) (i1 c_314_109 (i6 (L' := [.ref 83, .int (wI x1), .int (wI x2), .int (wI x3), .int (wI 0), y5, y6, y7, y8, y9, y10]) c_314_110 rfl t))))
  · have t := iF t hc
    have ha3 : ¬ ((σ 84 1) ≤ x4) := hc
    refine i3 c_314_94 rfl (i1 c_314_95 (i12 c_314_96 (i6 (L' := [.ref 83, .int (wI x1), .int (wI x2), .int (wI (x3 * 3)), .int (wI x4), y5, y6, y7, y8, y9, y10]) c_314_97 rfl (i9 (L' := [.ref 83, .int (wI x1), .int (wI x2), .int (wI (x3 * 3)), .int (wI (x4 + 1)), y5, y6, y7, y8, y9, y10]) c_314_98 rfl rfl (i38 c_314_101 rfl t)))))
set_option maxRecDepth 20000 in
theorem u_314_112 {d : Nat} {S : zS} {σ τ : zI} {Q : zQ} {x1 : Int} {x2 : Int} {x3 : Int} {x4 : Int} {y5 : Value} {y6 : Value} {y7 : Value} {y8 : Value} {y9 : Value} {y10 : Value} (t : (rg x4) ∧ (rg x3) ∧ if x3 ≤ x4 then (Q none S σ τ) else (wi (d + 10) 314 130 [.ref 83, .int (wI x1), .int (wI x2), .int (wI x3), .int (wI x4), .int (wI x3), .int (wI 0), .int (wI 1), .int (wI 0), y9, y10] [] S σ τ Q)) : wi (d + 10) 314 112 [.ref 83, .int (wI x1), .int (wI x2), .int (wI x3), .int (wI x4), y5, y6, y7, y8, y9, y10] [] S σ τ Q := by
  obtain ⟨r1, t⟩ := t
  obtain ⟨r2, t⟩ := t
  refine i3 c_314_112 rfl (i3 c_314_114 rfl ?_)
  refine i37 c_314_115 r1 r2 rfl (fun hc => ?_) (fun hc => ?_)
  · have t := iT t hc
    have ha3 : x3 ≤ x4 := hc
    exact i94 c_314_366 t
  · have t := iF t hc
    have ha3 : ¬ (x3 ≤ x4) := hc
    refine i3 c_314_118 rfl (i6 (L' := [.ref 83, .int (wI x1), .int (wI x2), .int (wI x3), .int (wI x4), .int (wI x3), y6, y7, y8, y9, y10]) c_314_119 rfl (i1 c_314_121 (i6 (L' := [.ref 83, .int (wI x1), .int (wI x2), .int (wI x3), .int (wI x4), .int (wI x3), .int (wI 0), y7, y8, y9, y10]) c_314_122 rfl (i1 c_314_124 (i6 (L' := [.ref 83, .int (wI x1), .int (wI x2), .int (wI x3), .int (wI x4), .int (wI x3), .int (wI 0), .int (wI 1), y8, y9, y10]) c_314_125 rfl (i1 c_314_127 (i6 (L' := [.ref 83, .int (wI x1), .int (wI x2), .int (wI x3), .int (wI x4), .int (wI x3), .int (wI 0), .int (wI 1), .int (wI 0), y9, y10]) c_314_128 rfl t)))))))
set_option maxRecDepth 20000 in
theorem u_314_130 {d : Nat} {S : zS} {σ τ : zI} {Q : zQ} {x1 : Int} {x2 : Int} {x3 : Int} {x4 : Int} {x5 : Int} {x6 : Int} {x7 : Int} {x8 : Int} {y9 : Value} {y10 : Value} (t : (rg x8) ∧ if (σ 84 3) ≤ x8 then (wi (d + 10) 314 158 [.ref 83, .int (wI x1), .int (wI x2), .int (wI x3), .int (wI x4), .int (wI x5), .int (wI x6), .int (wI x7), .int (wI 0), y9, y10] [] S σ τ Q) else ((0 ≤ x8 ∧ x8 < 24) ∧ wi (d + 10) 314 130 [.ref 83, .int (wI x1), .int (wI x2), .int (wI x3), .int (wI x4), .int (wI x5), .int (wI x6), .int (wI x7), .int (wI (x8 + 1)), y9, y10] [] S σ (uc τ 97 (u1 (τ 97) x8 0)) Q)) : wi (d + 10) 314 130 [.ref 83, .int (wI x1), .int (wI x2), .int (wI x3), .int (wI x4), .int (wI x5), .int (wI x6), .int (wI x7), .int (wI x8), y9, y10] [] S σ τ Q := by
  refine i3 c_314_130 rfl (i5 c_314_132 rfl (i45 c_314_133 (lo (c := 83) (kd := 112) (n := 0) rfl (by decide)) (lro (c := 83) (k := 0) (j := 84) (by decide)) (i1 c_314_136 (wi_ok (fun K1 => ?_)))))
  obtain ⟨r2, t⟩ := t
  refine i50 (v := σ 84 3) c_314_137 (lo (c := 84) (kd := 0) (n := 112300) rfl (by decide)) (by decide) (by decide) rfl ?_
  refine i37 c_314_138 r2 (rge_ K1 rfl) rfl (fun hc => ?_) (fun hc => ?_)
  · have t := iT t hc
    have ha3 : (σ 84 3) ≤ x8 := hc
    refine i1 c_314_155 (i6 (L' := [.ref 83, .int (wI x1), .int (wI x2), .int (wI x3), .int (wI x4), .int (wI x5), .int (wI x6), .int (wI x7), .int (wI 0), y9, y10]) c_314_156 rfl t)
  · have t := iF t hc
    have ha3 : ¬ ((σ 84 3) ≤ x8) := hc
    obtain ⟨r4, t⟩ := t
    refine i5 c_314_141 rfl (i45 c_314_142 (lo (c := 83) (kd := 112) (n := 0) rfl (by decide)) (lro (c := 83) (k := 36) (j := 97) (by decide)) (i3 c_314_145 rfl (i2 c_314_147 (i56 (τ1 := uc τ 97 (u1 (τ 97) x8 0)) c_314_148 (lo (c := 97) (kd := 1) (n := 24) rfl (by decide)) (by decide) r4 rfl (by decide) (wr_ rfl rfl) (i9 (L' := [.ref 83, .int (wI x1), .int (wI x2), .int (wI x3), .int (wI x4), .int (wI x5), .int (wI x6), .int (wI x7), .int (wI (x8 + 1)), y9, y10]) c_314_149 rfl rfl (i38 c_314_152 rfl t))))))
set_option maxRecDepth 20000 in
theorem u_314_158 {d : Nat} {S : zS} {σ τ : zI} {Q : zQ} {x1 : Int} {x2 : Int} {x3 : Int} {x4 : Int} {x5 : Int} {x6 : Int} {x7 : Int} {x8 : Int} {y9 : Value} {y10 : Value} (t : (rg x8) ∧ if (σ 84 1) ≤ x8 then ((rg x7) ∧ if x7 = 0 then (wi (d + 10) 314 112 [.ref 83, .int (wI x1), .int (wI x2), .int (wI x3), .int (wI (x4 + 1)), .int (wI x5), .int (wI x6), .int (wI x7), .int (wI x8), y9, y10] [] S σ τ Q) else ((rg x6) ∧ (rg x1) ∧ if x6 ≤ x1 then ((jv_C (σ 84)) ∧ (0 ≤ x2 ∧ x2 ≤ (100000 : Int)) ∧ (∀ h, 0 ≤ h → h < σ 84 3 → 0 ≤ σ 98 h ∧ σ 98 h ≤ 240) ∧ ∀ (v12 : Int), v12 = sI (fun h => if σ 84 (3460 + 8 * h + 3) = 0 ∧ τ 97 h < σ 98 h * x2 then 1 else 0) (σ 84 3) → if (σ 83 39) < 0 then (∃ w15 : Int, wI w15 = wI x4 ∧ rg w15 ∧ ∃ w18 : Int, wI w18 = wI v12 ∧ rg w18 ∧ wi (d + 10) 314 112 [.ref 83, .int (wI x1), .int (wI x2), .int (wI x3), .int (wI (x4 + 1)), .int (wI x5), .int (wI x6), .int (wI x7), .int (wI v12), y9, y10] [] S (uc σ 83 (u1 (u1 (u1 (σ 83) 39 w15) 37 w18) 38 x6)) τ Q) else ((rg v12) ∧ if (σ 83 37) < v12 then (wi (d + 10) 314 112 [.ref 83, .int (wI x1), .int (wI x2), .int (wI x3), .int (wI (x4 + 1)), .int (wI x5), .int (wI x6), .int (wI x7), .int (wI v12), y9, y10] [] S σ τ Q) else (if v12 = (σ 83 37) then (if (σ 83 38) < x6 then (∃ w28 : Int, wI w28 = wI x4 ∧ rg w28 ∧ wi (d + 10) 314 112 [.ref 83, .int (wI x1), .int (wI x2), .int (wI x3), .int (wI (x4 + 1)), .int (wI x5), .int (wI x6), .int (wI x7), .int (wI v12), y9, y10] [] S (uc σ 83 (u1 (u1 (u1 (σ 83) 39 w28) 37 v12) 38 x6)) τ Q) else (wi (d + 10) 314 112 [.ref 83, .int (wI x1), .int (wI x2), .int (wI x3), .int (wI (x4 + 1)), .int (wI x5), .int (wI x6), .int (wI x7), .int (wI v12), y9, y10] [] S σ τ Q)) else (∃ w24 : Int, wI w24 = wI x4 ∧ rg w24 ∧ wi (d + 10) 314 112 [.ref 83, .int (wI x1), .int (wI x2), .int (wI x3), .int (wI (x4 + 1)), .int (wI x5), .int (wI x6), .int (wI x7), .int (wI v12), y9, y10] [] S (uc σ 83 (u1 (u1 (u1 (σ 83) 39 w24) 37 v12) 38 x6)) τ Q)))) else (wi (d + 10) 314 112 [.ref 83, .int (wI x1), .int (wI x2), .int (wI x3), .int (wI (x4 + 1)), .int (wI x5), .int (wI x6), .int (wI x7), .int (wI x8), y9, y10] [] S σ τ Q))) else ((rg x5) ∧ (rg x4) ∧ (rg (Int.tdiv x5 3)) ∧ ((Int.tdiv x5 3) ≠ 0) ∧ (rg (Int.tdiv x4 (Int.tdiv x5 3))) ∧ (rg x7) ∧ if x7 = 0 then ((0 ≤ (3 * x8) + (2 - (Int.tmod (Int.tdiv x4 (Int.tdiv x5 3)) 3)) ∧ (3 * x8) + (2 - (Int.tmod (Int.tdiv x4 (Int.tdiv x5 3)) 3)) < 24) ∧ wi (d + 10) 314 233 [.ref 83, .int (wI x1), .int (wI x2), .int (wI x3), .int (wI x4), .int (wI (Int.tdiv x5 3)), .int (wI (x6 + (σ 95 ((3 * x8) + (2 - (Int.tmod (Int.tdiv x4 (Int.tdiv x5 3)) 3)))))), .int (wI 0), .int (wI x8), .int (wI (2 - (Int.tmod (Int.tdiv x4 (Int.tdiv x5 3)) 3))), .int (wI 0)] [] S σ τ Q) else ((rg (2 - (Int.tmod (Int.tdiv x4 (Int.tdiv x5 3)) 3))) ∧ if (2 - (Int.tmod (Int.tdiv x4 (Int.tdiv x5 3)) 3)) = 0 then ((0 ≤ (3 * x8) + (2 - (Int.tmod (Int.tdiv x4 (Int.tdiv x5 3)) 3)) ∧ (3 * x8) + (2 - (Int.tmod (Int.tdiv x4 (Int.tdiv x5 3)) 3)) < 24) ∧ wi (d + 10) 314 233 [.ref 83, .int (wI x1), .int (wI x2), .int (wI x3), .int (wI x4), .int (wI (Int.tdiv x5 3)), .int (wI (x6 + (σ 95 ((3 * x8) + (2 - (Int.tmod (Int.tdiv x4 (Int.tdiv x5 3)) 3)))))), .int (wI 1), .int (wI x8), .int (wI (2 - (Int.tmod (Int.tdiv x4 (Int.tdiv x5 3)) 3))), .int (wI 0)] [] S σ τ Q) else ((0 ≤ 3300 + 16 * x8 + 5 ∧ 3300 + 16 * x8 + 5 < 112300) ∧ if (σ 84 (3300 + 16 * x8 + 5)) = 0 then ((0 ≤ (3 * x8) + (2 - (Int.tmod (Int.tdiv x4 (Int.tdiv x5 3)) 3)) ∧ (3 * x8) + (2 - (Int.tmod (Int.tdiv x4 (Int.tdiv x5 3)) 3)) < 24) ∧ wi (d + 10) 314 233 [.ref 83, .int (wI x1), .int (wI x2), .int (wI x3), .int (wI x4), .int (wI (Int.tdiv x5 3)), .int (wI (x6 + (σ 95 ((3 * x8) + (2 - (Int.tmod (Int.tdiv x4 (Int.tdiv x5 3)) 3)))))), .int (wI 1), .int (wI x8), .int (wI (2 - (Int.tmod (Int.tdiv x4 (Int.tdiv x5 3)) 3))), .int (wI 0)] [] S σ τ Q) else ((0 ≤ (3 * x8) + (2 - (Int.tmod (Int.tdiv x4 (Int.tdiv x5 3)) 3)) ∧ (3 * x8) + (2 - (Int.tmod (Int.tdiv x4 (Int.tdiv x5 3)) 3)) < 24) ∧ wi (d + 10) 314 233 [.ref 83, .int (wI x1), .int (wI x2), .int (wI x3), .int (wI x4), .int (wI (Int.tdiv x5 3)), .int (wI (x6 + (σ 95 ((3 * x8) + (2 - (Int.tmod (Int.tdiv x4 (Int.tdiv x5 3)) 3)))))), .int (wI 0), .int (wI x8), .int (wI (2 - (Int.tmod (Int.tdiv x4 (Int.tdiv x5 3)) 3))), .int (wI 0)] [] S σ τ Q))))) : wi (d + 10) 314 158 [.ref 83, .int (wI x1), .int (wI x2), .int (wI x3), .int (wI x4), .int (wI x5), .int (wI x6), .int (wI x7), .int (wI x8), y9, y10] [] S σ τ Q := by
  refine i3 c_314_158 rfl (i5 c_314_160 rfl (i45 c_314_161 (lo (c := 83) (kd := 112) (n := 0) rfl (by decide)) (lro (c := 83) (k := 0) (j := 84) (by decide)) (i1 c_314_164 (wi_ok (fun K1 => ?_)))))
  obtain ⟨r2, t⟩ := t
  refine i50 (v := σ 84 1) c_314_165 (lo (c := 84) (kd := 0) (n := 112300) rfl (by decide)) (by decide) (by decide) rfl ?_
  refine i37 c_314_166 r2 (rge_ K1 rfl) rfl (fun hc => ?_) (fun hc => ?_)
  · have t := iT t hc
    have ha3 : (σ 84 1) ≤ x8 := hc
    obtain ⟨r4, t⟩ := t
    refine i3 c_314_284 rfl ?_
    refine i36 c_314_286 r4 rfl (fun hc => ?_) (fun hc => ?_)
    · have t := iT t hc
      have ha5 : x7 = 0 := hc
      refine i9 (L' := [.ref 83, .int (wI x1), .int (wI x2), .int (wI x3), .int (wI (x4 + 1)), .int (wI x5), .int (wI x6), .int (wI x7), .int (wI x8), y9, y10]) c_314_360 rfl rfl (i38 c_314_363 rfl t)
    · have t := iF t hc
      have ha5 : ¬ (x7 = 0) := hc
      obtain ⟨r6, t⟩ := t
      obtain ⟨r7, t⟩ := t
      refine i3 c_314_289 rfl (i3 c_314_291 rfl ?_)
      refine i37 c_314_292 r6 r7 rfl (fun hc => ?_) (fun hc => ?_)
      · have t := iT t hc
        have ha8 : x6 ≤ x1 := hc
        obtain ⟨p9, t⟩ := t
        obtain ⟨p10, t⟩ := t
        obtain ⟨p11, t⟩ := t
        refine i5 c_314_298 rfl (i3 c_314_299 rfl ?_)
        refine i80 (As := [.int (wI x2)]) (rest := []) c_314_300 mi_313 rfl rfl (Nat.le_of_ble_eq_true rfl) (Nat.le_of_ble_eq_true rfl) (lo (c := 83) (kd := 112) (n := 0) rfl (by decide)) (q_313 p9 p10 p11 (fun v12 q13 => ?_))
        have t := t v12 q13
        show wi (d + 10) 314 303 [.ref 83, .int (wI x1), .int (wI x2), .int (wI x3), .int (wI x4), .int (wI x5), .int (wI x6), .int (wI x7), .int (wI x8), y9, y10] [.int (wI v12)] S σ τ Q
        refine i6 (L' := [.ref 83, .int (wI x1), .int (wI x2), .int (wI x3), .int (wI x4), .int (wI x5), .int (wI x6), .int (wI x7), .int (wI v12), y9, y10]) c_314_303 rfl (i5 c_314_305 rfl (i43 (v := σ 83 39) c_314_306 (lo (c := 83) (kd := 112) (n := 0) rfl (by decide)) rfl ?_))
        refine i36 c_314_309 (rge_ K1 rfl) rfl (fun hc => ?_) (fun hc => ?_)
        · have t := iT t hc
          have ha14 : (σ 83 39) < 0 := hc
          obtain ⟨w15, e16, r17, t⟩ := t
          obtain ⟨w18, e19, r20, t⟩ := t
          refine i5 c_314_342 rfl (i3 c_314_343 rfl (i46 (σ1 := uc σ 83 (u1 (σ 83) 39 w15)) c_314_345 (lo (c := 83) (kd := 112) (n := 0) rfl (by decide)) (by decide) e16 r17 (wr_ rfl rfl) (i5 c_314_348 rfl (i3 c_314_349 rfl (i46 (σ1 := uc σ 83 (u1 (u1 (σ 83) 39 w15) 37 w18)) c_314_351 (lo (c := 83) (kd := 112) (n := 0) rfl (by decide)) (by decide) e19 r20 (wr_ (uc_s _ _ _) (uc_uc _ _ _ _)) (i5 c_314_354 rfl (i3 c_314_355 rfl (i46 (σ1 := uc σ 83 (u1 (u1 (u1 (σ 83) 39 w15) 37 w18) 38 x6)) c_314_357 (lo (c := 83) (kd := 112) (n := 0) rfl (by decide)) (by decide) rfl r6 (wr_ (uc_s _ _ _) (uc_uc _ _ _ _)) (i9 (L' := [.ref 83, .int (wI x1), .int (wI x2), .int (wI x3), .int (wI (x4 + 1)), .int (wI x5), .int (wI x6), .int (wI x7), .int (wI v12), y9, y10]) c_314_360 rfl rfl (i38 c_314_363 rfl t))))))))))
        · have t := iF t hc
          have ha14 : ¬ ((σ 83 39) < 0) := hc
          obtain ⟨r21, t⟩ := t
          refine i3 c_314_312 rfl (i5 c_314_314 rfl (i43 (v := σ 83 37) c_314_315 (lo (c := 83) (kd := 112) (n := 0) rfl (by decide)) rfl ?_))
          refine i37 c_314_318 r21 (rge_ K1 rfl) rfl (fun hc => ?_) (fun hc => ?_)
          · have t := iT t hc
            have ha22 : (σ 83 37) < v12 := hc
            refine i9 (L' := [.ref 83, .int (wI x1), .int (wI x2), .int (wI x3), .int (wI (x4 + 1)), .int (wI x5), .int (wI x6), .int (wI x7), .int (wI v12), y9, y10]) c_314_360 rfl rfl (i38 c_314_363 rfl t)
          · have t := iF t hc
            have ha22 : ¬ ((σ 83 37) < v12) := hc
            refine i3 c_314_321 rfl (i5 c_314_323 rfl (i43 (v := σ 83 37) c_314_324 (lo (c := 83) (kd := 112) (n := 0) rfl (by decide)) rfl ?_))
            refine i37 c_314_327 r21 (rge_ K1 rfl) rfl (fun hc => ?_) (fun hc => ?_)
            · have t := iF t hc
              have ha23 : ¬ (v12 = (σ 83 37)) := hc
              obtain ⟨w24, e25, r26, t⟩ := t
              refine i5 c_314_342 rfl (i3 c_314_343 rfl (i46 (σ1 := uc σ 83 (u1 (σ 83) 39 w24)) c_314_345 (lo (c := 83) (kd := 112) (n := 0) rfl (by decide)) (by decide) e25 r26 (wr_ rfl rfl) (i5 c_314_348 rfl (i3 c_314_349 rfl (i46 (σ1 := uc σ 83 (u1 (u1 (σ 83) 39 w24) 37 v12)) c_314_351 (lo (c := 83) (kd := 112) (n := 0) rfl (by decide)) (by decide) rfl r21 (wr_ (uc_s _ _ _) (uc_uc _ _ _ _)) (i5 c_314_354 rfl (i3 c_314_355 rfl (i46 (σ1 := uc σ 83 (u1 (u1 (u1 (σ 83) 39 w24) 37 v12) 38 x6)) c_314_357 (lo (c := 83) (kd := 112) (n := 0) rfl (by decide)) (by decide) rfl r6 (wr_ (uc_s _ _ _) (uc_uc _ _ _ _)) (i9 (L' := [.ref 83, .int (wI x1), .int (wI x2), .int (wI x3), .int (wI (x4 + 1)), .int (wI x5), .int (wI x6), .int (wI x7), .int (wI v12), y9, y10]) c_314_360 rfl rfl (i38 c_314_363 rfl t))))))))))
            · have t := iT t (Decidable.not_not.mp hc)
              have ha23 : v12 = (σ 83 37) := Decidable.not_not.mp hc
              refine i3 c_314_330 rfl (i5 c_314_332 rfl (i43 (v := σ 83 38) c_314_333 (lo (c := 83) (kd := 112) (n := 0) rfl (by decide)) rfl ?_))
              refine i37 c_314_336 r6 (rge_ K1 rfl) rfl (fun hc => ?_) (fun hc => ?_)
              · have t := iT t hc
                have ha27 : (σ 83 38) < x6 := hc
                obtain ⟨w28, e29, r30, t⟩ := t
                refine i5 c_314_342 rfl (i3 c_314_343 rfl (i46 (σ1 := uc σ 83 (u1 (σ 83) 39 w28)) c_314_345 (lo (c := 83) (kd := 112) (n := 0) rfl (by decide)) (by decide) e29 r30 (wr_ rfl rfl) (i5 c_314_348 rfl (i3 c_314_349 rfl (i46 (σ1 := uc σ 83 (u1 (u1 (σ 83) 39 w28) 37 v12)) c_314_351 (lo (c := 83) (kd := 112) (n := 0) rfl (by decide)) (by decide) rfl r21 (wr_ (uc_s _ _ _) (uc_uc _ _ _ _)) (i5 c_314_354 rfl (i3 c_314_355 rfl (i46 (σ1 := uc σ 83 (u1 (u1 (u1 (σ 83) 39 w28) 37 v12) 38 x6)) c_314_357 (lo (c := 83) (kd := 112) (n := 0) rfl (by decide)) (by decide) rfl r6 (wr_ (uc_s _ _ _) (uc_uc _ _ _ _)) (i9 (L' := [.ref 83, .int (wI x1), .int (wI x2), .int (wI x3), .int (wI (x4 + 1)), .int (wI x5), .int (wI x6), .int (wI x7), .int (wI v12), y9, y10]) c_314_360 rfl rfl (i38 c_314_363 rfl t))))))))))
              · have t := iF t hc
                have ha27 : ¬ ((σ 83 38) < x6) := hc
                refine i38 c_314_339 rfl (i9 (L' := [.ref 83, .int (wI x1), .int (wI x2), .int (wI x3), .int (wI (x4 + 1)), .int (wI x5), .int (wI x6), .int (wI x7), .int (wI v12), y9, y10]) c_314_360 rfl rfl (i38 c_314_363 rfl t))
      · have t := iF t hc
        have ha8 : ¬ (x6 ≤ x1) := hc
        refine i38 c_314_295 rfl (i9 (L' := [.ref 83, .int (wI x1), .int (wI x2), .int (wI x3), .int (wI (x4 + 1)), .int (wI x5), .int (wI x6), .int (wI x7), .int (wI x8), y9, y10]) c_314_360 rfl rfl (i38 c_314_363 rfl t))
  · have t := iF t hc
    have ha3 : ¬ ((σ 84 1) ≤ x8) := hc
    obtain ⟨r31, t⟩ := t
    obtain ⟨r32, t⟩ := t
    obtain ⟨r33, t⟩ := t
    obtain ⟨y34, t⟩ := t
    obtain ⟨r35, t⟩ := t
    obtain ⟨r36, t⟩ := t
    refine i3 c_314_169 rfl (i1 c_314_171 (i16 c_314_172 r31 (by decide) (by decide) (i6 (L' := [.ref 83, .int (wI x1), .int (wI x2), .int (wI x3), .int (wI x4), .int (wI (Int.tdiv x5 3)), .int (wI x6), .int (wI x7), .int (wI x8), y9, y10]) c_314_173 rfl (i1 c_314_175 (i3 c_314_176 rfl (i3 c_314_178 rfl (i16 c_314_180 r32 r33 y34 (i1 c_314_181 (i17 c_314_182 r35 (by decide) (by decide) (i11 c_314_183 (i6 (L' := [.ref 83, .int (wI x1), .int (wI x2), .int (wI x3), .int (wI x4), .int (wI (Int.tdiv x5 3)), .int (wI x6), .int (wI x7), .int (wI x8), .int (wI (2 - (Int.tmod (Int.tdiv x4 (Int.tdiv x5 3)) 3))), y10]) c_314_184 rfl (i3 c_314_186 rfl ?_))))))))))))
    refine i36 c_314_188 r36 rfl (fun hc => ?_) (fun hc => ?_)
    · have t := iT t hc
      have ha37 : x7 = 0 := hc
      obtain ⟨r38, t⟩ := t
      refine i1 c_314_210 (i6 (L' := [.ref 83, .int (wI x1), .int (wI x2), .int (wI x3), .int (wI x4), .int (wI (Int.tdiv x5 3)), .int (wI x6), .int (wI 0), .int (wI x8), .int (wI (2 - (Int.tmod (Int.tdiv x4 (Int.tdiv x5 3)) 3))), y10]) c_314_211 rfl (i3 c_314_213 rfl (i5 c_314_215 rfl (i45 c_314_216 (lo (c := 83) (kd := 112) (n := 0) rfl (by decide)) (lro (c := 83) (k := 34) (j := 95) (by decide)) (i1 c_314_219 (i3 c_314_220 rfl (i12 c_314_222 (i3 c_314_223 rfl (i10 c_314_225 (i50 (v := σ 95 ((3 * x8) + (2 - (Int.tmod (Int.tdiv x4 (Int.tdiv x5 3)) 3)))) c_314_226 (lo (c := 95) (kd := 0) (n := 24) rfl (by decide)) (by decide) r38 rfl (i10 c_314_227 (i6 (L' := [.ref 83, .int (wI x1), .int (wI x2), .int (wI x3), .int (wI x4), .int (wI (Int.tdiv x5 3)), .int (wI (x6 + (σ 95 ((3 * x8) + (2 - (Int.tmod (Int.tdiv x4 (Int.tdiv x5 3)) 3)))))), .int (wI 0), .int (wI x8), .int (wI (2 - (Int.tmod (Int.tdiv x4 (Int.tdiv x5 3)) 3))), y10]) c_314_228 rfl (i1 c_314_230 (i6 (L' := [.ref 83, .int (wI x1), .int (wI x2), .int (wI x3), .int (wI x4), .int (wI (Int.tdiv x5 3)), .int (wI (x6 + (σ 95 ((3 * x8) + (2 - (Int.tmod (Int.tdiv x4 (Int.tdiv x5 3)) 3)))))), .int (wI 0), .int (wI x8), .int (wI (2 - (Int.tmod (Int.tdiv x4 (Int.tdiv x5 3)) 3))), .int (wI 0)]) c_314_231 rfl t))))))))))))))
    · have t := iF t hc
      have ha37 : ¬ (x7 = 0) := hc
      obtain ⟨r39, t⟩ := t
      refine i3 c_314_191 rfl ?_
      refine i36 c_314_193 r39 rfl (fun hc => ?_) (fun hc => ?_)
      · have t := iT t hc
        have ha40 : (2 - (Int.tmod (Int.tdiv x4 (Int.tdiv x5 3)) 3)) = 0 := hc
        obtain ⟨r41, t⟩ := t
        refine i1 c_314_206 (i38 c_314_207 rfl (i6 (L' := [.ref 83, .int (wI x1), .int (wI x2), .int (wI x3), .int (wI x4), .int (wI (Int.tdiv x5 3)), .int (wI x6), .int (wI 1), .int (wI x8), .int (wI (2 - (Int.tmod (Int.tdiv x4 (Int.tdiv x5 3)) 3))), y10]) c_314_211 rfl (i3 c_314_213 rfl (i5 c_314_215 rfl (i45 c_314_216 (lo (c := 83) (kd := 112) (n := 0) rfl (by decide)) (lro (c := 83) (k := 34) (j := 95) (by decide)) (i1 c_314_219 (i3 c_314_220 rfl (i12 c_314_222 (i3 c_314_223 rfl (i10 c_314_225 (i50 (v := σ 95 ((3 * x8) + (2 - (Int.tmod (Int.tdiv x4 (Int.tdiv x5 3)) 3)))) c_314_226 (lo (c := 95) (kd := 0) (n := 24) rfl (by decide)) (by decide) r41 rfl (i10 c_314_227 (i6 (L' := [.ref 83, .int (wI x1), .int (wI x2), .int (wI x3), .int (wI x4), .int (wI (Int.tdiv x5 3)), .int (wI (x6 + (σ 95 ((3 * x8) + (2 - (Int.tmod (Int.tdiv x4 (Int.tdiv x5 3)) 3)))))), .int (wI 1), .int (wI x8), .int (wI (2 - (Int.tmod (Int.tdiv x4 (Int.tdiv x5 3)) 3))), y10]) c_314_228 rfl (i1 c_314_230 (i6 (L' := [.ref 83, .int (wI x1), .int (wI x2), .int (wI x3), .int (wI x4), .int (wI (Int.tdiv x5 3)), .int (wI (x6 + (σ 95 ((3 * x8) + (2 - (Int.tmod (Int.tdiv x4 (Int.tdiv x5 3)) 3)))))), .int (wI 1), .int (wI x8), .int (wI (2 - (Int.tmod (Int.tdiv x4 (Int.tdiv x5 3)) 3))), .int (wI 0)]) c_314_231 rfl t)))))))))))))))
      · have t := iF t hc
        have ha40 : ¬ ((2 - (Int.tmod (Int.tdiv x4 (Int.tdiv x5 3)) 3)) = 0) := hc
        obtain ⟨p42, t⟩ := t
        refine i5 c_314_196 rfl (i3 c_314_197 rfl (i1 c_314_199 ?_))
        refine i80 (As := [.int (wI x8), .int (wI 5)]) (rest := []) c_314_200 mi_198 rfl rfl (Nat.le_of_ble_eq_true rfl) (Nat.le_of_ble_eq_true rfl) (lo (c := 83) (kd := 112) (n := 0) rfl (by decide)) (q_198 p42 ?_)
        show wi (d + 10) 314 203 [.ref 83, .int (wI x1), .int (wI x2), .int (wI x3), .int (wI x4), .int (wI (Int.tdiv x5 3)), .int (wI x6), .int (wI x7), .int (wI x8), .int (wI (2 - (Int.tmod (Int.tdiv x4 (Int.tdiv x5 3)) 3))), y10] [.int (wI (σ 84 (3300 + 16 * x8 + 5)))] S σ τ Q
        refine i36 c_314_203 (rge_ K1 rfl) rfl (fun hc => ?_) (fun hc => ?_)
        · have t := iF t hc
          have ha43 : ¬ ((σ 84 (3300 + 16 * x8 + 5)) = 0) := hc
          obtain ⟨r44, t⟩ := t
          refine i1 c_314_210 (i6 (L' := [.ref 83, .int (wI x1), .int (wI x2), .int (wI x3), .int (wI x4), .int (wI (Int.tdiv x5 3)), .int (wI x6), .int (wI 0), .int (wI x8), .int (wI (2 - (Int.tmod (Int.tdiv x4 (Int.tdiv x5 3)) 3))), y10]) c_314_211 rfl (i3 c_314_213 rfl (i5 c_314_215 rfl (i45 c_314_216 (lo (c := 83) (kd := 112) (n := 0) rfl (by decide)) (lro (c := 83) (k := 34) (j := 95) (by decide)) (i1 c_314_219 (i3 c_314_220 rfl (i12 c_314_222 (i3 c_314_223 rfl (i10 c_314_225 (i50 (v := σ 95 ((3 * x8) + (2 - (Int.tmod (Int.tdiv x4 (Int.tdiv x5 3)) 3)))) c_314_226 (lo (c := 95) (kd := 0) (n := 24) rfl (by decide)) (by decide) r44 rfl (i10 c_314_227 (i6 (L' := [.ref 83, .int (wI x1), .int (wI x2), .int (wI x3), .int (wI x4), .int (wI (Int.tdiv x5 3)), .int (wI (x6 + (σ 95 ((3 * x8) + (2 - (Int.tmod (Int.tdiv x4 (Int.tdiv x5 3)) 3)))))), .int (wI 0), .int (wI x8), .int (wI (2 - (Int.tmod (Int.tdiv x4 (Int.tdiv x5 3)) 3))), y10]) c_314_228 rfl (i1 c_314_230 (i6 (L' := [.ref 83, .int (wI x1), .int (wI x2), .int (wI x3), .int (wI x4), .int (wI (Int.tdiv x5 3)), .int (wI (x6 + (σ 95 ((3 * x8) + (2 - (Int.tmod (Int.tdiv x4 (Int.tdiv x5 3)) 3)))))), .int (wI 0), .int (wI x8), .int (wI (2 - (Int.tmod (Int.tdiv x4 (Int.tdiv x5 3)) 3))), .int (wI 0)]) c_314_231 rfl t))))))))))))))
        · have t := iT t (Decidable.not_not.mp hc)
          have ha43 : (σ 84 (3300 + 16 * x8 + 5)) = 0 := Decidable.not_not.mp hc
          obtain ⟨r45, t⟩ := t
          refine i1 c_314_206 (i38 c_314_207 rfl (i6 (L' := [.ref 83, .int (wI x1), .int (wI x2), .int (wI x3), .int (wI x4), .int (wI (Int.tdiv x5 3)), .int (wI x6), .int (wI 1), .int (wI x8), .int (wI (2 - (Int.tmod (Int.tdiv x4 (Int.tdiv x5 3)) 3))), y10]) c_314_211 rfl (i3 c_314_213 rfl (i5 c_314_215 rfl (i45 c_314_216 (lo (c := 83) (kd := 112) (n := 0) rfl (by decide)) (lro (c := 83) (k := 34) (j := 95) (by decide)) (i1 c_314_219 (i3 c_314_220 rfl (i12 c_314_222 (i3 c_314_223 rfl (i10 c_314_225 (i50 (v := σ 95 ((3 * x8) + (2 - (Int.tmod (Int.tdiv x4 (Int.tdiv x5 3)) 3)))) c_314_226 (lo (c := 95) (kd := 0) (n := 24) rfl (by decide)) (by decide) r45 rfl (i10 c_314_227 (i6 (L' := [.ref 83, .int (wI x1), .int (wI x2), .int (wI x3), .int (wI x4), .int (wI (Int.tdiv x5 3)), .int (wI (x6 + (σ 95 ((3 * x8) + (2 - (Int.tmod (Int.tdiv x4 (Int.tdiv x5 3)) 3)))))), .int (wI 1), .int (wI x8), .int (wI (2 - (Int.tmod (Int.tdiv x4 (Int.tdiv x5 3)) 3))), y10]) c_314_228 rfl (i1 c_314_230 (i6 (L' := [.ref 83, .int (wI x1), .int (wI x2), .int (wI x3), .int (wI x4), .int (wI (Int.tdiv x5 3)), .int (wI (x6 + (σ 95 ((3 * x8) + (2 - (Int.tmod (Int.tdiv x4 (Int.tdiv x5 3)) 3)))))), .int (wI 1), .int (wI x8), .int (wI (2 - (Int.tmod (Int.tdiv x4 (Int.tdiv x5 3)) 3))), .int (wI 0)]) c_314_231 rfl t)))))))))))))))
set_option maxRecDepth 20000 in
theorem u_314_233 {d : Nat} {S : zS} {σ τ : zI} {Q : zQ} {x1 : Int} {x2 : Int} {x3 : Int} {x4 : Int} {x5 : Int} {x6 : Int} {x7 : Int} {x8 : Int} {x9 : Int} {x10 : Int} (t : (rg x10) ∧ if (σ 84 3) ≤ x10 then (wi (d + 10) 314 158 [.ref 83, .int (wI x1), .int (wI x2), .int (wI x3), .int (wI x4), .int (wI x5), .int (wI x6), .int (wI x7), .int (wI (x8 + 1)), .int (wI x9), .int (wI x10)] [] S σ τ Q) else ((0 ≤ x10 ∧ x10 < 24) ∧ (0 ≤ (24 * ((3 * x8) + x9)) + x10 ∧ (24 * ((3 * x8) + x9)) + x10 < 576) ∧ ∃ w6 : Int, wJ w6 = wJ ((τ 97 x10) + (τ 96 ((24 * ((3 * x8) + x9)) + x10))) ∧ rj w6 ∧ wi (d + 10) 314 233 [.ref 83, .int (wI x1), .int (wI x2), .int (wI x3), .int (wI x4), .int (wI x5), .int (wI x6), .int (wI x7), .int (wI x8), .int (wI x9), .int (wI (x10 + 1))] [] S σ (uc τ 97 (u1 (τ 97) x10 w6)) Q)) : wi (d + 10) 314 233 [.ref 83, .int (wI x1), .int (wI x2), .int (wI x3), .int (wI x4), .int (wI x5), .int (wI x6), .int (wI x7), .int (wI x8), .int (wI x9), .int (wI x10)] [] S σ τ Q := by
  refine i3 c_314_233 rfl (i5 c_314_235 rfl (i45 c_314_236 (lo (c := 83) (kd := 112) (n := 0) rfl (by decide)) (lro (c := 83) (k := 0) (j := 84) (by decide)) (i1 c_314_239 (wi_ok (fun K1 => ?_)))))
  obtain ⟨r2, t⟩ := t
  refine i50 (v := σ 84 3) c_314_240 (lo (c := 84) (kd := 0) (n := 112300) rfl (by decide)) (by decide) (by decide) rfl ?_
  refine i37 c_314_241 r2 (rge_ K1 rfl) rfl (fun hc => ?_) (fun hc => ?_)
  · have t := iT t hc
    have ha3 : (σ 84 3) ≤ x10 := hc
    refine i9 (L' := [.ref 83, .int (wI x1), .int (wI x2), .int (wI x3), .int (wI x4), .int (wI x5), .int (wI x6), .int (wI x7), .int (wI (x8 + 1)), .int (wI x9), .int (wI x10)]) c_314_278 rfl rfl (i38 c_314_281 rfl t)
  · have t := iF t hc
    have ha3 : ¬ ((σ 84 3) ≤ x10) := hc
    obtain ⟨r4, t⟩ := t
    obtain ⟨r5, t⟩ := t
    obtain ⟨w6, e7, r8, t⟩ := t
    refine i5 c_314_244 rfl (i45 c_314_245 (lo (c := 83) (kd := 112) (n := 0) rfl (by decide)) (lro (c := 83) (k := 36) (j := 97) (by decide)) (i3 c_314_248 rfl (i34a c_314_250 (i52 (v := τ 97 x10) c_314_251 (lo (c := 97) (kd := 1) (n := 24) rfl (by decide)) (by decide) r4 rfl (i5 c_314_252 rfl (i45 c_314_253 (lo (c := 83) (kd := 112) (n := 0) rfl (by decide)) (lro (c := 83) (k := 35) (j := 96) (by decide)) (i1 c_314_256 (i1 c_314_258 (i3 c_314_259 rfl (i12 c_314_261 (i3 c_314_262 rfl (i10 c_314_264 (i12 c_314_265 (i3 c_314_266 rfl (i10 c_314_268 (i52 (v := τ 96 ((24 * ((3 * x8) + x9)) + x10)) c_314_269 (lo (c := 96) (kd := 1) (n := 576) rfl (by decide)) (by decide) r5 rfl (i22 c_314_270 (i56 (τ1 := uc τ 97 (u1 (τ 97) x10 w6)) c_314_271 (lo (c := 97) (kd := 1) (n := 24) rfl (by decide)) (by decide) r4 e7 r8 (wr_ rfl rfl) (i9 (L' := [.ref 83, .int (wI x1), .int (wI x2), .int (wI x3), .int (wI x4), .int (wI x5), .int (wI x6), .int (wI x7), .int (wI x8), .int (wI x9), .int (wI (x10 + 1))]) c_314_272 rfl rfl (i38 c_314_275 rfl t))))))))))))))))))))
set_option maxHeartbeats 4000000 in
theorem q_314 {d : Nat} {S : zS} {σ τ : zI} {Q : zQ} {most : Int} (p0 : Jv (σ 84)) (p1 : jv_T (σ 84)) (p2 : jv_E (σ 84)) (p3 : rg most) (p4 : σ 84 0 ≤ 399) (t : ∀ (σ1 : zI) (τ1 : zI), FS σ σ1 → BQ (σ 84) most (pw3 (σ 84 1)) (σ1 83 39) (σ1 83 37) (σ1 83 38) → Q none S σ1 τ1) : wc (d + 10) 314 [.ref 83, .int (wI most)] S σ τ Q := by
  have hC := jC p0
  unfold jv_C at hC
  have lb := r_pr_b (jW p0) (what := 1) (w := σ 84 0) (by omega) (by omega)
  generalize hlf : r_pr (σ 84) 1 (σ 84 0) = lf at *
  generalize hM : σ 84 1 = M at *
  have allb := pw3_b (n := M) (by omega)
  have allp := pw3_p M
  -- one plan after the other
  have plans : ∀ (τ0 : zI), (∀ m, 0 ≤ m → m < M → ∀ how, 0 ≤ how → how ≤ 2 → ∀ h, 0 ≤ h → h < 24 → τ0 96 (24 * (3 * m + how) + h) = s_e (σ 84) m how h) → ∀ q, 0 ≤ q → q ≤ pw3 M → ∀ σ', FS σ σ' → (∀ m, 0 ≤ m → m < M → ∀ how, 0 ≤ how → how ≤ 2 → σ' 95 (3 * m + how) = s_pc (σ 84) m how) → (∀ h, 0 ≤ h → h < σ 84 3 → σ' 98 h = r_need (σ 84) h) → BQ (σ 84) most q (σ' 83 39) (σ' 83 37) (σ' 83 38) → ∀ τ', τ' 96 = τ0 96 → ∀ y5 y6 y7 y8 y9 y10, wi (d + 10) 314 112 [.ref 83, .int (wI most), .int (wI lf), .int (wI (pw3 M)), .int (wI q), y5, y6, y7, y8, y9, y10] [] S σ' τ' Q := fun τ0 he => by
    refine lp_up (fun q q0 q1 ih => ?_)
    intro σ' fs pc nd bq τ' t96 y5 y6 y7 y8 y9 y10
    have e84 : σ' 84 = σ 84 := fs.1 84 (by decide) (by decide) (by decide) (by decide) (by decide)
    refine u_314_112 ⟨by omega, by omega, ifI (fun e => ?_) (fun e => ?_)⟩
    · have : q = pw3 M := by omega
      subst this
      exact t _ _ fs bq
    · have ih := ih (by omega)
      clear t
      -- the end of a plan
      have fin : ∀ σ2, (∀ c, c ≠ 83 → σ2 c = σ' c) → (∀ k, k < 37 ∨ 39 < k → σ2 83 k = σ' 83 k) → BQ (σ 84) most (q + 1) (σ2 83 39) (σ2 83 37) (σ2 83 38) → ∀ τ2, τ2 96 = τ0 96 → ∀ y5 y6 y7 y8 y9 y10, wi (d + 10) 314 112 [.ref 83, .int (wI most), .int (wI lf), .int (wI (pw3 M)), .int (wI (q + 1)), y5, y6, y7, y8, y9, y10] [] S σ2 τ2 Q := fun σ2 g1 g2 bq2 τ2 t2 => ih σ2 ⟨fun c c1 c2 c3 c4 c5 => by rw [g1 c c1]; exact fs.1 c c1 c2 c3 c4 c5, fun k hk => by rw [g2 k (by omega)]; exact fs.2 k hk⟩ (by rw [g1 95 (by decide)]; exact pc) (by rw [g1 98 (by decide)]; exact nd) bq2 τ2 t2
      have mills : ∀ m, 0 ≤ m → m ≤ M → ∀ τ2, τ2 96 = τ0 96 → (∀ h, 0 ≤ h → h < σ 84 3 → τ2 97 h = sI (fun m => s_e (σ 84) m (dg M q m) h) m) → ∀ g, (g = 0 ∨ g = 1) → (g = 1 ↔ ∀ m', 0 ≤ m' → m' < m → dg M q m' = 0 ∨ σ 84 (3300 + 16 * m' + 5) = 0) → ∀ y9 y10, wi (d + 10) 314 158 [.ref 83, .int (wI most), .int (wI lf), .int (wI (pw3 M)), .int (wI q), .int (wI (pw3 (M - m))), .int (wI (sI (fun m => s_pc (σ 84) m (dg M q m)) m)), .int (wI g), .int (wI m), y9, y10] [] S σ' τ2 Q := by
        refine lp_up (fun m m0 m1 ihm => ?_)
        intro τ2 t2 es g g01 hg y9 y10
        have nb := sI_b (f := fun m => s_pc (σ 84) m (dg M q m)) (n := m) (lo := 0) (hi := 35640) m0 (fun k k0 k1 => s_pc_b p0 p1 ⟨k0, by omega⟩)
        refine u_314_158 ?_
        rw [e84, hM]
        refine ⟨by omega, ifI (fun em => ?_) (fun em => ?_)⟩
        · have em : m = M := by omega
          subst em
          have hN : sI (fun m_1 => s_pc (σ 84) m_1 (dg m q m_1)) m = q_N (σ 84) q := by unfold q_N; rw [hM]
          rw [hN] at nb ⊢
          refine ⟨by omega, ifI (fun c => ?_) (fun c => ⟨by omega, p3, ifI (fun c2 => ?_) (fun c2 => ?_)⟩)⟩
          · refine fin _ (fun _ _ => rfl) (fun _ _ => rfl) (BQ_bad bq (fun gq => ?_)) _ t2 _ _ _ _ _ _
            have := hg.mpr (by rw [← hM]; exact gq.1)
            omega
          · have gq : q_G (σ 84) most q := ⟨by rw [hM]; exact hg.mp (by omega), c2⟩
            refine ⟨jC p0, by omega, fun h h0 h1 => ?_, fun v hv => ?_⟩
            · rw [nd h h0 h1]
              exact r_need_b (by omega)
            · have hv : v = q_H (σ 84) q := by
                rw [hv]
                unfold q_H
                refine sI_c (fun h h0 h1 => ?_)
                have ee : τ2 97 h = q_E (σ 84) q h := by
                  rw [es h h0 h1]; unfold q_E; rw [hM]
                rw [ee, nd h h0 h1]
                unfold q_h1
                rw [hlf]
              have hb := q_H_b (σ 84) q (by omega)
              rw [← hv] at hb
              refine ifI (fun c3 => ?_) (fun c3 => ?_)
              · refine ⟨q, rfl, by omega, v, rfl, by omega, fin _ (fun c hc => uc_n hc) (fun k hk => by rw [uc_s, u1_n (by omega), u1_n (by omega), u1_n (by omega)]) ?_ _ t2 _ _ _ _ _ _⟩
                rw [uc_s]
                simp (disch := omega) only [u1_n, u1_s]
                rw [hv]
                exact BQ_new q0 bq gq (Or.inl c3)
              · have bv := BQ_v bq (by omega)
                refine ⟨by omega, ifI (fun c4 => ?_) (fun c4 => ifI (fun c5 => ifI (fun c6 => ?_) (fun c6 => ?_)) (fun c5 => ?_))⟩
                · exact fin _ (fun _ _ => rfl) (fun _ _ => rfl) (BQ_keep bq (by omega) (by omega)) _ t2 _ _ _ _ _ _
                · refine ⟨q, rfl, by omega, fin _ (fun c hc => uc_n hc) (fun k hk => by rw [uc_s, u1_n (by omega), u1_n (by omega), u1_n (by omega)]) ?_ _ t2 _ _ _ _ _ _⟩
                  rw [uc_s]
                  simp (disch := omega) only [u1_n, u1_s]
                  rw [hv]
                  exact BQ_new q0 bq gq (by omega)
                · exact fin _ (fun _ _ => rfl) (fun _ _ => rfl) (BQ_keep bq (by omega) (by omega)) _ t2 _ _ _ _ _ _
                · refine ⟨q, rfl, by omega, fin _ (fun c hc => uc_n hc) (fun k hk => by rw [uc_s, u1_n (by omega), u1_n (by omega), u1_n (by omega)]) ?_ _ t2 _ _ _ _ _ _⟩
                  rw [uc_s]
                  simp (disch := omega) only [u1_n, u1_s]
                  rw [hv]
                  exact BQ_new q0 bq gq (by omega)
          · exact fin _ (fun _ _ => rfl) (fun _ _ => rfl) (BQ_bad bq (fun gq => c2 gq.2)) _ t2 _ _ _ _ _ _
        · have ihm := ihm (by omega)
          have ps : pw3 (M - m) = 3 * pw3 (M - 1 - m) := by rw [← pw3_s (by omega)]; congr 1; omega
          have pp := pw3_p (M - 1 - m)
          have pb := pw3_b (n := M - 1 - m) (by omega)
          have e1 : (pw3 (M - m)).tdiv 3 = pw3 (M - 1 - m) := by rw [ps, Int.tdiv_eq_ediv_of_nonneg (by omega)]; omega
          have e2 : q.tdiv (pw3 (M - 1 - m)) = q / pw3 (M - 1 - m) := Int.tdiv_eq_ediv_of_nonneg q0
          have e3 : 0 ≤ q / pw3 (M - 1 - m) ∧ q / pw3 (M - 1 - m) ≤ q := ⟨Int.ediv_nonneg q0 (by omega), Int.ediv_le_self _ q0⟩
          have e4 : (2 - Int.tmod (q / pw3 (M - 1 - m)) 3) = dg M q m := by unfold dg; rw [Int.tmod_eq_emod_of_nonneg e3.1]
          rw [e1, e2, e4]
          have db := dg_b M q m
          rw [sI_s m0] at ihm
          rw [pc m m0 (by omega) _ db.1 db.2]
          rw [show M - (m + 1) = M - 1 - m by omega] at ihm
          have sb := s_pc_b (how := dg M q m) p0 p1 ⟨m0, by omega⟩
          have adds : ∀ g', (g' = 0 ∨ g' = 1) → (g' = 1 ↔ ∀ m', 0 ≤ m' → m' < m + 1 → dg M q m' = 0 ∨ σ 84 (3300 + 16 * m' + 5) = 0) → wi (d + 10) 314 233 [.ref 83, .int (wI most), .int (wI lf), .int (wI (pw3 M)), .int (wI q), .int (wI (pw3 (M - 1 - m))), .int (wI (sI (fun m => s_pc (σ 84) m (dg M q m)) m + s_pc (σ 84) m (dg M q m))), .int (wI g'), .int (wI m), .int (wI (dg M q m)), .int (wI 0)] [] S σ' τ2 Q := fun g' g01' hg' => by
            have lp : ∀ h, 0 ≤ h → h ≤ σ 84 3 → ∀ τ3, τ3 96 = τ0 96 → (∀ k, 0 ≤ k → k < h → τ3 97 k = sI (fun m => s_e (σ 84) m (dg M q m) k) (m + 1)) → (∀ k, h ≤ k → k < σ 84 3 → τ3 97 k = sI (fun m => s_e (σ 84) m (dg M q m) k) m) → wi (d + 10) 314 233 [.ref 83, .int (wI most), .int (wI lf), .int (wI (pw3 M)), .int (wI q), .int (wI (pw3 (M - 1 - m))), .int (wI (sI (fun m => s_pc (σ 84) m (dg M q m)) m + s_pc (σ 84) m (dg M q m))), .int (wI g'), .int (wI m), .int (wI (dg M q m)), .int (wI h)] [] S σ' τ3 Q := by
              refine lp_up (fun h h0 h1 ihh => ?_)
              intro τ3 t3 l1 l2
              refine u_314_233 ?_
              rw [e84]
              refine ⟨by omega, ifI (fun eh => ?_) (fun eh => ?_)⟩
              · exact ihm τ3 t3 (fun k k0 k1 => l1 k k0 (by omega)) g' g01' hg' _ _
              · have ihh := ihh (by omega)
                rw [l2 h (by omega) (by omega), t3, he m m0 (by omega) _ db.1 db.2 h h0 (by omega)]
                have sb1 := sI_b (f := fun m => s_e (σ 84) m (dg M q m) h) (n := m) (lo := 0) (hi := 7200000000) m0 (fun k k0 k1 => s_e_b p0 p1 ⟨k0, by omega⟩)
                have sb2 := s_e_b (how := dg M q m) (h := h) p0 p1 ⟨m0, by omega⟩
                refine ⟨by omega, by omega, _, rfl, by omega, ?_⟩
                refine ihh _ (by rw [uc_n (by decide)]; exact t3) (fun k k0 k1 => ?_) (fun k k0 k1 => ?_)
                · rw [uc_s]
                  by_cases c : k = h
                  · subst c; rw [u1_s, sI_s m0]
                  · rw [u1_n c]; exact l1 k k0 (by omega)
                · rw [uc_s, u1_n (by omega)]; exact l2 k (by omega) k1
            exact lp 0 (by omega) (by omega) τ2 t2 (fun k k0 k1 => by omega) (fun k k0 k1 => es k k0 k1)
          have ext : (∀ m', 0 ≤ m' → m' < m + 1 → dg M q m' = 0 ∨ σ 84 (3300 + 16 * m' + 5) = 0) ↔ (∀ m', 0 ≤ m' → m' < m → dg M q m' = 0 ∨ σ 84 (3300 + 16 * m' + 5) = 0) ∧ (dg M q m = 0 ∨ σ 84 (3300 + 16 * m + 5) = 0) := by
            constructor
            · intro h; exact ⟨fun m' a0 a1 => h m' a0 (by omega), h m m0 (by omega)⟩
            · rintro ⟨h, h2⟩ m' a0 a1
              by_cases c : m' = m
              · subst c; exact h2
              · exact h m' a0 (by omega)
          refine ⟨by omega, by omega, by omega, by omega, by omega, by omega, ifI (fun c => ⟨by omega, adds 0 (Or.inl rfl) ?_⟩) (fun c => ⟨by omega, ifI (fun c2 => ⟨by omega, adds 1 (Or.inr rfl) ?_⟩) (fun c2 => ⟨by omega, ifI (fun c3 => ⟨by omega, adds 1 (Or.inr rfl) ?_⟩) (fun c3 => ⟨by omega, adds 0 (Or.inl rfl) ?_⟩)⟩)⟩)⟩
          · rw [ext, ← hg]; omega
          · rw [ext, ← hg]; omega
          · rw [ext, ← hg]; omega
          · rw [ext, ← hg]; omega
      have zer : ∀ h, 0 ≤ h → h ≤ σ 84 3 → ∀ τ2, τ2 96 = τ0 96 → (∀ k, 0 ≤ k → k < h → τ2 97 k = 0) → ∀ y9 y10, wi (d + 10) 314 130 [.ref 83, .int (wI most), .int (wI lf), .int (wI (pw3 M)), .int (wI q), .int (wI (pw3 M)), .int (wI 0), .int (wI 1), .int (wI h), y9, y10] [] S σ' τ2 Q := by
        refine lp_up (fun h h0 h1 ihh => ?_)
        intro τ2 t2 z y9 y10
        refine u_314_130 ?_
        rw [e84]
        refine ⟨by omega, ifI (fun eh => ?_) (fun eh => ?_)⟩
        · have := mills 0 (by omega) (by omega) τ2 t2 (fun k k0 k1 => by rw [z k k0 (by omega)]; rfl) 1 (Or.inr rfl) ⟨fun _ m' a0 a1 => by omega, fun _ => rfl⟩ y9 y10
          rw [Int.sub_zero] at this
          exact this
        · refine ⟨by omega, ihh (by omega) _ (by rw [uc_n (by decide)]; exact t2) (fun k k0 k1 => ?_) _ _⟩
          rw [uc_s]
          by_cases c : k = h
          · subst c; rw [u1_s]
          · rw [u1_n c]; exact z k k0 (by omega)
      exact zer 0 (by omega) (by omega) τ' t96 (fun k k0 k1 => by omega) _ _
  have tail : ∀ σ' τ', FS σ σ' → (∀ m, 0 ≤ m → m < M → ∀ how, 0 ≤ how → how ≤ 2 → σ' 95 (3 * m + how) = s_pc (σ 84) m how) → (∀ m, 0 ≤ m → m < M → ∀ how, 0 ≤ how → how ≤ 2 → ∀ h, 0 ≤ h → h < 24 → τ' 96 (24 * (3 * m + how) + h) = s_e (σ 84) m how h) → ∀ y3 y4 y5 y6 y7 y8 y9 y10, wi (d + 10) 314 39 [.ref 83, .int (wI most), .int (wI 0), y3, y4, y5, y6, y7, y8, y9, y10] [] S σ' τ' Q := fun σ' τ' fs pc he => by
    have pows : ∀ σ2, FS σ σ2 → σ2 95 = σ' 95 → (∀ h, 0 ≤ h → h < σ 84 3 → σ2 98 h = r_need (σ 84) h) → ∀ m, 0 ≤ m → m ≤ M → ∀ y5 y6 y7 y8 y9 y10, wi (d + 10) 314 83 [.ref 83, .int (wI most), .int (wI lf), .int (wI (pw3 m)), .int (wI m), y5, y6, y7, y8, y9, y10] [] S σ2 τ' Q := fun σ2 fs2 e95 nd => by
      have e84 : σ2 84 = σ 84 := fs2.1 84 (by decide) (by decide) (by decide) (by decide) (by decide)
      refine lp_up (fun m m0 m1 ih => ?_)
      intro y5 y6 y7 y8 y9 y10
      refine u_314_83 ?_
      rw [e84, hM]
      refine ⟨by omega, ifI (fun e => ?_) (fun e => ?_)⟩
      · have : m = M := by omega
        subst this
        refine plans τ' he 0 (by omega) (by omega) _ ⟨fun c c1 c2 c3 c4 c5 => by rw [uc_n c1]; exact fs2.1 c c1 c2 c3 c4 c5, fun k hk => by rw [uc_s, u1_n (by omega)]; exact fs2.2 k hk⟩ (by rw [uc_n (by decide), e95]; exact pc) (by rw [uc_n (by decide)]; exact nd) (Or.inl ⟨by rw [uc_s, u1_s], fun q' a0 a1 => by omega⟩) τ' rfl _ _ _ _ _ _
      · have ih := ih (by omega) y5 y6 y7 y8 y9 y10
        rw [pw3_s m0, Int.mul_comm] at ih
        exact ih
    have needs : ∀ h, 0 ≤ h → h ≤ σ 84 3 → ∀ σ2, FS σ σ2 → σ2 95 = σ' 95 → (∀ k, 0 ≤ k → k < h → σ2 98 k = r_need (σ 84) k) → ∀ y3 y4 y5 y6 y7 y8 y9 y10, wi (d + 10) 314 39 [.ref 83, .int (wI most), .int (wI h), y3, y4, y5, y6, y7, y8, y9, y10] [] S σ2 τ' Q := by
      refine lp_up (fun h h0 h1 ih => ?_)
      intro σ2 fs2 e95 nd y3 y4 y5 y6 y7 y8 y9 y10
      have e84 : σ2 84 = σ 84 := fs2.1 84 (by decide) (by decide) (by decide) (by decide) (by decide)
      refine u_314_39 ?_
      rw [e84]
      refine ⟨by omega, ifI (fun e => ⟨by omega, ?_⟩) (fun e => ⟨by omega, fun v hv bv => ⟨by omega, v, rfl, by omega, ?_⟩⟩)⟩
      · rw [hlf]
        exact pows σ2 fs2 e95 (fun k k0 k1 => nd k k0 (by omega)) 0 (by omega) (by omega) _ _ _ _ _ _
      · refine ih (by omega) _ ⟨fun c c1 c2 c3 c4 c5 => by rw [uc_n c5]; exact fs2.1 c c1 c2 c3 c4 c5, fun k hk => by rw [uc_n (by decide)]; exact fs2.2 k hk⟩ (by rw [uc_n (by decide)]; exact e95) (fun k k0 k1 => ?_) _ _ _ _ _ _ _ _
        rw [uc_s]
        by_cases c : k = h
        · subst c; rw [u1_s]; exact hv
        · rw [u1_n c]; exact nd k k0 (by omega)
    exact needs 0 (by omega) (by omega) σ' fs rfl (fun k k0 k1 => by omega)
  clear plans
  have hows : ∀ m, 0 ≤ m → m < M → (∀ σ' τ', FS σ σ' → (∀ m', 0 ≤ m' → m' < m + 1 → ∀ how, 0 ≤ how → how ≤ 2 → σ' 95 (3 * m' + how) = s_pc (σ 84) m' how) → (∀ m', 0 ≤ m' → m' < m + 1 → ∀ how, 0 ≤ how → how ≤ 2 → ∀ h, 0 ≤ h → h < 24 → τ' 96 (24 * (3 * m' + how) + h) = s_e (σ 84) m' how h) → ∀ y3 y4 y5 y6 y7 y8 y9 y10, wi (d + 10) 314 2 [.ref 83, .int (wI most), .int (wI (m + 1)), y3, y4, y5, y6, y7, y8, y9, y10] [] S σ' τ' Q) → ∀ w, 0 ≤ w → w ≤ 3 → ∀ σ' τ', FS σ σ' → (∀ m', 0 ≤ m' → ∀ how, 0 ≤ how → how ≤ 2 → 3 * m' + how < 3 * m + w → σ' 95 (3 * m' + how) = s_pc (σ 84) m' how) → (∀ m', 0 ≤ m' → ∀ how, 0 ≤ how → how ≤ 2 → 3 * m' + how < 3 * m + w → ∀ h, 0 ≤ h → h < 24 → τ' 96 (24 * (3 * m' + how) + h) = s_e (σ 84) m' how h) → ∀ y4 y5 y6 y7 y8 y9 y10, wi (d + 10) 314 14 [.ref 83, .int (wI most), .int (wI m), .int (wI w), y4, y5, y6, y7, y8, y9, y10] [] S σ' τ' Q := fun m m0 m1 out => by
    refine lp_up (fun w w0 w1 ih => ?_)
    intro σ' τ' fs pc he y4 y5 y6 y7 y8 y9 y10
    have e84 : σ' 84 = σ 84 := fs.1 84 (by decide) (by decide) (by decide) (by decide) (by decide)
    refine u_314_14 ?_
    rw [e84, hM]
    refine ⟨by omega, ifI (fun e => ?_) (fun e => ?_)⟩
    · exact out σ' τ' fs (fun m' a0 a1 how b0 b1 => pc m' a0 how b0 b1 (by omega)) (fun m' a0 a1 how b0 b1 => he m' a0 how b0 b1 (by omega)) _ _ _ _ _ _ _ _
    · refine ⟨p0, p1, p2, by omega, by omega, fun σ1 τ1 sh => ?_⟩
      unfold SH at sh
      rw [e84] at sh
      refine ih (by omega) σ1 τ1 ⟨fun c c1 c2 c3 c4 c5 => by rw [sh.1 c c1 c2 c3 c4]; exact fs.1 c c1 c2 c3 c4 c5, fun k hk => by rw [sh.2.1 k (by omega)]; exact fs.2 k hk⟩ (fun m' a0 how b0 b1 b2 => ?_) (fun m' a0 how b0 b1 b2 h h0 h1 => ?_) _ _ _ _ _ _ _
      · rw [sh.2.2.2.1]
        by_cases c : 3 * m' + how = 3 * m + w
        · have e1 : m' = m := by omega
          have e2 : how = w := by omega
          subst e1
          subst e2
          rw [u1_s]
        · rw [u1_n c]; exact pc m' a0 how b0 b1 (by omega)
      · by_cases c : 3 * m' + how = 3 * m + w
        · have e1 : m' = m := by omega
          have e2 : how = w := by omega
          subst e1
          subst e2
          exact sh.2.2.2.2.1 h h0 h1
        · rw [sh.2.2.2.2.2 _ (by omega)]
          exact he m' a0 how b0 b1 (by omega) h h0 h1
  have outer : ∀ m, 0 ≤ m → m ≤ M → ∀ σ' τ', FS σ σ' → (∀ m', 0 ≤ m' → m' < m → ∀ how, 0 ≤ how → how ≤ 2 → σ' 95 (3 * m' + how) = s_pc (σ 84) m' how) → (∀ m', 0 ≤ m' → m' < m → ∀ how, 0 ≤ how → how ≤ 2 → ∀ h, 0 ≤ h → h < 24 → τ' 96 (24 * (3 * m' + how) + h) = s_e (σ 84) m' how h) → ∀ y3 y4 y5 y6 y7 y8 y9 y10, wi (d + 10) 314 2 [.ref 83, .int (wI most), .int (wI m), y3, y4, y5, y6, y7, y8, y9, y10] [] S σ' τ' Q := by
    refine lp_up (fun m m0 m1 ih => ?_)
    intro σ' τ' fs pc he y3 y4 y5 y6 y7 y8 y9 y10
    have e84 : σ' 84 = σ 84 := fs.1 84 (by decide) (by decide) (by decide) (by decide) (by decide)
    refine u_314_2 ?_
    rw [e84, hM]
    refine ⟨by omega, ifI (fun e => ?_) (fun e => ?_)⟩
    · exact tail σ' τ' fs (fun m' a0 a1 => pc m' a0 (by omega)) (fun m' a0 a1 => he m' a0 (by omega)) _ _ _ _ _ _ _ _
    · exact hows m m0 (by omega) (ih (by omega)) 0 (by omega) (by omega) σ' τ' fs (fun m' a0 how b0 b1 b2 => pc m' a0 (by omega) how b0 b1) (fun m' a0 how b0 b1 b2 => he m' a0 (by omega) how b0 b1) _ _ _ _ _ _ _
  refine wc_of mi_314 rfl (u_314_0 ?_)
  exact outer 0 (by omega) (by omega) σ τ ⟨fun _ _ _ _ _ _ => rfl, fun _ _ => rfl⟩ (fun m' a0 a1 => by omega) (fun m' a0 a1 => by omega) _ _ _ _ _ _ _ _
-- method 315: MillTownModel.shared(II)I
theorem c_315_0 : pg_cd 315 0 = (3, 1, 0, 1, 0) := by decide +kernel
theorem c_315_1 : pg_cd 315 1 = (1, 1, 0, 0, 0) := by decide +kernel
theorem c_315_2 : pg_cd 315 2 = (1, 2, 71, 0, 100000) := by decide +kernel
theorem c_315_4 : pg_cd 315 4 = (81, 196, 76, 0, 0) := by decide +kernel
theorem c_315_7 : pg_cd 315 7 = (36, 3, 0, 0, 34) := by decide +kernel
theorem c_315_10 : pg_cd 315 10 = (5, 1, 0, 0, 0) := by decide +kernel
theorem c_315_11 : pg_cd 315 11 = (45, 12, 8, 0, 0) := by decide +kernel
theorem c_315_14 : pg_cd 315 14 = (1, 1, 0, 0, 0) := by decide +kernel
theorem c_315_15 : pg_cd 315 15 = (50, 1, 0, 0, 0) := by decide +kernel
theorem c_315_16 : pg_cd 315 16 = (1, 3, 0, 0, 400) := by decide +kernel
theorem c_315_19 : pg_cd 315 19 = (37, 3, 0, 3, 22) := by decide +kernel
theorem c_315_22 : pg_cd 315 22 = (3, 1, 0, 2, 0) := by decide +kernel
theorem c_315_23 : pg_cd 315 23 = (1, 1, 0, 0, (-1)) := by decide +kernel
theorem c_315_24 : pg_cd 315 24 = (37, 3, 0, 0, 19) := by decide +kernel
theorem c_315_27 : pg_cd 315 27 = (3, 1, 0, 2, 0) := by decide +kernel
theorem c_315_28 : pg_cd 315 28 = (1, 2, 0, 0, (-2)) := by decide +kernel
theorem c_315_30 : pg_cd 315 30 = (37, 3, 0, 0, 13) := by decide +kernel
theorem c_315_33 : pg_cd 315 33 = (5, 1, 0, 0, 0) := by decide +kernel
theorem c_315_34 : pg_cd 315 34 = (3, 1, 0, 2, 0) := by decide +kernel
theorem c_315_35 : pg_cd 315 35 = (80, 201, 115, 0, 0) := by decide +kernel
theorem c_315_38 : pg_cd 315 38 = (36, 3, 0, 1, 5) := by decide +kernel
theorem c_315_41 : pg_cd 315 41 = (1, 1, 0, 0, (-1)) := by decide +kernel
theorem c_315_42 : pg_cd 315 42 = (90, 0, 0, 0, 0) := by decide +kernel
theorem c_315_43 : pg_cd 315 43 = (5, 1, 0, 0, 0) := by decide +kernel
theorem c_315_44 : pg_cd 315 44 = (3, 1, 0, 1, 0) := by decide +kernel
theorem c_315_45 : pg_cd 315 45 = (80, 314, 442, 0, 0) := by decide +kernel
theorem c_315_48 : pg_cd 315 48 = (3, 1, 0, 2, 0) := by decide +kernel
theorem c_315_49 : pg_cd 315 49 = (1, 1, 0, 0, (-1)) := by decide +kernel
theorem c_315_50 : pg_cd 315 50 = (37, 3, 0, 1, 8) := by decide +kernel
theorem c_315_53 : pg_cd 315 53 = (5, 1, 0, 0, 0) := by decide +kernel
theorem c_315_54 : pg_cd 315 54 = (43, 12, 436, 37, 0) := by decide +kernel
theorem c_315_57 : pg_cd 315 57 = (90, 0, 0, 0, 0) := by decide +kernel
theorem c_315_58 : pg_cd 315 58 = (3, 1, 0, 2, 0) := by decide +kernel
theorem c_315_59 : pg_cd 315 59 = (1, 2, 0, 0, (-2)) := by decide +kernel
theorem c_315_61 : pg_cd 315 61 = (37, 3, 0, 1, 8) := by decide +kernel
theorem c_315_64 : pg_cd 315 64 = (5, 1, 0, 0, 0) := by decide +kernel
theorem c_315_65 : pg_cd 315 65 = (43, 12, 439, 38, 0) := by decide +kernel
theorem c_315_68 : pg_cd 315 68 = (90, 0, 0, 0, 0) := by decide +kernel
theorem c_315_69 : pg_cd 315 69 = (1, 1, 0, 0, 1) := by decide +kernel
theorem c_315_70 : pg_cd 315 70 = (6, 1, 0, 3, 0) := by decide +kernel
theorem c_315_71 : pg_cd 315 71 = (3, 1, 0, 2, 0) := by decide +kernel
theorem c_315_72 : pg_cd 315 72 = (1, 1, 0, 0, 1) := by decide +kernel
theorem c_315_73 : pg_cd 315 73 = (10, 1, 0, 0, 0) := by decide +kernel
theorem c_315_74 : pg_cd 315 74 = (6, 2, 0, 4, 0) := by decide +kernel
theorem c_315_76 : pg_cd 315 76 = (3, 2, 0, 4, 0) := by decide +kernel
theorem c_315_78 : pg_cd 315 78 = (5, 1, 0, 0, 0) := by decide +kernel
theorem c_315_79 : pg_cd 315 79 = (45, 12, 8, 0, 0) := by decide +kernel
theorem c_315_82 : pg_cd 315 82 = (1, 1, 0, 0, 1) := by decide +kernel
theorem c_315_83 : pg_cd 315 83 = (50, 1, 0, 0, 0) := by decide +kernel
theorem c_315_84 : pg_cd 315 84 = (37, 3, 0, 3, 13) := by decide +kernel
theorem c_315_87 : pg_cd 315 87 = (3, 1, 0, 3, 0) := by decide +kernel
theorem c_315_88 : pg_cd 315 88 = (1, 1, 0, 0, 3) := by decide +kernel
theorem c_315_89 : pg_cd 315 89 = (12, 1, 0, 0, 0) := by decide +kernel
theorem c_315_90 : pg_cd 315 90 = (6, 1, 0, 3, 0) := by decide +kernel
theorem c_315_91 : pg_cd 315 91 = (9, 3, 0, 4, 1) := by decide +kernel
theorem c_315_94 : pg_cd 315 94 = (38, 3, 0, 0, (-18)) := by decide +kernel
theorem c_315_97 : pg_cd 315 97 = (1, 1, 0, 0, 2) := by decide +kernel
theorem c_315_98 : pg_cd 315 98 = (5, 1, 0, 0, 0) := by decide +kernel
theorem c_315_99 : pg_cd 315 99 = (43, 12, 430, 39, 0) := by decide +kernel
theorem c_315_102 : pg_cd 315 102 = (3, 1, 0, 3, 0) := by decide +kernel
theorem c_315_103 : pg_cd 315 103 = (16, 1, 0, 0, 0) := by decide +kernel
theorem c_315_104 : pg_cd 315 104 = (1, 1, 0, 0, 3) := by decide +kernel
theorem c_315_105 : pg_cd 315 105 = (17, 1, 0, 0, 0) := by decide +kernel
theorem c_315_106 : pg_cd 315 106 = (11, 1, 0, 0, 0) := by decide +kernel
theorem c_315_107 : pg_cd 315 107 = (90, 0, 0, 0, 0) := by decide +kernel
theorem mi_315 : pg_mc 315 = 12 ∧ pg_na 315 = 2 ∧ pg_mx 315 = 5 := by decide +kernel
set_option maxRecDepth 20000 in
theorem u_315_0 {d : Nat} {S : zS} {σ τ : zI} {Q : zQ} {x1 : Int} {x2 : Int} (t : (rg x1) ∧ if 0 ≤ x1 ∧ x1 ≤ 100000 then (if (400 : Int) ≤ (σ 84 0) then (Q (some (.int (wI (-1)))) S σ τ) else ((rg x2) ∧ if x2 = (-1) then ((Jv (σ 84)) ∧ (jv_T (σ 84)) ∧ (jv_E (σ 84)) ∧ (σ 84 0 ≤ 399) ∧ ∀ (σ111 : zI) (τ112 : zI), FS σ σ111 → BQ (σ 84) x1 (pw3 (σ 84 1)) (σ111 83 39) (σ111 83 37) (σ111 83 38) → Q (some (.int (wI (σ111 83 37)))) S σ111 τ112) else (if x2 = (-2) then ((Jv (σ 84)) ∧ (jv_T (σ 84)) ∧ (jv_E (σ 84)) ∧ (σ 84 0 ≤ 399) ∧ ∀ (σ122 : zI) (τ123 : zI), FS σ σ122 → BQ (σ 84) x1 (pw3 (σ 84 1)) (σ122 83 39) (σ122 83 37) (σ122 83 38) → Q (some (.int (wI (σ122 83 38)))) S σ122 τ123) else ((0 ≤ σ 84 1) ∧ if 0 ≤ x2 ∧ x2 < σ 84 1 then ((Jv (σ 84)) ∧ (jv_T (σ 84)) ∧ (jv_E (σ 84)) ∧ (σ 84 0 ≤ 399) ∧ ∀ (σ135 : zI) (τ136 : zI), FS σ σ135 → BQ (σ 84) x1 (pw3 (σ 84 1)) (σ135 83 39) (σ135 83 37) (σ135 83 38) → wi (d + 11) 315 76 [.ref 83, .int (wI x1), .int (wI x2), .int (wI 1), .int (wI (x2 + 1))] [] S σ135 τ136 Q) else (Q (some (.int (wI (-1)))) S σ τ))))) else (Q (some (.int (wI (-1)))) S σ τ)) : wi (d + 11) 315 0 [.ref 83, .int (wI x1), .int (wI x2), .retAddr 0, .retAddr 0] [] S σ τ Q := by
  obtain ⟨r1, t⟩ := t
  refine i3 c_315_0 rfl (i1 c_315_1 (i1 c_315_2 ?_))
  refine i81 (As := [.int (wI x1), .int (wI 0), .int (wI 100000)]) (rest := []) c_315_4 mi_196 rfl rfl (Nat.le_of_ble_eq_true rfl) (Nat.le_of_ble_eq_true rfl) (q_196 r1 (by decide) (by decide) ?_)
  show wi (d + 11) 315 7 [.ref 83, .int (wI x1), .int (wI x2), .retAddr 0, .retAddr 0] [.int (wI (if 0 ≤ x1 ∧ x1 ≤ 100000 then 1 else 0))] S σ τ Q
  refine i36e c_315_7 rfl (fun hc => ?_) (fun hc => ?_)
  · have t := iT t hc
    have ha2 : 0 ≤ x1 ∧ x1 ≤ 100000 := hc
    refine i5 c_315_10 rfl (i45 c_315_11 (lo (c := 83) (kd := 112) (n := 0) rfl (by decide)) (lro (c := 83) (k := 0) (j := 84) (by decide)) (i1 c_315_14 (wi_ok (fun K3 => ?_))))
    refine i50 (v := σ 84 0) c_315_15 (lo (c := 84) (kd := 0) (n := 112300) rfl (by decide)) (by decide) (by decide) rfl (i1 c_315_16 ?_)
    refine i37 c_315_19 (rge_ K3 rfl) (by decide) rfl (fun hc => ?_) (fun hc => ?_)
    · have t := iT t hc
      have ha4 : (400 : Int) ≤ (σ 84 0) := hc
      refine i1 c_315_41 ?_
      exact i90 c_315_42 t
    · have t := iF t hc
      have ha4 : ¬ ((400 : Int) ≤ (σ 84 0)) := hc
      obtain ⟨r5, t⟩ := t
      refine i3 c_315_22 rfl (i1 c_315_23 ?_)
      refine i37 c_315_24 r5 (by decide) rfl (fun hc => ?_) (fun hc => ?_)
      · have t := iT t hc
        have ha6 : x2 = (-1) := hc
        obtain ⟨p7, t⟩ := t
        obtain ⟨p8, t⟩ := t
        obtain ⟨p9, t⟩ := t
        obtain ⟨p10, t⟩ := t
        refine i5 c_315_43 rfl (i3 c_315_44 rfl ?_)
        refine i80 (As := [.int (wI x1)]) (rest := []) c_315_45 mi_314 rfl rfl (Nat.le_of_ble_eq_true rfl) (Nat.le_of_ble_eq_true rfl) (lo (c := 83) (kd := 112) (n := 0) rfl (by decide)) (q_314 p7 p8 p9 r1 p10 (fun σ111 τ112 q13 q14 => ?_))
        have t := t σ111 τ112 q13 q14
        show wi (d + 11) 315 48 [.ref 83, .int (wI x1), .int (wI x2), .retAddr 0, .retAddr 0] [] S σ111 τ112 Q
        refine i3 c_315_48 rfl (i1 c_315_49 ?_)
        refine i37 c_315_50 r5 (by decide) rfl (fun hc => absurd (show x2 = (-1) by omega) hc) (fun _ => ?_)
        refine i5 c_315_53 rfl (wi_ok (fun K16 => ?_))
        refine i43 (v := σ111 83 37) c_315_54 (lo (c := 83) (kd := 112) (n := 0) rfl (by decide)) rfl ?_
        exact i90 c_315_57 t
      · have t := iF t hc
        have ha6 : ¬ (x2 = (-1)) := hc
        refine i3 c_315_27 rfl (i1 c_315_28 ?_)
        refine i37 c_315_30 r5 (by decide) rfl (fun hc => ?_) (fun hc => ?_)
        · have t := iT t hc
          have ha17 : x2 = (-2) := hc
          obtain ⟨p18, t⟩ := t
          obtain ⟨p19, t⟩ := t
          obtain ⟨p20, t⟩ := t
          obtain ⟨p21, t⟩ := t
          refine i5 c_315_43 rfl (i3 c_315_44 rfl ?_)
          refine i80 (As := [.int (wI x1)]) (rest := []) c_315_45 mi_314 rfl rfl (Nat.le_of_ble_eq_true rfl) (Nat.le_of_ble_eq_true rfl) (lo (c := 83) (kd := 112) (n := 0) rfl (by decide)) (q_314 p18 p19 p20 r1 p21 (fun σ122 τ123 q24 q25 => ?_))
          have t := t σ122 τ123 q24 q25
          show wi (d + 11) 315 48 [.ref 83, .int (wI x1), .int (wI x2), .retAddr 0, .retAddr 0] [] S σ122 τ123 Q
          refine i3 c_315_48 rfl (i1 c_315_49 ?_)
          refine i37 c_315_50 r5 (by decide) rfl (fun _ => ?_) (fun hc => absurd (show ¬ (x2 = (-1)) by omega) hc)
          refine i3 c_315_58 rfl (i1 c_315_59 ?_)
          refine i37 c_315_61 r5 (by decide) rfl (fun hc => absurd (show x2 = (-2) by omega) hc) (fun _ => ?_)
          refine i5 c_315_64 rfl (wi_ok (fun K28 => ?_))
          refine i43 (v := σ122 83 38) c_315_65 (lo (c := 83) (kd := 112) (n := 0) rfl (by decide)) rfl ?_
          exact i90 c_315_68 t
        · have t := iF t hc
          have ha17 : ¬ (x2 = (-2)) := hc
          obtain ⟨p29, t⟩ := t
          refine i5 c_315_33 rfl (i3 c_315_34 rfl ?_)
          refine i80 (As := [.int (wI x2)]) (rest := []) c_315_35 mi_201 rfl rfl (Nat.le_of_ble_eq_true rfl) (Nat.le_of_ble_eq_true rfl) (lo (c := 83) (kd := 112) (n := 0) rfl (by decide)) (q_201 r5 p29 ?_)
          show wi (d + 11) 315 38 [.ref 83, .int (wI x1), .int (wI x2), .retAddr 0, .retAddr 0] [.int (wI (if 0 ≤ x2 ∧ x2 < σ 84 1 then 1 else 0))] S σ τ Q
          refine i36f c_315_38 rfl (fun hc => ?_) (fun hc => ?_)
          · have t := iT t hc
            have ha30 : 0 ≤ x2 ∧ x2 < σ 84 1 := hc
            obtain ⟨p31, t⟩ := t
            obtain ⟨p32, t⟩ := t
            obtain ⟨p33, t⟩ := t
            obtain ⟨p34, t⟩ := t
            refine i5 c_315_43 rfl (i3 c_315_44 rfl ?_)
            refine i80 (As := [.int (wI x1)]) (rest := []) c_315_45 mi_314 rfl rfl (Nat.le_of_ble_eq_true rfl) (Nat.le_of_ble_eq_true rfl) (lo (c := 83) (kd := 112) (n := 0) rfl (by decide)) (q_314 p31 p32 p33 r1 p34 (fun σ135 τ136 q37 q38 => ?_))
            have t := t σ135 τ136 q37 q38
            show wi (d + 11) 315 48 [.ref 83, .int (wI x1), .int (wI x2), .retAddr 0, .retAddr 0] [] S σ135 τ136 Q
            refine i3 c_315_48 rfl (i1 c_315_49 ?_)
            refine i37 c_315_50 r5 (by decide) rfl (fun _ => ?_) (fun hc => absurd (show ¬ (x2 = (-1)) by omega) hc)
            refine i3 c_315_58 rfl (i1 c_315_59 ?_)
            refine i37 c_315_61 r5 (by decide) rfl (fun _ => ?_) (fun hc => absurd (show ¬ (x2 = (-2)) by omega) hc)
            refine i1 c_315_69 (i6 (L' := [.ref 83, .int (wI x1), .int (wI x2), .int (wI 1), .retAddr 0]) c_315_70 rfl (i3 c_315_71 rfl (i1 c_315_72 (i10 c_315_73 (i6 (L' := [.ref 83, .int (wI x1), .int (wI x2), .int (wI 1), .int (wI (x2 + 1))]) c_315_74 rfl t)))))
          · have t := iF t hc
            have ha30 : ¬ (0 ≤ x2 ∧ x2 < σ 84 1) := hc
            refine i1 c_315_41 ?_
            exact i90 c_315_42 t
  · have t := iF t hc
    have ha2 : ¬ (0 ≤ x1 ∧ x1 ≤ 100000) := hc
    refine i1 c_315_41 ?_
    exact i90 c_315_42 t
set_option maxRecDepth 20000 in
theorem u_315_76 {d : Nat} {S : zS} {σ τ : zI} {Q : zQ} {x1 : Int} {x2 : Int} {x3 : Int} {x4 : Int} (t : (rg x4) ∧ if (σ 84 1) ≤ x4 then ((rg x3) ∧ (x3 ≠ 0) ∧ (rg (Int.tdiv (σ 83 39) x3)) ∧ Q (some (.int (wI (2 - (Int.tmod (Int.tdiv (σ 83 39) x3) 3))))) S σ τ) else (wi (d + 11) 315 76 [.ref 83, .int (wI x1), .int (wI x2), .int (wI (x3 * 3)), .int (wI (x4 + 1))] [] S σ τ Q)) : wi (d + 11) 315 76 [.ref 83, .int (wI x1), .int (wI x2), .int (wI x3), .int (wI x4)] [] S σ τ Q := by
  refine i3 c_315_76 rfl (i5 c_315_78 rfl (i45 c_315_79 (lo (c := 83) (kd := 112) (n := 0) rfl (by decide)) (lro (c := 83) (k := 0) (j := 84) (by decide)) (i1 c_315_82 (wi_ok (fun K1 => ?_)))))
  obtain ⟨r2, t⟩ := t
  refine i50 (v := σ 84 1) c_315_83 (lo (c := 84) (kd := 0) (n := 112300) rfl (by decide)) (by decide) (by decide) rfl ?_
  refine i37 c_315_84 r2 (rge_ K1 rfl) rfl (fun hc => ?_) (fun hc => ?_)
  · have t := iT t hc
    have ha3 : (σ 84 1) ≤ x4 := hc
    obtain ⟨r4, t⟩ := t
    obtain ⟨y5, t⟩ := t
    obtain ⟨r6, t⟩ := t
    refine i1 c_315_97 (i5 c_315_98 rfl (i43 (v := σ 83 39) c_315_99 (lo (c := 83) (kd := 112) (n := 0) rfl (by decide)) rfl (i3 c_315_102 rfl (i16 c_315_103 (rge_ K1 rfl) r4 y5 (i1 c_315_104 (i17 c_315_105 r6 (by decide) (by decide) (i11 c_315_106 ?_)))))))
    exact i90 c_315_107 t
  · have t := iF t hc
    have ha3 : ¬ ((σ 84 1) ≤ x4) := hc
    refine i3 c_315_87 rfl (i1 c_315_88 (i12 c_315_89 (i6 (L' := [.ref 83, .int (wI x1), .int (wI x2), .int (wI (x3 * 3)), .int (wI x4)]) c_315_90 rfl (i9 (L' := [.ref 83, .int (wI x1), .int (wI x2), .int (wI (x3 * 3)), .int (wI (x4 + 1))]) c_315_91 rfl rfl (i38 c_315_94 rfl t)))))
theorem pw3_a {n m : Int} (hn : 0 ≤ n) (hm : 0 ≤ m) : pw3 (n + m) = pw3 n * pw3 m := by
  unfold pw3
  rw [show (n + m).toNat = n.toNat + m.toNat by omega, Int.pow_add]
theorem dg_z {M m : Int} (h : 0 ≤ m ∧ m < M) : dg M (pw3 M - 1) m = 0 := by
  have e : pw3 M = pw3 (M - 1 - m) * (3 * pw3 m) := by
    rw [← pw3_s h.1, ← pw3_a (by omega) (by omega)]
    congr 1
    omega
  have k := pw3_p (M - 1 - m)
  have l := pw3_p m
  unfold dg
  generalize pw3 (M - 1 - m) = K at *
  generalize pw3 m = L at *
  have e2 : pw3 M - 1 = (K - 1) + K * (3 * L - 1) := by
    rw [e, Int.mul_sub]
    omega
  rw [e2, Int.add_mul_ediv_left _ _ (by omega), Int.ediv_eq_zero_of_lt (by omega) (by omega)]
  omega
theorem BQ_some {a : Int → Int} {most b H N : Int} (hm : 0 ≤ a 1) (h0 : 0 ≤ most) (h : BQ a most (pw3 (a 1)) b H N) : 0 ≤ b := by
  rcases h with h | h
  · exfalso
    have p := pw3_p (a 1)
    refine h.2 (pw3 (a 1) - 1) (by omega) (by omega) ⟨fun m m0 m1 => Or.inl (dg_z ⟨m0, m1⟩), ?_⟩
    have e : q_N a (pw3 (a 1) - 1) = sI (fun _ => 0) (a 1) := sI_c (fun m m0 m1 => by
      rw [dg_z ⟨m0, m1⟩]
      rfl)
    have := sI_b (f := fun _ => (0 : Int)) (n := a 1) (lo := 0) (hi := 0) hm (fun _ _ _ => by omega)
    rw [e]
    omega
  · omega
/-- what shared answers -/
def SV (a : Int → Int) (most what v : Int) : Prop := ∃ b Hb Nb, BQ a most (pw3 (a 1)) b Hb Nb ∧ v = if what = -1 then Hb else if what = -2 then Nb else dg (a 1) b what
theorem q_315 {d : Nat} {S : zS} {σ τ : zI} {Q : zQ} {most : Int} {what : Int} (p0 : Jv (σ 84)) (p1 : jv_T (σ 84)) (p2 : jv_E (σ 84)) (p3 : rg most) (p4 : rg what) (t : ∀ (v : Int) (σ1 : zI) (τ1 : zI), FS σ σ1 → ((0 ≤ most ∧ most ≤ 100000) ∧ σ 84 0 < 400 ∧ (what = -1 ∨ what = -2 ∨ 0 ≤ what ∧ what < σ 84 1) → SV (σ 84) most what v) → (¬ ((0 ≤ most ∧ most ≤ 100000) ∧ σ 84 0 < 400 ∧ (what = -1 ∨ what = -2 ∨ 0 ≤ what ∧ what < σ 84 1)) → v = -1) → Q (some (.int (wI v))) S σ1 τ1) : wc (d + 11) 315 [.ref 83, .int (wI most), .int (wI what)] S σ τ Q := by
  have hC := jC p0
  unfold jv_C at hC
  refine wc_of mi_315 rfl (u_315_0 ?_)
  have no : ¬ ((0 ≤ most ∧ most ≤ 100000) ∧ σ 84 0 < 400 ∧ (what = -1 ∨ what = -2 ∨ 0 ≤ what ∧ what < σ 84 1)) → Q (some (.int (wI (-1)))) S σ τ := fun h => t (-1) σ τ ⟨fun _ _ _ _ _ _ => rfl, fun _ _ => rfl⟩ (fun q => absurd q h) (fun _ => rfl)
  refine ⟨p3, ifI (fun e1 => ifI (fun e2 => no (by omega)) (fun e2 => ⟨p4, ifI (fun e3 => ?_) (fun e3 => ifI (fun e4 => ?_) (fun e4 => ⟨by omega, ifI (fun e5 => ?_) (fun e5 => no (by omega))⟩))⟩)) (fun e1 => no (by omega))⟩
  · refine ⟨p0, p1, p2, by omega, fun σ1 τ1 fs bq => t _ σ1 τ1 fs (fun _ => ⟨_, _, _, bq, by rw [if_pos e3]⟩) (fun n => absurd (by omega) n)⟩
  · refine ⟨p0, p1, p2, by omega, fun σ1 τ1 fs bq => t _ σ1 τ1 fs (fun _ => ⟨_, _, _, bq, by rw [if_neg e3, if_pos e4]⟩) (fun n => absurd (by omega) n)⟩
  · refine ⟨p0, p1, p2, by omega, fun σ1 τ1 fs bq => ?_⟩
    have e84 : σ1 84 = σ 84 := fs.1 84 (by decide) (by decide) (by decide) (by decide) (by decide)
    have t := fun v h => t v σ1 τ1 fs (fun _ => ⟨_, _, _, bq, h⟩) (fun n => absurd (show (0 ≤ most ∧ most ≤ 100000) ∧ σ 84 0 < 400 ∧ (what = -1 ∨ what = -2 ∨ 0 ≤ what ∧ what < σ 84 1) by omega) n)
    simp only [if_neg e3, if_neg e4] at t
    have lp : ∀ m, 0 ≤ m → m ≤ σ 84 1 - (what + 1) → wi (d + 11) 315 76 [.ref 83, .int (wI most), .int (wI what), .int (wI (pw3 m)), .int (wI (what + 1 + m))] [] S σ1 τ1 Q := by
      refine lp_up (fun m m0 m1 ih => ?_)
      have pb := pw3_b (n := m) (by omega)
      have pp := pw3_p m
      refine u_315_76 ?_
      rw [e84]
      refine ⟨by omega, ifI (fun e => ?_) (fun e => ?_)⟩
      · have em : m = σ 84 1 - 1 - what := by omega
        subst em
        have bb : -1 ≤ σ1 83 39 ∧ σ1 83 39 < 6562 := by
          have := pw3_b (n := σ 84 1) (by omega)
          rcases bq with q | q <;> omega
        have b0 : 0 ≤ σ1 83 39 := BQ_some (by omega) (by omega) bq
        have e2 : (σ1 83 39).tdiv (pw3 (σ 84 1 - 1 - what)) = σ1 83 39 / pw3 (σ 84 1 - 1 - what) := Int.tdiv_eq_ediv_of_nonneg b0
        have e3 : 0 ≤ σ1 83 39 / pw3 (σ 84 1 - 1 - what) ∧ σ1 83 39 / pw3 (σ 84 1 - 1 - what) ≤ σ1 83 39 := ⟨Int.ediv_nonneg b0 (by omega), Int.ediv_le_self _ b0⟩
        rw [e2, Int.tmod_eq_emod_of_nonneg e3.1]
        exact ⟨by omega, by omega, by omega, t _ rfl⟩
      · have ih := ih (by omega)
        rw [pw3_s m0, Int.mul_comm, ← Int.add_assoc] at ih
        exact ih
    have := lp 0 (by omega) (by omega)
    rw [Int.add_zero] at this
    exact this
