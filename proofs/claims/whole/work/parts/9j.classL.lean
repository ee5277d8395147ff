/-! ===== a WEEK of the class: RENTS, HOMES that leave (segments printed by wip/whole, contracts own work) ===== -/
theorem rt1_Q {σ σ' : zI} {t : Nat} {B : Int → Int} {s : Int} (q : rT_Q σ t B) (hs : 0 ≤ s ∧ s < B 2 ∧ B 2 ≤ 4) (f7 : σ' (t + 7) = σ (t + 7)) (f : ∀ x c, 0 ≤ x → x < B 2 → x ≠ s ∨ c ≠ 0 ∧ c ≠ 2 → 0 ≤ c → c ≤ 4 → σ' (t + 8) (x * 5 + c) = σ (t + 8) (x * 5 + c)) (e0 : σ' (t + 8) (s * 5 + 0) = r_rt1 B s (3428 + 8 * s)) (e2 : σ' (t + 8) (s * 5 + 2) = r_rt1 B s (3428 + 8 * s + 3)) : rT_Q σ' t (r_rt1 B s) := by
  have k : ∀ k, k ≠ 3428 + 8 * s → k ≠ 3428 + 8 * s + 3 → r_rt1 B s k = B k := fun k h1 h2 => by
    unfold r_rt1
    repeat' split
    · rfl
    · rw [u1_n h1]
    · rw [u1_n h2, u1_n h1]
  refine ⟨by rw [f7, k 2 (by omega) (by omega)]; exact q.1, fun x x0 x1 => ?_⟩
  rw [k 2 (by omega) (by omega)] at x1
  have y := q.2 x x0 x1
  have ed : r_debts (r_rt1 B s) x = r_debts B x := gD (k 3 (by omega) (by omega)) (fun z z0 z1 => k z (by omega) (by omega)) x
  rw [ed, k (3428 + 8 * x + 1) (by omega) (by omega), k (3428 + 8 * x + 2) (by omega) (by omega)]
  by_cases e : x = s
  · subst e
    rw [f x 1 x0 x1 (by omega) (by omega) (by omega), f x 3 x0 x1 (by omega) (by omega) (by omega), f x 4 x0 x1 (by omega) (by omega) (by omega)]
    exact ⟨e0, y.2.1, e2, y.2.2.2⟩
  · rw [f x 0 x0 x1 (by omega) (by omega) (by omega), f x 1 x0 x1 (by omega) (by omega) (by omega), f x 2 x0 x1 (by omega) (by omega) (by omega), f x 3 x0 x1 (by omega) (by omega) (by omega), f x 4 x0 x1 (by omega) (by omega) (by omega), k (3428 + 8 * x) (by omega) (by omega), k (3428 + 8 * x + 3) (by omega) (by omega)]
    exact y
-- method 134: MillTown$Week.payRents(LMillTown$Town;)V
theorem c_134_0 : pg_cd 134 0 = (1, 1, 0, 0, 0) := by decide +kernel
theorem c_134_1 : pg_cd 134 1 = (6, 1, 0, 1, 0) := by decide +kernel
theorem c_134_2 : pg_cd 134 2 = (3, 1, 0, 1, 0) := by decide +kernel
theorem c_134_3 : pg_cd 134 3 = (5, 1, 0, 0, 0) := by decide +kernel
theorem c_134_4 : pg_cd 134 4 = (45, 8, 272, 3, 0) := by decide +kernel
theorem c_134_7 : pg_cd 134 7 = (43, 4, 121, 2, 0) := by decide +kernel
theorem c_134_10 : pg_cd 134 10 = (37, 3, 0, 3, 66) := by decide +kernel
theorem c_134_13 : pg_cd 134 13 = (5, 1, 0, 0, 0) := by decide +kernel
theorem c_134_14 : pg_cd 134 14 = (45, 8, 272, 3, 0) := by decide +kernel
theorem c_134_17 : pg_cd 134 17 = (3, 1, 0, 1, 0) := by decide +kernel
theorem c_134_18 : pg_cd 134 18 = (1, 1, 0, 0, 2) := by decide +kernel
theorem c_134_19 : pg_cd 134 19 = (80, 55, 118, 0, 0) := by decide +kernel
theorem c_134_22 : pg_cd 134 22 = (36, 3, 0, 1, 48) := by decide +kernel
theorem c_134_25 : pg_cd 134 25 = (5, 1, 0, 0, 0) := by decide +kernel
theorem c_134_26 : pg_cd 134 26 = (45, 8, 272, 3, 0) := by decide +kernel
theorem c_134_29 : pg_cd 134 29 = (3, 1, 0, 1, 0) := by decide +kernel
theorem c_134_30 : pg_cd 134 30 = (1, 1, 0, 0, 0) := by decide +kernel
theorem c_134_31 : pg_cd 134 31 = (5, 1, 0, 0, 0) := by decide +kernel
theorem c_134_32 : pg_cd 134 32 = (45, 8, 272, 3, 0) := by decide +kernel
theorem c_134_35 : pg_cd 134 35 = (3, 1, 0, 1, 0) := by decide +kernel
theorem c_134_36 : pg_cd 134 36 = (1, 1, 0, 0, 4) := by decide +kernel
theorem c_134_37 : pg_cd 134 37 = (80, 55, 118, 0, 0) := by decide +kernel
theorem c_134_40 : pg_cd 134 40 = (21, 1, 0, 0, 0) := by decide +kernel
theorem c_134_41 : pg_cd 134 41 = (80, 57, 190, 0, 0) := by decide +kernel
theorem c_134_44 : pg_cd 134 44 = (5, 1, 0, 0, 0) := by decide +kernel
theorem c_134_45 : pg_cd 134 45 = (45, 8, 272, 3, 0) := by decide +kernel
theorem c_134_48 : pg_cd 134 48 = (3, 1, 0, 1, 0) := by decide +kernel
theorem c_134_49 : pg_cd 134 49 = (1, 1, 0, 0, 2) := by decide +kernel
theorem c_134_50 : pg_cd 134 50 = (5, 1, 0, 0, 0) := by decide +kernel
theorem c_134_51 : pg_cd 134 51 = (45, 8, 272, 3, 0) := by decide +kernel
theorem c_134_54 : pg_cd 134 54 = (3, 1, 0, 1, 0) := by decide +kernel
theorem c_134_55 : pg_cd 134 55 = (1, 1, 0, 0, 0) := by decide +kernel
theorem c_134_56 : pg_cd 134 56 = (80, 55, 118, 0, 0) := by decide +kernel
theorem c_134_59 : pg_cd 134 59 = (36, 3, 0, 3, 7) := by decide +kernel
theorem c_134_62 : pg_cd 134 62 = (1, 1, 0, 0, 1) := by decide +kernel
theorem c_134_63 : pg_cd 134 63 = (38, 3, 0, 0, 4) := by decide +kernel
theorem c_134_66 : pg_cd 134 66 = (1, 1, 0, 0, 0) := by decide +kernel
theorem c_134_67 : pg_cd 134 67 = (80, 56, 171, 0, 0) := by decide +kernel
theorem c_134_70 : pg_cd 134 70 = (9, 3, 0, 1, 1) := by decide +kernel
theorem c_134_73 : pg_cd 134 73 = (38, 3, 0, 0, (-71)) := by decide +kernel
theorem c_134_76 : pg_cd 134 76 = (94, 0, 0, 0, 0) := by decide +kernel
theorem mi_134 : pg_mc 134 = 9 ∧ pg_na 134 = 1 ∧ pg_mx 134 = 2 := by decide +kernel
set_option maxRecDepth 20000 in
theorem u_134_0 {d : Nat} {S : zS} {σ τ : zI} {Q : zQ} {x0 : Nat} (hx0 : tw x0) (t : wi (d + 8) 134 2 [.ref x0, .int (wI 0)] [] S σ τ Q) : wi (d + 8) 134 0 [.ref x0, .retAddr 0] [] S σ τ Q := by
  refine i1 c_134_0 (i6 (L' := [.ref x0, .int (wI 0)]) c_134_1 rfl t)
set_option maxRecDepth 20000 in
theorem u_134_2 {d : Nat} {S : zS} {σ τ : zI} {Q : zQ} {x0 : Nat} {x1 : Int} (hx0 : tw x0) (t : (rg x1) ∧ if (σ (x0 + 7) 2) ≤ x1 then (Q none S σ τ) else (if (rt_ (σ (x0 + 7) 2) (σ (x0 + 8)) 5 2 x1) = 0 then ((0 ≤ x1 ∧ x1 < (σ (x0 + 7) 2)) ∧ ∃ w6 : Int, wI w6 = wI ((σ (x0 + 8) (x1 * 5 + 0)) + (-(rt_ (σ (x0 + 7) 2) (σ (x0 + 8)) 5 4 x1))) ∧ rg w6 ∧ if (0 : Int) ≤ (rt_ (σ (x0 + 7) 2) (u1 (σ (x0 + 8)) (x1 * 5 + 0) w6) 5 0 x1) then (wi (d + 8) 134 2 [.ref x0, .int (wI (x1 + 1))] [] S (uc σ (x0 + 8) (u1 (u1 (σ (x0 + 8)) (x1 * 5 + 0) w6) (x1 * 5 + 2) 0)) τ Q) else (wi (d + 8) 134 2 [.ref x0, .int (wI (x1 + 1))] [] S (uc σ (x0 + 8) (u1 (u1 (σ (x0 + 8)) (x1 * 5 + 0) w6) (x1 * 5 + 2) 1)) τ Q)) else (wi (d + 8) 134 2 [.ref x0, .int (wI (x1 + 1))] [] S σ τ Q))) : wi (d + 8) 134 2 [.ref x0, .int (wI x1)] [] S σ τ Q := by
  refine i3 c_134_2 rfl (i5 c_134_3 rfl (i45 c_134_4 (lo (lyt_0 hx0) (by have := tw_b hx0; omega)) (lro (lrt_3 hx0)) (wi_ok (fun K1 => ?_))))
  obtain ⟨r2, t⟩ := t
  refine i43 (v := σ (x0 + 7) 2) c_134_7 (lo (lyt_7 hx0) (by have := tw_b hx0; omega)) rfl ?_
  refine i37 c_134_10 r2 (rge_ K1 rfl) rfl (fun hc => ?_) (fun hc => ?_)
  · have t := iT t hc
    have ha3 : (σ (x0 + 7) 2) ≤ x1 := hc
    exact i94 c_134_76 t
  · have t := iF t hc
    have ha3 : ¬ ((σ (x0 + 7) 2) ≤ x1) := hc
    refine i5 c_134_13 rfl (i45 c_134_14 (lo (lyt_0 hx0) (by have := tw_b hx0; omega)) (lro (lrt_3 hx0)) (i3 c_134_17 rfl (i1 c_134_18 ?_)))
    refine i80 (As := [.int (wI x1), .int (wI 2)]) (rest := []) c_134_19 mi_55 rfl rfl (Nat.le_of_ble_eq_true rfl) (Nat.le_of_ble_eq_true rfl) (lo (lyt_7 hx0) (by have := tw_b hx0; omega)) (q_at (ow_shops hx0) r2 (by decide) ?_)
    show wi (d + 8) 134 22 [.ref x0, .int (wI x1)] [.int (wI (rt_ (σ (x0 + 7) 2) (σ (x0 + 8)) 5 2 x1))] S σ τ Q
    refine i36 c_134_22 (rg_rt_ (fun k => kO_r K1 _ k) _ _ _ _) rfl (fun hc => ?_) (fun hc => ?_)
    · have t := iF t hc
      have ha4 : ¬ ((rt_ (σ (x0 + 7) 2) (σ (x0 + 8)) 5 2 x1) = 0) := hc
      refine i9 (L' := [.ref x0, .int (wI (x1 + 1))]) c_134_70 rfl rfl (i38 c_134_73 rfl t)
    · have t := iT t (Decidable.not_not.mp hc)
      have ha4 : (rt_ (σ (x0 + 7) 2) (σ (x0 + 8)) 5 2 x1) = 0 := Decidable.not_not.mp hc
      refine i5 c_134_25 rfl (i45 c_134_26 (lo (lyt_0 hx0) (by have := tw_b hx0; omega)) (lro (lrt_3 hx0)) (i3 c_134_29 rfl (i1 c_134_30 (i5 c_134_31 rfl (i45 c_134_32 (lo (lyt_0 hx0) (by have := tw_b hx0; omega)) (lro (lrt_3 hx0)) (i3 c_134_35 rfl (i1 c_134_36 ?_)))))))
      refine i80 (As := [.int (wI x1), .int (wI 4)]) (rest := [.int (wI 0), .int (wI x1), .ref (x0 + 7)]) c_134_37 mi_55 rfl rfl (Nat.le_of_ble_eq_true rfl) (Nat.le_of_ble_eq_true rfl) (lo (lyt_7 hx0) (by have := tw_b hx0; omega)) (q_at (ow_shops hx0) r2 (by decide) ?_)
      show wi (d + 8) 134 40 [.ref x0, .int (wI x1)] [.int (wI (rt_ (σ (x0 + 7) 2) (σ (x0 + 8)) 5 4 x1)), .int (wI 0), .int (wI x1), .ref (x0 + 7)] S σ τ Q
      obtain ⟨b5, t⟩ := t
      obtain ⟨w6, e7, r8, t⟩ := t
      refine i21 c_134_40 ?_
      refine i80 (As := [.int (wI x1), .int (wI 0), .int (wI (-(rt_ (σ (x0 + 7) 2) (σ (x0 + 8)) 5 4 x1)))]) (rest := []) c_134_41 mi_57 rfl rfl (Nat.le_of_ble_eq_true rfl) (Nat.le_of_ble_eq_true rfl) (lo (lyt_7 hx0) (by have := tw_b hx0; omega)) (q_raise (v2 := w6) (ow_shops hx0) r2 b5 (by decide) e7 r8 ?_)
      show wi (d + 8) 134 44 [.ref x0, .int (wI x1)] [] S (uc σ (x0 + 8) (u1 (σ (x0 + 8)) (x1 * 5 + 0) w6)) τ Q
      refine i5 c_134_44 rfl (i45 c_134_45 (lo (lyt_0 hx0) (by have := tw_b hx0; omega)) (lro (lrt_3 hx0)) (i3 c_134_48 rfl (i1 c_134_49 (i5 c_134_50 rfl (i45 c_134_51 (lo (lyt_0 hx0) (by have := tw_b hx0; omega)) (lro (lrt_3 hx0)) (i3 c_134_54 rfl (i1 c_134_55 (wi_ok (fun K9 => ?_)))))))))
      refine i80 (As := [.int (wI x1), .int (wI 0)]) (rest := [.int (wI 2), .int (wI x1), .ref (x0 + 7)]) c_134_56 mi_55 rfl rfl (Nat.le_of_ble_eq_true rfl) (Nat.le_of_ble_eq_true rfl) (lo (lyt_7 hx0) (by have := tw_b hx0; omega)) (q_at (ow_shops hx0) r2 (by decide) ?_)
      show wi (d + 8) 134 59 [.ref x0, .int (wI x1)] [.int (wI (rt_ ((uc σ (x0 + 8) (u1 (σ (x0 + 8)) (x1 * 5 + 0) w6)) (x0 + 7) 2) ((uc σ (x0 + 8) (u1 (σ (x0 + 8)) (x1 * 5 + 0) w6)) (x0 + 8)) 5 0 x1)), .int (wI 2), .int (wI x1), .ref (x0 + 7)] S (uc σ (x0 + 8) (u1 (σ (x0 + 8)) (x1 * 5 + 0) w6)) τ Q
      refine wi_v (v := rt_ (σ (x0 + 7) 2) (u1 (σ (x0 + 8)) (x1 * 5 + 0) w6) 5 0 x1) (rt_c (congrFun (uc_ns rfl (by have := tw_b hx0; have := tw_b hx0; omega)) _) (uc_s _ _ _)) ?_
      refine i36 c_134_59 (rg_rt_ (fun k => rge_ K9 (congrFun (uc_s _ _ _) k)) _ _ _ _) rfl (fun hc => ?_) (fun hc => ?_)
      · have t := iT t hc
        have ha10 : (0 : Int) ≤ (rt_ (σ (x0 + 7) 2) (u1 (σ (x0 + 8)) (x1 * 5 + 0) w6) 5 0 x1) := hc
        refine i1 c_134_66 ?_
        refine i80 (As := [.int (wI x1), .int (wI 2), .int (wI 0)]) (rest := []) c_134_67 mi_56 rfl rfl (Nat.le_of_ble_eq_true rfl) (Nat.le_of_ble_eq_true rfl) (lo (lyt_7 hx0) (by have := tw_b hx0; omega)) (q_put (v2 := 0) (ow_shops hx0) r2 (show 0 ≤ x1 ∧ x1 < (uc σ (x0 + 8) (u1 (σ (x0 + 8)) (x1 * 5 + 0) w6)) (x0 + 7) 2 by rw [(congrFun (uc_ns rfl (by have := tw_b hx0; have := tw_b hx0; omega)) _)]; exact b5) (by decide) rfl (by decide) ?_)
        show wi (d + 8) 134 70 [.ref x0, .int (wI x1)] [] S (uc (uc σ (x0 + 8) (u1 (σ (x0 + 8)) (x1 * 5 + 0) w6)) (x0 + 8) (u1 ((uc σ (x0 + 8) (u1 (σ (x0 + 8)) (x1 * 5 + 0) w6)) (x0 + 8)) (x1 * 5 + 2) 0)) τ Q
        refine wi_s (σ1 := uc σ (x0 + 8) (u1 (u1 (σ (x0 + 8)) (x1 * 5 + 0) w6) (x1 * 5 + 2) 0)) (wr_ (uc_s _ _ _) (uc_uc _ _ _ _)) (i9 (L' := [.ref x0, .int (wI (x1 + 1))]) c_134_70 rfl rfl (i38 c_134_73 rfl t))
      · have t := iF t hc
        have ha10 : ¬ ((0 : Int) ≤ (rt_ (σ (x0 + 7) 2) (u1 (σ (x0 + 8)) (x1 * 5 + 0) w6) 5 0 x1)) := hc
        refine i1 c_134_62 (i38 c_134_63 rfl ?_)
        refine i80 (As := [.int (wI x1), .int (wI 2), .int (wI 1)]) (rest := []) c_134_67 mi_56 rfl rfl (Nat.le_of_ble_eq_true rfl) (Nat.le_of_ble_eq_true rfl) (lo (lyt_7 hx0) (by have := tw_b hx0; omega)) (q_put (v2 := 1) (ow_shops hx0) r2 (show 0 ≤ x1 ∧ x1 < (uc σ (x0 + 8) (u1 (σ (x0 + 8)) (x1 * 5 + 0) w6)) (x0 + 7) 2 by rw [(congrFun (uc_ns rfl (by have := tw_b hx0; have := tw_b hx0; omega)) _)]; exact b5) (by decide) rfl (by decide) ?_)
        show wi (d + 8) 134 70 [.ref x0, .int (wI x1)] [] S (uc (uc σ (x0 + 8) (u1 (σ (x0 + 8)) (x1 * 5 + 0) w6)) (x0 + 8) (u1 ((uc σ (x0 + 8) (u1 (σ (x0 + 8)) (x1 * 5 + 0) w6)) (x0 + 8)) (x1 * 5 + 2) 1)) τ Q
        refine wi_s (σ1 := uc σ (x0 + 8) (u1 (u1 (σ (x0 + 8)) (x1 * 5 + 0) w6) (x1 * 5 + 2) 1)) (wr_ (uc_s _ _ _) (uc_uc _ _ _ _)) (i9 (L' := [.ref x0, .int (wI (x1 + 1))]) c_134_70 rfl rfl (i38 c_134_73 rfl t))
theorem q_134 {d : Nat} {S : zS} {σ τ : zI} {Q : zQ} {tn : Nat} {b : Int → Int} (htn : tw tn) (p0 : rT_Q σ tn b) (p1 : 0 ≤ b 2 ∧ b 2 ≤ 4) (p2 : (∀ s, 0 ≤ s → s < b 2 → (-1000 ≤ b (3428 + 8 * s) ∧ b (3428 + 8 * s) ≤ 500000) ∧ (0 ≤ b (3428 + 8 * s + 2) ∧ b (3428 + 8 * s + 2) ≤ 1000) ∧ (0 ≤ b (3428 + 8 * s + 3) ∧ b (3428 + 8 * s + 3) ≤ 1))) (t : ∀ (σ1 : zI), (∀ c, c ≠ tn + 8 → σ1 c = σ c) → rT_Q σ1 tn (r_rts b (b 2)) → Q none S σ1 τ) : wc (d + 8) 134 [.ref tn] S σ τ Q := by
  have tb := tw_b htn
  have loop : ∀ s, 0 ≤ s → s ≤ b 2 → ∀ σ' : zI, (∀ c, c ≠ tn + 8 → σ' c = σ c) → rT_Q σ' tn (r_rts b s) → wi (d + 8) 134 2 [.ref tn, .int (wI s)] [] S σ' τ Q := by
    refine lp_up (fun s s0 s1 ih => ?_)
    intro σ' f q
    have rc := rts_c (b := b) (by omega) s s0 (by omega)
    have B2 : r_rts b s 2 = b 2 := rc 2 (by omega)
    have c7 : σ' (tn + 7) 2 = b 2 := by rw [q.1, B2]
    refine u_134_2 htn ?_
    rw [c7]
    refine ⟨by omega, ifI (fun e => ?_) (fun e => ?_)⟩
    · have e : s = b 2 := by omega
      subst e
      exact t σ' f q
    · have ih := ih (by omega)
      rw [r_rts_s s0] at ih
      have y := q.2 s s0 (by omega)
      rw [rc (3428 + 8 * s) (by omega), rc (3428 + 8 * s + 1) (by omega), rc (3428 + 8 * s + 2) (by omega), rc (3428 + 8 * s + 3) (by omega)] at y
      have z := p2 s s0 (by omega)
      have v2 : rt_ (b 2) (σ' (tn + 8)) 5 2 s = b (3428 + 8 * s + 3) := by rw [rt_p ⟨s0, by omega⟩]; exact y.2.2.1
      have v4 : rt_ (b 2) (σ' (tn + 8)) 5 4 s = b (3428 + 8 * s + 2) := by rw [rt_p ⟨s0, by omega⟩]; exact y.2.2.2.2
      have v0 : rt_ (b 2) (u1 (σ' (tn + 8)) (s * 5 + 0) (b (3428 + 8 * s) - b (3428 + 8 * s + 2))) 5 0 s = b (3428 + 8 * s) - b (3428 + 8 * s + 2) := by
        rw [rt_p ⟨s0, by omega⟩]
        exact u1_s _ _ _
      have r1 : r_rt1 (r_rts b s) s = if b (3428 + 8 * s + 3) = 1 then r_rts b s else if 0 ≤ b (3428 + 8 * s) - b (3428 + 8 * s + 2) then u1 (r_rts b s) (3428 + 8 * s) (b (3428 + 8 * s) - b (3428 + 8 * s + 2)) else u1 (u1 (r_rts b s) (3428 + 8 * s) (b (3428 + 8 * s) - b (3428 + 8 * s + 2))) (3428 + 8 * s + 3) 1 := by
        unfold r_rt1
        rw [rc (3428 + 8 * s) (by omega), rc (3428 + 8 * s + 2) (by omega), rc (3428 + 8 * s + 3) (by omega)]
      rw [v2, v4, y.1]
      refine ifI (fun e1 => ⟨by omega, b (3428 + 8 * s) - b (3428 + 8 * s + 2), by congr 1, by omega, ?_⟩) (fun e1 => ?_)
      · rw [v0]
        refine ifI (fun e2 => ih _ (fun c hc => by rw [uc_n hc]; exact f c hc) ?_) (fun e2 => ih _ (fun c hc => by rw [uc_n hc]; exact f c hc) ?_)
        · refine rt1_Q q ⟨s0, by omega, by omega⟩ (uc_n (by omega)) (fun x c x0 x1 hx c0 c1 => by rw [uc_s, u1_n (by omega), u1_n (by omega)]) ?_ ?_
          · rw [uc_s, u1_n (by omega), u1_s, r1, if_neg (by omega), if_pos e2, u1_s]
          · rw [uc_s, u1_s, r1, if_neg (by omega), if_pos e2, u1_n (by omega), rc _ (by omega), e1]
        · refine rt1_Q q ⟨s0, by omega, by omega⟩ (uc_n (by omega)) (fun x c x0 x1 hx c0 c1 => by rw [uc_s, u1_n (by omega), u1_n (by omega)]) ?_ ?_
          · rw [uc_s, u1_n (by omega), u1_s, r1, if_neg (by omega), if_neg e2, u1_n (by omega), u1_s]
          · rw [uc_s, u1_s, r1, if_neg (by omega), if_neg e2, u1_s]
      · rw [if_pos (by omega)] at r1
        rw [r1] at ih
        exact ih σ' f q
  exact wc_of mi_134 rfl (u_134_0 htn (loop 0 (by omega) (by omega) σ (fun _ _ => rfl) (by rw [r_rts_0]; exact p0)))
theorem q_103p {d : Nat} {S : zS} {σ τ : zI} {Q : zQ} {tn : Nat} {p : Int} {a : Int → Int} (htn : tw tn) (p0 : rT_P σ tn a) (p1 : 0 ≤ p ∧ p < a 4) (t : ∀ (σ1 : zI), fP (σ1 (tn + 12)) (r_endW a p) → (∀ c, c ≠ tn + 12 → σ1 c = σ c) → Q none S σ1 τ) : wc (d + 3) 103 [.ref tn, .int (wI p)] S σ τ Q := by
  refine wc_ok fun K => ?_
  have hc := p0.1
  have kr := kO_r K (tn + 11) 2
  rw [hc] at kr
  have h4 : a 4 ≤ 60 := by
    have := (ow_persons htn K).2.2.2.2.2.2.1
    rw [hc] at this
    omega
  have e3 : rt_ (σ (tn + 11) 2) (σ (tn + 12)) 9 3 p = a (3652 + 12 * p + 3) := by rw [rt_p ⟨p1.1, by omega⟩]; exact p0.2 p p1.1 p1.2 3 (by omega) (by omega)
  rw [hc] at e3
  refine wc_of mi_103 rfl (u_103_0 htn ⟨by omega, ?_⟩)
  unfold r_endW at t
  rw [hc, e3]
  have fin : ∀ (F b : Int → Int), fP F b → b 4 = a 4 → (fP (u1 (u1 (u1 (u1 (u1 F (p * 9 + 3) 0) (p * 9 + 4) (-1)) (p * 9 + 5) 0) (p * 9 + 6) (-1)) (p * 9 + 7) 0) (r_end1 b p)) := fun F b h e => fP_end1 h (by omega)
  by_cases c : a (3652 + 12 * p + 3) = 1
  · rw [if_pos c] at t
    rw [if_pos c]
    have key : ∀ q, 0 ≤ q → q ≤ a 4 → ∀ F, fP F (fI (r_endL p) q a) → wi (d + 3) 103 15 [.ref tn, .int (wI p), .int (wI q)] [] S (uc σ (tn + 12) F) τ Q := by
      refine lp_up (fun q h0 h1 ih => ?_)
      intro F hF
      have e4 : fI (r_endL p) q a 4 = a 4 := r_endL_n h0 (by omega)
      refine u_103_15 htn ?_
      simp only [uc_s, uc_uc, uc_n (show tn + 11 ≠ tn + 12 by omega), hc]
      refine ⟨by omega, ?_⟩
      by_cases c1 : a 4 ≤ q
      · have : q = a 4 := by omega
        subst this
        rw [if_pos (by omega)]
        refine ⟨by omega, ?_⟩
        refine t _ ?_ ?_
        · rw [uc_s]; exact fin _ _ hF e4
        · intro c hcc; rw [uc_n hcc]
      · have ih := ih (by omega)
        rw [fI_s h0] at ih
        have v3 : rt_ (a 4) F 9 3 q = fI (r_endL p) q a (3652 + 12 * q + 3) := by
          rw [rt_p ⟨h0, by omega⟩]; exact hF q h0 (by omega) 3 (by omega) (by omega)
        have v6 : rt_ (a 4) F 9 6 q = fI (r_endL p) q a (3652 + 12 * q + 6) := by
          rw [rt_p ⟨h0, by omega⟩]; exact hF q h0 (by omega) 6 (by omega) (by omega)
        rw [if_neg c1, v3, v6]
        refine ifI (fun h2 => ?_) (fun h2 => ?_)
        · refine ⟨by omega, ?_⟩
          refine ifI (fun h3 => ?_) (fun h3 => ?_)
          · refine ⟨by omega, ih _ ?_⟩
            have hq4 : 0 ≤ q ∧ q < fI (r_endL p) q a 4 := by omega
            unfold r_endL at h2 h3 ⊢
            rw [if_pos h2, if_pos h3]
            exact fP_end1 hF hq4
          · refine ih F ?_
            unfold r_endL at h2 h3 ⊢
            rw [if_pos h2, if_neg h3]
            exact hF
        · refine ih F ?_
          unfold r_endL at h2 ⊢
          rw [if_neg h2]
          exact hF
    have := key 0 (by omega) (by omega) (σ (tn + 12)) (by rw [fI_0]; exact fP_of p0)
    rw [uc_id] at this
    exact this
  · rw [if_neg c] at t
    rw [if_neg c]
    refine ⟨by omega, ?_⟩
    refine t _ ?_ ?_
    · rw [uc_s]; exact fin _ _ (fP_of p0) rfl
    · intro c hcc; rw [uc_n hcc]
-- method 136: MillTown$Week.endWorkOf(LMillTown$Town;I)V
theorem c_136_0 : pg_cd 136 0 = (1, 1, 0, 0, 0) := by decide +kernel
theorem c_136_1 : pg_cd 136 1 = (6, 1, 0, 2, 0) := by decide +kernel
theorem c_136_2 : pg_cd 136 2 = (3, 1, 0, 2, 0) := by decide +kernel
theorem c_136_3 : pg_cd 136 3 = (5, 1, 0, 0, 0) := by decide +kernel
theorem c_136_4 : pg_cd 136 4 = (45, 8, 143, 5, 0) := by decide +kernel
theorem c_136_7 : pg_cd 136 7 = (43, 4, 121, 2, 0) := by decide +kernel
theorem c_136_10 : pg_cd 136 10 = (37, 3, 0, 3, 27) := by decide +kernel
theorem c_136_13 : pg_cd 136 13 = (5, 1, 0, 0, 0) := by decide +kernel
theorem c_136_14 : pg_cd 136 14 = (45, 8, 143, 5, 0) := by decide +kernel
theorem c_136_17 : pg_cd 136 17 = (3, 1, 0, 2, 0) := by decide +kernel
theorem c_136_18 : pg_cd 136 18 = (1, 1, 0, 0, 0) := by decide +kernel
theorem c_136_19 : pg_cd 136 19 = (80, 55, 118, 0, 0) := by decide +kernel
theorem c_136_22 : pg_cd 136 22 = (3, 1, 0, 1, 0) := by decide +kernel
theorem c_136_23 : pg_cd 136 23 = (37, 3, 0, 1, 8) := by decide +kernel
theorem c_136_26 : pg_cd 136 26 = (5, 1, 0, 0, 0) := by decide +kernel
theorem c_136_27 : pg_cd 136 27 = (3, 1, 0, 2, 0) := by decide +kernel
theorem c_136_28 : pg_cd 136 28 = (80, 103, 283, 0, 0) := by decide +kernel
theorem c_136_31 : pg_cd 136 31 = (9, 3, 0, 2, 1) := by decide +kernel
theorem c_136_34 : pg_cd 136 34 = (38, 3, 0, 0, (-32)) := by decide +kernel
theorem c_136_37 : pg_cd 136 37 = (94, 0, 0, 0, 0) := by decide +kernel
theorem mi_136 : pg_mc 136 = 9 ∧ pg_na 136 = 2 ∧ pg_mx 136 = 3 := by decide +kernel
set_option maxRecDepth 20000 in
theorem u_136_0 {d : Nat} {S : zS} {σ τ : zI} {Q : zQ} {x0 : Nat} {x1 : Int} (hx0 : tw x0) (t : wi (d + 4) 136 2 [.ref x0, .int (wI x1), .int (wI 0)] [] S σ τ Q) : wi (d + 4) 136 0 [.ref x0, .int (wI x1), .retAddr 0] [] S σ τ Q := by
  refine i1 c_136_0 (i6 (L' := [.ref x0, .int (wI x1), .int (wI 0)]) c_136_1 rfl t)
set_option maxRecDepth 20000 in
theorem u_136_2 {d : Nat} {S : zS} {σ τ : zI} {Q : zQ} {x0 : Nat} {x1 : Int} {x2 : Int} (hx0 : tw x0) (t : (rg x2) ∧ if (σ (x0 + 11) 2) ≤ x2 then (Q none S σ τ) else ((rg x1) ∧ if (rt_ (σ (x0 + 11) 2) (σ (x0 + 12)) 9 0 x2) = x1 then (∃ a6 : Int → Int, (rT_P σ x0 a6) ∧ (0 ≤ x2 ∧ x2 < a6 4) ∧ ∀ (σ19 : zI), fP (σ19 (x0 + 12)) (r_endW a6 x2) → (∀ c, c ≠ x0 + 12 → σ19 c = σ c) → wi (d + 4) 136 2 [.ref x0, .int (wI x1), .int (wI (x2 + 1))] [] S σ19 τ Q) else (wi (d + 4) 136 2 [.ref x0, .int (wI x1), .int (wI (x2 + 1))] [] S σ τ Q))) : wi (d + 4) 136 2 [.ref x0, .int (wI x1), .int (wI x2)] [] S σ τ Q := by
  refine i3 c_136_2 rfl (i5 c_136_3 rfl (i45 c_136_4 (lo (lyt_0 hx0) (by have := tw_b hx0; omega)) (lro (lrt_5 hx0)) (wi_ok (fun K1 => ?_))))
  obtain ⟨r2, t⟩ := t
  refine i43 (v := σ (x0 + 11) 2) c_136_7 (lo (lyt_11 hx0) (by have := tw_b hx0; omega)) rfl ?_
  refine i37 c_136_10 r2 (rge_ K1 rfl) rfl (fun hc => ?_) (fun hc => ?_)
  · have t := iT t hc
    have ha3 : (σ (x0 + 11) 2) ≤ x2 := hc
    exact i94 c_136_37 t
  · have t := iF t hc
    have ha3 : ¬ ((σ (x0 + 11) 2) ≤ x2) := hc
    refine i5 c_136_13 rfl (i45 c_136_14 (lo (lyt_0 hx0) (by have := tw_b hx0; omega)) (lro (lrt_5 hx0)) (i3 c_136_17 rfl (i1 c_136_18 ?_)))
    refine i80 (As := [.int (wI x2), .int (wI 0)]) (rest := []) c_136_19 mi_55 rfl rfl (Nat.le_of_ble_eq_true rfl) (Nat.le_of_ble_eq_true rfl) (lo (lyt_11 hx0) (by have := tw_b hx0; omega)) (q_at (ow_persons hx0) r2 (by decide) ?_)
    show wi (d + 4) 136 22 [.ref x0, .int (wI x1), .int (wI x2)] [.int (wI (rt_ (σ (x0 + 11) 2) (σ (x0 + 12)) 9 0 x2))] S σ τ Q
    obtain ⟨r4, t⟩ := t
    refine i3 c_136_22 rfl ?_
    refine i37 c_136_23 (rg_rt_ (fun k => kO_r K1 _ k) _ _ _ _) r4 rfl (fun hc => ?_) (fun hc => ?_)
    · have t := iF t hc
      have ha5 : ¬ ((rt_ (σ (x0 + 11) 2) (σ (x0 + 12)) 9 0 x2) = x1) := hc
      refine i9 (L' := [.ref x0, .int (wI x1), .int (wI (x2 + 1))]) c_136_31 rfl rfl (i38 c_136_34 rfl t)
    · have t := iT t (Decidable.not_not.mp hc)
      have ha5 : (rt_ (σ (x0 + 11) 2) (σ (x0 + 12)) 9 0 x2) = x1 := Decidable.not_not.mp hc
      obtain ⟨a6, t⟩ := t
      obtain ⟨p7, t⟩ := t
      obtain ⟨p8, t⟩ := t
      refine i5 c_136_26 rfl (i3 c_136_27 rfl ?_)
      refine i80 (As := [.int (wI x2)]) (rest := []) c_136_28 mi_103 rfl rfl (Nat.le_of_ble_eq_true rfl) (Nat.le_of_ble_eq_true rfl) (lo (lyt_0 hx0) (by have := tw_b hx0; omega)) (q_103p (a := a6) hx0 p7 p8 (fun σ19 q10 q11 => ?_))
      have t := t σ19 q10 q11
      show wi (d + 4) 136 31 [.ref x0, .int (wI x1), .int (wI x2)] [] S σ19 τ Q
      refine i9 (L' := [.ref x0, .int (wI x1), .int (wI (x2 + 1))]) c_136_31 rfl rfl (i38 c_136_34 rfl t)
theorem q_136 {d : Nat} {S : zS} {σ τ : zI} {Q : zQ} {tn : Nat} {h : Int} {b : Int → Int} (htn : tw tn) (p0 : rT_P σ tn b) (p1 : 0 ≤ b 4 ∧ b 4 ≤ 60) (p2 : rg h) (t : ∀ (σ1 : zI), (∀ c, c ≠ tn + 12 → σ1 c = σ c) → rT_P σ1 tn (fI (r_ewP h) (b 4) b) → Q none S σ1 τ) : wc (d + 4) 136 [.ref tn, .int (wI h)] S σ τ Q := by
  have tb := tw_b htn
  have loop : ∀ p, 0 ≤ p → p ≤ b 4 → ∀ σ' : zI, (∀ c, c ≠ tn + 12 → σ' c = σ c) → rT_P σ' tn (fI (r_ewP h) p b) → wi (d + 4) 136 2 [.ref tn, .int (wI h), .int (wI p)] [] S σ' τ Q := by
    refine lp_up (fun p q0 q1 ih => ?_)
    intro σ' f q
    have ec := ewP_c (b := b) (h := h) (by omega) p q0 (by omega)
    have B4 : fI (r_ewP h) p b 4 = b 4 := ec 4 (by omega)
    have c11 : σ' (tn + 11) 2 = b 4 := by rw [q.1, B4]
    refine u_136_2 htn ?_
    rw [c11]
    refine ⟨by omega, ifI (fun e => ?_) (fun e => ?_)⟩
    · have e : p = b 4 := by omega
      subst e
      exact t σ' f q
    · have ih := ih (by omega)
      rw [fI_s q0] at ih
      have v0 : rt_ (b 4) (σ' (tn + 12)) 9 0 p = fI (r_ewP h) p b (3652 + 12 * p + 0) := by rw [rt_p ⟨q0, by omega⟩]; exact q.2 p q0 (by omega) 0 (by omega) (by omega)
      rw [v0]
      refine ⟨p2, ifI (fun e1 => ⟨_, q, ⟨q0, by omega⟩, fun σ1 hF fr => ?_⟩) (fun e1 => ?_)⟩
      · have ew : r_ewP h p (fI (r_ewP h) p b) = r_endW (fI (r_ewP h) p b) p := if_pos e1
        rw [ew] at ih
        refine ih σ1 (fun c hc => by rw [fr c hc]; exact f c hc) ⟨?_, hF⟩
        rw [fr _ (by omega), r_endW_n ⟨q0, by omega⟩ (by omega)]; exact q.1
      · have ew : r_ewP h p (fI (r_ewP h) p b) = fI (r_ewP h) p b := if_neg e1
        rw [ew] at ih
        exact ih σ' f q
  exact wc_of mi_136 rfl (u_136_0 htn (loop 0 (by omega) (by omega) σ (fun _ _ => rfl) p0))
theorem lvs_h {b : Int → Int} {w : Int} (h3 : b 3 ≤ 24) (h4 : 0 ≤ b 4 ∧ b 4 ≤ 60) : ∀ n, 0 ≤ n → n ≤ b 3 → ∀ k, 3460 ≤ k → k < 3652 → (k - 3460) % 8 ≠ 3 ∨ 3460 + 8 * n ≤ k → r_lvs b w n k = b k := by
  have key : ∀ n : Nat, (n : Int) ≤ b 3 → ∀ k, 3460 ≤ k → k < 3652 → (k - 3460) % 8 ≠ 3 ∨ 3460 + 8 * (n : Int) ≤ k → r_lvs b w n k = b k := by
    intro n
    induction n with
    | zero => intro _ k _ _ _; rfl
    | succ n ih =>
      intro hn k k0 k1 k2
      rw [show ((n + 1 : Nat) : Int) = (n : Int) + 1 by omega, r_lvs_s (by omega)]
      have i := ih (by omega) k k0 k1 (by omega)
      have i4 := lvs_c (b := b) (w := w) h3 h4 n (by omega) (by omega) 4 (by omega)
      split
      · exact i
      · split
        · have e4 : u1 (r_lvs b w n) (3460 + 8 * (n : Int) + 3) 1 4 = r_lvs b w n 4 := u1_n (by omega)
          rw [← e4, ewP_c (by omega) _ (by omega) (by omega) k (by omega), u1_n (by omega)]
          exact i
        · exact i
  intro n n0 n1
  have := key n.toNat (by omega)
  rw [Int.toNat_of_nonneg n0] at this
  exact this
/-- GONE is 0 or 1 -/
theorem lvs_g {b : Int → Int} {w : Int} (h3 : b 3 ≤ 24) (h4 : 0 ≤ b 4 ∧ b 4 ≤ 60) (g : ∀ h, 0 ≤ h → h < b 3 → 0 ≤ b (3460 + 8 * h + 3) ∧ b (3460 + 8 * h + 3) ≤ 1) : ∀ n, 0 ≤ n → n ≤ b 3 → ∀ h, 0 ≤ h → h < b 3 → 0 ≤ r_lvs b w n (3460 + 8 * h + 3) ∧ r_lvs b w n (3460 + 8 * h + 3) ≤ 1 := by
  have key : ∀ n : Nat, (n : Int) ≤ b 3 → ∀ h, 0 ≤ h → h < b 3 → 0 ≤ r_lvs b w n (3460 + 8 * h + 3) ∧ r_lvs b w n (3460 + 8 * h + 3) ≤ 1 := by
    intro n
    induction n with
    | zero => intro _ h h0 h1; exact g h h0 h1
    | succ n ih =>
      intro hn h h0 h1
      rw [show ((n + 1 : Nat) : Int) = (n : Int) + 1 by omega, r_lvs_s (by omega)]
      have i := ih (by omega) h h0 h1
      have i4 := lvs_c (b := b) (w := w) h3 h4 n (by omega) (by omega) 4 (by omega)
      split
      · exact i
      · split
        · have e4 : u1 (r_lvs b w n) (3460 + 8 * (n : Int) + 3) 1 4 = r_lvs b w n 4 := u1_n (by omega)
          rw [← e4, ewP_c (by omega) _ (by omega) (by omega) _ (by omega)]
          by_cases e : h = n
          · subst e; rw [u1_s]; omega
          · rw [u1_n (by omega)]; exact i
        · exact i
  intro n n0 n1
  have := key n.toNat (by omega)
  rw [Int.toNat_of_nonneg n0] at this
  exact this
-- method 135: MillTown$Week.leave(LMillTown$Town;LMillTown$WeekBook;)V
theorem c_135_0 : pg_cd 135 0 = (1, 1, 0, 0, 0) := by decide +kernel
theorem c_135_1 : pg_cd 135 1 = (6, 1, 0, 3, 0) := by decide +kernel
theorem c_135_2 : pg_cd 135 2 = (3, 1, 0, 3, 0) := by decide +kernel
theorem c_135_3 : pg_cd 135 3 = (5, 1, 0, 1, 0) := by decide +kernel
theorem c_135_4 : pg_cd 135 4 = (45, 8, 244, 4, 0) := by decide +kernel
theorem c_135_7 : pg_cd 135 7 = (43, 4, 121, 2, 0) := by decide +kernel
theorem c_135_10 : pg_cd 135 10 = (37, 3, 0, 3, 111) := by decide +kernel
theorem c_135_13 : pg_cd 135 13 = (3, 1, 0, 3, 0) := by decide +kernel
theorem c_135_14 : pg_cd 135 14 = (1, 2, 0, 0, 24) := by decide +kernel
theorem c_135_16 : pg_cd 135 16 = (37, 3, 0, 3, 105) := by decide +kernel
theorem c_135_19 : pg_cd 135 19 = (5, 1, 0, 1, 0) := by decide +kernel
theorem c_135_20 : pg_cd 135 20 = (45, 8, 244, 4, 0) := by decide +kernel
theorem c_135_23 : pg_cd 135 23 = (3, 1, 0, 3, 0) := by decide +kernel
theorem c_135_24 : pg_cd 135 24 = (1, 1, 0, 0, 2) := by decide +kernel
theorem c_135_25 : pg_cd 135 25 = (80, 55, 118, 0, 0) := by decide +kernel
theorem c_135_28 : pg_cd 135 28 = (36, 3, 0, 1, 16) := by decide +kernel
theorem c_135_31 : pg_cd 135 31 = (5, 1, 0, 2, 0) := by decide +kernel
theorem c_135_32 : pg_cd 135 32 = (45, 10, 251, 4, 0) := by decide +kernel
theorem c_135_35 : pg_cd 135 35 = (3, 1, 0, 3, 0) := by decide +kernel
theorem c_135_36 : pg_cd 135 36 = (50, 1, 0, 0, 0) := by decide +kernel
theorem c_135_37 : pg_cd 135 37 = (36, 3, 0, 5, 7) := by decide +kernel
theorem c_135_40 : pg_cd 135 40 = (1, 1, 0, 0, 1) := by decide +kernel
theorem c_135_41 : pg_cd 135 41 = (38, 3, 0, 0, 4) := by decide +kernel
theorem c_135_44 : pg_cd 135 44 = (1, 1, 0, 0, 0) := by decide +kernel
theorem c_135_45 : pg_cd 135 45 = (6, 2, 0, 4, 0) := by decide +kernel
theorem c_135_47 : pg_cd 135 47 = (5, 1, 0, 1, 0) := by decide +kernel
theorem c_135_48 : pg_cd 135 48 = (43, 8, 48, 8, 0) := by decide +kernel
theorem c_135_51 : pg_cd 135 51 = (1, 1, 0, 0, 3) := by decide +kernel
theorem c_135_52 : pg_cd 135 52 = (11, 1, 0, 0, 0) := by decide +kernel
theorem c_135_53 : pg_cd 135 53 = (6, 2, 0, 5, 0) := by decide +kernel
theorem c_135_55 : pg_cd 135 55 = (3, 2, 0, 5, 0) := by decide +kernel
theorem c_135_57 : pg_cd 135 57 = (5, 1, 0, 1, 0) := by decide +kernel
theorem c_135_58 : pg_cd 135 58 = (43, 8, 48, 8, 0) := by decide +kernel
theorem c_135_61 : pg_cd 135 61 = (37, 3, 0, 3, 34) := by decide +kernel
theorem c_135_64 : pg_cd 135 64 = (3, 2, 0, 4, 0) := by decide +kernel
theorem c_135_66 : pg_cd 135 66 = (36, 3, 0, 0, 20) := by decide +kernel
theorem c_135_69 : pg_cd 135 69 = (5, 1, 0, 0, 0) := by decide +kernel
theorem c_135_70 : pg_cd 135 70 = (45, 9, 21, 1, 0) := by decide +kernel
theorem c_135_73 : pg_cd 135 73 = (3, 2, 0, 5, 0) := by decide +kernel
theorem c_135_75 : pg_cd 135 75 = (3, 1, 0, 3, 0) := by decide +kernel
theorem c_135_76 : pg_cd 135 76 = (80, 4, 277, 0, 0) := by decide +kernel
theorem c_135_79 : pg_cd 135 79 = (36, 3, 0, 5, 7) := by decide +kernel
theorem c_135_82 : pg_cd 135 82 = (1, 1, 0, 0, 1) := by decide +kernel
theorem c_135_83 : pg_cd 135 83 = (38, 3, 0, 0, 4) := by decide +kernel
theorem c_135_86 : pg_cd 135 86 = (1, 1, 0, 0, 0) := by decide +kernel
theorem c_135_87 : pg_cd 135 87 = (6, 2, 0, 4, 0) := by decide +kernel
theorem c_135_89 : pg_cd 135 89 = (9, 3, 0, 5, 1) := by decide +kernel
theorem c_135_92 : pg_cd 135 92 = (38, 3, 0, 0, (-37)) := by decide +kernel
theorem c_135_95 : pg_cd 135 95 = (3, 2, 0, 4, 0) := by decide +kernel
theorem c_135_97 : pg_cd 135 97 = (36, 3, 0, 0, 18) := by decide +kernel
theorem c_135_100 : pg_cd 135 100 = (5, 1, 0, 1, 0) := by decide +kernel
theorem c_135_101 : pg_cd 135 101 = (45, 8, 244, 4, 0) := by decide +kernel
theorem c_135_104 : pg_cd 135 104 = (3, 1, 0, 3, 0) := by decide +kernel
theorem c_135_105 : pg_cd 135 105 = (1, 1, 0, 0, 2) := by decide +kernel
theorem c_135_106 : pg_cd 135 106 = (1, 1, 0, 0, 1) := by decide +kernel
theorem c_135_107 : pg_cd 135 107 = (80, 56, 171, 0, 0) := by decide +kernel
theorem c_135_110 : pg_cd 135 110 = (5, 1, 0, 1, 0) := by decide +kernel
theorem c_135_111 : pg_cd 135 111 = (3, 1, 0, 3, 0) := by decide +kernel
theorem c_135_112 : pg_cd 135 112 = (81, 136, 280, 0, 0) := by decide +kernel
theorem c_135_115 : pg_cd 135 115 = (9, 3, 0, 3, 1) := by decide +kernel
theorem c_135_118 : pg_cd 135 118 = (38, 3, 0, 0, (-116)) := by decide +kernel
theorem c_135_121 : pg_cd 135 121 = (94, 0, 0, 0, 0) := by decide +kernel
theorem mi_135 : pg_mc 135 = 9 ∧ pg_na 135 = 2 ∧ pg_mx 135 = 6 := by decide +kernel
set_option maxRecDepth 20000 in
theorem u_135_0 {d : Nat} {S : zS} {σ τ : zI} {Q : zQ} {x1 : Nat} {x2 : Nat} (hx1 : tw x1) (hx2 : oB S x2) (t : wi (d + 6) 135 2 [.ref 53, .ref x1, .ref x2, .int (wI 0), .retAddr 0, .retAddr 0] [] S σ τ Q) : wi (d + 6) 135 0 [.ref 53, .ref x1, .ref x2, .retAddr 0, .retAddr 0, .retAddr 0] [] S σ τ Q := by
  refine i1 c_135_0 (i6 (L' := [.ref 53, .ref x1, .ref x2, .int (wI 0), .retAddr 0, .retAddr 0]) c_135_1 rfl t)
set_option maxRecDepth 20000 in
theorem u_135_2 {d : Nat} {S : zS} {σ τ : zI} {Q : zQ} {x1 : Nat} {x2 : Nat} {x3 : Int} {y4 : Value} {y5 : Value} (hx1 : tw x1) (hx2 : oB S x2) (t : (rg x3) ∧ if (σ (x1 + 9) 2) ≤ x3 then (Q none S σ τ) else (if (24 : Int) ≤ x3 then (Q none S σ τ) else (if (rt_ (σ (x1 + 9) 2) (σ (x1 + 10)) 8 2 x3) = 0 then ((0 ≤ x3 ∧ x3 < 24) ∧ if (σ (x2 + 5) x3) ≤ 0 then (wi (d + 6) 135 55 [.ref 53, .ref x1, .ref x2, .int (wI x3), .int (wI 0), .int (wI ((σ x1 8) - 3))] [] S σ τ Q) else (wi (d + 6) 135 55 [.ref 53, .ref x1, .ref x2, .int (wI x3), .int (wI 1), .int (wI ((σ x1 8) - 3))] [] S σ τ Q)) else (wi (d + 6) 135 55 [.ref 53, .ref x1, .ref x2, .int (wI x3), .int (wI 0), .int (wI ((σ x1 8) - 3))] [] S σ τ Q)))) : wi (d + 6) 135 2 [.ref 53, .ref x1, .ref x2, .int (wI x3), y4, y5] [] S σ τ Q := by
  refine i3 c_135_2 rfl (i5 c_135_3 rfl (i45 c_135_4 (lo (lyt_0 hx1) (by have := tw_b hx1; omega)) (lro (lrt_4 hx1)) (wi_ok (fun K1 => ?_))))
  obtain ⟨r2, t⟩ := t
  refine i43 (v := σ (x1 + 9) 2) c_135_7 (lo (lyt_9 hx1) (by have := tw_b hx1; omega)) rfl ?_
  refine i37 c_135_10 r2 (rge_ K1 rfl) rfl (fun hc => ?_) (fun hc => ?_)
  · have t := iT t hc
    have ha3 : (σ (x1 + 9) 2) ≤ x3 := hc
    exact i94 c_135_121 t
  · have t := iF t hc
    have ha3 : ¬ ((σ (x1 + 9) 2) ≤ x3) := hc
    refine i3 c_135_13 rfl (i1 c_135_14 ?_)
    refine i37 c_135_16 r2 (by decide) rfl (fun hc => ?_) (fun hc => ?_)
    · have t := iT t hc
      have ha4 : (24 : Int) ≤ x3 := hc
      exact i94 c_135_121 t
    · have t := iF t hc
      have ha4 : ¬ ((24 : Int) ≤ x3) := hc
      refine i5 c_135_19 rfl (i45 c_135_20 (lo (lyt_0 hx1) (by have := tw_b hx1; omega)) (lro (lrt_4 hx1)) (i3 c_135_23 rfl (i1 c_135_24 ?_)))
      refine i80 (As := [.int (wI x3), .int (wI 2)]) (rest := []) c_135_25 mi_55 rfl rfl (Nat.le_of_ble_eq_true rfl) (Nat.le_of_ble_eq_true rfl) (lo (lyt_9 hx1) (by have := tw_b hx1; omega)) (q_at (ow_homes hx1) r2 (by decide) ?_)
      show wi (d + 6) 135 28 [.ref 53, .ref x1, .ref x2, .int (wI x3), y4, y5] [.int (wI (rt_ (σ (x1 + 9) 2) (σ (x1 + 10)) 8 2 x3))] S σ τ Q
      refine i36 c_135_28 (rg_rt_ (fun k => kO_r K1 _ k) _ _ _ _) rfl (fun hc => ?_) (fun hc => ?_)
      · have t := iF t hc
        have ha5 : ¬ ((rt_ (σ (x1 + 9) 2) (σ (x1 + 10)) 8 2 x3) = 0) := hc
        refine i1 c_135_44 (i6 (L' := [.ref 53, .ref x1, .ref x2, .int (wI x3), .int (wI 0), y5]) c_135_45 rfl (i5 c_135_47 rfl (i43 (v := σ x1 8) c_135_48 (lo (lyt_0 hx1) (by have := tw_b hx1; omega)) rfl (i1 c_135_51 (i11 c_135_52 (i6 (L' := [.ref 53, .ref x1, .ref x2, .int (wI x3), .int (wI 0), .int (wI ((σ x1 8) - 3))]) c_135_53 rfl t))))))
      · have t := iT t (Decidable.not_not.mp hc)
        have ha5 : (rt_ (σ (x1 + 9) 2) (σ (x1 + 10)) 8 2 x3) = 0 := Decidable.not_not.mp hc
        obtain ⟨r6, t⟩ := t
        refine i5 c_135_31 rfl (i45 c_135_32 (fun _ => oB_0 hx2) (fun _ => oB_r4 hx2) (i3 c_135_35 rfl (i50 (v := σ (x2 + 5) x3) c_135_36 (fun _ => oB_5 hx2) (by decide) r6 rfl ?_)))
        refine i36 c_135_37 (rge_ K1 rfl) rfl (fun hc => ?_) (fun hc => ?_)
        · have t := iT t hc
          have ha7 : (σ (x2 + 5) x3) ≤ 0 := hc
          refine i1 c_135_44 (i6 (L' := [.ref 53, .ref x1, .ref x2, .int (wI x3), .int (wI 0), y5]) c_135_45 rfl (i5 c_135_47 rfl (i43 (v := σ x1 8) c_135_48 (lo (lyt_0 hx1) (by have := tw_b hx1; omega)) rfl (i1 c_135_51 (i11 c_135_52 (i6 (L' := [.ref 53, .ref x1, .ref x2, .int (wI x3), .int (wI 0), .int (wI ((σ x1 8) - 3))]) c_135_53 rfl t))))))
        · have t := iF t hc
          have ha7 : ¬ ((σ (x2 + 5) x3) ≤ 0) := hc
          refine i1 c_135_40 (i38 c_135_41 rfl (i6 (L' := [.ref 53, .ref x1, .ref x2, .int (wI x3), .int (wI 1), y5]) c_135_45 rfl (i5 c_135_47 rfl (i43 (v := σ x1 8) c_135_48 (lo (lyt_0 hx1) (by have := tw_b hx1; omega)) rfl (i1 c_135_51 (i11 c_135_52 (i6 (L' := [.ref 53, .ref x1, .ref x2, .int (wI x3), .int (wI 1), .int (wI ((σ x1 8) - 3))]) c_135_53 rfl t)))))))
set_option maxRecDepth 20000 in
theorem u_135_55 {d : Nat} {S : zS} {σ τ : zI} {Q : zQ} {x1 : Nat} {x2 : Nat} {x3 : Int} {x4 : Int} {x5 : Int} (hx1 : tw x1) (hx2 : oB S x2) (t : (rg x5) ∧ if (σ x1 8) ≤ x5 then ((rg x4) ∧ if x4 = 0 then (wi (d + 6) 135 2 [.ref 53, .ref x1, .ref x2, .int (wI (x3 + 1)), .int (wI x4), .int (wI x5)] [] S σ τ Q) else ((rg x3) ∧ (0 ≤ x3 ∧ x3 < (σ (x1 + 9) 2)) ∧ ∃ b8 : Int → Int, (rT_P (uc σ (x1 + 10) (u1 (σ (x1 + 10)) (x3 * 8 + 2) 1)) x1 b8) ∧ (0 ≤ b8 4 ∧ b8 4 ≤ 60) ∧ ∀ (σ111 : zI), (∀ c, c ≠ x1 + 12 → σ111 c = (uc σ (x1 + 10) (u1 (σ (x1 + 10)) (x3 * 8 + 2) 1)) c) → rT_P σ111 x1 (fI (r_ewP x3) (b8 4) b8) → wi (d + 6) 135 2 [.ref 53, .ref x1, .ref x2, .int (wI (x3 + 1)), .int (wI x4), .int (wI x5)] [] S σ111 τ Q)) else ((rg x4) ∧ if x4 = 0 then (wi (d + 6) 135 55 [.ref 53, .ref x1, .ref x2, .int (wI x3), .int (wI 0), .int (wI (x5 + 1))] [] S σ τ Q) else ((zB S) ∧ (rg x3) ∧ (rg (eI S σ 5 x5 x3)) ∧ if (eI S σ 5 x5 x3) ≤ 0 then (wi (d + 6) 135 55 [.ref 53, .ref x1, .ref x2, .int (wI x3), .int (wI 0), .int (wI (x5 + 1))] [] S σ τ Q) else (wi (d + 6) 135 55 [.ref 53, .ref x1, .ref x2, .int (wI x3), .int (wI 1), .int (wI (x5 + 1))] [] S σ τ Q)))) : wi (d + 6) 135 55 [.ref 53, .ref x1, .ref x2, .int (wI x3), .int (wI x4), .int (wI x5)] [] S σ τ Q := by
  refine i3 c_135_55 rfl (i5 c_135_57 rfl (wi_ok (fun K1 => ?_)))
  obtain ⟨r2, t⟩ := t
  refine i43 (v := σ x1 8) c_135_58 (lo (lyt_0 hx1) (by have := tw_b hx1; omega)) rfl ?_
  refine i37 c_135_61 r2 (rge_ K1 rfl) rfl (fun hc => ?_) (fun hc => ?_)
  · have t := iT t hc
    have ha3 : (σ x1 8) ≤ x5 := hc
    obtain ⟨r4, t⟩ := t
    refine i3 c_135_95 rfl ?_
    refine i36 c_135_97 r4 rfl (fun hc => ?_) (fun hc => ?_)
    · have t := iT t hc
      have ha5 : x4 = 0 := hc
      refine i9 (L' := [.ref 53, .ref x1, .ref x2, .int (wI (x3 + 1)), .int (wI x4), .int (wI x5)]) c_135_115 rfl rfl (i38 c_135_118 rfl t)
    · have t := iF t hc
      have ha5 : ¬ (x4 = 0) := hc
      obtain ⟨r6, t⟩ := t
      obtain ⟨b7, t⟩ := t
      refine i5 c_135_100 rfl (i45 c_135_101 (lo (lyt_0 hx1) (by have := tw_b hx1; omega)) (lro (lrt_4 hx1)) (i3 c_135_104 rfl (i1 c_135_105 (i1 c_135_106 ?_))))
      refine i80 (As := [.int (wI x3), .int (wI 2), .int (wI 1)]) (rest := []) c_135_107 mi_56 rfl rfl (Nat.le_of_ble_eq_true rfl) (Nat.le_of_ble_eq_true rfl) (lo (lyt_9 hx1) (by have := tw_b hx1; omega)) (q_put (v2 := 1) (ow_homes hx1) r6 b7 (by decide) rfl (by decide) ?_)
      show wi (d + 6) 135 110 [.ref 53, .ref x1, .ref x2, .int (wI x3), .int (wI x4), .int (wI x5)] [] S (uc σ (x1 + 10) (u1 (σ (x1 + 10)) (x3 * 8 + 2) 1)) τ Q
      obtain ⟨b8, t⟩ := t
      obtain ⟨p9, t⟩ := t
      obtain ⟨p10, t⟩ := t
      refine i5 c_135_110 rfl (i3 c_135_111 rfl ?_)
      refine i81 (As := [.ref x1, .int (wI x3)]) (rest := []) c_135_112 mi_136 rfl rfl (Nat.le_of_ble_eq_true rfl) (Nat.le_of_ble_eq_true rfl) (q_136 (b := b8) hx1 p9 p10 r6 (fun σ111 q12 q13 => ?_))
      have t := t σ111 q12 q13
      show wi (d + 6) 135 115 [.ref 53, .ref x1, .ref x2, .int (wI x3), .int (wI x4), .int (wI x5)] [] S σ111 τ Q
      refine i9 (L' := [.ref 53, .ref x1, .ref x2, .int (wI (x3 + 1)), .int (wI x4), .int (wI x5)]) c_135_115 rfl rfl (i38 c_135_118 rfl t)
  · have t := iF t hc
    have ha3 : ¬ ((σ x1 8) ≤ x5) := hc
    obtain ⟨r14, t⟩ := t
    refine i3 c_135_64 rfl ?_
    refine i36 c_135_66 r14 rfl (fun hc => ?_) (fun hc => ?_)
    · have t := iT t hc
      have ha15 : x4 = 0 := hc
      refine i1 c_135_86 (i6 (L' := [.ref 53, .ref x1, .ref x2, .int (wI x3), .int (wI 0), .int (wI x5)]) c_135_87 rfl (i9 (L' := [.ref 53, .ref x1, .ref x2, .int (wI x3), .int (wI 0), .int (wI (x5 + 1))]) c_135_89 rfl rfl (i38 c_135_92 rfl t)))
    · have t := iF t hc
      have ha15 : ¬ (x4 = 0) := hc
      obtain ⟨p16, t⟩ := t
      obtain ⟨r17, t⟩ := t
      refine i5 c_135_69 rfl (i45 c_135_70 (lo (c := 53) (kd := 109) (n := 0) rfl (by decide)) (lro (c := 53) (k := 1) (j := 58) (by decide)) (i3 c_135_73 rfl (i3 c_135_75 rfl ?_)))
      refine i80 (As := [.int (wI x5), .int (wI x3)]) (rest := []) c_135_76 mi_4 rfl rfl (Nat.le_of_ble_eq_true rfl) (Nat.le_of_ble_eq_true rfl) (lo (c := 58) (kd := 100) (n := 0) rfl (by decide)) (q_4 r2 p16 r17 ?_)
      show wi (d + 6) 135 79 [.ref 53, .ref x1, .ref x2, .int (wI x3), .int (wI x4), .int (wI x5)] [.int (wI (eI S σ 5 x5 x3))] S σ τ Q
      obtain ⟨r18, t⟩ := t
      refine i36 c_135_79 r18 rfl (fun hc => ?_) (fun hc => ?_)
      · have t := iT t hc
        have ha19 : (eI S σ 5 x5 x3) ≤ 0 := hc
        refine i1 c_135_86 (i6 (L' := [.ref 53, .ref x1, .ref x2, .int (wI x3), .int (wI 0), .int (wI x5)]) c_135_87 rfl (i9 (L' := [.ref 53, .ref x1, .ref x2, .int (wI x3), .int (wI 0), .int (wI (x5 + 1))]) c_135_89 rfl rfl (i38 c_135_92 rfl t)))
      · have t := iF t hc
        have ha19 : ¬ ((eI S σ 5 x5 x3) ≤ 0) := hc
        refine i1 c_135_82 (i38 c_135_83 rfl (i6 (L' := [.ref 53, .ref x1, .ref x2, .int (wI x3), .int (wI 1), .int (wI x5)]) c_135_87 rfl (i9 (L' := [.ref 53, .ref x1, .ref x2, .int (wI x3), .int (wI 1), .int (wI (x5 + 1))]) c_135_89 rfl rfl (i38 c_135_92 rfl t))))
theorem q_135 {d : Nat} {S : zS} {σ τ : zI} {Q : zQ} {tn : Nat} {y : Nat} {b : Int → Int} (htn : tw tn) (hy : oB S y) (p0 : σ tn 8 = b 0 ∧ 0 ≤ b 0 ∧ b 0 ≤ 399) (p1 : σ (tn + 9) 2 = b 3 ∧ 0 ≤ b 3 ∧ b 3 ≤ 24) (p2 : (∀ h, 0 ≤ h → h < b 3 → σ (tn + 10) (h * 8 + 2) = b (3460 + 8 * h + 3) ∧ 0 ≤ b (3460 + 8 * h + 3) ∧ b (3460 + 8 * h + 3) ≤ 1)) (p3 : rT_P σ tn b ∧ 0 ≤ b 4 ∧ b 4 ≤ 60) (p4 : zB S) (p5 : (∀ w h, 0 ≤ w → w < b 0 → 0 ≤ h → h < 24 → eI S σ 5 w h = b (31900 + 24 * w + h) ∧ 0 ≤ b (31900 + 24 * w + h) ∧ b (31900 + 24 * w + h) ≤ 240)) (p6 : (∀ h, 0 ≤ h → h < 24 → σ (y + 5) h = b (31900 + 24 * b 0 + h) ∧ 0 ≤ b (31900 + 24 * b 0 + h))) (t : ∀ (σ1 : zI), (∀ c, c ≠ tn + 10 → c ≠ tn + 12 → σ1 c = σ c) → rT_P σ1 tn (r_lvs b (b 0) (b 3)) → (∀ k, (∀ h, 0 ≤ h → h < b 3 → k ≠ h * 8 + 2) → σ1 (tn + 10) k = σ (tn + 10) k) → (∀ h, 0 ≤ h → h < b 3 → σ1 (tn + 10) (h * 8 + 2) = r_lvs b (b 0) (b 3) (3460 + 8 * h + 3)) → Q none S σ1 τ) : wc (d + 6) 135 [.ref 53, .ref tn, .ref y] S σ τ Q := by
  have tb := tw_b htn
  have yb := oB_b hy
  have loop : ∀ n, 0 ≤ n → n ≤ b 3 → ∀ σ' : zI, (∀ c, c ≠ tn + 10 → c ≠ tn + 12 → σ' c = σ c) → rT_P σ' tn (r_lvs b (b 0) n) → (∀ k, (∀ h, 0 ≤ h → h < b 3 → k ≠ h * 8 + 2) → σ' (tn + 10) k = σ (tn + 10) k) → (∀ h, 0 ≤ h → h < b 3 → σ' (tn + 10) (h * 8 + 2) = r_lvs b (b 0) n (3460 + 8 * h + 3)) → ∀ y4 y5, wi (d + 6) 135 2 [.ref 53, .ref tn, .ref y, .int (wI n), y4, y5] [] S σ' τ Q := by
    refine lp_up (fun n n0 n1 ih => ?_)
    intro σ' f q fk g y4 y5
    have lc := lvs_c (b := b) (w := b 0) (by omega) (by omega) n n0 n1
    have B4 : r_lvs b (b 0) n 4 = b 4 := lc 4 (by omega)
    have c9 : σ' (tn + 9) 2 = b 3 := by rw [f _ (by omega) (by omega)]; exact p1.1
    have c8 : σ' tn 8 = b 0 := by rw [f _ (by omega) (by omega)]; exact p0.1
    refine u_135_2 htn hy ?_
    rw [c9]
    refine ⟨by omega, ifI (fun e => ?_) (fun e => ifI (fun e2 => by omega) (fun e2 => ?_))⟩
    · have e : n = b 3 := by omega
      subst e
      exact t σ' f q fk g
    have ih := ih (by omega)
    have gn := lvs_h (b := b) (w := b 0) (by omega) (by omega) n n0 n1 (3460 + 8 * n + 3) (by omega) (by omega) (by omega)
    have pn := p2 n n0 (by omega)
    have v2 : rt_ (b 3) (σ' (tn + 10)) 8 2 n = b (3460 + 8 * n + 3) := by
      rw [rt_p ⟨n0, by omega⟩, ← gn]; exact g n n0 (by omega)
    have hn5 := p6 n n0 (by omega)
    have y5' : σ' (y + 5) n = b (31900 + 24 * b 0 + n) := by rw [f _ (by omega) (by omega)]; exact hn5.1
    have hk : ∀ k, 31900 ≤ k → r_lvs b (b 0) n k = b k := fun k hk => lc k (by omega)
    have rs := r_lvs_s (b := b) (w := b 0) n0
    rw [gn] at rs
    have rv : r_sv (r_lvs b (b 0) n) n (b 0) = r_sv b n (b 0) := by
      unfold r_sv
      by_cases c : 0 ≤ b 0 - 3
      · rw [hk (31900 + 24 * (b 0 - 3) + n) (by omega), hk (31900 + 24 * (b 0 - 2) + n) (by omega), hk (31900 + 24 * (b 0 - 1) + n) (by omega), hk (31900 + 24 * b 0 + n) (by omega)]
      · have e1 : ∀ P : Prop, (0 ≤ b 0 - 3 ∧ P) = False := fun P => propext ⟨fun z => c z.1, fun z => z.elim⟩
        rw [e1, e1]
    have eI5 : ∀ w, eI S σ' 5 w n = eI S σ 5 w n := fun w => eI_c p4 (fun c hc => f c (by omega) (by omega))
    have hun : ∀ w, w < b 0 → eI S σ' 5 w n = (if 0 ≤ w then b (31900 + 24 * w + n) else 0) ∧ 0 ≤ eI S σ' 5 w n ∧ eI S σ' 5 w n ≤ 240 := fun w hw => by
      rw [eI5]
      by_cases c : 0 ≤ w
      · have := p5 w n c hw n0 (by omega)
        rw [if_pos c]
        exact ⟨this.1, by omega, by omega⟩
      · rw [if_neg c]
        have : eI S σ 5 w n = 0 := by unfold eI; rw [if_neg (by omega)]
        exact ⟨this, by omega, by omega⟩
    have same : ¬ (b (3460 + 8 * n + 3) = 0 ∧ r_sv b n (b 0)) → r_lvs b (b 0) (n + 1) = r_lvs b (b 0) n := fun hn => by
      rw [rs]
      by_cases c1 : b (3460 + 8 * n + 3) = 1
      · rw [if_pos c1]
      · rw [if_neg c1, if_neg (fun z => hn ⟨by omega, Eq.mp rv z⟩)]
    have zero : ¬ (b (3460 + 8 * n + 3) = 0 ∧ r_sv b n (b 0)) → ∀ i, 0 ≤ i → i ≤ 3 → wi (d + 6) 135 55 [.ref 53, .ref tn, .ref y, .int (wI n), .int (wI 0), .int (wI (b 0 - 3 + i))] [] S σ' τ Q := fun hn => by
      have er := same hn
      refine lp_up (fun i i0 i1 ih2 => ?_)
      refine u_135_55 htn hy ?_
      rw [c8]
      refine ⟨by omega, ifI (fun e3 => ⟨by decide, ifI (fun _ => ?_) (fun e4 => absurd rfl e4)⟩) (fun e3 => ⟨by decide, ifI (fun _ => ?_) (fun e4 => absurd rfl e4)⟩)⟩
      · exact ih σ' f (by rw [er]; exact q) fk (by rw [er]; exact g) _ _
      · have := ih2 (by omega)
        rw [show b 0 - 3 + (i + 1) = b 0 - 3 + i + 1 by omega] at this
        exact this
    have one : ∀ j : Nat, j ≤ 3 → b (3460 + 8 * n + 3) = 0 → b (31900 + 24 * b 0 + n) ≠ 0 → (∀ w, b 0 - 3 ≤ w → w < b 0 - j → 0 ≤ w ∧ b (31900 + 24 * w + n) ≠ 0) → wi (d + 6) 135 55 [.ref 53, .ref tn, .ref y, .int (wI n), .int (wI 1), .int (wI (b 0 - j))] [] S σ' τ Q := by
      intro j
      induction j with
      | zero =>
        intro _ g0 h0 hw
        have a1 := hw (b 0 - 1) (by omega) (by omega)
        have a2 := hw (b 0 - 2) (by omega) (by omega)
        have a3 := hw (b 0 - 3) (by omega) (by omega)
        have sv : r_sv b n (b 0) := ⟨a3.1, a3.2, a2.2, a1.2, h0⟩
        rw [if_neg (by omega), if_pos (Eq.mpr rv sv), B4] at rs
        refine u_135_55 htn hy ?_
        rw [c8]
        refine ⟨by omega, ifI (fun e3 => ⟨by decide, ifI (fun e4 => absurd e4 (by decide)) (fun _ => ⟨by omega, by omega, u1 (r_lvs b (b 0) n) (3460 + 8 * n + 3) 1, ?_, ?_, fun σ1 fr q1 => ?_⟩)⟩) (fun e3 => by omega)⟩
        · refine ⟨by rw [uc_n (by omega), u1_n (by omega)]; exact q.1, fun p r0 r1 k k0 k1 => ?_⟩
          rw [u1_n (by omega), B4] at r1
          rw [uc_n (by omega), u1_n (by omega)]
          exact q.2 p r0 (by omega) k k0 k1
        · rw [u1_n (by omega)]; omega
        · rw [u1_n (by omega), B4, ← rs] at q1
          refine ih σ1 (fun c h1 h2 => by rw [fr c h2, uc_n h1]; exact f c h1 h2) q1 (fun k hk2 => ?_) (fun h x0 x1 => ?_) _ _
          · rw [fr _ (by omega), uc_s, u1_n (hk2 n n0 (by omega))]; exact fk k hk2
          · rw [fr _ (by omega), uc_s, rs]
            have e4 : u1 (r_lvs b (b 0) n) (3460 + 8 * n + 3) 1 4 = b 4 := by rw [u1_n (by omega)]; exact B4
            rw [← e4, ewP_c (by omega) _ (by omega) (by omega) _ (by omega)]
            by_cases ex : h = n
            · subst ex; rw [u1_s, u1_s]
            · rw [u1_n (by omega), u1_n (by omega)]; exact g h x0 x1
      | succ j ihj =>
        intro hj g0 h0 hw
        obtain ⟨w, hw1⟩ : ∃ w, w = b 0 - ((j + 1 : Nat) : Int) := ⟨_, rfl⟩
        rw [← hw1]
        have hv := hun w (by omega)
        refine u_135_55 htn hy ?_
        rw [c8]
        refine ⟨by omega, ifI (fun e3 => by omega) (fun e3 => ⟨by decide, ifI (fun e4 => absurd e4 (by decide)) (fun _ => ⟨p4, by omega, by omega, ifI (fun e5 => ?_) (fun e5 => ?_)⟩)⟩)⟩
        · have z : ¬ (b (3460 + 8 * n + 3) = 0 ∧ r_sv b n (b 0)) := fun z => by
            obtain ⟨_, s0, s1, s2, s3, s4⟩ := z
            have hv1 := hv.1
            rw [if_pos (by omega)] at hv1
            rcases (show w = b 0 - 3 ∨ w = b 0 - 2 ∨ w = b 0 - 1 by omega) with e | e | e
            · rw [e] at hv1 hv e5; omega
            · rw [e] at hv1 hv e5; omega
            · rw [e] at hv1 hv e5; omega
          have := zero z (3 - (j : Int)) (by omega) (by omega)
          rw [show b 0 - 3 + (3 - (j : Int)) = w + 1 by omega] at this
          exact this
        · have := ihj (by omega) g0 h0 (fun v v0 v1 => ?_)
          · rw [show b 0 - (j : Int) = w + 1 by omega] at this
            exact this
          · by_cases c : v = w
            · subst c
              have hv1 := hv.1
              by_cases c0 : 0 ≤ v
              · rw [if_pos c0] at hv1; exact ⟨c0, by omega⟩
              · rw [if_neg c0] at hv1; omega
            · exact hw v v0 (by omega)
    rw [v2, y5', c8]
    have z0 : ¬ (b (3460 + 8 * n + 3) = 0 ∧ r_sv b n (b 0)) → wi (d + 6) 135 55 [.ref 53, .ref tn, .ref y, .int (wI n), .int (wI 0), .int (wI (b 0 - 3))] [] S σ' τ Q := fun z => by
      have := zero z 0 (by omega) (by omega)
      rw [Int.add_zero] at this
      exact this
    refine ifI (fun e3 => ⟨by omega, ifI (fun e4 => z0 (fun z => z.2.2.2.2.2 (by omega))) (fun e4 => ?_)⟩) (fun e3 => z0 (fun z => e3 z.1))
    exact one 3 (by omega) e3 (by omega) (fun v v0 v1 => by omega)
  exact wc_of mi_135 rfl (u_135_0 htn hy (loop 0 (by omega) (by omega) σ (fun _ _ _ => rfl) (by rw [r_lvs_0]; exact p3.1) (fun _ _ => rfl) (fun h x0 x1 => (p2 h x0 x1).1) _ _))
