/-! ===== half time shared: the class (segments printed by wip/whole, contracts own work) ===== -/
theorem q_71s {d : Nat} {S : zS} {σ τ : zI} {Q : zQ} {tn : Nat} {k : Int} {before : Int} {a : Int → Int} {most : Int} (htn : tw tn) (p0 : k = (0 : Int) ∧ before = (0 : Int)) (p1 : RT σ tn a) (p2 : Jv a) (p3 : jv_T a) (p4 : 0 ≤ most ∧ most ≤ 100000) (p5 : SC σ τ a most) (p6 : (∀ h, 0 ≤ h → h < 24 → τ 70 h = 0)) (p7 : σ 67 10 = 25 ∧ σ 67 11 = -1) (t : ∀ (σ1 : zI) (τ1 : zI), FZ σ σ1 τ τ1 0 → BZ σ1 a most (pw3 (a 1)) → Q none S σ1 τ1) : wc (d + 17) 71 [.ref 67, .ref (tn + 5), .int (wI k), .int (wI before)] S σ τ Q := by
  have hC := jC p2
  unfold jv_C at hC
  obtain ⟨rfl, rfl⟩ := p0
  have e : d + 17 = (d + (8 - (a 1).toNat)) + 9 + (a 1).toNat := by omega
  rw [e]
  have tz : ((a 1).toNat : Int) = a 1 := Int.toNat_of_nonneg (by omega)
  refine q_srch htn p2 p3 p4 (a 1).toNat (d + (8 - (a 1).toNat)) 0 0 0 σ τ Q (by omega) (by omega) (by omega) rfl p4.1 p1 p5 ⟨fun m a0 a1 => by omega, fun h h0 h1 => ?_, fun m a0 a1 => by omega⟩ ⟨-1, Or.inl ⟨rfl, fun q' a0 a1 => by rw [Int.zero_mul] at a1; omega⟩, fun _ => p7, fun h => by omega⟩ (fun σ2 τ2 f b => t σ2 τ2 f ?_)
  · rw [Int.zero_mul, Int.zero_add]; exact p6 h h0 h1
  · rw [tz, Int.zero_add, Int.one_mul] at b; exact b
-- method 64: MillTown$Sharing.fillNeeds(LMillTown$Town;)V
theorem c_64_0 : pg_cd 64 0 = (5, 1, 0, 1, 0) := by decide +kernel
theorem c_64_1 : pg_cd 64 1 = (1, 1, 0, 0, 1) := by decide +kernel
theorem c_64_2 : pg_cd 64 2 = (5, 1, 0, 1, 0) := by decide +kernel
theorem c_64_3 : pg_cd 64 3 = (43, 8, 97, 8, 0) := by decide +kernel
theorem c_64_6 : pg_cd 64 6 = (80, 90, 100, 0, 0) := by decide +kernel
theorem c_64_9 : pg_cd 64 9 = (6, 1, 0, 2, 0) := by decide +kernel
theorem c_64_10 : pg_cd 64 10 = (5, 1, 0, 0, 0) := by decide +kernel
theorem c_64_11 : pg_cd 64 11 = (45, 5, 37, 8, 0) := by decide +kernel
theorem c_64_14 : pg_cd 64 14 = (2, 1, 0, 0, 0) := by decide +kernel
theorem c_64_15 : pg_cd 64 15 = (81, 328, 58, 0, 0) := by decide +kernel
theorem c_64_18 : pg_cd 64 18 = (1, 1, 0, 0, 0) := by decide +kernel
theorem c_64_19 : pg_cd 64 19 = (6, 1, 0, 3, 0) := by decide +kernel
theorem c_64_20 : pg_cd 64 20 = (3, 1, 0, 3, 0) := by decide +kernel
theorem c_64_21 : pg_cd 64 21 = (5, 1, 0, 1, 0) := by decide +kernel
theorem c_64_22 : pg_cd 64 22 = (45, 8, 103, 4, 0) := by decide +kernel
theorem c_64_25 : pg_cd 64 25 = (43, 4, 73, 2, 0) := by decide +kernel
theorem c_64_28 : pg_cd 64 28 = (37, 3, 0, 3, 46) := by decide +kernel
theorem c_64_31 : pg_cd 64 31 = (3, 1, 0, 3, 0) := by decide +kernel
theorem c_64_32 : pg_cd 64 32 = (1, 2, 0, 0, 24) := by decide +kernel
theorem c_64_34 : pg_cd 64 34 = (37, 3, 0, 3, 40) := by decide +kernel
theorem c_64_37 : pg_cd 64 37 = (5, 1, 0, 1, 0) := by decide +kernel
theorem c_64_38 : pg_cd 64 38 = (45, 8, 103, 4, 0) := by decide +kernel
theorem c_64_41 : pg_cd 64 41 = (3, 1, 0, 3, 0) := by decide +kernel
theorem c_64_42 : pg_cd 64 42 = (1, 1, 0, 0, 2) := by decide +kernel
theorem c_64_43 : pg_cd 64 43 = (80, 55, 78, 0, 0) := by decide +kernel
theorem c_64_46 : pg_cd 64 46 = (36, 3, 0, 1, 22) := by decide +kernel
theorem c_64_49 : pg_cd 64 49 = (5, 1, 0, 0, 0) := by decide +kernel
theorem c_64_50 : pg_cd 64 50 = (45, 5, 37, 8, 0) := by decide +kernel
theorem c_64_53 : pg_cd 64 53 = (3, 1, 0, 3, 0) := by decide +kernel
theorem c_64_54 : pg_cd 64 54 = (5, 1, 0, 1, 0) := by decide +kernel
theorem c_64_55 : pg_cd 64 55 = (45, 8, 103, 4, 0) := by decide +kernel
theorem c_64_58 : pg_cd 64 58 = (3, 1, 0, 3, 0) := by decide +kernel
theorem c_64_59 : pg_cd 64 59 = (1, 1, 0, 0, 3) := by decide +kernel
theorem c_64_60 : pg_cd 64 60 = (80, 55, 78, 0, 0) := by decide +kernel
theorem c_64_63 : pg_cd 64 63 = (31, 1, 0, 0, 0) := by decide +kernel
theorem c_64_64 : pg_cd 64 64 = (3, 1, 0, 2, 0) := by decide +kernel
theorem c_64_65 : pg_cd 64 65 = (31, 1, 0, 0, 0) := by decide +kernel
theorem c_64_66 : pg_cd 64 66 = (24, 1, 0, 0, 0) := by decide +kernel
theorem c_64_67 : pg_cd 64 67 = (56, 1, 0, 0, 0) := by decide +kernel
theorem c_64_68 : pg_cd 64 68 = (9, 3, 0, 3, 1) := by decide +kernel
theorem c_64_71 : pg_cd 64 71 = (38, 3, 0, 0, (-51)) := by decide +kernel
theorem c_64_74 : pg_cd 64 74 = (94, 0, 0, 0, 0) := by decide +kernel
theorem mi_64 : pg_mc 64 = 5 ∧ pg_na 64 = 1 ∧ pg_mx 64 = 4 := by decide +kernel
set_option maxRecDepth 20000 in
theorem u_64_0 {d : Nat} {S : zS} {σ τ : zI} {Q : zQ} {x1 : Nat} (hx1 : tw x1) (t : ∃ a2 : Int → Int, (RT σ x1 a2) ∧ (((0 : Int) ≤ 1 ∧ 1 ≤ (7 : Int)) ∧ (-1 : Int) ≤ (σ x1 8) ∧ (σ x1 8) ≤ (399 : Int)) ∧ (rj 0) ∧ wi (d + 2) 64 20 [.ref 67, .ref x1, .int (wI (r_pr a2 1 (σ x1 8))), .int (wI 0)] [] S σ (uc τ 76 (fl_ ((τ 76)) 0 24 0)) Q) : wi (d + 2) 64 0 [.ref 67, .ref x1, .retAddr 0, .retAddr 0] [] S σ τ Q := by
  refine i5 c_64_0 rfl (i1 c_64_1 (i5 c_64_2 rfl (wi_ok (fun K1 => ?_))))
  obtain ⟨a2, t⟩ := t
  obtain ⟨p3, t⟩ := t
  obtain ⟨p4, t⟩ := t
  refine i43 (v := σ x1 8) c_64_3 (lo (lyt_0 hx1) (by have := tw_b hx1; omega)) rfl ?_
  refine i80 (As := [.int (wI 1), .int (wI (σ x1 8))]) (rest := []) c_64_6 mi_90 rfl rfl (Nat.le_of_ble_eq_true rfl) (Nat.le_of_ble_eq_true rfl) (lo (lyt_0 hx1) (by have := tw_b hx1; omega)) (q_90i (a := a2) hx1 p3 p4 ?_)
  show wi (d + 2) 64 9 [.ref 67, .ref x1, .retAddr 0, .retAddr 0] [.int (wI (r_pr a2 1 (σ x1 8)))] S σ τ Q
  obtain ⟨p5, t⟩ := t
  refine i6 (L' := [.ref 67, .ref x1, .int (wI (r_pr a2 1 (σ x1 8))), .retAddr 0]) c_64_9 rfl (i5 c_64_10 rfl (i45 c_64_11 (lo (c := 67) (kd := 105) (n := 0) rfl (by decide)) (lro (c := 67) (k := 8) (j := 76) (by decide)) (i2 c_64_14 ?_)))
  refine i81 (As := [.ref 76, .long (wJ 0)]) (rest := []) c_64_15 mi_328 rfl rfl (Nat.le_of_ble_eq_true rfl) (Nat.le_of_ble_eq_true rfl) (q_328 ⟨fun _ _ => (lo (c := 76) (kd := 1) (n := 24) rfl (by decide)), (by decide)⟩ (by decide) p5 ?_)
  show wi (d + 2) 64 18 [.ref 67, .ref x1, .int (wI (r_pr a2 1 (σ x1 8))), .retAddr 0] [] S σ (uc τ 76 (fl_ ((τ 76)) 0 24 0)) Q
  refine i1 c_64_18 (i6 (L' := [.ref 67, .ref x1, .int (wI (r_pr a2 1 (σ x1 8))), .int (wI 0)]) c_64_19 rfl t)
set_option maxRecDepth 20000 in
theorem u_64_20 {d : Nat} {S : zS} {σ τ : zI} {Q : zQ} {x1 : Nat} {x2 : Int} {x3 : Int} (hx1 : tw x1) (t : (rg x3) ∧ if (σ (x1 + 9) 2) ≤ x3 then (Q none S σ τ) else (if (24 : Int) ≤ x3 then (Q none S σ τ) else (if (rt_ (σ (x1 + 9) 2) (σ (x1 + 10)) 8 2 x3) = 0 then ((rg x2) ∧ (0 ≤ x3 ∧ x3 < 24) ∧ ∃ w8 : Int, wJ w8 = wJ ((rt_ (σ (x1 + 9) 2) (σ (x1 + 10)) 8 3 x3) * x2) ∧ rj w8 ∧ wi (d + 2) 64 20 [.ref 67, .ref x1, .int (wI x2), .int (wI (x3 + 1))] [] S σ (uc τ 76 (u1 (τ 76) x3 w8)) Q) else (wi (d + 2) 64 20 [.ref 67, .ref x1, .int (wI x2), .int (wI (x3 + 1))] [] S σ τ Q)))) : wi (d + 2) 64 20 [.ref 67, .ref x1, .int (wI x2), .int (wI x3)] [] S σ τ Q := by
  refine i3 c_64_20 rfl (i5 c_64_21 rfl (i45 c_64_22 (lo (lyt_0 hx1) (by have := tw_b hx1; omega)) (lro (lrt_4 hx1)) (wi_ok (fun K1 => ?_))))
  obtain ⟨r2, t⟩ := t
  refine i43 (v := σ (x1 + 9) 2) c_64_25 (lo (lyt_9 hx1) (by have := tw_b hx1; omega)) rfl ?_
  refine i37 c_64_28 r2 (rge_ K1 rfl) rfl (fun hc => ?_) (fun hc => ?_)
  · have t := iT t hc
    have ha3 : (σ (x1 + 9) 2) ≤ x3 := hc
    exact i94 c_64_74 t
  · have t := iF t hc
    have ha3 : ¬ ((σ (x1 + 9) 2) ≤ x3) := hc
    refine i3 c_64_31 rfl (i1 c_64_32 ?_)
    refine i37 c_64_34 r2 (by decide) rfl (fun hc => ?_) (fun hc => ?_)
    · have t := iT t hc
      have ha4 : (24 : Int) ≤ x3 := hc
      exact i94 c_64_74 t
    · have t := iF t hc
      have ha4 : ¬ ((24 : Int) ≤ x3) := hc
      refine i5 c_64_37 rfl (i45 c_64_38 (lo (lyt_0 hx1) (by have := tw_b hx1; omega)) (lro (lrt_4 hx1)) (i3 c_64_41 rfl (i1 c_64_42 ?_)))
      refine i80 (As := [.int (wI x3), .int (wI 2)]) (rest := []) c_64_43 mi_55 rfl rfl (Nat.le_of_ble_eq_true rfl) (Nat.le_of_ble_eq_true rfl) (lo (lyt_9 hx1) (by have := tw_b hx1; omega)) (q_at (ow_homes hx1) r2 (by decide) ?_)
      show wi (d + 2) 64 46 [.ref 67, .ref x1, .int (wI x2), .int (wI x3)] [.int (wI (rt_ (σ (x1 + 9) 2) (σ (x1 + 10)) 8 2 x3))] S σ τ Q
      refine i36 c_64_46 (rg_rt_ (fun k => kO_r K1 _ k) _ _ _ _) rfl (fun hc => ?_) (fun hc => ?_)
      · have t := iF t hc
        have ha5 : ¬ ((rt_ (σ (x1 + 9) 2) (σ (x1 + 10)) 8 2 x3) = 0) := hc
        refine i9 (L' := [.ref 67, .ref x1, .int (wI x2), .int (wI (x3 + 1))]) c_64_68 rfl rfl (i38 c_64_71 rfl t)
      · have t := iT t (Decidable.not_not.mp hc)
        have ha5 : (rt_ (σ (x1 + 9) 2) (σ (x1 + 10)) 8 2 x3) = 0 := Decidable.not_not.mp hc
        refine i5 c_64_49 rfl (i45 c_64_50 (lo (c := 67) (kd := 105) (n := 0) rfl (by decide)) (lro (c := 67) (k := 8) (j := 76) (by decide)) (i3 c_64_53 rfl (i5 c_64_54 rfl (i45 c_64_55 (lo (lyt_0 hx1) (by have := tw_b hx1; omega)) (lro (lrt_4 hx1)) (i3 c_64_58 rfl (i1 c_64_59 ?_))))))
        refine i80 (As := [.int (wI x3), .int (wI 3)]) (rest := [.int (wI x3), .ref 76]) c_64_60 mi_55 rfl rfl (Nat.le_of_ble_eq_true rfl) (Nat.le_of_ble_eq_true rfl) (lo (lyt_9 hx1) (by have := tw_b hx1; omega)) (q_at (ow_homes hx1) r2 (by decide) ?_)
        show wi (d + 2) 64 63 [.ref 67, .ref x1, .int (wI x2), .int (wI x3)] [.int (wI (rt_ (σ (x1 + 9) 2) (σ (x1 + 10)) 8 3 x3)), .int (wI x3), .ref 76] S σ τ Q
        obtain ⟨r6, t⟩ := t
        obtain ⟨r7, t⟩ := t
        obtain ⟨w8, e9, r10, t⟩ := t
        refine i31 c_64_63 (rg_rt_ (fun k => kO_r K1 _ k) _ _ _ _) (i3 c_64_64 rfl (i31 c_64_65 r6 (i24 c_64_66 (i56 (τ1 := uc τ 76 (u1 (τ 76) x3 w8)) c_64_67 (lo (c := 76) (kd := 1) (n := 24) rfl (by decide)) (by decide) r7 e9 r10 (wr_ rfl rfl) (i9 (L' := [.ref 67, .ref x1, .int (wI x2), .int (wI (x3 + 1))]) c_64_68 rfl rfl (i38 c_64_71 rfl t))))))
def FN (τ τ1 : zI) (a : Int → Int) : Prop := (∀ c, c ≠ 76 → τ1 c = τ c) ∧ ∀ h, 0 ≤ h → h < 24 → τ1 76 h = c_nd a h
def FP (σ σ1 τ τ1 : zI) (a : Int → Int) : Prop := (∀ c, c ≠ 54 → c ≠ 73 → σ1 c = σ c) ∧ (∀ k, k < 3 ∨ 4 < k → σ1 54 k = σ 54 k) ∧ (∀ c, c ≠ 56 → c ≠ 57 → τ1 c = τ c) ∧ ∀ m, 0 ≤ m → m < a 1 → σ1 73 m = s_py a m
theorem q_64 {d : Nat} {S : zS} {σ τ : zI} {Q : zQ} {tn : Nat} {a : Int → Int} (htn : tw tn) (p0 : RT σ tn a) (p1 : Jv a) (p2 : a 0 ≤ 399) (t : ∀ (τ1 : zI), FN τ τ1 a → Q none S σ τ1) : wc (d + 2) 64 [.ref 67, .ref tn] S σ τ Q := by
  have hC := jC p1
  unfold jv_C at hC
  have lb := r_pr_b (jW p1) (what := 1) (w := a 0) (by omega) (by omega)
  have c0 : σ tn 8 = a 0 := (tS p0).1
  have cn := cH p0
  refine wc_of mi_64 rfl (u_64_0 htn ?_)
  rw [c0]
  refine ⟨a, p0, by omega, by decide, ?_⟩
  have key : ∀ h, 0 ≤ h → h ≤ a 3 → ∀ τ', (∀ c, c ≠ 76 → τ' c = τ c) → (∀ k, 0 ≤ k → k < 24 → τ' 76 k = if k < h then c_nd a k else 0) → wi (d + 2) 64 20 [.ref 67, .ref tn, .int (wI (r_pr a 1 (a 0))), .int (wI h)] [] S σ τ' Q := by
    refine lp_up (fun h h0 h1 ih => ?_)
    intro τ' f1 f2
    refine u_64_20 htn ?_
    have v2 := fun q => vH2 p0 (r := h) q
    have v3 := fun q => vH3 p0 (r := h) q
    rw [cn] at v2 v3 ⊢
    refine ⟨by omega, ifI (fun e => ?_) (fun e => ?_)⟩
    · refine t τ' ⟨f1, fun k k0 k1 => ?_⟩
      rw [f2 k k0 k1]
      by_cases c : k < h
      · rw [if_pos c]
      · rw [if_neg c]
        unfold c_nd
        rw [if_neg (by omega)]
    · rw [if_neg (by omega), v2 (by omega), v3 (by omega)]
      have nb := r_need_b (a := a) (h := h) (by omega)
      have mb : 0 ≤ r_need a h * r_pr a 1 (a 0) ∧ r_need a h * r_pr a 1 (a 0) ≤ 240 * 100000 := ⟨Int.mul_nonneg nb.1 (by omega), Int.mul_le_mul nb.2 lb.2 (by omega) (by omega)⟩
      refine ifI (fun e2 => ⟨by omega, by omega, _, rfl, by omega, ih (by omega) _ (fun c hc => by rw [uc_n hc]; exact f1 c hc) (fun k k0 k1 => ?_)⟩) (fun e2 => ih (by omega) _ f1 (fun k k0 k1 => ?_))
      · rw [uc_s]
        by_cases c : k = h
        · subst c
          rw [u1_s, if_pos (by omega)]
          unfold c_nd
          rw [if_pos ⟨by omega, e2⟩]
        · rw [u1_n c, f2 k k0 k1]
          by_cases c2 : k < h
          · rw [if_pos c2, if_pos (by omega)]
          · rw [if_neg c2, if_neg (by omega)]
      · rw [f2 k k0 k1]
        by_cases c : k = h
        · subst c
          rw [if_neg (by omega), if_pos (by omega)]
          unfold c_nd
          rw [if_neg (fun x => e2 x.2)]
        · by_cases c2 : k < h
          · rw [if_pos c2, if_pos (by omega)]
          · rw [if_neg c2, if_neg (by omega)]
  refine key 0 (by omega) (by omega) _ (fun c hc => uc_n hc) (fun k k0 k1 => ?_)
  rw [uc_s, fl_in k0 (by omega), if_neg (by omega)]
-- method 65: MillTown$Sharing.fillPays(LMillTown$Town;LMillTown$Law;)V
theorem c_65_0 : pg_cd 65 0 = (1, 1, 0, 0, 0) := by decide +kernel
theorem c_65_1 : pg_cd 65 1 = (6, 1, 0, 3, 0) := by decide +kernel
theorem c_65_2 : pg_cd 65 2 = (3, 1, 0, 3, 0) := by decide +kernel
theorem c_65_3 : pg_cd 65 3 = (5, 1, 0, 1, 0) := by decide +kernel
theorem c_65_4 : pg_cd 65 4 = (45, 8, 82, 2, 0) := by decide +kernel
theorem c_65_7 : pg_cd 65 7 = (43, 4, 73, 2, 0) := by decide +kernel
theorem c_65_10 : pg_cd 65 10 = (37, 3, 0, 3, 59) := by decide +kernel
theorem c_65_13 : pg_cd 65 13 = (3, 1, 0, 3, 0) := by decide +kernel
theorem c_65_14 : pg_cd 65 14 = (1, 2, 0, 0, 8) := by decide +kernel
theorem c_65_16 : pg_cd 65 16 = (37, 3, 0, 3, 53) := by decide +kernel
theorem c_65_19 : pg_cd 65 19 = (5, 1, 0, 1, 0) := by decide +kernel
theorem c_65_20 : pg_cd 65 20 = (45, 8, 82, 2, 0) := by decide +kernel
theorem c_65_23 : pg_cd 65 23 = (3, 1, 0, 3, 0) := by decide +kernel
theorem c_65_24 : pg_cd 65 24 = (1, 2, 0, 0, 6) := by decide +kernel
theorem c_65_26 : pg_cd 65 26 = (80, 55, 78, 0, 0) := by decide +kernel
theorem c_65_29 : pg_cd 65 29 = (6, 2, 0, 4, 0) := by decide +kernel
theorem c_65_31 : pg_cd 65 31 = (5, 1, 0, 0, 0) := by decide +kernel
theorem c_65_32 : pg_cd 65 32 = (45, 5, 28, 5, 0) := by decide +kernel
theorem c_65_35 : pg_cd 65 35 = (3, 1, 0, 3, 0) := by decide +kernel
theorem c_65_36 : pg_cd 65 36 = (3, 2, 0, 4, 0) := by decide +kernel
theorem c_65_38 : pg_cd 65 38 = (1, 1, 0, 0, (-1)) := by decide +kernel
theorem c_65_39 : pg_cd 65 39 = (37, 3, 0, 1, 7) := by decide +kernel
theorem c_65_42 : pg_cd 65 42 = (1, 1, 0, 0, 0) := by decide +kernel
theorem c_65_43 : pg_cd 65 43 = (38, 3, 0, 0, 19) := by decide +kernel
theorem c_65_46 : pg_cd 65 46 = (5, 1, 0, 2, 0) := by decide +kernel
theorem c_65_47 : pg_cd 65 47 = (5, 1, 0, 1, 0) := by decide +kernel
theorem c_65_48 : pg_cd 65 48 = (3, 2, 0, 4, 0) := by decide +kernel
theorem c_65_50 : pg_cd 65 50 = (3, 1, 0, 3, 0) := by decide +kernel
theorem c_65_51 : pg_cd 65 51 = (5, 1, 0, 1, 0) := by decide +kernel
theorem c_65_52 : pg_cd 65 52 = (43, 8, 97, 8, 0) := by decide +kernel
theorem c_65_55 : pg_cd 65 55 = (5, 1, 0, 1, 0) := by decide +kernel
theorem c_65_56 : pg_cd 65 56 = (43, 8, 97, 8, 0) := by decide +kernel
theorem c_65_59 : pg_cd 65 59 = (80, 19, 106, 0, 0) := by decide +kernel
theorem c_65_62 : pg_cd 65 62 = (54, 1, 0, 0, 0) := by decide +kernel
theorem c_65_63 : pg_cd 65 63 = (9, 3, 0, 3, 1) := by decide +kernel
theorem c_65_66 : pg_cd 65 66 = (38, 3, 0, 0, (-64)) := by decide +kernel
theorem c_65_69 : pg_cd 65 69 = (94, 0, 0, 0, 0) := by decide +kernel
theorem mi_65 : pg_mc 65 = 5 ∧ pg_na 65 = 2 ∧ pg_mx 65 = 5 := by decide +kernel
set_option maxRecDepth 20000 in
theorem u_65_0 {d : Nat} {S : zS} {σ τ : zI} {Q : zQ} {x1 : Nat} (hx1 : tw x1) (t : wi (d + 13) 65 2 [.ref 67, .ref x1, .ref 54, .int (wI 0), .retAddr 0] [] S σ τ Q) : wi (d + 13) 65 0 [.ref 67, .ref x1, .ref 54, .retAddr 0, .retAddr 0] [] S σ τ Q := by
  refine i1 c_65_0 (i6 (L' := [.ref 67, .ref x1, .ref 54, .int (wI 0), .retAddr 0]) c_65_1 rfl t)
set_option maxRecDepth 20000 in
theorem u_65_2 {d : Nat} {S : zS} {σ τ : zI} {Q : zQ} {x1 : Nat} {x3 : Int} {y4 : Value} (hx1 : tw x1) (t : (rg x3) ∧ if (σ (x1 + 5) 2) ≤ x3 then (Q none S σ τ) else (if (8 : Int) ≤ x3 then (Q none S σ τ) else (if (rt_ (σ (x1 + 5) 2) (σ (x1 + 6)) 13 6 x3) = (-1) then ((0 ≤ x3 ∧ x3 < 8) ∧ wi (d + 13) 65 2 [.ref 67, .ref x1, .ref 54, .int (wI (x3 + 1)), .int (wI (rt_ (σ (x1 + 5) 2) (σ (x1 + 6)) 13 6 x3))] [] S (uc σ 73 (u1 (σ 73) x3 0)) τ Q) else (∃ a6 : Int → Int, (RT σ x1 a6) ∧ (RX S σ a6) ∧ (Jl a6) ∧ (jv_T a6) ∧ (jv_E a6) ∧ (0 ≤ (rt_ (σ (x1 + 5) 2) (σ (x1 + 6)) 13 6 x3) ∧ (rt_ (σ (x1 + 5) 2) (σ (x1 + 6)) 13 6 x3) ≤ 5) ∧ ∀ (σ113 : zI) (τ114 : zI), F54 σ σ113 τ τ114 → Wc σ113 a6 (rt_ (σ (x1 + 5) 2) (σ (x1 + 6)) 13 6 x3) x3 (σ x1 8) (σ x1 8) → (0 ≤ x3 ∧ x3 < 8) ∧ ∃ w18 : Int, wI w18 = wI (r_pay a6 (rt_ (σ (x1 + 5) 2) (σ (x1 + 6)) 13 6 x3) x3 (σ x1 8) (σ x1 8)) ∧ rg w18 ∧ wi (d + 13) 65 2 [.ref 67, .ref x1, .ref 54, .int (wI (x3 + 1)), .int (wI (rt_ (σ (x1 + 5) 2) (σ (x1 + 6)) 13 6 x3))] [] S (uc σ113 73 (u1 (σ113 73) x3 w18)) τ114 Q)))) : wi (d + 13) 65 2 [.ref 67, .ref x1, .ref 54, .int (wI x3), y4] [] S σ τ Q := by
  refine i3 c_65_2 rfl (i5 c_65_3 rfl (i45 c_65_4 (lo (lyt_0 hx1) (by have := tw_b hx1; omega)) (lro (lrt_2 hx1)) (wi_ok (fun K1 => ?_))))
  obtain ⟨r2, t⟩ := t
  refine i43 (v := σ (x1 + 5) 2) c_65_7 (lo (lyt_5 hx1) (by have := tw_b hx1; omega)) rfl ?_
  refine i37 c_65_10 r2 (rge_ K1 rfl) rfl (fun hc => ?_) (fun hc => ?_)
  · have t := iT t hc
    have ha3 : (σ (x1 + 5) 2) ≤ x3 := hc
    exact i94 c_65_69 t
  · have t := iF t hc
    have ha3 : ¬ ((σ (x1 + 5) 2) ≤ x3) := hc
    refine i3 c_65_13 rfl (i1 c_65_14 ?_)
    refine i37 c_65_16 r2 (by decide) rfl (fun hc => ?_) (fun hc => ?_)
    · have t := iT t hc
      have ha4 : (8 : Int) ≤ x3 := hc
      exact i94 c_65_69 t
    · have t := iF t hc
      have ha4 : ¬ ((8 : Int) ≤ x3) := hc
      refine i5 c_65_19 rfl (i45 c_65_20 (lo (lyt_0 hx1) (by have := tw_b hx1; omega)) (lro (lrt_2 hx1)) (i3 c_65_23 rfl (i1 c_65_24 ?_)))
      refine i80 (As := [.int (wI x3), .int (wI 6)]) (rest := []) c_65_26 mi_55 rfl rfl (Nat.le_of_ble_eq_true rfl) (Nat.le_of_ble_eq_true rfl) (lo (lyt_5 hx1) (by have := tw_b hx1; omega)) (q_at (ow_mills hx1) r2 (by decide) ?_)
      show wi (d + 13) 65 29 [.ref 67, .ref x1, .ref 54, .int (wI x3), y4] [.int (wI (rt_ (σ (x1 + 5) 2) (σ (x1 + 6)) 13 6 x3))] S σ τ Q
      refine i6 (L' := [.ref 67, .ref x1, .ref 54, .int (wI x3), .int (wI (rt_ (σ (x1 + 5) 2) (σ (x1 + 6)) 13 6 x3))]) c_65_29 rfl (i5 c_65_31 rfl (i45 c_65_32 (lo (c := 67) (kd := 105) (n := 0) rfl (by decide)) (lro (c := 67) (k := 5) (j := 73) (by decide)) (i3 c_65_35 rfl (i3 c_65_36 rfl (i1 c_65_38 ?_)))))
      refine i37 c_65_39 (rg_rt_ (fun k => kO_r K1 _ k) _ _ _ _) (by decide) rfl (fun hc => ?_) (fun hc => ?_)
      · have t := iF t hc
        have ha5 : ¬ ((rt_ (σ (x1 + 5) 2) (σ (x1 + 6)) 13 6 x3) = (-1)) := hc
        obtain ⟨a6, t⟩ := t
        obtain ⟨p7, t⟩ := t
        obtain ⟨p8, t⟩ := t
        obtain ⟨p9, t⟩ := t
        obtain ⟨p10, t⟩ := t
        obtain ⟨p11, t⟩ := t
        obtain ⟨p12, t⟩ := t
        refine i5 c_65_46 rfl (i5 c_65_47 rfl (i3 c_65_48 rfl (i3 c_65_50 rfl (i5 c_65_51 rfl (i43 (v := σ x1 8) c_65_52 (lo (lyt_0 hx1) (by have := tw_b hx1; omega)) rfl (i5 c_65_55 rfl (i43 (v := σ x1 8) c_65_56 (lo (lyt_0 hx1) (by have := tw_b hx1; omega)) rfl ?_)))))))
        refine i80 (As := [.ref x1, .int (wI (rt_ (σ (x1 + 5) 2) (σ (x1 + 6)) 13 6 x3)), .int (wI x3), .int (wI (σ x1 8)), .int (wI (σ x1 8))]) (rest := [.int (wI x3), .ref 73]) c_65_59 mi_19 rfl rfl (Nat.le_of_ble_eq_true rfl) (Nat.le_of_ble_eq_true rfl) (lo (c := 54) (kd := 101) (n := 0) rfl (by decide)) (q_19 (a := a6) hx1 p7 p8 p9 p10 p11 p12 r2 (rge_ K1 rfl) (rge_ K1 rfl) (fun σ113 τ114 q15 q16 => ?_))
        have t := t σ113 τ114 q15 q16
        show wi (d + 13) 65 62 [.ref 67, .ref x1, .ref 54, .int (wI x3), .int (wI (rt_ (σ (x1 + 5) 2) (σ (x1 + 6)) 13 6 x3))] [.int (wI (r_pay a6 (rt_ (σ (x1 + 5) 2) (σ (x1 + 6)) 13 6 x3) x3 (σ x1 8) (σ x1 8))), .int (wI x3), .ref 73] S σ113 τ114 Q
        obtain ⟨r17, t⟩ := t
        obtain ⟨w18, e19, r20, t⟩ := t
        refine i54 (σ1 := uc σ113 73 (u1 (σ113 73) x3 w18)) c_65_62 (lo (c := 73) (kd := 0) (n := 8) rfl (by decide)) (by decide) r17 (by decide) e19 r20 (wr_ rfl rfl) (i9 (L' := [.ref 67, .ref x1, .ref 54, .int (wI (x3 + 1)), .int (wI (rt_ (σ (x1 + 5) 2) (σ (x1 + 6)) 13 6 x3))]) c_65_63 rfl rfl (i38 c_65_66 rfl t))
      · have t := iT t (Decidable.not_not.mp hc)
        have ha5 : (rt_ (σ (x1 + 5) 2) (σ (x1 + 6)) 13 6 x3) = (-1) := Decidable.not_not.mp hc
        obtain ⟨r21, t⟩ := t
        refine i1 c_65_42 (i38 c_65_43 rfl (i54 (σ1 := uc σ 73 (u1 (σ 73) x3 0)) c_65_62 (lo (c := 73) (kd := 0) (n := 8) rfl (by decide)) (by decide) r21 (by decide) rfl (by decide) (wr_ rfl rfl) (i9 (L' := [.ref 67, .ref x1, .ref 54, .int (wI (x3 + 1)), .int (wI (rt_ (σ (x1 + 5) 2) (σ (x1 + 6)) 13 6 x3))]) c_65_63 rfl rfl (i38 c_65_66 rfl t))))
theorem q_65 {d : Nat} {S : zS} {σ τ : zI} {Q : zQ} {tn : Nat} {a : Int → Int} (htn : tw tn) (p0 : RT σ tn a) (p1 : RX S σ a) (p2 : Jv a) (p3 : jv_T a) (p4 : jv_E a) (t : ∀ (σ1 : zI) (τ1 : zI), FP σ σ1 τ τ1 a → Q none S σ1 τ1) : wc (d + 13) 65 [.ref 67, .ref tn, .ref 54] S σ τ Q := by
  have hC := jC p2
  unfold jv_C at hC
  have tb := tw_b htn
  refine wc_of mi_65 rfl (u_65_0 htn ?_)
  have key : ∀ m, 0 ≤ m → m ≤ a 1 → ∀ σ' τ', (∀ c, c ≠ 54 → c ≠ 73 → σ' c = σ c) → (∀ k, k < 3 ∨ 4 < k → σ' 54 k = σ 54 k) → (∀ c, c ≠ 56 → c ≠ 57 → τ' c = τ c) → (∀ k, 0 ≤ k → k < m → σ' 73 k = s_py a k) → ∀ y4, wi (d + 13) 65 2 [.ref 67, .ref tn, .ref 54, .int (wI m), y4] [] S σ' τ' Q := by
    refine lp_up (fun m m0 m1 ih => ?_)
    intro σ' τ' f1 f2 f3 f4 y4
    have rt : RT σ' tn a := RT_σ (fun c h1 h2 => f1 c (by omega) (by omega)) p0
    have rx : RX S σ' a := RX_f p1 (fun c hc => f1 c (by omega) (by omega))
    have cn := cM rt
    have c0 : σ' tn 8 = a 0 := (tS rt).1
    have v6 := fun q => vM6 rt (r := m) q
    refine u_65_2 htn ?_
    rw [cn] at v6 ⊢
    rw [c0]
    refine ⟨by omega, ifI (fun e => t σ' τ' ⟨f1, f2, f3, fun k k0 k1 => f4 k k0 (by omega)⟩) (fun e => ?_)⟩
    rw [if_neg (by omega), v6 (by omega)]
    have hM := jM p2 m m0 (by omega)
    refine ifI (fun e2 => ⟨by omega, ih (by omega) _ τ' (fun c c1 c2 => by rw [uc_n c2]; exact f1 c c1 c2) (fun k hk => by rw [uc_n (by decide)]; exact f2 k hk) f3 (fun k k0 k1 => ?_) _⟩) (fun e2 => ?_)
    · rw [uc_s]
      by_cases c : k = m
      · subst c
        rw [u1_s]
        unfold s_py
        rw [if_pos (by omega)]
      · rw [u1_n c]; exact f4 k k0 (by omega)
    · have pb := r_pay_b (kind := a (3300 + 16 * m + 7)) (mill := m) (week := a 0) (known := a 0) (Jl_of p2) p3
      refine ⟨a, rt, rx, Jl_of p2, p3, p4, by omega, fun σ1 τ1 f5 _ => ⟨by omega, _, rfl, by omega, ih (by omega) _ τ1 (fun c c1 c2 => by rw [uc_n c2, f5.1 c c1]; exact f1 c c1 c2) (fun k hk => by rw [uc_n (by decide), f5.2.1 k hk]; exact f2 k hk) (fun c c1 c2 => by rw [f5.2.2 c c1 c2]; exact f3 c c1 c2) (fun k k0 k1 => ?_) _⟩⟩
      rw [uc_s]
      by_cases c : k = m
      · subst c
        rw [u1_s]
        unfold s_py
        rw [if_neg (by omega)]
      · rw [u1_n c, f5.1 73 (by decide)]; exact f4 k k0 (by omega)
  exact key 0 (by omega) (by omega) σ τ (fun _ _ _ => rfl) (fun _ _ => rfl) (fun _ _ _ => rfl) (fun k k0 k1 => by omega) _
-- method 69: MillTown$Sharing.fillRests(I)V
theorem c_69_0 : pg_cd 69 0 = (5, 1, 0, 0, 0) := by decide +kernel
theorem c_69_1 : pg_cd 69 1 = (45, 5, 22, 3, 0) := by decide +kernel
theorem c_69_4 : pg_cd 69 4 = (2, 1, 0, 0, 0) := by decide +kernel
theorem c_69_5 : pg_cd 69 5 = (81, 328, 58, 0, 0) := by decide +kernel
theorem c_69_8 : pg_cd 69 8 = (5, 1, 0, 0, 0) := by decide +kernel
theorem c_69_9 : pg_cd 69 9 = (45, 5, 25, 4, 0) := by decide +kernel
theorem c_69_12 : pg_cd 69 12 = (1, 1, 0, 0, 0) := by decide +kernel
theorem c_69_13 : pg_cd 69 13 = (81, 329, 64, 0, 0) := by decide +kernel
theorem c_69_16 : pg_cd 69 16 = (3, 1, 0, 1, 0) := by decide +kernel
theorem c_69_17 : pg_cd 69 17 = (1, 2, 0, 0, 8) := by decide +kernel
theorem c_69_19 : pg_cd 69 19 = (74, 0, 133, 0, 0) := by decide +kernel
theorem c_69_22 : pg_cd 69 22 = (1, 1, 0, 0, 1) := by decide +kernel
theorem c_69_23 : pg_cd 69 23 = (11, 1, 0, 0, 0) := by decide +kernel
theorem c_69_24 : pg_cd 69 24 = (6, 1, 0, 2, 0) := by decide +kernel
theorem c_69_25 : pg_cd 69 25 = (3, 1, 0, 2, 0) := by decide +kernel
theorem c_69_26 : pg_cd 69 26 = (36, 3, 0, 2, 88) := by decide +kernel
theorem c_69_29 : pg_cd 69 29 = (5, 1, 0, 0, 0) := by decide +kernel
theorem c_69_30 : pg_cd 69 30 = (45, 5, 25, 4, 0) := by decide +kernel
theorem c_69_33 : pg_cd 69 33 = (3, 1, 0, 2, 0) := by decide +kernel
theorem c_69_34 : pg_cd 69 34 = (5, 1, 0, 0, 0) := by decide +kernel
theorem c_69_35 : pg_cd 69 35 = (45, 5, 25, 4, 0) := by decide +kernel
theorem c_69_38 : pg_cd 69 38 = (3, 1, 0, 2, 0) := by decide +kernel
theorem c_69_39 : pg_cd 69 39 = (1, 1, 0, 0, 1) := by decide +kernel
theorem c_69_40 : pg_cd 69 40 = (10, 1, 0, 0, 0) := by decide +kernel
theorem c_69_41 : pg_cd 69 41 = (50, 1, 0, 0, 0) := by decide +kernel
theorem c_69_42 : pg_cd 69 42 = (5, 1, 0, 0, 0) := by decide +kernel
theorem c_69_43 : pg_cd 69 43 = (45, 5, 15, 1, 0) := by decide +kernel
theorem c_69_46 : pg_cd 69 46 = (3, 1, 0, 2, 0) := by decide +kernel
theorem c_69_47 : pg_cd 69 47 = (1, 1, 0, 0, 3) := by decide +kernel
theorem c_69_48 : pg_cd 69 48 = (12, 1, 0, 0, 0) := by decide +kernel
theorem c_69_49 : pg_cd 69 49 = (1, 1, 0, 0, 2) := by decide +kernel
theorem c_69_50 : pg_cd 69 50 = (10, 1, 0, 0, 0) := by decide +kernel
theorem c_69_51 : pg_cd 69 51 = (50, 1, 0, 0, 0) := by decide +kernel
theorem c_69_52 : pg_cd 69 52 = (10, 1, 0, 0, 0) := by decide +kernel
theorem c_69_53 : pg_cd 69 53 = (54, 1, 0, 0, 0) := by decide +kernel
theorem c_69_54 : pg_cd 69 54 = (1, 1, 0, 0, 0) := by decide +kernel
theorem c_69_55 : pg_cd 69 55 = (6, 1, 0, 3, 0) := by decide +kernel
theorem c_69_56 : pg_cd 69 56 = (3, 1, 0, 3, 0) := by decide +kernel
theorem c_69_57 : pg_cd 69 57 = (1, 2, 0, 0, 24) := by decide +kernel
theorem c_69_59 : pg_cd 69 59 = (37, 3, 0, 3, 49) := by decide +kernel
theorem c_69_62 : pg_cd 69 62 = (5, 1, 0, 0, 0) := by decide +kernel
theorem c_69_63 : pg_cd 69 63 = (45, 5, 22, 3, 0) := by decide +kernel
theorem c_69_66 : pg_cd 69 66 = (3, 1, 0, 2, 0) := by decide +kernel
theorem c_69_67 : pg_cd 69 67 = (1, 2, 0, 0, 24) := by decide +kernel
theorem c_69_69 : pg_cd 69 69 = (12, 1, 0, 0, 0) := by decide +kernel
theorem c_69_70 : pg_cd 69 70 = (3, 1, 0, 3, 0) := by decide +kernel
theorem c_69_71 : pg_cd 69 71 = (10, 1, 0, 0, 0) := by decide +kernel
theorem c_69_72 : pg_cd 69 72 = (5, 1, 0, 0, 0) := by decide +kernel
theorem c_69_73 : pg_cd 69 73 = (45, 5, 22, 3, 0) := by decide +kernel
theorem c_69_76 : pg_cd 69 76 = (3, 1, 0, 2, 0) := by decide +kernel
theorem c_69_77 : pg_cd 69 77 = (1, 1, 0, 0, 1) := by decide +kernel
theorem c_69_78 : pg_cd 69 78 = (10, 1, 0, 0, 0) := by decide +kernel
theorem c_69_79 : pg_cd 69 79 = (1, 2, 0, 0, 24) := by decide +kernel
theorem c_69_81 : pg_cd 69 81 = (12, 1, 0, 0, 0) := by decide +kernel
theorem c_69_82 : pg_cd 69 82 = (3, 1, 0, 3, 0) := by decide +kernel
theorem c_69_83 : pg_cd 69 83 = (10, 1, 0, 0, 0) := by decide +kernel
theorem c_69_84 : pg_cd 69 84 = (52, 1, 0, 0, 0) := by decide +kernel
theorem c_69_85 : pg_cd 69 85 = (5, 1, 0, 0, 0) := by decide +kernel
theorem c_69_86 : pg_cd 69 86 = (45, 5, 11, 0, 0) := by decide +kernel
theorem c_69_89 : pg_cd 69 89 = (3, 1, 0, 2, 0) := by decide +kernel
theorem c_69_90 : pg_cd 69 90 = (1, 1, 0, 0, 3) := by decide +kernel
theorem c_69_91 : pg_cd 69 91 = (12, 1, 0, 0, 0) := by decide +kernel
theorem c_69_92 : pg_cd 69 92 = (1, 1, 0, 0, 2) := by decide +kernel
theorem c_69_93 : pg_cd 69 93 = (10, 1, 0, 0, 0) := by decide +kernel
theorem c_69_94 : pg_cd 69 94 = (1, 2, 0, 0, 24) := by decide +kernel
theorem c_69_96 : pg_cd 69 96 = (12, 1, 0, 0, 0) := by decide +kernel
theorem c_69_97 : pg_cd 69 97 = (3, 1, 0, 3, 0) := by decide +kernel
theorem c_69_98 : pg_cd 69 98 = (10, 1, 0, 0, 0) := by decide +kernel
theorem c_69_99 : pg_cd 69 99 = (52, 1, 0, 0, 0) := by decide +kernel
theorem c_69_100 : pg_cd 69 100 = (22, 1, 0, 0, 0) := by decide +kernel
theorem c_69_101 : pg_cd 69 101 = (56, 1, 0, 0, 0) := by decide +kernel
theorem c_69_102 : pg_cd 69 102 = (9, 3, 0, 3, 1) := by decide +kernel
theorem c_69_105 : pg_cd 69 105 = (38, 3, 0, 0, (-49)) := by decide +kernel
theorem c_69_108 : pg_cd 69 108 = (9, 3, 0, 2, (-1)) := by decide +kernel
theorem c_69_111 : pg_cd 69 111 = (38, 3, 0, 0, (-86)) := by decide +kernel
theorem c_69_114 : pg_cd 69 114 = (94, 0, 0, 0, 0) := by decide +kernel
theorem mi_69 : pg_mc 69 = 5 ∧ pg_na 69 = 1 ∧ pg_mx 69 = 4 := by decide +kernel
set_option maxRecDepth 20000 in
theorem u_69_0 {d : Nat} {S : zS} {σ τ : zI} {Q : zQ} {x1 : Int} (t : (rj 0) ∧ (rg x1) ∧ wi (d + 7) 69 25 [.ref 67, .int (wI x1), .int (wI ((min x1 8) - 1)), .retAddr 0] [] S (uc σ 72 (fl_ ((σ 72)) 0 9 0)) (uc τ 71 (fl_ ((τ 71)) 0 216 0)) Q) : wi (d + 7) 69 0 [.ref 67, .int (wI x1), .retAddr 0, .retAddr 0] [] S σ τ Q := by
  obtain ⟨p1, t⟩ := t
  refine i5 c_69_0 rfl (i45 c_69_1 (lo (c := 67) (kd := 105) (n := 0) rfl (by decide)) (lro (c := 67) (k := 3) (j := 71) (by decide)) (i2 c_69_4 ?_))
  refine i81 (As := [.ref 71, .long (wJ 0)]) (rest := []) c_69_5 mi_328 rfl rfl (Nat.le_of_ble_eq_true rfl) (Nat.le_of_ble_eq_true rfl) (q_328 ⟨fun _ _ => (lo (c := 71) (kd := 1) (n := 216) rfl (by decide)), (by decide)⟩ (by decide) p1 ?_)
  show wi (d + 7) 69 8 [.ref 67, .int (wI x1), .retAddr 0, .retAddr 0] [] S σ (uc τ 71 (fl_ ((τ 71)) 0 216 0)) Q
  refine i5 c_69_8 rfl (i45 c_69_9 (lo (c := 67) (kd := 105) (n := 0) rfl (by decide)) (lro (c := 67) (k := 4) (j := 72) (by decide)) (i1 c_69_12 ?_))
  refine i81 (As := [.ref 72, .int (wI 0)]) (rest := []) c_69_13 mi_329 rfl rfl (Nat.le_of_ble_eq_true rfl) (Nat.le_of_ble_eq_true rfl) (q_329 ⟨fun _ _ => (lo (c := 72) (kd := 0) (n := 9) rfl (by decide)), (by decide)⟩ (by decide) (by decide) ?_)
  show wi (d + 7) 69 16 [.ref 67, .int (wI x1), .retAddr 0, .retAddr 0] [] S (uc σ 72 (fl_ ((σ 72)) 0 9 0)) (uc τ 71 (fl_ ((τ 71)) 0 216 0)) Q
  obtain ⟨r2, t⟩ := t
  refine i3 c_69_16 rfl (i1 c_69_17 (i74 c_69_19 (Nat.le_of_ble_eq_true rfl) (by omega) r2 (by decide) (i1 c_69_22 (i11 c_69_23 (i6 (L' := [.ref 67, .int (wI x1), .int (wI ((min x1 8) - 1)), .retAddr 0]) c_69_24 rfl t)))))
set_option maxRecDepth 20000 in
theorem u_69_25 {d : Nat} {S : zS} {σ τ : zI} {Q : zQ} {x1 : Int} {x2 : Int} {y3 : Value} (t : (rg x2) ∧ if x2 < 0 then (Q none S σ τ) else ((0 ≤ x2 + 1 ∧ x2 + 1 < 9) ∧ (0 ≤ (x2 * 3) + 2 ∧ (x2 * 3) + 2 < 24) ∧ (0 ≤ x2 ∧ x2 < 9) ∧ ∃ w7 : Int, wI w7 = wI ((σ 72 (x2 + 1)) + (σ 69 ((x2 * 3) + 2))) ∧ rg w7 ∧ wi (d + 7) 69 56 [.ref 67, .int (wI x1), .int (wI x2), .int (wI 0)] [] S (uc σ 72 (u1 (σ 72) x2 w7)) τ Q)) : wi (d + 7) 69 25 [.ref 67, .int (wI x1), .int (wI x2), y3] [] S σ τ Q := by
  obtain ⟨r1, t⟩ := t
  refine i3 c_69_25 rfl ?_
  refine i36 c_69_26 r1 rfl (fun hc => ?_) (fun hc => ?_)
  · have t := iT t hc
    have ha2 : x2 < 0 := hc
    exact i94 c_69_114 t
  · have t := iF t hc
    have ha2 : ¬ (x2 < 0) := hc
    obtain ⟨r3, t⟩ := t
    refine i5 c_69_29 rfl (i45 c_69_30 (lo (c := 67) (kd := 105) (n := 0) rfl (by decide)) (lro (c := 67) (k := 4) (j := 72) (by decide)) (i3 c_69_33 rfl (i5 c_69_34 rfl (i45 c_69_35 (lo (c := 67) (kd := 105) (n := 0) rfl (by decide)) (lro (c := 67) (k := 4) (j := 72) (by decide)) (i3 c_69_38 rfl (i1 c_69_39 (i10 c_69_40 (wi_ok (fun K4 => ?_)))))))))
    obtain ⟨r5, t⟩ := t
    obtain ⟨r6, t⟩ := t
    obtain ⟨w7, e8, r9, t⟩ := t
    refine i50 (v := σ 72 (x2 + 1)) c_69_41 (lo (c := 72) (kd := 0) (n := 9) rfl (by decide)) (by decide) r3 rfl (i5 c_69_42 rfl (i45 c_69_43 (lo (c := 67) (kd := 105) (n := 0) rfl (by decide)) (lro (c := 67) (k := 1) (j := 69) (by decide)) (i3 c_69_46 rfl (i1 c_69_47 (i12 c_69_48 (i1 c_69_49 (i10 c_69_50 (i50 (v := σ 69 ((x2 * 3) + 2)) c_69_51 (lo (c := 69) (kd := 0) (n := 24) rfl (by decide)) (by decide) r5 rfl (i10 c_69_52 (i54 (σ1 := uc σ 72 (u1 (σ 72) x2 w7)) c_69_53 (lo (c := 72) (kd := 0) (n := 9) rfl (by decide)) (by decide) r6 (by decide) e8 r9 (wr_ rfl rfl) (i1 c_69_54 (i6 (L' := [.ref 67, .int (wI x1), .int (wI x2), .int (wI 0)]) c_69_55 rfl t))))))))))))
set_option maxRecDepth 20000 in
theorem u_69_56 {d : Nat} {S : zS} {σ τ : zI} {Q : zQ} {x1 : Int} {x2 : Int} {x3 : Int} (t : (rg x3) ∧ if (24 : Int) ≤ x3 then (wi (d + 7) 69 25 [.ref 67, .int (wI x1), .int (wI (x2 + (-1))), .int (wI x3)] [] S σ τ Q) else ((0 ≤ ((x2 + 1) * 24) + x3 ∧ ((x2 + 1) * 24) + x3 < 216) ∧ (0 ≤ (((x2 * 3) + 2) * 24) + x3 ∧ (((x2 * 3) + 2) * 24) + x3 < 576) ∧ (0 ≤ (x2 * 24) + x3 ∧ (x2 * 24) + x3 < 216) ∧ ∃ w7 : Int, wJ w7 = wJ ((τ 71 (((x2 + 1) * 24) + x3)) + (τ 68 ((((x2 * 3) + 2) * 24) + x3))) ∧ rj w7 ∧ wi (d + 7) 69 56 [.ref 67, .int (wI x1), .int (wI x2), .int (wI (x3 + 1))] [] S σ (uc τ 71 (u1 (τ 71) ((x2 * 24) + x3) w7)) Q)) : wi (d + 7) 69 56 [.ref 67, .int (wI x1), .int (wI x2), .int (wI x3)] [] S σ τ Q := by
  obtain ⟨r1, t⟩ := t
  refine i3 c_69_56 rfl (i1 c_69_57 ?_)
  refine i37 c_69_59 r1 (by decide) rfl (fun hc => ?_) (fun hc => ?_)
  · have t := iT t hc
    have ha2 : (24 : Int) ≤ x3 := hc
    refine i9 (L' := [.ref 67, .int (wI x1), .int (wI (x2 + (-1))), .int (wI x3)]) c_69_108 rfl rfl (i38 c_69_111 rfl t)
  · have t := iF t hc
    have ha2 : ¬ ((24 : Int) ≤ x3) := hc
    obtain ⟨r3, t⟩ := t
    refine i5 c_69_62 rfl (i45 c_69_63 (lo (c := 67) (kd := 105) (n := 0) rfl (by decide)) (lro (c := 67) (k := 3) (j := 71) (by decide)) (i3 c_69_66 rfl (i1 c_69_67 (i12 c_69_69 (i3 c_69_70 rfl (i10 c_69_71 (i5 c_69_72 rfl (i45 c_69_73 (lo (c := 67) (kd := 105) (n := 0) rfl (by decide)) (lro (c := 67) (k := 3) (j := 71) (by decide)) (i3 c_69_76 rfl (i1 c_69_77 (i10 c_69_78 (i1 c_69_79 (i12 c_69_81 (i3 c_69_82 rfl (i10 c_69_83 (wi_ok (fun K4 => ?_)))))))))))))))))
    obtain ⟨r5, t⟩ := t
    obtain ⟨r6, t⟩ := t
    obtain ⟨w7, e8, r9, t⟩ := t
    refine i52 (v := τ 71 (((x2 + 1) * 24) + x3)) c_69_84 (lo (c := 71) (kd := 1) (n := 216) rfl (by decide)) (by decide) r3 rfl (i5 c_69_85 rfl (i45 c_69_86 (lo (c := 67) (kd := 105) (n := 0) rfl (by decide)) (lro (c := 67) (k := 0) (j := 68) (by decide)) (i3 c_69_89 rfl (i1 c_69_90 (i12 c_69_91 (i1 c_69_92 (i10 c_69_93 (i1 c_69_94 (i12 c_69_96 (i3 c_69_97 rfl (i10 c_69_98 (i52 (v := τ 68 ((((x2 * 3) + 2) * 24) + x3)) c_69_99 (lo (c := 68) (kd := 1) (n := 576) rfl (by decide)) (by decide) r5 rfl (i22 c_69_100 (i56 (τ1 := uc τ 71 (u1 (τ 71) ((x2 * 24) + x3) w7)) c_69_101 (lo (c := 71) (kd := 1) (n := 216) rfl (by decide)) (by decide) r6 e8 r9 (wr_ rfl rfl) (i9 (L' := [.ref 67, .int (wI x1), .int (wI x2), .int (wI (x3 + 1))]) c_69_102 rfl rfl (i38 c_69_105 rfl t))))))))))))))))
theorem q_69 {d : Nat} {S : zS} {σ τ : zI} {Q : zQ} {mills : Int} {a : Int → Int} (p0 : mills = a 1) (p1 : Jv a) (p2 : jv_T a) (p3 : (∀ m, 0 ≤ m → m < a 1 → σ 69 (m * 3 + 2) = c_pc a m 2 ∧ ∀ h, 0 ≤ h → h < 24 → τ 68 ((m * 3 + 2) * 24 + h) = c_e a m 2 h)) (t : ∀ (σ1 : zI) (τ1 : zI), (∀ c, c ≠ 72 → σ1 c = σ c) → (∀ c, c ≠ 71 → τ1 c = τ c) → (∀ m, 0 ≤ m → m ≤ a 1 → σ1 72 m = r_pF a m ∧ ∀ h, 0 ≤ h → h < 24 → τ1 71 (m * 24 + h) = r_eF a m h) → Q none S σ1 τ1) : wc (d + 7) 69 [.ref 67, .int (wI mills)] S σ τ Q := by
  have hC := jC p1
  unfold jv_C at hC
  refine wc_of mi_69 rfl (u_69_0 ?_)
  refine ⟨by decide, by omega, ?_⟩
  rw [show min mills 8 - 1 = a 1 - 1 by omega]
  have key : ∀ m, -1 ≤ m → m < a 1 → ∀ σ' τ', (∀ c, c ≠ 72 → σ' c = σ c) → (∀ c, c ≠ 71 → τ' c = τ c) → (∀ k, m < k → k ≤ a 1 → σ' 72 k = r_pF a k ∧ ∀ h, 0 ≤ h → h < 24 → τ' 71 (k * 24 + h) = r_eF a k h) → ∀ y3, wi (d + 7) 69 25 [.ref 67, .int (wI mills), .int (wI m), y3] [] S σ' τ' Q := by
    refine lp_dn (fun m m0 ih => ?_)
    intro m1 σ' τ' f1 f2 f3 y3
    refine u_69_25 ⟨by omega, ifI (fun e => ?_) (fun e => ?_)⟩
    · exact t σ' τ' f1 f2 (fun k k0 k1 => f3 k (by omega) k1)
    · have nx := f3 (m + 1) (by omega) (by omega)
      have cu := p3 m (by omega) m1
      have pb := r_pF_b (m := m) p1 p2 (by omega)
      have ps := r_pF_s (a := a) m1
      rw [f1 69 (by decide), nx.1, cu.1]
      refine ⟨by omega, by omega, by omega, r_pF a m, by rw [ps, Int.add_comm], by omega, ?_⟩
      have lp : ∀ h, 0 ≤ h → h ≤ 24 → ∀ τ2, (∀ c, c ≠ 71 → τ2 c = τ c) → (∀ k, 0 ≤ k → k < h → τ2 71 (m * 24 + k) = r_eF a m k) → (∀ k, m < k → k ≤ a 1 → ∀ h, 0 ≤ h → h < 24 → τ2 71 (k * 24 + h) = r_eF a k h) → wi (d + 7) 69 56 [.ref 67, .int (wI mills), .int (wI m), .int (wI h)] [] S (uc σ' 72 (u1 (σ' 72) m (r_pF a m))) τ2 Q := by
        refine lp_up (fun h h0 h1 ihh => ?_)
        intro τ2 g1 g2 g3
        refine u_69_56 ⟨by omega, ifI (fun eh => ?_) (fun eh => ?_)⟩
        · refine ih (by omega) (by omega) _ τ2 (fun c hc => by rw [uc_n hc]; exact f1 c hc) g1 (fun k k0 k1 => ?_) _
          rw [uc_s]
          by_cases c : k = m
          · subst c
            exact ⟨by rw [u1_s], fun h a0 a1 => g2 h a0 (by omega)⟩
          · exact ⟨by rw [u1_n c]; exact (f3 k (by omega) k1).1, g3 k (by omega) k1⟩
        · have eb := r_eF_b (m := m) (h := h) p1 p2 (by omega)
          have es := r_eF_s (a := a) (h := h) m1
          rw [g1 68 (by decide), g3 (m + 1) (by omega) (by omega) h h0 (by omega), cu.2 h h0 (by omega)]
          refine ⟨by omega, by omega, by omega, r_eF a m h, by rw [es, Int.add_comm], by omega, ihh (by omega) _ (fun c hc => by rw [uc_n hc]; exact g1 c hc) (fun k k0 k1 => ?_) (fun k k0 k1 h' a0 a1 => ?_)⟩
          · rw [uc_s]
            by_cases c : k = h
            · subst c; rw [u1_s]
            · rw [u1_n (by omega)]; exact g2 k k0 (by omega)
          · rw [uc_s, u1_n (by omega)]; exact g3 k k0 k1 h' a0 a1
      exact lp 0 (by omega) (by omega) τ' f2 (fun k k0 k1 => by omega) (fun k k0 k1 => (f3 k k0 k1).2)
  refine key (a 1 - 1) (by omega) (by omega) _ _ (fun c hc => uc_n hc) (fun c hc => uc_n hc) (fun k k0 k1 => ?_) _
  have e : k = a 1 := by omega
  subst e
  rw [uc_s, uc_s, fl_in (by omega) (by omega)]
  refine ⟨by unfold r_pF; rw [Int.sub_self]; rfl, fun h h0 h1 => ?_⟩
  rw [fl_in (by omega) (by omega)]
  unfold r_eF
  rw [Int.sub_self]
  rfl
