/-! ===== TEXTS of the class (segments printed by wip/whole, contracts own work) ===== -/
theorem c_9_0 : pg_cd 9 0 = (3, 1, 0, 1, 0) := by decide +kernel
theorem c_9_1 : pg_cd 9 1 = (36, 3, 0, 2, 12) := by decide +kernel
theorem c_9_4 : pg_cd 9 4 = (3, 1, 0, 1, 0) := by decide +kernel
theorem c_9_5 : pg_cd 9 5 = (5, 1, 0, 0, 0) := by decide +kernel
theorem c_9_6 : pg_cd 9 6 = (45, 1, 11, 0, 0) := by decide +kernel
theorem c_9_9 : pg_cd 9 9 = (58, 10, 0, 0, 0) := by decide +kernel
theorem c_9_10 : pg_cd 9 10 = (37, 3, 0, 2, 5) := by decide +kernel
theorem c_9_13 : pg_cd 9 13 = (41, 1, 0, 0, 0) := by decide +kernel
theorem c_9_14 : pg_cd 9 14 = (93, 0, 0, 0, 0) := by decide +kernel
theorem c_9_15 : pg_cd 9 15 = (5, 1, 0, 0, 0) := by decide +kernel
theorem c_9_16 : pg_cd 9 16 = (45, 1, 11, 0, 0) := by decide +kernel
theorem c_9_19 : pg_cd 9 19 = (3, 1, 0, 1, 0) := by decide +kernel
theorem c_9_20 : pg_cd 9 20 = (53, 7, 0, 0, 0) := by decide +kernel
theorem c_9_21 : pg_cd 9 21 = (40, 3, 0, 0, 16) := by decide +kernel
theorem c_9_24 : pg_cd 9 24 = (5, 1, 0, 0, 0) := by decide +kernel
theorem c_9_25 : pg_cd 9 25 = (45, 1, 11, 0, 0) := by decide +kernel
theorem c_9_28 : pg_cd 9 28 = (3, 1, 0, 1, 0) := by decide +kernel
theorem c_9_29 : pg_cd 9 29 = (60, 7, 9, 4, 0) := by decide +kernel
theorem c_9_32 : pg_cd 9 32 = (33, 1, 0, 0, 0) := by decide +kernel
theorem c_9_33 : pg_cd 9 33 = (80, 80, 28, 0, 0) := by decide +kernel
theorem c_9_36 : pg_cd 9 36 = (57, 7, 0, 0, 0) := by decide +kernel
theorem c_9_37 : pg_cd 9 37 = (5, 1, 0, 0, 0) := by decide +kernel
theorem c_9_38 : pg_cd 9 38 = (45, 1, 11, 0, 0) := by decide +kernel
theorem c_9_41 : pg_cd 9 41 = (3, 1, 0, 1, 0) := by decide +kernel
theorem c_9_42 : pg_cd 9 42 = (53, 7, 0, 0, 0) := by decide +kernel
theorem c_9_43 : pg_cd 9 43 = (93, 0, 0, 0, 0) := by decide +kernel
theorem mi_9 : pg_mc 9 = 1 ∧ pg_na 9 = 1 ∧ pg_mx 9 = 2 := by decide +kernel
theorem c_159_0 : pg_cd 159 0 = (5, 1, 0, 0, 0) := by decide +kernel
theorem c_159_1 : pg_cd 159 1 = (45, 11, 33, 4, 0) := by decide +kernel
theorem c_159_4 : pg_cd 159 4 = (5, 1, 0, 0, 0) := by decide +kernel
theorem c_159_5 : pg_cd 159 5 = (45, 11, 12, 0, 0) := by decide +kernel
theorem c_159_8 : pg_cd 159 8 = (43, 8, 81, 9, 0) := by decide +kernel
theorem c_159_11 : pg_cd 159 11 = (80, 9, 170, 0, 0) := by decide +kernel
theorem c_159_14 : pg_cd 159 14 = (8, 1, 0, 1, 0) := by decide +kernel
theorem c_159_15 : pg_cd 159 15 = (5, 1, 0, 1, 0) := by decide +kernel
theorem c_159_16 : pg_cd 159 16 = (40, 3, 0, 0, 5) := by decide +kernel
theorem c_159_19 : pg_cd 159 19 = (1, 1, 0, 0, (-1)) := by decide +kernel
theorem c_159_20 : pg_cd 159 20 = (90, 0, 0, 0, 0) := by decide +kernel
theorem c_159_21 : pg_cd 159 21 = (5, 1, 0, 0, 0) := by decide +kernel
theorem c_159_22 : pg_cd 159 22 = (45, 11, 42, 6, 0) := by decide +kernel
theorem c_159_25 : pg_cd 159 25 = (5, 1, 0, 0, 0) := by decide +kernel
theorem c_159_26 : pg_cd 159 26 = (45, 11, 67, 10, 0) := by decide +kernel
theorem c_159_29 : pg_cd 159 29 = (5, 1, 0, 0, 0) := by decide +kernel
theorem c_159_30 : pg_cd 159 30 = (43, 11, 164, 11, 0) := by decide +kernel
theorem c_159_33 : pg_cd 159 33 = (5, 1, 0, 1, 0) := by decide +kernel
theorem c_159_34 : pg_cd 159 34 = (80, 35, 176, 0, 0) := by decide +kernel
theorem c_159_37 : pg_cd 159 37 = (6, 1, 0, 2, 0) := by decide +kernel
theorem c_159_38 : pg_cd 159 38 = (5, 1, 0, 0, 0) := by decide +kernel
theorem c_159_39 : pg_cd 159 39 = (1, 1, 0, 0, 0) := by decide +kernel
theorem c_159_40 : pg_cd 159 40 = (46, 11, 164, 11, 0) := by decide +kernel
theorem c_159_43 : pg_cd 159 43 = (3, 1, 0, 2, 0) := by decide +kernel
theorem c_159_44 : pg_cd 159 44 = (36, 3, 0, 1, 5) := by decide +kernel
theorem c_159_47 : pg_cd 159 47 = (1, 1, 0, 0, (-1)) := by decide +kernel
theorem c_159_48 : pg_cd 159 48 = (90, 0, 0, 0, 0) := by decide +kernel
theorem c_159_49 : pg_cd 159 49 = (5, 1, 0, 0, 0) := by decide +kernel
theorem c_159_50 : pg_cd 159 50 = (45, 11, 12, 0, 0) := by decide +kernel
theorem c_159_53 : pg_cd 159 53 = (33, 1, 0, 0, 0) := by decide +kernel
theorem c_159_54 : pg_cd 159 54 = (43, 8, 81, 9, 0) := by decide +kernel
theorem c_159_57 : pg_cd 159 57 = (1, 1, 0, 0, 1) := by decide +kernel
theorem c_159_58 : pg_cd 159 58 = (10, 1, 0, 0, 0) := by decide +kernel
theorem c_159_59 : pg_cd 159 59 = (46, 8, 81, 9, 0) := by decide +kernel
theorem c_159_62 : pg_cd 159 62 = (5, 1, 0, 0, 0) := by decide +kernel
theorem c_159_63 : pg_cd 159 63 = (45, 11, 12, 0, 0) := by decide +kernel
theorem c_159_66 : pg_cd 159 66 = (43, 8, 81, 9, 0) := by decide +kernel
theorem c_159_69 : pg_cd 159 69 = (1, 1, 0, 0, 1) := by decide +kernel
theorem c_159_70 : pg_cd 159 70 = (11, 1, 0, 0, 0) := by decide +kernel
theorem c_159_71 : pg_cd 159 71 = (90, 0, 0, 0, 0) := by decide +kernel
theorem mi_159 : pg_mc 159 = 11 ∧ pg_na 159 = 0 ∧ pg_mx 159 = 3 := by decide +kernel
/-- TEXTS are there, each once -/
def zT (S : zS) : Prop := (∀ k j, k < 20 → S.2.2.2 55 k = some j → oT S j) ∧ ∀ k k' j, k < 20 → k' < 20 → S.2.2.2 55 k = some j → S.2.2.2 55 k' = some j → k = k'
/-- a place for a TEXT is there, everything else as it was -/
def OPT (S S1 : zS) (w : Int) (x : Nat) : Prop := S1.2.2.2 55 w.toNat = some x ∧ oT S1 x ∧ S.1 ≤ S1.1 ∧ (∀ c, c < S.1 → S1.2.2.1 c = S.2.2.1 c) ∧ (∀ c k, c < S.1 → (c ≠ 55 ∨ k ≠ w.toNat) → S1.2.2.2 c k = S.2.2.2 c k) ∧ (S1 = S ∨ S.2.2.2 55 w.toNat = none ∧ x = S.1 ∧ S1.1 = S.1 + 4 ∧ S1.2.1 = S.2.1 + 499)
theorem q_9 {d : Nat} {S : zS} {σ τ : zI} {Q : zQ} {w : Int} (hw : 0 ≤ w ∧ w < 20) (zt : zT S) (z8 : ∀ k j, k < 20 → S.2.2.2 55 k = some j → σ (j + 1) 0 = 8) (t : ∀ S1 σ1 τ1 x, OPT S S1 w x → (∀ c, c < S.1 → σ1 c = σ c) → (∀ c, c < S.1 → τ1 c = τ c) → σ1 (x + 1) 0 = 8 → Q (some (.ref x)) S1 σ1 τ1) : wc (d + 3) 9 [.ref 54, .int (wI w)] S σ τ Q := by
  refine wc_ok fun K => ?_
  have s100 := K.1.1
  have ok54 : ∀ (T : zS) (σ τ : zI), kO T σ τ → oK T 54 101 0 := fun T σ τ => lo (c := 54) rfl (by decide)
  have ok55 : ∀ (T : zS) (σ τ : zI), kO T σ τ → oK T 55 10 20 := fun T σ τ => lo (c := 55) rfl (by decide)
  have r54 : ∀ (T : zS) (σ τ : zI), kO T σ τ → T.2.2.2 54 0 = some 55 := fun T σ τ => lro (c := 54) (k := 0) (j := 55) (by decide)
  have fin : ∀ (T : zS) (σ2 τ2 : zI) (y : Nat), T.2.2.2 55 w.toNat = some y → OPT S T w y → (∀ c, c < S.1 → σ2 c = σ c) → (∀ c, c < S.1 → τ2 c = τ c) → σ2 (y + 1) 0 = 8 → wi (d + 3) 9 37 [.ref 54, .int (wI w)] [] T σ2 τ2 Q := fun T σ2 τ2 y hy op f1 f2 f8 => by
    refine i5 c_9_37 rfl (i45 c_9_38 (ok54 T _ _) (r54 T _ _) (i3 c_9_41 rfl (i53 c_9_42 (ok55 T _ _) (by decide) ⟨hw.1, hw.2⟩ (fun h => ?_) (fun j h => ?_))))
    · rw [hy] at h; cases h
    · rw [hy] at h
      cases h
      exact i93a c_9_43 (t T σ2 τ2 y op f1 f2 f8)
  refine wc_of mi_9 rfl (i3 c_9_0 rfl (i36 c_9_1 (by omega) rfl (fun h => absurd (show w < 0 from h) (by omega)) (fun _ => ?_)))
  refine i3 c_9_4 rfl (i5 c_9_5 rfl (i45 c_9_6 (ok54 S _ _) (r54 S _ _) (i58 (v := 20) c_9_9 (ok55 S _ _) rfl (i37 c_9_10 (by omega) (by decide) rfl (fun _ => ?_) (fun h => absurd (show w < 20 by omega) h)))))
  refine i5 c_9_15 rfl (i45 c_9_16 (ok54 S _ _) (r54 S _ _) (i3 c_9_19 rfl (i53 c_9_20 (ok55 S _ _) (by decide) ⟨hw.1, hw.2⟩ (fun h => ?_) (fun y h => ?_))))
  · refine i40n c_9_21 (i5 c_9_24 rfl (i45 c_9_25 (ok54 S _ _) (r54 S _ _) (i3 c_9_28 rfl (i60 c_9_29 (i33a c_9_32 ?_)))))
    refine i80 (As := []) (rest := [.ref S.1, .int (wI w), .ref 55]) (n := 0) c_9_33 mi_80 rfl rfl (Nat.le_of_ble_eq_true rfl) (Nat.le_of_ble_eq_true rfl) (fun _ => ⟨by omega, by rw [nS_1]; omega, nS_kn _ _ _ _⟩) (q_80 (d := d + 1) (x := S.1) rfl s100 (nS_kn _ _ _ _) (fun S1 σ1 τ1 nb g1 g2 g8 => ?_))
    show wi (d + 3) 9 36 [.ref 54, .int (wI w)] [.ref S.1, .int (wI w), .ref 55] S1 σ1 τ1 Q
    have ob := nb.2.2.2.2
    have rr : ∀ c, c < S.1 → S1.2.2.2 c = S.2.2.2 c := fun c hc => by rw [nb.2.2.2.1 c hc, nS_r (by omega)]
    have ob2 : oT (pS S1 55 w.toNat S.1) S.1 := ⟨ob.1, ob.2.1, ob.2.2.1, ob.2.2.2.1, ob.2.2.2.2.1, by rw [pS_r (by omega)]; exact ob.2.2.2.2.2.1, by rw [pS_r (by omega)]; exact ob.2.2.2.2.2.2.1, by rw [pS_r (by omega)]; exact ob.2.2.2.2.2.2.2⟩
    refine i57 c_9_36 (ok55 S1 _ _) (oT_0 ob) ⟨hw.1, hw.2⟩ (by decide) (Or.inl rfl) (fin _ σ1 τ1 S.1 (by rw [pS_rn, if_pos rfl]) ⟨by rw [pS_rn, if_pos rfl], ob2, ?_, fun c hc => ?_, fun c k hc hk => ?_, Or.inr ⟨h, rfl, ?_, ?_⟩⟩ (fun c hc => ?_) (fun c hc => ?_) g8)
    · rw [pS_1, nb.1]; omega
    · rw [pS_k, nb.2.2.1 c (by omega), nS_k (by omega)]
    · by_cases e : c = 55
      · subst e
        rw [pS_rn, if_neg (by omega), rr 55 hc]
      · rw [pS_r e, rr c hc]
    · rw [pS_1, nb.1]
    · rw [pS_2, nb.2.1, nS_2]
    · rw [g1 c (by omega), uc_n (by omega)]
    · rw [g2 c (by omega), uc_n (by omega)]
  · have ob := zt.1 w.toNat y (by omega) h
    refine i40a c_9_21 rfl (fin S σ τ y h ⟨h, ob, Nat.le_refl _, fun _ _ => rfl, fun _ _ _ _ => rfl, Or.inl rfl⟩ (fun _ _ => rfl) (fun _ _ => rfl) (z8 w.toNat y (by omega) h))
theorem q_9n {d : Nat} {S : zS} {σ τ : zI} {Q : zQ} (t : Q (some .null) S σ τ) : wc (d + 3) 9 [.ref 54, .int (wI 20)] S σ τ Q := by
  have ok54 : ∀ (T : zS) (σ τ : zI), kO T σ τ → oK T 54 101 0 := fun T σ τ => lo (c := 54) rfl (by decide)
  have ok55 : ∀ (T : zS) (σ τ : zI), kO T σ τ → oK T 55 10 20 := fun T σ τ => lo (c := 55) rfl (by decide)
  have r54 : ∀ (T : zS) (σ τ : zI), kO T σ τ → T.2.2.2 54 0 = some 55 := fun T σ τ => lro (c := 54) (k := 0) (j := 55) (by decide)
  refine wc_of mi_9 rfl (i3 c_9_0 rfl (i36 c_9_1 (by omega) rfl (fun h => absurd (show (20 : Int) < 0 from h) (by omega)) (fun _ => ?_)))
  refine i3 c_9_4 rfl (i5 c_9_5 rfl (i45 c_9_6 (ok54 S _ _) (r54 S _ _) (i58 (v := 20) c_9_9 (ok55 S _ _) rfl (i37 c_9_10 (by omega) (by decide) rfl (fun h => absurd (show (20 : Int) < 20 from h) (by omega)) (fun _ => ?_)))))
  exact i41 c_9_13 (i93n c_9_14 t)
/-- what text of the class leaves -/
def TXQ (S S1 : zS) (b : Int) (σ σ1 : zI) : Prop := ∃ x, OPT S S1 (σ 2 9) x ∧ (∀ c, c < S.1 → c ≠ x → c ≠ x + 1 → c ≠ x + 2 → c ≠ x + 3 → c ≠ 63 → c ≠ 64 → c ≠ 65 → c ≠ 66 → c ≠ 1 → c ≠ 2 → σ1 c = σ c) ∧ (∀ k, k < 3 ∨ 6 < k → σ1 63 k = σ 63 k) ∧ (∀ k, k ≠ 11 → σ1 1 k = σ 1 k) ∧ σ1 1 11 = 0 ∧ (∀ k, k ≠ 9 → σ1 2 k = σ 2 k) ∧ ((rdO (σ 82) (σ 1 11) b 302 0 (sk (σ 82) (σ 1 11) 0) [] []).1 = 0 → σ1 63 5 = 0 ∧ σ1 63 6 = -1 ∧ σ1 2 9 = σ 2 9 + 1 ∧ TI x b (rdO (σ 82) (σ 1 11) b 302 0 (sk (σ 82) (σ 1 11) 0) [] []).2.2.1 (rdO (σ 82) (σ 1 11) b 302 0 (sk (σ 82) (σ 1 11) 0) [] []).2.2.2.1 (rdO (σ 82) (σ 1 11) b 302 0 (sk (σ 82) (σ 1 11) 0) [] []).2.2.2.2 σ1) ∧ ((rdO (σ 82) (σ 1 11) b 302 0 (sk (σ 82) (σ 1 11) 0) [] []).1 ≠ 0 → σ1 63 5 = (rdO (σ 82) (σ 1 11) b 302 0 (sk (σ 82) (σ 1 11) 0) [] []).1 ∧ σ1 63 6 = (rdO (σ 82) (σ 1 11) b 302 0 (sk (σ 82) (σ 1 11) 0) [] []).2.1 ∧ σ1 2 9 = σ 2 9) ∧ σ1 (x + 1) 0 = 8
theorem TI_f {x : Nat} {b m : Int} {L W : List (Int × Int)} {σ σ1 : zI} (h : TI x b m L W σ) (e : ∀ c, x ≤ c → c ≤ x + 3 → σ1 c = σ c) : TI x b m L W σ1 := by
  unfold TI
  rw [e x (by omega) (by omega), e (x + 1) (by omega) (by omega), e (x + 2) (by omega) (by omega), e (x + 3) (by omega) (by omega)]
  exact h
theorem q_159 {d : Nat} {S : zS} {σ τ : zI} {Q : zQ} {b : Int} (p0 : TB (σ 82) (σ 1 11)) (p1 : 0 ≤ σ 2 9 ∧ σ 2 9 ≤ 20) (zt : zT S) (z8 : ∀ k j, k < 20 → S.2.2.2 55 k = some j → σ (j + 1) 0 = 8) (t0 : σ 2 9 = 20 → Q (some (.int (wI (-1)))) S σ τ) (t1 : σ 2 9 ≠ 20 → ∀ S1 σ1 τ1, TXQ S S1 b σ σ1 → (∀ c, c < S.1 → τ1 c = τ c) → Q (some (.int (wI (if (rdO (σ 82) (σ 1 11) b 302 0 (sk (σ 82) (σ 1 11) 0) [] []).1 = 0 then σ 2 9 else -1)))) S1 σ1 τ1) : wc (d + 30) 159 [.ref 1] S σ τ Q := by
  refine wc_ok fun K => ?_
  have s100 := K.1.1
  have ok1 : ∀ (T : zS) (σ τ : zI), kO T σ τ → oK T 1 111 0 := fun T σ τ => lo (c := 1) rfl (by decide)
  have ok2 : ∀ (T : zS) (σ τ : zI), kO T σ τ → oK T 2 108 0 := fun T σ τ => lo (c := 2) rfl (by decide)
  have ok54 : ∀ (T : zS) (σ τ : zI), kO T σ τ → oK T 54 101 0 := fun T σ τ => lo (c := 54) rfl (by decide)
  have ok63 : ∀ (T : zS) (σ τ : zI), kO T σ τ → oK T 63 103 0 := fun T σ τ => lo (c := 63) rfl (by decide)
  have r10 : ∀ (T : zS) (σ τ : zI), kO T σ τ → T.2.2.2 1 0 = some 2 := fun T σ τ => lro (c := 1) (k := 0) (j := 2) (by decide)
  have r14 : ∀ (T : zS) (σ τ : zI), kO T σ τ → T.2.2.2 1 4 = some 54 := fun T σ τ => lro (c := 1) (k := 4) (j := 54) (by decide)
  have r16 : ∀ (T : zS) (σ τ : zI), kO T σ τ → T.2.2.2 1 6 = some 63 := fun T σ τ => lro (c := 1) (k := 6) (j := 63) (by decide)
  have r1t : ∀ (T : zS) (σ τ : zI), kO T σ τ → T.2.2.2 1 10 = some 82 := fun T σ τ => lro (c := 1) (k := 10) (j := 82) (by decide)
  refine wc_of mi_159 rfl (i5 c_159_0 rfl (i45 c_159_1 (ok1 S _ _) (r14 S _ _) (i5 c_159_4 rfl (i45 c_159_5 (ok1 S _ _) (r10 S _ _) (i43 (v := σ 2 9) c_159_8 (ok2 S _ _) rfl ?_)))))
  by_cases e20 : σ 2 9 = 20
  · rw [e20]
    refine i80 (As := [.int (wI 20)]) (rest := []) (n := 0) c_159_11 mi_9 rfl rfl (Nat.le_of_ble_eq_true rfl) (Nat.le_of_ble_eq_true rfl) (ok54 S _ _) (q_9n (d := d + 26) ?_)
    show wi (d + 30) 159 14 [.ref 1, .retAddr 0, .retAddr 0] [.null] S σ τ Q
    exact i8n c_159_14 rfl (i5n c_159_15 rfl (i40n c_159_16 (i1 c_159_19 (i90 c_159_20 (t0 e20)))))
  refine i80 (As := [.int (wI (σ 2 9))]) (rest := []) (n := 0) c_159_11 mi_9 rfl rfl (Nat.le_of_ble_eq_true rfl) (Nat.le_of_ble_eq_true rfl) (ok54 S _ _) (q_9 (d := d + 26) (by omega) zt z8 (fun S1 σ1 τ1 x op f1 f2 f8 => ?_))
  show wi (d + 30) 159 14 [.ref 1, .retAddr 0, .retAddr 0] [.ref x] S1 σ1 τ1 Q
  have ot := op.2.1
  have xb := oT_b ot
  have e1 : σ1 1 = σ 1 := f1 1 (by omega)
  have e2 : σ1 2 = σ 2 := f1 2 (by omega)
  have e82 : σ1 82 = σ 82 := f1 82 (by omega)
  refine i8 c_159_14 rfl (i5 c_159_15 rfl (i40a c_159_16 rfl (i5 c_159_21 rfl (i45 c_159_22 (ok1 S1 _ _) (r16 S1 _ _) (i5 c_159_25 rfl (i45 c_159_26 (ok1 S1 _ _) (r1t S1 _ _) (i5 c_159_29 rfl (i43 (v := σ 1 11) c_159_30 (ok1 S1 _ _) (by rw [e1]; rfl) (i5 c_159_33 rfl ?_)))))))))
  refine i80 (As := [.ref 82, .int (wI (σ 1 11)), .ref x]) (rest := []) (n := 0) c_159_34 mi_35 rfl rfl (Nat.le_of_ble_eq_true rfl) (Nat.le_of_ble_eq_true rfl) (ok63 S1 _ _) (q_35 (d := d) (b := b) ot (by rw [e82]; exact p0) f8 (fun σ2 rd => ?_))
  rw [e82]
  unfold RDQ at rd
  rw [e82] at rd
  obtain ⟨R, hR⟩ : ∃ R, R = rdO (σ 82) (σ 1 11) b 302 0 (sk (σ 82) (σ 1 11) 0) [] [] := ⟨_, rfl⟩
  have t1' := t1 e20
  unfold TXQ at t1'
  rw [← hR] at rd t1' ⊢
  obtain ⟨rd1, rd2, rd3, rd4, rd5⟩ := rd
  have k2 : σ2 2 = σ 2 := by rw [rd1 2 (by omega) (by omega) (by omega) (by omega) (by decide) (by decide) (by decide) (by decide), e2]
  have k1 : σ2 1 = σ 1 := by rw [rd1 1 (by omega) (by omega) (by omega) (by omega) (by decide) (by decide) (by decide) (by decide), e1]
  show wi (d + 30) 159 37 [.ref 1, .ref x, .retAddr 0] [.int (wI (if R.1 = 0 then 1 else 0))] S1 σ2 τ1 Q
  refine i6 c_159_37 rfl (i5 c_159_38 rfl (i1 c_159_39 (i46 (σ1 := uc σ2 1 (u1 (σ2 1) 11 0)) (w := 0) c_159_40 (ok1 S1 _ _) (by decide) rfl (by decide) rfl (i3 c_159_43 rfl ?_))))
  refine i36f c_159_44 rfl (fun c => ?_) (fun c => ?_)
  · refine i5 c_159_49 rfl (i45 c_159_50 (ok1 S1 _ _) (r10 S1 _ _) (i33a c_159_53 (i43 (v := σ 2 9) c_159_54 (ok2 S1 _ _) (by rw [uc_n (by decide), k2]; rfl) (i1 c_159_57 (i10 c_159_58 (i46 (σ1 := uc (uc σ2 1 (u1 (σ2 1) 11 0)) 2 (u1 (σ 2) 9 (σ 2 9 + 1))) (w := σ 2 9 + 1) c_159_59 (ok2 S1 _ _) (by decide) rfl (by omega) (by rw [uc_n (by decide), k2]; rfl) (i5 c_159_62 rfl (i45 c_159_63 (ok1 S1 _ _) (r10 S1 _ _) (i43 (v := σ 2 9 + 1) c_159_66 (ok2 S1 _ _) (by rw [uc_s]; exact u1_s _ _ _) (i1 c_159_69 (i11 c_159_70 (i90 c_159_71 ?_))))))))))))
    have h := t1' S1 (uc (uc σ2 1 (u1 (σ2 1) 11 0)) 2 (u1 (σ 2) 9 (σ 2 9 + 1))) τ1 ⟨x, op, fun c h0 h1 h2 h3 h4 h5 h6 h7 h8 h9 h10 => ?_, fun k hk => ?_, fun k hk => ?_, ?_, fun k hk => ?_, fun _ => ⟨?_, ?_, ?_, ?_⟩, fun z => absurd c z, ?_⟩ f2
    · rw [if_pos c] at h
      rw [show σ 2 9 + 1 - 1 = σ 2 9 by omega]
      exact h
    · rw [uc_n h10, uc_n h9, rd1 c h1 h2 h3 h4 h5 h6 h7 h8, f1 c h0]
    · rw [uc_n (by decide), uc_n (by decide), rd2 k hk, f1 63 (by omega)]
    · rw [uc_n (by decide), uc_s, u1_n hk, k1]
    · rw [uc_n (by decide), uc_s, u1_s]
    · rw [uc_s, u1_n hk]
    · rw [uc_n (by decide), uc_n (by decide)]; exact (rd3 c).1
    · rw [uc_n (by decide), uc_n (by decide)]; exact (rd3 c).2.1
    · rw [uc_s, u1_s]
    · exact TI_f (rd3 c).2.2 (fun c' h1 h2 => by rw [uc_n (by omega), uc_n (by omega)])
    · rw [uc_n (by omega), uc_n (by omega)]; exact rd5
  · refine i1 c_159_47 (i90 c_159_48 ?_)
    have h := t1' S1 (uc σ2 1 (u1 (σ2 1) 11 0)) τ1 ⟨x, op, fun c h0 h1 h2 h3 h4 h5 h6 h7 h8 h9 h10 => ?_, fun k hk => ?_, fun k hk => ?_, ?_, fun k hk => ?_, fun z => absurd z c, fun _ => ⟨?_, ?_, ?_⟩, ?_⟩ f2
    · rw [if_neg c] at h
      exact h
    · rw [uc_n h9, rd1 c h1 h2 h3 h4 h5 h6 h7 h8, f1 c h0]
    · rw [uc_n (by decide), rd2 k hk, f1 63 (by omega)]
    · rw [uc_s, u1_n hk, k1]
    · rw [uc_s, u1_s]
    · rw [uc_n (by decide), k2]
    · rw [uc_n (by decide)]; exact (rd4 c).1
    · rw [uc_n (by decide)]; exact (rd4 c).2
    · rw [uc_n (by decide), k2]
    · rw [uc_n (by omega)]; exact rd5
