/-! ===== books of WEEKS: open (segments printed by wip/whole, contracts own work) ===== -/
theorem c_2_0 : pg_cd 2 0 = (3, 1, 0, 1, 0) := by decide +kernel
theorem c_2_1 : pg_cd 2 1 = (36, 3, 0, 2, 10) := by decide +kernel
theorem c_2_4 : pg_cd 2 4 = (3, 1, 0, 1, 0) := by decide +kernel
theorem c_2_5 : pg_cd 2 5 = (1, 3, 0, 0, 400) := by decide +kernel
theorem c_2_8 : pg_cd 2 8 = (37, 3, 0, 2, 5) := by decide +kernel
theorem c_2_11 : pg_cd 2 11 = (41, 1, 0, 0, 0) := by decide +kernel
theorem c_2_12 : pg_cd 2 12 = (93, 0, 0, 0, 0) := by decide +kernel
theorem c_2_13 : pg_cd 2 13 = (5, 1, 0, 0, 0) := by decide +kernel
theorem c_2_14 : pg_cd 2 14 = (45, 0, 11, 0, 0) := by decide +kernel
theorem c_2_17 : pg_cd 2 17 = (3, 1, 0, 1, 0) := by decide +kernel
theorem c_2_18 : pg_cd 2 18 = (53, 10, 0, 0, 0) := by decide +kernel
theorem c_2_19 : pg_cd 2 19 = (40, 3, 0, 0, 16) := by decide +kernel
theorem c_2_22 : pg_cd 2 22 = (5, 1, 0, 0, 0) := by decide +kernel
theorem c_2_23 : pg_cd 2 23 = (45, 0, 11, 0, 0) := by decide +kernel
theorem c_2_26 : pg_cd 2 26 = (3, 1, 0, 1, 0) := by decide +kernel
theorem c_2_27 : pg_cd 2 27 = (60, 10, 9, 9, 0) := by decide +kernel
theorem c_2_30 : pg_cd 2 30 = (33, 1, 0, 0, 0) := by decide +kernel
theorem c_2_31 : pg_cd 2 31 = (80, 137, 17, 0, 0) := by decide +kernel
theorem c_2_34 : pg_cd 2 34 = (57, 10, 0, 0, 0) := by decide +kernel
theorem c_2_35 : pg_cd 2 35 = (5, 1, 0, 0, 0) := by decide +kernel
theorem c_2_36 : pg_cd 2 36 = (45, 0, 11, 0, 0) := by decide +kernel
theorem c_2_39 : pg_cd 2 39 = (3, 1, 0, 1, 0) := by decide +kernel
theorem c_2_40 : pg_cd 2 40 = (53, 10, 0, 0, 0) := by decide +kernel
theorem c_2_41 : pg_cd 2 41 = (80, 138, 18, 0, 0) := by decide +kernel
theorem c_2_44 : pg_cd 2 44 = (5, 1, 0, 0, 0) := by decide +kernel
theorem c_2_45 : pg_cd 2 45 = (45, 0, 11, 0, 0) := by decide +kernel
theorem c_2_48 : pg_cd 2 48 = (3, 1, 0, 1, 0) := by decide +kernel
theorem c_2_49 : pg_cd 2 49 = (53, 10, 0, 0, 0) := by decide +kernel
theorem c_2_50 : pg_cd 2 50 = (93, 0, 0, 0, 0) := by decide +kernel
theorem mi_2 : pg_mc 2 = 0 ∧ pg_na 2 = 1 ∧ pg_mx 2 = 2 := by decide +kernel
/-- a WEEK's book is there, everything else as it was -/
def OP (S S1 : zS) (w : Int) (y : Nat) : Prop := S1.2.2.2 59 w.toNat = some y ∧ oB S1 y ∧ S.1 ≤ S1.1 ∧ (∀ c, c < S.1 → S1.2.2.1 c = S.2.2.1 c) ∧ (∀ c k, c < S.1 → (c ≠ 59 ∨ k ≠ w.toNat) → S1.2.2.2 c k = S.2.2.2 c k) ∧ (S1 = S ∨ S.2.2.2 59 w.toNat = none ∧ y = S.1 ∧ S1.1 = S.1 + 8 ∧ S1.2.1 = S.2.1 + 233)
theorem q_2 {d : Nat} {S : zS} {σ τ : zI} {Q : zQ} {w : Int} (hw : 0 ≤ w ∧ w < 400) (zb : zB S) (t : ∀ S1 σ1 τ1 y, OP S S1 w y → (∀ c, c < S.1 → c < y ∨ y + 7 < c → σ1 c = σ c) → (∀ c, c < S.1 → τ1 c = τ c) → CB σ1 y → Q (some (.ref y)) S1 σ1 τ1) : wc (d + 4) 2 [.ref 58, .int (wI w)] S σ τ Q := by
  refine wc_ok fun K => ?_
  have s100 := K.1.1
  have ok58 : ∀ (T : zS) (σ τ : zI), kO T σ τ → oK T 58 100 0 := fun T σ τ => lo (c := 58) rfl (by decide)
  have ok59 : ∀ (T : zS) (σ τ : zI), kO T σ τ → oK T 59 13 400 := fun T σ τ => lo (c := 59) rfl (by decide)
  have r58 : ∀ (T : zS) (σ τ : zI), kO T σ τ → T.2.2.2 58 0 = some 59 := fun T σ τ => lro (c := 58) (k := 0) (j := 59) (by decide)
  -- the end, from 35
  have fin : ∀ (T : zS) (σ2 τ2 : zI) (y : Nat), T.2.2.2 59 w.toNat = some y → oB T y → OP S T w y → (∀ c, c < S.1 → σ2 c = σ c) → (∀ c, c < S.1 → τ2 c = τ c) → wi (d + 4) 2 35 [.ref 58, .int (wI w)] [] T σ2 τ2 Q := fun T σ2 τ2 y hy ob op f1 f2 => by
    refine i5 c_2_35 rfl (i45 c_2_36 (ok58 T _ _) (r58 T _ _) (i3 c_2_39 rfl (i53 c_2_40 (ok59 T _ _) (by decide) ⟨hw.1, hw.2⟩ (fun h => ?_) (fun j h => ?_))))
    · rw [hy] at h; cases h
    · rw [hy] at h
      cases h
      refine i80 (As := []) (rest := []) c_2_41 mi_138 rfl rfl (Nat.le_of_ble_eq_true rfl) (Nat.le_of_ble_eq_true rfl) (fun _ => oB_0 ob) (q_138 ob (fun σ3 g1 cb => ?_))
      show wi (d + 4) 2 44 [.ref 58, .int (wI w)] [] T σ3 τ2 Q
      refine i5 c_2_44 rfl (i45 c_2_45 (ok58 T _ _) (r58 T _ _) (i3 c_2_48 rfl (i53 c_2_49 (ok59 T _ _) (by decide) ⟨hw.1, hw.2⟩ (fun h => ?_) (fun j h => ?_))))
      · rw [hy] at h; cases h
      · rw [hy] at h
        cases h
        exact i93a c_2_50 (t T σ3 τ2 y op (fun c c0 c1 => by rw [g1 c c1]; exact f1 c c0) f2 cb)
  have hc1 : ¬ zc 2 w 0 → True := fun _ => trivial
  refine wc_of mi_2 rfl (i3 c_2_0 rfl (i36 c_2_1 (by omega) rfl (fun h => absurd (show w < 0 from h) (by omega)) (fun _ => ?_)))
  refine i3 c_2_4 rfl (i1 c_2_5 (i37 c_2_8 (by omega) (by decide) rfl (fun _ => ?_) (fun h => absurd (show w < 400 by omega) h)))
  refine i5 c_2_13 rfl (i45 c_2_14 (ok58 S _ _) (r58 S _ _) (i3 c_2_17 rfl (i53 c_2_18 (ok59 S _ _) (by decide) ⟨hw.1, hw.2⟩ (fun h => ?_) (fun y h => ?_))))
  · refine i40n c_2_19 (i5 c_2_22 rfl (i45 c_2_23 (ok58 S _ _) (r58 S _ _) (i3 c_2_26 rfl (i60 c_2_27 (i33a c_2_30 ?_)))))
    refine i80 (As := []) (rest := [.ref S.1, .int (wI w), .ref 59]) (n := 0) c_2_31 mi_137 rfl rfl (Nat.le_of_ble_eq_true rfl) (Nat.le_of_ble_eq_true rfl) (fun _ => ⟨by omega, by rw [nS_1]; omega, nS_kn _ _ _ _⟩) (q_137 (d := d + 3) (y := S.1) rfl s100 (nS_kn _ _ _ _) (fun S1 σ1 τ1 nb g1 g2 => ?_))
    show wi (d + 4) 2 34 [.ref 58, .int (wI w)] [.ref S.1, .int (wI w), .ref 59] S1 σ1 τ1 Q
    have ob := nb.2.2.2.2
    have rr : ∀ c, c < S.1 → S1.2.2.2 c = S.2.2.2 c := fun c hc => by rw [nb.2.2.2.1 c hc, nS_r (by omega)]
    have ob2 : oB (pS S1 59 w.toNat S.1) S.1 := ⟨ob.1, ob.2.1, ob.2.2.1, fun k hk => by rw [pS_r (by omega)]; exact ob.2.2.2 k hk⟩
    refine i57 c_2_34 (ok59 S1 _ _) (oB_0 ob) ⟨hw.1, hw.2⟩ (by decide) (Or.inr rfl) (fin _ σ1 τ1 S.1 (by rw [pS_rn, if_pos rfl]) ob2 ⟨by rw [pS_rn, if_pos rfl], ob2, ?_, fun c hc => ?_, fun c k hc hk => ?_, Or.inr ⟨h, rfl, ?_, ?_⟩⟩ (fun c hc => ?_) (fun c hc => ?_))
    · rw [pS_1, nb.1]; omega
    · rw [pS_k, nb.2.2.1 c (by omega), nS_k (by omega)]
    · by_cases e : c = 59
      · subst e
        rw [pS_rn, if_neg (by omega), rr 59 hc]
      · rw [pS_r e, rr c hc]
    · rw [pS_1, nb.1]
    · rw [pS_2, nb.2.1, nS_2]
    · rw [g1 c (by omega), uc_n (by omega)]
    · rw [g2 c (by omega), uc_n (by omega)]
  · have ob := zb.1 w.toNat y (by omega) h
    refine i40a c_2_19 rfl (fin S σ τ y h ob ⟨h, ob, Nat.le_refl _, fun _ _ => rfl, fun _ _ _ _ => rfl, Or.inl rfl⟩ (fun _ _ => rfl) (fun _ _ => rfl))
