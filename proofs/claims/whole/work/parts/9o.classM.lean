/-! ===== a WEEK of the class (segments printed by wip/whole, contracts own work) ===== -/
section OPS
variable {S S1 : zS} {σ σ1 : zI} {a : Int → Int} {w : Int} {x y : Nat}
theorem oK_op {i kd n : Nat} (op : OP S S1 w y) (h : oK S i kd n) : oK S1 i kd n := ⟨h.1, by have := op.2.2.1; have := h.2.1; omega, by rw [op.2.2.2.1 i h.2.1]; exact h.2.2⟩
theorem oT_op (op : OP S S1 w y) (h : oT S x) : oT S1 x := by
  have b := oT_b h
  have r := op.2.2.2.2.1
  refine ⟨h.1, oK_op op (oT_0 h), oK_op op (oT_1 h), oK_op op (oT_2 h), oK_op op (oT_3 h), ?_, ?_, ?_⟩
  · rw [r _ _ (oT_0 h).2.1 (by omega)]; exact oT_r0 h
  · rw [r _ _ (oT_0 h).2.1 (by omega)]; exact oT_r1 h
  · rw [r _ _ (oT_1 h).2.1 (by omega)]; exact oT_r2 h
theorem oB_op {y' : Nat} (op : OP S S1 w y) (h : oB S y') : oB S1 y' := by
  have b := oB_b h
  have r := op.2.2.2.2.1
  refine ⟨h.1, oK_op op (oB_0 h), ⟨oK_op op (oB_1 h), oK_op op (oB_2 h), oK_op op (oB_3 h), oK_op op (oB_4 h), oK_op op (oB_5 h), oK_op op (oB_6 h), oK_op op (oB_7 h)⟩, fun k hk => ?_⟩
  rw [r _ _ (oB_0 h).2.1 (by omega)]; exact h.2.2.2 k hk
theorem zB_op (zb : zB S) (op : OP S S1 w y) (s : 100 ≤ S.1) (hw : 0 ≤ w ∧ w < 400) : zB S1 := by
  have r := op.2.2.2.2.1
  have o : ∀ k, k ≠ w.toNat → S1.2.2.2 59 k = S.2.2.2 59 k := fun k hk => r 59 k (by omega) (Or.inr hk)
  have key : ∀ k j, k < 400 → k ≠ w.toNat → S.2.2.2 59 k = some j → S1.2.2.2 59 w.toNat = some j → False := fun k j hk hn h1 h2 => by
    have hj := (oB_0 (zb.1 k j hk h1)).2.1
    have ey : j = y := by have := op.1; rw [h2] at this; exact Option.some.inj this
    rcases op.2.2.2.2.2 with e | ⟨_, e, _⟩
    · rw [e] at h2
      exact hn (zb.2 k w.toNat j hk (by omega) h1 h2)
    · omega
  refine ⟨fun k j hk h => ?_, fun k k' j hk hk' h h' => ?_⟩
  · by_cases e : k = w.toNat
    · rw [e, op.1] at h
      cases h
      exact op.2.1
    · rw [o k e] at h
      exact oB_op op (zb.1 k j hk h)
  · by_cases e : k = w.toNat
    · by_cases e' : k' = w.toNat
      · rw [e, e']
      · rw [o k' e'] at h'
        rw [e] at h
        exact (key k' j hk' e' h' h).elim
    · rw [o k e] at h
      by_cases e' : k' = w.toNat
      · rw [e'] at h'
        exact (key k j hk e h h').elim
      · rw [o k' e'] at h'
        exact zb.2 k k' j hk hk' h h'
/-- a TEXT and a book lie apart -/
theorem oBT_dj (h : oB S y) (t : oT S x) : y + 8 ≤ x ∨ x + 4 ≤ y := by
  by_cases c : y ≤ x
  · by_cases l : y + 8 ≤ x
    · exact Or.inl l
    · have e := (oT_0 t).2.2
      have k : x = y ∨ x = y + 1 ∨ x = y + 2 ∨ x = y + 3 ∨ x = y + 4 ∨ x = y + 5 ∨ x = y + 6 ∨ x = y + 7 := by omega
      rcases k with k | k | k | k | k | k | k | k
      · rw [k, (oB_0 h).2.2] at e; cases e
      · rw [k, (oB_1 h).2.2] at e; cases e
      · rw [k, (oB_2 h).2.2] at e; cases e
      · rw [k, (oB_3 h).2.2] at e; cases e
      · rw [k, (oB_4 h).2.2] at e; cases e
      · rw [k, (oB_5 h).2.2] at e; cases e
      · rw [k, (oB_6 h).2.2] at e; cases e
      · rw [k, (oB_7 h).2.2] at e; cases e
  · by_cases l : x + 4 ≤ y
    · exact Or.inr l
    · have e := (oB_0 h).2.2
      have k : y = x + 1 ∨ y = x + 2 ∨ y = x + 3 := by omega
      rcases k with k | k | k
      · rw [k, (oT_1 t).2.2] at e; cases e
      · rw [k, (oT_2 t).2.2] at e; cases e
      · rw [k, (oT_3 t).2.2] at e; cases e
theorem RX_fy (h : RX S σ a) (ob : oB S y) (f : ∀ c, 100 ≤ c → c < S.1 → c < y ∨ y + 7 < c → σ1 c = σ c) : RX S σ1 a := ⟨h.1, fun n n0 n1 => by
  obtain ⟨x, q1, q2, q3⟩ := h.2 n n0 n1
  have d := oBT_dj ob q2
  have b := oT_b q2
  have l := (oT_3 q2).2.1
  exact ⟨x, q1, q2, TX_f q3 (fun c h1 h2 => f c (by omega) (by omega) (by omega))⟩⟩
theorem RX_op (h : RX S σ a) (op : OP S S1 w y) (s : 100 ≤ S.1) (f : ∀ c, c < S.1 → c < y ∨ y + 7 < c → σ1 c = σ c) : RX S1 σ1 a := by
  have h1 : RX S1 σ a := ⟨h.1, fun n n0 n1 => by
    obtain ⟨x, q1, q2, q3⟩ := h.2 n n0 n1
    exact ⟨x, by rw [op.2.2.2.2.1 55 _ (by omega) (by omega)]; exact q1, oT_op op q2, q3⟩⟩
  refine ⟨h.1, fun n n0 n1 => ?_⟩
  obtain ⟨x, q1, q2, q3⟩ := h.2 n n0 n1
  have d := oBT_dj op.2.1 (oT_op op q2)
  have l := (oT_3 q2).2.1
  exact ⟨x, by rw [op.2.2.2.2.1 55 _ (by omega) (by omega)]; exact q1, oT_op op q2, TX_f q3 (fun c h1 h2 => f c (by omega) (by omega))⟩
theorem CB_f (h : CB σ y) (f : ∀ c, y ≤ c → c ≤ y + 7 → σ1 c = σ c) : CB σ1 y := by
  obtain ⟨q1, q2, q3, q4⟩ := h
  refine ⟨fun p p0 p1 => ?_, fun m m0 m1 => ?_, fun x x0 x1 => ?_, ?_⟩
  · rw [f (y + 1) (by omega) (by omega), f (y + 2) (by omega) (by omega)]; exact q1 p p0 p1
  · rw [f (y + 3) (by omega) (by omega)]; exact q2 m m0 m1
  · rw [f (y + 4) (by omega) (by omega), f (y + 5) (by omega) (by omega), f (y + 6) (by omega) (by omega), f (y + 7) (by omega) (by omega)]; exact q3 x x0 x1
  · rw [f y (by omega) (by omega)]; exact q4
theorem CT1_0 {t : Nat} (h : CB0 σ t a) : CT1 σ t a 0 := by
  unfold CT1
  refine CS_c (fun p c p0 p1 c0 c1 => ?_) (fun m c m0 m1 c0 c1 => (MI1_0' a m c m0).symm) (fun m m0 m1 => ?_) (fun _ _ _ _ _ _ => rfl) h.1
  · rw [PE1_0']
    unfold PE0
    rw [if_neg (by omega)]
  · unfold TKc
    rw [if_neg (fun z => absurd z.1 (by omega))]
theorem CTq_0 {t : Nat} (h : CT1 σ t a (a 1)) : CTq σ t a 0 := by
  unfold CTq
  refine CS_c (fun p c p0 p1 c0 c1 => ?_) (fun m c m0 m1 c0 c1 => ?_) (fun m m0 m1 => ?_) (fun _ _ _ _ _ _ => rfl) h
  · unfold PEq
    rw [if_neg (by omega)]
  · unfold MIq
    by_cases q : wk_D a m ∧ (c = 2 ∨ c = 4 ∨ c = 10)
    · rw [if_pos q, wk_s_0]
      unfold MI1 MI0
      rw [if_neg (by omega)]
      obtain ⟨_, q2⟩ := q
      rcases q2 with rfl | rfl | rfl
      · rw [if_neg (by omega), if_pos rfl]
      · rw [if_neg (by omega), if_neg (by omega), if_pos rfl]
      · rw [if_pos ⟨m1, by omega⟩, if_neg (by omega), if_neg (by omega), if_neg (by omega)]
        show 0 = wk_tx a m - wk_tx a m
        omega
    · rw [if_neg q]
  · unfold TKc TKq
    by_cases d : wk_D a m
    · rw [if_pos ⟨m1, d⟩, if_pos d, wk_s_0]
      exact (if_pos d : wk_tx a m = _).symm
    · rw [if_neg (fun z => d z.2), if_neg d]
theorem A5_need (h0 : 0 ≤ a 0) (h4 : a 4 ≤ 60) (x : Int) : r_need (A5 a) x = r_need a x := by
  have c := A5_c (a := a) h0
  unfold r_need
  refine sI_e c.2.2.2.2.1 (fun p p0 p1 => ?_)
  have p1 : p < a 4 := by omega
  have e : ∀ c, 0 ≤ c → c ≤ 1 → A5 a (3652 + 12 * p + c) = a (3652 + 12 * p + c) := fun c c0 c1 => by
    rw [A5_p (by omega) (by omega)]; exact PE4_a (by omega) (by omega) (by omega) (by omega)
  rw [e 0 (by omega) (by omega), e 1 (by omega) (by omega)]
end OPS
/-- what the class counts over a WEEK -/
def TW (a : Int → Int) (σ σ1 : zI) : Prop := σ1 53 6 = zw (σ 53 6 + sI (fun h => r_week a (22300 + 24 * a 0 + h)) (a 3)) ∧ σ1 53 7 = zw (σ 53 7 + sI (fun h => r_week a (31900 + 24 * a 0 + h)) (a 3)) ∧ σ1 53 8 = zw (σ 53 8 + sI (wk_md a) (a 1)) ∧ σ1 53 9 = zw (σ 53 9 + sI (wk_Wf a) (a 4))
/-- what a WEEK of the class leaves alone -/
def PW (S : zS) (σ σ1 : zI) (tn y : Nat) : Prop := (∀ c, c < S.1 → c < y ∨ y + 7 < c → c < 53 ∨ 62 < c ∨ c = 55 ∨ c = 56 ∨ c = 57 ∨ c = 58 ∨ c = 59 → c < tn ∨ tn + 16 < c → σ1 c = σ c) ∧ ∀ k, k < 3 ∨ 4 < k → σ1 54 k = σ 54 k
-- method 109: MillTown$Week.pass(LMillTown$Town;)V
theorem c_109_0 : pg_cd 109 0 = (5, 1, 0, 0, 0) := by decide +kernel
theorem c_109_1 : pg_cd 109 1 = (45, 9, 21, 1, 0) := by decide +kernel
theorem c_109_4 : pg_cd 109 4 = (5, 1, 0, 1, 0) := by decide +kernel
theorem c_109_5 : pg_cd 109 5 = (43, 8, 48, 8, 0) := by decide +kernel
theorem c_109_8 : pg_cd 109 8 = (80, 2, 53, 0, 0) := by decide +kernel
theorem c_109_11 : pg_cd 109 11 = (8, 1, 0, 2, 0) := by decide +kernel
theorem c_109_12 : pg_cd 109 12 = (5, 1, 0, 2, 0) := by decide +kernel
theorem c_109_13 : pg_cd 109 13 = (40, 3, 0, 0, 4) := by decide +kernel
theorem c_109_16 : pg_cd 109 16 = (94, 0, 0, 0, 0) := by decide +kernel
theorem c_109_17 : pg_cd 109 17 = (5, 1, 0, 0, 0) := by decide +kernel
theorem c_109_18 : pg_cd 109 18 = (5, 1, 0, 1, 0) := by decide +kernel
theorem c_109_19 : pg_cd 109 19 = (80, 110, 57, 0, 0) := by decide +kernel
theorem c_109_22 : pg_cd 109 22 = (5, 1, 0, 0, 0) := by decide +kernel
theorem c_109_23 : pg_cd 109 23 = (5, 1, 0, 1, 0) := by decide +kernel
theorem c_109_24 : pg_cd 109 24 = (80, 113, 61, 0, 0) := by decide +kernel
theorem c_109_27 : pg_cd 109 27 = (5, 1, 0, 0, 0) := by decide +kernel
theorem c_109_28 : pg_cd 109 28 = (5, 1, 0, 1, 0) := by decide +kernel
theorem c_109_29 : pg_cd 109 29 = (80, 115, 64, 0, 0) := by decide +kernel
theorem c_109_32 : pg_cd 109 32 = (5, 1, 0, 0, 0) := by decide +kernel
theorem c_109_33 : pg_cd 109 33 = (5, 1, 0, 1, 0) := by decide +kernel
theorem c_109_34 : pg_cd 109 34 = (80, 116, 67, 0, 0) := by decide +kernel
theorem c_109_37 : pg_cd 109 37 = (5, 1, 0, 0, 0) := by decide +kernel
theorem c_109_38 : pg_cd 109 38 = (5, 1, 0, 1, 0) := by decide +kernel
theorem c_109_39 : pg_cd 109 39 = (80, 122, 70, 0, 0) := by decide +kernel
theorem c_109_42 : pg_cd 109 42 = (5, 1, 0, 0, 0) := by decide +kernel
theorem c_109_43 : pg_cd 109 43 = (5, 1, 0, 1, 0) := by decide +kernel
theorem c_109_44 : pg_cd 109 44 = (80, 127, 73, 0, 0) := by decide +kernel
theorem c_109_47 : pg_cd 109 47 = (5, 1, 0, 0, 0) := by decide +kernel
theorem c_109_48 : pg_cd 109 48 = (5, 1, 0, 1, 0) := by decide +kernel
theorem c_109_49 : pg_cd 109 49 = (80, 128, 76, 0, 0) := by decide +kernel
theorem c_109_52 : pg_cd 109 52 = (5, 1, 0, 0, 0) := by decide +kernel
theorem c_109_53 : pg_cd 109 53 = (5, 1, 0, 1, 0) := by decide +kernel
theorem c_109_54 : pg_cd 109 54 = (5, 1, 0, 2, 0) := by decide +kernel
theorem c_109_55 : pg_cd 109 55 = (80, 129, 79, 0, 0) := by decide +kernel
theorem c_109_58 : pg_cd 109 58 = (5, 1, 0, 0, 0) := by decide +kernel
theorem c_109_59 : pg_cd 109 59 = (5, 1, 0, 1, 0) := by decide +kernel
theorem c_109_60 : pg_cd 109 60 = (5, 1, 0, 2, 0) := by decide +kernel
theorem c_109_61 : pg_cd 109 61 = (80, 130, 83, 0, 0) := by decide +kernel
theorem c_109_64 : pg_cd 109 64 = (5, 1, 0, 1, 0) := by decide +kernel
theorem c_109_65 : pg_cd 109 65 = (81, 134, 86, 0, 0) := by decide +kernel
theorem c_109_68 : pg_cd 109 68 = (5, 1, 0, 0, 0) := by decide +kernel
theorem c_109_69 : pg_cd 109 69 = (5, 1, 0, 1, 0) := by decide +kernel
theorem c_109_70 : pg_cd 109 70 = (5, 1, 0, 2, 0) := by decide +kernel
theorem c_109_71 : pg_cd 109 71 = (80, 135, 89, 0, 0) := by decide +kernel
theorem c_109_74 : pg_cd 109 74 = (5, 1, 0, 1, 0) := by decide +kernel
theorem c_109_75 : pg_cd 109 75 = (33, 1, 0, 0, 0) := by decide +kernel
theorem c_109_76 : pg_cd 109 76 = (43, 8, 48, 8, 0) := by decide +kernel
theorem c_109_79 : pg_cd 109 79 = (1, 1, 0, 0, 1) := by decide +kernel
theorem c_109_80 : pg_cd 109 80 = (10, 1, 0, 0, 0) := by decide +kernel
theorem c_109_81 : pg_cd 109 81 = (46, 8, 48, 8, 0) := by decide +kernel
theorem c_109_84 : pg_cd 109 84 = (94, 0, 0, 0, 0) := by decide +kernel
theorem mi_109 : pg_mc 109 = 9 ∧ pg_na 109 = 1 ∧ pg_mx 109 = 3 := by decide +kernel
set_option maxRecDepth 20000 in
theorem u_109_0 {d : Nat} {S : zS} {σ τ : zI} {Q : zQ} {x1 : Nat} (hx1 : tw x1) (t : wc (d + 13) 2 [.ref 58, .int (wI (σ x1 8))] S σ τ (fun r S1 σ1 τ1 => wi (d + 14) 109 11 [.ref 53, .ref x1, .retAddr 0] (r.toList ++ []) S1 σ1 τ1 Q)) : wi (d + 14) 109 0 [.ref 53, .ref x1, .retAddr 0] [] S σ τ Q := by
  refine i5 c_109_0 rfl (i45 c_109_1 (lo (c := 53) (kd := 109) (n := 0) rfl (by decide)) (lro (c := 53) (k := 1) (j := 58) (by decide)) (i5 c_109_4 rfl (wi_ok (fun K1 => ?_))))
  refine i43 (v := σ x1 8) c_109_5 (lo (lyt_0 hx1) (by have := tw_b hx1; omega)) rfl ?_
  exact i80 (As := [.int (wI (σ x1 8))]) (rest := []) c_109_8 mi_2 rfl rfl (Nat.le_of_ble_eq_true rfl) (Nat.le_of_ble_eq_true rfl) (lo (c := 58) (kd := 100) (n := 0) rfl (by decide)) t
set_option maxRecDepth 20000 in
theorem u_109_11 {d : Nat} {S : zS} {σ τ : zI} {Q : zQ} {x1 : Nat} {y2 : Value} {y0 : Nat} (hx1 : tw x1) (hy0 : oB S y0) (t : ∃ a1 : Int → Int, (RT σ x1 a1) ∧ (Jv a1) ∧ (a1 0 ≤ 399) ∧ ∀ (σ15 : zI), BC a1 x1 σ σ15 → ∃ a7 : Int → Int, (CB0 σ15 x1 a7) ∧ (RX S σ15 a7) ∧ (Jv a7) ∧ (jv_T a7) ∧ (jv_E a7) ∧ (a7 0 ≤ 399) ∧ (∀ k, 0 ≤ k → k < 48 → σ15 62 k = -1) ∧ ∀ (σ115 : zI) (τ116 : zI), (∀ c, c ≠ 54 → c ≠ 62 → σ115 c = σ15 c) → (∀ k, k < 3 ∨ 4 < k → σ115 54 k = σ15 54 k) → (∀ o m, 0 ≤ o → o < a7 7 → 0 ≤ m → m < a7 1 → wk_op a7 (wk_T a7 0) o → wk_cr a7 m → σ115 62 (m * 6 + a7 (4372 + 8 * o)) = wk_py a7 m o) → ∃ a20 : Int → Int, (CB0 σ115 x1 a20) ∧ (RX S σ115 a20) ∧ (Jv a20) ∧ (jv_T a20) ∧ (a20 0 ≤ 399) ∧ (∀ p, 0 ≤ p → p < 60 → σ115 60 p = 0) ∧ ∀ (σ127 : zI), (∀ c, c ≠ 60 → σ127 c = σ115 c) → (∀ p, 0 ≤ p → p < a20 4 → σ127 60 p = wk_h a20 p) → ∃ a30 : Int → Int, (CT1 σ127 x1 a30 0) ∧ (Jv a30) ∧ (jv_T a30) ∧ (a30 0 ≤ 399) ∧ (σ127 53 5 = wk_ct a30) ∧ (PYk σ127 a30) ∧ (∀ p, 0 ≤ p → p < a30 4 → σ127 60 p = wk_h a30 p) ∧ ∀ (σ138 : zI), (∀ c, c ≠ x1 + 6 → c ≠ x1 + 12 → c ≠ x1 + 14 → σ138 c = σ127 c) → CT1 σ138 x1 a30 (a30 1) → ∃ a41 : Int → Int, (CTq σ138 x1 a41 0) ∧ (Jv a41) ∧ (jv_T a41) ∧ (a41 0 ≤ 399) ∧ (σ138 53 5 = wk_ct a41) ∧ (PYk σ138 a41) ∧ (∀ p, 0 ≤ p → p < a41 4 → σ138 60 p = wk_h a41 p) ∧ (∀ p, 0 ≤ p → p < 60 → σ138 61 p = 0) ∧ ∀ (σ150 : zI), (∀ c, c ≠ 61 → c ≠ x1 + 6 → c ≠ x1 + 12 → σ150 c = σ138 c) → CTq σ150 x1 a41 (a41 4) → (∀ p, 0 ≤ p → p < 60 → σ150 61 p = wk_Wq a41 (a41 4) p) → ∃ a54 : Int → Int, (CTq σ150 x1 a54 (a54 4)) ∧ (Jv a54) ∧ (jv_T a54) ∧ (a54 0 ≤ 399) ∧ (∀ p, 0 ≤ p → p < 60 → σ150 61 p = wk_Wq a54 (a54 4) p) ∧ ∀ (σ160 : zI), (∀ c, c ≠ 53 → c ≠ x1 + 6 → c ≠ x1 + 14 → σ160 c = σ150 c) → (∀ k, k ≠ 8 → k ≠ 9 → σ160 53 k = σ150 53 k) → σ160 53 9 = zw (σ150 53 9 + sI (wk_Wf a54) (a54 4)) → σ160 53 8 = zw (σ150 53 8 + sI (wk_md a54) (a54 1)) → CT3 σ160 x1 a54 → ∃ a66 : Int → Int, (CT3 σ160 x1 a66) ∧ (Jv a66) ∧ (jv_T a66) ∧ (a66 0 ≤ 399) ∧ (jv_U a66) ∧ (∀ p, 0 ≤ p → p < 60 → σ160 61 p = wk_Wf a66 p) ∧ ∀ (σ173 : zI), (∀ c, c ≠ 61 → c ≠ x1 → σ173 c = σ160 c) → (∀ k, k ≠ 13 → σ173 x1 k = σ160 x1 k) → σ173 x1 13 = wk_F2 a66 (a66 4) → (∀ p, 0 ≤ p → p < a66 4 → σ173 61 p = wk_W2 a66 p) → ∃ a78 : Int → Int, (cT_P σ173 x1 a78 (PE2 a78 (a78 1)) ∧ cT_M σ173 x1 a78 (MI3 a78 (a78 1)) (TKq a78 (a78 4))) ∧ (Jv a78) ∧ (jv_T a78) ∧ (a78 0 ≤ 399) ∧ (CB σ173 y0) ∧ (∀ p, 0 ≤ p → p < a78 4 → σ173 61 p = wk_W2 a78 p) ∧ ∀ (σ185 : zI), (∀ c, c ≠ x1 + 12 → c ≠ y0 + 1 → c ≠ y0 + 2 → c ≠ y0 + 3 → c ≠ y0 + 4 → σ185 c = σ173 c) → (∀ p c, 0 ≤ p → p < a78 4 → 0 ≤ c → c ≤ 8 → σ185 (x1 + 12) (p * 9 + c) = if c = 8 then wk_W2 a78 p else σ173 (x1 + 12) (p * 9 + c)) → BW σ185 y0 a78 → ∃ b89 : Int → Int, ∃ L90 : Int, ∃ a91 : Int → Int, (CH σ185 x1 b89) ∧ (HI b89 L90 0) ∧ (rT_W σ185 x1 a91 ∧ r_pr a91 1 (b89 0) = L90) ∧ ((∀ h, 0 ≤ h → h < 24 → σ185 (y0 + 4) h = hg_e b89 h (b89 4) ∧ σ185 (y0 + 5) h = 0 ∧ σ185 (y0 + 6) h = 0 ∧ σ185 (y0 + 7) h = 0) ∧ σ185 y0 7 = 0) ∧ (∀ h, 0 ≤ h → h < 24 → b89 3 ≤ h ∨ b89 (3460 + 8 * h + 3) ≠ 0 → hg_e b89 h (b89 4) = 0) ∧ (zB S ∧ S.2.2.2 59 (b89 0).toNat = some y0) ∧ (∀ w, 0 ≤ w → w < b89 0 → ∃ y0, S.2.2.2 59 w.toNat = some y0 ∧ ∀ h, 0 ≤ h → h < 24 → σ185 (y0 + 4) h = b89 (22300 + 24 * w + h)) ∧ (σ185 x1 10 = b89 15) ∧ (∀ h f, 0 ≤ h → h < 24 → wkF f → b89 (f + 24 * b89 0 + h) = 0) ∧ ∀ (σ1101 : zI) (σ2102 : zI), KI σ185 σ2102 x1 y0 b89 (r_hgs b89 L90 (b89 3)) L90 (b89 3) → KB b89 (r_hgs b89 L90 (b89 3)) (b89 3) → σ1101 = uc σ2102 x1 (u1 (σ2102 x1) 10 (r_hgs b89 L90 (b89 3) 15)) → ∃ b106 : Int → Int, (rT_Q σ1101 x1 b106) ∧ (0 ≤ b106 2 ∧ b106 2 ≤ 4) ∧ (∀ s, 0 ≤ s → s < b106 2 → (-1000 ≤ b106 (3428 + 8 * s) ∧ b106 (3428 + 8 * s) ≤ 500000) ∧ (0 ≤ b106 (3428 + 8 * s + 2) ∧ b106 (3428 + 8 * s + 2) ≤ 1000) ∧ (0 ≤ b106 (3428 + 8 * s + 3) ∧ b106 (3428 + 8 * s + 3) ≤ 1)) ∧ ∀ (σ1110 : zI), (∀ c, c ≠ x1 + 8 → σ1110 c = σ1101 c) → rT_Q σ1110 x1 (r_rts b106 (b106 2)) → ∃ b113 : Int → Int, (σ1110 x1 8 = b113 0 ∧ 0 ≤ b113 0 ∧ b113 0 ≤ 399) ∧ (σ1110 (x1 + 9) 2 = b113 3 ∧ 0 ≤ b113 3 ∧ b113 3 ≤ 24) ∧ (∀ h, 0 ≤ h → h < b113 3 → σ1110 (x1 + 10) (h * 8 + 2) = b113 (3460 + 8 * h + 3) ∧ 0 ≤ b113 (3460 + 8 * h + 3) ∧ b113 (3460 + 8 * h + 3) ≤ 1) ∧ (rT_P σ1110 x1 b113 ∧ 0 ≤ b113 4 ∧ b113 4 ≤ 60) ∧ (zB S) ∧ (∀ w h, 0 ≤ w → w < b113 0 → 0 ≤ h → h < 24 → eI S σ1110 5 w h = b113 (31900 + 24 * w + h) ∧ 0 ≤ b113 (31900 + 24 * w + h) ∧ b113 (31900 + 24 * w + h) ≤ 240) ∧ (∀ h, 0 ≤ h → h < 24 → σ1110 (y0 + 5) h = b113 (31900 + 24 * b113 0 + h) ∧ 0 ≤ b113 (31900 + 24 * b113 0 + h)) ∧ ∀ (σ1121 : zI), (∀ c, c ≠ x1 + 10 → c ≠ x1 + 12 → σ1121 c = σ1110 c) → rT_P σ1121 x1 (r_lvs b113 (b113 0) (b113 3)) → (∀ k, (∀ h, 0 ≤ h → h < b113 3 → k ≠ h * 8 + 2) → σ1121 (x1 + 10) k = σ1110 (x1 + 10) k) → (∀ h, 0 ≤ h → h < b113 3 → σ1121 (x1 + 10) (h * 8 + 2) = r_lvs b113 (b113 0) (b113 3) (3460 + 8 * h + 3)) → ∃ w127 : Int, wI w127 = wI ((σ1121 x1 8) + 1) ∧ rg w127 ∧ Q none S (uc σ1121 x1 (u1 (σ1121 x1) 8 w127)) τ116) : wi (d + 14) 109 11 [.ref 53, .ref x1, y2] [.ref y0] S σ τ Q := by
  obtain ⟨a1, t⟩ := t
  obtain ⟨p2, t⟩ := t
  obtain ⟨p3, t⟩ := t
  obtain ⟨p4, t⟩ := t
  refine i8 (L' := [.ref 53, .ref x1, .ref y0]) c_109_11 rfl (i5 c_109_12 rfl (i40a c_109_13 rfl (i5 c_109_17 rfl (i5 c_109_18 rfl ?_))))
  refine i80 (As := [.ref x1]) (rest := []) c_109_19 mi_110 rfl rfl (Nat.le_of_ble_eq_true rfl) (Nat.le_of_ble_eq_true rfl) (lo (c := 53) (kd := 109) (n := 0) rfl (by decide)) (q_110 (a := a1) hx1 p2 p3 p4 (fun σ15 q6 => ?_))
  have t := t σ15 q6
  show wi (d + 14) 109 22 [.ref 53, .ref x1, .ref y0] [] S σ15 τ Q
  obtain ⟨a7, t⟩ := t
  obtain ⟨p8, t⟩ := t
  obtain ⟨p9, t⟩ := t
  obtain ⟨p10, t⟩ := t
  obtain ⟨p11, t⟩ := t
  obtain ⟨p12, t⟩ := t
  obtain ⟨p13, t⟩ := t
  obtain ⟨p14, t⟩ := t
  refine i5 c_109_22 rfl (i5 c_109_23 rfl ?_)
  refine i80 (As := [.ref x1]) (rest := []) c_109_24 mi_113 rfl rfl (Nat.le_of_ble_eq_true rfl) (Nat.le_of_ble_eq_true rfl) (lo (c := 53) (kd := 109) (n := 0) rfl (by decide)) (q_113 (a := a7) hx1 p8 p9 p10 p11 p12 p13 p14 (fun σ115 τ116 q17 q18 q19 => ?_))
  have t := t σ115 τ116 q17 q18 q19
  show wi (d + 14) 109 27 [.ref 53, .ref x1, .ref y0] [] S σ115 τ116 Q
  obtain ⟨a20, t⟩ := t
  obtain ⟨p21, t⟩ := t
  obtain ⟨p22, t⟩ := t
  obtain ⟨p23, t⟩ := t
  obtain ⟨p24, t⟩ := t
  obtain ⟨p25, t⟩ := t
  obtain ⟨p26, t⟩ := t
  refine i5 c_109_27 rfl (i5 c_109_28 rfl ?_)
  refine i80 (As := [.ref x1]) (rest := []) c_109_29 mi_115 rfl rfl (Nat.le_of_ble_eq_true rfl) (Nat.le_of_ble_eq_true rfl) (lo (c := 53) (kd := 109) (n := 0) rfl (by decide)) (q_115 (a := a20) hx1 p21 p22 p23 p24 p25 p26 (fun σ127 q28 q29 => ?_))
  have t := t σ127 q28 q29
  show wi (d + 14) 109 32 [.ref 53, .ref x1, .ref y0] [] S σ127 τ116 Q
  obtain ⟨a30, t⟩ := t
  obtain ⟨p31, t⟩ := t
  obtain ⟨p32, t⟩ := t
  obtain ⟨p33, t⟩ := t
  obtain ⟨p34, t⟩ := t
  obtain ⟨p35, t⟩ := t
  obtain ⟨p36, t⟩ := t
  obtain ⟨p37, t⟩ := t
  refine i5 c_109_32 rfl (i5 c_109_33 rfl ?_)
  refine i80 (As := [.ref x1]) (rest := []) c_109_34 mi_116 rfl rfl (Nat.le_of_ble_eq_true rfl) (Nat.le_of_ble_eq_true rfl) (lo (c := 53) (kd := 109) (n := 0) rfl (by decide)) (q_116 (a := a30) hx1 p31 p32 p33 p34 p35 p36 p37 (fun σ138 q39 q40 => ?_))
  have t := t σ138 q39 q40
  show wi (d + 14) 109 37 [.ref 53, .ref x1, .ref y0] [] S σ138 τ116 Q
  obtain ⟨a41, t⟩ := t
  obtain ⟨p42, t⟩ := t
  obtain ⟨p43, t⟩ := t
  obtain ⟨p44, t⟩ := t
  obtain ⟨p45, t⟩ := t
  obtain ⟨p46, t⟩ := t
  obtain ⟨p47, t⟩ := t
  obtain ⟨p48, t⟩ := t
  obtain ⟨p49, t⟩ := t
  refine i5 c_109_37 rfl (i5 c_109_38 rfl ?_)
  refine i80 (As := [.ref x1]) (rest := []) c_109_39 mi_122 rfl rfl (Nat.le_of_ble_eq_true rfl) (Nat.le_of_ble_eq_true rfl) (lo (c := 53) (kd := 109) (n := 0) rfl (by decide)) (q_122 (a := a41) hx1 p42 p43 p44 p45 p46 p47 p48 p49 (fun σ150 q51 q52 q53 => ?_))
  have t := t σ150 q51 q52 q53
  show wi (d + 14) 109 42 [.ref 53, .ref x1, .ref y0] [] S σ150 τ116 Q
  obtain ⟨a54, t⟩ := t
  obtain ⟨p55, t⟩ := t
  obtain ⟨p56, t⟩ := t
  obtain ⟨p57, t⟩ := t
  obtain ⟨p58, t⟩ := t
  obtain ⟨p59, t⟩ := t
  refine i5 c_109_42 rfl (i5 c_109_43 rfl ?_)
  refine i80 (As := [.ref x1]) (rest := []) c_109_44 mi_127 rfl rfl (Nat.le_of_ble_eq_true rfl) (Nat.le_of_ble_eq_true rfl) (lo (c := 53) (kd := 109) (n := 0) rfl (by decide)) (q_127 (a := a54) hx1 p55 p56 p57 p58 p59 (fun σ160 q61 q62 q63 q64 q65 => ?_))
  have t := t σ160 q61 q62 q63 q64 q65
  show wi (d + 14) 109 47 [.ref 53, .ref x1, .ref y0] [] S σ160 τ116 Q
  obtain ⟨a66, t⟩ := t
  obtain ⟨p67, t⟩ := t
  obtain ⟨p68, t⟩ := t
  obtain ⟨p69, t⟩ := t
  obtain ⟨p70, t⟩ := t
  obtain ⟨p71, t⟩ := t
  obtain ⟨p72, t⟩ := t
  refine i5 c_109_47 rfl (i5 c_109_48 rfl ?_)
  refine i80 (As := [.ref x1]) (rest := []) c_109_49 mi_128 rfl rfl (Nat.le_of_ble_eq_true rfl) (Nat.le_of_ble_eq_true rfl) (lo (c := 53) (kd := 109) (n := 0) rfl (by decide)) (q_128 (a := a66) hx1 p67 p68 p69 p70 p71 p72 (fun σ173 q74 q75 q76 q77 => ?_))
  have t := t σ173 q74 q75 q76 q77
  show wi (d + 14) 109 52 [.ref 53, .ref x1, .ref y0] [] S σ173 τ116 Q
  obtain ⟨a78, t⟩ := t
  obtain ⟨p79, t⟩ := t
  obtain ⟨p80, t⟩ := t
  obtain ⟨p81, t⟩ := t
  obtain ⟨p82, t⟩ := t
  obtain ⟨p83, t⟩ := t
  obtain ⟨p84, t⟩ := t
  refine i5 c_109_52 rfl (i5 c_109_53 rfl (i5 c_109_54 rfl ?_))
  refine i80 (As := [.ref x1, .ref y0]) (rest := []) c_109_55 mi_129 rfl rfl (Nat.le_of_ble_eq_true rfl) (Nat.le_of_ble_eq_true rfl) (lo (c := 53) (kd := 109) (n := 0) rfl (by decide)) (q_129 (a := a78) hx1 hy0 p79 p80 p81 p82 p83 p84 (fun σ185 q86 q87 q88 => ?_))
  have t := t σ185 q86 q87 q88
  show wi (d + 14) 109 58 [.ref 53, .ref x1, .ref y0] [] S σ185 τ116 Q
  obtain ⟨b89, t⟩ := t
  obtain ⟨L90, t⟩ := t
  obtain ⟨a91, t⟩ := t
  obtain ⟨p92, t⟩ := t
  obtain ⟨p93, t⟩ := t
  obtain ⟨p94, t⟩ := t
  obtain ⟨p95, t⟩ := t
  obtain ⟨p96, t⟩ := t
  obtain ⟨p97, t⟩ := t
  obtain ⟨p98, t⟩ := t
  obtain ⟨p99, t⟩ := t
  obtain ⟨p100, t⟩ := t
  refine i5 c_109_58 rfl (i5 c_109_59 rfl (i5 c_109_60 rfl ?_))
  refine i80 (As := [.ref x1, .ref y0]) (rest := []) c_109_61 mi_130 rfl rfl (Nat.le_of_ble_eq_true rfl) (Nat.le_of_ble_eq_true rfl) (lo (c := 53) (kd := 109) (n := 0) rfl (by decide)) (q_130 (b := b89) (L := L90) (a := a91) hx1 hy0 p92 p93 p94 p95 p96 p97 p98 p99 p100 (fun σ1101 σ2102 q103 q104 q105 => ?_))
  have t := t σ1101 σ2102 q103 q104 q105
  show wi (d + 14) 109 64 [.ref 53, .ref x1, .ref y0] [] S σ1101 τ116 Q
  obtain ⟨b106, t⟩ := t
  obtain ⟨p107, t⟩ := t
  obtain ⟨p108, t⟩ := t
  obtain ⟨p109, t⟩ := t
  refine i5 c_109_64 rfl ?_
  refine i81 (As := [.ref x1]) (rest := []) c_109_65 mi_134 rfl rfl (Nat.le_of_ble_eq_true rfl) (Nat.le_of_ble_eq_true rfl) (q_134 (b := b106) hx1 p107 p108 p109 (fun σ1110 q111 q112 => ?_))
  have t := t σ1110 q111 q112
  show wi (d + 14) 109 68 [.ref 53, .ref x1, .ref y0] [] S σ1110 τ116 Q
  obtain ⟨b113, t⟩ := t
  obtain ⟨p114, t⟩ := t
  obtain ⟨p115, t⟩ := t
  obtain ⟨p116, t⟩ := t
  obtain ⟨p117, t⟩ := t
  obtain ⟨p118, t⟩ := t
  obtain ⟨p119, t⟩ := t
  obtain ⟨p120, t⟩ := t
  refine i5 c_109_68 rfl (i5 c_109_69 rfl (i5 c_109_70 rfl ?_))
  refine i80 (As := [.ref x1, .ref y0]) (rest := []) c_109_71 mi_135 rfl rfl (Nat.le_of_ble_eq_true rfl) (Nat.le_of_ble_eq_true rfl) (lo (c := 53) (kd := 109) (n := 0) rfl (by decide)) (q_135 (b := b113) hx1 hy0 p114 p115 p116 p117 p118 p119 p120 (fun σ1121 q122 q123 q124 q125 => ?_))
  have t := t σ1121 q122 q123 q124 q125
  show wi (d + 14) 109 74 [.ref 53, .ref x1, .ref y0] [] S σ1121 τ116 Q
  refine i5 c_109_74 rfl (i33a c_109_75 (wi_ok (fun K126 => ?_)))
  obtain ⟨w127, e128, r129, t⟩ := t
  refine i43 (v := σ1121 x1 8) c_109_76 (lo (lyt_0 hx1) (by have := tw_b hx1; omega)) rfl (i1 c_109_79 (i10 c_109_80 (i46 (σ1 := uc σ1121 x1 (u1 (σ1121 x1) 8 w127)) c_109_81 (lo (lyt_0 hx1) (by have := tw_b hx1; omega)) (ln_0 hx1) e128 r129 (wr_ rfl rfl) ?_)))
  exact i94 c_109_84 t
