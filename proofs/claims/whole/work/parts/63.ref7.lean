/-! ===== the reference: PAY (segments printed by wip/whole, contracts own work) ===== -/
/-- what a SUM comes to; what an ASK comes to -/
def vlN (a kv : Int → Int) (B : Int) (n : Nat) (i : Int) : Int × Int := match (evN a kv B n i ([], [])).1 with | x :: _ => x | [] => (0, 0)
def trN (a kv : Int → Int) (B : Int) (n : Nat) (i : Int) : Bool := match (evN a kv B n i ([], [])).2 with | b :: _ => b | [] => false
/-- the PAY so far -/
def PR (τ : zI) (x : Int × Int) : Prop := τ 83 28 = x.2 ∧ (x.2 ≠ 0 → τ 83 27 = x.1) ∧ frO x.1 x.2
/-- what comes and counts leave alone -/
def Fr7 (σ σ1 τ τ1 : zI) : Prop := (∀ c, c ≠ 83 → c ≠ 91 → σ1 c = σ c) ∧ (∀ k, k ≠ 22 → k ≠ 23 → σ1 83 k = σ 83 k) ∧ ∀ c, c ≠ 83 → c ≠ 89 → c ≠ 90 → τ1 c = τ c
theorem RS_v {σ τ : zI} {a kv : Int → Int} {B i : Int} {n : Nat} (h : RS σ τ (evN a kv B n i ([], []))) (w : wzN a B n i 0 0 1 0) : τ 90 0 = (vlN a kv B n i).2 ∧ ((vlN a kv B n i).2 ≠ 0 → τ 89 0 = (vlN a kv B n i).1) ∧ frO (vlN a kv B n i).1 (vlN a kv B n i).2 := by
  have l := (evN_len (kv := kv) (s := ([], [])) w).1
  obtain ⟨x, t, e⟩ := len1 (l := (evN a kv B n i ([], [])).1) (by omega)
  have hF := h.2.2.1
  unfold vlN
  rw [e] at l hF ⊢
  rw [List.length_cons] at l
  have := FRs_h (k := 0) hF (by omega)
  exact this.2
theorem RS_t {σ τ : zI} {a kv : Int → Int} {B i : Int} {n : Nat} (h : RS σ τ (evN a kv B n i ([], []))) (w : wzN a B n i 0 0 0 1) : σ 91 0 = b1_ (trN a kv B n i) := by
  have l := (evN_len (kv := kv) (s := ([], [])) w).2
  obtain ⟨x, t, e⟩ := len1 (l := (evN a kv B n i ([], [])).2) (by omega)
  have hB := h.2.2.2
  unfold trN
  rw [e] at l hB ⊢
  rw [List.length_cons] at l
  have h1 := hB.1
  rw [show (t.length : Int) = 0 by omega] at h1
  exact h1
-- method 269: MillTownModel.comes(IIZI)V
theorem c_269_0 : pg_cd 269 0 = (5, 1, 0, 0, 0) := by decide +kernel
theorem c_269_1 : pg_cd 269 1 = (3, 1, 0, 1, 0) := by decide +kernel
theorem c_269_2 : pg_cd 269 2 = (5, 1, 0, 0, 0) := by decide +kernel
theorem c_269_3 : pg_cd 269 3 = (45, 12, 8, 0, 0) := by decide +kernel
theorem c_269_6 : pg_cd 269 6 = (3, 1, 0, 2, 0) := by decide +kernel
theorem c_269_7 : pg_cd 269 7 = (1, 2, 0, 0, 6) := by decide +kernel
theorem c_269_9 : pg_cd 269 9 = (10, 1, 0, 0, 0) := by decide +kernel
theorem c_269_10 : pg_cd 269 10 = (50, 1, 0, 0, 0) := by decide +kernel
theorem c_269_11 : pg_cd 269 11 = (5, 1, 0, 0, 0) := by decide +kernel
theorem c_269_12 : pg_cd 269 12 = (45, 12, 8, 0, 0) := by decide +kernel
theorem c_269_15 : pg_cd 269 15 = (3, 1, 0, 2, 0) := by decide +kernel
theorem c_269_16 : pg_cd 269 16 = (1, 2, 0, 0, 7) := by decide +kernel
theorem c_269_18 : pg_cd 269 18 = (10, 1, 0, 0, 0) := by decide +kernel
theorem c_269_19 : pg_cd 269 19 = (50, 1, 0, 0, 0) := by decide +kernel
theorem c_269_20 : pg_cd 269 20 = (3, 2, 0, 4, 0) := by decide +kernel
theorem c_269_22 : pg_cd 269 22 = (80, 264, 306, 0, 0) := by decide +kernel
theorem c_269_25 : pg_cd 269 25 = (5, 1, 0, 0, 0) := by decide +kernel
theorem c_269_26 : pg_cd 269 26 = (45, 12, 33, 19, 0) := by decide +kernel
theorem c_269_29 : pg_cd 269 29 = (1, 1, 0, 0, 0) := by decide +kernel
theorem c_269_30 : pg_cd 269 30 = (52, 1, 0, 0, 0) := by decide +kernel
theorem c_269_31 : pg_cd 269 31 = (7, 2, 0, 5, 0) := by decide +kernel
theorem c_269_33 : pg_cd 269 33 = (5, 1, 0, 0, 0) := by decide +kernel
theorem c_269_34 : pg_cd 269 34 = (45, 12, 37, 20, 0) := by decide +kernel
theorem c_269_37 : pg_cd 269 37 = (1, 1, 0, 0, 0) := by decide +kernel
theorem c_269_38 : pg_cd 269 38 = (52, 1, 0, 0, 0) := by decide +kernel
theorem c_269_39 : pg_cd 269 39 = (7, 2, 0, 7, 0) := by decide +kernel
theorem c_269_41 : pg_cd 269 41 = (5, 1, 0, 0, 0) := by decide +kernel
theorem c_269_42 : pg_cd 269 42 = (45, 12, 33, 19, 0) := by decide +kernel
theorem c_269_45 : pg_cd 269 45 = (1, 1, 0, 0, 0) := by decide +kernel
theorem c_269_46 : pg_cd 269 46 = (5, 1, 0, 0, 0) := by decide +kernel
theorem c_269_47 : pg_cd 269 47 = (44, 12, 309, 27, 0) := by decide +kernel
theorem c_269_50 : pg_cd 269 50 = (56, 1, 0, 0, 0) := by decide +kernel
theorem c_269_51 : pg_cd 269 51 = (5, 1, 0, 0, 0) := by decide +kernel
theorem c_269_52 : pg_cd 269 52 = (45, 12, 37, 20, 0) := by decide +kernel
theorem c_269_55 : pg_cd 269 55 = (1, 1, 0, 0, 0) := by decide +kernel
theorem c_269_56 : pg_cd 269 56 = (5, 1, 0, 0, 0) := by decide +kernel
theorem c_269_57 : pg_cd 269 57 = (44, 12, 312, 28, 0) := by decide +kernel
theorem c_269_60 : pg_cd 269 60 = (56, 1, 0, 0, 0) := by decide +kernel
theorem c_269_61 : pg_cd 269 61 = (5, 1, 0, 0, 0) := by decide +kernel
theorem c_269_62 : pg_cd 269 62 = (45, 12, 33, 19, 0) := by decide +kernel
theorem c_269_65 : pg_cd 269 65 = (1, 1, 0, 0, 1) := by decide +kernel
theorem c_269_66 : pg_cd 269 66 = (4, 2, 0, 5, 0) := by decide +kernel
theorem c_269_68 : pg_cd 269 68 = (56, 1, 0, 0, 0) := by decide +kernel
theorem c_269_69 : pg_cd 269 69 = (5, 1, 0, 0, 0) := by decide +kernel
theorem c_269_70 : pg_cd 269 70 = (45, 12, 37, 20, 0) := by decide +kernel
theorem c_269_73 : pg_cd 269 73 = (1, 1, 0, 0, 1) := by decide +kernel
theorem c_269_74 : pg_cd 269 74 = (4, 2, 0, 7, 0) := by decide +kernel
theorem c_269_76 : pg_cd 269 76 = (56, 1, 0, 0, 0) := by decide +kernel
theorem c_269_77 : pg_cd 269 77 = (5, 1, 0, 0, 0) := by decide +kernel
theorem c_269_78 : pg_cd 269 78 = (1, 1, 0, 0, 2) := by decide +kernel
theorem c_269_79 : pg_cd 269 79 = (46, 12, 281, 22, 0) := by decide +kernel
theorem c_269_82 : pg_cd 269 82 = (5, 1, 0, 0, 0) := by decide +kernel
theorem c_269_83 : pg_cd 269 83 = (3, 1, 0, 3, 0) := by decide +kernel
theorem c_269_84 : pg_cd 269 84 = (36, 3, 0, 0, 7) := by decide +kernel
theorem c_269_87 : pg_cd 269 87 = (1, 1, 0, 0, 4) := by decide +kernel
theorem c_269_88 : pg_cd 269 88 = (38, 3, 0, 0, 4) := by decide +kernel
theorem c_269_91 : pg_cd 269 91 = (1, 1, 0, 0, 3) := by decide +kernel
theorem c_269_92 : pg_cd 269 92 = (80, 262, 290, 0, 0) := by decide +kernel
theorem c_269_95 : pg_cd 269 95 = (5, 1, 0, 0, 0) := by decide +kernel
theorem c_269_96 : pg_cd 269 96 = (5, 1, 0, 0, 0) := by decide +kernel
theorem c_269_97 : pg_cd 269 97 = (45, 12, 33, 19, 0) := by decide +kernel
theorem c_269_100 : pg_cd 269 100 = (1, 1, 0, 0, 0) := by decide +kernel
theorem c_269_101 : pg_cd 269 101 = (52, 1, 0, 0, 0) := by decide +kernel
theorem c_269_102 : pg_cd 269 102 = (48, 12, 309, 27, 0) := by decide +kernel
theorem c_269_105 : pg_cd 269 105 = (5, 1, 0, 0, 0) := by decide +kernel
theorem c_269_106 : pg_cd 269 106 = (5, 1, 0, 0, 0) := by decide +kernel
theorem c_269_107 : pg_cd 269 107 = (45, 12, 37, 20, 0) := by decide +kernel
theorem c_269_110 : pg_cd 269 110 = (1, 1, 0, 0, 0) := by decide +kernel
theorem c_269_111 : pg_cd 269 111 = (52, 1, 0, 0, 0) := by decide +kernel
theorem c_269_112 : pg_cd 269 112 = (48, 12, 312, 28, 0) := by decide +kernel
theorem c_269_115 : pg_cd 269 115 = (94, 0, 0, 0, 0) := by decide +kernel
theorem mi_269 : pg_mc 269 = 12 ∧ pg_na 269 = 4 ∧ pg_mx 269 = 9 := by decide +kernel
set_option maxRecDepth 20000 in
theorem u_269_0 {d : Nat} {S : zS} {σ τ : zI} {Q : zQ} {x1 : Int} {x2 : Int} {x3 : Int} {x4 : Int} (t : (0 ≤ x2 + 6 ∧ x2 + 6 < 112300) ∧ (0 ≤ x2 + 7 ∧ x2 + 7 < 112300) ∧ ∃ m14 : Int, ∃ b15 : Int, (jv_K (σ 84)) ∧ (0 ≤ x1 ∧ x1 < 20) ∧ (0 ≤ (σ 84 (x2 + 6)) ∧ (σ 84 (x2 + 6)) ≤ (σ 84 (x2 + 7)) ∧ (σ 84 (x2 + 7)) ≤ 300) ∧ (0 ≤ x4 ∧ x4 ≤ 5) ∧ (wzN (σ 84) (5500 + 840 * x1 + 200) ((σ 84 (x2 + 7)) - (σ 84 (x2 + 6))).toNat (σ 84 (x2 + 6)) 0 0 m14 b15) ∧ ∀ (σ111 : zI) (τ112 : zI), Fr6 σ σ111 τ τ112 → RS σ111 τ112 (evN (σ 84) (fun v => σ 84 (20 + 8 * x4 + v)) (5500 + 840 * x1 + 200) ((σ 84 (x2 + 7)) - (σ 84 (x2 + 6))).toNat (σ 84 (x2 + 6)) ([], [])) → (rg x3) ∧ if x3 = 0 then (wi (d + 7) 269 92 [.ref 83, .int (wI x1), .int (wI x2), .int (wI x3), .int (wI x4), .long (wJ (τ112 89 0)), .retAddr 0, .long (wJ (τ112 90 0)), .retAddr 0] [.int (wI 3), .ref 83] S (uc σ111 83 (u1 (σ111 83) 22 2)) (uc (uc τ112 89 (u1 (u1 (τ112 89) 0 (τ112 83 27)) 1 (τ112 89 0))) 90 (u1 (u1 (τ112 90) 0 (τ112 83 28)) 1 (τ112 90 0))) Q) else (wi (d + 7) 269 92 [.ref 83, .int (wI x1), .int (wI x2), .int (wI x3), .int (wI x4), .long (wJ (τ112 89 0)), .retAddr 0, .long (wJ (τ112 90 0)), .retAddr 0] [.int (wI 4), .ref 83] S (uc σ111 83 (u1 (σ111 83) 22 2)) (uc (uc τ112 89 (u1 (u1 (τ112 89) 0 (τ112 83 27)) 1 (τ112 89 0))) 90 (u1 (u1 (τ112 90) 0 (τ112 83 28)) 1 (τ112 90 0))) Q)) : wi (d + 7) 269 0 [.ref 83, .int (wI x1), .int (wI x2), .int (wI x3), .int (wI x4), .retAddr 0, .retAddr 0, .retAddr 0, .retAddr 0] [] S σ τ Q := by
  obtain ⟨r1, t⟩ := t
  refine i5 c_269_0 rfl (i3 c_269_1 rfl (i5 c_269_2 rfl (i45 c_269_3 (lo (c := 83) (kd := 112) (n := 0) rfl (by decide)) (lro (c := 83) (k := 0) (j := 84) (by decide)) (i3 c_269_6 rfl (i1 c_269_7 (i10 c_269_9 (wi_ok (fun K2 => ?_))))))))
  obtain ⟨r3, t⟩ := t
  obtain ⟨m14, t⟩ := t
  obtain ⟨b15, t⟩ := t
  obtain ⟨p6, t⟩ := t
  obtain ⟨p7, t⟩ := t
  obtain ⟨p8, t⟩ := t
  obtain ⟨p9, t⟩ := t
  obtain ⟨p10, t⟩ := t
  refine i50 (v := σ 84 (x2 + 6)) c_269_10 (lo (c := 84) (kd := 0) (n := 112300) rfl (by decide)) (by decide) r1 rfl (i5 c_269_11 rfl (i45 c_269_12 (lo (c := 83) (kd := 112) (n := 0) rfl (by decide)) (lro (c := 83) (k := 0) (j := 84) (by decide)) (i3 c_269_15 rfl (i1 c_269_16 (i10 c_269_18 (i50 (v := σ 84 (x2 + 7)) c_269_19 (lo (c := 84) (kd := 0) (n := 112300) rfl (by decide)) (by decide) r3 rfl (i3 c_269_20 rfl ?_)))))))
  refine i80 (As := [.int (wI x1), .int (wI (σ 84 (x2 + 6))), .int (wI (σ 84 (x2 + 7))), .int (wI x4)]) (rest := []) c_269_22 mi_264 rfl rfl (Nat.le_of_ble_eq_true rfl) (Nat.le_of_ble_eq_true rfl) (lo (c := 83) (kd := 112) (n := 0) rfl (by decide)) (q_264 (m1 := m14) (b1 := b15) p6 p7 p8 p9 p10 (fun σ111 τ112 q13 q14 => ?_))
  have t := t σ111 τ112 q13 q14
  show wi (d + 7) 269 25 [.ref 83, .int (wI x1), .int (wI x2), .int (wI x3), .int (wI x4), .retAddr 0, .retAddr 0, .retAddr 0, .retAddr 0] [] S σ111 τ112 Q
  refine i5 c_269_25 rfl (i45 c_269_26 (lo (c := 83) (kd := 112) (n := 0) rfl (by decide)) (lro (c := 83) (k := 19) (j := 89) (by decide)) (i1 c_269_29 (wi_ok (fun K15 => ?_))))
  refine i52 (v := τ112 89 0) c_269_30 (lo (c := 89) (kd := 1) (n := 320) rfl (by decide)) (by decide) (by decide) rfl (i7 (L' := [.ref 83, .int (wI x1), .int (wI x2), .int (wI x3), .int (wI x4), .long (wJ (τ112 89 0)), .retAddr 0, .retAddr 0, .retAddr 0]) c_269_31 rfl (i5 c_269_33 rfl (i45 c_269_34 (lo (c := 83) (kd := 112) (n := 0) rfl (by decide)) (lro (c := 83) (k := 20) (j := 90) (by decide)) (i1 c_269_37 (i52 (v := τ112 90 0) c_269_38 (lo (c := 90) (kd := 1) (n := 320) rfl (by decide)) (by decide) (by decide) rfl (i7 (L' := [.ref 83, .int (wI x1), .int (wI x2), .int (wI x3), .int (wI x4), .long (wJ (τ112 89 0)), .retAddr 0, .long (wJ (τ112 90 0)), .retAddr 0]) c_269_39 rfl (i5 c_269_41 rfl (i45 c_269_42 (lo (c := 83) (kd := 112) (n := 0) rfl (by decide)) (lro (c := 83) (k := 19) (j := 89) (by decide)) (i1 c_269_45 (i5 c_269_46 rfl (i44 (v := τ112 83 27) c_269_47 (lo (c := 83) (kd := 112) (n := 0) rfl (by decide)) rfl (i56 (τ1 := uc τ112 89 (u1 (τ112 89) 0 (τ112 83 27))) c_269_50 (lo (c := 89) (kd := 1) (n := 320) rfl (by decide)) (by decide) (by decide) rfl (rje_ K15 rfl) (wr_ rfl rfl) (i5 c_269_51 rfl (i45 c_269_52 (lo (c := 83) (kd := 112) (n := 0) rfl (by decide)) (lro (c := 83) (k := 20) (j := 90) (by decide)) (i1 c_269_55 (i5 c_269_56 rfl (wi_ok (fun K16 => ?_))))))))))))))))))
  obtain ⟨r17, t⟩ := t
  refine i44 (v := τ112 83 28) c_269_57 (lo (c := 83) (kd := 112) (n := 0) rfl (by decide)) (congrFun (uc_ns rfl (by decide)) _) (i56 (τ1 := uc (uc τ112 89 (u1 (τ112 89) 0 (τ112 83 27))) 90 (u1 (τ112 90) 0 (τ112 83 28))) c_269_60 (lo (c := 90) (kd := 1) (n := 320) rfl (by decide)) (by decide) (by decide) rfl (rje_ K16 (congrFun (uc_ns rfl (by decide)) _)) (wr_ (uc_ns rfl (by decide)) rfl) (i5 c_269_61 rfl (i45 c_269_62 (lo (c := 83) (kd := 112) (n := 0) rfl (by decide)) (lro (c := 83) (k := 19) (j := 89) (by decide)) (i1 c_269_65 (i4 c_269_66 rfl (i56 (τ1 := uc (uc τ112 89 (u1 (u1 (τ112 89) 0 (τ112 83 27)) 1 (τ112 89 0))) 90 (u1 (τ112 90) 0 (τ112 83 28))) c_269_68 (lo (c := 89) (kd := 1) (n := 320) rfl (by decide)) (by decide) (by decide) rfl (rje_ K15 rfl) (wr_ (uc_ns (uc_s _ _ _) (by decide)) (uc_cm (uc_uc _ _ _ _) (by decide))) (i5 c_269_69 rfl (i45 c_269_70 (lo (c := 83) (kd := 112) (n := 0) rfl (by decide)) (lro (c := 83) (k := 20) (j := 90) (by decide)) (i1 c_269_73 (i4 c_269_74 rfl (i56 (τ1 := uc (uc τ112 89 (u1 (u1 (τ112 89) 0 (τ112 83 27)) 1 (τ112 89 0))) 90 (u1 (u1 (τ112 90) 0 (τ112 83 28)) 1 (τ112 90 0))) c_269_76 (lo (c := 90) (kd := 1) (n := 320) rfl (by decide)) (by decide) (by decide) rfl (rje_ K15 rfl) (wr_ (uc_s _ _ _) (uc_uc _ _ _ _)) (i5 c_269_77 rfl (i1 c_269_78 (i46 (σ1 := uc σ111 83 (u1 (σ111 83) 22 2)) c_269_79 (lo (c := 83) (kd := 112) (n := 0) rfl (by decide)) (by decide) rfl (by decide) (wr_ rfl rfl) (i5 c_269_82 rfl (i3 c_269_83 rfl ?_))))))))))))))))
  refine i36 c_269_84 r17 rfl (fun hc => ?_) (fun hc => ?_)
  · have t := iT t hc
    have ha18 : x3 = 0 := hc
    refine i1 c_269_91 t
  · have t := iF t hc
    have ha18 : ¬ (x3 = 0) := hc
    refine i1 c_269_87 (i38 c_269_88 rfl t)
set_option maxRecDepth 20000 in
theorem u_269_92 {d : Nat} {S : zS} {σ τ : zI} {Q : zQ} {x1 : Int} {x2 : Int} {x3 : Int} {x4 : Int} {x5 : Int} {x7 : Int} {s1 : Int} (t : ((3 : Int) ≤ s1 ∧ s1 ≤ (8 : Int)) ∧ (2 ≤ σ 83 22 ∧ σ 83 22 ≤ 320) ∧ (frO (τ 89 (σ 83 22 - 2)) (τ 90 (σ 83 22 - 2))) ∧ (frO (τ 89 (σ 83 22 - 1)) (τ 90 (σ 83 22 - 1))) ∧ ∀ (U5 : Int) (L6 : Int), L6 = (fr2 s1 (τ 89 (σ 83 22 - 2)) (τ 90 (σ 83 22 - 2)) (τ 89 (σ 83 22 - 1)) (τ 90 (σ 83 22 - 1))).2 → (L6 ≠ 0 → U5 = (fr2 s1 (τ 89 (σ 83 22 - 2)) (τ 90 (σ 83 22 - 2)) (τ 89 (σ 83 22 - 1)) (τ 90 (σ 83 22 - 1))).1) → Q none S (uc σ 83 (u1 ((σ 83)) 22 ((σ 83) 22 - 1))) (uc (uc (uc τ 89 (u1 ((τ 89)) (σ 83 22 - 2) U5)) 90 (u1 ((τ 90)) (σ 83 22 - 2) L6)) 83 (u1 (u1 (τ 83) 27 (u1 ((τ 89)) (σ 83 22 - 2) U5 0)) 28 (u1 ((τ 90)) (σ 83 22 - 2) L6 0)))) : wi (d + 7) 269 92 [.ref 83, .int (wI x1), .int (wI x2), .int (wI x3), .int (wI x4), .long (wJ x5), .retAddr 0, .long (wJ x7), .retAddr 0] [.int (wI s1), .ref 83] S σ τ Q := by
  obtain ⟨p1, t⟩ := t
  obtain ⟨p2, t⟩ := t
  obtain ⟨p3, t⟩ := t
  obtain ⟨p4, t⟩ := t
  refine i80 (As := [.int (wI s1)]) (rest := []) c_269_92 mi_262 rfl rfl (Nat.le_of_ble_eq_true rfl) (Nat.le_of_ble_eq_true rfl) (lo (c := 83) (kd := 112) (n := 0) rfl (by decide)) (q_262 p1 p2 p3 p4 (fun U5 L6 q7 q8 => ?_))
  have t := t U5 L6 q7 q8
  show wi (d + 7) 269 95 [.ref 83, .int (wI x1), .int (wI x2), .int (wI x3), .int (wI x4), .long (wJ x5), .retAddr 0, .long (wJ x7), .retAddr 0] [] S (uc σ 83 (u1 ((σ 83)) 22 ((σ 83) 22 - 1))) (uc (uc τ 89 (u1 ((τ 89)) (σ 83 22 - 2) U5)) 90 (u1 ((τ 90)) (σ 83 22 - 2) L6)) Q
  refine i5 c_269_95 rfl (i5 c_269_96 rfl (i45 c_269_97 (lo (c := 83) (kd := 112) (n := 0) rfl (by decide)) (lro (c := 83) (k := 19) (j := 89) (by decide)) (i1 c_269_100 (wi_ok (fun K9 => ?_)))))
  refine i52 (v := u1 ((τ 89)) (σ 83 22 - 2) U5 0) c_269_101 (lo (c := 89) (kd := 1) (n := 320) rfl (by decide)) (by decide) (by decide) (congrFun (uc_ns (uc_s _ _ _) (by decide)) _) (i48 (τ1 := uc (uc (uc τ 89 (u1 ((τ 89)) (σ 83 22 - 2) U5)) 90 (u1 ((τ 90)) (σ 83 22 - 2) L6)) 83 (u1 (τ 83) 27 (u1 ((τ 89)) (σ 83 22 - 2) U5 0))) c_269_102 (lo (c := 83) (kd := 112) (n := 0) rfl (by decide)) rfl (rje_ K9 (congrFun (uc_ns (uc_s _ _ _) (by decide)) _)) (wr_ (uc_ns (uc_ns rfl (by decide)) (by decide)) rfl) (i5 c_269_105 rfl (i5 c_269_106 rfl (i45 c_269_107 (lo (c := 83) (kd := 112) (n := 0) rfl (by decide)) (lro (c := 83) (k := 20) (j := 90) (by decide)) (i1 c_269_110 (wi_ok (fun K10 => ?_)))))))
  refine i52 (v := u1 ((τ 90)) (σ 83 22 - 2) L6 0) c_269_111 (lo (c := 90) (kd := 1) (n := 320) rfl (by decide)) (by decide) (by decide) (congrFun (uc_ns (uc_s _ _ _) (by decide)) _) (i48 (τ1 := uc (uc (uc τ 89 (u1 ((τ 89)) (σ 83 22 - 2) U5)) 90 (u1 ((τ 90)) (σ 83 22 - 2) L6)) 83 (u1 (u1 (τ 83) 27 (u1 ((τ 89)) (σ 83 22 - 2) U5 0)) 28 (u1 ((τ 90)) (σ 83 22 - 2) L6 0))) c_269_112 (lo (c := 83) (kd := 112) (n := 0) rfl (by decide)) rfl (rje_ K10 (congrFun (uc_ns (uc_s _ _ _) (by decide)) _)) (wr_ (uc_s _ _ _) (uc_uc _ _ _ _)) ?_)
  exact i94 c_269_115 t
theorem q_269 {d : Nat} {S : zS} {σ τ : zI} {Q : zQ} {text : Int} {c : Int} {less : Int} {kind : Int} {pp : Int × Int} (p0 : jv_K (σ 84)) (p1 : 0 ≤ text ∧ text < 20) (p2 : 0 ≤ c ∧ c + 8 ≤ 112300) (p3 : 0 ≤ σ 84 (c + 6) ∧ σ 84 (c + 6) ≤ σ 84 (c + 7) ∧ σ 84 (c + 7) ≤ 300) (p4 : 0 ≤ kind ∧ kind ≤ 5) (p5 : wzN (σ 84) (5500 + 840 * text + 200) (σ 84 (c + 7) - σ 84 (c + 6)).toNat (σ 84 (c + 6)) 0 0 1 0) (p6 : less = (0 : Int) ∨ less = (1 : Int)) (p7 : PR τ pp) (t : ∀ (σ2 : zI) (τ2 : zI), Fr7 σ σ2 τ τ2 → PR τ2 (fr2 (if less = 0 then 3 else 4) pp.1 pp.2 (vlN (σ 84) (fun v => σ 84 (20 + 8 * kind + v)) (5500 + 840 * text + 200) (σ 84 (c + 7) - σ 84 (c + 6)).toNat (σ 84 (c + 6))).1 (vlN (σ 84) (fun v => σ 84 (20 + 8 * kind + v)) (5500 + 840 * text + 200) (σ 84 (c + 7) - σ 84 (c + 6)).toNat (σ 84 (c + 6))).2) → Q none S σ2 τ2) : wc (d + 7) 269 [.ref 83, .int (wI text), .int (wI c), .int (wI less), .int (wI kind)] S σ τ Q := by
  refine wc_of mi_269 rfl (u_269_0 ⟨by omega, by omega, 1, 0, p0, p1, p3, p4, p5, fun σ1 τ1 fr rs => ?_⟩)
  have v := RS_v rs p5
  generalize (vlN (σ 84) (fun v => σ 84 (20 + 8 * kind + v)) (5500 + 840 * text + 200) (σ 84 (c + 7) - σ 84 (c + 6)).toNat (σ 84 (c + 6))) = y at *
  have f83 : τ1 83 = τ 83 := fr.2.2 83 (by decide) (by decide)
  have m22 : (uc σ1 83 (u1 (σ1 83) 22 2)) 83 22 = 2 := by rw [uc_s, u1_s]
  have fin : ∀ o, (o = 3 ∨ o = 4) → o = (if less = 0 then 3 else 4) → ∀ x5 x7, wi (d + 7) 269 92 [.ref 83, .int (wI text), .int (wI c), .int (wI less), .int (wI kind), .long (wJ x5), .retAddr 0, .long (wJ x7), .retAddr 0] [.int (wI o), .ref 83] S (uc σ1 83 (u1 (σ1 83) 22 2)) (uc (uc τ1 89 (u1 (u1 (τ1 89) 0 (τ1 83 27)) 1 (τ1 89 0))) 90 (u1 (u1 (τ1 90) 0 (τ1 83 28)) 1 (τ1 90 0))) Q := fun o ho he x5 x7 => by
    refine u_269_92 ?_
    rw [m22, j89, j90, f83]
    rw [show (2 : Int) - 2 = 0 from rfl, show (2 : Int) - 1 = 1 from rfl, u1_s, u1_s, u1_n (show (0 : Int) ≠ 1 by decide), u1_n (show (0 : Int) ≠ 1 by decide), u1_s, u1_s]
    have h1 := p7.1
    have h2 := p7.2.1
    have h3 := p7.2.2
    refine ⟨by omega, by omega, ?_, ?_, fun U L e1 e2 => ?_⟩
    · rw [h1]
      by_cases h : pp.2 = 0
      · exact Or.inl h
      · rw [h2 h]; exact h3
    · rw [v.1]
      by_cases h : y.2 = 0
      · exact Or.inl h
      · rw [v.2.1 h]; exact v.2.2
    · rw [h1, v.1, fr2_c h2 v.2.1, he] at e1 e2
      refine t _ _ ?_ ?_
      · refine ⟨fun k a1 a2 => ?_, fun k a1 a2 => ?_, fun c a1 a2 a3 => ?_⟩
        · rw [uc_n a1, uc_n a1]; exact fr.1 k a1 a2
        · rw [uc_s, u1_n a1, uc_s, u1_n a1]; exact fr.2.1 k a1 a2
        · simp only [uc_n a1, uc_n a2, uc_n a3]; exact fr.2.2 c a2 a3
      · refine ⟨?_, fun h => ?_, fr2_o _ _ _ _ _⟩
        · rw [uc_s, u1_s]; exact e1
        · rw [uc_s, u1_n (by decide), u1_s]; exact e2 (by rw [e1]; exact h)
  refine ⟨by omega, ?_⟩
  refine ifI (fun e => fin 3 (Or.inl rfl) (by rw [if_pos e]) _ _) (fun e => fin 4 (Or.inr rfl) (by rw [if_neg e]) _ _)
/-- whether a CLAUSE that is no price counts -/
def r_cts (a : Int → Int) (text c kind : Int) : Bool := if a c = 2 ∨ a c = 3 then decide (zand (zshr (a (20 + 8 * kind + 5)) (a (c + 1))) 1 = 1) else if a c = 4 ∨ a c = 5 then trN a (fun v => a (20 + 8 * kind + v)) (5500 + 840 * text + 200) (a (c + 5) - a (c + 4)).toNat (a (c + 4)) else false
-- method 270: MillTownModel.counts(III)Z
theorem c_270_0 : pg_cd 270 0 = (5, 1, 0, 0, 0) := by decide +kernel
theorem c_270_1 : pg_cd 270 1 = (45, 12, 8, 0, 0) := by decide +kernel
theorem c_270_4 : pg_cd 270 4 = (3, 1, 0, 2, 0) := by decide +kernel
theorem c_270_5 : pg_cd 270 5 = (50, 1, 0, 0, 0) := by decide +kernel
theorem c_270_6 : pg_cd 270 6 = (6, 2, 0, 4, 0) := by decide +kernel
theorem c_270_8 : pg_cd 270 8 = (3, 2, 0, 4, 0) := by decide +kernel
theorem c_270_10 : pg_cd 270 10 = (1, 1, 0, 0, 2) := by decide +kernel
theorem c_270_11 : pg_cd 270 11 = (37, 3, 0, 0, 9) := by decide +kernel
theorem c_270_14 : pg_cd 270 14 = (3, 2, 0, 4, 0) := by decide +kernel
theorem c_270_16 : pg_cd 270 16 = (1, 1, 0, 0, 3) := by decide +kernel
theorem c_270_17 : pg_cd 270 17 = (37, 3, 0, 1, 30) := by decide +kernel
theorem c_270_20 : pg_cd 270 20 = (5, 1, 0, 0, 0) := by decide +kernel
theorem c_270_21 : pg_cd 270 21 = (3, 1, 0, 3, 0) := by decide +kernel
theorem c_270_22 : pg_cd 270 22 = (1, 1, 0, 0, 5) := by decide +kernel
theorem c_270_23 : pg_cd 270 23 = (80, 197, 85, 0, 0) := by decide +kernel
theorem c_270_26 : pg_cd 270 26 = (5, 1, 0, 0, 0) := by decide +kernel
theorem c_270_27 : pg_cd 270 27 = (45, 12, 8, 0, 0) := by decide +kernel
theorem c_270_30 : pg_cd 270 30 = (3, 1, 0, 2, 0) := by decide +kernel
theorem c_270_31 : pg_cd 270 31 = (1, 1, 0, 0, 1) := by decide +kernel
theorem c_270_32 : pg_cd 270 32 = (10, 1, 0, 0, 0) := by decide +kernel
theorem c_270_33 : pg_cd 270 33 = (50, 1, 0, 0, 0) := by decide +kernel
theorem c_270_34 : pg_cd 270 34 = (19, 1, 0, 0, 0) := by decide +kernel
theorem c_270_35 : pg_cd 270 35 = (1, 1, 0, 0, 1) := by decide +kernel
theorem c_270_36 : pg_cd 270 36 = (13, 1, 0, 0, 0) := by decide +kernel
theorem c_270_37 : pg_cd 270 37 = (1, 1, 0, 0, 1) := by decide +kernel
theorem c_270_38 : pg_cd 270 38 = (37, 3, 0, 1, 7) := by decide +kernel
theorem c_270_41 : pg_cd 270 41 = (1, 1, 0, 0, 1) := by decide +kernel
theorem c_270_42 : pg_cd 270 42 = (38, 3, 0, 0, 4) := by decide +kernel
theorem c_270_45 : pg_cd 270 45 = (1, 1, 0, 0, 0) := by decide +kernel
theorem c_270_46 : pg_cd 270 46 = (91, 0, 0, 0, 0) := by decide +kernel
theorem c_270_47 : pg_cd 270 47 = (3, 2, 0, 4, 0) := by decide +kernel
theorem c_270_49 : pg_cd 270 49 = (1, 1, 0, 0, 4) := by decide +kernel
theorem c_270_50 : pg_cd 270 50 = (37, 3, 0, 0, 11) := by decide +kernel
theorem c_270_53 : pg_cd 270 53 = (3, 2, 0, 4, 0) := by decide +kernel
theorem c_270_55 : pg_cd 270 55 = (1, 1, 0, 0, 5) := by decide +kernel
theorem c_270_56 : pg_cd 270 56 = (37, 3, 0, 0, 5) := by decide +kernel
theorem c_270_59 : pg_cd 270 59 = (1, 1, 0, 0, 0) := by decide +kernel
theorem c_270_60 : pg_cd 270 60 = (91, 0, 0, 0, 0) := by decide +kernel
theorem c_270_61 : pg_cd 270 61 = (5, 1, 0, 0, 0) := by decide +kernel
theorem c_270_62 : pg_cd 270 62 = (3, 1, 0, 1, 0) := by decide +kernel
theorem c_270_63 : pg_cd 270 63 = (5, 1, 0, 0, 0) := by decide +kernel
theorem c_270_64 : pg_cd 270 64 = (45, 12, 8, 0, 0) := by decide +kernel
theorem c_270_67 : pg_cd 270 67 = (3, 1, 0, 2, 0) := by decide +kernel
theorem c_270_68 : pg_cd 270 68 = (1, 1, 0, 0, 4) := by decide +kernel
theorem c_270_69 : pg_cd 270 69 = (10, 1, 0, 0, 0) := by decide +kernel
theorem c_270_70 : pg_cd 270 70 = (50, 1, 0, 0, 0) := by decide +kernel
theorem c_270_71 : pg_cd 270 71 = (5, 1, 0, 0, 0) := by decide +kernel
theorem c_270_72 : pg_cd 270 72 = (45, 12, 8, 0, 0) := by decide +kernel
theorem c_270_75 : pg_cd 270 75 = (3, 1, 0, 2, 0) := by decide +kernel
theorem c_270_76 : pg_cd 270 76 = (1, 1, 0, 0, 5) := by decide +kernel
theorem c_270_77 : pg_cd 270 77 = (10, 1, 0, 0, 0) := by decide +kernel
theorem c_270_78 : pg_cd 270 78 = (50, 1, 0, 0, 0) := by decide +kernel
theorem c_270_79 : pg_cd 270 79 = (3, 1, 0, 3, 0) := by decide +kernel
theorem c_270_80 : pg_cd 270 80 = (80, 264, 306, 0, 0) := by decide +kernel
theorem c_270_83 : pg_cd 270 83 = (5, 1, 0, 0, 0) := by decide +kernel
theorem c_270_84 : pg_cd 270 84 = (45, 12, 40, 21, 0) := by decide +kernel
theorem c_270_87 : pg_cd 270 87 = (1, 1, 0, 0, 0) := by decide +kernel
theorem c_270_88 : pg_cd 270 88 = (51, 1, 0, 0, 0) := by decide +kernel
theorem c_270_89 : pg_cd 270 89 = (91, 0, 0, 0, 0) := by decide +kernel
theorem mi_270 : pg_mc 270 = 12 ∧ pg_na 270 = 3 ∧ pg_mx 270 = 5 := by decide +kernel
set_option maxRecDepth 20000 in
theorem u_270_0 {d : Nat} {S : zS} {σ τ : zI} {Q : zQ} {x1 : Int} {x2 : Int} {x3 : Int} (t : (0 ≤ x2 ∧ x2 < 112300) ∧ if (σ 84 x2) = 2 then ((0 ≤ 20 + 8 * x3 + 5 ∧ 20 + 8 * x3 + 5 < 112300) ∧ (0 ≤ x2 + 1 ∧ x2 + 1 < 112300) ∧ if (zand (zshr (σ 84 (20 + 8 * x3 + 5)) (σ 84 (x2 + 1))) 1) = 1 then (Q (some (.int (wI 1))) S σ τ) else (Q (some (.int (wI 0))) S σ τ)) else (if (σ 84 x2) = 3 then ((0 ≤ 20 + 8 * x3 + 5 ∧ 20 + 8 * x3 + 5 < 112300) ∧ (0 ≤ x2 + 1 ∧ x2 + 1 < 112300) ∧ if (zand (zshr (σ 84 (20 + 8 * x3 + 5)) (σ 84 (x2 + 1))) 1) = 1 then (Q (some (.int (wI 1))) S σ τ) else (Q (some (.int (wI 0))) S σ τ)) else (if (σ 84 x2) = 4 then ((0 ≤ x2 + 4 ∧ x2 + 4 < 112300) ∧ (0 ≤ x2 + 5 ∧ x2 + 5 < 112300) ∧ ∃ m111 : Int, ∃ b112 : Int, (jv_K (σ 84)) ∧ (0 ≤ x1 ∧ x1 < 20) ∧ (0 ≤ (σ 84 (x2 + 4)) ∧ (σ 84 (x2 + 4)) ≤ (σ 84 (x2 + 5)) ∧ (σ 84 (x2 + 5)) ≤ 300) ∧ (0 ≤ x3 ∧ x3 ≤ 5) ∧ (wzN (σ 84) (5500 + 840 * x1 + 200) ((σ 84 (x2 + 5)) - (σ 84 (x2 + 4))).toNat (σ 84 (x2 + 4)) 0 0 m111 b112) ∧ ∀ (σ118 : zI) (τ119 : zI), Fr6 σ σ118 τ τ119 → RS σ118 τ119 (evN (σ 84) (fun v => σ 84 (20 + 8 * x3 + v)) (5500 + 840 * x1 + 200) ((σ 84 (x2 + 5)) - (σ 84 (x2 + 4))).toNat (σ 84 (x2 + 4)) ([], [])) → (σ118 91 0 = 0 ∨ σ118 91 0 = 1) ∧ Q (some (.int (wI (σ118 91 0)))) S σ118 τ119) else (if (σ 84 x2) = 5 then ((0 ≤ x2 + 4 ∧ x2 + 4 < 112300) ∧ (0 ≤ x2 + 5 ∧ x2 + 5 < 112300) ∧ ∃ m127 : Int, ∃ b128 : Int, (jv_K (σ 84)) ∧ (0 ≤ x1 ∧ x1 < 20) ∧ (0 ≤ (σ 84 (x2 + 4)) ∧ (σ 84 (x2 + 4)) ≤ (σ 84 (x2 + 5)) ∧ (σ 84 (x2 + 5)) ≤ 300) ∧ (0 ≤ x3 ∧ x3 ≤ 5) ∧ (wzN (σ 84) (5500 + 840 * x1 + 200) ((σ 84 (x2 + 5)) - (σ 84 (x2 + 4))).toNat (σ 84 (x2 + 4)) 0 0 m127 b128) ∧ ∀ (σ134 : zI) (τ135 : zI), Fr6 σ σ134 τ τ135 → RS σ134 τ135 (evN (σ 84) (fun v => σ 84 (20 + 8 * x3 + v)) (5500 + 840 * x1 + 200) ((σ 84 (x2 + 5)) - (σ 84 (x2 + 4))).toNat (σ 84 (x2 + 4)) ([], [])) → (σ134 91 0 = 0 ∨ σ134 91 0 = 1) ∧ Q (some (.int (wI (σ134 91 0)))) S σ134 τ135) else (Q (some (.int (wI 0))) S σ τ))))) : wi (d + 7) 270 0 [.ref 83, .int (wI x1), .int (wI x2), .int (wI x3), .retAddr 0] [] S σ τ Q := by
  obtain ⟨r1, t⟩ := t
  refine i5 c_270_0 rfl (i45 c_270_1 (lo (c := 83) (kd := 112) (n := 0) rfl (by decide)) (lro (c := 83) (k := 0) (j := 84) (by decide)) (i3 c_270_4 rfl (wi_ok (fun K2 => ?_))))
  refine i50 (v := σ 84 x2) c_270_5 (lo (c := 84) (kd := 0) (n := 112300) rfl (by decide)) (by decide) r1 rfl (i6 (L' := [.ref 83, .int (wI x1), .int (wI x2), .int (wI x3), .int (wI (σ 84 x2))]) c_270_6 rfl (i3 c_270_8 rfl (i1 c_270_10 ?_)))
  refine i37 c_270_11 (rge_ K2 rfl) (by decide) rfl (fun hc => ?_) (fun hc => ?_)
  · have t := iT t hc
    have ha3 : (σ 84 x2) = 2 := hc
    obtain ⟨p4, t⟩ := t
    refine i5 c_270_20 rfl (i3 c_270_21 rfl (i1 c_270_22 ?_))
    refine i80 (As := [.int (wI x3), .int (wI 5)]) (rest := []) c_270_23 mi_197 rfl rfl (Nat.le_of_ble_eq_true rfl) (Nat.le_of_ble_eq_true rfl) (lo (c := 83) (kd := 112) (n := 0) rfl (by decide)) (q_197 p4 ?_)
    show wi (d + 7) 270 26 [.ref 83, .int (wI x1), .int (wI x2), .int (wI x3), .int (wI (σ 84 x2))] [.int (wI (σ 84 (20 + 8 * x3 + 5)))] S σ τ Q
    obtain ⟨r5, t⟩ := t
    refine i5 c_270_26 rfl (i45 c_270_27 (lo (c := 83) (kd := 112) (n := 0) rfl (by decide)) (lro (c := 83) (k := 0) (j := 84) (by decide)) (i3 c_270_30 rfl (i1 c_270_31 (i10 c_270_32 (i50 (v := σ 84 (x2 + 1)) c_270_33 (lo (c := 84) (kd := 0) (n := 112300) rfl (by decide)) (by decide) r5 rfl (i19 c_270_34 (i1 c_270_35 (i13 c_270_36 (i1 c_270_37 ?_)))))))))
    refine i37 c_270_38 (rg_toInt _) (by decide) rfl (fun hc => ?_) (fun hc => ?_)
    · have t := iF t hc
      have ha6 : ¬ ((zand (zshr (σ 84 (20 + 8 * x3 + 5)) (σ 84 (x2 + 1))) 1) = 1) := hc
      refine i1 c_270_45 ?_
      exact i91 c_270_46 (by decide) t
    · have t := iT t (Decidable.not_not.mp hc)
      have ha6 : (zand (zshr (σ 84 (20 + 8 * x3 + 5)) (σ 84 (x2 + 1))) 1) = 1 := Decidable.not_not.mp hc
      refine i1 c_270_41 (i38 c_270_42 rfl ?_)
      exact i91 c_270_46 (by decide) t
  · have t := iF t hc
    have ha3 : ¬ ((σ 84 x2) = 2) := hc
    refine i3 c_270_14 rfl (i1 c_270_16 ?_)
    refine i37 c_270_17 (rge_ K2 rfl) (by decide) rfl (fun hc => ?_) (fun hc => ?_)
    · have t := iF t hc
      have ha7 : ¬ ((σ 84 x2) = 3) := hc
      refine i3 c_270_47 rfl (i1 c_270_49 ?_)
      refine i37 c_270_50 (rge_ K2 rfl) (by decide) rfl (fun hc => ?_) (fun hc => ?_)
      · have t := iT t hc
        have ha8 : (σ 84 x2) = 4 := hc
        obtain ⟨r9, t⟩ := t
        obtain ⟨r10, t⟩ := t
        obtain ⟨m111, t⟩ := t
        obtain ⟨b112, t⟩ := t
        obtain ⟨p13, t⟩ := t
        obtain ⟨p14, t⟩ := t
        obtain ⟨p15, t⟩ := t
        obtain ⟨p16, t⟩ := t
        obtain ⟨p17, t⟩ := t
        refine i5 c_270_61 rfl (i3 c_270_62 rfl (i5 c_270_63 rfl (i45 c_270_64 (lo (c := 83) (kd := 112) (n := 0) rfl (by decide)) (lro (c := 83) (k := 0) (j := 84) (by decide)) (i3 c_270_67 rfl (i1 c_270_68 (i10 c_270_69 (i50 (v := σ 84 (x2 + 4)) c_270_70 (lo (c := 84) (kd := 0) (n := 112300) rfl (by decide)) (by decide) r9 rfl (i5 c_270_71 rfl (i45 c_270_72 (lo (c := 83) (kd := 112) (n := 0) rfl (by decide)) (lro (c := 83) (k := 0) (j := 84) (by decide)) (i3 c_270_75 rfl (i1 c_270_76 (i10 c_270_77 (i50 (v := σ 84 (x2 + 5)) c_270_78 (lo (c := 84) (kd := 0) (n := 112300) rfl (by decide)) (by decide) r10 rfl (i3 c_270_79 rfl ?_))))))))))))))
        refine i80 (As := [.int (wI x1), .int (wI (σ 84 (x2 + 4))), .int (wI (σ 84 (x2 + 5))), .int (wI x3)]) (rest := []) c_270_80 mi_264 rfl rfl (Nat.le_of_ble_eq_true rfl) (Nat.le_of_ble_eq_true rfl) (lo (c := 83) (kd := 112) (n := 0) rfl (by decide)) (q_264 (m1 := m111) (b1 := b112) p13 p14 p15 p16 p17 (fun σ118 τ119 q20 q21 => ?_))
        have t := t σ118 τ119 q20 q21
        show wi (d + 7) 270 83 [.ref 83, .int (wI x1), .int (wI x2), .int (wI x3), .int (wI (σ 84 x2))] [] S σ118 τ119 Q
        refine i5 c_270_83 rfl (i45 c_270_84 (lo (c := 83) (kd := 112) (n := 0) rfl (by decide)) (lro (c := 83) (k := 21) (j := 91) (by decide)) (i1 c_270_87 (wi_ok (fun K22 => ?_))))
        obtain ⟨b23, t⟩ := t
        refine i51 (v := σ118 91 0) c_270_88 (lo (c := 91) (kd := 2) (n := 320) rfl (by decide)) (by decide) (by decide) rfl ?_
        exact i91 c_270_89 b23 t
      · have t := iF t hc
        have ha8 : ¬ ((σ 84 x2) = 4) := hc
        refine i3 c_270_53 rfl (i1 c_270_55 ?_)
        refine i37 c_270_56 (rge_ K2 rfl) (by decide) rfl (fun hc => ?_) (fun hc => ?_)
        · have t := iT t hc
          have ha24 : (σ 84 x2) = 5 := hc
          obtain ⟨r25, t⟩ := t
          obtain ⟨r26, t⟩ := t
          obtain ⟨m127, t⟩ := t
          obtain ⟨b128, t⟩ := t
          obtain ⟨p29, t⟩ := t
          obtain ⟨p30, t⟩ := t
          obtain ⟨p31, t⟩ := t
          obtain ⟨p32, t⟩ := t
          obtain ⟨p33, t⟩ := t
          refine i5 c_270_61 rfl (i3 c_270_62 rfl (i5 c_270_63 rfl (i45 c_270_64 (lo (c := 83) (kd := 112) (n := 0) rfl (by decide)) (lro (c := 83) (k := 0) (j := 84) (by decide)) (i3 c_270_67 rfl (i1 c_270_68 (i10 c_270_69 (i50 (v := σ 84 (x2 + 4)) c_270_70 (lo (c := 84) (kd := 0) (n := 112300) rfl (by decide)) (by decide) r25 rfl (i5 c_270_71 rfl (i45 c_270_72 (lo (c := 83) (kd := 112) (n := 0) rfl (by decide)) (lro (c := 83) (k := 0) (j := 84) (by decide)) (i3 c_270_75 rfl (i1 c_270_76 (i10 c_270_77 (i50 (v := σ 84 (x2 + 5)) c_270_78 (lo (c := 84) (kd := 0) (n := 112300) rfl (by decide)) (by decide) r26 rfl (i3 c_270_79 rfl ?_))))))))))))))
          refine i80 (As := [.int (wI x1), .int (wI (σ 84 (x2 + 4))), .int (wI (σ 84 (x2 + 5))), .int (wI x3)]) (rest := []) c_270_80 mi_264 rfl rfl (Nat.le_of_ble_eq_true rfl) (Nat.le_of_ble_eq_true rfl) (lo (c := 83) (kd := 112) (n := 0) rfl (by decide)) (q_264 (m1 := m127) (b1 := b128) p29 p30 p31 p32 p33 (fun σ134 τ135 q36 q37 => ?_))
          have t := t σ134 τ135 q36 q37
          show wi (d + 7) 270 83 [.ref 83, .int (wI x1), .int (wI x2), .int (wI x3), .int (wI (σ 84 x2))] [] S σ134 τ135 Q
          refine i5 c_270_83 rfl (i45 c_270_84 (lo (c := 83) (kd := 112) (n := 0) rfl (by decide)) (lro (c := 83) (k := 21) (j := 91) (by decide)) (i1 c_270_87 (wi_ok (fun K38 => ?_))))
          obtain ⟨b39, t⟩ := t
          refine i51 (v := σ134 91 0) c_270_88 (lo (c := 91) (kd := 2) (n := 320) rfl (by decide)) (by decide) (by decide) rfl ?_
          exact i91 c_270_89 b39 t
        · have t := iF t hc
          have ha24 : ¬ ((σ 84 x2) = 5) := hc
          refine i1 c_270_59 ?_
          exact i91 c_270_60 (by decide) t
    · have t := iT t (Decidable.not_not.mp hc)
      have ha7 : (σ 84 x2) = 3 := Decidable.not_not.mp hc
      obtain ⟨p40, t⟩ := t
      refine i5 c_270_20 rfl (i3 c_270_21 rfl (i1 c_270_22 ?_))
      refine i80 (As := [.int (wI x3), .int (wI 5)]) (rest := []) c_270_23 mi_197 rfl rfl (Nat.le_of_ble_eq_true rfl) (Nat.le_of_ble_eq_true rfl) (lo (c := 83) (kd := 112) (n := 0) rfl (by decide)) (q_197 p40 ?_)
      show wi (d + 7) 270 26 [.ref 83, .int (wI x1), .int (wI x2), .int (wI x3), .int (wI (σ 84 x2))] [.int (wI (σ 84 (20 + 8 * x3 + 5)))] S σ τ Q
      obtain ⟨r41, t⟩ := t
      refine i5 c_270_26 rfl (i45 c_270_27 (lo (c := 83) (kd := 112) (n := 0) rfl (by decide)) (lro (c := 83) (k := 0) (j := 84) (by decide)) (i3 c_270_30 rfl (i1 c_270_31 (i10 c_270_32 (i50 (v := σ 84 (x2 + 1)) c_270_33 (lo (c := 84) (kd := 0) (n := 112300) rfl (by decide)) (by decide) r41 rfl (i19 c_270_34 (i1 c_270_35 (i13 c_270_36 (i1 c_270_37 ?_)))))))))
      refine i37 c_270_38 (rg_toInt _) (by decide) rfl (fun hc => ?_) (fun hc => ?_)
      · have t := iF t hc
        have ha42 : ¬ ((zand (zshr (σ 84 (20 + 8 * x3 + 5)) (σ 84 (x2 + 1))) 1) = 1) := hc
        refine i1 c_270_45 ?_
        exact i91 c_270_46 (by decide) t
      · have t := iT t (Decidable.not_not.mp hc)
        have ha42 : (zand (zshr (σ 84 (20 + 8 * x3 + 5)) (σ 84 (x2 + 1))) 1) = 1 := Decidable.not_not.mp hc
        refine i1 c_270_41 (i38 c_270_42 rfl ?_)
        exact i91 c_270_46 (by decide) t
theorem q_270 {d : Nat} {S : zS} {σ τ : zI} {Q : zQ} {text : Int} {c : Int} {kind : Int} {pp : Int × Int} (p0 : jv_K (σ 84)) (p1 : 0 ≤ text ∧ text < 20) (p2 : 0 ≤ c ∧ c + 8 ≤ 112300) (p3 : σ 84 c = 4 ∨ σ 84 c = 5 → (0 ≤ σ 84 (c + 4) ∧ σ 84 (c + 4) ≤ σ 84 (c + 5) ∧ σ 84 (c + 5) ≤ 300) ∧ wzN (σ 84) (5500 + 840 * text + 200) (σ 84 (c + 5) - σ 84 (c + 4)).toNat (σ 84 (c + 4)) 0 0 0 1) (p4 : 0 ≤ kind ∧ kind ≤ 5) (p5 : PR τ pp) (t : ∀ (σ2 : zI) (τ2 : zI), Fr7 σ σ2 τ τ2 → PR τ2 pp → Q (some (.int (wI (if r_cts (σ 84) text c kind = true then 1 else 0)))) S σ2 τ2) : wc (d + 7) 270 [.ref 83, .int (wI text), .int (wI c), .int (wI kind)] S σ τ Q := by
  have ask : (σ 84 c = 4 ∨ σ 84 c = 5) → ∀ σ1 τ1, Fr6 σ σ1 τ τ1 → RS σ1 τ1 (evN (σ 84) (fun v => σ 84 (20 + 8 * kind + v)) (5500 + 840 * text + 200) (σ 84 (c + 5) - σ 84 (c + 4)).toNat (σ 84 (c + 4)) ([], [])) → (σ1 91 0 = 0 ∨ σ1 91 0 = 1) ∧ Q (some (.int (wI (σ1 91 0)))) S σ1 τ1 := fun h σ1 τ1 fr rs => by
    have v := RS_t rs (p3 h).2
    have t := t σ1 τ1 ⟨fr.1, fr.2.1, fun c _ h2 h3 => fr.2.2 c h2 h3⟩ (by
      unfold PR
      rw [fr.2.2 83 (by decide) (by decide)]
      exact p5)
    have hv : r_cts (σ 84) text c kind = trN (σ 84) (fun v => σ 84 (20 + 8 * kind + v)) (5500 + 840 * text + 200) (σ 84 (c + 5) - σ 84 (c + 4)).toNat (σ 84 (c + 4)) := by
      unfold r_cts
      rw [if_neg (by omega), if_pos h]
    rw [hv] at t
    rw [v]
    refine ⟨?_, t⟩
    unfold b1_
    split
    · exact Or.inr rfl
    · exact Or.inl rfl
  have t := t σ τ ⟨fun _ _ _ => rfl, fun _ _ _ => rfl, fun _ _ _ _ => rfl⟩ p5
  have ex : (σ 84 c = 2 ∨ σ 84 c = 3) → if (zand (zshr (σ 84 (20 + 8 * kind + 5)) (σ 84 (c + 1))) 1) = 1 then (Q (some (.int (wI 1))) S σ τ) else (Q (some (.int (wI 0))) S σ τ) := fun h => by
    have hv : r_cts (σ 84) text c kind = decide (zand (zshr (σ 84 (20 + 8 * kind + 5)) (σ 84 (c + 1))) 1 = 1) := by
      unfold r_cts
      rw [if_pos h]
    rw [hv] at t
    refine ifI (fun e => ?_) (fun e => ?_)
    · rw [if_pos (by rw [decide_eq_true_eq]; exact e)] at t; exact t
    · rw [if_neg (by rw [decide_eq_true_eq]; exact e)] at t; exact t
  refine wc_of mi_270 rfl (u_270_0 ⟨by omega, ?_⟩)
  refine ifI (fun e => ⟨by omega, by omega, ex (Or.inl e)⟩) (fun e => ?_)
  refine ifI (fun e => ⟨by omega, by omega, ex (Or.inr e)⟩) (fun e => ?_)
  refine ifI (fun e => ⟨by omega, by omega, 0, 1, p0, p1, (p3 (Or.inl e)).1, p4, (p3 (Or.inl e)).2, ask (Or.inl e)⟩) (fun e => ?_)
  refine ifI (fun e => ⟨by omega, by omega, 0, 1, p0, p1, (p3 (Or.inr e)).1, p4, (p3 (Or.inr e)).2, ask (Or.inr e)⟩) (fun e => ?_)
  have hv : r_cts (σ 84) text c kind = false := by
    unfold r_cts
    rw [if_neg (by omega), if_neg (by omega)]
  rw [hv] at t
  exact t
