/-! ===== half time shared: the class, whole (segments printed by wip/whole, contracts own work) ===== -/
/-- what was gathered of the PERSONS below n -/
def PG (σ τ : zI) (a : Int → Int) (n : Int) : Prop := (∀ m, 0 ≤ m → m < a 1 → σ 69 (m * 3 + 2) = (if a (3300 + 16 * m + 5) = 0 then s_nn a m n else 0) ∧ σ 69 (m * 3 + 1) = (σ 69 (m * 3 + 2)).tdiv 2 ∧ σ 69 (m * 3 + 0) = 0) ∧ (∀ m, 0 ≤ m → m < a 1 → ∀ run, 1 ≤ run → run ≤ 2 → ∀ h, 0 ≤ h → h < 24 → τ 68 ((m * 3 + run) * 24 + h) = if a (3300 + 16 * m + 5) = 0 then s_en a m run h n else 0) ∧ (∀ m, 0 ≤ m → m < a 1 → ∀ h, 0 ≤ h → h < 24 → τ 68 ((m * 3 + 0) * 24 + h) = 0) ∧ ∀ k, 72 * a 1 ≤ k → k < 576 → τ 68 k = 0
theorem PG_b {σ τ : zI} {a : Int → Int} {n : Int} (hJ : Jv a) (hT : jv_T a) (hn : 0 ≤ n ∧ n ≤ a 4) (h : PG σ τ a n) : (∀ k, 0 ≤ k → k < 576 → 0 ≤ τ 68 k ∧ τ 68 k ≤ 10000000000000) ∧ ∀ m, 0 ≤ m → m < a 1 → 0 ≤ σ 69 (m * 3 + 2) ∧ σ 69 (m * 3 + 2) ≤ 1000000 := by
  have hC := jC hJ
  unfold jv_C at hC
  refine ⟨fun k k0 k1 => ?_, fun m m0 m1 => ?_⟩
  · by_cases c : 72 * a 1 ≤ k
    · rw [h.2.2.2 k c k1]; omega
    · have e : k = (k / 72 * 3 + k / 24 % 3) * 24 + k % 24 := by omega
      have b1 : 0 ≤ k / 72 ∧ k / 72 < a 1 := by omega
      by_cases c2 : k / 24 % 3 = 0
      · rw [c2] at e
        have := h.2.2.1 (k / 72) b1.1 b1.2 (k % 24) (by omega) (by omega)
        rw [← e] at this
        omega
      · have := h.2.1 (k / 72) b1.1 b1.2 (k / 24 % 3) (by omega) (by omega) (k % 24) (by omega) (by omega)
        rw [← e] at this
        have b := s_en_b (how := k / 24 % 3) (h := k % 24) hJ hT b1 hn
        rw [this]
        split <;> omega
  · have b := s_nn_b hJ hT ⟨m0, m1⟩ hn
    rw [(h.1 m m0 m1).1]
    split <;> omega
theorem s_nn_s {a : Int → Int} {m n : Int} (h : 0 ≤ n) : s_nn a m (n + 1) = s_nn a m n + (if a (3652 + 12 * n + 4) = m then s_mk a m n 2 else 0) := sI_s h
theorem s_en_s {a : Int → Int} {m how h n : Int} (hn : 0 ≤ n) : s_en a m how h (n + 1) = s_en a m how h n + (if a (3652 + 12 * n + 4) = m then s_e1 a m how h n else 0) := sI_s hn
theorem PG_no {σ τ : zI} {a : Int → Int} {n : Int} (hn : 0 ≤ n) (c : a (3652 + 12 * n + 4) = -1 ∨ a (3300 + 16 * a (3652 + 12 * n + 4) + 5) ≠ 0) (h : PG σ τ a n) : PG σ τ a (n + 1) := by
  refine ⟨fun m m0 m1 => ?_, fun m m0 m1 run r0 r1 x x0 x1 => ?_, h.2.2.1, h.2.2.2⟩
  · refine ⟨?_, (h.1 m m0 m1).2⟩
    rw [(h.1 m m0 m1).1]
    by_cases e : a (3300 + 16 * m + 5) = 0
    · rw [if_pos e, if_pos e, s_nn_s hn, if_neg (fun q => by rw [q] at c; omega), Int.add_zero]
    · rw [if_neg e, if_neg e]
  · rw [h.2.1 m m0 m1 run r0 r1 x x0 x1]
    by_cases e : a (3300 + 16 * m + 5) = 0
    · rw [if_pos e, if_pos e, s_en_s hn, if_neg (fun q => by rw [q] at c; omega), Int.add_zero]
    · rw [if_neg e, if_neg e]
theorem PG_yes {σ σ1 τ τ1 : zI} {a : Int → Int} {n m : Int} (hn : 0 ≤ n) (hm : 0 ≤ m ∧ m < a 1) (e1 : a (3652 + 12 * n + 4) = m) (e2 : a (3300 + 16 * m + 5) = 0) (h : PG σ τ a n) (d : ED2 τ τ1 a m n) (u : U69 σ σ1 a m n) : PG σ1 τ1 a (n + 1) := by
  refine ⟨fun m' m0 m1 => ?_, fun m' m0 m1 run r0 r1 x x0 x1 => ?_, fun m' m0 m1 x x0 x1 => ?_, fun k k0 k1 => ?_⟩
  · have q := h.1 m' m0 m1
    by_cases c : m' = m
    · subst c
      refine ⟨?_, u.2.2.1 q.2.1, ?_⟩
      · rw [u.2.1, q.1, if_pos e2, if_pos e2, s_nn_s hn, if_pos e1]
      · rw [u.2.2.2 _ (by omega)]; exact q.2.2
    · rw [u.2.2.2 (m' * 3 + 2) (by omega), u.2.2.2 (m' * 3 + 1) (by omega), u.2.2.2 (m' * 3 + 0) (by omega)]
      refine ⟨?_, q.2⟩
      rw [q.1, s_nn_s hn, if_neg (show ¬ a (3652 + 12 * n + 4) = m' by omega), Int.add_zero]
  · have q := h.2.1 m' m0 m1 run r0 r1 x x0 x1
    by_cases c : m' = m
    · subst c
      rw [d.2.1 run r0 r1 x x0 x1, q, if_pos e2, if_pos e2, s_en_s hn, if_pos e1]
    · rw [d.2.2 _ (by omega), q, s_en_s hn, if_neg (show ¬ a (3652 + 12 * n + 4) = m' by omega), Int.add_zero]
  · rw [d.2.2 _ (by omega)]; exact h.2.2.1 m' m0 m1 x x0 x1
  · rw [d.2.2 _ (by omega)]; exact h.2.2.2 k k0 k1
theorem PG_e {σ τ : zI} {a : Int → Int} (h : PG σ τ a (a 4)) : ∀ m, 0 ≤ m → m < a 1 → ∀ run, 0 ≤ run → run ≤ 2 → σ 69 (m * 3 + run) = c_pc a m run ∧ ∀ h, 0 ≤ h → h < 24 → τ 68 ((m * 3 + run) * 24 + h) = c_e a m run h := by
  intro m m0 m1 run r0 r1
  have q := h.1 m m0 m1
  by_cases e0 : run = 0
  · subst e0
    refine ⟨?_, fun x x0 x1 => ?_⟩
    · rw [q.2.2]
      unfold c_pc s_pc
      rw [if_pos rfl]
      split <;> rfl
    · rw [h.2.2.1 m m0 m1 x x0 x1]
      unfold c_e s_e
      rw [if_pos rfl]
      split <;> rfl
  · refine ⟨?_, fun x x0 x1 => ?_⟩
    · unfold c_pc s_pc
      rw [if_neg e0]
      by_cases e2 : run = 2
      · subst e2
        rw [if_pos rfl]; exact q.1
      · have e1 : run = 1 := by omega
        subst e1
        rw [if_neg e2, q.2.1, q.1]
        by_cases e3 : a (3300 + 16 * m + 5) = 0
        · rw [if_pos e3, if_pos e3]
        · rw [if_neg e3, if_neg e3]; rfl
    · rw [h.2.1 m m0 m1 run (by omega) r1 x x0 x1]
      unfold c_e s_e
      rw [if_neg e0]
/-- what plan leaves alone -/
def FQ (σ σ1 : zI) : Prop := (∀ c, c ≠ 54 → c ≠ 67 → c ≠ 69 → c ≠ 72 → c ≠ 73 → c ≠ 74 → c ≠ 75 → σ1 c = σ c) ∧ ∀ k, k < 3 ∨ 4 < k → σ1 54 k = σ 54 k
-- method 63: MillTown$Sharing.plan(LMillTown$Town;LMillTown$Law;I)V
theorem c_63_0 : pg_cd 63 0 = (5, 1, 0, 0, 0) := by decide +kernel
theorem c_63_1 : pg_cd 63 1 = (3, 1, 0, 3, 0) := by decide +kernel
theorem c_63_2 : pg_cd 63 2 = (46, 5, 40, 9, 0) := by decide +kernel
theorem c_63_5 : pg_cd 63 5 = (5, 1, 0, 0, 0) := by decide +kernel
theorem c_63_6 : pg_cd 63 6 = (1, 2, 0, 0, 25) := by decide +kernel
theorem c_63_8 : pg_cd 63 8 = (46, 5, 44, 10, 0) := by decide +kernel
theorem c_63_11 : pg_cd 63 11 = (5, 1, 0, 0, 0) := by decide +kernel
theorem c_63_12 : pg_cd 63 12 = (1, 1, 0, 0, (-1)) := by decide +kernel
theorem c_63_13 : pg_cd 63 13 = (46, 5, 47, 11, 0) := by decide +kernel
theorem c_63_16 : pg_cd 63 16 = (5, 1, 0, 0, 0) := by decide +kernel
theorem c_63_17 : pg_cd 63 17 = (5, 1, 0, 1, 0) := by decide +kernel
theorem c_63_18 : pg_cd 63 18 = (80, 64, 50, 0, 0) := by decide +kernel
theorem c_63_21 : pg_cd 63 21 = (5, 1, 0, 0, 0) := by decide +kernel
theorem c_63_22 : pg_cd 63 22 = (5, 1, 0, 1, 0) := by decide +kernel
theorem c_63_23 : pg_cd 63 23 = (5, 1, 0, 2, 0) := by decide +kernel
theorem c_63_24 : pg_cd 63 24 = (80, 65, 54, 0, 0) := by decide +kernel
theorem c_63_27 : pg_cd 63 27 = (5, 1, 0, 0, 0) := by decide +kernel
theorem c_63_28 : pg_cd 63 28 = (45, 5, 11, 0, 0) := by decide +kernel
theorem c_63_31 : pg_cd 63 31 = (2, 1, 0, 0, 0) := by decide +kernel
theorem c_63_32 : pg_cd 63 32 = (81, 328, 58, 0, 0) := by decide +kernel
theorem c_63_35 : pg_cd 63 35 = (5, 1, 0, 0, 0) := by decide +kernel
theorem c_63_36 : pg_cd 63 36 = (45, 5, 15, 1, 0) := by decide +kernel
theorem c_63_39 : pg_cd 63 39 = (1, 1, 0, 0, 0) := by decide +kernel
theorem c_63_40 : pg_cd 63 40 = (81, 329, 64, 0, 0) := by decide +kernel
theorem c_63_43 : pg_cd 63 43 = (1, 1, 0, 0, 0) := by decide +kernel
theorem c_63_44 : pg_cd 63 44 = (6, 2, 0, 4, 0) := by decide +kernel
theorem c_63_46 : pg_cd 63 46 = (3, 2, 0, 4, 0) := by decide +kernel
theorem c_63_48 : pg_cd 63 48 = (5, 1, 0, 1, 0) := by decide +kernel
theorem c_63_49 : pg_cd 63 49 = (45, 8, 67, 5, 0) := by decide +kernel
theorem c_63_52 : pg_cd 63 52 = (43, 4, 73, 2, 0) := by decide +kernel
theorem c_63_55 : pg_cd 63 55 = (37, 3, 0, 3, 50) := by decide +kernel
theorem c_63_58 : pg_cd 63 58 = (5, 1, 0, 1, 0) := by decide +kernel
theorem c_63_59 : pg_cd 63 59 = (45, 8, 67, 5, 0) := by decide +kernel
theorem c_63_62 : pg_cd 63 62 = (3, 2, 0, 4, 0) := by decide +kernel
theorem c_63_64 : pg_cd 63 64 = (1, 1, 0, 0, 4) := by decide +kernel
theorem c_63_65 : pg_cd 63 65 = (80, 55, 78, 0, 0) := by decide +kernel
theorem c_63_68 : pg_cd 63 68 = (6, 2, 0, 5, 0) := by decide +kernel
theorem c_63_70 : pg_cd 63 70 = (3, 2, 0, 5, 0) := by decide +kernel
theorem c_63_72 : pg_cd 63 72 = (1, 1, 0, 0, (-1)) := by decide +kernel
theorem c_63_73 : pg_cd 63 73 = (37, 3, 0, 0, 26) := by decide +kernel
theorem c_63_76 : pg_cd 63 76 = (5, 1, 0, 1, 0) := by decide +kernel
theorem c_63_77 : pg_cd 63 77 = (45, 8, 82, 2, 0) := by decide +kernel
theorem c_63_80 : pg_cd 63 80 = (3, 2, 0, 5, 0) := by decide +kernel
theorem c_63_82 : pg_cd 63 82 = (1, 1, 0, 0, 4) := by decide +kernel
theorem c_63_83 : pg_cd 63 83 = (80, 55, 78, 0, 0) := by decide +kernel
theorem c_63_86 : pg_cd 63 86 = (36, 3, 0, 1, 13) := by decide +kernel
theorem c_63_89 : pg_cd 63 89 = (5, 1, 0, 0, 0) := by decide +kernel
theorem c_63_90 : pg_cd 63 90 = (5, 1, 0, 1, 0) := by decide +kernel
theorem c_63_91 : pg_cd 63 91 = (5, 1, 0, 2, 0) := by decide +kernel
theorem c_63_92 : pg_cd 63 92 = (3, 2, 0, 4, 0) := by decide +kernel
theorem c_63_94 : pg_cd 63 94 = (3, 2, 0, 5, 0) := by decide +kernel
theorem c_63_96 : pg_cd 63 96 = (80, 66, 85, 0, 0) := by decide +kernel
theorem c_63_99 : pg_cd 63 99 = (9, 3, 0, 4, 1) := by decide +kernel
theorem c_63_102 : pg_cd 63 102 = (38, 3, 0, 0, (-56)) := by decide +kernel
theorem c_63_105 : pg_cd 63 105 = (5, 1, 0, 0, 0) := by decide +kernel
theorem c_63_106 : pg_cd 63 106 = (5, 1, 0, 1, 0) := by decide +kernel
theorem c_63_107 : pg_cd 63 107 = (45, 8, 82, 2, 0) := by decide +kernel
theorem c_63_110 : pg_cd 63 110 = (43, 4, 73, 2, 0) := by decide +kernel
theorem c_63_113 : pg_cd 63 113 = (80, 69, 89, 0, 0) := by decide +kernel
theorem c_63_116 : pg_cd 63 116 = (5, 1, 0, 0, 0) := by decide +kernel
theorem c_63_117 : pg_cd 63 117 = (45, 5, 19, 2, 0) := by decide +kernel
theorem c_63_120 : pg_cd 63 120 = (2, 1, 0, 0, 0) := by decide +kernel
theorem c_63_121 : pg_cd 63 121 = (81, 328, 58, 0, 0) := by decide +kernel
theorem c_63_124 : pg_cd 63 124 = (5, 1, 0, 0, 0) := by decide +kernel
theorem c_63_125 : pg_cd 63 125 = (5, 1, 0, 1, 0) := by decide +kernel
theorem c_63_126 : pg_cd 63 126 = (45, 8, 82, 2, 0) := by decide +kernel
theorem c_63_129 : pg_cd 63 129 = (1, 1, 0, 0, 0) := by decide +kernel
theorem c_63_130 : pg_cd 63 130 = (1, 1, 0, 0, 0) := by decide +kernel
theorem c_63_131 : pg_cd 63 131 = (80, 71, 93, 0, 0) := by decide +kernel
theorem c_63_134 : pg_cd 63 134 = (94, 0, 0, 0, 0) := by decide +kernel
theorem mi_63 : pg_mc 63 = 5 ∧ pg_na 63 = 3 ∧ pg_mx 63 = 6 := by decide +kernel
set_option maxRecDepth 20000 in
theorem u_63_0 {d : Nat} {S : zS} {σ τ : zI} {Q : zQ} {x1 : Nat} {x3 : Int} (hx1 : tw x1) (t : ∃ w1 : Int, wI w1 = wI x3 ∧ rg w1 ∧ ∃ a4 : Int → Int, (RT (uc σ 67 (u1 (u1 (u1 (σ 67) 9 w1) 10 25) 11 (-1))) x1 a4) ∧ (Jv a4) ∧ (a4 0 ≤ 399) ∧ ∀ (τ18 : zI), FN τ τ18 a4 → ∃ a10 : Int → Int, (RT (uc σ 67 (u1 (u1 (u1 (σ 67) 9 w1) 10 25) 11 (-1))) x1 a10) ∧ (RX S (uc σ 67 (u1 (u1 (u1 (σ 67) 9 w1) 10 25) 11 (-1))) a10) ∧ (Jv a10) ∧ (jv_T a10) ∧ (jv_E a10) ∧ ∀ (σ116 : zI) (τ117 : zI), FP (uc σ 67 (u1 (u1 (u1 (σ 67) 9 w1) 10 25) 11 (-1))) σ116 τ18 τ117 a10 → (rj 0) ∧ wi (d + 18) 63 46 [.ref 67, .ref x1, .ref 54, .int (wI x3), .int (wI 0), .retAddr 0] [] S (uc σ116 69 (fl_ ((σ116 69)) 0 24 0)) (uc τ117 68 (fl_ ((τ117 68)) 0 576 0)) Q) : wi (d + 18) 63 0 [.ref 67, .ref x1, .ref 54, .int (wI x3), .retAddr 0, .retAddr 0] [] S σ τ Q := by
  obtain ⟨w1, e2, r3, t⟩ := t
  obtain ⟨a4, t⟩ := t
  obtain ⟨p5, t⟩ := t
  obtain ⟨p6, t⟩ := t
  obtain ⟨p7, t⟩ := t
  refine i5 c_63_0 rfl (i3 c_63_1 rfl (i46 (σ1 := uc σ 67 (u1 (σ 67) 9 w1)) c_63_2 (lo (c := 67) (kd := 105) (n := 0) rfl (by decide)) (by decide) e2 r3 (wr_ rfl rfl) (i5 c_63_5 rfl (i1 c_63_6 (i46 (σ1 := uc σ 67 (u1 (u1 (σ 67) 9 w1) 10 25)) c_63_8 (lo (c := 67) (kd := 105) (n := 0) rfl (by decide)) (by decide) rfl (by decide) (wr_ (uc_s _ _ _) (uc_uc _ _ _ _)) (i5 c_63_11 rfl (i1 c_63_12 (i46 (σ1 := uc σ 67 (u1 (u1 (u1 (σ 67) 9 w1) 10 25) 11 (-1))) c_63_13 (lo (c := 67) (kd := 105) (n := 0) rfl (by decide)) (by decide) rfl (by decide) (wr_ (uc_s _ _ _) (uc_uc _ _ _ _)) (i5 c_63_16 rfl (i5 c_63_17 rfl ?_))))))))))
  refine i80 (As := [.ref x1]) (rest := []) c_63_18 mi_64 rfl rfl (Nat.le_of_ble_eq_true rfl) (Nat.le_of_ble_eq_true rfl) (lo (c := 67) (kd := 105) (n := 0) rfl (by decide)) (q_64 (a := a4) hx1 p5 p6 p7 (fun τ18 q9 => ?_))
  have t := t τ18 q9
  show wi (d + 18) 63 21 [.ref 67, .ref x1, .ref 54, .int (wI x3), .retAddr 0, .retAddr 0] [] S (uc σ 67 (u1 (u1 (u1 (σ 67) 9 w1) 10 25) 11 (-1))) τ18 Q
  obtain ⟨a10, t⟩ := t
  obtain ⟨p11, t⟩ := t
  obtain ⟨p12, t⟩ := t
  obtain ⟨p13, t⟩ := t
  obtain ⟨p14, t⟩ := t
  obtain ⟨p15, t⟩ := t
  refine i5 c_63_21 rfl (i5 c_63_22 rfl (i5 c_63_23 rfl ?_))
  refine i80 (As := [.ref x1, .ref 54]) (rest := []) c_63_24 mi_65 rfl rfl (Nat.le_of_ble_eq_true rfl) (Nat.le_of_ble_eq_true rfl) (lo (c := 67) (kd := 105) (n := 0) rfl (by decide)) (q_65 (a := a10) hx1 p11 p12 p13 p14 p15 (fun σ116 τ117 q18 => ?_))
  have t := t σ116 τ117 q18
  show wi (d + 18) 63 27 [.ref 67, .ref x1, .ref 54, .int (wI x3), .retAddr 0, .retAddr 0] [] S σ116 τ117 Q
  obtain ⟨p19, t⟩ := t
  refine i5 c_63_27 rfl (i45 c_63_28 (lo (c := 67) (kd := 105) (n := 0) rfl (by decide)) (lro (c := 67) (k := 0) (j := 68) (by decide)) (i2 c_63_31 ?_))
  refine i81 (As := [.ref 68, .long (wJ 0)]) (rest := []) c_63_32 mi_328 rfl rfl (Nat.le_of_ble_eq_true rfl) (Nat.le_of_ble_eq_true rfl) (q_328 ⟨fun _ _ => (lo (c := 68) (kd := 1) (n := 576) rfl (by decide)), (by decide)⟩ (by decide) p19 ?_)
  show wi (d + 18) 63 35 [.ref 67, .ref x1, .ref 54, .int (wI x3), .retAddr 0, .retAddr 0] [] S σ116 (uc τ117 68 (fl_ ((τ117 68)) 0 576 0)) Q
  refine i5 c_63_35 rfl (i45 c_63_36 (lo (c := 67) (kd := 105) (n := 0) rfl (by decide)) (lro (c := 67) (k := 1) (j := 69) (by decide)) (i1 c_63_39 ?_))
  refine i81 (As := [.ref 69, .int (wI 0)]) (rest := []) c_63_40 mi_329 rfl rfl (Nat.le_of_ble_eq_true rfl) (Nat.le_of_ble_eq_true rfl) (q_329 ⟨fun _ _ => (lo (c := 69) (kd := 0) (n := 24) rfl (by decide)), (by decide)⟩ (by decide) (by decide) ?_)
  show wi (d + 18) 63 43 [.ref 67, .ref x1, .ref 54, .int (wI x3), .retAddr 0, .retAddr 0] [] S (uc σ116 69 (fl_ ((σ116 69)) 0 24 0)) (uc τ117 68 (fl_ ((τ117 68)) 0 576 0)) Q
  refine i1 c_63_43 (i6 (L' := [.ref 67, .ref x1, .ref 54, .int (wI x3), .int (wI 0), .retAddr 0]) c_63_44 rfl t)
set_option maxRecDepth 20000 in
theorem u_63_46 {d : Nat} {S : zS} {σ τ : zI} {Q : zQ} {x1 : Nat} {x3 : Int} {x4 : Int} {y5 : Value} (hx1 : tw x1) (t : (rg x4) ∧ if (σ (x1 + 11) 2) ≤ x4 then (∃ a4 : Int → Int, ((σ (x1 + 5) 2) = a4 1) ∧ (Jv a4) ∧ (jv_T a4) ∧ (∀ m, 0 ≤ m → m < a4 1 → σ 69 (m * 3 + 2) = c_pc a4 m 2 ∧ ∀ h, 0 ≤ h → h < 24 → τ 68 ((m * 3 + 2) * 24 + h) = c_e a4 m 2 h) ∧ ∀ (σ19 : zI) (τ110 : zI), (∀ c, c ≠ 72 → σ19 c = σ c) → (∀ c, c ≠ 71 → τ110 c = τ c) → (∀ m, 0 ≤ m → m ≤ a4 1 → σ19 72 m = r_pF a4 m ∧ ∀ h, 0 ≤ h → h < 24 → τ110 71 (m * 24 + h) = r_eF a4 m h) → (rj 0) ∧ ∃ a15 : Int → Int, ∃ most16 : Int, (0 = (0 : Int) ∧ 0 = (0 : Int)) ∧ (RT σ19 x1 a15) ∧ (Jv a15) ∧ (jv_T a15) ∧ (0 ≤ most16 ∧ most16 ≤ 100000) ∧ (SC σ19 (uc τ110 70 (fl_ ((τ110 70)) 0 216 0)) a15 most16) ∧ (∀ h, 0 ≤ h → h < 24 → (uc τ110 70 (fl_ ((τ110 70)) 0 216 0)) 70 h = 0) ∧ (σ19 67 10 = 25 ∧ σ19 67 11 = -1) ∧ ∀ (σ125 : zI) (τ126 : zI), FZ σ19 σ125 (uc τ110 70 (fl_ ((τ110 70)) 0 216 0)) τ126 0 → BZ σ125 a15 most16 (pw3 (a15 1)) → Q none S σ125 τ126) else (if (rt_ (σ (x1 + 11) 2) (σ (x1 + 12)) 9 4 x4) = (-1) then (wi (d + 18) 63 46 [.ref 67, .ref x1, .ref 54, .int (wI x3), .int (wI (x4 + 1)), .int (wI (rt_ (σ (x1 + 11) 2) (σ (x1 + 12)) 9 4 x4))] [] S σ τ Q) else (if (rt_ (σ (x1 + 5) 2) (σ (x1 + 6)) 13 4 (rt_ (σ (x1 + 11) 2) (σ (x1 + 12)) 9 4 x4)) = 0 then (∃ a31 : Int → Int, (RT σ x1 a31) ∧ (RX S σ a31) ∧ (Jv a31) ∧ (jv_T a31) ∧ (0 ≤ x4 ∧ x4 < a31 4) ∧ (a31 (3652 + 12 * x4 + 4) = (rt_ (σ (x1 + 11) 2) (σ (x1 + 12)) 9 4 x4) ∧ 0 ≤ (rt_ (σ (x1 + 11) 2) (σ (x1 + 12)) 9 4 x4)) ∧ (σ 73 (rt_ (σ (x1 + 11) 2) (σ (x1 + 12)) 9 4 x4) = s_py a31 (rt_ (σ (x1 + 11) 2) (σ (x1 + 12)) 9 4 x4)) ∧ (∀ k, 0 ≤ k → k < 576 → 0 ≤ τ 68 k ∧ τ 68 k ≤ 10000000000000) ∧ (0 ≤ σ 69 ((rt_ (σ (x1 + 11) 2) (σ (x1 + 12)) 9 4 x4) * 3 + 2) ∧ σ 69 ((rt_ (σ (x1 + 11) 2) (σ (x1 + 12)) 9 4 x4) * 3 + 2) ≤ 1000000) ∧ ∀ (σ141 : zI) (τ142 : zI), ED2 τ τ142 a31 (rt_ (σ (x1 + 11) 2) (σ (x1 + 12)) 9 4 x4) x4 → U69 σ σ141 a31 (rt_ (σ (x1 + 11) 2) (σ (x1 + 12)) 9 4 x4) x4 → wi (d + 18) 63 46 [.ref 67, .ref x1, .ref 54, .int (wI x3), .int (wI (x4 + 1)), .int (wI (rt_ (σ (x1 + 11) 2) (σ (x1 + 12)) 9 4 x4))] [] S σ141 τ142 Q) else (wi (d + 18) 63 46 [.ref 67, .ref x1, .ref 54, .int (wI x3), .int (wI (x4 + 1)), .int (wI (rt_ (σ (x1 + 11) 2) (σ (x1 + 12)) 9 4 x4))] [] S σ τ Q)))) : wi (d + 18) 63 46 [.ref 67, .ref x1, .ref 54, .int (wI x3), .int (wI x4), y5] [] S σ τ Q := by
  refine i3 c_63_46 rfl (i5 c_63_48 rfl (i45 c_63_49 (lo (lyt_0 hx1) (by have := tw_b hx1; omega)) (lro (lrt_5 hx1)) (wi_ok (fun K1 => ?_))))
  obtain ⟨r2, t⟩ := t
  refine i43 (v := σ (x1 + 11) 2) c_63_52 (lo (lyt_11 hx1) (by have := tw_b hx1; omega)) rfl ?_
  refine i37 c_63_55 r2 (rge_ K1 rfl) rfl (fun hc => ?_) (fun hc => ?_)
  · have t := iT t hc
    have ha3 : (σ (x1 + 11) 2) ≤ x4 := hc
    obtain ⟨a4, t⟩ := t
    obtain ⟨p5, t⟩ := t
    obtain ⟨p6, t⟩ := t
    obtain ⟨p7, t⟩ := t
    obtain ⟨p8, t⟩ := t
    refine i5 c_63_105 rfl (i5 c_63_106 rfl (i45 c_63_107 (lo (lyt_0 hx1) (by have := tw_b hx1; omega)) (lro (lrt_2 hx1)) (i43 (v := σ (x1 + 5) 2) c_63_110 (lo (lyt_5 hx1) (by have := tw_b hx1; omega)) rfl ?_)))
    refine i80 (As := [.int (wI (σ (x1 + 5) 2))]) (rest := []) c_63_113 mi_69 rfl rfl (Nat.le_of_ble_eq_true rfl) (Nat.le_of_ble_eq_true rfl) (lo (c := 67) (kd := 105) (n := 0) rfl (by decide)) (q_69 (a := a4) p5 p6 p7 p8 (fun σ19 τ110 q11 q12 q13 => ?_))
    have t := t σ19 τ110 q11 q12 q13
    show wi (d + 18) 63 116 [.ref 67, .ref x1, .ref 54, .int (wI x3), .int (wI x4), y5] [] S σ19 τ110 Q
    obtain ⟨p14, t⟩ := t
    refine i5 c_63_116 rfl (i45 c_63_117 (lo (c := 67) (kd := 105) (n := 0) rfl (by decide)) (lro (c := 67) (k := 2) (j := 70) (by decide)) (i2 c_63_120 ?_))
    refine i81 (As := [.ref 70, .long (wJ 0)]) (rest := []) c_63_121 mi_328 rfl rfl (Nat.le_of_ble_eq_true rfl) (Nat.le_of_ble_eq_true rfl) (q_328 ⟨fun _ _ => (lo (c := 70) (kd := 1) (n := 216) rfl (by decide)), (by decide)⟩ (by decide) p14 ?_)
    show wi (d + 18) 63 124 [.ref 67, .ref x1, .ref 54, .int (wI x3), .int (wI x4), y5] [] S σ19 (uc τ110 70 (fl_ ((τ110 70)) 0 216 0)) Q
    obtain ⟨a15, t⟩ := t
    obtain ⟨most16, t⟩ := t
    obtain ⟨p17, t⟩ := t
    obtain ⟨p18, t⟩ := t
    obtain ⟨p19, t⟩ := t
    obtain ⟨p20, t⟩ := t
    obtain ⟨p21, t⟩ := t
    obtain ⟨p22, t⟩ := t
    obtain ⟨p23, t⟩ := t
    obtain ⟨p24, t⟩ := t
    refine i5 c_63_124 rfl (i5 c_63_125 rfl (i45 c_63_126 (lo (lyt_0 hx1) (by have := tw_b hx1; omega)) (lro (lrt_2 hx1)) (i1 c_63_129 (i1 c_63_130 ?_))))
    refine i80 (As := [.ref (x1 + 5), .int (wI 0), .int (wI 0)]) (rest := []) c_63_131 mi_71 rfl rfl (Nat.le_of_ble_eq_true rfl) (Nat.le_of_ble_eq_true rfl) (lo (c := 67) (kd := 105) (n := 0) rfl (by decide)) (q_71s (a := a15) (most := most16) hx1 p17 p18 p19 p20 p21 p22 p23 p24 (fun σ125 τ126 q27 q28 => ?_))
    have t := t σ125 τ126 q27 q28
    show wi (d + 18) 63 134 [.ref 67, .ref x1, .ref 54, .int (wI x3), .int (wI x4), y5] [] S σ125 τ126 Q
    exact i94 c_63_134 t
  · have t := iF t hc
    have ha3 : ¬ ((σ (x1 + 11) 2) ≤ x4) := hc
    refine i5 c_63_58 rfl (i45 c_63_59 (lo (lyt_0 hx1) (by have := tw_b hx1; omega)) (lro (lrt_5 hx1)) (i3 c_63_62 rfl (i1 c_63_64 ?_)))
    refine i80 (As := [.int (wI x4), .int (wI 4)]) (rest := []) c_63_65 mi_55 rfl rfl (Nat.le_of_ble_eq_true rfl) (Nat.le_of_ble_eq_true rfl) (lo (lyt_11 hx1) (by have := tw_b hx1; omega)) (q_at (ow_persons hx1) r2 (by decide) ?_)
    show wi (d + 18) 63 68 [.ref 67, .ref x1, .ref 54, .int (wI x3), .int (wI x4), y5] [.int (wI (rt_ (σ (x1 + 11) 2) (σ (x1 + 12)) 9 4 x4))] S σ τ Q
    refine i6 (L' := [.ref 67, .ref x1, .ref 54, .int (wI x3), .int (wI x4), .int (wI (rt_ (σ (x1 + 11) 2) (σ (x1 + 12)) 9 4 x4))]) c_63_68 rfl (i3 c_63_70 rfl (i1 c_63_72 ?_))
    refine i37 c_63_73 (rg_rt_ (fun k => kO_r K1 _ k) _ _ _ _) (by decide) rfl (fun hc => ?_) (fun hc => ?_)
    · have t := iT t hc
      have ha29 : (rt_ (σ (x1 + 11) 2) (σ (x1 + 12)) 9 4 x4) = (-1) := hc
      refine i9 (L' := [.ref 67, .ref x1, .ref 54, .int (wI x3), .int (wI (x4 + 1)), .int (wI (rt_ (σ (x1 + 11) 2) (σ (x1 + 12)) 9 4 x4))]) c_63_99 rfl rfl (i38 c_63_102 rfl t)
    · have t := iF t hc
      have ha29 : ¬ ((rt_ (σ (x1 + 11) 2) (σ (x1 + 12)) 9 4 x4) = (-1)) := hc
      refine i5 c_63_76 rfl (i45 c_63_77 (lo (lyt_0 hx1) (by have := tw_b hx1; omega)) (lro (lrt_2 hx1)) (i3 c_63_80 rfl (i1 c_63_82 ?_)))
      refine i80 (As := [.int (wI (rt_ (σ (x1 + 11) 2) (σ (x1 + 12)) 9 4 x4)), .int (wI 4)]) (rest := []) c_63_83 mi_55 rfl rfl (Nat.le_of_ble_eq_true rfl) (Nat.le_of_ble_eq_true rfl) (lo (lyt_5 hx1) (by have := tw_b hx1; omega)) (q_at (ow_mills hx1) (rg_rt_ (fun k => kO_r K1 _ k) _ _ _ _) (by decide) ?_)
      show wi (d + 18) 63 86 [.ref 67, .ref x1, .ref 54, .int (wI x3), .int (wI x4), .int (wI (rt_ (σ (x1 + 11) 2) (σ (x1 + 12)) 9 4 x4))] [.int (wI (rt_ (σ (x1 + 5) 2) (σ (x1 + 6)) 13 4 (rt_ (σ (x1 + 11) 2) (σ (x1 + 12)) 9 4 x4)))] S σ τ Q
      refine i36 c_63_86 (rg_rt_ (fun k => kO_r K1 _ k) _ _ _ _) rfl (fun hc => ?_) (fun hc => ?_)
      · have t := iF t hc
        have ha30 : ¬ ((rt_ (σ (x1 + 5) 2) (σ (x1 + 6)) 13 4 (rt_ (σ (x1 + 11) 2) (σ (x1 + 12)) 9 4 x4)) = 0) := hc
        refine i9 (L' := [.ref 67, .ref x1, .ref 54, .int (wI x3), .int (wI (x4 + 1)), .int (wI (rt_ (σ (x1 + 11) 2) (σ (x1 + 12)) 9 4 x4))]) c_63_99 rfl rfl (i38 c_63_102 rfl t)
      · have t := iT t (Decidable.not_not.mp hc)
        have ha30 : (rt_ (σ (x1 + 5) 2) (σ (x1 + 6)) 13 4 (rt_ (σ (x1 + 11) 2) (σ (x1 + 12)) 9 4 x4)) = 0 := Decidable.not_not.mp hc
        obtain ⟨a31, t⟩ := t
        obtain ⟨p32, t⟩ := t
        obtain ⟨p33, t⟩ := t
        obtain ⟨p34, t⟩ := t
        obtain ⟨p35, t⟩ := t
        obtain ⟨p36, t⟩ := t
        obtain ⟨p37, t⟩ := t
        obtain ⟨p38, t⟩ := t
        obtain ⟨p39, t⟩ := t
        obtain ⟨p40, t⟩ := t
        refine i5 c_63_89 rfl (i5 c_63_90 rfl (i5 c_63_91 rfl (i3 c_63_92 rfl (i3 c_63_94 rfl ?_))))
        refine i80 (As := [.ref x1, .ref 54, .int (wI x4), .int (wI (rt_ (σ (x1 + 11) 2) (σ (x1 + 12)) 9 4 x4))]) (rest := []) c_63_96 mi_66 rfl rfl (Nat.le_of_ble_eq_true rfl) (Nat.le_of_ble_eq_true rfl) (lo (c := 67) (kd := 105) (n := 0) rfl (by decide)) (q_66 (a := a31) hx1 p32 p33 p34 p35 p36 p37 p38 p39 p40 (fun σ141 τ142 q43 q44 => ?_))
        have t := t σ141 τ142 q43 q44
        show wi (d + 18) 63 99 [.ref 67, .ref x1, .ref 54, .int (wI x3), .int (wI x4), .int (wI (rt_ (σ (x1 + 11) 2) (σ (x1 + 12)) 9 4 x4))] [] S σ141 τ142 Q
        refine i9 (L' := [.ref 67, .ref x1, .ref 54, .int (wI x3), .int (wI (x4 + 1)), .int (wI (rt_ (σ (x1 + 11) 2) (σ (x1 + 12)) 9 4 x4))]) c_63_99 rfl rfl (i38 c_63_102 rfl t)
theorem q_63 {d : Nat} {S : zS} {σ τ : zI} {Q : zQ} {tn : Nat} {most : Int} {a : Int → Int} (htn : tw tn) (p0 : RT σ tn a) (p1 : RX S σ a) (p2 : Jv a) (p3 : jv_T a) (p4 : jv_E a) (p5 : a 0 ≤ 399) (p6 : 0 ≤ most ∧ most ≤ 100000) (t : ∀ (σ1 : zI) (τ1 : zI), FQ σ σ1 → BZ σ1 a most (pw3 (a 1)) → Q none S σ1 τ1) : wc (d + 18) 63 [.ref 67, .ref tn, .ref 54, .int (wI most)] S σ τ Q := by
  have hC := jC p2
  unfold jv_C at hC
  have tb := tw_b htn
  refine wc_of mi_63 rfl (u_63_0 htn ?_)
  have fr0 : ∀ f c, c ≠ 67 → uc σ 67 f c = σ c := fun f c hc => uc_n hc
  refine ⟨most, rfl, by omega, a, RT_σ (fun c c0 c1 => fr0 _ c (by omega)) p0, p2, p5, fun τ1 fn => ⟨a, RT_σ (fun c c0 c1 => fr0 _ c (by omega)) p0, RX_f p1 (fun c hc => fr0 _ c (by omega)), p2, p3, p4, fun σ2 τ2 fp => ⟨by decide, ?_⟩⟩⟩
  have key : ∀ p, 0 ≤ p → p ≤ a 4 → ∀ σ' τ', FQ σ σ' → (σ' 67 9 = most ∧ σ' 67 10 = 25 ∧ σ' 67 11 = -1) → (∀ m, 0 ≤ m → m < a 1 → σ' 73 m = s_py a m) → (∀ h, 0 ≤ h → h < 24 → τ' 76 h = c_nd a h) → PG σ' τ' a p → ∀ y5, wi (d + 18) 63 46 [.ref 67, .ref tn, .ref 54, .int (wI most), .int (wI p), y5] [] S σ' τ' Q := by
    refine lp_up (fun p q0 q1 ih => ?_)
    intro σ' τ' fq f67 f73 f76 pg y5
    have rt : RT σ' tn a := RT_σ (fun c h1 h2 => fq.1 c (by omega) (by omega) (by omega) (by omega) (by omega) (by omega) (by omega)) p0
    have rx : RX S σ' a := RX_f p1 (fun c hc => fq.1 c (by omega) (by omega) (by omega) (by omega) (by omega) (by omega) (by omega))
    have cn := cP rt
    have cm := cM rt
    have pgb := PG_b p2 p3 ⟨q0, q1⟩ pg
    refine u_63_46 htn ?_
    rw [cn, cm]
    refine ⟨by omega, ifI (fun e => ?_) (fun e => ?_)⟩
    · have e : p = a 4 := by omega
      subst e
      have pe := PG_e pg
      refine ⟨a, rfl, p2, p3, fun m m0 m1 => pe m m0 m1 2 (by omega) (by omega), fun σ3 τ3 g1 g2 g3 => ⟨by decide, a, most, ⟨rfl, rfl⟩, RT_σ (fun c h1 h2 => g1 c (by omega)) rt, p2, p3, p6, ⟨fun m m0 m1 run r0 r1 => ?_, fun m m0 m1 => ?_, fun h h0 h1 => ?_, ?_⟩, fun h h0 h1 => ?_, ?_, fun σ4 τ4 fz bz => t σ4 τ4 ⟨fun c c1 c2 c3 c4 c5 c6 c7 => ?_, fun k hk => ?_⟩ bz⟩⟩
      · rw [g1 69 (by decide), uc_n (by decide), g2 68 (by decide)]
        exact pe m m0 m1 run r0 r1
      · rw [uc_n (by decide)]; exact g3 m m0 m1
      · rw [uc_n (by decide), g2 76 (by decide)]; exact f76 h h0 h1
      · rw [g1 67 (by decide)]; exact f67.1
      · rw [uc_s, fl_in h0 (by omega)]
      · rw [g1 67 (by decide)]; exact f67.2
      · rw [fz.1 c c2 c6 c7, g1 c c4]; exact fq.1 c c1 c2 c3 c4 c5 c6 c7
      · rw [fz.1 54 (by decide) (by decide) (by decide), g1 54 (by decide)]; exact fq.2 k hk
    · have hP := jP p2 p q0 (by omega)
      have v4 := vP rt (p := p) (k := 4) (by omega) (by omega)
      rw [cn] at v4
      rw [v4]
      have ih := ih (by omega)
      refine ifI (fun e2 => ih σ' τ' fq f67 f73 f76 (PG_no q0 (Or.inl e2) pg) _) (fun e2 => ?_)
      have vm := vM4 rt (r := a (3652 + 12 * p + 4)) (by omega)
      rw [cm] at vm
      rw [vm]
      refine ifI (fun e3 => ?_) (fun e3 => ih σ' τ' fq f67 f73 f76 (PG_no q0 (Or.inr e3) pg) _)
      refine ⟨a, rt, rx, p2, p3, by omega, ⟨rfl, by omega⟩, f73 _ (by omega) (by omega), pgb.1, pgb.2 _ (by omega) (by omega), fun σ3 τ3 ed u => ?_⟩
      refine ih σ3 τ3 ⟨fun c c1 c2 c3 c4 c5 c6 c7 => by rw [u.1 c c3]; exact fq.1 c c1 c2 c3 c4 c5 c6 c7, fun k hk => by rw [u.1 54 (by decide)]; exact fq.2 k hk⟩ (by rw [u.1 67 (by decide)]; exact f67) (by rw [u.1 73 (by decide)]; exact f73) (by rw [ed.1 76 (by decide)]; exact f76) (PG_yes q0 (by omega) rfl e3 pg ed u) _
  refine key 0 (by omega) (by omega) _ _ ⟨fun c c1 c2 c3 c4 c5 c6 c7 => by rw [uc_n c3, fp.1 c c1 c5, uc_n c2], fun k hk => by rw [uc_n (by decide), fp.2.1 k hk, uc_n (by decide)]⟩ ?_ (fun m m0 m1 => by rw [uc_n (by decide)]; exact fp.2.2.2 m m0 m1) (fun h h0 h1 => by rw [uc_n (by decide), fp.2.2.1 76 (by decide) (by decide)]; exact fn.2 h h0 h1) ⟨fun m m0 m1 => ?_, fun m m0 m1 run r0 r1 h h0 h1 => ?_, fun m m0 m1 h h0 h1 => ?_, fun k k0 k1 => ?_⟩ _
  · rw [uc_n (by decide), fp.1 67 (by decide) (by decide), uc_s]
    simp (disch := omega) only [u1_n, u1_s]
    exact ⟨trivial, trivial, trivial⟩
  · rw [uc_s, fl_in (by omega) (by omega), fl_in (by omega) (by omega), fl_in (by omega) (by omega)]
    have : s_nn a m 0 = 0 := rfl
    rw [this]
    exact ⟨by split <;> rfl, rfl, rfl⟩
  · rw [uc_s, fl_in (by omega) (by omega)]
    have : s_en a m run h 0 = 0 := rfl
    rw [this]
    split <;> rfl
  · rw [uc_s, fl_in (by omega) (by omega)]
  · rw [uc_s, fl_in (by omega) (by omega)]
theorem SV_u {a : Int → Int} {most what v v' : Int} (hm : 0 ≤ a 1) (h0 : 0 ≤ most) (h : SV a most what v) (h' : SV a most what v') : v = v' := by
  obtain ⟨b, H, N, q, e⟩ := h
  obtain ⟨b', H', N', q', e'⟩ := h'
  have s1 := BQ_some hm h0 q
  have s2 := BQ_some hm h0 q'
  have u1_ := BQ_v q s1
  have u2_ := BQ_v q' s2
  have eb : b = b' := by
    rcases q with q | q
    · omega
    · rcases q' with q' | q'
      · omega
      · have x1 := q.2.2.2.2 b' q'.1.1 q'.1.2 q'.2.1
        have x2 := q'.2.2.2.2 b q.1.1 q.1.2 q.2.1
        omega
  subst eb
  rw [e, e', u1_.1, u1_.2, u2_.1, u2_.2]
-- method 185: MillTown.shared(II)I
theorem c_185_0 : pg_cd 185 0 = (3, 1, 0, 2, 0) := by decide +kernel
theorem c_185_1 : pg_cd 185 1 = (1, 1, 0, 0, (-1)) := by decide +kernel
theorem c_185_2 : pg_cd 185 2 = (37, 3, 0, 0, 23) := by decide +kernel
theorem c_185_5 : pg_cd 185 5 = (3, 1, 0, 2, 0) := by decide +kernel
theorem c_185_6 : pg_cd 185 6 = (1, 2, 0, 0, (-2)) := by decide +kernel
theorem c_185_8 : pg_cd 185 8 = (37, 3, 0, 0, 17) := by decide +kernel
theorem c_185_11 : pg_cd 185 11 = (5, 1, 0, 0, 0) := by decide +kernel
theorem c_185_12 : pg_cd 185 12 = (45, 11, 12, 0, 0) := by decide +kernel
theorem c_185_15 : pg_cd 185 15 = (45, 8, 71, 2, 0) := by decide +kernel
theorem c_185_18 : pg_cd 185 18 = (3, 1, 0, 2, 0) := by decide +kernel
theorem c_185_19 : pg_cd 185 19 = (80, 53, 75, 0, 0) := by decide +kernel
theorem c_185_22 : pg_cd 185 22 = (36, 3, 0, 0, 7) := by decide +kernel
theorem c_185_25 : pg_cd 185 25 = (1, 1, 0, 0, 1) := by decide +kernel
theorem c_185_26 : pg_cd 185 26 = (38, 3, 0, 0, 4) := by decide +kernel
theorem c_185_29 : pg_cd 185 29 = (1, 1, 0, 0, 0) := by decide +kernel
theorem c_185_30 : pg_cd 185 30 = (6, 1, 0, 3, 0) := by decide +kernel
theorem c_185_31 : pg_cd 185 31 = (3, 1, 0, 1, 0) := by decide +kernel
theorem c_185_32 : pg_cd 185 32 = (1, 1, 0, 0, 0) := by decide +kernel
theorem c_185_33 : pg_cd 185 33 = (1, 2, 100, 0, 100000) := by decide +kernel
theorem c_185_35 : pg_cd 185 35 = (81, 141, 85, 0, 0) := by decide +kernel
theorem c_185_38 : pg_cd 185 38 = (36, 3, 0, 0, 20) := by decide +kernel
theorem c_185_41 : pg_cd 185 41 = (3, 1, 0, 3, 0) := by decide +kernel
theorem c_185_42 : pg_cd 185 42 = (36, 3, 0, 0, 16) := by decide +kernel
theorem c_185_45 : pg_cd 185 45 = (5, 1, 0, 0, 0) := by decide +kernel
theorem c_185_46 : pg_cd 185 46 = (45, 11, 12, 0, 0) := by decide +kernel
theorem c_185_49 : pg_cd 185 49 = (43, 8, 193, 8, 0) := by decide +kernel
theorem c_185_52 : pg_cd 185 52 = (81, 142, 97, 0, 0) := by decide +kernel
theorem c_185_55 : pg_cd 185 55 = (36, 3, 0, 1, 5) := by decide +kernel
theorem c_185_58 : pg_cd 185 58 = (1, 1, 0, 0, (-1)) := by decide +kernel
theorem c_185_59 : pg_cd 185 59 = (90, 0, 0, 0, 0) := by decide +kernel
theorem c_185_60 : pg_cd 185 60 = (5, 1, 0, 0, 0) := by decide +kernel
theorem c_185_61 : pg_cd 185 61 = (45, 11, 49, 7, 0) := by decide +kernel
theorem c_185_64 : pg_cd 185 64 = (5, 1, 0, 0, 0) := by decide +kernel
theorem c_185_65 : pg_cd 185 65 = (45, 11, 12, 0, 0) := by decide +kernel
theorem c_185_68 : pg_cd 185 68 = (5, 1, 0, 0, 0) := by decide +kernel
theorem c_185_69 : pg_cd 185 69 = (45, 11, 33, 4, 0) := by decide +kernel
theorem c_185_72 : pg_cd 185 72 = (3, 1, 0, 1, 0) := by decide +kernel
theorem c_185_73 : pg_cd 185 73 = (80, 63, 298, 0, 0) := by decide +kernel
theorem c_185_76 : pg_cd 185 76 = (3, 1, 0, 2, 0) := by decide +kernel
theorem c_185_77 : pg_cd 185 77 = (1, 1, 0, 0, (-1)) := by decide +kernel
theorem c_185_78 : pg_cd 185 78 = (37, 3, 0, 1, 11) := by decide +kernel
theorem c_185_81 : pg_cd 185 81 = (5, 1, 0, 0, 0) := by decide +kernel
theorem c_185_82 : pg_cd 185 82 = (45, 11, 49, 7, 0) := by decide +kernel
theorem c_185_85 : pg_cd 185 85 = (43, 5, 302, 10, 0) := by decide +kernel
theorem c_185_88 : pg_cd 185 88 = (90, 0, 0, 0, 0) := by decide +kernel
theorem c_185_89 : pg_cd 185 89 = (3, 1, 0, 2, 0) := by decide +kernel
theorem c_185_90 : pg_cd 185 90 = (1, 2, 0, 0, (-2)) := by decide +kernel
theorem c_185_92 : pg_cd 185 92 = (37, 3, 0, 1, 13) := by decide +kernel
theorem c_185_95 : pg_cd 185 95 = (5, 1, 0, 0, 0) := by decide +kernel
theorem c_185_96 : pg_cd 185 96 = (45, 11, 49, 7, 0) := by decide +kernel
theorem c_185_99 : pg_cd 185 99 = (43, 5, 305, 11, 0) := by decide +kernel
theorem c_185_102 : pg_cd 185 102 = (38, 3, 0, 0, 11) := by decide +kernel
theorem c_185_105 : pg_cd 185 105 = (5, 1, 0, 0, 0) := by decide +kernel
theorem c_185_106 : pg_cd 185 106 = (45, 11, 49, 7, 0) := by decide +kernel
theorem c_185_109 : pg_cd 185 109 = (3, 1, 0, 2, 0) := by decide +kernel
theorem c_185_110 : pg_cd 185 110 = (80, 62, 308, 0, 0) := by decide +kernel
theorem c_185_113 : pg_cd 185 113 = (90, 0, 0, 0, 0) := by decide +kernel
theorem mi_185 : pg_mc 185 = 11 ∧ pg_na 185 = 2 ∧ pg_mx 185 = 4 := by decide +kernel
set_option maxRecDepth 20000 in
theorem u_185_0 {d : Nat} {S : zS} {σ τ : zI} {Q : zQ} {x1 : Int} {x2 : Int} (t : (rg x2) ∧ if x2 = (-1) then ((rg x1) ∧ if 0 ≤ x1 ∧ x1 ≤ 100000 then (if 0 ≤ (σ 2 8) ∧ (σ 2 8) ≤ 399 then (∃ a7 : Int → Int, (RT σ 2 a7) ∧ (RX S σ a7) ∧ (Jv a7) ∧ (jv_T a7) ∧ (jv_E a7) ∧ (a7 0 ≤ 399) ∧ (0 ≤ x1 ∧ x1 ≤ 100000) ∧ ∀ (σ115 : zI) (τ116 : zI), FQ σ σ115 → BZ σ115 a7 x1 (pw3 (a7 1)) → Q (some (.int (wI (σ115 67 10)))) S σ115 τ116) else (Q (some (.int (wI (-1)))) S σ τ)) else (Q (some (.int (wI (-1)))) S σ τ)) else (if x2 = (-2) then ((rg x1) ∧ if 0 ≤ x1 ∧ x1 ≤ 100000 then (if 0 ≤ (σ 2 8) ∧ (σ 2 8) ≤ 399 then (∃ a26 : Int → Int, (RT σ 2 a26) ∧ (RX S σ a26) ∧ (Jv a26) ∧ (jv_T a26) ∧ (jv_E a26) ∧ (a26 0 ≤ 399) ∧ (0 ≤ x1 ∧ x1 ≤ 100000) ∧ ∀ (σ134 : zI) (τ135 : zI), FQ σ σ134 → BZ σ134 a26 x1 (pw3 (a26 1)) → Q (some (.int (wI (σ134 67 11)))) S σ134 τ135) else (Q (some (.int (wI (-1)))) S σ τ)) else (Q (some (.int (wI (-1)))) S σ τ)) else (if 0 ≤ x2 ∧ x2 < (σ 7 2) then ((rg x1) ∧ if 0 ≤ x1 ∧ x1 ≤ 100000 then (if 0 ≤ (σ 2 8) ∧ (σ 2 8) ≤ 399 then (∃ a46 : Int → Int, (RT σ 2 a46) ∧ (RX S σ a46) ∧ (Jv a46) ∧ (jv_T a46) ∧ (jv_E a46) ∧ (a46 0 ≤ 399) ∧ (0 ≤ x1 ∧ x1 ≤ 100000) ∧ ∀ (σ154 : zI) (τ155 : zI), FQ σ σ154 → BZ σ154 a46 x1 (pw3 (a46 1)) → (0 ≤ x2 ∧ x2 < (8 : Int)) ∧ Q (some (.int (wI (σ154 75 x2)))) S σ154 τ155) else (Q (some (.int (wI (-1)))) S σ τ)) else (Q (some (.int (wI (-1)))) S σ τ)) else ((rg x1) ∧ if 0 ≤ x1 ∧ x1 ≤ 100000 then (Q (some (.int (wI (-1)))) S σ τ) else (Q (some (.int (wI (-1)))) S σ τ))))) : wi (d + 19) 185 0 [.ref 1, .int (wI x1), .int (wI x2), .retAddr 0] [] S σ τ Q := by
  obtain ⟨r1, t⟩ := t
  refine i3 c_185_0 rfl (i1 c_185_1 ?_)
  refine i37 c_185_2 r1 (by decide) rfl (fun hc => ?_) (fun hc => ?_)
  · have t := iT t hc
    have ha2 : x2 = (-1) := hc
    obtain ⟨r3, t⟩ := t
    refine i1 c_185_25 (i38 c_185_26 rfl (i6 (L' := [.ref 1, .int (wI x1), .int (wI x2), .int (wI 1)]) c_185_30 rfl (i3 c_185_31 rfl (i1 c_185_32 (i1 c_185_33 ?_)))))
    refine i81 (As := [.int (wI x1), .int (wI 0), .int (wI 100000)]) (rest := []) c_185_35 mi_141 rfl rfl (Nat.le_of_ble_eq_true rfl) (Nat.le_of_ble_eq_true rfl) (q_141 r3 (by decide) (by decide) ?_)
    show wi (d + 19) 185 38 [.ref 1, .int (wI x1), .int (wI x2), .int (wI 1)] [.int (wI (if 0 ≤ x1 ∧ x1 ≤ 100000 then 1 else 0))] S σ τ Q
    refine i36e c_185_38 rfl (fun hc => ?_) (fun hc => ?_)
    · have t := iT t hc
      have ha4 : 0 ≤ x1 ∧ x1 ≤ 100000 := hc
      refine i3 c_185_41 rfl (i36k (pc1 := 45) c_185_42 (by decide) (i5 c_185_45 rfl (i45 c_185_46 (lo (c := 1) (kd := 111) (n := 0) rfl (by decide)) (lro (c := 1) (k := 0) (j := 2) (by decide)) (wi_ok (fun K5 => ?_)))))
      refine i43 (v := σ 2 8) c_185_49 (lo (c := 2) (kd := 108) (n := 0) rfl (by decide)) rfl ?_
      refine i81 (As := [.int (wI (σ 2 8))]) (rest := []) c_185_52 mi_142 rfl rfl (Nat.le_of_ble_eq_true rfl) (Nat.le_of_ble_eq_true rfl) (q_142 (rge_ K5 rfl) ?_)
      show wi (d + 19) 185 55 [.ref 1, .int (wI x1), .int (wI x2), .int (wI 1)] [.int (wI (if 0 ≤ (σ 2 8) ∧ (σ 2 8) ≤ 399 then 1 else 0))] S σ τ Q
      refine i36f c_185_55 rfl (fun hc => ?_) (fun hc => ?_)
      · have t := iT t hc
        have ha6 : 0 ≤ (σ 2 8) ∧ (σ 2 8) ≤ 399 := hc
        obtain ⟨a7, t⟩ := t
        obtain ⟨p8, t⟩ := t
        obtain ⟨p9, t⟩ := t
        obtain ⟨p10, t⟩ := t
        obtain ⟨p11, t⟩ := t
        obtain ⟨p12, t⟩ := t
        obtain ⟨p13, t⟩ := t
        obtain ⟨p14, t⟩ := t
        refine i5 c_185_60 rfl (i45 c_185_61 (lo (c := 1) (kd := 111) (n := 0) rfl (by decide)) (lro (c := 1) (k := 7) (j := 67) (by decide)) (i5 c_185_64 rfl (i45 c_185_65 (lo (c := 1) (kd := 111) (n := 0) rfl (by decide)) (lro (c := 1) (k := 0) (j := 2) (by decide)) (i5 c_185_68 rfl (i45 c_185_69 (lo (c := 1) (kd := 111) (n := 0) rfl (by decide)) (lro (c := 1) (k := 4) (j := 54) (by decide)) (i3 c_185_72 rfl ?_))))))
        refine i80 (As := [.ref 2, .ref 54, .int (wI x1)]) (rest := []) c_185_73 mi_63 rfl rfl (Nat.le_of_ble_eq_true rfl) (Nat.le_of_ble_eq_true rfl) (lo (c := 67) (kd := 105) (n := 0) rfl (by decide)) (q_63 (a := a7) tw_2 p8 p9 p10 p11 p12 p13 p14 (fun σ115 τ116 q17 q18 => ?_))
        have t := t σ115 τ116 q17 q18
        show wi (d + 19) 185 76 [.ref 1, .int (wI x1), .int (wI x2), .int (wI 1)] [] S σ115 τ116 Q
        refine i3 c_185_76 rfl (i1 c_185_77 ?_)
        refine i37 c_185_78 r1 (by decide) rfl (fun hc => absurd (show x2 = (-1) by omega) hc) (fun _ => ?_)
        refine i5 c_185_81 rfl (i45 c_185_82 (lo (c := 1) (kd := 111) (n := 0) rfl (by decide)) (lro (c := 1) (k := 7) (j := 67) (by decide)) (wi_ok (fun K20 => ?_)))
        refine i43 (v := σ115 67 10) c_185_85 (lo (c := 67) (kd := 105) (n := 0) rfl (by decide)) rfl ?_
        exact i90 c_185_88 t
      · have t := iF t hc
        have ha6 : ¬ (0 ≤ (σ 2 8) ∧ (σ 2 8) ≤ 399) := hc
        refine i1 c_185_58 ?_
        exact i90 c_185_59 t
    · have t := iF t hc
      have ha4 : ¬ (0 ≤ x1 ∧ x1 ≤ 100000) := hc
      refine i1 c_185_58 ?_
      exact i90 c_185_59 t
  · have t := iF t hc
    have ha2 : ¬ (x2 = (-1)) := hc
    refine i3 c_185_5 rfl (i1 c_185_6 ?_)
    refine i37 c_185_8 r1 (by decide) rfl (fun hc => ?_) (fun hc => ?_)
    · have t := iT t hc
      have ha21 : x2 = (-2) := hc
      obtain ⟨r22, t⟩ := t
      refine i1 c_185_25 (i38 c_185_26 rfl (i6 (L' := [.ref 1, .int (wI x1), .int (wI x2), .int (wI 1)]) c_185_30 rfl (i3 c_185_31 rfl (i1 c_185_32 (i1 c_185_33 ?_)))))
      refine i81 (As := [.int (wI x1), .int (wI 0), .int (wI 100000)]) (rest := []) c_185_35 mi_141 rfl rfl (Nat.le_of_ble_eq_true rfl) (Nat.le_of_ble_eq_true rfl) (q_141 r22 (by decide) (by decide) ?_)
      show wi (d + 19) 185 38 [.ref 1, .int (wI x1), .int (wI x2), .int (wI 1)] [.int (wI (if 0 ≤ x1 ∧ x1 ≤ 100000 then 1 else 0))] S σ τ Q
      refine i36e c_185_38 rfl (fun hc => ?_) (fun hc => ?_)
      · have t := iT t hc
        have ha23 : 0 ≤ x1 ∧ x1 ≤ 100000 := hc
        refine i3 c_185_41 rfl (i36k (pc1 := 45) c_185_42 (by decide) (i5 c_185_45 rfl (i45 c_185_46 (lo (c := 1) (kd := 111) (n := 0) rfl (by decide)) (lro (c := 1) (k := 0) (j := 2) (by decide)) (wi_ok (fun K24 => ?_)))))
        refine i43 (v := σ 2 8) c_185_49 (lo (c := 2) (kd := 108) (n := 0) rfl (by decide)) rfl ?_
        refine i81 (As := [.int (wI (σ 2 8))]) (rest := []) c_185_52 mi_142 rfl rfl (Nat.le_of_ble_eq_true rfl) (Nat.le_of_ble_eq_true rfl) (q_142 (rge_ K24 rfl) ?_)
        show wi (d + 19) 185 55 [.ref 1, .int (wI x1), .int (wI x2), .int (wI 1)] [.int (wI (if 0 ≤ (σ 2 8) ∧ (σ 2 8) ≤ 399 then 1 else 0))] S σ τ Q
        refine i36f c_185_55 rfl (fun hc => ?_) (fun hc => ?_)
        · have t := iT t hc
          have ha25 : 0 ≤ (σ 2 8) ∧ (σ 2 8) ≤ 399 := hc
          obtain ⟨a26, t⟩ := t
          obtain ⟨p27, t⟩ := t
          obtain ⟨p28, t⟩ := t
          obtain ⟨p29, t⟩ := t
          obtain ⟨p30, t⟩ := t
          obtain ⟨p31, t⟩ := t
          obtain ⟨p32, t⟩ := t
          obtain ⟨p33, t⟩ := t
          refine i5 c_185_60 rfl (i45 c_185_61 (lo (c := 1) (kd := 111) (n := 0) rfl (by decide)) (lro (c := 1) (k := 7) (j := 67) (by decide)) (i5 c_185_64 rfl (i45 c_185_65 (lo (c := 1) (kd := 111) (n := 0) rfl (by decide)) (lro (c := 1) (k := 0) (j := 2) (by decide)) (i5 c_185_68 rfl (i45 c_185_69 (lo (c := 1) (kd := 111) (n := 0) rfl (by decide)) (lro (c := 1) (k := 4) (j := 54) (by decide)) (i3 c_185_72 rfl ?_))))))
          refine i80 (As := [.ref 2, .ref 54, .int (wI x1)]) (rest := []) c_185_73 mi_63 rfl rfl (Nat.le_of_ble_eq_true rfl) (Nat.le_of_ble_eq_true rfl) (lo (c := 67) (kd := 105) (n := 0) rfl (by decide)) (q_63 (a := a26) tw_2 p27 p28 p29 p30 p31 p32 p33 (fun σ134 τ135 q36 q37 => ?_))
          have t := t σ134 τ135 q36 q37
          show wi (d + 19) 185 76 [.ref 1, .int (wI x1), .int (wI x2), .int (wI 1)] [] S σ134 τ135 Q
          refine i3 c_185_76 rfl (i1 c_185_77 ?_)
          refine i37 c_185_78 r1 (by decide) rfl (fun _ => ?_) (fun hc => absurd (show ¬ (x2 = (-1)) by omega) hc)
          refine i3 c_185_89 rfl (i1 c_185_90 ?_)
          refine i37 c_185_92 r1 (by decide) rfl (fun hc => absurd (show x2 = (-2) by omega) hc) (fun _ => ?_)
          refine i5 c_185_95 rfl (i45 c_185_96 (lo (c := 1) (kd := 111) (n := 0) rfl (by decide)) (lro (c := 1) (k := 7) (j := 67) (by decide)) (wi_ok (fun K40 => ?_)))
          refine i43 (v := σ134 67 11) c_185_99 (lo (c := 67) (kd := 105) (n := 0) rfl (by decide)) rfl (i38 c_185_102 rfl ?_)
          exact i90 c_185_113 t
        · have t := iF t hc
          have ha25 : ¬ (0 ≤ (σ 2 8) ∧ (σ 2 8) ≤ 399) := hc
          refine i1 c_185_58 ?_
          exact i90 c_185_59 t
      · have t := iF t hc
        have ha23 : ¬ (0 ≤ x1 ∧ x1 ≤ 100000) := hc
        refine i1 c_185_58 ?_
        exact i90 c_185_59 t
    · have t := iF t hc
      have ha21 : ¬ (x2 = (-2)) := hc
      refine i5 c_185_11 rfl (i45 c_185_12 (lo (c := 1) (kd := 111) (n := 0) rfl (by decide)) (lro (c := 1) (k := 0) (j := 2) (by decide)) (i45 c_185_15 (lo (c := 2) (kd := 108) (n := 0) rfl (by decide)) (lro (c := 2) (k := 2) (j := 7) (by decide)) (i3 c_185_18 rfl (wi_ok (fun K41 => ?_)))))
      refine i80 (As := [.int (wI x2)]) (rest := []) c_185_19 mi_53 rfl rfl (Nat.le_of_ble_eq_true rfl) (Nat.le_of_ble_eq_true rfl) (lo (c := 7) (kd := 104) (n := 0) rfl (by decide)) (q_has (ow_mills tw_2) r1 ?_)
      show wi (d + 19) 185 22 [.ref 1, .int (wI x1), .int (wI x2), .retAddr 0] [.int (wI (if 0 ≤ x2 ∧ x2 < σ 7 2 then 1 else 0))] S σ τ Q
      refine i36e c_185_22 rfl (fun hc => ?_) (fun hc => ?_)
      · have t := iT t hc
        have ha42 : 0 ≤ x2 ∧ x2 < (σ 7 2) := hc
        obtain ⟨r43, t⟩ := t
        refine i1 c_185_25 (i38 c_185_26 rfl (i6 (L' := [.ref 1, .int (wI x1), .int (wI x2), .int (wI 1)]) c_185_30 rfl (i3 c_185_31 rfl (i1 c_185_32 (i1 c_185_33 ?_)))))
        refine i81 (As := [.int (wI x1), .int (wI 0), .int (wI 100000)]) (rest := []) c_185_35 mi_141 rfl rfl (Nat.le_of_ble_eq_true rfl) (Nat.le_of_ble_eq_true rfl) (q_141 r43 (by decide) (by decide) ?_)
        show wi (d + 19) 185 38 [.ref 1, .int (wI x1), .int (wI x2), .int (wI 1)] [.int (wI (if 0 ≤ x1 ∧ x1 ≤ 100000 then 1 else 0))] S σ τ Q
        refine i36e c_185_38 rfl (fun hc => ?_) (fun hc => ?_)
        · have t := iT t hc
          have ha44 : 0 ≤ x1 ∧ x1 ≤ 100000 := hc
          refine i3 c_185_41 rfl (i36k (pc1 := 45) c_185_42 (by decide) (i5 c_185_45 rfl (i45 c_185_46 (lo (c := 1) (kd := 111) (n := 0) rfl (by decide)) (lro (c := 1) (k := 0) (j := 2) (by decide)) (i43 (v := σ 2 8) c_185_49 (lo (c := 2) (kd := 108) (n := 0) rfl (by decide)) rfl ?_))))
          refine i81 (As := [.int (wI (σ 2 8))]) (rest := []) c_185_52 mi_142 rfl rfl (Nat.le_of_ble_eq_true rfl) (Nat.le_of_ble_eq_true rfl) (q_142 (rge_ K41 rfl) ?_)
          show wi (d + 19) 185 55 [.ref 1, .int (wI x1), .int (wI x2), .int (wI 1)] [.int (wI (if 0 ≤ (σ 2 8) ∧ (σ 2 8) ≤ 399 then 1 else 0))] S σ τ Q
          refine i36f c_185_55 rfl (fun hc => ?_) (fun hc => ?_)
          · have t := iT t hc
            have ha45 : 0 ≤ (σ 2 8) ∧ (σ 2 8) ≤ 399 := hc
            obtain ⟨a46, t⟩ := t
            obtain ⟨p47, t⟩ := t
            obtain ⟨p48, t⟩ := t
            obtain ⟨p49, t⟩ := t
            obtain ⟨p50, t⟩ := t
            obtain ⟨p51, t⟩ := t
            obtain ⟨p52, t⟩ := t
            obtain ⟨p53, t⟩ := t
            refine i5 c_185_60 rfl (i45 c_185_61 (lo (c := 1) (kd := 111) (n := 0) rfl (by decide)) (lro (c := 1) (k := 7) (j := 67) (by decide)) (i5 c_185_64 rfl (i45 c_185_65 (lo (c := 1) (kd := 111) (n := 0) rfl (by decide)) (lro (c := 1) (k := 0) (j := 2) (by decide)) (i5 c_185_68 rfl (i45 c_185_69 (lo (c := 1) (kd := 111) (n := 0) rfl (by decide)) (lro (c := 1) (k := 4) (j := 54) (by decide)) (i3 c_185_72 rfl ?_))))))
            refine i80 (As := [.ref 2, .ref 54, .int (wI x1)]) (rest := []) c_185_73 mi_63 rfl rfl (Nat.le_of_ble_eq_true rfl) (Nat.le_of_ble_eq_true rfl) (lo (c := 67) (kd := 105) (n := 0) rfl (by decide)) (q_63 (a := a46) tw_2 p47 p48 p49 p50 p51 p52 p53 (fun σ154 τ155 q56 q57 => ?_))
            have t := t σ154 τ155 q56 q57
            show wi (d + 19) 185 76 [.ref 1, .int (wI x1), .int (wI x2), .int (wI 1)] [] S σ154 τ155 Q
            refine i3 c_185_76 rfl (i1 c_185_77 ?_)
            refine i37 c_185_78 r1 (by decide) rfl (fun _ => ?_) (fun hc => absurd (show ¬ (x2 = (-1)) by omega) hc)
            refine i3 c_185_89 rfl (i1 c_185_90 ?_)
            refine i37 c_185_92 r1 (by decide) rfl (fun _ => ?_) (fun hc => absurd (show ¬ (x2 = (-2)) by omega) hc)
            obtain ⟨p60, t⟩ := t
            refine i5 c_185_105 rfl (i45 c_185_106 (lo (c := 1) (kd := 111) (n := 0) rfl (by decide)) (lro (c := 1) (k := 7) (j := 67) (by decide)) (i3 c_185_109 rfl ?_))
            refine i80 (As := [.int (wI x2)]) (rest := []) c_185_110 mi_62 rfl rfl (Nat.le_of_ble_eq_true rfl) (Nat.le_of_ble_eq_true rfl) (lo (c := 67) (kd := 105) (n := 0) rfl (by decide)) (q_62 p60 ?_)
            show wi (d + 19) 185 113 [.ref 1, .int (wI x1), .int (wI x2), .int (wI 1)] [.int (wI (σ154 75 x2))] S σ154 τ155 Q
            refine wi_ok (fun K61 => ?_)
            exact i90 c_185_113 t
          · have t := iF t hc
            have ha45 : ¬ (0 ≤ (σ 2 8) ∧ (σ 2 8) ≤ 399) := hc
            refine i1 c_185_58 ?_
            exact i90 c_185_59 t
        · have t := iF t hc
          have ha44 : ¬ (0 ≤ x1 ∧ x1 ≤ 100000) := hc
          refine i1 c_185_58 ?_
          exact i90 c_185_59 t
      · have t := iF t hc
        have ha42 : ¬ (0 ≤ x2 ∧ x2 < (σ 7 2)) := hc
        obtain ⟨r62, t⟩ := t
        refine i1 c_185_29 (i6 (L' := [.ref 1, .int (wI x1), .int (wI x2), .int (wI 0)]) c_185_30 rfl (i3 c_185_31 rfl (i1 c_185_32 (i1 c_185_33 ?_))))
        refine i81 (As := [.int (wI x1), .int (wI 0), .int (wI 100000)]) (rest := []) c_185_35 mi_141 rfl rfl (Nat.le_of_ble_eq_true rfl) (Nat.le_of_ble_eq_true rfl) (q_141 r62 (by decide) (by decide) ?_)
        show wi (d + 19) 185 38 [.ref 1, .int (wI x1), .int (wI x2), .int (wI 0)] [.int (wI (if 0 ≤ x1 ∧ x1 ≤ 100000 then 1 else 0))] S σ τ Q
        refine i36e c_185_38 rfl (fun hc => ?_) (fun hc => ?_)
        · have t := iT t hc
          have ha63 : 0 ≤ x1 ∧ x1 ≤ 100000 := hc
          refine i3 c_185_41 rfl (i36k (pc1 := 58) c_185_42 (by decide) (i1 c_185_58 ?_))
          exact i90 c_185_59 t
        · have t := iF t hc
          have ha63 : ¬ (0 ≤ x1 ∧ x1 ≤ 100000) := hc
          refine i1 c_185_58 ?_
          exact i90 c_185_59 t
theorem q_185 {d : Nat} {S : zS} {σ τ : zI} {Q : zQ} {most : Int} {what : Int} {a : Int → Int} (p0 : RT σ 2 a) (p1 : RX S σ a) (p2 : Jv a) (p3 : jv_T a) (p4 : jv_E a) (p5 : rg most) (p6 : rg what) (t : ∀ (v : Int) (σ1 : zI) (τ1 : zI), FQ σ σ1 → ((0 ≤ most ∧ most ≤ 100000) ∧ a 0 < 400 ∧ (what = -1 ∨ what = -2 ∨ 0 ≤ what ∧ what < a 1) → SV a most what v) → (¬ ((0 ≤ most ∧ most ≤ 100000) ∧ a 0 < 400 ∧ (what = -1 ∨ what = -2 ∨ 0 ≤ what ∧ what < a 1)) → v = -1) → Q (some (.int (wI v))) S σ1 τ1) : wc (d + 19) 185 [.ref 1, .int (wI most), .int (wI what)] S σ τ Q := by
  have hC := jC p2
  unfold jv_C at hC
  have c0 : σ 2 8 = a 0 := (tS p0).1
  have cm : σ 7 2 = a 1 := (tM p0).1
  refine wc_of mi_185 rfl (u_185_0 ?_)
  have no : ¬ ((0 ≤ most ∧ most ≤ 100000) ∧ a 0 < 400 ∧ (what = -1 ∨ what = -2 ∨ 0 ≤ what ∧ what < a 1)) → Q (some (.int (wI (-1)))) S σ τ := fun h => t (-1) σ τ ⟨fun _ _ _ _ _ _ _ _ => rfl, fun _ _ => rfl⟩ (fun q => absurd q h) (fun _ => rfl)
  have yes : ((0 ≤ most ∧ most ≤ 100000) ∧ a 0 < 400 ∧ (what = -1 ∨ what = -2 ∨ 0 ≤ what ∧ what < a 1)) → ∀ σ1 τ1 v, FQ σ σ1 → BZ σ1 a most (pw3 (a 1)) → (v = if what = -1 then σ1 67 10 else if what = -2 then σ1 67 11 else σ1 75 what) → Q (some (.int (wI v))) S σ1 τ1 := fun h σ1 τ1 v f bz hv => by
    obtain ⟨b, bq, _, bd⟩ := bz
    have b0 := BQ_some (by omega) (by omega) bq
    refine t v σ1 τ1 f (fun _ => ⟨b, _, _, bq, ?_⟩) (fun n => absurd h n)
    rw [hv]
    by_cases e1 : what = -1
    · rw [if_pos e1, if_pos e1]
    · rw [if_neg e1, if_neg e1]
      by_cases e2 : what = -2
      · rw [if_pos e2, if_pos e2]
      · rw [if_neg e2, if_neg e2]
        exact bd b0 what (by omega) (by omega)
  clear t
  rw [c0, cm]
  refine ⟨p6, ifI (fun e1 => ⟨p5, ifI (fun e2 => ifI (fun e3 => ?_) (fun e3 => no (by omega))) (fun e2 => no (by omega))⟩) (fun e1 => ifI (fun e4 => ⟨p5, ifI (fun e2 => ifI (fun e3 => ?_) (fun e3 => no (by omega))) (fun e2 => no (by omega))⟩) (fun e4 => ifI (fun e5 => ⟨p5, ifI (fun e2 => ifI (fun e3 => ?_) (fun e3 => no (by omega))) (fun e2 => no (by omega))⟩) (fun e5 => ⟨p5, ifI (fun e2 => no (by omega)) (fun e2 => no (by omega))⟩)))⟩
  · exact ⟨a, p0, p1, p2, p3, p4, by omega, e2, fun σ1 τ1 f bz => yes (by omega) σ1 τ1 _ f bz (by rw [if_pos e1])⟩
  · exact ⟨a, p0, p1, p2, p3, p4, by omega, e2, fun σ1 τ1 f bz => yes (by omega) σ1 τ1 _ f bz (by rw [if_neg e1, if_pos e4])⟩
  · exact ⟨a, p0, p1, p2, p3, p4, by omega, e2, fun σ1 τ1 f bz => ⟨by omega, yes (by omega) σ1 τ1 _ f bz (by rw [if_neg e1, if_neg e4])⟩⟩
