/-! ===== tried of the class (segments printed by wip/whole, contracts own work) ===== -/
-- method 179: MillTown.triedFact(I)I
theorem c_179_0 : pg_cd 179 0 = (3, 1, 0, 1, 0) := by decide +kernel
theorem c_179_1 : pg_cd 179 1 = (42, 3, 39, 0, 0) := by decide +kernel
theorem c_179_40 : pg_cd 179 40 = (5, 1, 0, 0, 0) := by decide +kernel
theorem c_179_41 : pg_cd 179 41 = (45, 11, 25, 3, 0) := by decide +kernel
theorem c_179_44 : pg_cd 179 44 = (43, 9, 267, 6, 0) := by decide +kernel
theorem c_179_47 : pg_cd 179 47 = (90, 0, 0, 0, 0) := by decide +kernel
theorem c_179_48 : pg_cd 179 48 = (5, 1, 0, 0, 0) := by decide +kernel
theorem c_179_49 : pg_cd 179 49 = (45, 11, 25, 3, 0) := by decide +kernel
theorem c_179_52 : pg_cd 179 52 = (43, 9, 270, 7, 0) := by decide +kernel
theorem c_179_55 : pg_cd 179 55 = (90, 0, 0, 0, 0) := by decide +kernel
theorem c_179_56 : pg_cd 179 56 = (5, 1, 0, 0, 0) := by decide +kernel
theorem c_179_57 : pg_cd 179 57 = (45, 11, 25, 3, 0) := by decide +kernel
theorem c_179_60 : pg_cd 179 60 = (43, 9, 273, 8, 0) := by decide +kernel
theorem c_179_63 : pg_cd 179 63 = (90, 0, 0, 0, 0) := by decide +kernel
theorem c_179_64 : pg_cd 179 64 = (5, 1, 0, 0, 0) := by decide +kernel
theorem c_179_65 : pg_cd 179 65 = (45, 11, 25, 3, 0) := by decide +kernel
theorem c_179_68 : pg_cd 179 68 = (43, 9, 276, 9, 0) := by decide +kernel
theorem c_179_71 : pg_cd 179 71 = (90, 0, 0, 0, 0) := by decide +kernel
theorem c_179_72 : pg_cd 179 72 = (5, 1, 0, 0, 0) := by decide +kernel
theorem c_179_73 : pg_cd 179 73 = (45, 11, 19, 2, 0) := by decide +kernel
theorem c_179_76 : pg_cd 179 76 = (45, 8, 71, 2, 0) := by decide +kernel
theorem c_179_79 : pg_cd 179 79 = (1, 1, 0, 0, 4) := by decide +kernel
theorem c_179_80 : pg_cd 179 80 = (80, 58, 279, 0, 0) := by decide +kernel
theorem c_179_83 : pg_cd 179 83 = (90, 0, 0, 0, 0) := by decide +kernel
theorem c_179_84 : pg_cd 179 84 = (5, 1, 0, 0, 0) := by decide +kernel
theorem c_179_85 : pg_cd 179 85 = (45, 11, 19, 2, 0) := by decide +kernel
theorem c_179_88 : pg_cd 179 88 = (45, 8, 121, 3, 0) := by decide +kernel
theorem c_179_91 : pg_cd 179 91 = (1, 1, 0, 0, 2) := by decide +kernel
theorem c_179_92 : pg_cd 179 92 = (80, 58, 279, 0, 0) := by decide +kernel
theorem c_179_95 : pg_cd 179 95 = (90, 0, 0, 0, 0) := by decide +kernel
theorem c_179_96 : pg_cd 179 96 = (5, 1, 0, 0, 0) := by decide +kernel
theorem c_179_97 : pg_cd 179 97 = (45, 11, 19, 2, 0) := by decide +kernel
theorem c_179_100 : pg_cd 179 100 = (45, 8, 127, 4, 0) := by decide +kernel
theorem c_179_103 : pg_cd 179 103 = (1, 1, 0, 0, 2) := by decide +kernel
theorem c_179_104 : pg_cd 179 104 = (80, 58, 279, 0, 0) := by decide +kernel
theorem c_179_107 : pg_cd 179 107 = (90, 0, 0, 0, 0) := by decide +kernel
theorem mi_179 : pg_mc 179 = 11 ∧ pg_na 179 = 1 ∧ pg_mx 179 = 2 := by decide +kernel
theorem sw_3 : pg_sw 3 = (95, 0, 5, [39, 47, 55, 63, 71, 83]) := by decide +kernel
set_option maxRecDepth 20000 in
theorem u_179_0 {d : Nat} {S : zS} {σ τ : zI} {Q : zQ} {x1 : Int} (t : (rg x1) ∧ if x1 = 0 then (Q (some (.int (wI (σ 53 6)))) S σ τ) else (if x1 = 1 then (Q (some (.int (wI (σ 53 7)))) S σ τ) else (if x1 = 2 then (Q (some (.int (wI (σ 53 8)))) S σ τ) else (if x1 = 3 then (Q (some (.int (wI (σ 53 9)))) S σ τ) else (if x1 = 4 then (((0 : Int) ≤ 4 ∧ 4 < ((13 : Nat) : Int) ∧ 4 < (1000 : Int)) ∧ Q (some (.int (wI (sI (fun row => σ 42 (row * 13 + 4)) (σ 41 2))))) S σ τ) else (if x1 = 5 then (((0 : Int) ≤ 2 ∧ 2 < ((5 : Nat) : Int) ∧ 2 < (1000 : Int)) ∧ Q (some (.int (wI (sI (fun row => σ 44 (row * 5 + 2)) (σ 43 2))))) S σ τ) else (((0 : Int) ≤ 2 ∧ 2 < ((8 : Nat) : Int) ∧ 2 < (1000 : Int)) ∧ Q (some (.int (wI (sI (fun row => σ 46 (row * 8 + 2)) (σ 45 2))))) S σ τ))))))) : wi (d + 2) 179 0 [.ref 1, .int (wI x1)] [] S σ τ Q := by
  obtain ⟨r1, t⟩ := t
  refine i3 c_179_0 rfl ?_
  by_cases e0 : x1 = 0
  · have t := iT t e0
    refine i42 (o := 39) c_179_1 sw_3 0 e0 (by decide) (by decide) rfl rfl ?_
    refine i5 c_179_40 rfl (i45 c_179_41 (lo (c := 1) (kd := 111) (n := 0) rfl (by decide)) (lro (c := 1) (k := 3) (j := 53) (by decide)) (wi_ok (fun K2 => ?_)))
    refine i43 (v := σ 53 6) c_179_44 (lo (c := 53) (kd := 109) (n := 0) rfl (by decide)) rfl ?_
    exact i90 c_179_47 t
  have t := iF t e0
  by_cases e1 : x1 = 1
  · have t := iT t e1
    refine i42 (o := 47) c_179_1 sw_3 1 e1 (by decide) (by decide) rfl rfl ?_
    refine i5 c_179_48 rfl (i45 c_179_49 (lo (c := 1) (kd := 111) (n := 0) rfl (by decide)) (lro (c := 1) (k := 3) (j := 53) (by decide)) (wi_ok (fun K3 => ?_)))
    refine i43 (v := σ 53 7) c_179_52 (lo (c := 53) (kd := 109) (n := 0) rfl (by decide)) rfl ?_
    exact i90 c_179_55 t
  have t := iF t e1
  by_cases e2 : x1 = 2
  · have t := iT t e2
    refine i42 (o := 55) c_179_1 sw_3 2 e2 (by decide) (by decide) rfl rfl ?_
    refine i5 c_179_56 rfl (i45 c_179_57 (lo (c := 1) (kd := 111) (n := 0) rfl (by decide)) (lro (c := 1) (k := 3) (j := 53) (by decide)) (wi_ok (fun K4 => ?_)))
    refine i43 (v := σ 53 8) c_179_60 (lo (c := 53) (kd := 109) (n := 0) rfl (by decide)) rfl ?_
    exact i90 c_179_63 t
  have t := iF t e2
  by_cases e3 : x1 = 3
  · have t := iT t e3
    refine i42 (o := 63) c_179_1 sw_3 3 e3 (by decide) (by decide) rfl rfl ?_
    refine i5 c_179_64 rfl (i45 c_179_65 (lo (c := 1) (kd := 111) (n := 0) rfl (by decide)) (lro (c := 1) (k := 3) (j := 53) (by decide)) (wi_ok (fun K5 => ?_)))
    refine i43 (v := σ 53 9) c_179_68 (lo (c := 53) (kd := 109) (n := 0) rfl (by decide)) rfl ?_
    exact i90 c_179_71 t
  have t := iF t e3
  by_cases e4 : x1 = 4
  · have t := iT t e4
    refine i42 (o := 71) c_179_1 sw_3 4 e4 (by decide) (by decide) rfl rfl ?_
    obtain ⟨p6, t⟩ := t
    refine i5 c_179_72 rfl (i45 c_179_73 (lo (c := 1) (kd := 111) (n := 0) rfl (by decide)) (lro (c := 1) (k := 2) (j := 36) (by decide)) (i45 c_179_76 (lo (c := 36) (kd := 108) (n := 0) rfl (by decide)) (lro (c := 36) (k := 2) (j := 41) (by decide)) (i1 c_179_79 ?_)))
    refine i80 (As := [.int (wI 4)]) (rest := []) c_179_80 mi_58 rfl rfl (Nat.le_of_ble_eq_true rfl) (Nat.le_of_ble_eq_true rfl) (lo (c := 41) (kd := 104) (n := 0) rfl (by decide)) (q_58 (ow_mills tw_36) p6 ?_)
    show wi (d + 2) 179 83 [.ref 1, .int (wI x1)] [.int (wI (sI (fun row => σ 42 (row * 13 + 4)) (σ 41 2)))] S σ τ Q
    exact i90 c_179_83 t
  have t := iF t e4
  by_cases e5 : x1 = 5
  · have t := iT t e5
    refine i42 (o := 83) c_179_1 sw_3 5 e5 (by decide) (by decide) rfl rfl ?_
    obtain ⟨p7, t⟩ := t
    refine i5 c_179_84 rfl (i45 c_179_85 (lo (c := 1) (kd := 111) (n := 0) rfl (by decide)) (lro (c := 1) (k := 2) (j := 36) (by decide)) (i45 c_179_88 (lo (c := 36) (kd := 108) (n := 0) rfl (by decide)) (lro (c := 36) (k := 3) (j := 43) (by decide)) (i1 c_179_91 ?_)))
    refine i80 (As := [.int (wI 2)]) (rest := []) c_179_92 mi_58 rfl rfl (Nat.le_of_ble_eq_true rfl) (Nat.le_of_ble_eq_true rfl) (lo (c := 43) (kd := 104) (n := 0) rfl (by decide)) (q_58 (ow_shops tw_36) p7 ?_)
    show wi (d + 2) 179 95 [.ref 1, .int (wI x1)] [.int (wI (sI (fun row => σ 44 (row * 5 + 2)) (σ 43 2)))] S σ τ Q
    exact i90 c_179_95 t
  have t := iF t e5
  refine i42d c_179_1 sw_3 r1 (by omega) rfl ?_
  obtain ⟨p8, t⟩ := t
  refine i5 c_179_96 rfl (i45 c_179_97 (lo (c := 1) (kd := 111) (n := 0) rfl (by decide)) (lro (c := 1) (k := 2) (j := 36) (by decide)) (i45 c_179_100 (lo (c := 36) (kd := 108) (n := 0) rfl (by decide)) (lro (c := 36) (k := 4) (j := 45) (by decide)) (i1 c_179_103 ?_)))
  refine i80 (As := [.int (wI 2)]) (rest := []) c_179_104 mi_58 rfl rfl (Nat.le_of_ble_eq_true rfl) (Nat.le_of_ble_eq_true rfl) (lo (c := 45) (kd := 104) (n := 0) rfl (by decide)) (q_58 (ow_homes tw_36) p8 ?_)
  show wi (d + 2) 179 107 [.ref 1, .int (wI x1)] [.int (wI (sI (fun row => σ 46 (row * 8 + 2)) (σ 45 2)))] S σ τ Q
  exact i90 c_179_107 t
theorem q_179 {d : Nat} {S : zS} {σ τ : zI} {Q : zQ} {what : Int} {c : Int → Int} (p0 : RT σ 36 c) (p1 : (0 : Int) ≤ what ∧ what ≤ (6 : Int)) (t : Q (some (.int (wI (if what = 0 then σ 53 6 else if what = 1 then σ 53 7 else if what = 2 then σ 53 8 else if what = 3 then σ 53 9 else v_bh c what)))) S σ τ) : wc (d + 2) 179 [.ref 1, .int (wI what)] S σ τ Q := by
  have M := tM p0
  have Q0 := tQ p0
  have H := tH p0
  have M1 : σ 41 2 = c 1 := M.1
  have Q1 : σ 43 2 = c 2 := Q0.1
  have H1 : σ 45 2 = c 3 := H.1
  refine wc_of mi_179 rfl (u_179_0 ⟨by omega, ?_⟩)
  refine ifI (fun q => ?_) (fun q0 => ifI (fun q => ?_) (fun q1 => ifI (fun q => ?_) (fun q2 => ifI (fun q => ?_) (fun q3 => ifI (fun q => ⟨by omega, ?_⟩) (fun q4 => ifI (fun q => ⟨by omega, ?_⟩) (fun q5 => ⟨by omega, ?_⟩))))))
  · rw [if_pos q] at t; exact t
  · rw [if_neg q0, if_pos q] at t; exact t
  · rw [if_neg q0, if_neg q1, if_pos q] at t; exact t
  · rw [if_neg q0, if_neg q1, if_neg q2, if_pos q] at t; exact t
  · rw [if_neg q0, if_neg q1, if_neg q2, if_neg q3] at t
    unfold v_bh at t
    rw [if_pos q] at t
    have e : sI (fun row => σ 42 (row * 13 + 4)) (σ 41 2) = sI (fun m => c (3300 + 16 * m + 5)) (c 1) := sI_e M.1 (fun m m0 m1 => (M.2 m m0 (by omega)).2.2.2.1)
    rw [e]; exact t
  · rw [if_neg q0, if_neg q1, if_neg q2, if_neg q3] at t
    unfold v_bh at t
    rw [if_neg q4, if_pos q] at t
    have e : sI (fun row => σ 44 (row * 5 + 2)) (σ 43 2) = sI (fun s => c (3428 + 8 * s + 3)) (c 2) := sI_e Q0.1 (fun m m0 m1 => (Q0.2 m m0 (by omega)).2.2.1)
    rw [e]; exact t
  · rw [if_neg q0, if_neg q1, if_neg q2, if_neg q3] at t
    unfold v_bh at t
    rw [if_neg q4, if_neg q5, if_pos (by omega)] at t
    have e : sI (fun row => σ 46 (row * 8 + 2)) (σ 45 2) = sI (fun h => c (3460 + 8 * h + 3)) (c 3) := sI_e H.1 (fun m m0 m1 => (H.2 m m0 (by omega)).2.2.1)
    rw [e]; exact t
-- method 178: MillTown.tried(IIII)I
theorem c_178_0 : pg_cd 178 0 = (3, 1, 0, 1, 0) := by decide +kernel
theorem c_178_1 : pg_cd 178 1 = (1, 1, 0, 0, (-1)) := by decide +kernel
theorem c_178_2 : pg_cd 178 2 = (37, 3, 0, 0, 11) := by decide +kernel
theorem c_178_5 : pg_cd 178 5 = (5, 1, 0, 0, 0) := by decide +kernel
theorem c_178_6 : pg_cd 178 6 = (3, 1, 0, 1, 0) := by decide +kernel
theorem c_178_7 : pg_cd 178 7 = (80, 144, 187, 0, 0) := by decide +kernel
theorem c_178_10 : pg_cd 178 10 = (36, 3, 0, 0, 36) := by decide +kernel
theorem c_178_13 : pg_cd 178 13 = (5, 1, 0, 0, 0) := by decide +kernel
theorem c_178_14 : pg_cd 178 14 = (3, 1, 0, 2, 0) := by decide +kernel
theorem c_178_15 : pg_cd 178 15 = (80, 143, 190, 0, 0) := by decide +kernel
theorem c_178_18 : pg_cd 178 18 = (36, 3, 0, 0, 28) := by decide +kernel
theorem c_178_21 : pg_cd 178 21 = (3, 1, 0, 3, 0) := by decide +kernel
theorem c_178_22 : pg_cd 178 22 = (1, 1, 0, 0, 1) := by decide +kernel
theorem c_178_23 : pg_cd 178 23 = (1, 2, 0, 0, 30) := by decide +kernel
theorem c_178_25 : pg_cd 178 25 = (81, 141, 85, 0, 0) := by decide +kernel
theorem c_178_28 : pg_cd 178 28 = (36, 3, 0, 0, 18) := by decide +kernel
theorem c_178_31 : pg_cd 178 31 = (3, 2, 0, 4, 0) := by decide +kernel
theorem c_178_33 : pg_cd 178 33 = (1, 1, 0, 0, 0) := by decide +kernel
theorem c_178_34 : pg_cd 178 34 = (1, 2, 0, 0, 6) := by decide +kernel
theorem c_178_36 : pg_cd 178 36 = (81, 141, 85, 0, 0) := by decide +kernel
theorem c_178_39 : pg_cd 178 39 = (36, 3, 0, 0, 7) := by decide +kernel
theorem c_178_42 : pg_cd 178 42 = (1, 1, 0, 0, 1) := by decide +kernel
theorem c_178_43 : pg_cd 178 43 = (38, 3, 0, 0, 4) := by decide +kernel
theorem c_178_46 : pg_cd 178 46 = (1, 1, 0, 0, 0) := by decide +kernel
theorem c_178_47 : pg_cd 178 47 = (6, 2, 0, 5, 0) := by decide +kernel
theorem c_178_49 : pg_cd 178 49 = (3, 2, 0, 5, 0) := by decide +kernel
theorem c_178_51 : pg_cd 178 51 = (36, 3, 0, 0, 18) := by decide +kernel
theorem c_178_54 : pg_cd 178 54 = (5, 1, 0, 0, 0) := by decide +kernel
theorem c_178_55 : pg_cd 178 55 = (45, 11, 12, 0, 0) := by decide +kernel
theorem c_178_58 : pg_cd 178 58 = (43, 8, 193, 8, 0) := by decide +kernel
theorem c_178_61 : pg_cd 178 61 = (3, 1, 0, 3, 0) := by decide +kernel
theorem c_178_62 : pg_cd 178 62 = (10, 1, 0, 0, 0) := by decide +kernel
theorem c_178_63 : pg_cd 178 63 = (1, 3, 0, 0, 400) := by decide +kernel
theorem c_178_66 : pg_cd 178 66 = (37, 3, 0, 5, 5) := by decide +kernel
theorem c_178_69 : pg_cd 178 69 = (1, 1, 0, 0, (-1)) := by decide +kernel
theorem c_178_70 : pg_cd 178 70 = (90, 0, 0, 0, 0) := by decide +kernel
theorem c_178_71 : pg_cd 178 71 = (5, 1, 0, 0, 0) := by decide +kernel
theorem c_178_72 : pg_cd 178 72 = (45, 11, 19, 2, 0) := by decide +kernel
theorem c_178_75 : pg_cd 178 75 = (5, 1, 0, 0, 0) := by decide +kernel
theorem c_178_76 : pg_cd 178 76 = (45, 11, 12, 0, 0) := by decide +kernel
theorem c_178_79 : pg_cd 178 79 = (80, 87, 258, 0, 0) := by decide +kernel
theorem c_178_82 : pg_cd 178 82 = (3, 1, 0, 1, 0) := by decide +kernel
theorem c_178_83 : pg_cd 178 83 = (1, 1, 0, 0, (-1)) := by decide +kernel
theorem c_178_84 : pg_cd 178 84 = (37, 3, 0, 0, 23) := by decide +kernel
theorem c_178_87 : pg_cd 178 87 = (5, 1, 0, 0, 0) := by decide +kernel
theorem c_178_88 : pg_cd 178 88 = (45, 11, 19, 2, 0) := by decide +kernel
theorem c_178_91 : pg_cd 178 91 = (3, 1, 0, 1, 0) := by decide +kernel
theorem c_178_92 : pg_cd 178 92 = (3, 1, 0, 2, 0) := by decide +kernel
theorem c_178_93 : pg_cd 178 93 = (5, 1, 0, 0, 0) := by decide +kernel
theorem c_178_94 : pg_cd 178 94 = (45, 11, 12, 0, 0) := by decide +kernel
theorem c_178_97 : pg_cd 178 97 = (43, 8, 193, 8, 0) := by decide +kernel
theorem c_178_100 : pg_cd 178 100 = (1, 3, 0, 0, 399) := by decide +kernel
theorem c_178_103 : pg_cd 178 103 = (80, 95, 202, 0, 0) := by decide +kernel
theorem c_178_106 : pg_cd 178 106 = (35, 1, 0, 0, 0) := by decide +kernel
theorem c_178_107 : pg_cd 178 107 = (5, 1, 0, 0, 0) := by decide +kernel
theorem c_178_108 : pg_cd 178 108 = (45, 11, 25, 3, 0) := by decide +kernel
theorem c_178_111 : pg_cd 178 111 = (80, 108, 261, 0, 0) := by decide +kernel
theorem c_178_114 : pg_cd 178 114 = (1, 1, 0, 0, 0) := by decide +kernel
theorem c_178_115 : pg_cd 178 115 = (6, 2, 0, 6, 0) := by decide +kernel
theorem c_178_117 : pg_cd 178 117 = (3, 2, 0, 6, 0) := by decide +kernel
theorem c_178_119 : pg_cd 178 119 = (3, 1, 0, 3, 0) := by decide +kernel
theorem c_178_120 : pg_cd 178 120 = (37, 3, 0, 3, 20) := by decide +kernel
theorem c_178_123 : pg_cd 178 123 = (5, 1, 0, 0, 0) := by decide +kernel
theorem c_178_124 : pg_cd 178 124 = (45, 11, 25, 3, 0) := by decide +kernel
theorem c_178_127 : pg_cd 178 127 = (5, 1, 0, 0, 0) := by decide +kernel
theorem c_178_128 : pg_cd 178 128 = (45, 11, 19, 2, 0) := by decide +kernel
theorem c_178_131 : pg_cd 178 131 = (80, 109, 240, 0, 0) := by decide +kernel
theorem c_178_134 : pg_cd 178 134 = (9, 3, 0, 6, 1) := by decide +kernel
theorem c_178_137 : pg_cd 178 137 = (38, 3, 0, 0, (-20)) := by decide +kernel
theorem c_178_140 : pg_cd 178 140 = (5, 1, 0, 0, 0) := by decide +kernel
theorem c_178_141 : pg_cd 178 141 = (3, 2, 0, 4, 0) := by decide +kernel
theorem c_178_143 : pg_cd 178 143 = (80, 179, 264, 0, 0) := by decide +kernel
theorem c_178_146 : pg_cd 178 146 = (90, 0, 0, 0, 0) := by decide +kernel
theorem mi_178 : pg_mc 178 = 11 ∧ pg_na 178 = 4 ∧ pg_mx 178 = 7 := by decide +kernel
set_option maxRecDepth 20000 in
theorem u_178_0 {d : Nat} {S : zS} {σ τ : zI} {Q : zQ} {x1 : Int} {x2 : Int} {x3 : Int} {x4 : Int} (t : (rg x1) ∧ if x1 = (-1) then ((rg x2) ∧ if x2 = -1 ∨ 0 ≤ x2 ∧ x2 < σ 7 2 then ((rg x3) ∧ if 1 ≤ x3 ∧ x3 ≤ 30 then ((rg x4) ∧ if 0 ≤ x4 ∧ x4 ≤ 6 then ((rg ((σ 2 8) + x3)) ∧ if ((σ 2 8) + x3) ≤ 400 then (∃ a12 : Int → Int, (RT σ 2 a12) ∧ (36 ≠ 2) ∧ (Jv a12) ∧ ∀ (σ116 : zI), RT σ116 36 a12 → (∀ c, c < 36 ∨ 36 + 16 < c → σ116 c = σ c) → wi (d + 20) 178 117 [.ref 1, .int (wI x1), .int (wI x2), .int (wI x3), .int (wI x4), .int (wI 1), .int (wI 0)] [] S (uc σ116 53 (u1 (u1 (u1 (u1 ((σ116 53)) 6 0) 7 0) 8 0) 9 0)) τ Q) else (Q (some (.int (wI (-1)))) S σ τ)) else (Q (some (.int (wI (-1)))) S σ τ)) else (Q (some (.int (wI (-1)))) S σ τ)) else (Q (some (.int (wI (-1)))) S σ τ)) else (if 0 ≤ x1 ∧ x1 < σ 2 9 then ((rg x2) ∧ if x2 = -1 ∨ 0 ≤ x2 ∧ x2 < σ 7 2 then ((rg x3) ∧ if 1 ≤ x3 ∧ x3 ≤ 30 then ((rg x4) ∧ if 0 ≤ x4 ∧ x4 ≤ 6 then ((rg ((σ 2 8) + x3)) ∧ if ((σ 2 8) + x3) ≤ 400 then (∃ a30 : Int → Int, (RT σ 2 a30) ∧ (36 ≠ 2) ∧ (Jv a30) ∧ ∀ (σ134 : zI), RT σ134 36 a30 → (∀ c, c < 36 ∨ 36 + 16 < c → σ134 c = σ c) → wi (d + 20) 178 117 [.ref 1, .int (wI x1), .int (wI x2), .int (wI x3), .int (wI x4), .int (wI 1), .int (wI 0)] [] S (uc (uc (uc σ134 52 (if (σ134 51) 2 < 61 then u1 (u1 (u1 (u1 (u1 (fl_ ((σ134 52)) ((σ134 51) 2 * 5) ((σ134 51) 2 * 5 + 5) 0) ((σ134 51) 2 * 5 + 0) (x1)) ((σ134 51) 2 * 5 + 1) (x2)) ((σ134 51) 2 * 5 + 2) ((σ134 2 8))) ((σ134 51) 2 * 5 + 3) (399)) ((σ134 51) 2 * 5 + 4) ((σ134 36) 8) else (σ134 52))) 51 (if (σ134 51) 2 < 61 then u1 ((σ134 51)) 2 ((σ134 51) 2 + 1) else (σ134 51))) 53 (u1 (u1 (u1 (u1 ((σ134 53)) 6 0) 7 0) 8 0) 9 0)) τ Q) else (Q (some (.int (wI (-1)))) S σ τ)) else (Q (some (.int (wI (-1)))) S σ τ)) else (Q (some (.int (wI (-1)))) S σ τ)) else (Q (some (.int (wI (-1)))) S σ τ)) else (Q (some (.int (wI (-1)))) S σ τ))) : wi (d + 20) 178 0 [.ref 1, .int (wI x1), .int (wI x2), .int (wI x3), .int (wI x4), .retAddr 0, .retAddr 0] [] S σ τ Q := by
  obtain ⟨r1, t⟩ := t
  refine i3 c_178_0 rfl (i1 c_178_1 ?_)
  refine i37 c_178_2 r1 (by decide) rfl (fun hc => ?_) (fun hc => ?_)
  · have t := iT t hc
    have ha2 : x1 = (-1) := hc
    obtain ⟨r3, t⟩ := t
    refine i5 c_178_13 rfl (i3 c_178_14 rfl ?_)
    refine i80 (As := [.int (wI x2)]) (rest := []) c_178_15 mi_143 rfl rfl (Nat.le_of_ble_eq_true rfl) (Nat.le_of_ble_eq_true rfl) (lo (c := 1) (kd := 111) (n := 0) rfl (by decide)) (q_143 r3 ?_)
    show wi (d + 20) 178 18 [.ref 1, .int (wI x1), .int (wI x2), .int (wI x3), .int (wI x4), .retAddr 0, .retAddr 0] [.int (wI (if x2 = -1 ∨ 0 ≤ x2 ∧ x2 < σ 7 2 then 1 else 0))] S σ τ Q
    refine i36e c_178_18 rfl (fun hc => ?_) (fun hc => ?_)
    · have t := iT t hc
      have ha4 : x2 = -1 ∨ 0 ≤ x2 ∧ x2 < σ 7 2 := hc
      obtain ⟨r5, t⟩ := t
      refine i3 c_178_21 rfl (i1 c_178_22 (i1 c_178_23 ?_))
      refine i81 (As := [.int (wI x3), .int (wI 1), .int (wI 30)]) (rest := []) c_178_25 mi_141 rfl rfl (Nat.le_of_ble_eq_true rfl) (Nat.le_of_ble_eq_true rfl) (q_141 r5 (by decide) (by decide) ?_)
      show wi (d + 20) 178 28 [.ref 1, .int (wI x1), .int (wI x2), .int (wI x3), .int (wI x4), .retAddr 0, .retAddr 0] [.int (wI (if 1 ≤ x3 ∧ x3 ≤ 30 then 1 else 0))] S σ τ Q
      refine i36e c_178_28 rfl (fun hc => ?_) (fun hc => ?_)
      · have t := iT t hc
        have ha6 : 1 ≤ x3 ∧ x3 ≤ 30 := hc
        obtain ⟨r7, t⟩ := t
        refine i3 c_178_31 rfl (i1 c_178_33 (i1 c_178_34 ?_))
        refine i81 (As := [.int (wI x4), .int (wI 0), .int (wI 6)]) (rest := []) c_178_36 mi_141 rfl rfl (Nat.le_of_ble_eq_true rfl) (Nat.le_of_ble_eq_true rfl) (q_141 r7 (by decide) (by decide) ?_)
        show wi (d + 20) 178 39 [.ref 1, .int (wI x1), .int (wI x2), .int (wI x3), .int (wI x4), .retAddr 0, .retAddr 0] [.int (wI (if 0 ≤ x4 ∧ x4 ≤ 6 then 1 else 0))] S σ τ Q
        refine i36e c_178_39 rfl (fun hc => ?_) (fun hc => ?_)
        · have t := iT t hc
          have ha8 : 0 ≤ x4 ∧ x4 ≤ 6 := hc
          refine i1 c_178_42 (i38 c_178_43 rfl (i6 (L' := [.ref 1, .int (wI x1), .int (wI x2), .int (wI x3), .int (wI x4), .int (wI 1), .retAddr 0]) c_178_47 rfl (i3 c_178_49 rfl (i36k (pc1 := 54) c_178_51 (by decide) (i5 c_178_54 rfl (i45 c_178_55 (lo (c := 1) (kd := 111) (n := 0) rfl (by decide)) (lro (c := 1) (k := 0) (j := 2) (by decide)) (wi_ok (fun K9 => ?_))))))))
          obtain ⟨r10, t⟩ := t
          refine i43 (v := σ 2 8) c_178_58 (lo (c := 2) (kd := 108) (n := 0) rfl (by decide)) rfl (i3 c_178_61 rfl (i10 c_178_62 (i1 c_178_63 ?_)))
          refine i37 c_178_66 r10 (by decide) rfl (fun hc => ?_) (fun hc => ?_)
          · have t := iT t hc
            have ha11 : ((σ 2 8) + x3) ≤ 400 := hc
            obtain ⟨a12, t⟩ := t
            obtain ⟨p13, t⟩ := t
            obtain ⟨p14, t⟩ := t
            obtain ⟨p15, t⟩ := t
            refine i5 c_178_71 rfl (i45 c_178_72 (lo (c := 1) (kd := 111) (n := 0) rfl (by decide)) (lro (c := 1) (k := 2) (j := 36) (by decide)) (i5 c_178_75 rfl (i45 c_178_76 (lo (c := 1) (kd := 111) (n := 0) rfl (by decide)) (lro (c := 1) (k := 0) (j := 2) (by decide)) ?_)))
            refine i80 (As := [.ref 2]) (rest := []) c_178_79 mi_87 rfl rfl (Nat.le_of_ble_eq_true rfl) (Nat.le_of_ble_eq_true rfl) (lo (c := 36) (kd := 108) (n := 0) rfl (by decide)) (q_87 (a := a12) tw_36 tw_2 p13 p14 p15 (fun σ116 q17 q18 => ?_))
            have t := t σ116 q17 q18
            show wi (d + 20) 178 82 [.ref 1, .int (wI x1), .int (wI x2), .int (wI x3), .int (wI x4), .int (wI 1), .retAddr 0] [] S σ116 τ Q
            refine i3 c_178_82 rfl (i1 c_178_83 ?_)
            refine i37 c_178_84 r1 (by decide) rfl (fun _ => ?_) (fun hc => absurd (show x1 = (-1) by omega) hc)
            refine i5 c_178_107 rfl (i45 c_178_108 (lo (c := 1) (kd := 111) (n := 0) rfl (by decide)) (lro (c := 1) (k := 3) (j := 53) (by decide)) ?_)
            refine i80 (As := []) (rest := []) c_178_111 mi_108 rfl rfl (Nat.le_of_ble_eq_true rfl) (Nat.le_of_ble_eq_true rfl) (lo (c := 53) (kd := 109) (n := 0) rfl (by decide)) (q_108 ?_)
            show wi (d + 20) 178 114 [.ref 1, .int (wI x1), .int (wI x2), .int (wI x3), .int (wI x4), .int (wI 1), .retAddr 0] [] S (uc σ116 53 (u1 (u1 (u1 (u1 ((σ116 53)) 6 0) 7 0) 8 0) 9 0)) τ Q
            refine i1 c_178_114 (i6 (L' := [.ref 1, .int (wI x1), .int (wI x2), .int (wI x3), .int (wI x4), .int (wI 1), .int (wI 0)]) c_178_115 rfl t)
          · have t := iF t hc
            have ha11 : ¬ (((σ 2 8) + x3) ≤ 400) := hc
            refine i1 c_178_69 ?_
            exact i90 c_178_70 t
        · have t := iF t hc
          have ha8 : ¬ (0 ≤ x4 ∧ x4 ≤ 6) := hc
          refine i1 c_178_46 (i6 (L' := [.ref 1, .int (wI x1), .int (wI x2), .int (wI x3), .int (wI x4), .int (wI 0), .retAddr 0]) c_178_47 rfl (i3 c_178_49 rfl (i36k (pc1 := 69) c_178_51 (by decide) (i1 c_178_69 ?_))))
          exact i90 c_178_70 t
      · have t := iF t hc
        have ha6 : ¬ (1 ≤ x3 ∧ x3 ≤ 30) := hc
        refine i1 c_178_46 (i6 (L' := [.ref 1, .int (wI x1), .int (wI x2), .int (wI x3), .int (wI x4), .int (wI 0), .retAddr 0]) c_178_47 rfl (i3 c_178_49 rfl (i36k (pc1 := 69) c_178_51 (by decide) (i1 c_178_69 ?_))))
        exact i90 c_178_70 t
    · have t := iF t hc
      have ha4 : ¬ (x2 = -1 ∨ 0 ≤ x2 ∧ x2 < σ 7 2) := hc
      refine i1 c_178_46 (i6 (L' := [.ref 1, .int (wI x1), .int (wI x2), .int (wI x3), .int (wI x4), .int (wI 0), .retAddr 0]) c_178_47 rfl (i3 c_178_49 rfl (i36k (pc1 := 69) c_178_51 (by decide) (i1 c_178_69 ?_))))
      exact i90 c_178_70 t
  · have t := iF t hc
    have ha2 : ¬ (x1 = (-1)) := hc
    refine i5 c_178_5 rfl (i3 c_178_6 rfl ?_)
    refine i80 (As := [.int (wI x1)]) (rest := []) c_178_7 mi_144 rfl rfl (Nat.le_of_ble_eq_true rfl) (Nat.le_of_ble_eq_true rfl) (lo (c := 1) (kd := 111) (n := 0) rfl (by decide)) (q_144 r1 ?_)
    show wi (d + 20) 178 10 [.ref 1, .int (wI x1), .int (wI x2), .int (wI x3), .int (wI x4), .retAddr 0, .retAddr 0] [.int (wI (if 0 ≤ x1 ∧ x1 < σ 2 9 then 1 else 0))] S σ τ Q
    refine i36e c_178_10 rfl (fun hc => ?_) (fun hc => ?_)
    · have t := iT t hc
      have ha20 : 0 ≤ x1 ∧ x1 < σ 2 9 := hc
      obtain ⟨r21, t⟩ := t
      refine i5 c_178_13 rfl (i3 c_178_14 rfl ?_)
      refine i80 (As := [.int (wI x2)]) (rest := []) c_178_15 mi_143 rfl rfl (Nat.le_of_ble_eq_true rfl) (Nat.le_of_ble_eq_true rfl) (lo (c := 1) (kd := 111) (n := 0) rfl (by decide)) (q_143 r21 ?_)
      show wi (d + 20) 178 18 [.ref 1, .int (wI x1), .int (wI x2), .int (wI x3), .int (wI x4), .retAddr 0, .retAddr 0] [.int (wI (if x2 = -1 ∨ 0 ≤ x2 ∧ x2 < σ 7 2 then 1 else 0))] S σ τ Q
      refine i36e c_178_18 rfl (fun hc => ?_) (fun hc => ?_)
      · have t := iT t hc
        have ha22 : x2 = -1 ∨ 0 ≤ x2 ∧ x2 < σ 7 2 := hc
        obtain ⟨r23, t⟩ := t
        refine i3 c_178_21 rfl (i1 c_178_22 (i1 c_178_23 ?_))
        refine i81 (As := [.int (wI x3), .int (wI 1), .int (wI 30)]) (rest := []) c_178_25 mi_141 rfl rfl (Nat.le_of_ble_eq_true rfl) (Nat.le_of_ble_eq_true rfl) (q_141 r23 (by decide) (by decide) ?_)
        show wi (d + 20) 178 28 [.ref 1, .int (wI x1), .int (wI x2), .int (wI x3), .int (wI x4), .retAddr 0, .retAddr 0] [.int (wI (if 1 ≤ x3 ∧ x3 ≤ 30 then 1 else 0))] S σ τ Q
        refine i36e c_178_28 rfl (fun hc => ?_) (fun hc => ?_)
        · have t := iT t hc
          have ha24 : 1 ≤ x3 ∧ x3 ≤ 30 := hc
          obtain ⟨r25, t⟩ := t
          refine i3 c_178_31 rfl (i1 c_178_33 (i1 c_178_34 ?_))
          refine i81 (As := [.int (wI x4), .int (wI 0), .int (wI 6)]) (rest := []) c_178_36 mi_141 rfl rfl (Nat.le_of_ble_eq_true rfl) (Nat.le_of_ble_eq_true rfl) (q_141 r25 (by decide) (by decide) ?_)
          show wi (d + 20) 178 39 [.ref 1, .int (wI x1), .int (wI x2), .int (wI x3), .int (wI x4), .retAddr 0, .retAddr 0] [.int (wI (if 0 ≤ x4 ∧ x4 ≤ 6 then 1 else 0))] S σ τ Q
          refine i36e c_178_39 rfl (fun hc => ?_) (fun hc => ?_)
          · have t := iT t hc
            have ha26 : 0 ≤ x4 ∧ x4 ≤ 6 := hc
            refine i1 c_178_42 (i38 c_178_43 rfl (i6 (L' := [.ref 1, .int (wI x1), .int (wI x2), .int (wI x3), .int (wI x4), .int (wI 1), .retAddr 0]) c_178_47 rfl (i3 c_178_49 rfl (i36k (pc1 := 54) c_178_51 (by decide) (i5 c_178_54 rfl (i45 c_178_55 (lo (c := 1) (kd := 111) (n := 0) rfl (by decide)) (lro (c := 1) (k := 0) (j := 2) (by decide)) (wi_ok (fun K27 => ?_))))))))
            obtain ⟨r28, t⟩ := t
            refine i43 (v := σ 2 8) c_178_58 (lo (c := 2) (kd := 108) (n := 0) rfl (by decide)) rfl (i3 c_178_61 rfl (i10 c_178_62 (i1 c_178_63 ?_)))
            refine i37 c_178_66 r28 (by decide) rfl (fun hc => ?_) (fun hc => ?_)
            · have t := iT t hc
              have ha29 : ((σ 2 8) + x3) ≤ 400 := hc
              obtain ⟨a30, t⟩ := t
              obtain ⟨p31, t⟩ := t
              obtain ⟨p32, t⟩ := t
              obtain ⟨p33, t⟩ := t
              refine i5 c_178_71 rfl (i45 c_178_72 (lo (c := 1) (kd := 111) (n := 0) rfl (by decide)) (lro (c := 1) (k := 2) (j := 36) (by decide)) (i5 c_178_75 rfl (i45 c_178_76 (lo (c := 1) (kd := 111) (n := 0) rfl (by decide)) (lro (c := 1) (k := 0) (j := 2) (by decide)) ?_)))
              refine i80 (As := [.ref 2]) (rest := []) c_178_79 mi_87 rfl rfl (Nat.le_of_ble_eq_true rfl) (Nat.le_of_ble_eq_true rfl) (lo (c := 36) (kd := 108) (n := 0) rfl (by decide)) (q_87 (a := a30) tw_36 tw_2 p31 p32 p33 (fun σ134 q35 q36 => ?_))
              have t := t σ134 q35 q36
              show wi (d + 20) 178 82 [.ref 1, .int (wI x1), .int (wI x2), .int (wI x3), .int (wI x4), .int (wI 1), .retAddr 0] [] S σ134 τ Q
              refine i3 c_178_82 rfl (i1 c_178_83 ?_)
              refine i37 c_178_84 r1 (by decide) rfl (fun hc => absurd hc (show ¬ (x1 = (-1)) by omega)) (fun _ => ?_)
              refine i5 c_178_87 rfl (i45 c_178_88 (lo (c := 1) (kd := 111) (n := 0) rfl (by decide)) (lro (c := 1) (k := 2) (j := 36) (by decide)) (i3 c_178_91 rfl (i3 c_178_92 rfl (i5 c_178_93 rfl (i45 c_178_94 (lo (c := 1) (kd := 111) (n := 0) rfl (by decide)) (lro (c := 1) (k := 0) (j := 2) (by decide)) (wi_ok (fun K38 => ?_)))))))
              refine i43 (v := σ134 2 8) c_178_97 (lo (c := 2) (kd := 108) (n := 0) rfl (by decide)) rfl (i1 c_178_100 ?_)
              refine i80 (As := [.int (wI x1), .int (wI x2), .int (wI (σ134 2 8)), .int (wI 399)]) (rest := []) c_178_103 mi_95 rfl rfl (Nat.le_of_ble_eq_true rfl) (Nat.le_of_ble_eq_true rfl) (lo (c := 36) (kd := 108) (n := 0) rfl (by decide)) (q_95 tw_36 r1 r21 (rge_ K38 rfl) (by decide) ?_)
              show wi (d + 20) 178 106 [.ref 1, .int (wI x1), .int (wI x2), .int (wI x3), .int (wI x4), .int (wI 1), .retAddr 0] [.int (wI (if σ134 (36 + 15) 2 < 61 then σ134 (36 + 15) 2 else -1))] S (uc (uc σ134 52 (if (σ134 51) 2 < 61 then u1 (u1 (u1 (u1 (u1 (fl_ ((σ134 52)) ((σ134 51) 2 * 5) ((σ134 51) 2 * 5 + 5) 0) ((σ134 51) 2 * 5 + 0) (x1)) ((σ134 51) 2 * 5 + 1) (x2)) ((σ134 51) 2 * 5 + 2) ((σ134 2 8))) ((σ134 51) 2 * 5 + 3) (399)) ((σ134 51) 2 * 5 + 4) ((σ134 36) 8) else (σ134 52))) 51 (if (σ134 51) 2 < 61 then u1 ((σ134 51)) 2 ((σ134 51) 2 + 1) else (σ134 51))) τ Q
              refine i35i c_178_106 (i5 c_178_107 rfl (i45 c_178_108 (lo (c := 1) (kd := 111) (n := 0) rfl (by decide)) (lro (c := 1) (k := 3) (j := 53) (by decide)) ?_))
              refine i80 (As := []) (rest := []) c_178_111 mi_108 rfl rfl (Nat.le_of_ble_eq_true rfl) (Nat.le_of_ble_eq_true rfl) (lo (c := 53) (kd := 109) (n := 0) rfl (by decide)) (q_108 ?_)
              show wi (d + 20) 178 114 [.ref 1, .int (wI x1), .int (wI x2), .int (wI x3), .int (wI x4), .int (wI 1), .retAddr 0] [] S (uc (uc (uc σ134 52 (if (σ134 51) 2 < 61 then u1 (u1 (u1 (u1 (u1 (fl_ ((σ134 52)) ((σ134 51) 2 * 5) ((σ134 51) 2 * 5 + 5) 0) ((σ134 51) 2 * 5 + 0) (x1)) ((σ134 51) 2 * 5 + 1) (x2)) ((σ134 51) 2 * 5 + 2) ((σ134 2 8))) ((σ134 51) 2 * 5 + 3) (399)) ((σ134 51) 2 * 5 + 4) ((σ134 36) 8) else (σ134 52))) 51 (if (σ134 51) 2 < 61 then u1 ((σ134 51)) 2 ((σ134 51) 2 + 1) else (σ134 51))) 53 (u1 (u1 (u1 (u1 ((uc (uc σ134 52 (if (σ134 51) 2 < 61 then u1 (u1 (u1 (u1 (u1 (fl_ ((σ134 52)) ((σ134 51) 2 * 5) ((σ134 51) 2 * 5 + 5) 0) ((σ134 51) 2 * 5 + 0) (x1)) ((σ134 51) 2 * 5 + 1) (x2)) ((σ134 51) 2 * 5 + 2) ((σ134 2 8))) ((σ134 51) 2 * 5 + 3) (399)) ((σ134 51) 2 * 5 + 4) ((σ134 36) 8) else (σ134 52))) 51 (if (σ134 51) 2 < 61 then u1 ((σ134 51)) 2 ((σ134 51) 2 + 1) else (σ134 51))) 53) 6 0) 7 0) 8 0) 9 0)) τ Q
              refine wi_s (σ1 := uc (uc (uc σ134 52 (if (σ134 51) 2 < 61 then u1 (u1 (u1 (u1 (u1 (fl_ ((σ134 52)) ((σ134 51) 2 * 5) ((σ134 51) 2 * 5 + 5) 0) ((σ134 51) 2 * 5 + 0) (x1)) ((σ134 51) 2 * 5 + 1) (x2)) ((σ134 51) 2 * 5 + 2) ((σ134 2 8))) ((σ134 51) 2 * 5 + 3) (399)) ((σ134 51) 2 * 5 + 4) ((σ134 36) 8) else (σ134 52))) 51 (if (σ134 51) 2 < 61 then u1 ((σ134 51)) 2 ((σ134 51) 2 + 1) else (σ134 51))) 53 (u1 (u1 (u1 (u1 ((σ134 53)) 6 0) 7 0) 8 0) 9 0)) (by simp only [(show (uc (uc σ134 52 (if (σ134 51) 2 < 61 then u1 (u1 (u1 (u1 (u1 (fl_ ((σ134 52)) ((σ134 51) 2 * 5) ((σ134 51) 2 * 5 + 5) 0) ((σ134 51) 2 * 5 + 0) (x1)) ((σ134 51) 2 * 5 + 1) (x2)) ((σ134 51) 2 * 5 + 2) ((σ134 2 8))) ((σ134 51) 2 * 5 + 3) (399)) ((σ134 51) 2 * 5 + 4) ((σ134 36) 8) else (σ134 52))) 51 (if (σ134 51) 2 < 61 then u1 ((σ134 51)) 2 ((σ134 51) 2 + 1) else (σ134 51))) 53 = σ134 53 from (uc_ns (uc_ns rfl (by decide)) (by decide)))]) (i1 c_178_114 (i6 (L' := [.ref 1, .int (wI x1), .int (wI x2), .int (wI x3), .int (wI x4), .int (wI 1), .int (wI 0)]) c_178_115 rfl t))
            · have t := iF t hc
              have ha29 : ¬ (((σ 2 8) + x3) ≤ 400) := hc
              refine i1 c_178_69 ?_
              exact i90 c_178_70 t
          · have t := iF t hc
            have ha26 : ¬ (0 ≤ x4 ∧ x4 ≤ 6) := hc
            refine i1 c_178_46 (i6 (L' := [.ref 1, .int (wI x1), .int (wI x2), .int (wI x3), .int (wI x4), .int (wI 0), .retAddr 0]) c_178_47 rfl (i3 c_178_49 rfl (i36k (pc1 := 69) c_178_51 (by decide) (i1 c_178_69 ?_))))
            exact i90 c_178_70 t
        · have t := iF t hc
          have ha24 : ¬ (1 ≤ x3 ∧ x3 ≤ 30) := hc
          refine i1 c_178_46 (i6 (L' := [.ref 1, .int (wI x1), .int (wI x2), .int (wI x3), .int (wI x4), .int (wI 0), .retAddr 0]) c_178_47 rfl (i3 c_178_49 rfl (i36k (pc1 := 69) c_178_51 (by decide) (i1 c_178_69 ?_))))
          exact i90 c_178_70 t
      · have t := iF t hc
        have ha22 : ¬ (x2 = -1 ∨ 0 ≤ x2 ∧ x2 < σ 7 2) := hc
        refine i1 c_178_46 (i6 (L' := [.ref 1, .int (wI x1), .int (wI x2), .int (wI x3), .int (wI x4), .int (wI 0), .retAddr 0]) c_178_47 rfl (i3 c_178_49 rfl (i36k (pc1 := 69) c_178_51 (by decide) (i1 c_178_69 ?_))))
        exact i90 c_178_70 t
    · have t := iF t hc
      have ha20 : ¬ (0 ≤ x1 ∧ x1 < σ 2 9) := hc
      refine i1 c_178_46 (i6 (L' := [.ref 1, .int (wI x1), .int (wI x2), .int (wI x3), .int (wI x4), .int (wI 0), .retAddr 0]) c_178_47 rfl (i3 c_178_49 rfl (i36k (pc1 := 69) c_178_51 (by decide) (i1 c_178_69 ?_))))
      exact i90 c_178_70 t
set_option maxRecDepth 20000 in
theorem u_178_117 {d : Nat} {S : zS} {σ τ : zI} {Q : zQ} {x1 : Int} {x2 : Int} {x3 : Int} {x4 : Int} {x5 : Int} {x6 : Int} (t : (rg x6) ∧ (rg x3) ∧ if x3 ≤ x6 then (∃ c4 : Int → Int, (RT σ 36 c4) ∧ ((0 : Int) ≤ x4 ∧ x4 ≤ (6 : Int)) ∧ Q (some (.int (wI (if x4 = 0 then σ 53 6 else if x4 = 1 then σ 53 7 else if x4 = 2 then σ 53 8 else if x4 = 3 then σ 53 9 else v_bh c4 x4)))) S σ τ) else (wc (d + 19) 109 [.ref 53, .ref 36] S σ τ (fun r S1 σ1 τ1 => wi (d + 20) 178 134 [.ref 1, .int (wI x1), .int (wI x2), .int (wI x3), .int (wI x4), .int (wI x5), .int (wI x6)] (r.toList ++ []) S1 σ1 τ1 Q))) : wi (d + 20) 178 117 [.ref 1, .int (wI x1), .int (wI x2), .int (wI x3), .int (wI x4), .int (wI x5), .int (wI x6)] [] S σ τ Q := by
  obtain ⟨r1, t⟩ := t
  obtain ⟨r2, t⟩ := t
  refine i3 c_178_117 rfl (i3 c_178_119 rfl ?_)
  refine i37 c_178_120 r1 r2 rfl (fun hc => ?_) (fun hc => ?_)
  · have t := iT t hc
    have ha3 : x3 ≤ x6 := hc
    obtain ⟨c4, t⟩ := t
    obtain ⟨p5, t⟩ := t
    obtain ⟨p6, t⟩ := t
    refine i5 c_178_140 rfl (i3 c_178_141 rfl ?_)
    refine i80 (As := [.int (wI x4)]) (rest := []) c_178_143 mi_179 rfl rfl (Nat.le_of_ble_eq_true rfl) (Nat.le_of_ble_eq_true rfl) (lo (c := 1) (kd := 111) (n := 0) rfl (by decide)) (q_179 (c := c4) p5 p6 ?_)
    show wi (d + 20) 178 146 [.ref 1, .int (wI x1), .int (wI x2), .int (wI x3), .int (wI x4), .int (wI x5), .int (wI x6)] [.int (wI (if x4 = 0 then σ 53 6 else if x4 = 1 then σ 53 7 else if x4 = 2 then σ 53 8 else if x4 = 3 then σ 53 9 else v_bh c4 x4))] S σ τ Q
    exact i90 c_178_146 t
  · have t := iF t hc
    have ha3 : ¬ (x3 ≤ x6) := hc
    refine i5 c_178_123 rfl (i45 c_178_124 (lo (c := 1) (kd := 111) (n := 0) rfl (by decide)) (lro (c := 1) (k := 3) (j := 53) (by decide)) (i5 c_178_127 rfl (i45 c_178_128 (lo (c := 1) (kd := 111) (n := 0) rfl (by decide)) (lro (c := 1) (k := 2) (j := 36) (by decide)) ?_)))
    exact i80 (As := [.ref 36]) (rest := []) c_178_131 mi_109 rfl rfl (Nat.le_of_ble_eq_true rfl) (Nat.le_of_ble_eq_true rfl) (lo (c := 53) (kd := 109) (n := 0) rfl (by decide)) t
set_option maxRecDepth 20000 in
theorem u_178_134 {d : Nat} {S : zS} {σ τ : zI} {Q : zQ} {x1 : Int} {x2 : Int} {x3 : Int} {x4 : Int} {x5 : Int} {x6 : Int} (t : wi (d + 20) 178 117 [.ref 1, .int (wI x1), .int (wI x2), .int (wI x3), .int (wI x4), .int (wI x5), .int (wI (x6 + 1))] [] S σ τ Q) : wi (d + 20) 178 134 [.ref 1, .int (wI x1), .int (wI x2), .int (wI x3), .int (wI x4), .int (wI x5), .int (wI x6)] [] S σ τ Q := by
  refine i9 (L' := [.ref 1, .int (wI x1), .int (wI x2), .int (wI x3), .int (wI x4), .int (wI x5), .int (wI (x6 + 1))]) c_178_134 rfl rfl (i38 c_178_137 rfl t)
theorem q_178 {d : Nat} {S : zS} {σ τ : zI} {Q : zQ} {text mill n what : Int} {a : Int → Int} (p0 : RT σ 2 a) (p1 : RX S σ a) (p2 : BX S σ a) (p3 : WP a) (p4 : PB a ≤ 600000000) (p5 : a 6 ≤ 60) (p6 : rg text) (p7 : rg mill) (p8 : rg n) (p9 : rg what) (t : ∀ S1 σ1 τ1, GW S S1 σ σ1 36 (a 0) → zB S1 → Q (some (.int (wI (v_try a text mill n what)))) S1 σ1 τ1) : wc (d + 20) 178 [.ref 1, .int (wI text), .int (wI mill), .int (wI n), .int (wI what)] S σ τ Q := by
  refine wc_ok fun K => ?_
  have s100 := K.1.1
  have hC := jC p3.1
  have hC' := hC
  unfold jv_C at hC
  have c8 : σ 2 8 = a 0 := (tS p0).1
  have c9 : σ 2 9 = a 5 := (tS p0).2.1
  have c7 : σ 7 2 = a 1 := (tM p0).1
  have fl : ¬ k_try a text mill n what → Q (some (.int (wI (-1)))) S σ τ := fun z => by
    unfold v_try at t
    rw [if_neg z] at t
    exact t S σ τ GW_0 p2.1
  have go : k_try a text mill n what → ∀ σ0, RT σ0 36 (r_tb a text mill) → (∀ c, c < 36 ∨ 52 < c → c ≠ 53 → σ0 c = σ c) → σ0 53 6 = 0 ∧ σ0 53 7 = 0 ∧ σ0 53 8 = 0 ∧ σ0 53 9 = 0 → wi (d + 20) 178 117 [.ref 1, .int (wI text), .int (wI mill), .int (wI n), .int (wI what), .int (wI 1), .int (wI 0)] [] S σ0 τ Q := fun k σ0 r0 f0 z0 => by
    have tb := w_tb p3 p5 k
    obtain ⟨b, hb⟩ : ∃ b, b = r_tb a text mill := ⟨_, rfl⟩
    rw [← hb] at tb r0
    have hB := jC tb.1.1.1
    unfold jv_C at hB
    have b0 : b 0 = a 0 := tb.2 0 (by omega)
    have pt : PT b ≤ 600000000 := by have := tb.1.2; unfold PB at this p4; omega
    have v : v_try a text mill n what = v_tw b n what := by unfold v_try; rw [if_pos k, hb]
    rw [v] at t
    clear fl
    have g0 : GW S S σ σ0 36 (a 0) := ⟨⟨Nat.le_refl _, fun _ _ => rfl, fun _ _ _ _ => rfl, id⟩, fun c h1 h2 h3 _ => f0 c (by omega) (by omega), fun k hk => by rw [f0 54 (by omega) (by omega)]⟩
    have x0 : RX S σ0 b := RX_x tb.2 p3.2.1 (RX_gw p1 g0 p2.1 s100 (by omega))
    have bx0 : BX S σ0 b := BX_x tb.2 hC' (BX_gw p2 g0 p2.1 ⟨Int.le_refl _, by omega⟩ s100 (by omega))
    have ws := fun i i0 (i1 : i ≤ n) => WP_ws tb.1.1 pt i i0 (show b 0 + i ≤ 400 by have := k.2.2.2.2; omega)
    have loop : ∀ i, 0 ≤ i → i ≤ n → ∀ S' σ' τ', GW S S' σ σ' 36 (a 0) → RT σ' 36 (r_ws b i) → RX S' σ' (r_ws b i) → BX S' σ' (r_ws b i) → (σ' 53 6 = zw (tSm te1 b i) ∧ σ' 53 7 = zw (tSm th1 b i) ∧ σ' 53 8 = zw (tSm tm1 b i) ∧ σ' 53 9 = zw (tSm tp1 b i)) → wi (d + 20) 178 117 [.ref 1, .int (wI text), .int (wI mill), .int (wI n), .int (wI what), .int (wI 1), .int (wI i)] [] S' σ' τ' Q := by
      refine lp_up (fun i i0 i1 ih => ?_)
      intro S' σ' τ' g r x bx z
      have w := ws i i0 i1
      refine u_178_117 ⟨by have := k.2.2.1; omega, p8, ifI (fun e => ?_) (fun e => ?_)⟩
      · have e : i = n := by omega
        subst e
        refine ⟨r_ws b i, r, by have := k.2.2.2.1; omega, ?_⟩
        have e : wI (if what = 0 then σ' 53 6 else if what = 1 then σ' 53 7 else if what = 2 then σ' 53 8 else if what = 3 then σ' 53 9 else v_bh (r_ws b i) what) = wI (v_tw b i what) := by
          unfold v_tw
          rw [z.1, z.2.1, z.2.2.1, z.2.2.2]
          split
          · rw [wI_zw]
          · split
            · rw [wI_zw]
            · split
              · rw [wI_zw]
              · split
                · rw [wI_zw]
                · rfl
        rw [e]
        exact t S' σ' τ' g bx.1
      · have i0' : r_ws b i 0 ≤ 399 := by have := k.2.2.2.2; omega
        refine q_109 (d := d + 5) tw_36 r x bx w.1 i0' (fun S2 σ2 τ2 y op r2 x2 b2 pw tw => ?_)
        show wi (d + 20) 178 134 [.ref 1, .int (wI text), .int (wI mill), .int (wI n), .int (wI what), .int (wI 1), .int (wI i)] [] S2 σ2 τ2 Q
        have g2 := GW_s g op pw (by omega) (by omega) s100
        rw [← r_ws_s i0] at r2 x2 b2
        refine u_178_134 (ih (by omega) S2 σ2 τ2 g2 r2 x2 b2 ⟨?_, ?_, ?_, ?_⟩)
        · rw [tw.1, z.1, zw_add, tSm_s i0]; rfl
        · rw [tw.2.1, z.2.1, zw_add, tSm_s i0]; rfl
        · rw [tw.2.2.1, z.2.2.1, zw_add, tSm_s i0]; rfl
        · rw [tw.2.2.2, z.2.2.2, zw_add, tSm_s i0]; rfl
    exact loop 0 (by omega) (by have := k.2.2.1; omega) S σ0 τ g0 (by rw [r_ws_0]; exact r0) (by rw [r_ws_0]; exact x0) (by rw [r_ws_0]; exact bx0) ⟨by rw [z0.1]; rfl, by rw [z0.2.1]; rfl, by rw [z0.2.2.1]; rfl, by rw [z0.2.2.2]; rfl⟩
  clear t
  refine wc_of mi_178 rfl (u_178_0 ?_)
  rw [c8, c9, c7]
  have nt : text = -1 → k_try a text mill n what → ∃ a12 : Int → Int, (RT σ 2 a12) ∧ (36 ≠ 2) ∧ (Jv a12) ∧ ∀ (σ1 : zI), RT σ1 36 a12 → (∀ c, c < 36 ∨ 36 + 16 < c → σ1 c = σ c) → wi (d + 20) 178 117 [.ref 1, .int (wI text), .int (wI mill), .int (wI n), .int (wI what), .int (wI 1), .int (wI 0)] [] S (uc σ1 53 (u1 (u1 (u1 (u1 (σ1 53) 6 0) 7 0) 8 0) 9 0)) τ Q := fun ht k =>
    ⟨a, p0, by decide, p3.1, fun σ1 r f => by
      refine go k _ ?_ (fun c h1 h2 => by rw [uc_n h2]; exact f c (by omega)) ⟨?_, ?_, ?_, ?_⟩
      · unfold r_tb
        rw [if_pos ht]
        exact RT_σ (fun c h1 h2 => uc_n (by omega)) r
      · rw [uc_s, u1_n (by omega), u1_n (by omega), u1_n (by omega), u1_s]
      · rw [uc_s, u1_n (by omega), u1_n (by omega), u1_s]
      · rw [uc_s, u1_n (by omega), u1_s]
      · rw [uc_s, u1_s]⟩
  have wt : text ≠ -1 → k_try a text mill n what → ∃ a30 : Int → Int, (RT σ 2 a30) ∧ (36 ≠ 2) ∧ (Jv a30) ∧ ∀ (σ1 : zI), RT σ1 36 a30 → (∀ c, c < 36 ∨ 36 + 16 < c → σ1 c = σ c) → wi (d + 20) 178 117 [.ref 1, .int (wI text), .int (wI mill), .int (wI n), .int (wI what), .int (wI 1), .int (wI 0)] [] S (uc (uc (uc σ1 52 (if (σ1 51) 2 < 61 then u1 (u1 (u1 (u1 (u1 (fl_ ((σ1 52)) ((σ1 51) 2 * 5) ((σ1 51) 2 * 5 + 5) 0) ((σ1 51) 2 * 5 + 0) (text)) ((σ1 51) 2 * 5 + 1) (mill)) ((σ1 51) 2 * 5 + 2) ((σ1 2 8))) ((σ1 51) 2 * 5 + 3) (399)) ((σ1 51) 2 * 5 + 4) ((σ1 36) 8) else (σ1 52))) 51 (if (σ1 51) 2 < 61 then u1 ((σ1 51)) 2 ((σ1 51) 2 + 1) else (σ1 51))) 53 (u1 (u1 (u1 (u1 ((σ1 53)) 6 0) 7 0) 8 0) 9 0)) τ Q := fun ht k =>
    ⟨a, p0, by decide, p3.1, fun σ1 r f => by
      have l : σ1 51 2 < 61 := by
        have : σ1 51 2 = a 6 := (tF r).1
        omega
      have e8 : σ1 2 8 = a 0 := by rw [f 2 (by omega)]; exact c8
      rw [if_pos l, if_pos l, e8]
      have X := XFp (text := text) (mill := mill) (from_ := a 0) (to := 399) r hC' p5
      refine go k _ ?_ (fun c h1 h2 => by rw [uc_n h2, uc_n (by omega), uc_n (by omega)]; exact f c (by omega)) ⟨?_, ?_, ?_, ?_⟩
      · unfold r_tb
        rw [if_neg ht]
        exact RT_σ (fun c h1 h2 => uc_n (by omega)) X
      · rw [uc_s, u1_n (by omega), u1_n (by omega), u1_n (by omega), u1_s]
      · rw [uc_s, u1_n (by omega), u1_n (by omega), u1_s]
      · rw [uc_s, u1_n (by omega), u1_s]
      · rw [uc_s, u1_s]⟩
  refine ⟨p6, ifI (fun c1 => ⟨p7, ifI (fun c2 => ⟨p8, ifI (fun e1 => ⟨p9, ifI (fun e2 => ⟨by omega, ifI (fun e3 => nt c1 ⟨by omega, by omega, e1, e2, e3⟩) (fun e3 => fl (fun z => e3 z.2.2.2.2))⟩) (fun e2 => fl (fun z => e2 z.2.2.2.1))⟩) (fun e1 => fl (fun z => e1 z.2.2.1))⟩) (fun c2 => fl (fun z => by omega))⟩) (fun c1 => ifI (fun c1' => ⟨p7, ifI (fun c2 => ⟨p8, ifI (fun e1 => ⟨p9, ifI (fun e2 => ⟨by omega, ifI (fun e3 => wt c1 ⟨by omega, by omega, e1, e2, e3⟩) (fun e3 => fl (fun z => e3 z.2.2.2.2))⟩) (fun e2 => fl (fun z => e2 z.2.2.2.1))⟩) (fun e1 => fl (fun z => e1 z.2.2.1))⟩) (fun c2 => fl (fun z => by omega))⟩) (fun c1' => fl (fun z => by omega)))⟩
