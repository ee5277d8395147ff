/-! ===== a WEEK of the class: the MILLS run (segments printed by wip/whole, contracts own work) ===== -/
-- method 124: MillTown$Week.spin(LMillTown$Town;III)I
theorem c_124_0 : pg_cd 124 0 = (3, 1, 0, 3, 0) := by decide +kernel
theorem c_124_1 : pg_cd 124 1 = (3, 2, 0, 4, 0) := by decide +kernel
theorem c_124_3 : pg_cd 124 3 = (12, 1, 0, 0, 0) := by decide +kernel
theorem c_124_4 : pg_cd 124 4 = (5, 1, 0, 1, 0) := by decide +kernel
theorem c_124_5 : pg_cd 124 5 = (45, 8, 115, 2, 0) := by decide +kernel
theorem c_124_8 : pg_cd 124 8 = (3, 1, 0, 2, 0) := by decide +kernel
theorem c_124_9 : pg_cd 124 9 = (1, 1, 0, 0, 3) := by decide +kernel
theorem c_124_10 : pg_cd 124 10 = (80, 55, 118, 0, 0) := by decide +kernel
theorem c_124_13 : pg_cd 124 13 = (11, 1, 0, 0, 0) := by decide +kernel
theorem c_124_14 : pg_cd 124 14 = (6, 2, 0, 5, 0) := by decide +kernel
theorem c_124_16 : pg_cd 124 16 = (3, 2, 0, 5, 0) := by decide +kernel
theorem c_124_18 : pg_cd 124 18 = (36, 3, 0, 5, 18) := by decide +kernel
theorem c_124_21 : pg_cd 124 21 = (3, 2, 0, 5, 0) := by decide +kernel
theorem c_124_23 : pg_cd 124 23 = (1, 3, 0, 0, 360) := by decide +kernel
theorem c_124_26 : pg_cd 124 26 = (10, 1, 0, 0, 0) := by decide +kernel
theorem c_124_27 : pg_cd 124 27 = (1, 1, 0, 0, 1) := by decide +kernel
theorem c_124_28 : pg_cd 124 28 = (11, 1, 0, 0, 0) := by decide +kernel
theorem c_124_29 : pg_cd 124 29 = (1, 3, 0, 0, 360) := by decide +kernel
theorem c_124_32 : pg_cd 124 32 = (16, 1, 0, 0, 0) := by decide +kernel
theorem c_124_33 : pg_cd 124 33 = (38, 3, 0, 0, 4) := by decide +kernel
theorem c_124_36 : pg_cd 124 36 = (1, 1, 0, 0, 0) := by decide +kernel
theorem c_124_37 : pg_cd 124 37 = (6, 2, 0, 6, 0) := by decide +kernel
theorem c_124_39 : pg_cd 124 39 = (5, 1, 0, 0, 0) := by decide +kernel
theorem c_124_40 : pg_cd 124 40 = (43, 9, 96, 5, 0) := by decide +kernel
theorem c_124_43 : pg_cd 124 43 = (36, 3, 0, 5, 20) := by decide +kernel
theorem c_124_46 : pg_cd 124 46 = (5, 1, 0, 1, 0) := by decide +kernel
theorem c_124_47 : pg_cd 124 47 = (45, 8, 115, 2, 0) := by decide +kernel
theorem c_124_50 : pg_cd 124 50 = (3, 1, 0, 2, 0) := by decide +kernel
theorem c_124_51 : pg_cd 124 51 = (1, 1, 0, 0, 2) := by decide +kernel
theorem c_124_52 : pg_cd 124 52 = (80, 55, 118, 0, 0) := by decide +kernel
theorem c_124_55 : pg_cd 124 55 = (5, 1, 0, 0, 0) := by decide +kernel
theorem c_124_56 : pg_cd 124 56 = (43, 9, 96, 5, 0) := by decide +kernel
theorem c_124_59 : pg_cd 124 59 = (16, 1, 0, 0, 0) := by decide +kernel
theorem c_124_60 : pg_cd 124 60 = (38, 3, 0, 0, 4) := by decide +kernel
theorem c_124_63 : pg_cd 124 63 = (1, 1, 0, 0, 0) := by decide +kernel
theorem c_124_64 : pg_cd 124 64 = (6, 2, 0, 7, 0) := by decide +kernel
theorem c_124_66 : pg_cd 124 66 = (1, 1, 0, 0, 0) := by decide +kernel
theorem c_124_67 : pg_cd 124 67 = (3, 2, 0, 6, 0) := by decide +kernel
theorem c_124_69 : pg_cd 124 69 = (3, 2, 0, 7, 0) := by decide +kernel
theorem c_124_71 : pg_cd 124 71 = (74, 0, 182, 0, 0) := by decide +kernel
theorem c_124_74 : pg_cd 124 74 = (73, 0, 217, 0, 0) := by decide +kernel
theorem c_124_77 : pg_cd 124 77 = (6, 2, 0, 8, 0) := by decide +kernel
theorem c_124_79 : pg_cd 124 79 = (5, 1, 0, 1, 0) := by decide +kernel
theorem c_124_80 : pg_cd 124 80 = (45, 8, 115, 2, 0) := by decide +kernel
theorem c_124_83 : pg_cd 124 83 = (3, 1, 0, 2, 0) := by decide +kernel
theorem c_124_84 : pg_cd 124 84 = (1, 1, 0, 0, 2) := by decide +kernel
theorem c_124_85 : pg_cd 124 85 = (3, 2, 0, 8, 0) := by decide +kernel
theorem c_124_87 : pg_cd 124 87 = (21, 1, 0, 0, 0) := by decide +kernel
theorem c_124_88 : pg_cd 124 88 = (5, 1, 0, 0, 0) := by decide +kernel
theorem c_124_89 : pg_cd 124 89 = (43, 9, 96, 5, 0) := by decide +kernel
theorem c_124_92 : pg_cd 124 92 = (12, 1, 0, 0, 0) := by decide +kernel
theorem c_124_93 : pg_cd 124 93 = (80, 57, 190, 0, 0) := by decide +kernel
theorem c_124_96 : pg_cd 124 96 = (5, 1, 0, 1, 0) := by decide +kernel
theorem c_124_97 : pg_cd 124 97 = (45, 8, 115, 2, 0) := by decide +kernel
theorem c_124_100 : pg_cd 124 100 = (3, 1, 0, 2, 0) := by decide +kernel
theorem c_124_101 : pg_cd 124 101 = (1, 1, 0, 0, 3) := by decide +kernel
theorem c_124_102 : pg_cd 124 102 = (3, 2, 0, 8, 0) := by decide +kernel
theorem c_124_104 : pg_cd 124 104 = (1, 3, 0, 0, 360) := by decide +kernel
theorem c_124_107 : pg_cd 124 107 = (12, 1, 0, 0, 0) := by decide +kernel
theorem c_124_108 : pg_cd 124 108 = (80, 57, 190, 0, 0) := by decide +kernel
theorem c_124_111 : pg_cd 124 111 = (3, 2, 0, 4, 0) := by decide +kernel
theorem c_124_113 : pg_cd 124 113 = (36, 3, 0, 5, 22) := by decide +kernel
theorem c_124_116 : pg_cd 124 116 = (3, 1, 0, 3, 0) := by decide +kernel
theorem c_124_117 : pg_cd 124 117 = (5, 1, 0, 1, 0) := by decide +kernel
theorem c_124_118 : pg_cd 124 118 = (45, 8, 115, 2, 0) := by decide +kernel
theorem c_124_121 : pg_cd 124 121 = (3, 1, 0, 2, 0) := by decide +kernel
theorem c_124_122 : pg_cd 124 122 = (1, 1, 0, 0, 3) := by decide +kernel
theorem c_124_123 : pg_cd 124 123 = (80, 55, 118, 0, 0) := by decide +kernel
theorem c_124_126 : pg_cd 124 126 = (3, 2, 0, 4, 0) := by decide +kernel
theorem c_124_128 : pg_cd 124 128 = (16, 1, 0, 0, 0) := by decide +kernel
theorem c_124_129 : pg_cd 124 129 = (74, 0, 182, 0, 0) := by decide +kernel
theorem c_124_132 : pg_cd 124 132 = (38, 3, 0, 0, 4) := by decide +kernel
theorem c_124_135 : pg_cd 124 135 = (1, 1, 0, 0, 0) := by decide +kernel
theorem c_124_136 : pg_cd 124 136 = (6, 2, 0, 9, 0) := by decide +kernel
theorem c_124_138 : pg_cd 124 138 = (5, 1, 0, 1, 0) := by decide +kernel
theorem c_124_139 : pg_cd 124 139 = (45, 8, 115, 2, 0) := by decide +kernel
theorem c_124_142 : pg_cd 124 142 = (3, 1, 0, 2, 0) := by decide +kernel
theorem c_124_143 : pg_cd 124 143 = (1, 1, 0, 0, 3) := by decide +kernel
theorem c_124_144 : pg_cd 124 144 = (3, 2, 0, 9, 0) := by decide +kernel
theorem c_124_146 : pg_cd 124 146 = (21, 1, 0, 0, 0) := by decide +kernel
theorem c_124_147 : pg_cd 124 147 = (3, 2, 0, 4, 0) := by decide +kernel
theorem c_124_149 : pg_cd 124 149 = (12, 1, 0, 0, 0) := by decide +kernel
theorem c_124_150 : pg_cd 124 150 = (80, 57, 190, 0, 0) := by decide +kernel
theorem c_124_153 : pg_cd 124 153 = (3, 2, 0, 9, 0) := by decide +kernel
theorem c_124_155 : pg_cd 124 155 = (90, 0, 0, 0, 0) := by decide +kernel
theorem mi_124 : pg_mc 124 = 9 ∧ pg_na 124 = 4 ∧ pg_mx 124 = 10 := by decide +kernel
set_option maxRecDepth 20000 in
theorem u_124_0 {d : Nat} {S : zS} {σ τ : zI} {Q : zQ} {x1 : Nat} {x2 : Int} {x3 : Int} {x4 : Int} (hx1 : tw x1) (t : (rg x2) ∧ (rg ((x3 * x4) - (rt_ (σ (x1 + 5) 2) (σ (x1 + 6)) 13 3 x2))) ∧ if ((x3 * x4) - (rt_ (σ (x1 + 5) 2) (σ (x1 + 6)) 13 3 x2)) ≤ 0 then (wi (d + 8) 124 37 [.ref 53, .ref x1, .int (wI x2), .int (wI x3), .int (wI x4), .int (wI ((x3 * x4) - (rt_ (σ (x1 + 5) 2) (σ (x1 + 6)) 13 3 x2))), .retAddr 0, .retAddr 0, .retAddr 0, .retAddr 0] [.int (wI 0)] S σ τ Q) else ((rg ((((x3 * x4) - (rt_ (σ (x1 + 5) 2) (σ (x1 + 6)) 13 3 x2)) + 360) - 1)) ∧ wi (d + 8) 124 37 [.ref 53, .ref x1, .int (wI x2), .int (wI x3), .int (wI x4), .int (wI ((x3 * x4) - (rt_ (σ (x1 + 5) 2) (σ (x1 + 6)) 13 3 x2))), .retAddr 0, .retAddr 0, .retAddr 0, .retAddr 0] [.int (wI (Int.tdiv ((((x3 * x4) - (rt_ (σ (x1 + 5) 2) (σ (x1 + 6)) 13 3 x2)) + 360) - 1) 360))] S σ τ Q)) : wi (d + 8) 124 0 [.ref 53, .ref x1, .int (wI x2), .int (wI x3), .int (wI x4), .retAddr 0, .retAddr 0, .retAddr 0, .retAddr 0, .retAddr 0] [] S σ τ Q := by
  obtain ⟨r1, t⟩ := t
  refine i3 c_124_0 rfl (i3 c_124_1 rfl (i12 c_124_3 (i5 c_124_4 rfl (i45 c_124_5 (lo (lyt_0 hx1) (by have := tw_b hx1; omega)) (lro (lrt_2 hx1)) (i3 c_124_8 rfl (i1 c_124_9 (wi_ok (fun K2 => ?_))))))))
  refine i80 (As := [.int (wI x2), .int (wI 3)]) (rest := [.int (wI (x3 * x4))]) c_124_10 mi_55 rfl rfl (Nat.le_of_ble_eq_true rfl) (Nat.le_of_ble_eq_true rfl) (lo (lyt_5 hx1) (by have := tw_b hx1; omega)) (q_at (ow_mills hx1) r1 (by decide) ?_)
  show wi (d + 8) 124 13 [.ref 53, .ref x1, .int (wI x2), .int (wI x3), .int (wI x4), .retAddr 0, .retAddr 0, .retAddr 0, .retAddr 0, .retAddr 0] [.int (wI (rt_ (σ (x1 + 5) 2) (σ (x1 + 6)) 13 3 x2)), .int (wI (x3 * x4))] S σ τ Q
  obtain ⟨r3, t⟩ := t
  refine i11 c_124_13 (i6 (L' := [.ref 53, .ref x1, .int (wI x2), .int (wI x3), .int (wI x4), .int (wI ((x3 * x4) - (rt_ (σ (x1 + 5) 2) (σ (x1 + 6)) 13 3 x2))), .retAddr 0, .retAddr 0, .retAddr 0, .retAddr 0]) c_124_14 rfl (i3 c_124_16 rfl ?_))
  refine i36 c_124_18 r3 rfl (fun hc => ?_) (fun hc => ?_)
  · have t := iT t hc
    have ha4 : ((x3 * x4) - (rt_ (σ (x1 + 5) 2) (σ (x1 + 6)) 13 3 x2)) ≤ 0 := hc
    refine i1 c_124_36 t
  · have t := iF t hc
    have ha4 : ¬ (((x3 * x4) - (rt_ (σ (x1 + 5) 2) (σ (x1 + 6)) 13 3 x2)) ≤ 0) := hc
    obtain ⟨r5, t⟩ := t
    refine i3 c_124_21 rfl (i1 c_124_23 (i10 c_124_26 (i1 c_124_27 (i11 c_124_28 (i1 c_124_29 (i16 c_124_32 r5 (by decide) (by decide) (i38 c_124_33 rfl t)))))))
set_option maxRecDepth 20000 in
theorem u_124_37 {d : Nat} {S : zS} {σ τ : zI} {Q : zQ} {x1 : Nat} {x2 : Int} {x3 : Int} {x4 : Int} {x5 : Int} {y6 : Value} {y7 : Value} {y8 : Value} {y9 : Value} {s0 : Int} (hx1 : tw x1) (t : if (σ 53 5) ≤ 0 then (wi (d + 8) 124 64 [.ref 53, .ref x1, .int (wI x2), .int (wI x3), .int (wI x4), .int (wI x5), .int (wI s0), y7, y8, y9] [.int (wI 0)] S σ τ Q) else ((rg x2) ∧ ((σ 53 5) ≠ 0) ∧ wi (d + 8) 124 64 [.ref 53, .ref x1, .int (wI x2), .int (wI x3), .int (wI x4), .int (wI x5), .int (wI s0), y7, y8, y9] [.int (wI (Int.tdiv (rt_ (σ (x1 + 5) 2) (σ (x1 + 6)) 13 2 x2) (σ 53 5)))] S σ τ Q)) : wi (d + 8) 124 37 [.ref 53, .ref x1, .int (wI x2), .int (wI x3), .int (wI x4), .int (wI x5), y6, y7, y8, y9] [.int (wI s0)] S σ τ Q := by
  refine i6 (L' := [.ref 53, .ref x1, .int (wI x2), .int (wI x3), .int (wI x4), .int (wI x5), .int (wI s0), y7, y8, y9]) c_124_37 rfl (i5 c_124_39 rfl (wi_ok (fun K1 => ?_)))
  refine i43 (v := σ 53 5) c_124_40 (lo (c := 53) (kd := 109) (n := 0) rfl (by decide)) rfl ?_
  refine i36 c_124_43 (rge_ K1 rfl) rfl (fun hc => ?_) (fun hc => ?_)
  · have t := iT t hc
    have ha2 : (σ 53 5) ≤ 0 := hc
    refine i1 c_124_63 t
  · have t := iF t hc
    have ha2 : ¬ ((σ 53 5) ≤ 0) := hc
    obtain ⟨r3, t⟩ := t
    refine i5 c_124_46 rfl (i45 c_124_47 (lo (lyt_0 hx1) (by have := tw_b hx1; omega)) (lro (lrt_2 hx1)) (i3 c_124_50 rfl (i1 c_124_51 ?_)))
    refine i80 (As := [.int (wI x2), .int (wI 2)]) (rest := []) c_124_52 mi_55 rfl rfl (Nat.le_of_ble_eq_true rfl) (Nat.le_of_ble_eq_true rfl) (lo (lyt_5 hx1) (by have := tw_b hx1; omega)) (q_at (ow_mills hx1) r3 (by decide) ?_)
    show wi (d + 8) 124 55 [.ref 53, .ref x1, .int (wI x2), .int (wI x3), .int (wI x4), .int (wI x5), .int (wI s0), y7, y8, y9] [.int (wI (rt_ (σ (x1 + 5) 2) (σ (x1 + 6)) 13 2 x2))] S σ τ Q
    obtain ⟨y4, t⟩ := t
    refine i5 c_124_55 rfl (i43 (v := σ 53 5) c_124_56 (lo (c := 53) (kd := 109) (n := 0) rfl (by decide)) rfl (i16 c_124_59 (rg_rt_ (fun k => kO_r K1 _ k) _ _ _ _) (rge_ K1 rfl) y4 (i38 c_124_60 rfl t)))
set_option maxRecDepth 20000 in
theorem u_124_64 {d : Nat} {S : zS} {σ τ : zI} {Q : zQ} {x1 : Nat} {x2 : Int} {x3 : Int} {x4 : Int} {x5 : Int} {x6 : Int} {y7 : Value} {y8 : Value} {y9 : Value} {s0 : Int} (hx1 : tw x1) (t : (rg x6) ∧ (rg s0) ∧ (rg x2) ∧ (0 ≤ x2 ∧ x2 < (σ (x1 + 5) 2)) ∧ ∃ w6 : Int, wI w6 = wI ((σ (x1 + 6) (x2 * 13 + 2)) + ((-(max 0 (min x6 s0))) * (σ 53 5))) ∧ rg w6 ∧ ((x2 * 13 + 3) ≠ (x2 * 13 + 2)) ∧ ∃ w11 : Int, wI w11 = wI ((σ (x1 + 6) (x2 * 13 + 3)) + ((max 0 (min x6 s0)) * 360)) ∧ rg w11 ∧ (rg x4) ∧ if x4 ≤ 0 then (wi (d + 8) 124 136 [.ref 53, .ref x1, .int (wI x2), .int (wI x3), .int (wI x4), .int (wI x5), .int (wI x6), .int (wI s0), .int (wI (max 0 (min x6 s0))), y9] [.int (wI 0)] S (uc σ (x1 + 6) (u1 (u1 (σ (x1 + 6)) (x2 * 13 + 2) w6) (x2 * 13 + 3) w11)) τ Q) else ((x4 ≠ 0) ∧ (rg x3) ∧ (rg (Int.tdiv (rt_ (σ (x1 + 5) 2) (u1 (u1 (σ (x1 + 6)) (x2 * 13 + 2) w6) (x2 * 13 + 3) w11) 13 3 x2) x4)) ∧ wi (d + 8) 124 136 [.ref 53, .ref x1, .int (wI x2), .int (wI x3), .int (wI x4), .int (wI x5), .int (wI x6), .int (wI s0), .int (wI (max 0 (min x6 s0))), y9] [.int (wI (min x3 (Int.tdiv (rt_ (σ (x1 + 5) 2) (u1 (u1 (σ (x1 + 6)) (x2 * 13 + 2) w6) (x2 * 13 + 3) w11) 13 3 x2) x4)))] S (uc σ (x1 + 6) (u1 (u1 (σ (x1 + 6)) (x2 * 13 + 2) w6) (x2 * 13 + 3) w11)) τ Q)) : wi (d + 8) 124 64 [.ref 53, .ref x1, .int (wI x2), .int (wI x3), .int (wI x4), .int (wI x5), .int (wI x6), y7, y8, y9] [.int (wI s0)] S σ τ Q := by
  obtain ⟨r1, t⟩ := t
  obtain ⟨r2, t⟩ := t
  refine i6 (L' := [.ref 53, .ref x1, .int (wI x2), .int (wI x3), .int (wI x4), .int (wI x5), .int (wI x6), .int (wI s0), y8, y9]) c_124_64 rfl (i1 c_124_66 (i3 c_124_67 rfl (i3 c_124_69 rfl (i74 c_124_71 (Nat.le_of_ble_eq_true rfl) (by omega) r1 r2 (i73 c_124_74 (Nat.le_of_ble_eq_true rfl) (by omega) (by decide) (min_i r1 r2) (i6 (L' := [.ref 53, .ref x1, .int (wI x2), .int (wI x3), .int (wI x4), .int (wI x5), .int (wI x6), .int (wI s0), .int (wI (max 0 (min x6 s0))), y9]) c_124_77 rfl (i5 c_124_79 rfl (i45 c_124_80 (lo (lyt_0 hx1) (by have := tw_b hx1; omega)) (lro (lrt_2 hx1)) (i3 c_124_83 rfl (i1 c_124_84 (i3 c_124_85 rfl (i21 c_124_87 (i5 c_124_88 rfl (wi_ok (fun K3 => ?_)))))))))))))))
  obtain ⟨r4, t⟩ := t
  obtain ⟨b5, t⟩ := t
  obtain ⟨w6, e7, r8, t⟩ := t
  refine i43 (v := σ 53 5) c_124_89 (lo (c := 53) (kd := 109) (n := 0) rfl (by decide)) rfl (i12 c_124_92 ?_)
  refine i80 (As := [.int (wI x2), .int (wI 2), .int (wI ((-(max 0 (min x6 s0))) * (σ 53 5)))]) (rest := []) c_124_93 mi_57 rfl rfl (Nat.le_of_ble_eq_true rfl) (Nat.le_of_ble_eq_true rfl) (lo (lyt_5 hx1) (by have := tw_b hx1; omega)) (q_raise (v2 := w6) (ow_mills hx1) r4 b5 (by decide) e7 r8 ?_)
  show wi (d + 8) 124 96 [.ref 53, .ref x1, .int (wI x2), .int (wI x3), .int (wI x4), .int (wI x5), .int (wI x6), .int (wI s0), .int (wI (max 0 (min x6 s0))), y9] [] S (uc σ (x1 + 6) (u1 (σ (x1 + 6)) (x2 * 13 + 2) w6)) τ Q
  obtain ⟨n9, t⟩ := t
  refine i5 c_124_96 rfl (i45 c_124_97 (lo (lyt_0 hx1) (by have := tw_b hx1; omega)) (lro (lrt_2 hx1)) (i3 c_124_100 rfl (i1 c_124_101 (i3 c_124_102 rfl (i1 c_124_104 (i12 c_124_107 (wi_ok (fun K10 => ?_))))))))
  obtain ⟨w11, e12, r13, t⟩ := t
  refine i80 (As := [.int (wI x2), .int (wI 3), .int (wI ((max 0 (min x6 s0)) * 360))]) (rest := []) c_124_108 mi_57 rfl rfl (Nat.le_of_ble_eq_true rfl) (Nat.le_of_ble_eq_true rfl) (lo (lyt_5 hx1) (by have := tw_b hx1; omega)) (q_raise (v2 := w11) (ow_mills hx1) r4 (show 0 ≤ x2 ∧ x2 < (uc σ (x1 + 6) (u1 (σ (x1 + 6)) (x2 * 13 + 2) w6)) (x1 + 5) 2 by rw [(congrFun (uc_ns rfl (by have := tw_b hx1; have := tw_b hx1; omega)) _)]; exact b5) (by decide) (Eq.trans (show wI w11 = wI ((σ (x1 + 6) (x2 * 13 + 3)) + ((max 0 (min x6 s0)) * 360)) from e12) (congrArg (fun q => wI (q + ((max 0 (min x6 s0)) * 360))) (Eq.symm ((congrFun (uc_s _ _ _) _).trans (u1_n n9))))) r13 ?_)
  show wi (d + 8) 124 111 [.ref 53, .ref x1, .int (wI x2), .int (wI x3), .int (wI x4), .int (wI x5), .int (wI x6), .int (wI s0), .int (wI (max 0 (min x6 s0))), y9] [] S (uc (uc σ (x1 + 6) (u1 (σ (x1 + 6)) (x2 * 13 + 2) w6)) (x1 + 6) (u1 ((uc σ (x1 + 6) (u1 (σ (x1 + 6)) (x2 * 13 + 2) w6)) (x1 + 6)) (x2 * 13 + 3) w11)) τ Q
  obtain ⟨r14, t⟩ := t
  refine wi_s (σ1 := uc σ (x1 + 6) (u1 (u1 (σ (x1 + 6)) (x2 * 13 + 2) w6) (x2 * 13 + 3) w11)) (wr_ (uc_s _ _ _) (uc_uc _ _ _ _)) (i3 c_124_111 rfl ?_)
  refine i36 c_124_113 r14 rfl (fun hc => ?_) (fun hc => ?_)
  · have t := iT t hc
    have ha15 : x4 ≤ 0 := hc
    refine i1 c_124_135 t
  · have t := iF t hc
    have ha15 : ¬ (x4 ≤ 0) := hc
    refine i3 c_124_116 rfl (i5 c_124_117 rfl (i45 c_124_118 (lo (lyt_0 hx1) (by have := tw_b hx1; omega)) (lro (lrt_2 hx1)) (i3 c_124_121 rfl (i1 c_124_122 (wi_ok (fun K16 => ?_))))))
    refine i80 (As := [.int (wI x2), .int (wI 3)]) (rest := [.int (wI x3)]) c_124_123 mi_55 rfl rfl (Nat.le_of_ble_eq_true rfl) (Nat.le_of_ble_eq_true rfl) (lo (lyt_5 hx1) (by have := tw_b hx1; omega)) (q_at (ow_mills hx1) r4 (by decide) ?_)
    show wi (d + 8) 124 126 [.ref 53, .ref x1, .int (wI x2), .int (wI x3), .int (wI x4), .int (wI x5), .int (wI x6), .int (wI s0), .int (wI (max 0 (min x6 s0))), y9] [.int (wI (rt_ ((uc σ (x1 + 6) (u1 (u1 (σ (x1 + 6)) (x2 * 13 + 2) w6) (x2 * 13 + 3) w11)) (x1 + 5) 2) ((uc σ (x1 + 6) (u1 (u1 (σ (x1 + 6)) (x2 * 13 + 2) w6) (x2 * 13 + 3) w11)) (x1 + 6)) 13 3 x2)), .int (wI x3)] S (uc σ (x1 + 6) (u1 (u1 (σ (x1 + 6)) (x2 * 13 + 2) w6) (x2 * 13 + 3) w11)) τ Q
    obtain ⟨y17, t⟩ := t
    obtain ⟨r18, t⟩ := t
    obtain ⟨r19, t⟩ := t
    refine wi_v (v := rt_ (σ (x1 + 5) 2) (u1 (u1 (σ (x1 + 6)) (x2 * 13 + 2) w6) (x2 * 13 + 3) w11) 13 3 x2) (rt_c (congrFun (uc_ns rfl (by have := tw_b hx1; have := tw_b hx1; omega)) _) (uc_s _ _ _)) (i3 c_124_126 rfl (i16 c_124_128 (rg_rt_ (fun k => rge_ K16 (congrFun (uc_s _ _ _) k)) _ _ _ _) r14 y17 (i74 c_124_129 (Nat.le_of_ble_eq_true rfl) (by omega) r18 r19 (i38 c_124_132 rfl t))))
set_option maxRecDepth 20000 in
theorem u_124_136 {d : Nat} {S : zS} {σ τ : zI} {Q : zQ} {x1 : Nat} {x2 : Int} {x3 : Int} {x4 : Int} {x5 : Int} {x6 : Int} {x7 : Int} {x8 : Int} {y9 : Value} {s0 : Int} (hx1 : tw x1) (t : (rg x2) ∧ (0 ≤ x2 ∧ x2 < (σ (x1 + 5) 2)) ∧ ∃ w4 : Int, wI w4 = wI ((σ (x1 + 6) (x2 * 13 + 3)) + ((-s0) * x4)) ∧ rg w4 ∧ Q (some (.int (wI s0))) S (uc σ (x1 + 6) (u1 (σ (x1 + 6)) (x2 * 13 + 3) w4)) τ) : wi (d + 8) 124 136 [.ref 53, .ref x1, .int (wI x2), .int (wI x3), .int (wI x4), .int (wI x5), .int (wI x6), .int (wI x7), .int (wI x8), y9] [.int (wI s0)] S σ τ Q := by
  obtain ⟨r1, t⟩ := t
  obtain ⟨b2, t⟩ := t
  refine i6 (L' := [.ref 53, .ref x1, .int (wI x2), .int (wI x3), .int (wI x4), .int (wI x5), .int (wI x6), .int (wI x7), .int (wI x8), .int (wI s0)]) c_124_136 rfl (i5 c_124_138 rfl (i45 c_124_139 (lo (lyt_0 hx1) (by have := tw_b hx1; omega)) (lro (lrt_2 hx1)) (i3 c_124_142 rfl (i1 c_124_143 (i3 c_124_144 rfl (i21 c_124_146 (i3 c_124_147 rfl (i12 c_124_149 (wi_ok (fun K3 => ?_))))))))))
  obtain ⟨w4, e5, r6, t⟩ := t
  refine i80 (As := [.int (wI x2), .int (wI 3), .int (wI ((-s0) * x4))]) (rest := []) c_124_150 mi_57 rfl rfl (Nat.le_of_ble_eq_true rfl) (Nat.le_of_ble_eq_true rfl) (lo (lyt_5 hx1) (by have := tw_b hx1; omega)) (q_raise (v2 := w4) (ow_mills hx1) r1 b2 (by decide) e5 r6 ?_)
  show wi (d + 8) 124 153 [.ref 53, .ref x1, .int (wI x2), .int (wI x3), .int (wI x4), .int (wI x5), .int (wI x6), .int (wI x7), .int (wI x8), .int (wI s0)] [] S (uc σ (x1 + 6) (u1 (σ (x1 + 6)) (x2 * 13 + 3) w4)) τ Q
  refine i3 c_124_153 rfl ?_
  exact i90 c_124_155 t
theorem q_124 {d : Nat} {S : zS} {σ τ : zI} {Q : zQ} {tn : Nat} {m : Int} {w : Int} {y : Int} {a : Int → Int} {PE : Int → Int → Int} {MI : Int → Int → Int} {TK : Int → Int} {OD : Int → Int → Int} {ct : Int} (htn : tw tn) (p0 : CS σ tn a PE MI TK OD) (p1 : 0 ≤ m ∧ m < a 1 ∧ a 1 ≤ 8) (p2 : 0 ≤ w ∧ w ≤ (500 : Int)) (p3 : 1 ≤ y ∧ y ≤ (50 : Int)) (p4 : 0 ≤ MI m 2 ∧ (0 ≤ MI m 4 ∧ MI m 4 ≤ 30000)) (p5 : σ 53 5 = ct ∧ 1 ≤ ct ∧ ct ≤ 100000) (t : ∀ (σ1 : zI) (v : Int), (∀ c, c ≠ tn + 6 → σ1 c = σ c) → CS σ1 tn a PE (t2 (t2 MI m 2 (MI m 2 - wk_bt (MI m 4) (MI m 2) (w * y) ct * ct)) m 4 (MI m 4 + 360 * wk_bt (MI m 4) (MI m 2) (w * y) ct - (if (MI m 4 + 360 * wk_bt (MI m 4) (MI m 2) (w * y) ct).tdiv y < w then (MI m 4 + 360 * wk_bt (MI m 4) (MI m 2) (w * y) ct).tdiv y else w) * y)) TK OD → v = (if (MI m 4 + 360 * wk_bt (MI m 4) (MI m 2) (w * y) ct).tdiv y < w then (MI m 4 + 360 * wk_bt (MI m 4) (MI m 2) (w * y) ct).tdiv y else w) → Q (some (.int (wI v))) S σ1 τ) : wc (d + 8) 124 [.ref 53, .ref tn, .int (wI m), .int (wI w), .int (wI y)] S σ τ Q := by
  have tb := tw_b htn
  have cm := (cs_M p0).1
  have m13 := ((cs_M p0).2 m p1.1 p1.2.1).1
  have e2 := m13 2 2 (by omega)
  have e3 := m13 3 4 (by omega)
  refine wc_ok fun K => ?_
  have r2 := kO_r K (tn + 6) (m * 13 + 2)
  rw [e2] at r2
  have wy0 : 0 ≤ w * y := Int.mul_nonneg p2.1 (by omega)
  have wy1 : w * y ≤ 500 * 50 := Int.mul_le_mul p2.2 p3.2 (by omega) (by omega)
  have b := wk_bt_b (st := MI m 4) (co := MI m 2) (nd := w * y) (ct := ct) p4.1 p4.2 (by omega) p5.2.1
  obtain ⟨B, hB⟩ : ∃ B, B = wk_bt (MI m 4) (MI m 2) (w * y) ct := ⟨_, rfl⟩
  rw [← hB] at b t
  have v0 : 0 ≤ MI m 4 + 360 * B := by omega
  have ed := Int.tdiv_eq_ediv_of_nonneg v0 (b := y)
  have d0 : 0 ≤ (MI m 4 + 360 * B) / y := Int.ediv_nonneg v0 (by omega)
  have d2 : (MI m 4 + 360 * B) / y ≤ MI m 4 + 360 * B := Int.ediv_le_self _ v0
  -- how many PIECES
  have pcs : ∀ s0 N, N = (if (MI m 4 + 360 * B).tdiv y < w then (MI m 4 + 360 * B).tdiv y else w) → s0 = N → ∀ x5 x6 x7 x8 y9, wi (d + 8) 124 136 [.ref 53, .ref tn, .int (wI m), .int (wI w), .int (wI y), .int (wI x5), .int (wI x6), .int (wI x7), .int (wI x8), y9] [.int (wI s0)] S (uc σ (tn + 6) (u1 (u1 (σ (tn + 6)) (m * 13 + 2) (MI m 2 - B * ct)) (m * 13 + 3) (MI m 4 + 360 * B))) τ Q := fun s0 N hN hs x5 x6 x7 x8 y9 => by
    subst hs
    have n1 : 0 ≤ s0 ∧ s0 ≤ w ∧ s0 ≤ (MI m 4 + 360 * B) / y := by rw [hN, ed]; split <;> omega
    have n2 : s0 * y ≤ MI m 4 + 360 * B := (Int.le_ediv_iff_mul_le (by omega)).mp n1.2.2
    have n3 : 0 ≤ s0 * y := Int.mul_nonneg n1.1 (by omega)
    refine u_124_136 htn ?_
    rw [uc_n (by omega), cm, uc_s, u1_s]
    refine ⟨by omega, by omega, MI m 4 + 360 * B - s0 * y, ?_, by omega, ?_⟩
    · congr 1; rw [Int.neg_mul]; omega
    · rw [uc_uc, u1_u1]
      have t := t _ s0 (fun c hc => uc_n (σ := σ) (f := u1 (u1 (σ (tn + 6)) (m * 13 + 2) (MI m 2 - B * ct)) (m * 13 + 3) (MI m 4 + 360 * B - s0 * y)) hc) ?_ hN
      · exact t
      · refine CS_of p0 (fun c hc => uc_n (by omega)) (by rw [uc_n (by omega)]; exact (cs_P p0).2) ?_ (by rw [uc_n (by omega)]; exact (cs_O p0).2)
        rw [uc_s, ← hN]
        exact FM_u (show mcR 3 4 by omega) (FM_u (show mcR 2 2 by omega) (cs_M p0).2)
  -- how many bales
  have bal : ∀ x6 s0, max 0 (min x6 s0) = B → rg x6 → rg s0 → ∀ x5 y7 y8 y9, wi (d + 8) 124 64 [.ref 53, .ref tn, .int (wI m), .int (wI w), .int (wI y), .int (wI x5), .int (wI x6), y7, y8, y9] [.int (wI s0)] S σ τ Q := fun x6 s0 hb r6 r0 x5 y7 y8 y9 => by
    refine u_124_64 htn ?_
    rw [hb, e2, e3, p5.1, cm]
    refine ⟨r6, r0, by omega, by omega, MI m 2 - B * ct, by congr 1; rw [Int.neg_mul]; omega, by omega, by omega, MI m 4 + 360 * B, by congr 1; omega, by omega, by omega, ifI (fun e => by omega) (fun e => ?_)⟩
    have rv : rt_ (a 1) (u1 (u1 (σ (tn + 6)) (m * 13 + 2) (MI m 2 - B * ct)) (m * 13 + 3) (MI m 4 + 360 * B)) 13 3 m = MI m 4 + 360 * B := by
      rw [rt_p ⟨p1.1, p1.2.1⟩]
      exact u1_s _ _ _
    rw [rv]
    refine ⟨by omega, by omega, by rw [ed]; omega, pcs _ _ rfl ?_ _ _ _ _ _⟩
    split <;> omega
  have aff : ∀ s0, (s0 = if w * y ≤ MI m 4 then 0 else (w * y - MI m 4 + 359) / 360) → ∀ x5 y6 y7 y8 y9, wi (d + 8) 124 37 [.ref 53, .ref tn, .int (wI m), .int (wI w), .int (wI y), .int (wI x5), y6, y7, y8, y9] [.int (wI s0)] S σ τ Q := fun s0 hs x5 y6 y7 y8 y9 => by
    refine u_124_37 htn ?_
    have rv : rt_ (σ (tn + 5) 2) (σ (tn + 6)) 13 2 m = MI m 2 := vm p0 ⟨p1.1, p1.2.1⟩ (by omega)
    have q0 : 0 ≤ MI m 2 / ct := Int.ediv_nonneg p4.1 (by omega)
    have q1 : MI m 2 / ct ≤ MI m 2 := Int.ediv_le_self _ p4.1
    rw [p5.1, rv, Int.tdiv_eq_ediv_of_nonneg p4.1]
    have eB : max 0 (min s0 (MI m 2 / ct)) = B := by
      rw [hB, hs]
      unfold wk_bt
      split <;> omega
    have s1 : 0 ≤ s0 ∧ s0 ≤ 25000 := by rw [hs]; split <;> omega
    exact ifI (fun e => by omega) (fun e => ⟨by omega, by omega, bal _ _ eB (by omega) (by omega) _ _ _ _⟩)
  refine wc_of mi_124 rfl (u_124_0 htn ?_)
  have rv : rt_ (σ (tn + 5) 2) (σ (tn + 6)) 13 3 m = MI m 4 := vm p0 ⟨p1.1, p1.2.1⟩ (by omega)
  rw [rv]
  refine ⟨by omega, by omega, ifI (fun e => aff _ ?_ _ _ _ _ _) (fun e => ⟨by omega, aff _ ?_ _ _ _ _ _⟩)⟩
  · rw [if_pos (by omega)]
  · rw [if_neg (by omega), Int.tdiv_eq_ediv_of_nonneg (by omega)]
    congr 1; omega
def AW1 (f : Int → Int) (p n : Int) : Int → Int := if 0 ≤ p ∧ p < 60 then u1 f p (f p + n) else f
-- method 126: MillTown$Week.addWages(II)V
theorem c_126_0 : pg_cd 126 0 = (3, 1, 0, 1, 0) := by decide +kernel
theorem c_126_1 : pg_cd 126 1 = (36, 3, 0, 2, 19) := by decide +kernel
theorem c_126_4 : pg_cd 126 4 = (3, 1, 0, 1, 0) := by decide +kernel
theorem c_126_5 : pg_cd 126 5 = (1, 2, 0, 0, 60) := by decide +kernel
theorem c_126_7 : pg_cd 126 7 = (37, 3, 0, 3, 13) := by decide +kernel
theorem c_126_10 : pg_cd 126 10 = (5, 1, 0, 0, 0) := by decide +kernel
theorem c_126_11 : pg_cd 126 11 = (45, 9, 29, 3, 0) := by decide +kernel
theorem c_126_14 : pg_cd 126 14 = (3, 1, 0, 1, 0) := by decide +kernel
theorem c_126_15 : pg_cd 126 15 = (34, 1, 0, 0, 0) := by decide +kernel
theorem c_126_16 : pg_cd 126 16 = (50, 1, 0, 0, 0) := by decide +kernel
theorem c_126_17 : pg_cd 126 17 = (3, 1, 0, 2, 0) := by decide +kernel
theorem c_126_18 : pg_cd 126 18 = (10, 1, 0, 0, 0) := by decide +kernel
theorem c_126_19 : pg_cd 126 19 = (54, 1, 0, 0, 0) := by decide +kernel
theorem c_126_20 : pg_cd 126 20 = (94, 0, 0, 0, 0) := by decide +kernel
theorem mi_126 : pg_mc 126 = 9 ∧ pg_na 126 = 2 ∧ pg_mx 126 = 3 := by decide +kernel
set_option maxRecDepth 20000 in
theorem u_126_0 {d : Nat} {S : zS} {σ τ : zI} {Q : zQ} {x1 : Int} {x2 : Int} (t : (rg x1) ∧ if x1 < 0 then (Q none S σ τ) else (if (60 : Int) ≤ x1 then (Q none S σ τ) else ((0 ≤ x1 ∧ x1 < 60) ∧ ∃ w6 : Int, wI w6 = wI ((σ 61 x1) + x2) ∧ rg w6 ∧ Q none S (uc σ 61 (u1 (σ 61) x1 w6)) τ))) : wi (d + 0) 126 0 [.ref 53, .int (wI x1), .int (wI x2)] [] S σ τ Q := by
  obtain ⟨r1, t⟩ := t
  refine i3 c_126_0 rfl ?_
  refine i36 c_126_1 r1 rfl (fun hc => ?_) (fun hc => ?_)
  · have t := iT t hc
    have ha2 : x1 < 0 := hc
    exact i94 c_126_20 t
  · have t := iF t hc
    have ha2 : ¬ (x1 < 0) := hc
    refine i3 c_126_4 rfl (i1 c_126_5 ?_)
    refine i37 c_126_7 r1 (by decide) rfl (fun hc => ?_) (fun hc => ?_)
    · have t := iT t hc
      have ha3 : (60 : Int) ≤ x1 := hc
      exact i94 c_126_20 t
    · have t := iF t hc
      have ha3 : ¬ ((60 : Int) ≤ x1) := hc
      obtain ⟨r4, t⟩ := t
      refine i5 c_126_10 rfl (i45 c_126_11 (lo (c := 53) (kd := 109) (n := 0) rfl (by decide)) (lro (c := 53) (k := 3) (j := 61) (by decide)) (i3 c_126_14 rfl (i34a c_126_15 (wi_ok (fun K5 => ?_)))))
      obtain ⟨w6, e7, r8, t⟩ := t
      refine i50 (v := σ 61 x1) c_126_16 (lo (c := 61) (kd := 0) (n := 60) rfl (by decide)) (by decide) r4 rfl (i3 c_126_17 rfl (i10 c_126_18 (i54 (σ1 := uc σ 61 (u1 (σ 61) x1 w6)) c_126_19 (lo (c := 61) (kd := 0) (n := 60) rfl (by decide)) (by decide) r4 (by decide) e7 r8 (wr_ rfl rfl) ?_)))
      exact i94 c_126_20 t
theorem q_126 {d : Nat} {S : zS} {σ τ : zI} {Q : zQ} {p : Int} {n : Int} (p0 : rg p) (p1 : (0 ≤ p ∧ p < (60 : Int) → rg (σ 61 p + n))) (t : Q none S (uc σ 61 (AW1 (σ 61) p n)) τ) : wc (d + 0) 126 [.ref 53, .int (wI p), .int (wI n)] S σ τ Q := by
  refine wc_of mi_126 rfl (u_126_0 ⟨p0, ?_⟩)
  unfold AW1 at t
  refine ifI (fun e => ?_) (fun e => ifI (fun e2 => ?_) (fun e2 => ⟨by omega, _, rfl, p1 (by omega), ?_⟩))
  · rw [if_neg (by omega), uc_id] at t; exact t
  · rw [if_neg (by omega), uc_id] at t; exact t
  · rw [if_pos (by omega)] at t; exact t
/-- PERSONS below q have worked -/
def PEq (a : Int → Int) (q p c : Int) : Int := if c = 7 ∧ p < q then wk_r2 a p else PE1 a (a 1) p c
def MIq (a : Int → Int) (q m c : Int) : Int := if wk_D a m ∧ (c = 2 ∨ c = 4 ∨ c = 10) then (if c = 2 then (wk_s a m q).1 else if c = 4 then (wk_s a m q).2.1 else wk_tx a m - (wk_s a m q).2.2) else MI1 a (a 1) m c
def TKq (a : Int → Int) (q m : Int) : Int := if wk_D a m then (wk_s a m q).2.2 else 0
def CTq (σ : zI) (t : Nat) (a : Int → Int) (q : Int) : Prop := CS σ t a (PEq a q) (MIq a q) (TKq a q) (OD1 a (a 1))
section CQ
variable {a : Int → Int}
theorem sP_q {q : Int} : sP a (PEq a q) := fun p c h1 h2 h3 h4 h7 h8 => by
  unfold PEq
  rw [if_neg (by omega)]
  exact sP_1 p c h1 h2 h3 h4 h7 h8
theorem sM_q {q : Int} : sM a (MIq a q) := fun p c h1 h2 h => by
  unfold MIq
  rw [if_neg (by omega)]
  exact sM_1 p c h1 h2 h
theorem MIq_k {q x c : Int} (hx : x < a 1) (hc : c = 7 ∨ c = 8 ∨ c = 9) : MIq a q x c = if c = 7 then wk_ls a x else if c = 8 then wk_ht a x else wk_by a x := by
  unfold MIq MI1
  rw [if_neg (by omega), if_pos ⟨hx, by omega⟩]
  rcases hc with rfl | rfl | rfl
  · rfl
  · rfl
  · rfl
theorem MIq_D {q x c : Int} (h : wk_D a x) (hc : c = 2 ∨ c = 4 ∨ c = 10) : MIq a q x c = if c = 2 then (wk_s a x q).1 else if c = 4 then (wk_s a x q).2.1 else wk_tx a x - (wk_s a x q).2.2 := by
  unfold MIq
  rw [if_pos ⟨h, hc⟩]
theorem TKq_D {q x : Int} (h : wk_D a x) : TKq a q x = (wk_s a x q).2.2 := if_pos h
/-- one who does not weave changes nothing of MILLS -/
theorem MIq_no {q : Int} (hq : 0 ≤ q) (h : ∀ m, wk_D a m → ¬ wk_wv a m q) (x c : Int) : MIq a (q + 1) x c = MIq a q x c := by
  unfold MIq
  by_cases e : wk_D a x ∧ (c = 2 ∨ c = 4 ∨ c = 10)
  · rw [if_pos e, if_pos e, wk_s_s hq, if_neg (h x e.1)]
  · rw [if_neg e, if_neg e]
theorem TKq_no {q : Int} (hq : 0 ≤ q) (h : ∀ m, wk_D a m → ¬ wk_wv a m q) (x : Int) : TKq a (q + 1) x = TKq a q x := by
  unfold TKq
  by_cases e : wk_D a x
  · rw [if_pos e, if_pos e, wk_s_s hq, if_neg (h x e)]
  · rw [if_neg e, if_neg e]
theorem PEq_no {q : Int} (hJ : Jv a) (hq : 0 ≤ q ∧ q < a 4) (h : ∀ m, wk_D a m → ¬ wk_wv a m q) (p c : Int) (hp : 0 ≤ p) : PEq a (q + 1) p c = PEq a q p c := by
  have hP := jP hJ q hq.1 hq.2
  unfold PEq
  by_cases e : c = 7 ∧ p < q
  · rw [if_pos e, if_pos (by omega)]
  · rw [if_neg e]
    by_cases e2 : c = 7 ∧ p < q + 1
    · have ep : p = q := by omega
      rw [if_pos e2, ep]
      obtain ⟨rfl, _⟩ := e2
      unfold wk_r2 wk_ry
      rw [if_neg (fun z => h _ z.2 z.1)]
      unfold PE1
      by_cases m0 : 0 ≤ a (3652 + 12 * q + 4)
      · rw [if_pos ⟨rfl, hq.2, m0, by omega⟩]
      · rw [if_neg (fun z => m0 z.2.2.1)]
        unfold PE0 wk_r1 wk_rx
        rw [if_neg (show ¬ ((7 : Int) = 8 ∧ q < a 4) by omega), if_neg (fun z => by have := z.1.2; omega)]
    · rw [if_neg e2]
theorem CTq_no {σ : zI} {t : Nat} {q : Int} (hJ : Jv a) (hq : 0 ≤ q ∧ q < a 4) (h : ∀ m, wk_D a m → ¬ wk_wv a m q) (cs : CTq σ t a q) : CTq σ t a (q + 1) :=
  CS_c (fun p c p0 _ _ _ => (PEq_no hJ hq h p c p0).symm) (fun x c _ _ _ _ => (MIq_no hq.1 h x c).symm) (fun x _ _ => (TKq_no hq.1 h x).symm) (fun _ _ _ _ _ _ => rfl) cs
/-- WAGES by the work of PERSONS below q -/
def wk_Wq (a : Int → Int) (q p : Int) : Int := sI (fun x => wk_e a x p) q
theorem wk_Wq_s {q p : Int} (h : 0 ≤ q) : wk_Wq a (q + 1) p = wk_Wq a q p + wk_e a q p := sI_s h
theorem wk_Wq_b (hJ : Jv a) (hT : jv_T a) (h0 : a 0 ≤ 399) {q p : Int} (hq : 0 ≤ q ∧ q ≤ a 4) : 0 ≤ wk_Wq a q p ∧ wk_Wq a q p ≤ 330000000 := by
  have hC := jC hJ
  unfold jv_C at hC
  have := sI_b (f := fun x => wk_e a x p) (n := q) (lo := 0) (hi := 5500000) hq.1 (fun x x0 x1 => by
    have b := wk_e_b hJ hT h0 (q := x) (p := p) ⟨x0, by omega⟩
    have c := (wk_v_b hJ hT h0 (p := x) ⟨x0, by omega⟩).1
    omega)
  unfold wk_Wq
  omega
theorem wk_pay {σ : zI} (hJ : Jv a) (hT : jv_T a) (h0 : a 0 ≤ 399) {m : Int} (hm : 0 ≤ m ∧ m < a 1) (h : wk_D a m) (py : PYk σ a) : σ 62 (m * 6 + wk_ls a m) = wk_pm a m := by
  have yb := wk_by_b hJ hT h0 hm h
  have ob := wk_ok_b hJ hT h0 hm h.1
  have e1 : wk_by a m = wk_bo a (wk_T a m) m := if_pos h
  have := py (wk_by a m) m yb.1.1 yb.1.2 hm.1 hm.2 (by rw [e1]; exact wk_T_m hJ hT h0 ⟨hm.1, by omega⟩ ob.1 ob.2.2.1) h.1.1
  rw [← yb.2.2.1]
  exact this
end CQ
-- method 123: MillTown$Week.weave(LMillTown$Town;II)I
theorem c_123_0 : pg_cd 123 0 = (5, 1, 0, 1, 0) := by decide +kernel
theorem c_123_1 : pg_cd 123 1 = (45, 8, 143, 5, 0) := by decide +kernel
theorem c_123_4 : pg_cd 123 4 = (3, 1, 0, 2, 0) := by decide +kernel
theorem c_123_5 : pg_cd 123 5 = (1, 1, 0, 0, 4) := by decide +kernel
theorem c_123_6 : pg_cd 123 6 = (80, 55, 118, 0, 0) := by decide +kernel
theorem c_123_9 : pg_cd 123 9 = (6, 2, 0, 4, 0) := by decide +kernel
theorem c_123_11 : pg_cd 123 11 = (5, 1, 0, 1, 0) := by decide +kernel
theorem c_123_12 : pg_cd 123 12 = (45, 8, 115, 2, 0) := by decide +kernel
theorem c_123_15 : pg_cd 123 15 = (3, 2, 0, 4, 0) := by decide +kernel
theorem c_123_17 : pg_cd 123 17 = (1, 2, 0, 0, 6) := by decide +kernel
theorem c_123_19 : pg_cd 123 19 = (80, 55, 118, 0, 0) := by decide +kernel
theorem c_123_22 : pg_cd 123 22 = (6, 2, 0, 5, 0) := by decide +kernel
theorem c_123_24 : pg_cd 123 24 = (5, 1, 0, 1, 0) := by decide +kernel
theorem c_123_25 : pg_cd 123 25 = (3, 2, 0, 5, 0) := by decide +kernel
theorem c_123_27 : pg_cd 123 27 = (80, 104, 207, 0, 0) := by decide +kernel
theorem c_123_30 : pg_cd 123 30 = (6, 2, 0, 6, 0) := by decide +kernel
theorem c_123_32 : pg_cd 123 32 = (5, 1, 0, 1, 0) := by decide +kernel
theorem c_123_33 : pg_cd 123 33 = (3, 1, 0, 2, 0) := by decide +kernel
theorem c_123_34 : pg_cd 123 34 = (3, 1, 0, 3, 0) := by decide +kernel
theorem c_123_35 : pg_cd 123 35 = (3, 2, 0, 5, 0) := by decide +kernel
theorem c_123_37 : pg_cd 123 37 = (80, 106, 197, 0, 0) := by decide +kernel
theorem c_123_40 : pg_cd 123 40 = (5, 1, 0, 1, 0) := by decide +kernel
theorem c_123_41 : pg_cd 123 41 = (45, 8, 115, 2, 0) := by decide +kernel
theorem c_123_44 : pg_cd 123 44 = (3, 2, 0, 4, 0) := by decide +kernel
theorem c_123_46 : pg_cd 123 46 = (1, 2, 0, 0, 12) := by decide +kernel
theorem c_123_48 : pg_cd 123 48 = (80, 55, 118, 0, 0) := by decide +kernel
theorem c_123_51 : pg_cd 123 51 = (74, 0, 182, 0, 0) := by decide +kernel
theorem c_123_54 : pg_cd 123 54 = (6, 2, 0, 7, 0) := by decide +kernel
theorem c_123_56 : pg_cd 123 56 = (5, 1, 0, 0, 0) := by decide +kernel
theorem c_123_57 : pg_cd 123 57 = (5, 1, 0, 1, 0) := by decide +kernel
theorem c_123_58 : pg_cd 123 58 = (3, 2, 0, 4, 0) := by decide +kernel
theorem c_123_60 : pg_cd 123 60 = (3, 2, 0, 7, 0) := by decide +kernel
theorem c_123_62 : pg_cd 123 62 = (5, 1, 0, 1, 0) := by decide +kernel
theorem c_123_63 : pg_cd 123 63 = (45, 8, 164, 0, 0) := by decide +kernel
theorem c_123_66 : pg_cd 123 66 = (3, 2, 0, 5, 0) := by decide +kernel
theorem c_123_68 : pg_cd 123 68 = (1, 1, 0, 0, 2) := by decide +kernel
theorem c_123_69 : pg_cd 123 69 = (80, 55, 118, 0, 0) := by decide +kernel
theorem c_123_72 : pg_cd 123 72 = (80, 124, 211, 0, 0) := by decide +kernel
theorem c_123_75 : pg_cd 123 75 = (6, 2, 0, 8, 0) := by decide +kernel
theorem c_123_77 : pg_cd 123 77 = (5, 1, 0, 1, 0) := by decide +kernel
theorem c_123_78 : pg_cd 123 78 = (45, 8, 143, 5, 0) := by decide +kernel
theorem c_123_81 : pg_cd 123 81 = (3, 1, 0, 2, 0) := by decide +kernel
theorem c_123_82 : pg_cd 123 82 = (1, 2, 0, 0, 7) := by decide +kernel
theorem c_123_84 : pg_cd 123 84 = (80, 55, 118, 0, 0) := by decide +kernel
theorem c_123_87 : pg_cd 123 87 = (5, 1, 0, 1, 0) := by decide +kernel
theorem c_123_88 : pg_cd 123 88 = (3, 1, 0, 2, 0) := by decide +kernel
theorem c_123_89 : pg_cd 123 89 = (3, 1, 0, 3, 0) := by decide +kernel
theorem c_123_90 : pg_cd 123 90 = (80, 105, 214, 0, 0) := by decide +kernel
theorem c_123_93 : pg_cd 123 93 = (10, 1, 0, 0, 0) := by decide +kernel
theorem c_123_94 : pg_cd 123 94 = (3, 2, 0, 8, 0) := by decide +kernel
theorem c_123_96 : pg_cd 123 96 = (3, 2, 0, 6, 0) := by decide +kernel
theorem c_123_98 : pg_cd 123 98 = (12, 1, 0, 0, 0) := by decide +kernel
theorem c_123_99 : pg_cd 123 99 = (11, 1, 0, 0, 0) := by decide +kernel
theorem c_123_100 : pg_cd 123 100 = (6, 2, 0, 9, 0) := by decide +kernel
theorem c_123_102 : pg_cd 123 102 = (5, 1, 0, 1, 0) := by decide +kernel
theorem c_123_103 : pg_cd 123 103 = (45, 8, 143, 5, 0) := by decide +kernel
theorem c_123_106 : pg_cd 123 106 = (3, 1, 0, 2, 0) := by decide +kernel
theorem c_123_107 : pg_cd 123 107 = (1, 2, 0, 0, 7) := by decide +kernel
theorem c_123_109 : pg_cd 123 109 = (3, 2, 0, 9, 0) := by decide +kernel
theorem c_123_111 : pg_cd 123 111 = (3, 2, 0, 6, 0) := by decide +kernel
theorem c_123_113 : pg_cd 123 113 = (1, 1, 0, 0, 1) := by decide +kernel
theorem c_123_114 : pg_cd 123 114 = (11, 1, 0, 0, 0) := by decide +kernel
theorem c_123_115 : pg_cd 123 115 = (74, 0, 182, 0, 0) := by decide +kernel
theorem c_123_118 : pg_cd 123 118 = (80, 56, 171, 0, 0) := by decide +kernel
theorem c_123_121 : pg_cd 123 121 = (5, 1, 0, 1, 0) := by decide +kernel
theorem c_123_122 : pg_cd 123 122 = (45, 8, 115, 2, 0) := by decide +kernel
theorem c_123_125 : pg_cd 123 125 = (3, 2, 0, 4, 0) := by decide +kernel
theorem c_123_127 : pg_cd 123 127 = (1, 2, 0, 0, 12) := by decide +kernel
theorem c_123_129 : pg_cd 123 129 = (3, 2, 0, 8, 0) := by decide +kernel
theorem c_123_131 : pg_cd 123 131 = (21, 1, 0, 0, 0) := by decide +kernel
theorem c_123_132 : pg_cd 123 132 = (80, 57, 190, 0, 0) := by decide +kernel
theorem c_123_135 : pg_cd 123 135 = (5, 1, 0, 1, 0) := by decide +kernel
theorem c_123_136 : pg_cd 123 136 = (45, 8, 115, 2, 0) := by decide +kernel
theorem c_123_139 : pg_cd 123 139 = (3, 2, 0, 4, 0) := by decide +kernel
theorem c_123_141 : pg_cd 123 141 = (1, 2, 0, 0, 9) := by decide +kernel
theorem c_123_143 : pg_cd 123 143 = (3, 2, 0, 8, 0) := by decide +kernel
theorem c_123_145 : pg_cd 123 145 = (80, 57, 190, 0, 0) := by decide +kernel
theorem c_123_148 : pg_cd 123 148 = (3, 2, 0, 8, 0) := by decide +kernel
theorem c_123_150 : pg_cd 123 150 = (90, 0, 0, 0, 0) := by decide +kernel
theorem mi_123 : pg_mc 123 = 9 ∧ pg_na 123 = 3 ∧ pg_mx 123 = 10 := by decide +kernel
set_option maxRecDepth 20000 in
theorem u_123_0 {d : Nat} {S : zS} {σ τ : zI} {Q : zQ} {x1 : Nat} {x2 : Int} {x3 : Int} (hx1 : tw x1) (t : (rg x2) ∧ ∃ a3 : Int → Int, ∃ PE4 : Int → Int → Int, ∃ MI5 : Int → Int → Int, ∃ TK6 : Int → Int, ∃ OD7 : Int → Int → Int, (CS σ x1 a3 PE4 MI5 TK6 OD7) ∧ (jv_K a3) ∧ (0 ≤ (rt_ (σ (x1 + 5) 2) (σ (x1 + 6)) 13 6 (rt_ (σ (x1 + 11) 2) (σ (x1 + 12)) 9 4 x2)) ∧ (rt_ (σ (x1 + 5) 2) (σ (x1 + 6)) 13 6 (rt_ (σ (x1 + 11) 2) (σ (x1 + 12)) 9 4 x2)) ≤ (5 : Int)) ∧ ∀ (v11 : Int), v11 = r_cost a3 (rt_ (σ (x1 + 5) 2) (σ (x1 + 6)) 13 6 (rt_ (σ (x1 + 11) 2) (σ (x1 + 12)) 9 4 x2)) → 2000 ≤ v11 ∧ v11 ≤ 228000 → ∃ a14 : Int → Int, ∃ PE15 : Int → Int → Int, ∃ MI16 : Int → Int → Int, ∃ TK17 : Int → Int, ∃ OD18 : Int → Int → Int, (CS σ x1 a14 PE15 MI16 TK17 OD18) ∧ (jv_K a14) ∧ (sP a14 PE15) ∧ (sM a14 MI16) ∧ (0 ≤ x2 ∧ x2 < a14 4 ∧ a14 4 ≤ 60) ∧ (0 ≤ a14 (3652 + 12 * x2 + 4) ∧ a14 (3652 + 12 * x2 + 4) < a14 1 ∧ a14 1 ≤ 8) ∧ (rg (PE15 x2 7 + r_pts a14 x2 x3)) ∧ ∀ (v26 : Int), v26 = (PE15 x2 7 + r_pts a14 x2 x3).tdiv (r_cost a14 (rt_ (σ (x1 + 5) 2) (σ (x1 + 6)) 13 6 (rt_ (σ (x1 + 11) 2) (σ (x1 + 12)) 9 4 x2))) → (rg v26) ∧ ∃ a29 : Int → Int, ∃ PE30 : Int → Int → Int, ∃ MI31 : Int → Int → Int, ∃ TK32 : Int → Int, ∃ OD33 : Int → Int → Int, ∃ ct34 : Int, (CS σ x1 a29 PE30 MI31 TK32 OD33) ∧ (0 ≤ (rt_ (σ (x1 + 11) 2) (σ (x1 + 12)) 9 4 x2) ∧ (rt_ (σ (x1 + 11) 2) (σ (x1 + 12)) 9 4 x2) < a29 1 ∧ a29 1 ≤ 8) ∧ (0 ≤ (min v26 (rt_ (σ (x1 + 5) 2) (σ (x1 + 6)) 13 12 (rt_ (σ (x1 + 11) 2) (σ (x1 + 12)) 9 4 x2))) ∧ (min v26 (rt_ (σ (x1 + 5) 2) (σ (x1 + 6)) 13 12 (rt_ (σ (x1 + 11) 2) (σ (x1 + 12)) 9 4 x2))) ≤ (500 : Int)) ∧ (1 ≤ (rt_ (σ (x1 + 1) 2) (σ (x1 + 2)) 6 2 (rt_ (σ (x1 + 5) 2) (σ (x1 + 6)) 13 6 (rt_ (σ (x1 + 11) 2) (σ (x1 + 12)) 9 4 x2))) ∧ (rt_ (σ (x1 + 1) 2) (σ (x1 + 2)) 6 2 (rt_ (σ (x1 + 5) 2) (σ (x1 + 6)) 13 6 (rt_ (σ (x1 + 11) 2) (σ (x1 + 12)) 9 4 x2))) ≤ (50 : Int)) ∧ (0 ≤ MI31 (rt_ (σ (x1 + 11) 2) (σ (x1 + 12)) 9 4 x2) 2 ∧ (0 ≤ MI31 (rt_ (σ (x1 + 11) 2) (σ (x1 + 12)) 9 4 x2) 4 ∧ MI31 (rt_ (σ (x1 + 11) 2) (σ (x1 + 12)) 9 4 x2) 4 ≤ 30000)) ∧ (σ 53 5 = ct34 ∧ 1 ≤ ct34 ∧ ct34 ≤ 100000) ∧ ∀ (σ141 : zI) (v42 : Int), (∀ c, c ≠ x1 + 6 → σ141 c = σ c) → CS σ141 x1 a29 PE30 (t2 (t2 MI31 (rt_ (σ (x1 + 11) 2) (σ (x1 + 12)) 9 4 x2) 2 (MI31 (rt_ (σ (x1 + 11) 2) (σ (x1 + 12)) 9 4 x2) 2 - wk_bt (MI31 (rt_ (σ (x1 + 11) 2) (σ (x1 + 12)) 9 4 x2) 4) (MI31 (rt_ (σ (x1 + 11) 2) (σ (x1 + 12)) 9 4 x2) 2) ((min v26 (rt_ (σ (x1 + 5) 2) (σ (x1 + 6)) 13 12 (rt_ (σ (x1 + 11) 2) (σ (x1 + 12)) 9 4 x2))) * (rt_ (σ (x1 + 1) 2) (σ (x1 + 2)) 6 2 (rt_ (σ (x1 + 5) 2) (σ (x1 + 6)) 13 6 (rt_ (σ (x1 + 11) 2) (σ (x1 + 12)) 9 4 x2)))) ct34 * ct34)) (rt_ (σ (x1 + 11) 2) (σ (x1 + 12)) 9 4 x2) 4 (MI31 (rt_ (σ (x1 + 11) 2) (σ (x1 + 12)) 9 4 x2) 4 + 360 * wk_bt (MI31 (rt_ (σ (x1 + 11) 2) (σ (x1 + 12)) 9 4 x2) 4) (MI31 (rt_ (σ (x1 + 11) 2) (σ (x1 + 12)) 9 4 x2) 2) ((min v26 (rt_ (σ (x1 + 5) 2) (σ (x1 + 6)) 13 12 (rt_ (σ (x1 + 11) 2) (σ (x1 + 12)) 9 4 x2))) * (rt_ (σ (x1 + 1) 2) (σ (x1 + 2)) 6 2 (rt_ (σ (x1 + 5) 2) (σ (x1 + 6)) 13 6 (rt_ (σ (x1 + 11) 2) (σ (x1 + 12)) 9 4 x2)))) ct34 - (if (MI31 (rt_ (σ (x1 + 11) 2) (σ (x1 + 12)) 9 4 x2) 4 + 360 * wk_bt (MI31 (rt_ (σ (x1 + 11) 2) (σ (x1 + 12)) 9 4 x2) 4) (MI31 (rt_ (σ (x1 + 11) 2) (σ (x1 + 12)) 9 4 x2) 2) ((min v26 (rt_ (σ (x1 + 5) 2) (σ (x1 + 6)) 13 12 (rt_ (σ (x1 + 11) 2) (σ (x1 + 12)) 9 4 x2))) * (rt_ (σ (x1 + 1) 2) (σ (x1 + 2)) 6 2 (rt_ (σ (x1 + 5) 2) (σ (x1 + 6)) 13 6 (rt_ (σ (x1 + 11) 2) (σ (x1 + 12)) 9 4 x2)))) ct34).tdiv (rt_ (σ (x1 + 1) 2) (σ (x1 + 2)) 6 2 (rt_ (σ (x1 + 5) 2) (σ (x1 + 6)) 13 6 (rt_ (σ (x1 + 11) 2) (σ (x1 + 12)) 9 4 x2))) < (min v26 (rt_ (σ (x1 + 5) 2) (σ (x1 + 6)) 13 12 (rt_ (σ (x1 + 11) 2) (σ (x1 + 12)) 9 4 x2))) then (MI31 (rt_ (σ (x1 + 11) 2) (σ (x1 + 12)) 9 4 x2) 4 + 360 * wk_bt (MI31 (rt_ (σ (x1 + 11) 2) (σ (x1 + 12)) 9 4 x2) 4) (MI31 (rt_ (σ (x1 + 11) 2) (σ (x1 + 12)) 9 4 x2) 2) ((min v26 (rt_ (σ (x1 + 5) 2) (σ (x1 + 6)) 13 12 (rt_ (σ (x1 + 11) 2) (σ (x1 + 12)) 9 4 x2))) * (rt_ (σ (x1 + 1) 2) (σ (x1 + 2)) 6 2 (rt_ (σ (x1 + 5) 2) (σ (x1 + 6)) 13 6 (rt_ (σ (x1 + 11) 2) (σ (x1 + 12)) 9 4 x2)))) ct34).tdiv (rt_ (σ (x1 + 1) 2) (σ (x1 + 2)) 6 2 (rt_ (σ (x1 + 5) 2) (σ (x1 + 6)) 13 6 (rt_ (σ (x1 + 11) 2) (σ (x1 + 12)) 9 4 x2))) else (min v26 (rt_ (σ (x1 + 5) 2) (σ (x1 + 6)) 13 12 (rt_ (σ (x1 + 11) 2) (σ (x1 + 12)) 9 4 x2)))) * (rt_ (σ (x1 + 1) 2) (σ (x1 + 2)) 6 2 (rt_ (σ (x1 + 5) 2) (σ (x1 + 6)) 13 6 (rt_ (σ (x1 + 11) 2) (σ (x1 + 12)) 9 4 x2))))) TK32 OD33 → v42 = (if (MI31 (rt_ (σ (x1 + 11) 2) (σ (x1 + 12)) 9 4 x2) 4 + 360 * wk_bt (MI31 (rt_ (σ (x1 + 11) 2) (σ (x1 + 12)) 9 4 x2) 4) (MI31 (rt_ (σ (x1 + 11) 2) (σ (x1 + 12)) 9 4 x2) 2) ((min v26 (rt_ (σ (x1 + 5) 2) (σ (x1 + 6)) 13 12 (rt_ (σ (x1 + 11) 2) (σ (x1 + 12)) 9 4 x2))) * (rt_ (σ (x1 + 1) 2) (σ (x1 + 2)) 6 2 (rt_ (σ (x1 + 5) 2) (σ (x1 + 6)) 13 6 (rt_ (σ (x1 + 11) 2) (σ (x1 + 12)) 9 4 x2)))) ct34).tdiv (rt_ (σ (x1 + 1) 2) (σ (x1 + 2)) 6 2 (rt_ (σ (x1 + 5) 2) (σ (x1 + 6)) 13 6 (rt_ (σ (x1 + 11) 2) (σ (x1 + 12)) 9 4 x2))) < (min v26 (rt_ (σ (x1 + 5) 2) (σ (x1 + 6)) 13 12 (rt_ (σ (x1 + 11) 2) (σ (x1 + 12)) 9 4 x2))) then (MI31 (rt_ (σ (x1 + 11) 2) (σ (x1 + 12)) 9 4 x2) 4 + 360 * wk_bt (MI31 (rt_ (σ (x1 + 11) 2) (σ (x1 + 12)) 9 4 x2) 4) (MI31 (rt_ (σ (x1 + 11) 2) (σ (x1 + 12)) 9 4 x2) 2) ((min v26 (rt_ (σ (x1 + 5) 2) (σ (x1 + 6)) 13 12 (rt_ (σ (x1 + 11) 2) (σ (x1 + 12)) 9 4 x2))) * (rt_ (σ (x1 + 1) 2) (σ (x1 + 2)) 6 2 (rt_ (σ (x1 + 5) 2) (σ (x1 + 6)) 13 6 (rt_ (σ (x1 + 11) 2) (σ (x1 + 12)) 9 4 x2)))) ct34).tdiv (rt_ (σ (x1 + 1) 2) (σ (x1 + 2)) 6 2 (rt_ (σ (x1 + 5) 2) (σ (x1 + 6)) 13 6 (rt_ (σ (x1 + 11) 2) (σ (x1 + 12)) 9 4 x2))) else (min v26 (rt_ (σ (x1 + 5) 2) (σ (x1 + 6)) 13 12 (rt_ (σ (x1 + 11) 2) (σ (x1 + 12)) 9 4 x2)))) → ∃ a47 : Int → Int, ∃ PE48 : Int → Int → Int, ∃ MI49 : Int → Int → Int, ∃ TK50 : Int → Int, ∃ OD51 : Int → Int → Int, (CS σ141 x1 a47 PE48 MI49 TK50 OD51) ∧ (sP a47 PE48) ∧ (sM a47 MI49) ∧ (0 ≤ x2 ∧ x2 < a47 4 ∧ a47 4 ≤ 60) ∧ (0 ≤ a47 (3652 + 12 * x2 + 4) ∧ a47 (3652 + 12 * x2 + 4) < a47 1 ∧ a47 1 ≤ 8) ∧ ∀ (v57 : Int), v57 = r_pts a47 x2 x3 → (rg (((rt_ (σ141 (x1 + 11) 2) (σ141 (x1 + 12)) 9 7 x2) + v57) - (v42 * v11))) ∧ (rg (v11 - 1)) ∧ (0 ≤ x2 ∧ x2 < (σ141 (x1 + 11) 2)) ∧ (0 ≤ rt_ (σ (x1 + 11) 2) (σ (x1 + 12)) 9 4 x2 ∧ rt_ (σ (x1 + 11) 2) (σ (x1 + 12)) 9 4 x2 < (σ141 (x1 + 5) 2)) ∧ ∃ w64 : Int, wI w64 = wI ((σ141 (x1 + 6) ((rt_ (σ (x1 + 11) 2) (σ (x1 + 12)) 9 4 x2) * 13 + 12)) + (-v42)) ∧ rg w64 ∧ (((rt_ (σ (x1 + 11) 2) (σ (x1 + 12)) 9 4 x2) * 13 + 9) ≠ ((rt_ (σ (x1 + 11) 2) (σ (x1 + 12)) 9 4 x2) * 13 + 12)) ∧ ∃ w69 : Int, wI w69 = wI ((σ141 (x1 + 6) ((rt_ (σ (x1 + 11) 2) (σ (x1 + 12)) 9 4 x2) * 13 + 9)) + v42) ∧ rg w69 ∧ Q (some (.int (wI v42))) S (uc (uc σ141 (x1 + 12) (u1 (σ141 (x1 + 12)) (x2 * 9 + 7) (min (((rt_ (σ141 (x1 + 11) 2) (σ141 (x1 + 12)) 9 7 x2) + v57) - (v42 * v11)) (v11 - 1)))) (x1 + 6) (u1 (u1 (σ141 (x1 + 6)) ((rt_ (σ (x1 + 11) 2) (σ (x1 + 12)) 9 4 x2) * 13 + 12) w64) ((rt_ (σ (x1 + 11) 2) (σ (x1 + 12)) 9 4 x2) * 13 + 9) w69)) τ) : wi (d + 9) 123 0 [.ref 53, .ref x1, .int (wI x2), .int (wI x3), .retAddr 0, .retAddr 0, .retAddr 0, .retAddr 0, .retAddr 0, .retAddr 0] [] S σ τ Q := by
  obtain ⟨r1, t⟩ := t
  refine i5 c_123_0 rfl (i45 c_123_1 (lo (lyt_0 hx1) (by have := tw_b hx1; omega)) (lro (lrt_5 hx1)) (i3 c_123_4 rfl (i1 c_123_5 (wi_ok (fun K2 => ?_)))))
  refine i80 (As := [.int (wI x2), .int (wI 4)]) (rest := []) c_123_6 mi_55 rfl rfl (Nat.le_of_ble_eq_true rfl) (Nat.le_of_ble_eq_true rfl) (lo (lyt_11 hx1) (by have := tw_b hx1; omega)) (q_at (ow_persons hx1) r1 (by decide) ?_)
  show wi (d + 9) 123 9 [.ref 53, .ref x1, .int (wI x2), .int (wI x3), .retAddr 0, .retAddr 0, .retAddr 0, .retAddr 0, .retAddr 0, .retAddr 0] [.int (wI (rt_ (σ (x1 + 11) 2) (σ (x1 + 12)) 9 4 x2))] S σ τ Q
  refine i6 (L' := [.ref 53, .ref x1, .int (wI x2), .int (wI x3), .int (wI (rt_ (σ (x1 + 11) 2) (σ (x1 + 12)) 9 4 x2)), .retAddr 0, .retAddr 0, .retAddr 0, .retAddr 0, .retAddr 0]) c_123_9 rfl (i5 c_123_11 rfl (i45 c_123_12 (lo (lyt_0 hx1) (by have := tw_b hx1; omega)) (lro (lrt_2 hx1)) (i3 c_123_15 rfl (i1 c_123_17 ?_))))
  refine i80 (As := [.int (wI (rt_ (σ (x1 + 11) 2) (σ (x1 + 12)) 9 4 x2)), .int (wI 6)]) (rest := []) c_123_19 mi_55 rfl rfl (Nat.le_of_ble_eq_true rfl) (Nat.le_of_ble_eq_true rfl) (lo (lyt_5 hx1) (by have := tw_b hx1; omega)) (q_at (ow_mills hx1) (rg_rt_ (fun k => kO_r K2 _ k) _ _ _ _) (by decide) ?_)
  show wi (d + 9) 123 22 [.ref 53, .ref x1, .int (wI x2), .int (wI x3), .int (wI (rt_ (σ (x1 + 11) 2) (σ (x1 + 12)) 9 4 x2)), .retAddr 0, .retAddr 0, .retAddr 0, .retAddr 0, .retAddr 0] [.int (wI (rt_ (σ (x1 + 5) 2) (σ (x1 + 6)) 13 6 (rt_ (σ (x1 + 11) 2) (σ (x1 + 12)) 9 4 x2)))] S σ τ Q
  obtain ⟨a3, t⟩ := t
  obtain ⟨PE4, t⟩ := t
  obtain ⟨MI5, t⟩ := t
  obtain ⟨TK6, t⟩ := t
  obtain ⟨OD7, t⟩ := t
  obtain ⟨p8, t⟩ := t
  obtain ⟨p9, t⟩ := t
  obtain ⟨p10, t⟩ := t
  refine i6 (L' := [.ref 53, .ref x1, .int (wI x2), .int (wI x3), .int (wI (rt_ (σ (x1 + 11) 2) (σ (x1 + 12)) 9 4 x2)), .int (wI (rt_ (σ (x1 + 5) 2) (σ (x1 + 6)) 13 6 (rt_ (σ (x1 + 11) 2) (σ (x1 + 12)) 9 4 x2))), .retAddr 0, .retAddr 0, .retAddr 0, .retAddr 0]) c_123_22 rfl (i5 c_123_24 rfl (i3 c_123_25 rfl ?_))
  refine i80 (As := [.int (wI (rt_ (σ (x1 + 5) 2) (σ (x1 + 6)) 13 6 (rt_ (σ (x1 + 11) 2) (σ (x1 + 12)) 9 4 x2)))]) (rest := []) c_123_27 mi_104 rfl rfl (Nat.le_of_ble_eq_true rfl) (Nat.le_of_ble_eq_true rfl) (lo (lyt_0 hx1) (by have := tw_b hx1; omega)) (q_104c (a := a3) (PE := PE4) (MI := MI5) (TK := TK6) (OD := OD7) hx1 p8 p9 p10 (fun v11 q12 q13 => ?_))
  have t := t v11 q12 q13
  show wi (d + 9) 123 30 [.ref 53, .ref x1, .int (wI x2), .int (wI x3), .int (wI (rt_ (σ (x1 + 11) 2) (σ (x1 + 12)) 9 4 x2)), .int (wI (rt_ (σ (x1 + 5) 2) (σ (x1 + 6)) 13 6 (rt_ (σ (x1 + 11) 2) (σ (x1 + 12)) 9 4 x2))), .retAddr 0, .retAddr 0, .retAddr 0, .retAddr 0] [.int (wI v11)] S σ τ Q
  obtain ⟨a14, t⟩ := t
  obtain ⟨PE15, t⟩ := t
  obtain ⟨MI16, t⟩ := t
  obtain ⟨TK17, t⟩ := t
  obtain ⟨OD18, t⟩ := t
  obtain ⟨p19, t⟩ := t
  obtain ⟨p20, t⟩ := t
  obtain ⟨p21, t⟩ := t
  obtain ⟨p22, t⟩ := t
  obtain ⟨p23, t⟩ := t
  obtain ⟨p24, t⟩ := t
  obtain ⟨p25, t⟩ := t
  refine i6 (L' := [.ref 53, .ref x1, .int (wI x2), .int (wI x3), .int (wI (rt_ (σ (x1 + 11) 2) (σ (x1 + 12)) 9 4 x2)), .int (wI (rt_ (σ (x1 + 5) 2) (σ (x1 + 6)) 13 6 (rt_ (σ (x1 + 11) 2) (σ (x1 + 12)) 9 4 x2))), .int (wI v11), .retAddr 0, .retAddr 0, .retAddr 0]) c_123_30 rfl (i5 c_123_32 rfl (i3 c_123_33 rfl (i3 c_123_34 rfl (i3 c_123_35 rfl ?_))))
  refine i80 (As := [.int (wI x2), .int (wI x3), .int (wI (rt_ (σ (x1 + 5) 2) (σ (x1 + 6)) 13 6 (rt_ (σ (x1 + 11) 2) (σ (x1 + 12)) 9 4 x2)))]) (rest := []) c_123_37 mi_106 rfl rfl (Nat.le_of_ble_eq_true rfl) (Nat.le_of_ble_eq_true rfl) (lo (lyt_0 hx1) (by have := tw_b hx1; omega)) (q_106c (a := a14) (PE := PE15) (MI := MI16) (TK := TK17) (OD := OD18) hx1 p19 p20 p21 p22 p23 p24 p10 p25 (fun v26 q27 => ?_))
  have t := t v26 q27
  show wi (d + 9) 123 40 [.ref 53, .ref x1, .int (wI x2), .int (wI x3), .int (wI (rt_ (σ (x1 + 11) 2) (σ (x1 + 12)) 9 4 x2)), .int (wI (rt_ (σ (x1 + 5) 2) (σ (x1 + 6)) 13 6 (rt_ (σ (x1 + 11) 2) (σ (x1 + 12)) 9 4 x2))), .int (wI v11), .retAddr 0, .retAddr 0, .retAddr 0] [.int (wI v26)] S σ τ Q
  refine i5 c_123_40 rfl (i45 c_123_41 (lo (lyt_0 hx1) (by have := tw_b hx1; omega)) (lro (lrt_2 hx1)) (i3 c_123_44 rfl (i1 c_123_46 ?_)))
  refine i80 (As := [.int (wI (rt_ (σ (x1 + 11) 2) (σ (x1 + 12)) 9 4 x2)), .int (wI 12)]) (rest := [.int (wI v26)]) c_123_48 mi_55 rfl rfl (Nat.le_of_ble_eq_true rfl) (Nat.le_of_ble_eq_true rfl) (lo (lyt_5 hx1) (by have := tw_b hx1; omega)) (q_at (ow_mills hx1) (rg_rt_ (fun k => kO_r K2 _ k) _ _ _ _) (by decide) ?_)
  show wi (d + 9) 123 51 [.ref 53, .ref x1, .int (wI x2), .int (wI x3), .int (wI (rt_ (σ (x1 + 11) 2) (σ (x1 + 12)) 9 4 x2)), .int (wI (rt_ (σ (x1 + 5) 2) (σ (x1 + 6)) 13 6 (rt_ (σ (x1 + 11) 2) (σ (x1 + 12)) 9 4 x2))), .int (wI v11), .retAddr 0, .retAddr 0, .retAddr 0] [.int (wI (rt_ (σ (x1 + 5) 2) (σ (x1 + 6)) 13 12 (rt_ (σ (x1 + 11) 2) (σ (x1 + 12)) 9 4 x2))), .int (wI v26)] S σ τ Q
  obtain ⟨r28, t⟩ := t
  refine i74 c_123_51 (Nat.le_of_ble_eq_true rfl) (by omega) r28 (rg_rt_ (fun k => kO_r K2 _ k) _ _ _ _) (i6 (L' := [.ref 53, .ref x1, .int (wI x2), .int (wI x3), .int (wI (rt_ (σ (x1 + 11) 2) (σ (x1 + 12)) 9 4 x2)), .int (wI (rt_ (σ (x1 + 5) 2) (σ (x1 + 6)) 13 6 (rt_ (σ (x1 + 11) 2) (σ (x1 + 12)) 9 4 x2))), .int (wI v11), .int (wI (min v26 (rt_ (σ (x1 + 5) 2) (σ (x1 + 6)) 13 12 (rt_ (σ (x1 + 11) 2) (σ (x1 + 12)) 9 4 x2)))), .retAddr 0, .retAddr 0]) c_123_54 rfl (i5 c_123_56 rfl (i5 c_123_57 rfl (i3 c_123_58 rfl (i3 c_123_60 rfl (i5 c_123_62 rfl (i45 c_123_63 (lo (lyt_0 hx1) (by have := tw_b hx1; omega)) (lro (lrt_0 hx1)) (i3 c_123_66 rfl (i1 c_123_68 ?_)))))))))
  refine i80 (As := [.int (wI (rt_ (σ (x1 + 5) 2) (σ (x1 + 6)) 13 6 (rt_ (σ (x1 + 11) 2) (σ (x1 + 12)) 9 4 x2))), .int (wI 2)]) (rest := [.int (wI (min v26 (rt_ (σ (x1 + 5) 2) (σ (x1 + 6)) 13 12 (rt_ (σ (x1 + 11) 2) (σ (x1 + 12)) 9 4 x2)))), .int (wI (rt_ (σ (x1 + 11) 2) (σ (x1 + 12)) 9 4 x2)), .ref x1, .ref 53]) c_123_69 mi_55 rfl rfl (Nat.le_of_ble_eq_true rfl) (Nat.le_of_ble_eq_true rfl) (lo (lyt_1 hx1) (by have := tw_b hx1; omega)) (q_at (ow_kinds hx1) (rg_rt_ (fun k => kO_r K2 _ k) _ _ _ _) (by decide) ?_)
  show wi (d + 9) 123 72 [.ref 53, .ref x1, .int (wI x2), .int (wI x3), .int (wI (rt_ (σ (x1 + 11) 2) (σ (x1 + 12)) 9 4 x2)), .int (wI (rt_ (σ (x1 + 5) 2) (σ (x1 + 6)) 13 6 (rt_ (σ (x1 + 11) 2) (σ (x1 + 12)) 9 4 x2))), .int (wI v11), .int (wI (min v26 (rt_ (σ (x1 + 5) 2) (σ (x1 + 6)) 13 12 (rt_ (σ (x1 + 11) 2) (σ (x1 + 12)) 9 4 x2)))), .retAddr 0, .retAddr 0] [.int (wI (rt_ (σ (x1 + 1) 2) (σ (x1 + 2)) 6 2 (rt_ (σ (x1 + 5) 2) (σ (x1 + 6)) 13 6 (rt_ (σ (x1 + 11) 2) (σ (x1 + 12)) 9 4 x2)))), .int (wI (min v26 (rt_ (σ (x1 + 5) 2) (σ (x1 + 6)) 13 12 (rt_ (σ (x1 + 11) 2) (σ (x1 + 12)) 9 4 x2)))), .int (wI (rt_ (σ (x1 + 11) 2) (σ (x1 + 12)) 9 4 x2)), .ref x1, .ref 53] S σ τ Q
  obtain ⟨a29, t⟩ := t
  obtain ⟨PE30, t⟩ := t
  obtain ⟨MI31, t⟩ := t
  obtain ⟨TK32, t⟩ := t
  obtain ⟨OD33, t⟩ := t
  obtain ⟨ct34, t⟩ := t
  obtain ⟨p35, t⟩ := t
  obtain ⟨p36, t⟩ := t
  obtain ⟨p37, t⟩ := t
  obtain ⟨p38, t⟩ := t
  obtain ⟨p39, t⟩ := t
  obtain ⟨p40, t⟩ := t
  refine i80 (As := [.ref x1, .int (wI (rt_ (σ (x1 + 11) 2) (σ (x1 + 12)) 9 4 x2)), .int (wI (min v26 (rt_ (σ (x1 + 5) 2) (σ (x1 + 6)) 13 12 (rt_ (σ (x1 + 11) 2) (σ (x1 + 12)) 9 4 x2)))), .int (wI (rt_ (σ (x1 + 1) 2) (σ (x1 + 2)) 6 2 (rt_ (σ (x1 + 5) 2) (σ (x1 + 6)) 13 6 (rt_ (σ (x1 + 11) 2) (σ (x1 + 12)) 9 4 x2))))]) (rest := []) c_123_72 mi_124 rfl rfl (Nat.le_of_ble_eq_true rfl) (Nat.le_of_ble_eq_true rfl) (lo (c := 53) (kd := 109) (n := 0) rfl (by decide)) (q_124 (a := a29) (PE := PE30) (MI := MI31) (TK := TK32) (OD := OD33) (ct := ct34) hx1 p35 p36 p37 p38 p39 p40 (fun σ141 v42 q43 q44 q45 => ?_))
  have t := t σ141 v42 q43 q44 q45
  show wi (d + 9) 123 75 [.ref 53, .ref x1, .int (wI x2), .int (wI x3), .int (wI (rt_ (σ (x1 + 11) 2) (σ (x1 + 12)) 9 4 x2)), .int (wI (rt_ (σ (x1 + 5) 2) (σ (x1 + 6)) 13 6 (rt_ (σ (x1 + 11) 2) (σ (x1 + 12)) 9 4 x2))), .int (wI v11), .int (wI (min v26 (rt_ (σ (x1 + 5) 2) (σ (x1 + 6)) 13 12 (rt_ (σ (x1 + 11) 2) (σ (x1 + 12)) 9 4 x2)))), .retAddr 0, .retAddr 0] [.int (wI v42)] S σ141 τ Q
  refine i6 (L' := [.ref 53, .ref x1, .int (wI x2), .int (wI x3), .int (wI (rt_ (σ (x1 + 11) 2) (σ (x1 + 12)) 9 4 x2)), .int (wI (rt_ (σ (x1 + 5) 2) (σ (x1 + 6)) 13 6 (rt_ (σ (x1 + 11) 2) (σ (x1 + 12)) 9 4 x2))), .int (wI v11), .int (wI (min v26 (rt_ (σ (x1 + 5) 2) (σ (x1 + 6)) 13 12 (rt_ (σ (x1 + 11) 2) (σ (x1 + 12)) 9 4 x2)))), .int (wI v42), .retAddr 0]) c_123_75 rfl (i5 c_123_77 rfl (i45 c_123_78 (lo (lyt_0 hx1) (by have := tw_b hx1; omega)) (lro (lrt_5 hx1)) (i3 c_123_81 rfl (i1 c_123_82 (wi_ok (fun K46 => ?_))))))
  refine i80 (As := [.int (wI x2), .int (wI 7)]) (rest := []) c_123_84 mi_55 rfl rfl (Nat.le_of_ble_eq_true rfl) (Nat.le_of_ble_eq_true rfl) (lo (lyt_11 hx1) (by have := tw_b hx1; omega)) (q_at (ow_persons hx1) r1 (by decide) ?_)
  show wi (d + 9) 123 87 [.ref 53, .ref x1, .int (wI x2), .int (wI x3), .int (wI (rt_ (σ (x1 + 11) 2) (σ (x1 + 12)) 9 4 x2)), .int (wI (rt_ (σ (x1 + 5) 2) (σ (x1 + 6)) 13 6 (rt_ (σ (x1 + 11) 2) (σ (x1 + 12)) 9 4 x2))), .int (wI v11), .int (wI (min v26 (rt_ (σ (x1 + 5) 2) (σ (x1 + 6)) 13 12 (rt_ (σ (x1 + 11) 2) (σ (x1 + 12)) 9 4 x2)))), .int (wI v42), .retAddr 0] [.int (wI (rt_ (σ141 (x1 + 11) 2) (σ141 (x1 + 12)) 9 7 x2))] S σ141 τ Q
  obtain ⟨a47, t⟩ := t
  obtain ⟨PE48, t⟩ := t
  obtain ⟨MI49, t⟩ := t
  obtain ⟨TK50, t⟩ := t
  obtain ⟨OD51, t⟩ := t
  obtain ⟨p52, t⟩ := t
  obtain ⟨p53, t⟩ := t
  obtain ⟨p54, t⟩ := t
  obtain ⟨p55, t⟩ := t
  obtain ⟨p56, t⟩ := t
  refine i5 c_123_87 rfl (i3 c_123_88 rfl (i3 c_123_89 rfl ?_))
  refine i80 (As := [.int (wI x2), .int (wI x3)]) (rest := [.int (wI (rt_ (σ141 (x1 + 11) 2) (σ141 (x1 + 12)) 9 7 x2))]) c_123_90 mi_105 rfl rfl (Nat.le_of_ble_eq_true rfl) (Nat.le_of_ble_eq_true rfl) (lo (lyt_0 hx1) (by have := tw_b hx1; omega)) (q_105c (a := a47) (PE := PE48) (MI := MI49) (TK := TK50) (OD := OD51) hx1 p52 p53 p54 p55 p56 (fun v57 q58 => ?_))
  have t := t v57 q58
  show wi (d + 9) 123 93 [.ref 53, .ref x1, .int (wI x2), .int (wI x3), .int (wI (rt_ (σ (x1 + 11) 2) (σ (x1 + 12)) 9 4 x2)), .int (wI (rt_ (σ (x1 + 5) 2) (σ (x1 + 6)) 13 6 (rt_ (σ (x1 + 11) 2) (σ (x1 + 12)) 9 4 x2))), .int (wI v11), .int (wI (min v26 (rt_ (σ (x1 + 5) 2) (σ (x1 + 6)) 13 12 (rt_ (σ (x1 + 11) 2) (σ (x1 + 12)) 9 4 x2)))), .int (wI v42), .retAddr 0] [.int (wI v57), .int (wI (rt_ (σ141 (x1 + 11) 2) (σ141 (x1 + 12)) 9 7 x2))] S σ141 τ Q
  obtain ⟨r59, t⟩ := t
  obtain ⟨r60, t⟩ := t
  obtain ⟨b61, t⟩ := t
  refine i10 c_123_93 (i3 c_123_94 rfl (i3 c_123_96 rfl (i12 c_123_98 (i11 c_123_99 (i6 (L' := [.ref 53, .ref x1, .int (wI x2), .int (wI x3), .int (wI (rt_ (σ (x1 + 11) 2) (σ (x1 + 12)) 9 4 x2)), .int (wI (rt_ (σ (x1 + 5) 2) (σ (x1 + 6)) 13 6 (rt_ (σ (x1 + 11) 2) (σ (x1 + 12)) 9 4 x2))), .int (wI v11), .int (wI (min v26 (rt_ (σ (x1 + 5) 2) (σ (x1 + 6)) 13 12 (rt_ (σ (x1 + 11) 2) (σ (x1 + 12)) 9 4 x2)))), .int (wI v42), .int (wI (((rt_ (σ141 (x1 + 11) 2) (σ141 (x1 + 12)) 9 7 x2) + v57) - (v42 * v11)))]) c_123_100 rfl (i5 c_123_102 rfl (i45 c_123_103 (lo (lyt_0 hx1) (by have := tw_b hx1; omega)) (lro (lrt_5 hx1)) (i3 c_123_106 rfl (i1 c_123_107 (i3 c_123_109 rfl (i3 c_123_111 rfl (i1 c_123_113 (i11 c_123_114 (i74 c_123_115 (Nat.le_of_ble_eq_true rfl) (by omega) r59 r60 ?_))))))))))))))
  refine i80 (As := [.int (wI x2), .int (wI 7), .int (wI (min (((rt_ (σ141 (x1 + 11) 2) (σ141 (x1 + 12)) 9 7 x2) + v57) - (v42 * v11)) (v11 - 1)))]) (rest := []) c_123_118 mi_56 rfl rfl (Nat.le_of_ble_eq_true rfl) (Nat.le_of_ble_eq_true rfl) (lo (lyt_11 hx1) (by have := tw_b hx1; omega)) (q_put (v2 := min (((rt_ (σ141 (x1 + 11) 2) (σ141 (x1 + 12)) 9 7 x2) + v57) - (v42 * v11)) (v11 - 1)) (ow_persons hx1) r1 b61 (by decide) rfl (min_i r59 r60) ?_)
  show wi (d + 9) 123 121 [.ref 53, .ref x1, .int (wI x2), .int (wI x3), .int (wI (rt_ (σ (x1 + 11) 2) (σ (x1 + 12)) 9 4 x2)), .int (wI (rt_ (σ (x1 + 5) 2) (σ (x1 + 6)) 13 6 (rt_ (σ (x1 + 11) 2) (σ (x1 + 12)) 9 4 x2))), .int (wI v11), .int (wI (min v26 (rt_ (σ (x1 + 5) 2) (σ (x1 + 6)) 13 12 (rt_ (σ (x1 + 11) 2) (σ (x1 + 12)) 9 4 x2)))), .int (wI v42), .int (wI (((rt_ (σ141 (x1 + 11) 2) (σ141 (x1 + 12)) 9 7 x2) + v57) - (v42 * v11)))] [] S (uc σ141 (x1 + 12) (u1 (σ141 (x1 + 12)) (x2 * 9 + 7) (min (((rt_ (σ141 (x1 + 11) 2) (σ141 (x1 + 12)) 9 7 x2) + v57) - (v42 * v11)) (v11 - 1)))) τ Q
  obtain ⟨b62, t⟩ := t
  refine i5 c_123_121 rfl (i45 c_123_122 (lo (lyt_0 hx1) (by have := tw_b hx1; omega)) (lro (lrt_2 hx1)) (i3 c_123_125 rfl (i1 c_123_127 (i3 c_123_129 rfl (i21 c_123_131 (wi_ok (fun K63 => ?_)))))))
  obtain ⟨w64, e65, r66, t⟩ := t
  refine i80 (As := [.int (wI (rt_ (σ (x1 + 11) 2) (σ (x1 + 12)) 9 4 x2)), .int (wI 12), .int (wI (-v42))]) (rest := []) c_123_132 mi_57 rfl rfl (Nat.le_of_ble_eq_true rfl) (Nat.le_of_ble_eq_true rfl) (lo (lyt_5 hx1) (by have := tw_b hx1; omega)) (q_raise (v2 := w64) (ow_mills hx1) (rg_rt_ (fun k => kO_r K2 _ k) _ _ _ _) (show 0 ≤ rt_ (σ (x1 + 11) 2) (σ (x1 + 12)) 9 4 x2 ∧ rt_ (σ (x1 + 11) 2) (σ (x1 + 12)) 9 4 x2 < (uc σ141 (x1 + 12) (u1 (σ141 (x1 + 12)) (x2 * 9 + 7) (min (((rt_ (σ141 (x1 + 11) 2) (σ141 (x1 + 12)) 9 7 x2) + v57) - (v42 * v11)) (v11 - 1)))) (x1 + 5) 2 by rw [(congrFun (uc_ns rfl (by have := tw_b hx1; have := tw_b hx1; omega)) _)]; exact b62) (by decide) (Eq.trans (show wI w64 = wI ((σ141 (x1 + 6) ((rt_ (σ (x1 + 11) 2) (σ (x1 + 12)) 9 4 x2) * 13 + 12)) + (-v42)) from e65) (congrArg (fun q => wI (q + (-v42))) (Eq.symm (congrFun (uc_ns rfl (by have := tw_b hx1; have := tw_b hx1; omega)) _)))) r66 ?_)
  show wi (d + 9) 123 135 [.ref 53, .ref x1, .int (wI x2), .int (wI x3), .int (wI (rt_ (σ (x1 + 11) 2) (σ (x1 + 12)) 9 4 x2)), .int (wI (rt_ (σ (x1 + 5) 2) (σ (x1 + 6)) 13 6 (rt_ (σ (x1 + 11) 2) (σ (x1 + 12)) 9 4 x2))), .int (wI v11), .int (wI (min v26 (rt_ (σ (x1 + 5) 2) (σ (x1 + 6)) 13 12 (rt_ (σ (x1 + 11) 2) (σ (x1 + 12)) 9 4 x2)))), .int (wI v42), .int (wI (((rt_ (σ141 (x1 + 11) 2) (σ141 (x1 + 12)) 9 7 x2) + v57) - (v42 * v11)))] [] S (uc (uc σ141 (x1 + 12) (u1 (σ141 (x1 + 12)) (x2 * 9 + 7) (min (((rt_ (σ141 (x1 + 11) 2) (σ141 (x1 + 12)) 9 7 x2) + v57) - (v42 * v11)) (v11 - 1)))) (x1 + 6) (u1 ((uc σ141 (x1 + 12) (u1 (σ141 (x1 + 12)) (x2 * 9 + 7) (min (((rt_ (σ141 (x1 + 11) 2) (σ141 (x1 + 12)) 9 7 x2) + v57) - (v42 * v11)) (v11 - 1)))) (x1 + 6)) ((rt_ (σ (x1 + 11) 2) (σ (x1 + 12)) 9 4 x2) * 13 + 12) w64)) τ Q
  obtain ⟨n67, t⟩ := t
  refine wi_s (σ1 := uc (uc σ141 (x1 + 12) (u1 (σ141 (x1 + 12)) (x2 * 9 + 7) (min (((rt_ (σ141 (x1 + 11) 2) (σ141 (x1 + 12)) 9 7 x2) + v57) - (v42 * v11)) (v11 - 1)))) (x1 + 6) (u1 (σ141 (x1 + 6)) ((rt_ (σ (x1 + 11) 2) (σ (x1 + 12)) 9 4 x2) * 13 + 12) w64)) (wr_ (uc_ns rfl (by have := tw_b hx1; have := tw_b hx1; omega)) rfl) (i5 c_123_135 rfl (i45 c_123_136 (lo (lyt_0 hx1) (by have := tw_b hx1; omega)) (lro (lrt_2 hx1)) (i3 c_123_139 rfl (i1 c_123_141 (i3 c_123_143 rfl (wi_ok (fun K68 => ?_)))))))
  obtain ⟨w69, e70, r71, t⟩ := t
  refine i80 (As := [.int (wI (rt_ (σ (x1 + 11) 2) (σ (x1 + 12)) 9 4 x2)), .int (wI 9), .int (wI v42)]) (rest := []) c_123_145 mi_57 rfl rfl (Nat.le_of_ble_eq_true rfl) (Nat.le_of_ble_eq_true rfl) (lo (lyt_5 hx1) (by have := tw_b hx1; omega)) (q_raise (v2 := w69) (ow_mills hx1) (rg_rt_ (fun k => kO_r K2 _ k) _ _ _ _) (show 0 ≤ rt_ (σ (x1 + 11) 2) (σ (x1 + 12)) 9 4 x2 ∧ rt_ (σ (x1 + 11) 2) (σ (x1 + 12)) 9 4 x2 < (uc (uc σ141 (x1 + 12) (u1 (σ141 (x1 + 12)) (x2 * 9 + 7) (min (((rt_ (σ141 (x1 + 11) 2) (σ141 (x1 + 12)) 9 7 x2) + v57) - (v42 * v11)) (v11 - 1)))) (x1 + 6) (u1 (σ141 (x1 + 6)) ((rt_ (σ (x1 + 11) 2) (σ (x1 + 12)) 9 4 x2) * 13 + 12) w64)) (x1 + 5) 2 by rw [(congrFun (uc_ns (uc_ns rfl (by have := tw_b hx1; have := tw_b hx1; omega)) (by have := tw_b hx1; have := tw_b hx1; omega)) _)]; exact b62) (by decide) (Eq.trans (show wI w69 = wI ((σ141 (x1 + 6) ((rt_ (σ (x1 + 11) 2) (σ (x1 + 12)) 9 4 x2) * 13 + 9)) + v42) from e70) (congrArg (fun q => wI (q + v42)) (Eq.symm ((congrFun (uc_s _ _ _) _).trans (u1_n n67))))) r71 ?_)
  show wi (d + 9) 123 148 [.ref 53, .ref x1, .int (wI x2), .int (wI x3), .int (wI (rt_ (σ (x1 + 11) 2) (σ (x1 + 12)) 9 4 x2)), .int (wI (rt_ (σ (x1 + 5) 2) (σ (x1 + 6)) 13 6 (rt_ (σ (x1 + 11) 2) (σ (x1 + 12)) 9 4 x2))), .int (wI v11), .int (wI (min v26 (rt_ (σ (x1 + 5) 2) (σ (x1 + 6)) 13 12 (rt_ (σ (x1 + 11) 2) (σ (x1 + 12)) 9 4 x2)))), .int (wI v42), .int (wI (((rt_ (σ141 (x1 + 11) 2) (σ141 (x1 + 12)) 9 7 x2) + v57) - (v42 * v11)))] [] S (uc (uc (uc σ141 (x1 + 12) (u1 (σ141 (x1 + 12)) (x2 * 9 + 7) (min (((rt_ (σ141 (x1 + 11) 2) (σ141 (x1 + 12)) 9 7 x2) + v57) - (v42 * v11)) (v11 - 1)))) (x1 + 6) (u1 (σ141 (x1 + 6)) ((rt_ (σ (x1 + 11) 2) (σ (x1 + 12)) 9 4 x2) * 13 + 12) w64)) (x1 + 6) (u1 ((uc (uc σ141 (x1 + 12) (u1 (σ141 (x1 + 12)) (x2 * 9 + 7) (min (((rt_ (σ141 (x1 + 11) 2) (σ141 (x1 + 12)) 9 7 x2) + v57) - (v42 * v11)) (v11 - 1)))) (x1 + 6) (u1 (σ141 (x1 + 6)) ((rt_ (σ (x1 + 11) 2) (σ (x1 + 12)) 9 4 x2) * 13 + 12) w64)) (x1 + 6)) ((rt_ (σ (x1 + 11) 2) (σ (x1 + 12)) 9 4 x2) * 13 + 9) w69)) τ Q
  refine wi_s (σ1 := uc (uc σ141 (x1 + 12) (u1 (σ141 (x1 + 12)) (x2 * 9 + 7) (min (((rt_ (σ141 (x1 + 11) 2) (σ141 (x1 + 12)) 9 7 x2) + v57) - (v42 * v11)) (v11 - 1)))) (x1 + 6) (u1 (u1 (σ141 (x1 + 6)) ((rt_ (σ (x1 + 11) 2) (σ (x1 + 12)) 9 4 x2) * 13 + 12) w64) ((rt_ (σ (x1 + 11) 2) (σ (x1 + 12)) 9 4 x2) * 13 + 9) w69)) (wr_ (uc_s _ _ _) (uc_uc _ _ _ _)) (i3 c_123_148 rfl ?_)
  exact i90 c_123_150 t
theorem q_123 {d : Nat} {S : zS} {σ τ : zI} {Q : zQ} {tn : Nat} {p : Int} {h : Int} {a : Int → Int} {m : Int} (htn : tw tn) (p0 : CTq σ tn a p) (p1 : Jv a) (p2 : jv_T a) (p3 : a 0 ≤ 399) (p4 : 0 ≤ p ∧ p < a 4) (p5 : wk_wv a m p ∧ wk_D a m) (p6 : h = wk_hn a p) (p7 : σ 53 5 = wk_ct a) (t : ∀ (σ1 : zI) (v : Int), (∀ c, c ≠ tn + 6 → c ≠ tn + 12 → σ1 c = σ c) → CTq σ1 tn a (p + 1) → v = wk_nx a m p → Q (some (.int (wI v))) S σ1 τ) : wc (d + 9) 123 [.ref 53, .ref tn, .int (wI p), .int (wI h)] S σ τ Q := by
  have hC := jC p1
  unfold jv_C at hC
  have tb := tw_b htn
  have hP := jP p1 p p4.1 p4.2
  obtain ⟨hw, hD⟩ := p5
  have hm : 0 ≤ m ∧ m < a 1 := by have := hw.1; omega
  have cs := p0
  unfold CTq at cs
  have yb := wk_by_b p1 p2 p3 hm hD
  have ct := wk_ct_b p1 p3
  have sb := wk_s_b p1 p2 p3 hm hD p p4.1 (by omega)
  have xb := wk_x_b p1 p2 hm.1 p4 hw
  have pcb := pc_b xb yb.2.2.2.2.1.1
  have q := wk_S1_b (p := p) (s := wk_s a m p) pcb.1 ct.1 yb.2.2.2.2.2.1 (by omega) sb.2.1 (by omega)
  have rrb := wk_rr_b p1 p2 p3 hm p4 hw hD
  have enx : wk_nx a m p = wk_N1 a m p (wk_s a m p) := if_pos ⟨hw, hD⟩
  have v4 : rt_ (σ (tn + 11) 2) (σ (tn + 12)) 9 4 p = m := by rw [vp cs p4 (by omega), sP_q p 4 (by omega) (by omega) (by omega) (by omega) (by omega) (by omega)]; exact hw.1
  have v6 : rt_ (σ (tn + 5) 2) (σ (tn + 6)) 13 6 m = wk_kB a m := by rw [vm cs hm (show mcR 6 7 by omega), MIq_k hm.2 (by omega), if_pos rfl, yb.2.2.1]
  have v12 : rt_ (σ (tn + 5) 2) (σ (tn + 6)) 13 12 m = (wk_s a m p).2.2 := by rw [vtk cs hm]; exact TKq_D hD
  have vy : rt_ (σ (tn + 1) 2) (σ (tn + 2)) 6 2 (wk_kB a m) = wk_yn a m := by rw [vk cs (by omega) (k := 2) (by omega)]; rfl
  have w7 : PEq a p p 7 = wk_r1 a p := by
    unfold PEq PE1
    rw [if_neg (by omega), if_pos ⟨rfl, p4.2, by omega, by omega⟩]
  have i2 : MIq a p m 2 = (wk_s a m p).1 := by rw [MIq_D hD (by omega), if_pos rfl]
  have i4 : MIq a p m 4 = (wk_s a m p).2.1 := by rw [MIq_D hD (by omega), if_neg (by omega), if_pos rfl]
  have ex : wk_r1 a p + r_pts a p h = wk_x a p := by rw [p6]; rfl
  refine wc_of mi_123 rfl (u_123_0 htn ?_)
  rw [v4, v6, v12, vy]
  refine ⟨by omega, a, _, _, _, _, cs, jK p1, by omega, fun v hv vb => ?_⟩
  have hv : v = wk_cs a m := hv
  subst hv
  refine ⟨a, _, _, _, _, cs, jK p1, sP_q, sM_q, by omega, by omega, by rw [w7, ex]; omega, fun v2 hv2 => ?_⟩
  rw [w7, ex] at hv2
  have hv2 : v2 = (wk_x a p).tdiv (wk_cs a m) := hv2
  have en0 : min v2 (wk_s a m p).2.2 = wk_n0 a m p (wk_s a m p).2.2 := by
    unfold wk_n0; rw [← hv2]; split <;> omega
  rw [en0]
  have n0b := wk_n0_b (m := m) (p := p) (lf := (wk_s a m p).2.2) pcb.1 (by omega)
  refine ⟨by omega, a, _, _, _, _, wk_ct a, cs, by omega, by omega, by omega, by rw [i2, i4]; omega, ⟨p7, ct⟩, fun σ2 v3 f2 cs2 hv3 => ?_⟩
  rw [i2, i4] at cs2 hv3
  have hv3 : v3 = wk_nx a m p := by rw [hv3, enx]; rfl
  have eB : wk_bt (wk_s a m p).2.1 (wk_s a m p).1 (wk_n0 a m p (wk_s a m p).2.2 * wk_yn a m) (wk_ct a) = wk_B1 a m p (wk_s a m p) := rfl
  have eN : (if ((wk_s a m p).2.1 + 360 * wk_B1 a m p (wk_s a m p)).tdiv (wk_yn a m) < wk_n0 a m p (wk_s a m p).2.2 then ((wk_s a m p).2.1 + 360 * wk_B1 a m p (wk_s a m p)).tdiv (wk_yn a m) else wk_n0 a m p (wk_s a m p).2.2) = wk_nx a m p := by rw [enx]; rfl
  rw [eB, eN] at cs2
  subst hv3
  refine ⟨a, _, _, _, _, cs2, sP_q, sM_t (sM_t sM_q (by omega)) (by omega), by omega, by omega, fun v4 hv4 => ?_⟩
  have u7 : rt_ (σ2 (tn + 11) 2) (σ2 (tn + 12)) 9 7 p = wk_r1 a p := by rw [vp cs2 p4 (by omega)]; exact w7
  rw [u7, hv4, ex]
  have u12 : σ2 (tn + 6) (m * 13 + 12) = (wk_s a m p).2.2 := by rw [((cs_M cs2).2 m hm.1 hm.2).2]; exact TKq_D hD
  have u9 : σ2 (tn + 6) (m * 13 + 9) = wk_tx a m - (wk_s a m p).2.2 := by rw [((cs_M cs2).2 m hm.1 hm.2).1 9 10 (by omega), t2_n (by omega), t2_n (by omega), MIq_D hD (by omega), if_neg (by omega), if_neg (by omega)]
  rw [(cs_P cs2).1, (cs_M cs2).1, u12, u9]
  rw [← enx] at q
  have emin : min (wk_x a p - wk_nx a m p * wk_cs a m) (wk_cs a m - 1) = wk_rr a m p := by unfold wk_rr; split <;> omega
  rw [emin]
  refine ⟨by omega, by omega, by omega, by omega, (wk_s a m p).2.2 - wk_nx a m p, by congr 1, by omega, by omega, wk_tx a m - (wk_s a m p).2.2 + wk_nx a m p, rfl, by omega, ?_⟩
  have sS : wk_s a m (p + 1) = wk_S1 a m p (wk_s a m p) := by rw [wk_s_s p4.1, if_pos hw]
  refine t _ _ (fun c h1 h2 => by rw [uc_n h1, uc_n h2]; exact f2 c h1) ?_ rfl
  refine CS_of cs2 (fun c hc => by rw [uc_n (by omega), uc_n (by omega)]) ?_ ?_ ?_
  · rw [uc_n (by omega), uc_s]
    refine FP_c (fun x c x0 x1 _ _ => ?_) (FP_u (p := p) (c := 7) (v := wk_rr a m p) (by omega) (cs_P cs2).2)
    unfold t2 PEq
    by_cases c1 : x = p ∧ c = 7
    · obtain ⟨rfl, rfl⟩ := c1
      rw [if_pos ⟨rfl, rfl⟩, if_pos ⟨rfl, by omega⟩]
      unfold wk_r2; rw [hw.1]; unfold wk_ry; rw [if_pos ⟨hw, hD⟩]
    · rw [if_neg c1]
      by_cases c2 : c = 7 ∧ x < p
      · rw [if_pos c2, if_pos (by omega)]
      · rw [if_neg c2, if_neg (by omega)]
  · rw [uc_s]
    refine FM_c (fun x c x0 x1 _ _ => ?_) (fun x x0 x1 => ?_) (FM_u (m := m) (v := wk_tx a m - (wk_s a m p).2.2 + wk_nx a m p) (show mcR 9 10 by omega) (FM_t (m := m) (v := (wk_s a m p).2.2 - wk_nx a m p) (cs_M cs2).2))
    · by_cases c1 : x = m
      · subst c1
        by_cases c10 : c = 10
        · subst c10
          rw [t2_s, MIq_D hD (by omega), if_neg (by omega), if_neg (by omega), sS]
          unfold wk_S1
          dsimp only
          rw [← enx]; omega
        · rw [t2_n (by omega)]
          by_cases c4 : c = 4
          · subst c4
            rw [t2_s, MIq_D hD (by omega), if_neg (by omega), if_pos rfl, sS]
            unfold wk_S1
            dsimp only
            rw [← enx]
          · rw [t2_n (by omega)]
            by_cases c2 : c = 2
            · subst c2
              rw [t2_s, MIq_D hD (by omega), if_pos rfl, sS]
              rfl
            · rw [t2_n (by omega)]; unfold MIq; rw [if_neg (by omega), if_neg (by omega)]
      · rw [t2_n (by omega), t2_n (by omega), t2_n (by omega)]
        unfold MIq
        by_cases e : wk_D a x ∧ (c = 2 ∨ c = 4 ∨ c = 10)
        · rw [if_pos e, if_pos e, wk_s_s p4.1, if_neg (fun z : wk_wv a x p => c1 (by have := z.1; have := hw.1; omega))]
        · rw [if_neg e, if_neg e]
    · by_cases c1 : x = m
      · subst c1
        rw [u1_s, TKq_D hD, sS, enx]; rfl
      · rw [u1_n c1]
        unfold TKq
        by_cases e : wk_D a x
        · rw [if_pos e, if_pos e, wk_s_s p4.1, if_neg (fun z : wk_wv a x p => c1 (by have := z.1; have := hw.1; omega))]
        · rw [if_neg e, if_neg e]
  · rw [uc_n (by omega), uc_n (by omega)]; exact (cs_O cs2).2
