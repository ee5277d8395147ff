/-! ===== the reference: what is told (segments printed by wip/whole, contracts own work) ===== -/
abbrev k_kind (a : Int → Int) (k picks width yarn hard extras : Int) : Prop := (0 ≤ k ∧ k ≤ 5) ∧ (10 ≤ picks ∧ picks ≤ 200) ∧ (20 ≤ width ∧ width ≤ 60) ∧ (1 ≤ yarn ∧ yarn ≤ 50) ∧ (0 ≤ hard ∧ hard ≤ 9) ∧ (0 ≤ extras ∧ extras ≤ 1073741823) ∧ a (20 + 8 * k + 7) ≠ 1
def r_kind (a : Int → Int) (k picks width yarn hard extras : Int) : Int → Int := if k_kind a k picks width yarn hard extras then u1 (u1 (u1 (u1 (u1 a (20 + 8 * k + 1) (picks)) (20 + 8 * k + 2) (width)) (20 + 8 * k + 3) (yarn)) (20 + 8 * k + 4) (hard)) (20 + 8 * k + 5) (extras) else a
-- method 206: MillTownModel.kind(IIIIII)Z
theorem c_206_0 : pg_cd 206 0 = (3, 1, 0, 1, 0) := by decide +kernel
theorem c_206_1 : pg_cd 206 1 = (81, 204, 80, 0, 0) := by decide +kernel
theorem c_206_4 : pg_cd 206 4 = (36, 3, 0, 0, 70) := by decide +kernel
theorem c_206_7 : pg_cd 206 7 = (3, 1, 0, 2, 0) := by decide +kernel
theorem c_206_8 : pg_cd 206 8 = (1, 2, 0, 0, 10) := by decide +kernel
theorem c_206_10 : pg_cd 206 10 = (1, 3, 0, 0, 200) := by decide +kernel
theorem c_206_13 : pg_cd 206 13 = (81, 196, 76, 0, 0) := by decide +kernel
theorem c_206_16 : pg_cd 206 16 = (36, 3, 0, 0, 58) := by decide +kernel
theorem c_206_19 : pg_cd 206 19 = (3, 1, 0, 3, 0) := by decide +kernel
theorem c_206_20 : pg_cd 206 20 = (1, 2, 0, 0, 20) := by decide +kernel
theorem c_206_22 : pg_cd 206 22 = (1, 2, 0, 0, 60) := by decide +kernel
theorem c_206_24 : pg_cd 206 24 = (81, 196, 76, 0, 0) := by decide +kernel
theorem c_206_27 : pg_cd 206 27 = (36, 3, 0, 0, 47) := by decide +kernel
theorem c_206_30 : pg_cd 206 30 = (3, 2, 0, 4, 0) := by decide +kernel
theorem c_206_32 : pg_cd 206 32 = (1, 1, 0, 0, 1) := by decide +kernel
theorem c_206_33 : pg_cd 206 33 = (1, 2, 0, 0, 50) := by decide +kernel
theorem c_206_35 : pg_cd 206 35 = (81, 196, 76, 0, 0) := by decide +kernel
theorem c_206_38 : pg_cd 206 38 = (36, 3, 0, 0, 36) := by decide +kernel
theorem c_206_41 : pg_cd 206 41 = (3, 2, 0, 5, 0) := by decide +kernel
theorem c_206_43 : pg_cd 206 43 = (1, 1, 0, 0, 0) := by decide +kernel
theorem c_206_44 : pg_cd 206 44 = (1, 2, 0, 0, 9) := by decide +kernel
theorem c_206_46 : pg_cd 206 46 = (81, 196, 76, 0, 0) := by decide +kernel
theorem c_206_49 : pg_cd 206 49 = (36, 3, 0, 0, 25) := by decide +kernel
theorem c_206_52 : pg_cd 206 52 = (3, 2, 0, 6, 0) := by decide +kernel
theorem c_206_54 : pg_cd 206 54 = (1, 1, 0, 0, 0) := by decide +kernel
theorem c_206_55 : pg_cd 206 55 = (1, 2, 84, 0, 1073741823) := by decide +kernel
theorem c_206_57 : pg_cd 206 57 = (81, 196, 76, 0, 0) := by decide +kernel
theorem c_206_60 : pg_cd 206 60 = (36, 3, 0, 0, 14) := by decide +kernel
theorem c_206_63 : pg_cd 206 63 = (5, 1, 0, 0, 0) := by decide +kernel
theorem c_206_64 : pg_cd 206 64 = (3, 1, 0, 1, 0) := by decide +kernel
theorem c_206_65 : pg_cd 206 65 = (1, 2, 0, 0, 7) := by decide +kernel
theorem c_206_67 : pg_cd 206 67 = (80, 197, 85, 0, 0) := by decide +kernel
theorem c_206_70 : pg_cd 206 70 = (1, 1, 0, 0, 1) := by decide +kernel
theorem c_206_71 : pg_cd 206 71 = (37, 3, 0, 1, 5) := by decide +kernel
theorem c_206_74 : pg_cd 206 74 = (1, 1, 0, 0, 0) := by decide +kernel
theorem c_206_75 : pg_cd 206 75 = (91, 0, 0, 0, 0) := by decide +kernel
theorem c_206_76 : pg_cd 206 76 = (1, 2, 0, 0, 20) := by decide +kernel
theorem c_206_78 : pg_cd 206 78 = (1, 2, 0, 0, 8) := by decide +kernel
theorem c_206_80 : pg_cd 206 80 = (3, 1, 0, 1, 0) := by decide +kernel
theorem c_206_81 : pg_cd 206 81 = (12, 1, 0, 0, 0) := by decide +kernel
theorem c_206_82 : pg_cd 206 82 = (10, 1, 0, 0, 0) := by decide +kernel
theorem c_206_83 : pg_cd 206 83 = (6, 2, 0, 7, 0) := by decide +kernel
theorem c_206_85 : pg_cd 206 85 = (5, 1, 0, 0, 0) := by decide +kernel
theorem c_206_86 : pg_cd 206 86 = (45, 12, 8, 0, 0) := by decide +kernel
theorem c_206_89 : pg_cd 206 89 = (3, 2, 0, 7, 0) := by decide +kernel
theorem c_206_91 : pg_cd 206 91 = (1, 1, 0, 0, 1) := by decide +kernel
theorem c_206_92 : pg_cd 206 92 = (10, 1, 0, 0, 0) := by decide +kernel
theorem c_206_93 : pg_cd 206 93 = (3, 1, 0, 2, 0) := by decide +kernel
theorem c_206_94 : pg_cd 206 94 = (54, 1, 0, 0, 0) := by decide +kernel
theorem c_206_95 : pg_cd 206 95 = (5, 1, 0, 0, 0) := by decide +kernel
theorem c_206_96 : pg_cd 206 96 = (45, 12, 8, 0, 0) := by decide +kernel
theorem c_206_99 : pg_cd 206 99 = (3, 2, 0, 7, 0) := by decide +kernel
theorem c_206_101 : pg_cd 206 101 = (1, 1, 0, 0, 2) := by decide +kernel
theorem c_206_102 : pg_cd 206 102 = (10, 1, 0, 0, 0) := by decide +kernel
theorem c_206_103 : pg_cd 206 103 = (3, 1, 0, 3, 0) := by decide +kernel
theorem c_206_104 : pg_cd 206 104 = (54, 1, 0, 0, 0) := by decide +kernel
theorem c_206_105 : pg_cd 206 105 = (5, 1, 0, 0, 0) := by decide +kernel
theorem c_206_106 : pg_cd 206 106 = (45, 12, 8, 0, 0) := by decide +kernel
theorem c_206_109 : pg_cd 206 109 = (3, 2, 0, 7, 0) := by decide +kernel
theorem c_206_111 : pg_cd 206 111 = (1, 1, 0, 0, 3) := by decide +kernel
theorem c_206_112 : pg_cd 206 112 = (10, 1, 0, 0, 0) := by decide +kernel
theorem c_206_113 : pg_cd 206 113 = (3, 2, 0, 4, 0) := by decide +kernel
theorem c_206_115 : pg_cd 206 115 = (54, 1, 0, 0, 0) := by decide +kernel
theorem c_206_116 : pg_cd 206 116 = (5, 1, 0, 0, 0) := by decide +kernel
theorem c_206_117 : pg_cd 206 117 = (45, 12, 8, 0, 0) := by decide +kernel
theorem c_206_120 : pg_cd 206 120 = (3, 2, 0, 7, 0) := by decide +kernel
theorem c_206_122 : pg_cd 206 122 = (1, 1, 0, 0, 4) := by decide +kernel
theorem c_206_123 : pg_cd 206 123 = (10, 1, 0, 0, 0) := by decide +kernel
theorem c_206_124 : pg_cd 206 124 = (3, 2, 0, 5, 0) := by decide +kernel
theorem c_206_126 : pg_cd 206 126 = (54, 1, 0, 0, 0) := by decide +kernel
theorem c_206_127 : pg_cd 206 127 = (5, 1, 0, 0, 0) := by decide +kernel
theorem c_206_128 : pg_cd 206 128 = (45, 12, 8, 0, 0) := by decide +kernel
theorem c_206_131 : pg_cd 206 131 = (3, 2, 0, 7, 0) := by decide +kernel
theorem c_206_133 : pg_cd 206 133 = (1, 1, 0, 0, 5) := by decide +kernel
theorem c_206_134 : pg_cd 206 134 = (10, 1, 0, 0, 0) := by decide +kernel
theorem c_206_135 : pg_cd 206 135 = (3, 2, 0, 6, 0) := by decide +kernel
theorem c_206_137 : pg_cd 206 137 = (54, 1, 0, 0, 0) := by decide +kernel
theorem c_206_138 : pg_cd 206 138 = (1, 1, 0, 0, 1) := by decide +kernel
theorem c_206_139 : pg_cd 206 139 = (91, 0, 0, 0, 0) := by decide +kernel
theorem mi_206 : pg_mc 206 = 12 ∧ pg_na 206 = 6 ∧ pg_mx 206 = 8 := by decide +kernel
set_option maxRecDepth 20000 in
theorem u_206_0 {d : Nat} {S : zS} {σ τ : zI} {Q : zQ} {x1 : Int} {x2 : Int} {x3 : Int} {x4 : Int} {x5 : Int} {x6 : Int} (t : (rg x1) ∧ if 0 ≤ x1 ∧ x1 ≤ 5 then ((rg x2) ∧ if 10 ≤ x2 ∧ x2 ≤ 200 then ((rg x3) ∧ if 20 ≤ x3 ∧ x3 ≤ 60 then ((rg x4) ∧ if 1 ≤ x4 ∧ x4 ≤ 50 then ((rg x5) ∧ if 0 ≤ x5 ∧ x5 ≤ 9 then ((rg x6) ∧ if 0 ≤ x6 ∧ x6 ≤ 1073741823 then ((0 ≤ 20 + 8 * x1 + 7 ∧ 20 + 8 * x1 + 7 < 112300) ∧ if (σ 84 (20 + 8 * x1 + 7)) = 1 then (Q (some (.int (wI 0))) S σ τ) else ((0 ≤ (20 + (8 * x1)) + 1 ∧ (20 + (8 * x1)) + 1 < 112300) ∧ (0 ≤ (20 + (8 * x1)) + 2 ∧ (20 + (8 * x1)) + 2 < 112300) ∧ (0 ≤ (20 + (8 * x1)) + 3 ∧ (20 + (8 * x1)) + 3 < 112300) ∧ (0 ≤ (20 + (8 * x1)) + 4 ∧ (20 + (8 * x1)) + 4 < 112300) ∧ (0 ≤ (20 + (8 * x1)) + 5 ∧ (20 + (8 * x1)) + 5 < 112300) ∧ Q (some (.int (wI 1))) S (uc σ 84 (u1 (u1 (u1 (u1 (u1 (σ 84) ((20 + (8 * x1)) + 1) x2) ((20 + (8 * x1)) + 2) x3) ((20 + (8 * x1)) + 3) x4) ((20 + (8 * x1)) + 4) x5) ((20 + (8 * x1)) + 5) x6)) τ)) else (Q (some (.int (wI 0))) S σ τ)) else (Q (some (.int (wI 0))) S σ τ)) else (Q (some (.int (wI 0))) S σ τ)) else (Q (some (.int (wI 0))) S σ τ)) else (Q (some (.int (wI 0))) S σ τ)) else (Q (some (.int (wI 0))) S σ τ)) : wi (d + 3) 206 0 [.ref 83, .int (wI x1), .int (wI x2), .int (wI x3), .int (wI x4), .int (wI x5), .int (wI x6), .retAddr 0] [] S σ τ Q := by
  obtain ⟨r1, t⟩ := t
  refine i3 c_206_0 rfl ?_
  refine i81 (As := [.int (wI x1)]) (rest := []) c_206_1 mi_204 rfl rfl (Nat.le_of_ble_eq_true rfl) (Nat.le_of_ble_eq_true rfl) (q_204 r1 ?_)
  show wi (d + 3) 206 4 [.ref 83, .int (wI x1), .int (wI x2), .int (wI x3), .int (wI x4), .int (wI x5), .int (wI x6), .retAddr 0] [.int (wI (if 0 ≤ x1 ∧ x1 ≤ 5 then 1 else 0))] S σ τ Q
  refine i36e c_206_4 rfl (fun hc => ?_) (fun hc => ?_)
  · have t := iT t hc
    have ha2 : 0 ≤ x1 ∧ x1 ≤ 5 := hc
    obtain ⟨r3, t⟩ := t
    refine i3 c_206_7 rfl (i1 c_206_8 (i1 c_206_10 ?_))
    refine i81 (As := [.int (wI x2), .int (wI 10), .int (wI 200)]) (rest := []) c_206_13 mi_196 rfl rfl (Nat.le_of_ble_eq_true rfl) (Nat.le_of_ble_eq_true rfl) (q_196 r3 (by decide) (by decide) ?_)
    show wi (d + 3) 206 16 [.ref 83, .int (wI x1), .int (wI x2), .int (wI x3), .int (wI x4), .int (wI x5), .int (wI x6), .retAddr 0] [.int (wI (if 10 ≤ x2 ∧ x2 ≤ 200 then 1 else 0))] S σ τ Q
    refine i36e c_206_16 rfl (fun hc => ?_) (fun hc => ?_)
    · have t := iT t hc
      have ha4 : 10 ≤ x2 ∧ x2 ≤ 200 := hc
      obtain ⟨r5, t⟩ := t
      refine i3 c_206_19 rfl (i1 c_206_20 (i1 c_206_22 ?_))
      refine i81 (As := [.int (wI x3), .int (wI 20), .int (wI 60)]) (rest := []) c_206_24 mi_196 rfl rfl (Nat.le_of_ble_eq_true rfl) (Nat.le_of_ble_eq_true rfl) (q_196 r5 (by decide) (by decide) ?_)
      show wi (d + 3) 206 27 [.ref 83, .int (wI x1), .int (wI x2), .int (wI x3), .int (wI x4), .int (wI x5), .int (wI x6), .retAddr 0] [.int (wI (if 20 ≤ x3 ∧ x3 ≤ 60 then 1 else 0))] S σ τ Q
      refine i36e c_206_27 rfl (fun hc => ?_) (fun hc => ?_)
      · have t := iT t hc
        have ha6 : 20 ≤ x3 ∧ x3 ≤ 60 := hc
        obtain ⟨r7, t⟩ := t
        refine i3 c_206_30 rfl (i1 c_206_32 (i1 c_206_33 ?_))
        refine i81 (As := [.int (wI x4), .int (wI 1), .int (wI 50)]) (rest := []) c_206_35 mi_196 rfl rfl (Nat.le_of_ble_eq_true rfl) (Nat.le_of_ble_eq_true rfl) (q_196 r7 (by decide) (by decide) ?_)
        show wi (d + 3) 206 38 [.ref 83, .int (wI x1), .int (wI x2), .int (wI x3), .int (wI x4), .int (wI x5), .int (wI x6), .retAddr 0] [.int (wI (if 1 ≤ x4 ∧ x4 ≤ 50 then 1 else 0))] S σ τ Q
        refine i36e c_206_38 rfl (fun hc => ?_) (fun hc => ?_)
        · have t := iT t hc
          have ha8 : 1 ≤ x4 ∧ x4 ≤ 50 := hc
          obtain ⟨r9, t⟩ := t
          refine i3 c_206_41 rfl (i1 c_206_43 (i1 c_206_44 ?_))
          refine i81 (As := [.int (wI x5), .int (wI 0), .int (wI 9)]) (rest := []) c_206_46 mi_196 rfl rfl (Nat.le_of_ble_eq_true rfl) (Nat.le_of_ble_eq_true rfl) (q_196 r9 (by decide) (by decide) ?_)
          show wi (d + 3) 206 49 [.ref 83, .int (wI x1), .int (wI x2), .int (wI x3), .int (wI x4), .int (wI x5), .int (wI x6), .retAddr 0] [.int (wI (if 0 ≤ x5 ∧ x5 ≤ 9 then 1 else 0))] S σ τ Q
          refine i36e c_206_49 rfl (fun hc => ?_) (fun hc => ?_)
          · have t := iT t hc
            have ha10 : 0 ≤ x5 ∧ x5 ≤ 9 := hc
            obtain ⟨r11, t⟩ := t
            refine i3 c_206_52 rfl (i1 c_206_54 (i1 c_206_55 ?_))
            refine i81 (As := [.int (wI x6), .int (wI 0), .int (wI 1073741823)]) (rest := []) c_206_57 mi_196 rfl rfl (Nat.le_of_ble_eq_true rfl) (Nat.le_of_ble_eq_true rfl) (q_196 r11 (by decide) (by decide) ?_)
            show wi (d + 3) 206 60 [.ref 83, .int (wI x1), .int (wI x2), .int (wI x3), .int (wI x4), .int (wI x5), .int (wI x6), .retAddr 0] [.int (wI (if 0 ≤ x6 ∧ x6 ≤ 1073741823 then 1 else 0))] S σ τ Q
            refine i36e c_206_60 rfl (fun hc => ?_) (fun hc => ?_)
            · have t := iT t hc
              have ha12 : 0 ≤ x6 ∧ x6 ≤ 1073741823 := hc
              obtain ⟨p13, t⟩ := t
              refine i5 c_206_63 rfl (i3 c_206_64 rfl (i1 c_206_65 ?_))
              refine i80 (As := [.int (wI x1), .int (wI 7)]) (rest := []) c_206_67 mi_197 rfl rfl (Nat.le_of_ble_eq_true rfl) (Nat.le_of_ble_eq_true rfl) (lo (c := 83) (kd := 112) (n := 0) rfl (by decide)) (q_197 p13 ?_)
              show wi (d + 3) 206 70 [.ref 83, .int (wI x1), .int (wI x2), .int (wI x3), .int (wI x4), .int (wI x5), .int (wI x6), .retAddr 0] [.int (wI (σ 84 (20 + 8 * x1 + 7)))] S σ τ Q
              refine wi_ok (fun K14 => ?_)
              refine i1 c_206_70 ?_
              refine i37 c_206_71 (rge_ K14 rfl) (by decide) rfl (fun hc => ?_) (fun hc => ?_)
              · have t := iF t hc
                have ha15 : ¬ ((σ 84 (20 + 8 * x1 + 7)) = 1) := hc
                obtain ⟨r16, t⟩ := t
                obtain ⟨r17, t⟩ := t
                obtain ⟨r18, t⟩ := t
                obtain ⟨r19, t⟩ := t
                obtain ⟨r20, t⟩ := t
                refine i1 c_206_76 (i1 c_206_78 (i3 c_206_80 rfl (i12 c_206_81 (i10 c_206_82 (i6 (L' := [.ref 83, .int (wI x1), .int (wI x2), .int (wI x3), .int (wI x4), .int (wI x5), .int (wI x6), .int (wI (20 + (8 * x1)))]) c_206_83 rfl (i5 c_206_85 rfl (i45 c_206_86 (lo (c := 83) (kd := 112) (n := 0) rfl (by decide)) (lro (c := 83) (k := 0) (j := 84) (by decide)) (i3 c_206_89 rfl (i1 c_206_91 (i10 c_206_92 (i3 c_206_93 rfl (i54 (σ1 := uc σ 84 (u1 (σ 84) ((20 + (8 * x1)) + 1) x2)) c_206_94 (lo (c := 84) (kd := 0) (n := 112300) rfl (by decide)) (by decide) r16 (by decide) rfl r3 (wr_ rfl rfl) (i5 c_206_95 rfl (i45 c_206_96 (lo (c := 83) (kd := 112) (n := 0) rfl (by decide)) (lro (c := 83) (k := 0) (j := 84) (by decide)) (i3 c_206_99 rfl (i1 c_206_101 (i10 c_206_102 (i3 c_206_103 rfl (i54 (σ1 := uc σ 84 (u1 (u1 (σ 84) ((20 + (8 * x1)) + 1) x2) ((20 + (8 * x1)) + 2) x3)) c_206_104 (lo (c := 84) (kd := 0) (n := 112300) rfl (by decide)) (by decide) r17 (by decide) rfl r5 (wr_ (uc_s _ _ _) (uc_uc _ _ _ _)) (i5 c_206_105 rfl (i45 c_206_106 (lo (c := 83) (kd := 112) (n := 0) rfl (by decide)) (lro (c := 83) (k := 0) (j := 84) (by decide)) (i3 c_206_109 rfl (i1 c_206_111 (i10 c_206_112 (i3 c_206_113 rfl (i54 (σ1 := uc σ 84 (u1 (u1 (u1 (σ 84) ((20 + (8 * x1)) + 1) x2) ((20 + (8 * x1)) + 2) x3) ((20 + (8 * x1)) + 3) x4)) c_206_115 (lo (c := 84) (kd := 0) (n := 112300) rfl (by decide)) (by decide) r18 (by decide) rfl r7 (wr_ (uc_s _ _ _) (uc_uc _ _ _ _)) (i5 c_206_116 rfl (i45 c_206_117 (lo (c := 83) (kd := 112) (n := 0) rfl (by decide)) (lro (c := 83) (k := 0) (j := 84) (by decide)) (i3 c_206_120 rfl (i1 c_206_122 (i10 c_206_123 (i3 c_206_124 rfl (i54 (σ1 := uc σ 84 (u1 (u1 (u1 (u1 (σ 84) ((20 + (8 * x1)) + 1) x2) ((20 + (8 * x1)) + 2) x3) ((20 + (8 * x1)) + 3) x4) ((20 + (8 * x1)) + 4) x5)) c_206_126 (lo (c := 84) (kd := 0) (n := 112300) rfl (by decide)) (by decide) r19 (by decide) rfl r9 (wr_ (uc_s _ _ _) (uc_uc _ _ _ _)) (i5 c_206_127 rfl (i45 c_206_128 (lo (c := 83) (kd := 112) (n := 0) rfl (by decide)) (lro (c := 83) (k := 0) (j := 84) (by decide)) (i3 c_206_131 rfl (i1 c_206_133 (i10 c_206_134 (i3 c_206_135 rfl (i54 (σ1 := uc σ 84 (u1 (u1 (u1 (u1 (u1 (σ 84) ((20 + (8 * x1)) + 1) x2) ((20 + (8 * x1)) + 2) x3) ((20 + (8 * x1)) + 3) x4) ((20 + (8 * x1)) + 4) x5) ((20 + (8 * x1)) + 5) x6)) c_206_137 (lo (c := 84) (kd := 0) (n := 112300) rfl (by decide)) (by decide) r20 (by decide) rfl r11 (wr_ (uc_s _ _ _) (uc_uc _ _ _ _)) (i1 c_206_138 ?_)))))))))))))))))))))))))))))))))))))))))
                exact i91 c_206_139 (by decide) t
              · have t := iT t (Decidable.not_not.mp hc)
                have ha15 : (σ 84 (20 + 8 * x1 + 7)) = 1 := Decidable.not_not.mp hc
                refine i1 c_206_74 ?_
                exact i91 c_206_75 (by decide) t
            · have t := iF t hc
              have ha12 : ¬ (0 ≤ x6 ∧ x6 ≤ 1073741823) := hc
              refine i1 c_206_74 ?_
              exact i91 c_206_75 (by decide) t
          · have t := iF t hc
            have ha10 : ¬ (0 ≤ x5 ∧ x5 ≤ 9) := hc
            refine i1 c_206_74 ?_
            exact i91 c_206_75 (by decide) t
        · have t := iF t hc
          have ha8 : ¬ (1 ≤ x4 ∧ x4 ≤ 50) := hc
          refine i1 c_206_74 ?_
          exact i91 c_206_75 (by decide) t
      · have t := iF t hc
        have ha6 : ¬ (20 ≤ x3 ∧ x3 ≤ 60) := hc
        refine i1 c_206_74 ?_
        exact i91 c_206_75 (by decide) t
    · have t := iF t hc
      have ha4 : ¬ (10 ≤ x2 ∧ x2 ≤ 200) := hc
      refine i1 c_206_74 ?_
      exact i91 c_206_75 (by decide) t
  · have t := iF t hc
    have ha2 : ¬ (0 ≤ x1 ∧ x1 ≤ 5) := hc
    refine i1 c_206_74 ?_
    exact i91 c_206_75 (by decide) t
theorem q_206 {d : Nat} {S : zS} {σ τ : zI} {Q : zQ} {k : Int} {picks : Int} {width : Int} {yarn : Int} {hard : Int} {extras : Int} (p0 : rg k) (p1 : rg picks) (p2 : rg width) (p3 : rg yarn) (p4 : rg hard) (p5 : rg extras) (t : Q (some (.int (wI (if k_kind (σ 84) k picks width yarn hard extras then 1 else 0)))) S (uc σ 84 (r_kind (σ 84) k picks width yarn hard extras)) τ) : wc (d + 3) 206 [.ref 83, .int (wI k), .int (wI picks), .int (wI width), .int (wI yarn), .int (wI hard), .int (wI extras)] S σ τ Q := by
  refine wc_ok fun K => ?_
  refine wc_of mi_206 rfl (u_206_0 ?_)
  unfold r_kind at t
  by_cases hk : k_kind (σ 84) k picks width yarn hard extras
  · rw [if_pos hk, if_pos hk] at t
    simp only [k_kind] at hk
    repeat' (first | exact t | refine ⟨_, rfl, by omega, ?_⟩ | refine ⟨by omega, ?_⟩ | refine ifI (fun _ => ?_) (fun _ => ?_) | (exfalso; omega))
  · rw [if_neg hk, if_neg hk, uc_id] at t
    simp only [k_kind] at hk
    repeat' (first | exact t | refine ⟨_, rfl, by omega, ?_⟩ | refine ⟨by omega, ?_⟩ | refine ifI (fun _ => ?_) (fun _ => ?_) | (exfalso; omega))
abbrev k_price (a : Int → Int) (what week v : Int) : Prop := (0 ≤ what ∧ what ≤ 7) ∧ (0 ≤ week ∧ week ≤ 399) ∧ (v = -1 ∨ 1 ≤ v ∧ v ≤ 100000)
def r_price (a : Int → Int) (what week v : Int) : Int → Int := if k_price a what week v then u1 a (100 + 400 * what + week) (v) else a
-- method 207: MillTownModel.price(III)Z
theorem c_207_0 : pg_cd 207 0 = (3, 1, 0, 1, 0) := by decide +kernel
theorem c_207_1 : pg_cd 207 1 = (1, 1, 0, 0, 0) := by decide +kernel
theorem c_207_2 : pg_cd 207 2 = (1, 2, 0, 0, 7) := by decide +kernel
theorem c_207_4 : pg_cd 207 4 = (81, 196, 76, 0, 0) := by decide +kernel
theorem c_207_7 : pg_cd 207 7 = (36, 3, 0, 0, 25) := by decide +kernel
theorem c_207_10 : pg_cd 207 10 = (3, 1, 0, 2, 0) := by decide +kernel
theorem c_207_11 : pg_cd 207 11 = (81, 205, 89, 0, 0) := by decide +kernel
theorem c_207_14 : pg_cd 207 14 = (36, 3, 0, 0, 18) := by decide +kernel
theorem c_207_17 : pg_cd 207 17 = (3, 1, 0, 3, 0) := by decide +kernel
theorem c_207_18 : pg_cd 207 18 = (1, 1, 0, 0, (-1)) := by decide +kernel
theorem c_207_19 : pg_cd 207 19 = (37, 3, 0, 0, 15) := by decide +kernel
theorem c_207_22 : pg_cd 207 22 = (3, 1, 0, 3, 0) := by decide +kernel
theorem c_207_23 : pg_cd 207 23 = (1, 1, 0, 0, 1) := by decide +kernel
theorem c_207_24 : pg_cd 207 24 = (1, 2, 71, 0, 100000) := by decide +kernel
theorem c_207_26 : pg_cd 207 26 = (81, 196, 76, 0, 0) := by decide +kernel
theorem c_207_29 : pg_cd 207 29 = (36, 3, 0, 1, 5) := by decide +kernel
theorem c_207_32 : pg_cd 207 32 = (1, 1, 0, 0, 0) := by decide +kernel
theorem c_207_33 : pg_cd 207 33 = (91, 0, 0, 0, 0) := by decide +kernel
theorem c_207_34 : pg_cd 207 34 = (5, 1, 0, 0, 0) := by decide +kernel
theorem c_207_35 : pg_cd 207 35 = (45, 12, 8, 0, 0) := by decide +kernel
theorem c_207_38 : pg_cd 207 38 = (1, 2, 0, 0, 100) := by decide +kernel
theorem c_207_40 : pg_cd 207 40 = (1, 3, 0, 0, 400) := by decide +kernel
theorem c_207_43 : pg_cd 207 43 = (3, 1, 0, 1, 0) := by decide +kernel
theorem c_207_44 : pg_cd 207 44 = (12, 1, 0, 0, 0) := by decide +kernel
theorem c_207_45 : pg_cd 207 45 = (10, 1, 0, 0, 0) := by decide +kernel
theorem c_207_46 : pg_cd 207 46 = (3, 1, 0, 2, 0) := by decide +kernel
theorem c_207_47 : pg_cd 207 47 = (10, 1, 0, 0, 0) := by decide +kernel
theorem c_207_48 : pg_cd 207 48 = (3, 1, 0, 3, 0) := by decide +kernel
theorem c_207_49 : pg_cd 207 49 = (54, 1, 0, 0, 0) := by decide +kernel
theorem c_207_50 : pg_cd 207 50 = (1, 1, 0, 0, 1) := by decide +kernel
theorem c_207_51 : pg_cd 207 51 = (91, 0, 0, 0, 0) := by decide +kernel
theorem mi_207 : pg_mc 207 = 12 ∧ pg_na 207 = 3 ∧ pg_mx 207 = 4 := by decide +kernel
set_option maxRecDepth 20000 in
theorem u_207_0 {d : Nat} {S : zS} {σ τ : zI} {Q : zQ} {x1 : Int} {x2 : Int} {x3 : Int} (t : (rg x1) ∧ if 0 ≤ x1 ∧ x1 ≤ 7 then ((rg x2) ∧ if 0 ≤ x2 ∧ x2 ≤ 399 then ((rg x3) ∧ if x3 = (-1) then ((0 ≤ (100 + (400 * x1)) + x2 ∧ (100 + (400 * x1)) + x2 < 112300) ∧ Q (some (.int (wI 1))) S (uc σ 84 (u1 (σ 84) ((100 + (400 * x1)) + x2) x3)) τ) else (if 1 ≤ x3 ∧ x3 ≤ 100000 then ((0 ≤ (100 + (400 * x1)) + x2 ∧ (100 + (400 * x1)) + x2 < 112300) ∧ Q (some (.int (wI 1))) S (uc σ 84 (u1 (σ 84) ((100 + (400 * x1)) + x2) x3)) τ) else (Q (some (.int (wI 0))) S σ τ))) else (Q (some (.int (wI 0))) S σ τ)) else (Q (some (.int (wI 0))) S σ τ)) : wi (d + 3) 207 0 [.ref 83, .int (wI x1), .int (wI x2), .int (wI x3)] [] S σ τ Q := by
  obtain ⟨r1, t⟩ := t
  refine i3 c_207_0 rfl (i1 c_207_1 (i1 c_207_2 ?_))
  refine i81 (As := [.int (wI x1), .int (wI 0), .int (wI 7)]) (rest := []) c_207_4 mi_196 rfl rfl (Nat.le_of_ble_eq_true rfl) (Nat.le_of_ble_eq_true rfl) (q_196 r1 (by decide) (by decide) ?_)
  show wi (d + 3) 207 7 [.ref 83, .int (wI x1), .int (wI x2), .int (wI x3)] [.int (wI (if 0 ≤ x1 ∧ x1 ≤ 7 then 1 else 0))] S σ τ Q
  refine i36e c_207_7 rfl (fun hc => ?_) (fun hc => ?_)
  · have t := iT t hc
    have ha2 : 0 ≤ x1 ∧ x1 ≤ 7 := hc
    obtain ⟨r3, t⟩ := t
    refine i3 c_207_10 rfl ?_
    refine i81 (As := [.int (wI x2)]) (rest := []) c_207_11 mi_205 rfl rfl (Nat.le_of_ble_eq_true rfl) (Nat.le_of_ble_eq_true rfl) (q_205 r3 ?_)
    show wi (d + 3) 207 14 [.ref 83, .int (wI x1), .int (wI x2), .int (wI x3)] [.int (wI (if 0 ≤ x2 ∧ x2 ≤ 399 then 1 else 0))] S σ τ Q
    refine i36e c_207_14 rfl (fun hc => ?_) (fun hc => ?_)
    · have t := iT t hc
      have ha4 : 0 ≤ x2 ∧ x2 ≤ 399 := hc
      obtain ⟨r5, t⟩ := t
      refine i3 c_207_17 rfl (i1 c_207_18 ?_)
      refine i37 c_207_19 r5 (by decide) rfl (fun hc => ?_) (fun hc => ?_)
      · have t := iT t hc
        have ha6 : x3 = (-1) := hc
        obtain ⟨r7, t⟩ := t
        refine i5 c_207_34 rfl (i45 c_207_35 (lo (c := 83) (kd := 112) (n := 0) rfl (by decide)) (lro (c := 83) (k := 0) (j := 84) (by decide)) (i1 c_207_38 (i1 c_207_40 (i3 c_207_43 rfl (i12 c_207_44 (i10 c_207_45 (i3 c_207_46 rfl (i10 c_207_47 (i3 c_207_48 rfl (i54 (σ1 := uc σ 84 (u1 (σ 84) ((100 + (400 * x1)) + x2) x3)) c_207_49 (lo (c := 84) (kd := 0) (n := 112300) rfl (by decide)) (by decide) r7 (by decide) rfl r5 (wr_ rfl rfl) (i1 c_207_50 ?_)))))))))))
        exact i91 c_207_51 (by decide) t
      · have t := iF t hc
        have ha6 : ¬ (x3 = (-1)) := hc
        refine i3 c_207_22 rfl (i1 c_207_23 (i1 c_207_24 ?_))
        refine i81 (As := [.int (wI x3), .int (wI 1), .int (wI 100000)]) (rest := []) c_207_26 mi_196 rfl rfl (Nat.le_of_ble_eq_true rfl) (Nat.le_of_ble_eq_true rfl) (q_196 r5 (by decide) (by decide) ?_)
        show wi (d + 3) 207 29 [.ref 83, .int (wI x1), .int (wI x2), .int (wI x3)] [.int (wI (if 1 ≤ x3 ∧ x3 ≤ 100000 then 1 else 0))] S σ τ Q
        refine i36f c_207_29 rfl (fun hc => ?_) (fun hc => ?_)
        · have t := iT t hc
          have ha8 : 1 ≤ x3 ∧ x3 ≤ 100000 := hc
          obtain ⟨r9, t⟩ := t
          refine i5 c_207_34 rfl (i45 c_207_35 (lo (c := 83) (kd := 112) (n := 0) rfl (by decide)) (lro (c := 83) (k := 0) (j := 84) (by decide)) (i1 c_207_38 (i1 c_207_40 (i3 c_207_43 rfl (i12 c_207_44 (i10 c_207_45 (i3 c_207_46 rfl (i10 c_207_47 (i3 c_207_48 rfl (i54 (σ1 := uc σ 84 (u1 (σ 84) ((100 + (400 * x1)) + x2) x3)) c_207_49 (lo (c := 84) (kd := 0) (n := 112300) rfl (by decide)) (by decide) r9 (by decide) rfl r5 (wr_ rfl rfl) (i1 c_207_50 ?_)))))))))))
          exact i91 c_207_51 (by decide) t
        · have t := iF t hc
          have ha8 : ¬ (1 ≤ x3 ∧ x3 ≤ 100000) := hc
          refine i1 c_207_32 ?_
          exact i91 c_207_33 (by decide) t
    · have t := iF t hc
      have ha4 : ¬ (0 ≤ x2 ∧ x2 ≤ 399) := hc
      refine i1 c_207_32 ?_
      exact i91 c_207_33 (by decide) t
  · have t := iF t hc
    have ha2 : ¬ (0 ≤ x1 ∧ x1 ≤ 7) := hc
    refine i1 c_207_32 ?_
    exact i91 c_207_33 (by decide) t
theorem q_207 {d : Nat} {S : zS} {σ τ : zI} {Q : zQ} {what : Int} {week : Int} {v : Int} (p0 : rg what) (p1 : rg week) (p2 : rg v) (t : Q (some (.int (wI (if k_price (σ 84) what week v then 1 else 0)))) S (uc σ 84 (r_price (σ 84) what week v)) τ) : wc (d + 3) 207 [.ref 83, .int (wI what), .int (wI week), .int (wI v)] S σ τ Q := by
  refine wc_ok fun K => ?_
  refine wc_of mi_207 rfl (u_207_0 ?_)
  unfold r_price at t
  by_cases hk : k_price (σ 84) what week v
  · rw [if_pos hk, if_pos hk] at t
    simp only [k_price] at hk
    repeat' (first | exact t | refine ⟨_, rfl, by omega, ?_⟩ | refine ⟨by omega, ?_⟩ | refine ifI (fun _ => ?_) (fun _ => ?_) | (exfalso; omega))
  · rw [if_neg hk, if_neg hk, uc_id] at t
    simp only [k_price] at hk
    repeat' (first | exact t | refine ⟨_, rfl, by omega, ?_⟩ | refine ⟨by omega, ?_⟩ | refine ifI (fun _ => ?_) (fun _ => ?_) | (exfalso; omega))
abbrev k_mean (a : Int → Int) (what v : Int) : Prop := (0 ≤ what ∧ what ≤ 7) ∧ (1 ≤ v ∧ v ≤ 100000)
def r_mean (a : Int → Int) (what v : Int) : Int → Int := if k_mean a what v then u1 a (70 + what) (v) else a
-- method 208: MillTownModel.mean(II)Z
theorem c_208_0 : pg_cd 208 0 = (3, 1, 0, 1, 0) := by decide +kernel
theorem c_208_1 : pg_cd 208 1 = (1, 1, 0, 0, 0) := by decide +kernel
theorem c_208_2 : pg_cd 208 2 = (1, 2, 0, 0, 7) := by decide +kernel
theorem c_208_4 : pg_cd 208 4 = (81, 196, 76, 0, 0) := by decide +kernel
theorem c_208_7 : pg_cd 208 7 = (36, 3, 0, 0, 13) := by decide +kernel
theorem c_208_10 : pg_cd 208 10 = (3, 1, 0, 2, 0) := by decide +kernel
theorem c_208_11 : pg_cd 208 11 = (1, 1, 0, 0, 1) := by decide +kernel
theorem c_208_12 : pg_cd 208 12 = (1, 2, 71, 0, 100000) := by decide +kernel
theorem c_208_14 : pg_cd 208 14 = (81, 196, 76, 0, 0) := by decide +kernel
theorem c_208_17 : pg_cd 208 17 = (36, 3, 0, 1, 5) := by decide +kernel
theorem c_208_20 : pg_cd 208 20 = (1, 1, 0, 0, 0) := by decide +kernel
theorem c_208_21 : pg_cd 208 21 = (91, 0, 0, 0, 0) := by decide +kernel
theorem c_208_22 : pg_cd 208 22 = (5, 1, 0, 0, 0) := by decide +kernel
theorem c_208_23 : pg_cd 208 23 = (45, 12, 8, 0, 0) := by decide +kernel
theorem c_208_26 : pg_cd 208 26 = (1, 2, 0, 0, 70) := by decide +kernel
theorem c_208_28 : pg_cd 208 28 = (3, 1, 0, 1, 0) := by decide +kernel
theorem c_208_29 : pg_cd 208 29 = (10, 1, 0, 0, 0) := by decide +kernel
theorem c_208_30 : pg_cd 208 30 = (3, 1, 0, 2, 0) := by decide +kernel
theorem c_208_31 : pg_cd 208 31 = (54, 1, 0, 0, 0) := by decide +kernel
theorem c_208_32 : pg_cd 208 32 = (1, 1, 0, 0, 1) := by decide +kernel
theorem c_208_33 : pg_cd 208 33 = (91, 0, 0, 0, 0) := by decide +kernel
theorem mi_208 : pg_mc 208 = 12 ∧ pg_na 208 = 2 ∧ pg_mx 208 = 3 := by decide +kernel
set_option maxRecDepth 20000 in
theorem u_208_0 {d : Nat} {S : zS} {σ τ : zI} {Q : zQ} {x1 : Int} {x2 : Int} (t : (rg x1) ∧ if 0 ≤ x1 ∧ x1 ≤ 7 then ((rg x2) ∧ if 1 ≤ x2 ∧ x2 ≤ 100000 then ((0 ≤ 70 + x1 ∧ 70 + x1 < 112300) ∧ Q (some (.int (wI 1))) S (uc σ 84 (u1 (σ 84) (70 + x1) x2)) τ) else (Q (some (.int (wI 0))) S σ τ)) else (Q (some (.int (wI 0))) S σ τ)) : wi (d + 3) 208 0 [.ref 83, .int (wI x1), .int (wI x2)] [] S σ τ Q := by
  obtain ⟨r1, t⟩ := t
  refine i3 c_208_0 rfl (i1 c_208_1 (i1 c_208_2 ?_))
  refine i81 (As := [.int (wI x1), .int (wI 0), .int (wI 7)]) (rest := []) c_208_4 mi_196 rfl rfl (Nat.le_of_ble_eq_true rfl) (Nat.le_of_ble_eq_true rfl) (q_196 r1 (by decide) (by decide) ?_)
  show wi (d + 3) 208 7 [.ref 83, .int (wI x1), .int (wI x2)] [.int (wI (if 0 ≤ x1 ∧ x1 ≤ 7 then 1 else 0))] S σ τ Q
  refine i36e c_208_7 rfl (fun hc => ?_) (fun hc => ?_)
  · have t := iT t hc
    have ha2 : 0 ≤ x1 ∧ x1 ≤ 7 := hc
    obtain ⟨r3, t⟩ := t
    refine i3 c_208_10 rfl (i1 c_208_11 (i1 c_208_12 ?_))
    refine i81 (As := [.int (wI x2), .int (wI 1), .int (wI 100000)]) (rest := []) c_208_14 mi_196 rfl rfl (Nat.le_of_ble_eq_true rfl) (Nat.le_of_ble_eq_true rfl) (q_196 r3 (by decide) (by decide) ?_)
    show wi (d + 3) 208 17 [.ref 83, .int (wI x1), .int (wI x2)] [.int (wI (if 1 ≤ x2 ∧ x2 ≤ 100000 then 1 else 0))] S σ τ Q
    refine i36f c_208_17 rfl (fun hc => ?_) (fun hc => ?_)
    · have t := iT t hc
      have ha4 : 1 ≤ x2 ∧ x2 ≤ 100000 := hc
      obtain ⟨r5, t⟩ := t
      refine i5 c_208_22 rfl (i45 c_208_23 (lo (c := 83) (kd := 112) (n := 0) rfl (by decide)) (lro (c := 83) (k := 0) (j := 84) (by decide)) (i1 c_208_26 (i3 c_208_28 rfl (i10 c_208_29 (i3 c_208_30 rfl (i54 (σ1 := uc σ 84 (u1 (σ 84) (70 + x1) x2)) c_208_31 (lo (c := 84) (kd := 0) (n := 112300) rfl (by decide)) (by decide) r5 (by decide) rfl r3 (wr_ rfl rfl) (i1 c_208_32 ?_)))))))
      exact i91 c_208_33 (by decide) t
    · have t := iF t hc
      have ha4 : ¬ (1 ≤ x2 ∧ x2 ≤ 100000) := hc
      refine i1 c_208_20 ?_
      exact i91 c_208_21 (by decide) t
  · have t := iF t hc
    have ha2 : ¬ (0 ≤ x1 ∧ x1 ≤ 7) := hc
    refine i1 c_208_20 ?_
    exact i91 c_208_21 (by decide) t
theorem q_208 {d : Nat} {S : zS} {σ τ : zI} {Q : zQ} {what : Int} {v : Int} (p0 : rg what) (p1 : rg v) (t : Q (some (.int (wI (if k_mean (σ 84) what v then 1 else 0)))) S (uc σ 84 (r_mean (σ 84) what v)) τ) : wc (d + 3) 208 [.ref 83, .int (wI what), .int (wI v)] S σ τ Q := by
  refine wc_ok fun K => ?_
  refine wc_of mi_208 rfl (u_208_0 ?_)
  unfold r_mean at t
  by_cases hk : k_mean (σ 84) what v
  · rw [if_pos hk, if_pos hk] at t
    simp only [k_mean] at hk
    repeat' (first | exact t | refine ⟨_, rfl, by omega, ?_⟩ | refine ⟨by omega, ?_⟩ | refine ifI (fun _ => ?_) (fun _ => ?_) | (exfalso; omega))
  · rw [if_neg hk, if_neg hk, uc_id] at t
    simp only [k_mean] at hk
    repeat' (first | exact t | refine ⟨_, rfl, by omega, ?_⟩ | refine ⟨by omega, ?_⟩ | refine ifI (fun _ => ?_) (fun _ => ?_) | (exfalso; omega))
abbrev k_mill (a : Int → Int) (looms speed coins least : Int) : Prop := (0 ≤ looms ∧ looms ≤ 60) ∧ (50 ≤ speed ∧ speed ≤ 200) ∧ (0 ≤ coins ∧ coins ≤ 1000000) ∧ (-1000 ≤ least ∧ least ≤ 1000) ∧ a 1 ≠ 8
def r_mill (a : Int → Int) (looms speed coins least : Int) : Int → Int := if k_mill a looms speed coins least then u1 (u1 (u1 (u1 (u1 (u1 (u1 a (3300 + 16 * a 1 + 0) (looms)) (3300 + 16 * a 1 + 1) (speed)) (3300 + 16 * a 1 + 2) (coins)) (3300 + 16 * a 1 + 3) (least)) (3300 + 16 * a 1 + 7) (-1)) (3300 + 16 * a 1 + 9) (-1)) (1) (a 1 + 1) else a
def v_mill (a : Int → Int) (looms speed coins least : Int) : Int := if k_mill a looms speed coins least then a 1 + 1 - 1 else -1
-- method 211: MillTownModel.mill(IIII)I
theorem c_211_0 : pg_cd 211 0 = (3, 1, 0, 1, 0) := by decide +kernel
theorem c_211_1 : pg_cd 211 1 = (1, 1, 0, 0, 0) := by decide +kernel
theorem c_211_2 : pg_cd 211 2 = (1, 2, 0, 0, 60) := by decide +kernel
theorem c_211_4 : pg_cd 211 4 = (81, 196, 76, 0, 0) := by decide +kernel
theorem c_211_7 : pg_cd 211 7 = (36, 3, 0, 0, 50) := by decide +kernel
theorem c_211_10 : pg_cd 211 10 = (3, 1, 0, 2, 0) := by decide +kernel
theorem c_211_11 : pg_cd 211 11 = (1, 2, 0, 0, 50) := by decide +kernel
theorem c_211_13 : pg_cd 211 13 = (1, 3, 0, 0, 200) := by decide +kernel
theorem c_211_16 : pg_cd 211 16 = (81, 196, 76, 0, 0) := by decide +kernel
theorem c_211_19 : pg_cd 211 19 = (36, 3, 0, 0, 38) := by decide +kernel
theorem c_211_22 : pg_cd 211 22 = (3, 1, 0, 3, 0) := by decide +kernel
theorem c_211_23 : pg_cd 211 23 = (1, 1, 0, 0, 0) := by decide +kernel
theorem c_211_24 : pg_cd 211 24 = (1, 2, 95, 0, 1000000) := by decide +kernel
theorem c_211_26 : pg_cd 211 26 = (81, 196, 76, 0, 0) := by decide +kernel
theorem c_211_29 : pg_cd 211 29 = (36, 3, 0, 0, 28) := by decide +kernel
theorem c_211_32 : pg_cd 211 32 = (3, 2, 0, 4, 0) := by decide +kernel
theorem c_211_34 : pg_cd 211 34 = (1, 3, 0, 0, (-1000)) := by decide +kernel
theorem c_211_37 : pg_cd 211 37 = (1, 3, 0, 0, 1000) := by decide +kernel
theorem c_211_40 : pg_cd 211 40 = (81, 196, 76, 0, 0) := by decide +kernel
theorem c_211_43 : pg_cd 211 43 = (36, 3, 0, 0, 14) := by decide +kernel
theorem c_211_46 : pg_cd 211 46 = (5, 1, 0, 0, 0) := by decide +kernel
theorem c_211_47 : pg_cd 211 47 = (45, 12, 8, 0, 0) := by decide +kernel
theorem c_211_50 : pg_cd 211 50 = (1, 1, 0, 0, 1) := by decide +kernel
theorem c_211_51 : pg_cd 211 51 = (50, 1, 0, 0, 0) := by decide +kernel
theorem c_211_52 : pg_cd 211 52 = (1, 2, 0, 0, 8) := by decide +kernel
theorem c_211_54 : pg_cd 211 54 = (37, 3, 0, 1, 5) := by decide +kernel
theorem c_211_57 : pg_cd 211 57 = (1, 1, 0, 0, (-1)) := by decide +kernel
theorem c_211_58 : pg_cd 211 58 = (90, 0, 0, 0, 0) := by decide +kernel
theorem c_211_59 : pg_cd 211 59 = (1, 3, 0, 0, 3300) := by decide +kernel
theorem c_211_62 : pg_cd 211 62 = (1, 2, 0, 0, 16) := by decide +kernel
theorem c_211_64 : pg_cd 211 64 = (5, 1, 0, 0, 0) := by decide +kernel
theorem c_211_65 : pg_cd 211 65 = (45, 12, 8, 0, 0) := by decide +kernel
theorem c_211_68 : pg_cd 211 68 = (1, 1, 0, 0, 1) := by decide +kernel
theorem c_211_69 : pg_cd 211 69 = (50, 1, 0, 0, 0) := by decide +kernel
theorem c_211_70 : pg_cd 211 70 = (12, 1, 0, 0, 0) := by decide +kernel
theorem c_211_71 : pg_cd 211 71 = (10, 1, 0, 0, 0) := by decide +kernel
theorem c_211_72 : pg_cd 211 72 = (6, 2, 0, 5, 0) := by decide +kernel
theorem c_211_74 : pg_cd 211 74 = (5, 1, 0, 0, 0) := by decide +kernel
theorem c_211_75 : pg_cd 211 75 = (45, 12, 8, 0, 0) := by decide +kernel
theorem c_211_78 : pg_cd 211 78 = (3, 2, 0, 5, 0) := by decide +kernel
theorem c_211_80 : pg_cd 211 80 = (1, 1, 0, 0, 0) := by decide +kernel
theorem c_211_81 : pg_cd 211 81 = (10, 1, 0, 0, 0) := by decide +kernel
theorem c_211_82 : pg_cd 211 82 = (3, 1, 0, 1, 0) := by decide +kernel
theorem c_211_83 : pg_cd 211 83 = (54, 1, 0, 0, 0) := by decide +kernel
theorem c_211_84 : pg_cd 211 84 = (5, 1, 0, 0, 0) := by decide +kernel
theorem c_211_85 : pg_cd 211 85 = (45, 12, 8, 0, 0) := by decide +kernel
theorem c_211_88 : pg_cd 211 88 = (3, 2, 0, 5, 0) := by decide +kernel
theorem c_211_90 : pg_cd 211 90 = (1, 1, 0, 0, 1) := by decide +kernel
theorem c_211_91 : pg_cd 211 91 = (10, 1, 0, 0, 0) := by decide +kernel
theorem c_211_92 : pg_cd 211 92 = (3, 1, 0, 2, 0) := by decide +kernel
theorem c_211_93 : pg_cd 211 93 = (54, 1, 0, 0, 0) := by decide +kernel
theorem c_211_94 : pg_cd 211 94 = (5, 1, 0, 0, 0) := by decide +kernel
theorem c_211_95 : pg_cd 211 95 = (45, 12, 8, 0, 0) := by decide +kernel
theorem c_211_98 : pg_cd 211 98 = (3, 2, 0, 5, 0) := by decide +kernel
theorem c_211_100 : pg_cd 211 100 = (1, 1, 0, 0, 2) := by decide +kernel
theorem c_211_101 : pg_cd 211 101 = (10, 1, 0, 0, 0) := by decide +kernel
theorem c_211_102 : pg_cd 211 102 = (3, 1, 0, 3, 0) := by decide +kernel
theorem c_211_103 : pg_cd 211 103 = (54, 1, 0, 0, 0) := by decide +kernel
theorem c_211_104 : pg_cd 211 104 = (5, 1, 0, 0, 0) := by decide +kernel
theorem c_211_105 : pg_cd 211 105 = (45, 12, 8, 0, 0) := by decide +kernel
theorem c_211_108 : pg_cd 211 108 = (3, 2, 0, 5, 0) := by decide +kernel
theorem c_211_110 : pg_cd 211 110 = (1, 1, 0, 0, 3) := by decide +kernel
theorem c_211_111 : pg_cd 211 111 = (10, 1, 0, 0, 0) := by decide +kernel
theorem c_211_112 : pg_cd 211 112 = (3, 2, 0, 4, 0) := by decide +kernel
theorem c_211_114 : pg_cd 211 114 = (54, 1, 0, 0, 0) := by decide +kernel
theorem c_211_115 : pg_cd 211 115 = (5, 1, 0, 0, 0) := by decide +kernel
theorem c_211_116 : pg_cd 211 116 = (45, 12, 8, 0, 0) := by decide +kernel
theorem c_211_119 : pg_cd 211 119 = (3, 2, 0, 5, 0) := by decide +kernel
theorem c_211_121 : pg_cd 211 121 = (1, 2, 0, 0, 7) := by decide +kernel
theorem c_211_123 : pg_cd 211 123 = (10, 1, 0, 0, 0) := by decide +kernel
theorem c_211_124 : pg_cd 211 124 = (1, 1, 0, 0, (-1)) := by decide +kernel
theorem c_211_125 : pg_cd 211 125 = (54, 1, 0, 0, 0) := by decide +kernel
theorem c_211_126 : pg_cd 211 126 = (5, 1, 0, 0, 0) := by decide +kernel
theorem c_211_127 : pg_cd 211 127 = (45, 12, 8, 0, 0) := by decide +kernel
theorem c_211_130 : pg_cd 211 130 = (3, 2, 0, 5, 0) := by decide +kernel
theorem c_211_132 : pg_cd 211 132 = (1, 2, 0, 0, 9) := by decide +kernel
theorem c_211_134 : pg_cd 211 134 = (10, 1, 0, 0, 0) := by decide +kernel
theorem c_211_135 : pg_cd 211 135 = (1, 1, 0, 0, (-1)) := by decide +kernel
theorem c_211_136 : pg_cd 211 136 = (54, 1, 0, 0, 0) := by decide +kernel
theorem c_211_137 : pg_cd 211 137 = (5, 1, 0, 0, 0) := by decide +kernel
theorem c_211_138 : pg_cd 211 138 = (45, 12, 8, 0, 0) := by decide +kernel
theorem c_211_141 : pg_cd 211 141 = (1, 1, 0, 0, 1) := by decide +kernel
theorem c_211_142 : pg_cd 211 142 = (34, 1, 0, 0, 0) := by decide +kernel
theorem c_211_143 : pg_cd 211 143 = (50, 1, 0, 0, 0) := by decide +kernel
theorem c_211_144 : pg_cd 211 144 = (1, 1, 0, 0, 1) := by decide +kernel
theorem c_211_145 : pg_cd 211 145 = (10, 1, 0, 0, 0) := by decide +kernel
theorem c_211_146 : pg_cd 211 146 = (54, 1, 0, 0, 0) := by decide +kernel
theorem c_211_147 : pg_cd 211 147 = (5, 1, 0, 0, 0) := by decide +kernel
theorem c_211_148 : pg_cd 211 148 = (45, 12, 8, 0, 0) := by decide +kernel
theorem c_211_151 : pg_cd 211 151 = (1, 1, 0, 0, 1) := by decide +kernel
theorem c_211_152 : pg_cd 211 152 = (50, 1, 0, 0, 0) := by decide +kernel
theorem c_211_153 : pg_cd 211 153 = (1, 1, 0, 0, 1) := by decide +kernel
theorem c_211_154 : pg_cd 211 154 = (11, 1, 0, 0, 0) := by decide +kernel
theorem c_211_155 : pg_cd 211 155 = (90, 0, 0, 0, 0) := by decide +kernel
theorem mi_211 : pg_mc 211 = 12 ∧ pg_na 211 = 4 ∧ pg_mx 211 = 6 := by decide +kernel
set_option maxRecDepth 20000 in
theorem u_211_0 {d : Nat} {S : zS} {σ τ : zI} {Q : zQ} {x1 : Int} {x2 : Int} {x3 : Int} {x4 : Int} (t : (rg x1) ∧ if 0 ≤ x1 ∧ x1 ≤ 60 then ((rg x2) ∧ if 50 ≤ x2 ∧ x2 ≤ 200 then ((rg x3) ∧ if 0 ≤ x3 ∧ x3 ≤ 1000000 then ((rg x4) ∧ if (-1000) ≤ x4 ∧ x4 ≤ 1000 then (if (σ 84 1) = 8 then (Q (some (.int (wI (-1)))) S σ τ) else ((0 ≤ (3300 + (16 * (σ 84 1))) + 0 ∧ (3300 + (16 * (σ 84 1))) + 0 < 112300) ∧ (0 ≤ (3300 + (16 * (σ 84 1))) + 1 ∧ (3300 + (16 * (σ 84 1))) + 1 < 112300) ∧ (0 ≤ (3300 + (16 * (σ 84 1))) + 2 ∧ (3300 + (16 * (σ 84 1))) + 2 < 112300) ∧ (0 ≤ (3300 + (16 * (σ 84 1))) + 3 ∧ (3300 + (16 * (σ 84 1))) + 3 < 112300) ∧ (0 ≤ (3300 + (16 * (σ 84 1))) + 7 ∧ (3300 + (16 * (σ 84 1))) + 7 < 112300) ∧ (0 ≤ (3300 + (16 * (σ 84 1))) + 9 ∧ (3300 + (16 * (σ 84 1))) + 9 < 112300) ∧ ((1 : Int) ≠ ((3300 + (16 * (σ 84 1))) + 9)) ∧ ((1 : Int) ≠ ((3300 + (16 * (σ 84 1))) + 7)) ∧ ((1 : Int) ≠ ((3300 + (16 * (σ 84 1))) + 3)) ∧ ((1 : Int) ≠ ((3300 + (16 * (σ 84 1))) + 2)) ∧ ((1 : Int) ≠ ((3300 + (16 * (σ 84 1))) + 1)) ∧ ((1 : Int) ≠ ((3300 + (16 * (σ 84 1))) + 0)) ∧ ∃ w24 : Int, wI w24 = wI ((σ 84 1) + 1) ∧ rg w24 ∧ Q (some (.int (wI (w24 - 1)))) S (uc σ 84 (u1 (u1 (u1 (u1 (u1 (u1 (u1 (σ 84) ((3300 + (16 * (σ 84 1))) + 0) x1) ((3300 + (16 * (σ 84 1))) + 1) x2) ((3300 + (16 * (σ 84 1))) + 2) x3) ((3300 + (16 * (σ 84 1))) + 3) x4) ((3300 + (16 * (σ 84 1))) + 7) (-1)) ((3300 + (16 * (σ 84 1))) + 9) (-1)) 1 w24)) τ)) else (Q (some (.int (wI (-1)))) S σ τ)) else (Q (some (.int (wI (-1)))) S σ τ)) else (Q (some (.int (wI (-1)))) S σ τ)) else (Q (some (.int (wI (-1)))) S σ τ)) : wi (d + 3) 211 0 [.ref 83, .int (wI x1), .int (wI x2), .int (wI x3), .int (wI x4), .retAddr 0] [] S σ τ Q := by
  obtain ⟨r1, t⟩ := t
  refine i3 c_211_0 rfl (i1 c_211_1 (i1 c_211_2 ?_))
  refine i81 (As := [.int (wI x1), .int (wI 0), .int (wI 60)]) (rest := []) c_211_4 mi_196 rfl rfl (Nat.le_of_ble_eq_true rfl) (Nat.le_of_ble_eq_true rfl) (q_196 r1 (by decide) (by decide) ?_)
  show wi (d + 3) 211 7 [.ref 83, .int (wI x1), .int (wI x2), .int (wI x3), .int (wI x4), .retAddr 0] [.int (wI (if 0 ≤ x1 ∧ x1 ≤ 60 then 1 else 0))] S σ τ Q
  refine i36e c_211_7 rfl (fun hc => ?_) (fun hc => ?_)
  · have t := iT t hc
    have ha2 : 0 ≤ x1 ∧ x1 ≤ 60 := hc
    obtain ⟨r3, t⟩ := t
    refine i3 c_211_10 rfl (i1 c_211_11 (i1 c_211_13 ?_))
    refine i81 (As := [.int (wI x2), .int (wI 50), .int (wI 200)]) (rest := []) c_211_16 mi_196 rfl rfl (Nat.le_of_ble_eq_true rfl) (Nat.le_of_ble_eq_true rfl) (q_196 r3 (by decide) (by decide) ?_)
    show wi (d + 3) 211 19 [.ref 83, .int (wI x1), .int (wI x2), .int (wI x3), .int (wI x4), .retAddr 0] [.int (wI (if 50 ≤ x2 ∧ x2 ≤ 200 then 1 else 0))] S σ τ Q
    refine i36e c_211_19 rfl (fun hc => ?_) (fun hc => ?_)
    · have t := iT t hc
      have ha4 : 50 ≤ x2 ∧ x2 ≤ 200 := hc
      obtain ⟨r5, t⟩ := t
      refine i3 c_211_22 rfl (i1 c_211_23 (i1 c_211_24 ?_))
      refine i81 (As := [.int (wI x3), .int (wI 0), .int (wI 1000000)]) (rest := []) c_211_26 mi_196 rfl rfl (Nat.le_of_ble_eq_true rfl) (Nat.le_of_ble_eq_true rfl) (q_196 r5 (by decide) (by decide) ?_)
      show wi (d + 3) 211 29 [.ref 83, .int (wI x1), .int (wI x2), .int (wI x3), .int (wI x4), .retAddr 0] [.int (wI (if 0 ≤ x3 ∧ x3 ≤ 1000000 then 1 else 0))] S σ τ Q
      refine i36e c_211_29 rfl (fun hc => ?_) (fun hc => ?_)
      · have t := iT t hc
        have ha6 : 0 ≤ x3 ∧ x3 ≤ 1000000 := hc
        obtain ⟨r7, t⟩ := t
        refine i3 c_211_32 rfl (i1 c_211_34 (i1 c_211_37 ?_))
        refine i81 (As := [.int (wI x4), .int (wI (-1000)), .int (wI 1000)]) (rest := []) c_211_40 mi_196 rfl rfl (Nat.le_of_ble_eq_true rfl) (Nat.le_of_ble_eq_true rfl) (q_196 r7 (by decide) (by decide) ?_)
        show wi (d + 3) 211 43 [.ref 83, .int (wI x1), .int (wI x2), .int (wI x3), .int (wI x4), .retAddr 0] [.int (wI (if (-1000) ≤ x4 ∧ x4 ≤ 1000 then 1 else 0))] S σ τ Q
        refine i36e c_211_43 rfl (fun hc => ?_) (fun hc => ?_)
        · have t := iT t hc
          have ha8 : (-1000) ≤ x4 ∧ x4 ≤ 1000 := hc
          refine i5 c_211_46 rfl (i45 c_211_47 (lo (c := 83) (kd := 112) (n := 0) rfl (by decide)) (lro (c := 83) (k := 0) (j := 84) (by decide)) (i1 c_211_50 (wi_ok (fun K9 => ?_))))
          refine i50 (v := σ 84 1) c_211_51 (lo (c := 84) (kd := 0) (n := 112300) rfl (by decide)) (by decide) (by decide) rfl (i1 c_211_52 ?_)
          refine i37 c_211_54 (rge_ K9 rfl) (by decide) rfl (fun hc => ?_) (fun hc => ?_)
          · have t := iF t hc
            have ha10 : ¬ ((σ 84 1) = 8) := hc
            obtain ⟨r11, t⟩ := t
            obtain ⟨r12, t⟩ := t
            obtain ⟨r13, t⟩ := t
            obtain ⟨r14, t⟩ := t
            obtain ⟨r15, t⟩ := t
            obtain ⟨r16, t⟩ := t
            obtain ⟨n17, t⟩ := t
            obtain ⟨n18, t⟩ := t
            obtain ⟨n19, t⟩ := t
            obtain ⟨n20, t⟩ := t
            obtain ⟨n21, t⟩ := t
            obtain ⟨n22, t⟩ := t
            refine i1 c_211_59 (i1 c_211_62 (i5 c_211_64 rfl (i45 c_211_65 (lo (c := 83) (kd := 112) (n := 0) rfl (by decide)) (lro (c := 83) (k := 0) (j := 84) (by decide)) (i1 c_211_68 (i50 (v := σ 84 1) c_211_69 (lo (c := 84) (kd := 0) (n := 112300) rfl (by decide)) (by decide) (by decide) rfl (i12 c_211_70 (i10 c_211_71 (i6 (L' := [.ref 83, .int (wI x1), .int (wI x2), .int (wI x3), .int (wI x4), .int (wI (3300 + (16 * (σ 84 1))))]) c_211_72 rfl (i5 c_211_74 rfl (i45 c_211_75 (lo (c := 83) (kd := 112) (n := 0) rfl (by decide)) (lro (c := 83) (k := 0) (j := 84) (by decide)) (i3 c_211_78 rfl (i1 c_211_80 (i10 c_211_81 (i3 c_211_82 rfl (i54 (σ1 := uc σ 84 (u1 (σ 84) ((3300 + (16 * (σ 84 1))) + 0) x1)) c_211_83 (lo (c := 84) (kd := 0) (n := 112300) rfl (by decide)) (by decide) r11 (by decide) rfl r1 (wr_ rfl rfl) (i5 c_211_84 rfl (i45 c_211_85 (lo (c := 83) (kd := 112) (n := 0) rfl (by decide)) (lro (c := 83) (k := 0) (j := 84) (by decide)) (i3 c_211_88 rfl (i1 c_211_90 (i10 c_211_91 (i3 c_211_92 rfl (i54 (σ1 := uc σ 84 (u1 (u1 (σ 84) ((3300 + (16 * (σ 84 1))) + 0) x1) ((3300 + (16 * (σ 84 1))) + 1) x2)) c_211_93 (lo (c := 84) (kd := 0) (n := 112300) rfl (by decide)) (by decide) r12 (by decide) rfl r3 (wr_ (uc_s _ _ _) (uc_uc _ _ _ _)) (i5 c_211_94 rfl (i45 c_211_95 (lo (c := 83) (kd := 112) (n := 0) rfl (by decide)) (lro (c := 83) (k := 0) (j := 84) (by decide)) (i3 c_211_98 rfl (i1 c_211_100 (i10 c_211_101 (i3 c_211_102 rfl (i54 (σ1 := uc σ 84 (u1 (u1 (u1 (σ 84) ((3300 + (16 * (σ 84 1))) + 0) x1) ((3300 + (16 * (σ 84 1))) + 1) x2) ((3300 + (16 * (σ 84 1))) + 2) x3)) c_211_103 (lo (c := 84) (kd := 0) (n := 112300) rfl (by decide)) (by decide) r13 (by decide) rfl r5 (wr_ (uc_s _ _ _) (uc_uc _ _ _ _)) (i5 c_211_104 rfl (i45 c_211_105 (lo (c := 83) (kd := 112) (n := 0) rfl (by decide)) (lro (c := 83) (k := 0) (j := 84) (by decide)) (i3 c_211_108 rfl (i1 c_211_110 (i10 c_211_111 (i3 c_211_112 rfl (i54 (σ1 := uc σ 84 (u1 (u1 (u1 (u1 (σ 84) ((3300 + (16 * (σ 84 1))) + 0) x1) ((3300 + (16 * (σ 84 1))) + 1) x2) ((3300 + (16 * (σ 84 1))) + 2) x3) ((3300 + (16 * (σ 84 1))) + 3) x4)) c_211_114 (lo (c := 84) (kd := 0) (n := 112300) rfl (by decide)) (by decide) r14 (by decide) rfl r7 (wr_ (uc_s _ _ _) (uc_uc _ _ _ _)) (i5 c_211_115 rfl (i45 c_211_116 (lo (c := 83) (kd := 112) (n := 0) rfl (by decide)) (lro (c := 83) (k := 0) (j := 84) (by decide)) (i3 c_211_119 rfl (i1 c_211_121 (i10 c_211_123 (i1 c_211_124 (i54 (σ1 := uc σ 84 (u1 (u1 (u1 (u1 (u1 (σ 84) ((3300 + (16 * (σ 84 1))) + 0) x1) ((3300 + (16 * (σ 84 1))) + 1) x2) ((3300 + (16 * (σ 84 1))) + 2) x3) ((3300 + (16 * (σ 84 1))) + 3) x4) ((3300 + (16 * (σ 84 1))) + 7) (-1))) c_211_125 (lo (c := 84) (kd := 0) (n := 112300) rfl (by decide)) (by decide) r15 (by decide) rfl (by decide) (wr_ (uc_s _ _ _) (uc_uc _ _ _ _)) (i5 c_211_126 rfl (i45 c_211_127 (lo (c := 83) (kd := 112) (n := 0) rfl (by decide)) (lro (c := 83) (k := 0) (j := 84) (by decide)) (i3 c_211_130 rfl (i1 c_211_132 (i10 c_211_134 (i1 c_211_135 (i54 (σ1 := uc σ 84 (u1 (u1 (u1 (u1 (u1 (u1 (σ 84) ((3300 + (16 * (σ 84 1))) + 0) x1) ((3300 + (16 * (σ 84 1))) + 1) x2) ((3300 + (16 * (σ 84 1))) + 2) x3) ((3300 + (16 * (σ 84 1))) + 3) x4) ((3300 + (16 * (σ 84 1))) + 7) (-1)) ((3300 + (16 * (σ 84 1))) + 9) (-1))) c_211_136 (lo (c := 84) (kd := 0) (n := 112300) rfl (by decide)) (by decide) r16 (by decide) rfl (by decide) (wr_ (uc_s _ _ _) (uc_uc _ _ _ _)) (i5 c_211_137 rfl (i45 c_211_138 (lo (c := 83) (kd := 112) (n := 0) rfl (by decide)) (lro (c := 83) (k := 0) (j := 84) (by decide)) (i1 c_211_141 (i34a c_211_142 (wi_ok (fun K23 => ?_))))))))))))))))))))))))))))))))))))))))))))))))))))))))
            obtain ⟨w24, e25, r26, t⟩ := t
            refine i50 (v := σ 84 1) c_211_143 (lo (c := 84) (kd := 0) (n := 112300) rfl (by decide)) (by decide) (by decide) (((((((congrFun (uc_s _ _ _) _).trans (u1_n n17)).trans (u1_n n18)).trans (u1_n n19)).trans (u1_n n20)).trans (u1_n n21)).trans (u1_n n22)) (i1 c_211_144 (i10 c_211_145 (i54 (σ1 := uc σ 84 (u1 (u1 (u1 (u1 (u1 (u1 (u1 (σ 84) ((3300 + (16 * (σ 84 1))) + 0) x1) ((3300 + (16 * (σ 84 1))) + 1) x2) ((3300 + (16 * (σ 84 1))) + 2) x3) ((3300 + (16 * (σ 84 1))) + 3) x4) ((3300 + (16 * (σ 84 1))) + 7) (-1)) ((3300 + (16 * (σ 84 1))) + 9) (-1)) 1 w24)) c_211_146 (lo (c := 84) (kd := 0) (n := 112300) rfl (by decide)) (by decide) (by decide) (by decide) e25 r26 (wr_ (uc_s _ _ _) (uc_uc _ _ _ _)) (i5 c_211_147 rfl (i45 c_211_148 (lo (c := 83) (kd := 112) (n := 0) rfl (by decide)) (lro (c := 83) (k := 0) (j := 84) (by decide)) (i1 c_211_151 (wi_ok (fun K27 => ?_))))))))
            refine i50 (v := w24) c_211_152 (lo (c := 84) (kd := 0) (n := 112300) rfl (by decide)) (by decide) (by decide) ((congrFun (uc_s _ _ _) _).trans (u1_s _ _ _)) (i1 c_211_153 (i11 c_211_154 ?_))
            exact i90 c_211_155 t
          · have t := iT t (Decidable.not_not.mp hc)
            have ha10 : (σ 84 1) = 8 := Decidable.not_not.mp hc
            refine i1 c_211_57 ?_
            exact i90 c_211_58 t
        · have t := iF t hc
          have ha8 : ¬ ((-1000) ≤ x4 ∧ x4 ≤ 1000) := hc
          refine i1 c_211_57 ?_
          exact i90 c_211_58 t
      · have t := iF t hc
        have ha6 : ¬ (0 ≤ x3 ∧ x3 ≤ 1000000) := hc
        refine i1 c_211_57 ?_
        exact i90 c_211_58 t
    · have t := iF t hc
      have ha4 : ¬ (50 ≤ x2 ∧ x2 ≤ 200) := hc
      refine i1 c_211_57 ?_
      exact i90 c_211_58 t
  · have t := iF t hc
    have ha2 : ¬ (0 ≤ x1 ∧ x1 ≤ 60) := hc
    refine i1 c_211_57 ?_
    exact i90 c_211_58 t
theorem q_211 {d : Nat} {S : zS} {σ τ : zI} {Q : zQ} {looms : Int} {speed : Int} {coins : Int} {least : Int} (p0 : rg looms) (p1 : rg speed) (p2 : rg coins) (p3 : rg least) (p4 : 0 ≤ σ 84 1 ∧ σ 84 1 ≤ 8) (t : Q (some (.int (wI (v_mill (σ 84) looms speed coins least)))) S (uc σ 84 (r_mill (σ 84) looms speed coins least)) τ) : wc (d + 3) 211 [.ref 83, .int (wI looms), .int (wI speed), .int (wI coins), .int (wI least)] S σ τ Q := by
  refine wc_ok fun K => ?_
  refine wc_of mi_211 rfl (u_211_0 ?_)
  unfold r_mill v_mill at t
  by_cases hk : k_mill (σ 84) looms speed coins least
  · rw [if_pos hk, if_pos hk] at t
    simp only [k_mill] at hk
    repeat' (first | exact t | refine ⟨_, rfl, by omega, ?_⟩ | refine ⟨by omega, ?_⟩ | refine ifI (fun _ => ?_) (fun _ => ?_) | (exfalso; omega))
  · rw [if_neg hk, if_neg hk, uc_id] at t
    simp only [k_mill] at hk
    repeat' (first | exact t | refine ⟨_, rfl, by omega, ?_⟩ | refine ⟨by omega, ?_⟩ | refine ifI (fun _ => ?_) (fun _ => ?_) | (exfalso; omega))
abbrev k_shop (a : Int → Int) (coins trust rent : Int) : Prop := (0 ≤ coins ∧ coins ≤ 100000) ∧ (0 ≤ trust ∧ trust ≤ 400) ∧ (0 ≤ rent ∧ rent ≤ 1000) ∧ a 2 ≠ 4
def r_shop (a : Int → Int) (coins trust rent : Int) : Int → Int := if k_shop a coins trust rent then u1 (u1 (u1 (u1 a (3428 + 8 * a 2) (coins)) (3428 + 8 * a 2 + 1) (trust)) (3428 + 8 * a 2 + 2) (rent)) (2) (a 2 + 1) else a
def v_shop (a : Int → Int) (coins trust rent : Int) : Int := if k_shop a coins trust rent then a 2 + 1 - 1 else -1
-- method 212: MillTownModel.shop(III)I
theorem c_212_0 : pg_cd 212 0 = (3, 1, 0, 1, 0) := by decide +kernel
theorem c_212_1 : pg_cd 212 1 = (1, 1, 0, 0, 0) := by decide +kernel
theorem c_212_2 : pg_cd 212 2 = (1, 2, 71, 0, 100000) := by decide +kernel
theorem c_212_4 : pg_cd 212 4 = (81, 196, 76, 0, 0) := by decide +kernel
theorem c_212_7 : pg_cd 212 7 = (36, 3, 0, 0, 35) := by decide +kernel
theorem c_212_10 : pg_cd 212 10 = (3, 1, 0, 2, 0) := by decide +kernel
theorem c_212_11 : pg_cd 212 11 = (1, 1, 0, 0, 0) := by decide +kernel
theorem c_212_12 : pg_cd 212 12 = (1, 3, 0, 0, 400) := by decide +kernel
theorem c_212_15 : pg_cd 212 15 = (81, 196, 76, 0, 0) := by decide +kernel
theorem c_212_18 : pg_cd 212 18 = (36, 3, 0, 0, 24) := by decide +kernel
theorem c_212_21 : pg_cd 212 21 = (3, 1, 0, 3, 0) := by decide +kernel
theorem c_212_22 : pg_cd 212 22 = (1, 1, 0, 0, 0) := by decide +kernel
theorem c_212_23 : pg_cd 212 23 = (1, 3, 0, 0, 1000) := by decide +kernel
theorem c_212_26 : pg_cd 212 26 = (81, 196, 76, 0, 0) := by decide +kernel
theorem c_212_29 : pg_cd 212 29 = (36, 3, 0, 0, 13) := by decide +kernel
theorem c_212_32 : pg_cd 212 32 = (5, 1, 0, 0, 0) := by decide +kernel
theorem c_212_33 : pg_cd 212 33 = (45, 12, 8, 0, 0) := by decide +kernel
theorem c_212_36 : pg_cd 212 36 = (1, 1, 0, 0, 2) := by decide +kernel
theorem c_212_37 : pg_cd 212 37 = (50, 1, 0, 0, 0) := by decide +kernel
theorem c_212_38 : pg_cd 212 38 = (1, 1, 0, 0, 4) := by decide +kernel
theorem c_212_39 : pg_cd 212 39 = (37, 3, 0, 1, 5) := by decide +kernel
theorem c_212_42 : pg_cd 212 42 = (1, 1, 0, 0, (-1)) := by decide +kernel
theorem c_212_43 : pg_cd 212 43 = (90, 0, 0, 0, 0) := by decide +kernel
theorem c_212_44 : pg_cd 212 44 = (1, 3, 0, 0, 3428) := by decide +kernel
theorem c_212_47 : pg_cd 212 47 = (1, 2, 0, 0, 8) := by decide +kernel
theorem c_212_49 : pg_cd 212 49 = (5, 1, 0, 0, 0) := by decide +kernel
theorem c_212_50 : pg_cd 212 50 = (45, 12, 8, 0, 0) := by decide +kernel
theorem c_212_53 : pg_cd 212 53 = (1, 1, 0, 0, 2) := by decide +kernel
theorem c_212_54 : pg_cd 212 54 = (50, 1, 0, 0, 0) := by decide +kernel
theorem c_212_55 : pg_cd 212 55 = (12, 1, 0, 0, 0) := by decide +kernel
theorem c_212_56 : pg_cd 212 56 = (10, 1, 0, 0, 0) := by decide +kernel
theorem c_212_57 : pg_cd 212 57 = (6, 2, 0, 4, 0) := by decide +kernel
theorem c_212_59 : pg_cd 212 59 = (5, 1, 0, 0, 0) := by decide +kernel
theorem c_212_60 : pg_cd 212 60 = (45, 12, 8, 0, 0) := by decide +kernel
theorem c_212_63 : pg_cd 212 63 = (3, 2, 0, 4, 0) := by decide +kernel
theorem c_212_65 : pg_cd 212 65 = (3, 1, 0, 1, 0) := by decide +kernel
theorem c_212_66 : pg_cd 212 66 = (54, 1, 0, 0, 0) := by decide +kernel
theorem c_212_67 : pg_cd 212 67 = (5, 1, 0, 0, 0) := by decide +kernel
theorem c_212_68 : pg_cd 212 68 = (45, 12, 8, 0, 0) := by decide +kernel
theorem c_212_71 : pg_cd 212 71 = (3, 2, 0, 4, 0) := by decide +kernel
theorem c_212_73 : pg_cd 212 73 = (1, 1, 0, 0, 1) := by decide +kernel
theorem c_212_74 : pg_cd 212 74 = (10, 1, 0, 0, 0) := by decide +kernel
theorem c_212_75 : pg_cd 212 75 = (3, 1, 0, 2, 0) := by decide +kernel
theorem c_212_76 : pg_cd 212 76 = (54, 1, 0, 0, 0) := by decide +kernel
theorem c_212_77 : pg_cd 212 77 = (5, 1, 0, 0, 0) := by decide +kernel
theorem c_212_78 : pg_cd 212 78 = (45, 12, 8, 0, 0) := by decide +kernel
theorem c_212_81 : pg_cd 212 81 = (3, 2, 0, 4, 0) := by decide +kernel
theorem c_212_83 : pg_cd 212 83 = (1, 1, 0, 0, 2) := by decide +kernel
theorem c_212_84 : pg_cd 212 84 = (10, 1, 0, 0, 0) := by decide +kernel
theorem c_212_85 : pg_cd 212 85 = (3, 1, 0, 3, 0) := by decide +kernel
theorem c_212_86 : pg_cd 212 86 = (54, 1, 0, 0, 0) := by decide +kernel
theorem c_212_87 : pg_cd 212 87 = (5, 1, 0, 0, 0) := by decide +kernel
theorem c_212_88 : pg_cd 212 88 = (45, 12, 8, 0, 0) := by decide +kernel
theorem c_212_91 : pg_cd 212 91 = (1, 1, 0, 0, 2) := by decide +kernel
theorem c_212_92 : pg_cd 212 92 = (34, 1, 0, 0, 0) := by decide +kernel
theorem c_212_93 : pg_cd 212 93 = (50, 1, 0, 0, 0) := by decide +kernel
theorem c_212_94 : pg_cd 212 94 = (1, 1, 0, 0, 1) := by decide +kernel
theorem c_212_95 : pg_cd 212 95 = (10, 1, 0, 0, 0) := by decide +kernel
theorem c_212_96 : pg_cd 212 96 = (54, 1, 0, 0, 0) := by decide +kernel
theorem c_212_97 : pg_cd 212 97 = (5, 1, 0, 0, 0) := by decide +kernel
theorem c_212_98 : pg_cd 212 98 = (45, 12, 8, 0, 0) := by decide +kernel
theorem c_212_101 : pg_cd 212 101 = (1, 1, 0, 0, 2) := by decide +kernel
theorem c_212_102 : pg_cd 212 102 = (50, 1, 0, 0, 0) := by decide +kernel
theorem c_212_103 : pg_cd 212 103 = (1, 1, 0, 0, 1) := by decide +kernel
theorem c_212_104 : pg_cd 212 104 = (11, 1, 0, 0, 0) := by decide +kernel
theorem c_212_105 : pg_cd 212 105 = (90, 0, 0, 0, 0) := by decide +kernel
theorem mi_212 : pg_mc 212 = 12 ∧ pg_na 212 = 3 ∧ pg_mx 212 = 5 := by decide +kernel
set_option maxRecDepth 20000 in
theorem u_212_0 {d : Nat} {S : zS} {σ τ : zI} {Q : zQ} {x1 : Int} {x2 : Int} {x3 : Int} (t : (rg x1) ∧ if 0 ≤ x1 ∧ x1 ≤ 100000 then ((rg x2) ∧ if 0 ≤ x2 ∧ x2 ≤ 400 then ((rg x3) ∧ if 0 ≤ x3 ∧ x3 ≤ 1000 then (if (σ 84 2) = 4 then (Q (some (.int (wI (-1)))) S σ τ) else ((0 ≤ 3428 + (8 * (σ 84 2)) ∧ 3428 + (8 * (σ 84 2)) < 112300) ∧ (0 ≤ (3428 + (8 * (σ 84 2))) + 1 ∧ (3428 + (8 * (σ 84 2))) + 1 < 112300) ∧ (0 ≤ (3428 + (8 * (σ 84 2))) + 2 ∧ (3428 + (8 * (σ 84 2))) + 2 < 112300) ∧ ((2 : Int) ≠ ((3428 + (8 * (σ 84 2))) + 2)) ∧ ((2 : Int) ≠ ((3428 + (8 * (σ 84 2))) + 1)) ∧ ((2 : Int) ≠ (3428 + (8 * (σ 84 2)))) ∧ ∃ w16 : Int, wI w16 = wI ((σ 84 2) + 1) ∧ rg w16 ∧ Q (some (.int (wI (w16 - 1)))) S (uc σ 84 (u1 (u1 (u1 (u1 (σ 84) (3428 + (8 * (σ 84 2))) x1) ((3428 + (8 * (σ 84 2))) + 1) x2) ((3428 + (8 * (σ 84 2))) + 2) x3) 2 w16)) τ)) else (Q (some (.int (wI (-1)))) S σ τ)) else (Q (some (.int (wI (-1)))) S σ τ)) else (Q (some (.int (wI (-1)))) S σ τ)) : wi (d + 3) 212 0 [.ref 83, .int (wI x1), .int (wI x2), .int (wI x3), .retAddr 0] [] S σ τ Q := by
  obtain ⟨r1, t⟩ := t
  refine i3 c_212_0 rfl (i1 c_212_1 (i1 c_212_2 ?_))
  refine i81 (As := [.int (wI x1), .int (wI 0), .int (wI 100000)]) (rest := []) c_212_4 mi_196 rfl rfl (Nat.le_of_ble_eq_true rfl) (Nat.le_of_ble_eq_true rfl) (q_196 r1 (by decide) (by decide) ?_)
  show wi (d + 3) 212 7 [.ref 83, .int (wI x1), .int (wI x2), .int (wI x3), .retAddr 0] [.int (wI (if 0 ≤ x1 ∧ x1 ≤ 100000 then 1 else 0))] S σ τ Q
  refine i36e c_212_7 rfl (fun hc => ?_) (fun hc => ?_)
  · have t := iT t hc
    have ha2 : 0 ≤ x1 ∧ x1 ≤ 100000 := hc
    obtain ⟨r3, t⟩ := t
    refine i3 c_212_10 rfl (i1 c_212_11 (i1 c_212_12 ?_))
    refine i81 (As := [.int (wI x2), .int (wI 0), .int (wI 400)]) (rest := []) c_212_15 mi_196 rfl rfl (Nat.le_of_ble_eq_true rfl) (Nat.le_of_ble_eq_true rfl) (q_196 r3 (by decide) (by decide) ?_)
    show wi (d + 3) 212 18 [.ref 83, .int (wI x1), .int (wI x2), .int (wI x3), .retAddr 0] [.int (wI (if 0 ≤ x2 ∧ x2 ≤ 400 then 1 else 0))] S σ τ Q
    refine i36e c_212_18 rfl (fun hc => ?_) (fun hc => ?_)
    · have t := iT t hc
      have ha4 : 0 ≤ x2 ∧ x2 ≤ 400 := hc
      obtain ⟨r5, t⟩ := t
      refine i3 c_212_21 rfl (i1 c_212_22 (i1 c_212_23 ?_))
      refine i81 (As := [.int (wI x3), .int (wI 0), .int (wI 1000)]) (rest := []) c_212_26 mi_196 rfl rfl (Nat.le_of_ble_eq_true rfl) (Nat.le_of_ble_eq_true rfl) (q_196 r5 (by decide) (by decide) ?_)
      show wi (d + 3) 212 29 [.ref 83, .int (wI x1), .int (wI x2), .int (wI x3), .retAddr 0] [.int (wI (if 0 ≤ x3 ∧ x3 ≤ 1000 then 1 else 0))] S σ τ Q
      refine i36e c_212_29 rfl (fun hc => ?_) (fun hc => ?_)
      · have t := iT t hc
        have ha6 : 0 ≤ x3 ∧ x3 ≤ 1000 := hc
        refine i5 c_212_32 rfl (i45 c_212_33 (lo (c := 83) (kd := 112) (n := 0) rfl (by decide)) (lro (c := 83) (k := 0) (j := 84) (by decide)) (i1 c_212_36 (wi_ok (fun K7 => ?_))))
        refine i50 (v := σ 84 2) c_212_37 (lo (c := 84) (kd := 0) (n := 112300) rfl (by decide)) (by decide) (by decide) rfl (i1 c_212_38 ?_)
        refine i37 c_212_39 (rge_ K7 rfl) (by decide) rfl (fun hc => ?_) (fun hc => ?_)
        · have t := iF t hc
          have ha8 : ¬ ((σ 84 2) = 4) := hc
          obtain ⟨r9, t⟩ := t
          obtain ⟨r10, t⟩ := t
          obtain ⟨r11, t⟩ := t
          obtain ⟨n12, t⟩ := t
          obtain ⟨n13, t⟩ := t
          obtain ⟨n14, t⟩ := t
          refine i1 c_212_44 (i1 c_212_47 (i5 c_212_49 rfl (i45 c_212_50 (lo (c := 83) (kd := 112) (n := 0) rfl (by decide)) (lro (c := 83) (k := 0) (j := 84) (by decide)) (i1 c_212_53 (i50 (v := σ 84 2) c_212_54 (lo (c := 84) (kd := 0) (n := 112300) rfl (by decide)) (by decide) (by decide) rfl (i12 c_212_55 (i10 c_212_56 (i6 (L' := [.ref 83, .int (wI x1), .int (wI x2), .int (wI x3), .int (wI (3428 + (8 * (σ 84 2))))]) c_212_57 rfl (i5 c_212_59 rfl (i45 c_212_60 (lo (c := 83) (kd := 112) (n := 0) rfl (by decide)) (lro (c := 83) (k := 0) (j := 84) (by decide)) (i3 c_212_63 rfl (i3 c_212_65 rfl (i54 (σ1 := uc σ 84 (u1 (σ 84) (3428 + (8 * (σ 84 2))) x1)) c_212_66 (lo (c := 84) (kd := 0) (n := 112300) rfl (by decide)) (by decide) r9 (by decide) rfl r1 (wr_ rfl rfl) (i5 c_212_67 rfl (i45 c_212_68 (lo (c := 83) (kd := 112) (n := 0) rfl (by decide)) (lro (c := 83) (k := 0) (j := 84) (by decide)) (i3 c_212_71 rfl (i1 c_212_73 (i10 c_212_74 (i3 c_212_75 rfl (i54 (σ1 := uc σ 84 (u1 (u1 (σ 84) (3428 + (8 * (σ 84 2))) x1) ((3428 + (8 * (σ 84 2))) + 1) x2)) c_212_76 (lo (c := 84) (kd := 0) (n := 112300) rfl (by decide)) (by decide) r10 (by decide) rfl r3 (wr_ (uc_s _ _ _) (uc_uc _ _ _ _)) (i5 c_212_77 rfl (i45 c_212_78 (lo (c := 83) (kd := 112) (n := 0) rfl (by decide)) (lro (c := 83) (k := 0) (j := 84) (by decide)) (i3 c_212_81 rfl (i1 c_212_83 (i10 c_212_84 (i3 c_212_85 rfl (i54 (σ1 := uc σ 84 (u1 (u1 (u1 (σ 84) (3428 + (8 * (σ 84 2))) x1) ((3428 + (8 * (σ 84 2))) + 1) x2) ((3428 + (8 * (σ 84 2))) + 2) x3)) c_212_86 (lo (c := 84) (kd := 0) (n := 112300) rfl (by decide)) (by decide) r11 (by decide) rfl r5 (wr_ (uc_s _ _ _) (uc_uc _ _ _ _)) (i5 c_212_87 rfl (i45 c_212_88 (lo (c := 83) (kd := 112) (n := 0) rfl (by decide)) (lro (c := 83) (k := 0) (j := 84) (by decide)) (i1 c_212_91 (i34a c_212_92 (wi_ok (fun K15 => ?_)))))))))))))))))))))))))))))))))
          obtain ⟨w16, e17, r18, t⟩ := t
          refine i50 (v := σ 84 2) c_212_93 (lo (c := 84) (kd := 0) (n := 112300) rfl (by decide)) (by decide) (by decide) ((((congrFun (uc_s _ _ _) _).trans (u1_n n12)).trans (u1_n n13)).trans (u1_n n14)) (i1 c_212_94 (i10 c_212_95 (i54 (σ1 := uc σ 84 (u1 (u1 (u1 (u1 (σ 84) (3428 + (8 * (σ 84 2))) x1) ((3428 + (8 * (σ 84 2))) + 1) x2) ((3428 + (8 * (σ 84 2))) + 2) x3) 2 w16)) c_212_96 (lo (c := 84) (kd := 0) (n := 112300) rfl (by decide)) (by decide) (by decide) (by decide) e17 r18 (wr_ (uc_s _ _ _) (uc_uc _ _ _ _)) (i5 c_212_97 rfl (i45 c_212_98 (lo (c := 83) (kd := 112) (n := 0) rfl (by decide)) (lro (c := 83) (k := 0) (j := 84) (by decide)) (i1 c_212_101 (wi_ok (fun K19 => ?_))))))))
          refine i50 (v := w16) c_212_102 (lo (c := 84) (kd := 0) (n := 112300) rfl (by decide)) (by decide) (by decide) ((congrFun (uc_s _ _ _) _).trans (u1_s _ _ _)) (i1 c_212_103 (i11 c_212_104 ?_))
          exact i90 c_212_105 t
        · have t := iT t (Decidable.not_not.mp hc)
          have ha8 : (σ 84 2) = 4 := Decidable.not_not.mp hc
          refine i1 c_212_42 ?_
          exact i90 c_212_43 t
      · have t := iF t hc
        have ha6 : ¬ (0 ≤ x3 ∧ x3 ≤ 1000) := hc
        refine i1 c_212_42 ?_
        exact i90 c_212_43 t
    · have t := iF t hc
      have ha4 : ¬ (0 ≤ x2 ∧ x2 ≤ 400) := hc
      refine i1 c_212_42 ?_
      exact i90 c_212_43 t
  · have t := iF t hc
    have ha2 : ¬ (0 ≤ x1 ∧ x1 ≤ 100000) := hc
    refine i1 c_212_42 ?_
    exact i90 c_212_43 t
theorem q_212 {d : Nat} {S : zS} {σ τ : zI} {Q : zQ} {coins : Int} {trust : Int} {rent : Int} (p0 : rg coins) (p1 : rg trust) (p2 : rg rent) (p3 : 0 ≤ σ 84 2 ∧ σ 84 2 ≤ 4) (t : Q (some (.int (wI (v_shop (σ 84) coins trust rent)))) S (uc σ 84 (r_shop (σ 84) coins trust rent)) τ) : wc (d + 3) 212 [.ref 83, .int (wI coins), .int (wI trust), .int (wI rent)] S σ τ Q := by
  refine wc_ok fun K => ?_
  refine wc_of mi_212 rfl (u_212_0 ?_)
  unfold r_shop v_shop at t
  by_cases hk : k_shop (σ 84) coins trust rent
  · rw [if_pos hk, if_pos hk] at t
    simp only [k_shop] at hk
    repeat' (first | exact t | refine ⟨_, rfl, by omega, ?_⟩ | refine ⟨by omega, ?_⟩ | refine ifI (fun _ => ?_) (fun _ => ?_) | (exfalso; omega))
  · rw [if_neg hk, if_neg hk, uc_id] at t
    simp only [k_shop] at hk
    repeat' (first | exact t | refine ⟨_, rfl, by omega, ?_⟩ | refine ⟨by omega, ?_⟩ | refine ifI (fun _ => ?_) (fun _ => ?_) | (exfalso; omega))
abbrev k_home (a : Int → Int) (shop coins : Int) : Prop := (0 ≤ shop ∧ shop ≤ a 2 - 1) ∧ (0 ≤ coins ∧ coins ≤ 10000) ∧ a 3 ≠ 24
def r_home (a : Int → Int) (shop coins : Int) : Int → Int := if k_home a shop coins then u1 (u1 (u1 a (3460 + 8 * a 3 + 0) (shop)) (3460 + 8 * a 3 + 1) (coins)) (3) (a 3 + 1) else a
def v_home (a : Int → Int) (shop coins : Int) : Int := if k_home a shop coins then a 3 + 1 - 1 else -1
-- method 213: MillTownModel.home(II)I
theorem c_213_0 : pg_cd 213 0 = (3, 1, 0, 1, 0) := by decide +kernel
theorem c_213_1 : pg_cd 213 1 = (1, 1, 0, 0, 0) := by decide +kernel
theorem c_213_2 : pg_cd 213 2 = (5, 1, 0, 0, 0) := by decide +kernel
theorem c_213_3 : pg_cd 213 3 = (45, 12, 8, 0, 0) := by decide +kernel
theorem c_213_6 : pg_cd 213 6 = (1, 1, 0, 0, 2) := by decide +kernel
theorem c_213_7 : pg_cd 213 7 = (50, 1, 0, 0, 0) := by decide +kernel
theorem c_213_8 : pg_cd 213 8 = (1, 1, 0, 0, 1) := by decide +kernel
theorem c_213_9 : pg_cd 213 9 = (11, 1, 0, 0, 0) := by decide +kernel
theorem c_213_10 : pg_cd 213 10 = (81, 196, 76, 0, 0) := by decide +kernel
theorem c_213_13 : pg_cd 213 13 = (36, 3, 0, 0, 25) := by decide +kernel
theorem c_213_16 : pg_cd 213 16 = (3, 1, 0, 2, 0) := by decide +kernel
theorem c_213_17 : pg_cd 213 17 = (1, 1, 0, 0, 0) := by decide +kernel
theorem c_213_18 : pg_cd 213 18 = (1, 3, 0, 0, 10000) := by decide +kernel
theorem c_213_21 : pg_cd 213 21 = (81, 196, 76, 0, 0) := by decide +kernel
theorem c_213_24 : pg_cd 213 24 = (36, 3, 0, 0, 14) := by decide +kernel
theorem c_213_27 : pg_cd 213 27 = (5, 1, 0, 0, 0) := by decide +kernel
theorem c_213_28 : pg_cd 213 28 = (45, 12, 8, 0, 0) := by decide +kernel
theorem c_213_31 : pg_cd 213 31 = (1, 1, 0, 0, 3) := by decide +kernel
theorem c_213_32 : pg_cd 213 32 = (50, 1, 0, 0, 0) := by decide +kernel
theorem c_213_33 : pg_cd 213 33 = (1, 2, 0, 0, 24) := by decide +kernel
theorem c_213_35 : pg_cd 213 35 = (37, 3, 0, 1, 5) := by decide +kernel
theorem c_213_38 : pg_cd 213 38 = (1, 1, 0, 0, (-1)) := by decide +kernel
theorem c_213_39 : pg_cd 213 39 = (90, 0, 0, 0, 0) := by decide +kernel
theorem c_213_40 : pg_cd 213 40 = (1, 3, 0, 0, 3460) := by decide +kernel
theorem c_213_43 : pg_cd 213 43 = (1, 2, 0, 0, 8) := by decide +kernel
theorem c_213_45 : pg_cd 213 45 = (5, 1, 0, 0, 0) := by decide +kernel
theorem c_213_46 : pg_cd 213 46 = (45, 12, 8, 0, 0) := by decide +kernel
theorem c_213_49 : pg_cd 213 49 = (1, 1, 0, 0, 3) := by decide +kernel
theorem c_213_50 : pg_cd 213 50 = (50, 1, 0, 0, 0) := by decide +kernel
theorem c_213_51 : pg_cd 213 51 = (12, 1, 0, 0, 0) := by decide +kernel
theorem c_213_52 : pg_cd 213 52 = (10, 1, 0, 0, 0) := by decide +kernel
theorem c_213_53 : pg_cd 213 53 = (6, 1, 0, 3, 0) := by decide +kernel
theorem c_213_54 : pg_cd 213 54 = (5, 1, 0, 0, 0) := by decide +kernel
theorem c_213_55 : pg_cd 213 55 = (45, 12, 8, 0, 0) := by decide +kernel
theorem c_213_58 : pg_cd 213 58 = (3, 1, 0, 3, 0) := by decide +kernel
theorem c_213_59 : pg_cd 213 59 = (1, 1, 0, 0, 0) := by decide +kernel
theorem c_213_60 : pg_cd 213 60 = (10, 1, 0, 0, 0) := by decide +kernel
theorem c_213_61 : pg_cd 213 61 = (3, 1, 0, 1, 0) := by decide +kernel
theorem c_213_62 : pg_cd 213 62 = (54, 1, 0, 0, 0) := by decide +kernel
theorem c_213_63 : pg_cd 213 63 = (5, 1, 0, 0, 0) := by decide +kernel
theorem c_213_64 : pg_cd 213 64 = (45, 12, 8, 0, 0) := by decide +kernel
theorem c_213_67 : pg_cd 213 67 = (3, 1, 0, 3, 0) := by decide +kernel
theorem c_213_68 : pg_cd 213 68 = (1, 1, 0, 0, 1) := by decide +kernel
theorem c_213_69 : pg_cd 213 69 = (10, 1, 0, 0, 0) := by decide +kernel
theorem c_213_70 : pg_cd 213 70 = (3, 1, 0, 2, 0) := by decide +kernel
theorem c_213_71 : pg_cd 213 71 = (54, 1, 0, 0, 0) := by decide +kernel
theorem c_213_72 : pg_cd 213 72 = (5, 1, 0, 0, 0) := by decide +kernel
theorem c_213_73 : pg_cd 213 73 = (45, 12, 8, 0, 0) := by decide +kernel
theorem c_213_76 : pg_cd 213 76 = (1, 1, 0, 0, 3) := by decide +kernel
theorem c_213_77 : pg_cd 213 77 = (34, 1, 0, 0, 0) := by decide +kernel
theorem c_213_78 : pg_cd 213 78 = (50, 1, 0, 0, 0) := by decide +kernel
theorem c_213_79 : pg_cd 213 79 = (1, 1, 0, 0, 1) := by decide +kernel
theorem c_213_80 : pg_cd 213 80 = (10, 1, 0, 0, 0) := by decide +kernel
theorem c_213_81 : pg_cd 213 81 = (54, 1, 0, 0, 0) := by decide +kernel
theorem c_213_82 : pg_cd 213 82 = (5, 1, 0, 0, 0) := by decide +kernel
theorem c_213_83 : pg_cd 213 83 = (45, 12, 8, 0, 0) := by decide +kernel
theorem c_213_86 : pg_cd 213 86 = (1, 1, 0, 0, 3) := by decide +kernel
theorem c_213_87 : pg_cd 213 87 = (50, 1, 0, 0, 0) := by decide +kernel
theorem c_213_88 : pg_cd 213 88 = (1, 1, 0, 0, 1) := by decide +kernel
theorem c_213_89 : pg_cd 213 89 = (11, 1, 0, 0, 0) := by decide +kernel
theorem c_213_90 : pg_cd 213 90 = (90, 0, 0, 0, 0) := by decide +kernel
theorem mi_213 : pg_mc 213 = 12 ∧ pg_na 213 = 2 ∧ pg_mx 213 = 4 := by decide +kernel
set_option maxRecDepth 20000 in
theorem u_213_0 {d : Nat} {S : zS} {σ τ : zI} {Q : zQ} {x1 : Int} {x2 : Int} (t : (rg x1) ∧ (rg ((σ 84 2) - 1)) ∧ if 0 ≤ x1 ∧ x1 ≤ ((σ 84 2) - 1) then ((rg x2) ∧ if 0 ≤ x2 ∧ x2 ≤ 10000 then (if (σ 84 3) = 24 then (Q (some (.int (wI (-1)))) S σ τ) else ((0 ≤ (3460 + (8 * (σ 84 3))) + 0 ∧ (3460 + (8 * (σ 84 3))) + 0 < 112300) ∧ (0 ≤ (3460 + (8 * (σ 84 3))) + 1 ∧ (3460 + (8 * (σ 84 3))) + 1 < 112300) ∧ ((3 : Int) ≠ ((3460 + (8 * (σ 84 3))) + 1)) ∧ ((3 : Int) ≠ ((3460 + (8 * (σ 84 3))) + 0)) ∧ ∃ w13 : Int, wI w13 = wI ((σ 84 3) + 1) ∧ rg w13 ∧ Q (some (.int (wI (w13 - 1)))) S (uc σ 84 (u1 (u1 (u1 (σ 84) ((3460 + (8 * (σ 84 3))) + 0) x1) ((3460 + (8 * (σ 84 3))) + 1) x2) 3 w13)) τ)) else (Q (some (.int (wI (-1)))) S σ τ)) else (Q (some (.int (wI (-1)))) S σ τ)) : wi (d + 3) 213 0 [.ref 83, .int (wI x1), .int (wI x2), .retAddr 0] [] S σ τ Q := by
  refine i3 c_213_0 rfl (i1 c_213_1 (i5 c_213_2 rfl (i45 c_213_3 (lo (c := 83) (kd := 112) (n := 0) rfl (by decide)) (lro (c := 83) (k := 0) (j := 84) (by decide)) (i1 c_213_6 (wi_ok (fun K1 => ?_))))))
  obtain ⟨r2, t⟩ := t
  obtain ⟨r3, t⟩ := t
  refine i50 (v := σ 84 2) c_213_7 (lo (c := 84) (kd := 0) (n := 112300) rfl (by decide)) (by decide) (by decide) rfl (i1 c_213_8 (i11 c_213_9 ?_))
  refine i81 (As := [.int (wI x1), .int (wI 0), .int (wI ((σ 84 2) - 1))]) (rest := []) c_213_10 mi_196 rfl rfl (Nat.le_of_ble_eq_true rfl) (Nat.le_of_ble_eq_true rfl) (q_196 r2 (by decide) r3 ?_)
  show wi (d + 3) 213 13 [.ref 83, .int (wI x1), .int (wI x2), .retAddr 0] [.int (wI (if 0 ≤ x1 ∧ x1 ≤ ((σ 84 2) - 1) then 1 else 0))] S σ τ Q
  refine i36e c_213_13 rfl (fun hc => ?_) (fun hc => ?_)
  · have t := iT t hc
    have ha4 : 0 ≤ x1 ∧ x1 ≤ ((σ 84 2) - 1) := hc
    obtain ⟨r5, t⟩ := t
    refine i3 c_213_16 rfl (i1 c_213_17 (i1 c_213_18 ?_))
    refine i81 (As := [.int (wI x2), .int (wI 0), .int (wI 10000)]) (rest := []) c_213_21 mi_196 rfl rfl (Nat.le_of_ble_eq_true rfl) (Nat.le_of_ble_eq_true rfl) (q_196 r5 (by decide) (by decide) ?_)
    show wi (d + 3) 213 24 [.ref 83, .int (wI x1), .int (wI x2), .retAddr 0] [.int (wI (if 0 ≤ x2 ∧ x2 ≤ 10000 then 1 else 0))] S σ τ Q
    refine i36e c_213_24 rfl (fun hc => ?_) (fun hc => ?_)
    · have t := iT t hc
      have ha6 : 0 ≤ x2 ∧ x2 ≤ 10000 := hc
      refine i5 c_213_27 rfl (i45 c_213_28 (lo (c := 83) (kd := 112) (n := 0) rfl (by decide)) (lro (c := 83) (k := 0) (j := 84) (by decide)) (i1 c_213_31 (i50 (v := σ 84 3) c_213_32 (lo (c := 84) (kd := 0) (n := 112300) rfl (by decide)) (by decide) (by decide) rfl (i1 c_213_33 ?_))))
      refine i37 c_213_35 (rge_ K1 rfl) (by decide) rfl (fun hc => ?_) (fun hc => ?_)
      · have t := iF t hc
        have ha7 : ¬ ((σ 84 3) = 24) := hc
        obtain ⟨r8, t⟩ := t
        obtain ⟨r9, t⟩ := t
        obtain ⟨n10, t⟩ := t
        obtain ⟨n11, t⟩ := t
        refine i1 c_213_40 (i1 c_213_43 (i5 c_213_45 rfl (i45 c_213_46 (lo (c := 83) (kd := 112) (n := 0) rfl (by decide)) (lro (c := 83) (k := 0) (j := 84) (by decide)) (i1 c_213_49 (i50 (v := σ 84 3) c_213_50 (lo (c := 84) (kd := 0) (n := 112300) rfl (by decide)) (by decide) (by decide) rfl (i12 c_213_51 (i10 c_213_52 (i6 (L' := [.ref 83, .int (wI x1), .int (wI x2), .int (wI (3460 + (8 * (σ 84 3))))]) c_213_53 rfl (i5 c_213_54 rfl (i45 c_213_55 (lo (c := 83) (kd := 112) (n := 0) rfl (by decide)) (lro (c := 83) (k := 0) (j := 84) (by decide)) (i3 c_213_58 rfl (i1 c_213_59 (i10 c_213_60 (i3 c_213_61 rfl (i54 (σ1 := uc σ 84 (u1 (σ 84) ((3460 + (8 * (σ 84 3))) + 0) x1)) c_213_62 (lo (c := 84) (kd := 0) (n := 112300) rfl (by decide)) (by decide) r8 (by decide) rfl r2 (wr_ rfl rfl) (i5 c_213_63 rfl (i45 c_213_64 (lo (c := 83) (kd := 112) (n := 0) rfl (by decide)) (lro (c := 83) (k := 0) (j := 84) (by decide)) (i3 c_213_67 rfl (i1 c_213_68 (i10 c_213_69 (i3 c_213_70 rfl (i54 (σ1 := uc σ 84 (u1 (u1 (σ 84) ((3460 + (8 * (σ 84 3))) + 0) x1) ((3460 + (8 * (σ 84 3))) + 1) x2)) c_213_71 (lo (c := 84) (kd := 0) (n := 112300) rfl (by decide)) (by decide) r9 (by decide) rfl r5 (wr_ (uc_s _ _ _) (uc_uc _ _ _ _)) (i5 c_213_72 rfl (i45 c_213_73 (lo (c := 83) (kd := 112) (n := 0) rfl (by decide)) (lro (c := 83) (k := 0) (j := 84) (by decide)) (i1 c_213_76 (i34a c_213_77 (wi_ok (fun K12 => ?_))))))))))))))))))))))))))))
        obtain ⟨w13, e14, r15, t⟩ := t
        refine i50 (v := σ 84 3) c_213_78 (lo (c := 84) (kd := 0) (n := 112300) rfl (by decide)) (by decide) (by decide) (((congrFun (uc_s _ _ _) _).trans (u1_n n10)).trans (u1_n n11)) (i1 c_213_79 (i10 c_213_80 (i54 (σ1 := uc σ 84 (u1 (u1 (u1 (σ 84) ((3460 + (8 * (σ 84 3))) + 0) x1) ((3460 + (8 * (σ 84 3))) + 1) x2) 3 w13)) c_213_81 (lo (c := 84) (kd := 0) (n := 112300) rfl (by decide)) (by decide) (by decide) (by decide) e14 r15 (wr_ (uc_s _ _ _) (uc_uc _ _ _ _)) (i5 c_213_82 rfl (i45 c_213_83 (lo (c := 83) (kd := 112) (n := 0) rfl (by decide)) (lro (c := 83) (k := 0) (j := 84) (by decide)) (i1 c_213_86 (wi_ok (fun K16 => ?_))))))))
        refine i50 (v := w13) c_213_87 (lo (c := 84) (kd := 0) (n := 112300) rfl (by decide)) (by decide) (by decide) ((congrFun (uc_s _ _ _) _).trans (u1_s _ _ _)) (i1 c_213_88 (i11 c_213_89 ?_))
        exact i90 c_213_90 t
      · have t := iT t (Decidable.not_not.mp hc)
        have ha7 : (σ 84 3) = 24 := Decidable.not_not.mp hc
        refine i1 c_213_38 ?_
        exact i90 c_213_39 t
    · have t := iF t hc
      have ha6 : ¬ (0 ≤ x2 ∧ x2 ≤ 10000) := hc
      refine i1 c_213_38 ?_
      exact i90 c_213_39 t
  · have t := iF t hc
    have ha4 : ¬ (0 ≤ x1 ∧ x1 ≤ ((σ 84 2) - 1)) := hc
    refine i1 c_213_38 ?_
    exact i90 c_213_39 t
theorem q_213 {d : Nat} {S : zS} {σ τ : zI} {Q : zQ} {shop : Int} {coins : Int} (p0 : rg shop) (p1 : rg coins) (p2 : 0 ≤ σ 84 3 ∧ σ 84 3 ≤ 24) (p3 : 0 ≤ σ 84 2 ∧ σ 84 2 ≤ 4) (t : Q (some (.int (wI (v_home (σ 84) shop coins)))) S (uc σ 84 (r_home (σ 84) shop coins)) τ) : wc (d + 3) 213 [.ref 83, .int (wI shop), .int (wI coins)] S σ τ Q := by
  refine wc_ok fun K => ?_
  refine wc_of mi_213 rfl (u_213_0 ?_)
  unfold r_home v_home at t
  by_cases hk : k_home (σ 84) shop coins
  · rw [if_pos hk, if_pos hk] at t
    simp only [k_home] at hk
    repeat' (first | exact t | refine ⟨_, rfl, by omega, ?_⟩ | refine ⟨by omega, ?_⟩ | refine ifI (fun _ => ?_) (fun _ => ?_) | (exfalso; omega))
  · rw [if_neg hk, if_neg hk, uc_id] at t
    simp only [k_home] at hk
    repeat' (first | exact t | refine ⟨_, rfl, by omega, ?_⟩ | refine ⟨by omega, ?_⟩ | refine ifI (fun _ => ?_) (fun _ => ?_) | (exfalso; omega))
abbrev k_person (a : Int → Int) (home age skill : Int) : Prop := (0 ≤ home ∧ home < a 3) ∧ a (3460 + 8 * home + 3) ≠ 1 ∧ (5 ≤ age ∧ age ≤ 80) ∧ (1 ≤ skill ∧ skill ≤ 10) ∧ a 4 ≠ 60
def r_person (a : Int → Int) (home age skill : Int) : Int → Int := if k_person a home age skill then u1 (u1 (u1 (u1 (u1 (u1 a (3652 + 12 * a 4 + 0) (home)) (3652 + 12 * a 4 + 1) (age)) (3652 + 12 * a 4 + 2) (skill)) (3652 + 12 * a 4 + 4) (-1)) (3652 + 12 * a 4 + 6) (-1)) (4) (a 4 + 1) else a
def v_person (a : Int → Int) (home age skill : Int) : Int := if k_person a home age skill then a 4 + 1 - 1 else -1
-- method 214: MillTownModel.person(III)I
theorem c_214_0 : pg_cd 214 0 = (5, 1, 0, 0, 0) := by decide +kernel
theorem c_214_1 : pg_cd 214 1 = (3, 1, 0, 1, 0) := by decide +kernel
theorem c_214_2 : pg_cd 214 2 = (80, 202, 96, 0, 0) := by decide +kernel
theorem c_214_5 : pg_cd 214 5 = (36, 3, 0, 0, 44) := by decide +kernel
theorem c_214_8 : pg_cd 214 8 = (5, 1, 0, 0, 0) := by decide +kernel
theorem c_214_9 : pg_cd 214 9 = (3, 1, 0, 1, 0) := by decide +kernel
theorem c_214_10 : pg_cd 214 10 = (1, 1, 0, 0, 3) := by decide +kernel
theorem c_214_11 : pg_cd 214 11 = (80, 200, 99, 0, 0) := by decide +kernel
theorem c_214_14 : pg_cd 214 14 = (1, 1, 0, 0, 1) := by decide +kernel
theorem c_214_15 : pg_cd 214 15 = (37, 3, 0, 0, 34) := by decide +kernel
theorem c_214_18 : pg_cd 214 18 = (3, 1, 0, 2, 0) := by decide +kernel
theorem c_214_19 : pg_cd 214 19 = (1, 1, 0, 0, 5) := by decide +kernel
theorem c_214_20 : pg_cd 214 20 = (1, 2, 0, 0, 80) := by decide +kernel
theorem c_214_22 : pg_cd 214 22 = (81, 196, 76, 0, 0) := by decide +kernel
theorem c_214_25 : pg_cd 214 25 = (36, 3, 0, 0, 24) := by decide +kernel
theorem c_214_28 : pg_cd 214 28 = (3, 1, 0, 3, 0) := by decide +kernel
theorem c_214_29 : pg_cd 214 29 = (1, 1, 0, 0, 1) := by decide +kernel
theorem c_214_30 : pg_cd 214 30 = (1, 2, 0, 0, 10) := by decide +kernel
theorem c_214_32 : pg_cd 214 32 = (81, 196, 76, 0, 0) := by decide +kernel
theorem c_214_35 : pg_cd 214 35 = (36, 3, 0, 0, 14) := by decide +kernel
theorem c_214_38 : pg_cd 214 38 = (5, 1, 0, 0, 0) := by decide +kernel
theorem c_214_39 : pg_cd 214 39 = (45, 12, 8, 0, 0) := by decide +kernel
theorem c_214_42 : pg_cd 214 42 = (1, 1, 0, 0, 4) := by decide +kernel
theorem c_214_43 : pg_cd 214 43 = (50, 1, 0, 0, 0) := by decide +kernel
theorem c_214_44 : pg_cd 214 44 = (1, 2, 0, 0, 60) := by decide +kernel
theorem c_214_46 : pg_cd 214 46 = (37, 3, 0, 1, 5) := by decide +kernel
theorem c_214_49 : pg_cd 214 49 = (1, 1, 0, 0, (-1)) := by decide +kernel
theorem c_214_50 : pg_cd 214 50 = (90, 0, 0, 0, 0) := by decide +kernel
theorem c_214_51 : pg_cd 214 51 = (1, 3, 0, 0, 3652) := by decide +kernel
theorem c_214_54 : pg_cd 214 54 = (1, 2, 0, 0, 12) := by decide +kernel
theorem c_214_56 : pg_cd 214 56 = (5, 1, 0, 0, 0) := by decide +kernel
theorem c_214_57 : pg_cd 214 57 = (45, 12, 8, 0, 0) := by decide +kernel
theorem c_214_60 : pg_cd 214 60 = (1, 1, 0, 0, 4) := by decide +kernel
theorem c_214_61 : pg_cd 214 61 = (50, 1, 0, 0, 0) := by decide +kernel
theorem c_214_62 : pg_cd 214 62 = (12, 1, 0, 0, 0) := by decide +kernel
theorem c_214_63 : pg_cd 214 63 = (10, 1, 0, 0, 0) := by decide +kernel
theorem c_214_64 : pg_cd 214 64 = (6, 2, 0, 4, 0) := by decide +kernel
theorem c_214_66 : pg_cd 214 66 = (5, 1, 0, 0, 0) := by decide +kernel
theorem c_214_67 : pg_cd 214 67 = (45, 12, 8, 0, 0) := by decide +kernel
theorem c_214_70 : pg_cd 214 70 = (3, 2, 0, 4, 0) := by decide +kernel
theorem c_214_72 : pg_cd 214 72 = (1, 1, 0, 0, 0) := by decide +kernel
theorem c_214_73 : pg_cd 214 73 = (10, 1, 0, 0, 0) := by decide +kernel
theorem c_214_74 : pg_cd 214 74 = (3, 1, 0, 1, 0) := by decide +kernel
theorem c_214_75 : pg_cd 214 75 = (54, 1, 0, 0, 0) := by decide +kernel
theorem c_214_76 : pg_cd 214 76 = (5, 1, 0, 0, 0) := by decide +kernel
theorem c_214_77 : pg_cd 214 77 = (45, 12, 8, 0, 0) := by decide +kernel
theorem c_214_80 : pg_cd 214 80 = (3, 2, 0, 4, 0) := by decide +kernel
theorem c_214_82 : pg_cd 214 82 = (1, 1, 0, 0, 1) := by decide +kernel
theorem c_214_83 : pg_cd 214 83 = (10, 1, 0, 0, 0) := by decide +kernel
theorem c_214_84 : pg_cd 214 84 = (3, 1, 0, 2, 0) := by decide +kernel
theorem c_214_85 : pg_cd 214 85 = (54, 1, 0, 0, 0) := by decide +kernel
theorem c_214_86 : pg_cd 214 86 = (5, 1, 0, 0, 0) := by decide +kernel
theorem c_214_87 : pg_cd 214 87 = (45, 12, 8, 0, 0) := by decide +kernel
theorem c_214_90 : pg_cd 214 90 = (3, 2, 0, 4, 0) := by decide +kernel
theorem c_214_92 : pg_cd 214 92 = (1, 1, 0, 0, 2) := by decide +kernel
theorem c_214_93 : pg_cd 214 93 = (10, 1, 0, 0, 0) := by decide +kernel
theorem c_214_94 : pg_cd 214 94 = (3, 1, 0, 3, 0) := by decide +kernel
theorem c_214_95 : pg_cd 214 95 = (54, 1, 0, 0, 0) := by decide +kernel
theorem c_214_96 : pg_cd 214 96 = (5, 1, 0, 0, 0) := by decide +kernel
theorem c_214_97 : pg_cd 214 97 = (45, 12, 8, 0, 0) := by decide +kernel
theorem c_214_100 : pg_cd 214 100 = (3, 2, 0, 4, 0) := by decide +kernel
theorem c_214_102 : pg_cd 214 102 = (1, 1, 0, 0, 4) := by decide +kernel
theorem c_214_103 : pg_cd 214 103 = (10, 1, 0, 0, 0) := by decide +kernel
theorem c_214_104 : pg_cd 214 104 = (1, 1, 0, 0, (-1)) := by decide +kernel
theorem c_214_105 : pg_cd 214 105 = (54, 1, 0, 0, 0) := by decide +kernel
theorem c_214_106 : pg_cd 214 106 = (5, 1, 0, 0, 0) := by decide +kernel
theorem c_214_107 : pg_cd 214 107 = (45, 12, 8, 0, 0) := by decide +kernel
theorem c_214_110 : pg_cd 214 110 = (3, 2, 0, 4, 0) := by decide +kernel
theorem c_214_112 : pg_cd 214 112 = (1, 2, 0, 0, 6) := by decide +kernel
theorem c_214_114 : pg_cd 214 114 = (10, 1, 0, 0, 0) := by decide +kernel
theorem c_214_115 : pg_cd 214 115 = (1, 1, 0, 0, (-1)) := by decide +kernel
theorem c_214_116 : pg_cd 214 116 = (54, 1, 0, 0, 0) := by decide +kernel
theorem c_214_117 : pg_cd 214 117 = (5, 1, 0, 0, 0) := by decide +kernel
theorem c_214_118 : pg_cd 214 118 = (45, 12, 8, 0, 0) := by decide +kernel
theorem c_214_121 : pg_cd 214 121 = (1, 1, 0, 0, 4) := by decide +kernel
theorem c_214_122 : pg_cd 214 122 = (34, 1, 0, 0, 0) := by decide +kernel
theorem c_214_123 : pg_cd 214 123 = (50, 1, 0, 0, 0) := by decide +kernel
theorem c_214_124 : pg_cd 214 124 = (1, 1, 0, 0, 1) := by decide +kernel
theorem c_214_125 : pg_cd 214 125 = (10, 1, 0, 0, 0) := by decide +kernel
theorem c_214_126 : pg_cd 214 126 = (54, 1, 0, 0, 0) := by decide +kernel
theorem c_214_127 : pg_cd 214 127 = (5, 1, 0, 0, 0) := by decide +kernel
theorem c_214_128 : pg_cd 214 128 = (45, 12, 8, 0, 0) := by decide +kernel
theorem c_214_131 : pg_cd 214 131 = (1, 1, 0, 0, 4) := by decide +kernel
theorem c_214_132 : pg_cd 214 132 = (50, 1, 0, 0, 0) := by decide +kernel
theorem c_214_133 : pg_cd 214 133 = (1, 1, 0, 0, 1) := by decide +kernel
theorem c_214_134 : pg_cd 214 134 = (11, 1, 0, 0, 0) := by decide +kernel
theorem c_214_135 : pg_cd 214 135 = (90, 0, 0, 0, 0) := by decide +kernel
theorem mi_214 : pg_mc 214 = 12 ∧ pg_na 214 = 3 ∧ pg_mx 214 = 5 := by decide +kernel
set_option maxRecDepth 20000 in
theorem u_214_0 {d : Nat} {S : zS} {σ τ : zI} {Q : zQ} {x1 : Int} {x2 : Int} {x3 : Int} (t : (rg x1) ∧ (0 ≤ σ 84 3) ∧ if 0 ≤ x1 ∧ x1 < σ 84 3 then ((0 ≤ 3460 + 8 * x1 + 3 ∧ 3460 + 8 * x1 + 3 < 112300) ∧ if (σ 84 (3460 + 8 * x1 + 3)) = 1 then (Q (some (.int (wI (-1)))) S σ τ) else ((rg x2) ∧ if 5 ≤ x2 ∧ x2 ≤ 80 then ((rg x3) ∧ if 1 ≤ x3 ∧ x3 ≤ 10 then (if (σ 84 4) = 60 then (Q (some (.int (wI (-1)))) S σ τ) else ((0 ≤ (3652 + (12 * (σ 84 4))) + 0 ∧ (3652 + (12 * (σ 84 4))) + 0 < 112300) ∧ (0 ≤ (3652 + (12 * (σ 84 4))) + 1 ∧ (3652 + (12 * (σ 84 4))) + 1 < 112300) ∧ (0 ≤ (3652 + (12 * (σ 84 4))) + 2 ∧ (3652 + (12 * (σ 84 4))) + 2 < 112300) ∧ (0 ≤ (3652 + (12 * (σ 84 4))) + 4 ∧ (3652 + (12 * (σ 84 4))) + 4 < 112300) ∧ (0 ≤ (3652 + (12 * (σ 84 4))) + 6 ∧ (3652 + (12 * (σ 84 4))) + 6 < 112300) ∧ ((4 : Int) ≠ ((3652 + (12 * (σ 84 4))) + 6)) ∧ ((4 : Int) ≠ ((3652 + (12 * (σ 84 4))) + 4)) ∧ ((4 : Int) ≠ ((3652 + (12 * (σ 84 4))) + 2)) ∧ ((4 : Int) ≠ ((3652 + (12 * (σ 84 4))) + 1)) ∧ ((4 : Int) ≠ ((3652 + (12 * (σ 84 4))) + 0)) ∧ ∃ w23 : Int, wI w23 = wI ((σ 84 4) + 1) ∧ rg w23 ∧ Q (some (.int (wI (w23 - 1)))) S (uc σ 84 (u1 (u1 (u1 (u1 (u1 (u1 (σ 84) ((3652 + (12 * (σ 84 4))) + 0) x1) ((3652 + (12 * (σ 84 4))) + 1) x2) ((3652 + (12 * (σ 84 4))) + 2) x3) ((3652 + (12 * (σ 84 4))) + 4) (-1)) ((3652 + (12 * (σ 84 4))) + 6) (-1)) 4 w23)) τ)) else (Q (some (.int (wI (-1)))) S σ τ)) else (Q (some (.int (wI (-1)))) S σ τ))) else (Q (some (.int (wI (-1)))) S σ τ)) : wi (d + 3) 214 0 [.ref 83, .int (wI x1), .int (wI x2), .int (wI x3), .retAddr 0] [] S σ τ Q := by
  obtain ⟨r1, t⟩ := t
  obtain ⟨p2, t⟩ := t
  refine i5 c_214_0 rfl (i3 c_214_1 rfl ?_)
  refine i80 (As := [.int (wI x1)]) (rest := []) c_214_2 mi_202 rfl rfl (Nat.le_of_ble_eq_true rfl) (Nat.le_of_ble_eq_true rfl) (lo (c := 83) (kd := 112) (n := 0) rfl (by decide)) (q_202 r1 p2 ?_)
  show wi (d + 3) 214 5 [.ref 83, .int (wI x1), .int (wI x2), .int (wI x3), .retAddr 0] [.int (wI (if 0 ≤ x1 ∧ x1 < σ 84 3 then 1 else 0))] S σ τ Q
  refine i36e c_214_5 rfl (fun hc => ?_) (fun hc => ?_)
  · have t := iT t hc
    have ha3 : 0 ≤ x1 ∧ x1 < σ 84 3 := hc
    obtain ⟨p4, t⟩ := t
    refine i5 c_214_8 rfl (i3 c_214_9 rfl (i1 c_214_10 ?_))
    refine i80 (As := [.int (wI x1), .int (wI 3)]) (rest := []) c_214_11 mi_200 rfl rfl (Nat.le_of_ble_eq_true rfl) (Nat.le_of_ble_eq_true rfl) (lo (c := 83) (kd := 112) (n := 0) rfl (by decide)) (q_200 p4 ?_)
    show wi (d + 3) 214 14 [.ref 83, .int (wI x1), .int (wI x2), .int (wI x3), .retAddr 0] [.int (wI (σ 84 (3460 + 8 * x1 + 3)))] S σ τ Q
    refine wi_ok (fun K5 => ?_)
    refine i1 c_214_14 ?_
    refine i37 c_214_15 (rge_ K5 rfl) (by decide) rfl (fun hc => ?_) (fun hc => ?_)
    · have t := iT t hc
      have ha6 : (σ 84 (3460 + 8 * x1 + 3)) = 1 := hc
      refine i1 c_214_49 ?_
      exact i90 c_214_50 t
    · have t := iF t hc
      have ha6 : ¬ ((σ 84 (3460 + 8 * x1 + 3)) = 1) := hc
      obtain ⟨r7, t⟩ := t
      refine i3 c_214_18 rfl (i1 c_214_19 (i1 c_214_20 ?_))
      refine i81 (As := [.int (wI x2), .int (wI 5), .int (wI 80)]) (rest := []) c_214_22 mi_196 rfl rfl (Nat.le_of_ble_eq_true rfl) (Nat.le_of_ble_eq_true rfl) (q_196 r7 (by decide) (by decide) ?_)
      show wi (d + 3) 214 25 [.ref 83, .int (wI x1), .int (wI x2), .int (wI x3), .retAddr 0] [.int (wI (if 5 ≤ x2 ∧ x2 ≤ 80 then 1 else 0))] S σ τ Q
      refine i36e c_214_25 rfl (fun hc => ?_) (fun hc => ?_)
      · have t := iT t hc
        have ha8 : 5 ≤ x2 ∧ x2 ≤ 80 := hc
        obtain ⟨r9, t⟩ := t
        refine i3 c_214_28 rfl (i1 c_214_29 (i1 c_214_30 ?_))
        refine i81 (As := [.int (wI x3), .int (wI 1), .int (wI 10)]) (rest := []) c_214_32 mi_196 rfl rfl (Nat.le_of_ble_eq_true rfl) (Nat.le_of_ble_eq_true rfl) (q_196 r9 (by decide) (by decide) ?_)
        show wi (d + 3) 214 35 [.ref 83, .int (wI x1), .int (wI x2), .int (wI x3), .retAddr 0] [.int (wI (if 1 ≤ x3 ∧ x3 ≤ 10 then 1 else 0))] S σ τ Q
        refine i36e c_214_35 rfl (fun hc => ?_) (fun hc => ?_)
        · have t := iT t hc
          have ha10 : 1 ≤ x3 ∧ x3 ≤ 10 := hc
          refine i5 c_214_38 rfl (i45 c_214_39 (lo (c := 83) (kd := 112) (n := 0) rfl (by decide)) (lro (c := 83) (k := 0) (j := 84) (by decide)) (i1 c_214_42 (i50 (v := σ 84 4) c_214_43 (lo (c := 84) (kd := 0) (n := 112300) rfl (by decide)) (by decide) (by decide) rfl (i1 c_214_44 ?_))))
          refine i37 c_214_46 (rge_ K5 rfl) (by decide) rfl (fun hc => ?_) (fun hc => ?_)
          · have t := iF t hc
            have ha11 : ¬ ((σ 84 4) = 60) := hc
            obtain ⟨r12, t⟩ := t
            obtain ⟨r13, t⟩ := t
            obtain ⟨r14, t⟩ := t
            obtain ⟨r15, t⟩ := t
            obtain ⟨r16, t⟩ := t
            obtain ⟨n17, t⟩ := t
            obtain ⟨n18, t⟩ := t
            obtain ⟨n19, t⟩ := t
            obtain ⟨n20, t⟩ := t
            obtain ⟨n21, t⟩ := t
            refine i1 c_214_51 (i1 c_214_54 (i5 c_214_56 rfl (i45 c_214_57 (lo (c := 83) (kd := 112) (n := 0) rfl (by decide)) (lro (c := 83) (k := 0) (j := 84) (by decide)) (i1 c_214_60 (i50 (v := σ 84 4) c_214_61 (lo (c := 84) (kd := 0) (n := 112300) rfl (by decide)) (by decide) (by decide) rfl (i12 c_214_62 (i10 c_214_63 (i6 (L' := [.ref 83, .int (wI x1), .int (wI x2), .int (wI x3), .int (wI (3652 + (12 * (σ 84 4))))]) c_214_64 rfl (i5 c_214_66 rfl (i45 c_214_67 (lo (c := 83) (kd := 112) (n := 0) rfl (by decide)) (lro (c := 83) (k := 0) (j := 84) (by decide)) (i3 c_214_70 rfl (i1 c_214_72 (i10 c_214_73 (i3 c_214_74 rfl (i54 (σ1 := uc σ 84 (u1 (σ 84) ((3652 + (12 * (σ 84 4))) + 0) x1)) c_214_75 (lo (c := 84) (kd := 0) (n := 112300) rfl (by decide)) (by decide) r12 (by decide) rfl r1 (wr_ rfl rfl) (i5 c_214_76 rfl (i45 c_214_77 (lo (c := 83) (kd := 112) (n := 0) rfl (by decide)) (lro (c := 83) (k := 0) (j := 84) (by decide)) (i3 c_214_80 rfl (i1 c_214_82 (i10 c_214_83 (i3 c_214_84 rfl (i54 (σ1 := uc σ 84 (u1 (u1 (σ 84) ((3652 + (12 * (σ 84 4))) + 0) x1) ((3652 + (12 * (σ 84 4))) + 1) x2)) c_214_85 (lo (c := 84) (kd := 0) (n := 112300) rfl (by decide)) (by decide) r13 (by decide) rfl r7 (wr_ (uc_s _ _ _) (uc_uc _ _ _ _)) (i5 c_214_86 rfl (i45 c_214_87 (lo (c := 83) (kd := 112) (n := 0) rfl (by decide)) (lro (c := 83) (k := 0) (j := 84) (by decide)) (i3 c_214_90 rfl (i1 c_214_92 (i10 c_214_93 (i3 c_214_94 rfl (i54 (σ1 := uc σ 84 (u1 (u1 (u1 (σ 84) ((3652 + (12 * (σ 84 4))) + 0) x1) ((3652 + (12 * (σ 84 4))) + 1) x2) ((3652 + (12 * (σ 84 4))) + 2) x3)) c_214_95 (lo (c := 84) (kd := 0) (n := 112300) rfl (by decide)) (by decide) r14 (by decide) rfl r9 (wr_ (uc_s _ _ _) (uc_uc _ _ _ _)) (i5 c_214_96 rfl (i45 c_214_97 (lo (c := 83) (kd := 112) (n := 0) rfl (by decide)) (lro (c := 83) (k := 0) (j := 84) (by decide)) (i3 c_214_100 rfl (i1 c_214_102 (i10 c_214_103 (i1 c_214_104 (i54 (σ1 := uc σ 84 (u1 (u1 (u1 (u1 (σ 84) ((3652 + (12 * (σ 84 4))) + 0) x1) ((3652 + (12 * (σ 84 4))) + 1) x2) ((3652 + (12 * (σ 84 4))) + 2) x3) ((3652 + (12 * (σ 84 4))) + 4) (-1))) c_214_105 (lo (c := 84) (kd := 0) (n := 112300) rfl (by decide)) (by decide) r15 (by decide) rfl (by decide) (wr_ (uc_s _ _ _) (uc_uc _ _ _ _)) (i5 c_214_106 rfl (i45 c_214_107 (lo (c := 83) (kd := 112) (n := 0) rfl (by decide)) (lro (c := 83) (k := 0) (j := 84) (by decide)) (i3 c_214_110 rfl (i1 c_214_112 (i10 c_214_114 (i1 c_214_115 (i54 (σ1 := uc σ 84 (u1 (u1 (u1 (u1 (u1 (σ 84) ((3652 + (12 * (σ 84 4))) + 0) x1) ((3652 + (12 * (σ 84 4))) + 1) x2) ((3652 + (12 * (σ 84 4))) + 2) x3) ((3652 + (12 * (σ 84 4))) + 4) (-1)) ((3652 + (12 * (σ 84 4))) + 6) (-1))) c_214_116 (lo (c := 84) (kd := 0) (n := 112300) rfl (by decide)) (by decide) r16 (by decide) rfl (by decide) (wr_ (uc_s _ _ _) (uc_uc _ _ _ _)) (i5 c_214_117 rfl (i45 c_214_118 (lo (c := 83) (kd := 112) (n := 0) rfl (by decide)) (lro (c := 83) (k := 0) (j := 84) (by decide)) (i1 c_214_121 (i34a c_214_122 (wi_ok (fun K22 => ?_)))))))))))))))))))))))))))))))))))))))))))))))))
            obtain ⟨w23, e24, r25, t⟩ := t
            refine i50 (v := σ 84 4) c_214_123 (lo (c := 84) (kd := 0) (n := 112300) rfl (by decide)) (by decide) (by decide) ((((((congrFun (uc_s _ _ _) _).trans (u1_n n17)).trans (u1_n n18)).trans (u1_n n19)).trans (u1_n n20)).trans (u1_n n21)) (i1 c_214_124 (i10 c_214_125 (i54 (σ1 := uc σ 84 (u1 (u1 (u1 (u1 (u1 (u1 (σ 84) ((3652 + (12 * (σ 84 4))) + 0) x1) ((3652 + (12 * (σ 84 4))) + 1) x2) ((3652 + (12 * (σ 84 4))) + 2) x3) ((3652 + (12 * (σ 84 4))) + 4) (-1)) ((3652 + (12 * (σ 84 4))) + 6) (-1)) 4 w23)) c_214_126 (lo (c := 84) (kd := 0) (n := 112300) rfl (by decide)) (by decide) (by decide) (by decide) e24 r25 (wr_ (uc_s _ _ _) (uc_uc _ _ _ _)) (i5 c_214_127 rfl (i45 c_214_128 (lo (c := 83) (kd := 112) (n := 0) rfl (by decide)) (lro (c := 83) (k := 0) (j := 84) (by decide)) (i1 c_214_131 (wi_ok (fun K26 => ?_))))))))
            refine i50 (v := w23) c_214_132 (lo (c := 84) (kd := 0) (n := 112300) rfl (by decide)) (by decide) (by decide) ((congrFun (uc_s _ _ _) _).trans (u1_s _ _ _)) (i1 c_214_133 (i11 c_214_134 ?_))
            exact i90 c_214_135 t
          · have t := iT t (Decidable.not_not.mp hc)
            have ha11 : (σ 84 4) = 60 := Decidable.not_not.mp hc
            refine i1 c_214_49 ?_
            exact i90 c_214_50 t
        · have t := iF t hc
          have ha10 : ¬ (1 ≤ x3 ∧ x3 ≤ 10) := hc
          refine i1 c_214_49 ?_
          exact i90 c_214_50 t
      · have t := iF t hc
        have ha8 : ¬ (5 ≤ x2 ∧ x2 ≤ 80) := hc
        refine i1 c_214_49 ?_
        exact i90 c_214_50 t
  · have t := iF t hc
    have ha3 : ¬ (0 ≤ x1 ∧ x1 < σ 84 3) := hc
    refine i1 c_214_49 ?_
    exact i90 c_214_50 t
theorem q_214 {d : Nat} {S : zS} {σ τ : zI} {Q : zQ} {home : Int} {age : Int} {skill : Int} (p0 : rg home) (p1 : rg age) (p2 : rg skill) (p3 : 0 ≤ σ 84 4 ∧ σ 84 4 ≤ 60) (p4 : 0 ≤ σ 84 3 ∧ σ 84 3 ≤ 24) (t : Q (some (.int (wI (v_person (σ 84) home age skill)))) S (uc σ 84 (r_person (σ 84) home age skill)) τ) : wc (d + 3) 214 [.ref 83, .int (wI home), .int (wI age), .int (wI skill)] S σ τ Q := by
  refine wc_ok fun K => ?_
  refine wc_of mi_214 rfl (u_214_0 ?_)
  unfold r_person v_person at t
  by_cases hk : k_person (σ 84) home age skill
  · rw [if_pos hk, if_pos hk] at t
    simp only [k_person] at hk
    repeat' (first | exact t | refine ⟨_, rfl, by omega, ?_⟩ | refine ⟨by omega, ?_⟩ | refine ifI (fun _ => ?_) (fun _ => ?_) | (exfalso; omega))
  · rw [if_neg hk, if_neg hk, uc_id] at t
    simp only [k_person] at hk
    repeat' (first | exact t | refine ⟨_, rfl, by omega, ?_⟩ | refine ⟨by omega, ?_⟩ | refine ifI (fun _ => ?_) (fun _ => ?_) | (exfalso; omega))
abbrev k_order (a : Int → Int) (kind pieces price from_ to : Int) : Prop := (0 ≤ kind ∧ kind ≤ 5) ∧ (1 ≤ pieces ∧ pieces ≤ 500) ∧ (1 ≤ price ∧ price ≤ 10000) ∧ (a 0 ≤ from_ ∧ from_ ≤ 399) ∧ (from_ ≤ to ∧ to ≤ 399) ∧ a 7 ≠ 80
def r_order (a : Int → Int) (kind pieces price from_ to : Int) : Int → Int := if k_order a kind pieces price from_ to then u1 (u1 (u1 (u1 (u1 (u1 (u1 a (4372 + 8 * a 7) (kind)) (4372 + 8 * a 7 + 1) (pieces)) (4372 + 8 * a 7 + 2) (price)) (4372 + 8 * a 7 + 3) (from_)) (4372 + 8 * a 7 + 4) (to)) (20 + 8 * kind + 7) (1)) (7) (a 7 + 1) else a
def v_order (a : Int → Int) (kind pieces price from_ to : Int) : Int := if k_order a kind pieces price from_ to then a 7 + 1 - 1 else -1
-- method 221: MillTownModel.order(IIIII)I
theorem c_221_0 : pg_cd 221 0 = (3, 1, 0, 1, 0) := by decide +kernel
theorem c_221_1 : pg_cd 221 1 = (81, 204, 80, 0, 0) := by decide +kernel
theorem c_221_4 : pg_cd 221 4 = (36, 3, 0, 0, 67) := by decide +kernel
theorem c_221_7 : pg_cd 221 7 = (3, 1, 0, 2, 0) := by decide +kernel
theorem c_221_8 : pg_cd 221 8 = (1, 1, 0, 0, 1) := by decide +kernel
theorem c_221_9 : pg_cd 221 9 = (1, 3, 0, 0, 500) := by decide +kernel
theorem c_221_12 : pg_cd 221 12 = (81, 196, 76, 0, 0) := by decide +kernel
theorem c_221_15 : pg_cd 221 15 = (36, 3, 0, 0, 56) := by decide +kernel
theorem c_221_18 : pg_cd 221 18 = (3, 1, 0, 3, 0) := by decide +kernel
theorem c_221_19 : pg_cd 221 19 = (1, 1, 0, 0, 1) := by decide +kernel
theorem c_221_20 : pg_cd 221 20 = (1, 3, 0, 0, 10000) := by decide +kernel
theorem c_221_23 : pg_cd 221 23 = (81, 196, 76, 0, 0) := by decide +kernel
theorem c_221_26 : pg_cd 221 26 = (36, 3, 0, 0, 45) := by decide +kernel
theorem c_221_29 : pg_cd 221 29 = (3, 2, 0, 4, 0) := by decide +kernel
theorem c_221_31 : pg_cd 221 31 = (5, 1, 0, 0, 0) := by decide +kernel
theorem c_221_32 : pg_cd 221 32 = (45, 12, 8, 0, 0) := by decide +kernel
theorem c_221_35 : pg_cd 221 35 = (1, 1, 0, 0, 0) := by decide +kernel
theorem c_221_36 : pg_cd 221 36 = (50, 1, 0, 0, 0) := by decide +kernel
theorem c_221_37 : pg_cd 221 37 = (1, 3, 0, 0, 399) := by decide +kernel
theorem c_221_40 : pg_cd 221 40 = (81, 196, 76, 0, 0) := by decide +kernel
theorem c_221_43 : pg_cd 221 43 = (36, 3, 0, 0, 28) := by decide +kernel
theorem c_221_46 : pg_cd 221 46 = (3, 2, 0, 5, 0) := by decide +kernel
theorem c_221_48 : pg_cd 221 48 = (3, 2, 0, 4, 0) := by decide +kernel
theorem c_221_50 : pg_cd 221 50 = (1, 3, 0, 0, 399) := by decide +kernel
theorem c_221_53 : pg_cd 221 53 = (81, 196, 76, 0, 0) := by decide +kernel
theorem c_221_56 : pg_cd 221 56 = (36, 3, 0, 0, 15) := by decide +kernel
theorem c_221_59 : pg_cd 221 59 = (5, 1, 0, 0, 0) := by decide +kernel
theorem c_221_60 : pg_cd 221 60 = (45, 12, 8, 0, 0) := by decide +kernel
theorem c_221_63 : pg_cd 221 63 = (1, 2, 0, 0, 7) := by decide +kernel
theorem c_221_65 : pg_cd 221 65 = (50, 1, 0, 0, 0) := by decide +kernel
theorem c_221_66 : pg_cd 221 66 = (1, 2, 0, 0, 80) := by decide +kernel
theorem c_221_68 : pg_cd 221 68 = (37, 3, 0, 1, 5) := by decide +kernel
theorem c_221_71 : pg_cd 221 71 = (1, 1, 0, 0, (-1)) := by decide +kernel
theorem c_221_72 : pg_cd 221 72 = (90, 0, 0, 0, 0) := by decide +kernel
theorem c_221_73 : pg_cd 221 73 = (1, 3, 0, 0, 4372) := by decide +kernel
theorem c_221_76 : pg_cd 221 76 = (1, 2, 0, 0, 8) := by decide +kernel
theorem c_221_78 : pg_cd 221 78 = (5, 1, 0, 0, 0) := by decide +kernel
theorem c_221_79 : pg_cd 221 79 = (45, 12, 8, 0, 0) := by decide +kernel
theorem c_221_82 : pg_cd 221 82 = (1, 2, 0, 0, 7) := by decide +kernel
theorem c_221_84 : pg_cd 221 84 = (50, 1, 0, 0, 0) := by decide +kernel
theorem c_221_85 : pg_cd 221 85 = (12, 1, 0, 0, 0) := by decide +kernel
theorem c_221_86 : pg_cd 221 86 = (10, 1, 0, 0, 0) := by decide +kernel
theorem c_221_87 : pg_cd 221 87 = (6, 2, 0, 6, 0) := by decide +kernel
theorem c_221_89 : pg_cd 221 89 = (5, 1, 0, 0, 0) := by decide +kernel
theorem c_221_90 : pg_cd 221 90 = (45, 12, 8, 0, 0) := by decide +kernel
theorem c_221_93 : pg_cd 221 93 = (3, 2, 0, 6, 0) := by decide +kernel
theorem c_221_95 : pg_cd 221 95 = (3, 1, 0, 1, 0) := by decide +kernel
theorem c_221_96 : pg_cd 221 96 = (54, 1, 0, 0, 0) := by decide +kernel
theorem c_221_97 : pg_cd 221 97 = (5, 1, 0, 0, 0) := by decide +kernel
theorem c_221_98 : pg_cd 221 98 = (45, 12, 8, 0, 0) := by decide +kernel
theorem c_221_101 : pg_cd 221 101 = (3, 2, 0, 6, 0) := by decide +kernel
theorem c_221_103 : pg_cd 221 103 = (1, 1, 0, 0, 1) := by decide +kernel
theorem c_221_104 : pg_cd 221 104 = (10, 1, 0, 0, 0) := by decide +kernel
theorem c_221_105 : pg_cd 221 105 = (3, 1, 0, 2, 0) := by decide +kernel
theorem c_221_106 : pg_cd 221 106 = (54, 1, 0, 0, 0) := by decide +kernel
theorem c_221_107 : pg_cd 221 107 = (5, 1, 0, 0, 0) := by decide +kernel
theorem c_221_108 : pg_cd 221 108 = (45, 12, 8, 0, 0) := by decide +kernel
theorem c_221_111 : pg_cd 221 111 = (3, 2, 0, 6, 0) := by decide +kernel
theorem c_221_113 : pg_cd 221 113 = (1, 1, 0, 0, 2) := by decide +kernel
theorem c_221_114 : pg_cd 221 114 = (10, 1, 0, 0, 0) := by decide +kernel
theorem c_221_115 : pg_cd 221 115 = (3, 1, 0, 3, 0) := by decide +kernel
theorem c_221_116 : pg_cd 221 116 = (54, 1, 0, 0, 0) := by decide +kernel
theorem c_221_117 : pg_cd 221 117 = (5, 1, 0, 0, 0) := by decide +kernel
theorem c_221_118 : pg_cd 221 118 = (45, 12, 8, 0, 0) := by decide +kernel
theorem c_221_121 : pg_cd 221 121 = (3, 2, 0, 6, 0) := by decide +kernel
theorem c_221_123 : pg_cd 221 123 = (1, 1, 0, 0, 3) := by decide +kernel
theorem c_221_124 : pg_cd 221 124 = (10, 1, 0, 0, 0) := by decide +kernel
theorem c_221_125 : pg_cd 221 125 = (3, 2, 0, 4, 0) := by decide +kernel
theorem c_221_127 : pg_cd 221 127 = (54, 1, 0, 0, 0) := by decide +kernel
theorem c_221_128 : pg_cd 221 128 = (5, 1, 0, 0, 0) := by decide +kernel
theorem c_221_129 : pg_cd 221 129 = (45, 12, 8, 0, 0) := by decide +kernel
theorem c_221_132 : pg_cd 221 132 = (3, 2, 0, 6, 0) := by decide +kernel
theorem c_221_134 : pg_cd 221 134 = (1, 1, 0, 0, 4) := by decide +kernel
theorem c_221_135 : pg_cd 221 135 = (10, 1, 0, 0, 0) := by decide +kernel
theorem c_221_136 : pg_cd 221 136 = (3, 2, 0, 5, 0) := by decide +kernel
theorem c_221_138 : pg_cd 221 138 = (54, 1, 0, 0, 0) := by decide +kernel
theorem c_221_139 : pg_cd 221 139 = (5, 1, 0, 0, 0) := by decide +kernel
theorem c_221_140 : pg_cd 221 140 = (45, 12, 8, 0, 0) := by decide +kernel
theorem c_221_143 : pg_cd 221 143 = (1, 2, 0, 0, 20) := by decide +kernel
theorem c_221_145 : pg_cd 221 145 = (1, 2, 0, 0, 8) := by decide +kernel
theorem c_221_147 : pg_cd 221 147 = (3, 1, 0, 1, 0) := by decide +kernel
theorem c_221_148 : pg_cd 221 148 = (12, 1, 0, 0, 0) := by decide +kernel
theorem c_221_149 : pg_cd 221 149 = (10, 1, 0, 0, 0) := by decide +kernel
theorem c_221_150 : pg_cd 221 150 = (1, 2, 0, 0, 7) := by decide +kernel
theorem c_221_152 : pg_cd 221 152 = (10, 1, 0, 0, 0) := by decide +kernel
theorem c_221_153 : pg_cd 221 153 = (1, 1, 0, 0, 1) := by decide +kernel
theorem c_221_154 : pg_cd 221 154 = (54, 1, 0, 0, 0) := by decide +kernel
theorem c_221_155 : pg_cd 221 155 = (5, 1, 0, 0, 0) := by decide +kernel
theorem c_221_156 : pg_cd 221 156 = (45, 12, 8, 0, 0) := by decide +kernel
theorem c_221_159 : pg_cd 221 159 = (1, 2, 0, 0, 7) := by decide +kernel
theorem c_221_161 : pg_cd 221 161 = (34, 1, 0, 0, 0) := by decide +kernel
theorem c_221_162 : pg_cd 221 162 = (50, 1, 0, 0, 0) := by decide +kernel
theorem c_221_163 : pg_cd 221 163 = (1, 1, 0, 0, 1) := by decide +kernel
theorem c_221_164 : pg_cd 221 164 = (10, 1, 0, 0, 0) := by decide +kernel
theorem c_221_165 : pg_cd 221 165 = (54, 1, 0, 0, 0) := by decide +kernel
theorem c_221_166 : pg_cd 221 166 = (5, 1, 0, 0, 0) := by decide +kernel
theorem c_221_167 : pg_cd 221 167 = (45, 12, 8, 0, 0) := by decide +kernel
theorem c_221_170 : pg_cd 221 170 = (1, 2, 0, 0, 7) := by decide +kernel
theorem c_221_172 : pg_cd 221 172 = (50, 1, 0, 0, 0) := by decide +kernel
theorem c_221_173 : pg_cd 221 173 = (1, 1, 0, 0, 1) := by decide +kernel
theorem c_221_174 : pg_cd 221 174 = (11, 1, 0, 0, 0) := by decide +kernel
theorem c_221_175 : pg_cd 221 175 = (90, 0, 0, 0, 0) := by decide +kernel
theorem mi_221 : pg_mc 221 = 12 ∧ pg_na 221 = 5 ∧ pg_mx 221 = 7 := by decide +kernel
set_option maxRecDepth 20000 in
theorem u_221_0 {d : Nat} {S : zS} {σ τ : zI} {Q : zQ} {x1 : Int} {x2 : Int} {x3 : Int} {x4 : Int} {x5 : Int} (t : (rg x1) ∧ if 0 ≤ x1 ∧ x1 ≤ 5 then ((rg x2) ∧ if 1 ≤ x2 ∧ x2 ≤ 500 then ((rg x3) ∧ if 1 ≤ x3 ∧ x3 ≤ 10000 then ((rg x4) ∧ if (σ 84 0) ≤ x4 ∧ x4 ≤ 399 then ((rg x5) ∧ if x4 ≤ x5 ∧ x5 ≤ 399 then (if (σ 84 7) = 80 then (Q (some (.int (wI (-1)))) S σ τ) else ((0 ≤ 4372 + (8 * (σ 84 7)) ∧ 4372 + (8 * (σ 84 7)) < 112300) ∧ (0 ≤ (4372 + (8 * (σ 84 7))) + 1 ∧ (4372 + (8 * (σ 84 7))) + 1 < 112300) ∧ (0 ≤ (4372 + (8 * (σ 84 7))) + 2 ∧ (4372 + (8 * (σ 84 7))) + 2 < 112300) ∧ (0 ≤ (4372 + (8 * (σ 84 7))) + 3 ∧ (4372 + (8 * (σ 84 7))) + 3 < 112300) ∧ (0 ≤ (4372 + (8 * (σ 84 7))) + 4 ∧ (4372 + (8 * (σ 84 7))) + 4 < 112300) ∧ (0 ≤ (20 + (8 * x1)) + 7 ∧ (20 + (8 * x1)) + 7 < 112300) ∧ ((7 : Int) ≠ ((20 + (8 * x1)) + 7)) ∧ ((7 : Int) ≠ ((4372 + (8 * (σ 84 7))) + 4)) ∧ ((7 : Int) ≠ ((4372 + (8 * (σ 84 7))) + 3)) ∧ ((7 : Int) ≠ ((4372 + (8 * (σ 84 7))) + 2)) ∧ ((7 : Int) ≠ ((4372 + (8 * (σ 84 7))) + 1)) ∧ ((7 : Int) ≠ (4372 + (8 * (σ 84 7)))) ∧ ∃ w26 : Int, wI w26 = wI ((σ 84 7) + 1) ∧ rg w26 ∧ Q (some (.int (wI (w26 - 1)))) S (uc σ 84 (u1 (u1 (u1 (u1 (u1 (u1 (u1 (σ 84) (4372 + (8 * (σ 84 7))) x1) ((4372 + (8 * (σ 84 7))) + 1) x2) ((4372 + (8 * (σ 84 7))) + 2) x3) ((4372 + (8 * (σ 84 7))) + 3) x4) ((4372 + (8 * (σ 84 7))) + 4) x5) ((20 + (8 * x1)) + 7) 1) 7 w26)) τ)) else (Q (some (.int (wI (-1)))) S σ τ)) else (Q (some (.int (wI (-1)))) S σ τ)) else (Q (some (.int (wI (-1)))) S σ τ)) else (Q (some (.int (wI (-1)))) S σ τ)) else (Q (some (.int (wI (-1)))) S σ τ)) : wi (d + 3) 221 0 [.ref 83, .int (wI x1), .int (wI x2), .int (wI x3), .int (wI x4), .int (wI x5), .retAddr 0] [] S σ τ Q := by
  obtain ⟨r1, t⟩ := t
  refine i3 c_221_0 rfl ?_
  refine i81 (As := [.int (wI x1)]) (rest := []) c_221_1 mi_204 rfl rfl (Nat.le_of_ble_eq_true rfl) (Nat.le_of_ble_eq_true rfl) (q_204 r1 ?_)
  show wi (d + 3) 221 4 [.ref 83, .int (wI x1), .int (wI x2), .int (wI x3), .int (wI x4), .int (wI x5), .retAddr 0] [.int (wI (if 0 ≤ x1 ∧ x1 ≤ 5 then 1 else 0))] S σ τ Q
  refine i36e c_221_4 rfl (fun hc => ?_) (fun hc => ?_)
  · have t := iT t hc
    have ha2 : 0 ≤ x1 ∧ x1 ≤ 5 := hc
    obtain ⟨r3, t⟩ := t
    refine i3 c_221_7 rfl (i1 c_221_8 (i1 c_221_9 ?_))
    refine i81 (As := [.int (wI x2), .int (wI 1), .int (wI 500)]) (rest := []) c_221_12 mi_196 rfl rfl (Nat.le_of_ble_eq_true rfl) (Nat.le_of_ble_eq_true rfl) (q_196 r3 (by decide) (by decide) ?_)
    show wi (d + 3) 221 15 [.ref 83, .int (wI x1), .int (wI x2), .int (wI x3), .int (wI x4), .int (wI x5), .retAddr 0] [.int (wI (if 1 ≤ x2 ∧ x2 ≤ 500 then 1 else 0))] S σ τ Q
    refine i36e c_221_15 rfl (fun hc => ?_) (fun hc => ?_)
    · have t := iT t hc
      have ha4 : 1 ≤ x2 ∧ x2 ≤ 500 := hc
      obtain ⟨r5, t⟩ := t
      refine i3 c_221_18 rfl (i1 c_221_19 (i1 c_221_20 ?_))
      refine i81 (As := [.int (wI x3), .int (wI 1), .int (wI 10000)]) (rest := []) c_221_23 mi_196 rfl rfl (Nat.le_of_ble_eq_true rfl) (Nat.le_of_ble_eq_true rfl) (q_196 r5 (by decide) (by decide) ?_)
      show wi (d + 3) 221 26 [.ref 83, .int (wI x1), .int (wI x2), .int (wI x3), .int (wI x4), .int (wI x5), .retAddr 0] [.int (wI (if 1 ≤ x3 ∧ x3 ≤ 10000 then 1 else 0))] S σ τ Q
      refine i36e c_221_26 rfl (fun hc => ?_) (fun hc => ?_)
      · have t := iT t hc
        have ha6 : 1 ≤ x3 ∧ x3 ≤ 10000 := hc
        refine i3 c_221_29 rfl (i5 c_221_31 rfl (i45 c_221_32 (lo (c := 83) (kd := 112) (n := 0) rfl (by decide)) (lro (c := 83) (k := 0) (j := 84) (by decide)) (i1 c_221_35 (wi_ok (fun K7 => ?_)))))
        obtain ⟨r8, t⟩ := t
        refine i50 (v := σ 84 0) c_221_36 (lo (c := 84) (kd := 0) (n := 112300) rfl (by decide)) (by decide) (by decide) rfl (i1 c_221_37 ?_)
        refine i81 (As := [.int (wI x4), .int (wI (σ 84 0)), .int (wI 399)]) (rest := []) c_221_40 mi_196 rfl rfl (Nat.le_of_ble_eq_true rfl) (Nat.le_of_ble_eq_true rfl) (q_196 r8 (rge_ K7 rfl) (by decide) ?_)
        show wi (d + 3) 221 43 [.ref 83, .int (wI x1), .int (wI x2), .int (wI x3), .int (wI x4), .int (wI x5), .retAddr 0] [.int (wI (if (σ 84 0) ≤ x4 ∧ x4 ≤ 399 then 1 else 0))] S σ τ Q
        refine i36e c_221_43 rfl (fun hc => ?_) (fun hc => ?_)
        · have t := iT t hc
          have ha9 : (σ 84 0) ≤ x4 ∧ x4 ≤ 399 := hc
          obtain ⟨r10, t⟩ := t
          refine i3 c_221_46 rfl (i3 c_221_48 rfl (i1 c_221_50 ?_))
          refine i81 (As := [.int (wI x5), .int (wI x4), .int (wI 399)]) (rest := []) c_221_53 mi_196 rfl rfl (Nat.le_of_ble_eq_true rfl) (Nat.le_of_ble_eq_true rfl) (q_196 r10 r8 (by decide) ?_)
          show wi (d + 3) 221 56 [.ref 83, .int (wI x1), .int (wI x2), .int (wI x3), .int (wI x4), .int (wI x5), .retAddr 0] [.int (wI (if x4 ≤ x5 ∧ x5 ≤ 399 then 1 else 0))] S σ τ Q
          refine i36e c_221_56 rfl (fun hc => ?_) (fun hc => ?_)
          · have t := iT t hc
            have ha11 : x4 ≤ x5 ∧ x5 ≤ 399 := hc
            refine i5 c_221_59 rfl (i45 c_221_60 (lo (c := 83) (kd := 112) (n := 0) rfl (by decide)) (lro (c := 83) (k := 0) (j := 84) (by decide)) (i1 c_221_63 (i50 (v := σ 84 7) c_221_65 (lo (c := 84) (kd := 0) (n := 112300) rfl (by decide)) (by decide) (by decide) rfl (i1 c_221_66 ?_))))
            refine i37 c_221_68 (rge_ K7 rfl) (by decide) rfl (fun hc => ?_) (fun hc => ?_)
            · have t := iF t hc
              have ha12 : ¬ ((σ 84 7) = 80) := hc
              obtain ⟨r13, t⟩ := t
              obtain ⟨r14, t⟩ := t
              obtain ⟨r15, t⟩ := t
              obtain ⟨r16, t⟩ := t
              obtain ⟨r17, t⟩ := t
              obtain ⟨r18, t⟩ := t
              obtain ⟨n19, t⟩ := t
              obtain ⟨n20, t⟩ := t
              obtain ⟨n21, t⟩ := t
              obtain ⟨n22, t⟩ := t
              obtain ⟨n23, t⟩ := t
              obtain ⟨n24, t⟩ := t
              refine i1 c_221_73 (i1 c_221_76 (i5 c_221_78 rfl (i45 c_221_79 (lo (c := 83) (kd := 112) (n := 0) rfl (by decide)) (lro (c := 83) (k := 0) (j := 84) (by decide)) (i1 c_221_82 (i50 (v := σ 84 7) c_221_84 (lo (c := 84) (kd := 0) (n := 112300) rfl (by decide)) (by decide) (by decide) rfl (i12 c_221_85 (i10 c_221_86 (i6 (L' := [.ref 83, .int (wI x1), .int (wI x2), .int (wI x3), .int (wI x4), .int (wI x5), .int (wI (4372 + (8 * (σ 84 7))))]) c_221_87 rfl (i5 c_221_89 rfl (i45 c_221_90 (lo (c := 83) (kd := 112) (n := 0) rfl (by decide)) (lro (c := 83) (k := 0) (j := 84) (by decide)) (i3 c_221_93 rfl (i3 c_221_95 rfl (i54 (σ1 := uc σ 84 (u1 (σ 84) (4372 + (8 * (σ 84 7))) x1)) c_221_96 (lo (c := 84) (kd := 0) (n := 112300) rfl (by decide)) (by decide) r13 (by decide) rfl r1 (wr_ rfl rfl) (i5 c_221_97 rfl (i45 c_221_98 (lo (c := 83) (kd := 112) (n := 0) rfl (by decide)) (lro (c := 83) (k := 0) (j := 84) (by decide)) (i3 c_221_101 rfl (i1 c_221_103 (i10 c_221_104 (i3 c_221_105 rfl (i54 (σ1 := uc σ 84 (u1 (u1 (σ 84) (4372 + (8 * (σ 84 7))) x1) ((4372 + (8 * (σ 84 7))) + 1) x2)) c_221_106 (lo (c := 84) (kd := 0) (n := 112300) rfl (by decide)) (by decide) r14 (by decide) rfl r3 (wr_ (uc_s _ _ _) (uc_uc _ _ _ _)) (i5 c_221_107 rfl (i45 c_221_108 (lo (c := 83) (kd := 112) (n := 0) rfl (by decide)) (lro (c := 83) (k := 0) (j := 84) (by decide)) (i3 c_221_111 rfl (i1 c_221_113 (i10 c_221_114 (i3 c_221_115 rfl (i54 (σ1 := uc σ 84 (u1 (u1 (u1 (σ 84) (4372 + (8 * (σ 84 7))) x1) ((4372 + (8 * (σ 84 7))) + 1) x2) ((4372 + (8 * (σ 84 7))) + 2) x3)) c_221_116 (lo (c := 84) (kd := 0) (n := 112300) rfl (by decide)) (by decide) r15 (by decide) rfl r5 (wr_ (uc_s _ _ _) (uc_uc _ _ _ _)) (i5 c_221_117 rfl (i45 c_221_118 (lo (c := 83) (kd := 112) (n := 0) rfl (by decide)) (lro (c := 83) (k := 0) (j := 84) (by decide)) (i3 c_221_121 rfl (i1 c_221_123 (i10 c_221_124 (i3 c_221_125 rfl (i54 (σ1 := uc σ 84 (u1 (u1 (u1 (u1 (σ 84) (4372 + (8 * (σ 84 7))) x1) ((4372 + (8 * (σ 84 7))) + 1) x2) ((4372 + (8 * (σ 84 7))) + 2) x3) ((4372 + (8 * (σ 84 7))) + 3) x4)) c_221_127 (lo (c := 84) (kd := 0) (n := 112300) rfl (by decide)) (by decide) r16 (by decide) rfl r8 (wr_ (uc_s _ _ _) (uc_uc _ _ _ _)) (i5 c_221_128 rfl (i45 c_221_129 (lo (c := 83) (kd := 112) (n := 0) rfl (by decide)) (lro (c := 83) (k := 0) (j := 84) (by decide)) (i3 c_221_132 rfl (i1 c_221_134 (i10 c_221_135 (i3 c_221_136 rfl (i54 (σ1 := uc σ 84 (u1 (u1 (u1 (u1 (u1 (σ 84) (4372 + (8 * (σ 84 7))) x1) ((4372 + (8 * (σ 84 7))) + 1) x2) ((4372 + (8 * (σ 84 7))) + 2) x3) ((4372 + (8 * (σ 84 7))) + 3) x4) ((4372 + (8 * (σ 84 7))) + 4) x5)) c_221_138 (lo (c := 84) (kd := 0) (n := 112300) rfl (by decide)) (by decide) r17 (by decide) rfl r10 (wr_ (uc_s _ _ _) (uc_uc _ _ _ _)) (i5 c_221_139 rfl (i45 c_221_140 (lo (c := 83) (kd := 112) (n := 0) rfl (by decide)) (lro (c := 83) (k := 0) (j := 84) (by decide)) (i1 c_221_143 (i1 c_221_145 (i3 c_221_147 rfl (i12 c_221_148 (i10 c_221_149 (i1 c_221_150 (i10 c_221_152 (i1 c_221_153 (i54 (σ1 := uc σ 84 (u1 (u1 (u1 (u1 (u1 (u1 (σ 84) (4372 + (8 * (σ 84 7))) x1) ((4372 + (8 * (σ 84 7))) + 1) x2) ((4372 + (8 * (σ 84 7))) + 2) x3) ((4372 + (8 * (σ 84 7))) + 3) x4) ((4372 + (8 * (σ 84 7))) + 4) x5) ((20 + (8 * x1)) + 7) 1)) c_221_154 (lo (c := 84) (kd := 0) (n := 112300) rfl (by decide)) (by decide) r18 (by decide) rfl (by decide) (wr_ (uc_s _ _ _) (uc_uc _ _ _ _)) (i5 c_221_155 rfl (i45 c_221_156 (lo (c := 83) (kd := 112) (n := 0) rfl (by decide)) (lro (c := 83) (k := 0) (j := 84) (by decide)) (i1 c_221_159 (i34a c_221_161 (wi_ok (fun K25 => ?_))))))))))))))))))))))))))))))))))))))))))))))))))))))))))
              obtain ⟨w26, e27, r28, t⟩ := t
              refine i50 (v := σ 84 7) c_221_162 (lo (c := 84) (kd := 0) (n := 112300) rfl (by decide)) (by decide) (by decide) (((((((congrFun (uc_s _ _ _) _).trans (u1_n n19)).trans (u1_n n20)).trans (u1_n n21)).trans (u1_n n22)).trans (u1_n n23)).trans (u1_n n24)) (i1 c_221_163 (i10 c_221_164 (i54 (σ1 := uc σ 84 (u1 (u1 (u1 (u1 (u1 (u1 (u1 (σ 84) (4372 + (8 * (σ 84 7))) x1) ((4372 + (8 * (σ 84 7))) + 1) x2) ((4372 + (8 * (σ 84 7))) + 2) x3) ((4372 + (8 * (σ 84 7))) + 3) x4) ((4372 + (8 * (σ 84 7))) + 4) x5) ((20 + (8 * x1)) + 7) 1) 7 w26)) c_221_165 (lo (c := 84) (kd := 0) (n := 112300) rfl (by decide)) (by decide) (by decide) (by decide) e27 r28 (wr_ (uc_s _ _ _) (uc_uc _ _ _ _)) (i5 c_221_166 rfl (i45 c_221_167 (lo (c := 83) (kd := 112) (n := 0) rfl (by decide)) (lro (c := 83) (k := 0) (j := 84) (by decide)) (i1 c_221_170 (wi_ok (fun K29 => ?_))))))))
              refine i50 (v := w26) c_221_172 (lo (c := 84) (kd := 0) (n := 112300) rfl (by decide)) (by decide) (by decide) ((congrFun (uc_s _ _ _) _).trans (u1_s _ _ _)) (i1 c_221_173 (i11 c_221_174 ?_))
              exact i90 c_221_175 t
            · have t := iT t (Decidable.not_not.mp hc)
              have ha12 : (σ 84 7) = 80 := Decidable.not_not.mp hc
              refine i1 c_221_71 ?_
              exact i90 c_221_72 t
          · have t := iF t hc
            have ha11 : ¬ (x4 ≤ x5 ∧ x5 ≤ 399) := hc
            refine i1 c_221_71 ?_
            exact i90 c_221_72 t
        · have t := iF t hc
          have ha9 : ¬ ((σ 84 0) ≤ x4 ∧ x4 ≤ 399) := hc
          refine i1 c_221_71 ?_
          exact i90 c_221_72 t
      · have t := iF t hc
        have ha6 : ¬ (1 ≤ x3 ∧ x3 ≤ 10000) := hc
        refine i1 c_221_71 ?_
        exact i90 c_221_72 t
    · have t := iF t hc
      have ha4 : ¬ (1 ≤ x2 ∧ x2 ≤ 500) := hc
      refine i1 c_221_71 ?_
      exact i90 c_221_72 t
  · have t := iF t hc
    have ha2 : ¬ (0 ≤ x1 ∧ x1 ≤ 5) := hc
    refine i1 c_221_71 ?_
    exact i90 c_221_72 t
theorem q_221 {d : Nat} {S : zS} {σ τ : zI} {Q : zQ} {kind : Int} {pieces : Int} {price : Int} {from_ : Int} {to : Int} (p0 : rg kind) (p1 : rg pieces) (p2 : rg price) (p3 : rg from_) (p4 : rg to) (p5 : 0 ≤ σ 84 7 ∧ σ 84 7 ≤ 80) (t : Q (some (.int (wI (v_order (σ 84) kind pieces price from_ to)))) S (uc σ 84 (r_order (σ 84) kind pieces price from_ to)) τ) : wc (d + 3) 221 [.ref 83, .int (wI kind), .int (wI pieces), .int (wI price), .int (wI from_), .int (wI to)] S σ τ Q := by
  refine wc_ok fun K => ?_
  refine wc_of mi_221 rfl (u_221_0 ?_)
  unfold r_order v_order at t
  by_cases hk : k_order (σ 84) kind pieces price from_ to
  · rw [if_pos hk, if_pos hk] at t
    simp only [k_order] at hk
    repeat' (first | exact t | refine ⟨_, rfl, by omega, ?_⟩ | refine ⟨by omega, ?_⟩ | refine ifI (fun _ => ?_) (fun _ => ?_) | (exfalso; omega))
  · rw [if_neg hk, if_neg hk, uc_id] at t
    simp only [k_order] at hk
    repeat' (first | exact t | refine ⟨_, rfl, by omega, ?_⟩ | refine ⟨by omega, ?_⟩ | refine ifI (fun _ => ?_) (fun _ => ?_) | (exfalso; omega))
abbrev k_terms (a : Int → Int) (rail dear : Int) : Prop := (0 ≤ rail ∧ rail ≤ 1000) ∧ (1 ≤ dear ∧ dear ≤ 100000)
def r_terms (a : Int → Int) (rail dear : Int) : Int → Int := if k_terms a rail dear then u1 (u1 a (11) (rail)) (12) (dear) else a
-- method 222: MillTownModel.terms(II)Z
theorem c_222_0 : pg_cd 222 0 = (3, 1, 0, 1, 0) := by decide +kernel
theorem c_222_1 : pg_cd 222 1 = (1, 1, 0, 0, 0) := by decide +kernel
theorem c_222_2 : pg_cd 222 2 = (1, 3, 0, 0, 1000) := by decide +kernel
theorem c_222_5 : pg_cd 222 5 = (81, 196, 76, 0, 0) := by decide +kernel
theorem c_222_8 : pg_cd 222 8 = (36, 3, 0, 0, 13) := by decide +kernel
theorem c_222_11 : pg_cd 222 11 = (3, 1, 0, 2, 0) := by decide +kernel
theorem c_222_12 : pg_cd 222 12 = (1, 1, 0, 0, 1) := by decide +kernel
theorem c_222_13 : pg_cd 222 13 = (1, 2, 71, 0, 100000) := by decide +kernel
theorem c_222_15 : pg_cd 222 15 = (81, 196, 76, 0, 0) := by decide +kernel
theorem c_222_18 : pg_cd 222 18 = (36, 3, 0, 1, 5) := by decide +kernel
theorem c_222_21 : pg_cd 222 21 = (1, 1, 0, 0, 0) := by decide +kernel
theorem c_222_22 : pg_cd 222 22 = (91, 0, 0, 0, 0) := by decide +kernel
theorem c_222_23 : pg_cd 222 23 = (5, 1, 0, 0, 0) := by decide +kernel
theorem c_222_24 : pg_cd 222 24 = (45, 12, 8, 0, 0) := by decide +kernel
theorem c_222_27 : pg_cd 222 27 = (1, 2, 0, 0, 11) := by decide +kernel
theorem c_222_29 : pg_cd 222 29 = (3, 1, 0, 1, 0) := by decide +kernel
theorem c_222_30 : pg_cd 222 30 = (54, 1, 0, 0, 0) := by decide +kernel
theorem c_222_31 : pg_cd 222 31 = (5, 1, 0, 0, 0) := by decide +kernel
theorem c_222_32 : pg_cd 222 32 = (45, 12, 8, 0, 0) := by decide +kernel
theorem c_222_35 : pg_cd 222 35 = (1, 2, 0, 0, 12) := by decide +kernel
theorem c_222_37 : pg_cd 222 37 = (3, 1, 0, 2, 0) := by decide +kernel
theorem c_222_38 : pg_cd 222 38 = (54, 1, 0, 0, 0) := by decide +kernel
theorem c_222_39 : pg_cd 222 39 = (1, 1, 0, 0, 1) := by decide +kernel
theorem c_222_40 : pg_cd 222 40 = (91, 0, 0, 0, 0) := by decide +kernel
theorem mi_222 : pg_mc 222 = 12 ∧ pg_na 222 = 2 ∧ pg_mx 222 = 3 := by decide +kernel
set_option maxRecDepth 20000 in
theorem u_222_0 {d : Nat} {S : zS} {σ τ : zI} {Q : zQ} {x1 : Int} {x2 : Int} (t : (rg x1) ∧ if 0 ≤ x1 ∧ x1 ≤ 1000 then ((rg x2) ∧ if 1 ≤ x2 ∧ x2 ≤ 100000 then (Q (some (.int (wI 1))) S (uc σ 84 (u1 (u1 (σ 84) 11 x1) 12 x2)) τ) else (Q (some (.int (wI 0))) S σ τ)) else (Q (some (.int (wI 0))) S σ τ)) : wi (d + 3) 222 0 [.ref 83, .int (wI x1), .int (wI x2)] [] S σ τ Q := by
  obtain ⟨r1, t⟩ := t
  refine i3 c_222_0 rfl (i1 c_222_1 (i1 c_222_2 ?_))
  refine i81 (As := [.int (wI x1), .int (wI 0), .int (wI 1000)]) (rest := []) c_222_5 mi_196 rfl rfl (Nat.le_of_ble_eq_true rfl) (Nat.le_of_ble_eq_true rfl) (q_196 r1 (by decide) (by decide) ?_)
  show wi (d + 3) 222 8 [.ref 83, .int (wI x1), .int (wI x2)] [.int (wI (if 0 ≤ x1 ∧ x1 ≤ 1000 then 1 else 0))] S σ τ Q
  refine i36e c_222_8 rfl (fun hc => ?_) (fun hc => ?_)
  · have t := iT t hc
    have ha2 : 0 ≤ x1 ∧ x1 ≤ 1000 := hc
    obtain ⟨r3, t⟩ := t
    refine i3 c_222_11 rfl (i1 c_222_12 (i1 c_222_13 ?_))
    refine i81 (As := [.int (wI x2), .int (wI 1), .int (wI 100000)]) (rest := []) c_222_15 mi_196 rfl rfl (Nat.le_of_ble_eq_true rfl) (Nat.le_of_ble_eq_true rfl) (q_196 r3 (by decide) (by decide) ?_)
    show wi (d + 3) 222 18 [.ref 83, .int (wI x1), .int (wI x2)] [.int (wI (if 1 ≤ x2 ∧ x2 ≤ 100000 then 1 else 0))] S σ τ Q
    refine i36f c_222_18 rfl (fun hc => ?_) (fun hc => ?_)
    · have t := iT t hc
      have ha4 : 1 ≤ x2 ∧ x2 ≤ 100000 := hc
      refine i5 c_222_23 rfl (i45 c_222_24 (lo (c := 83) (kd := 112) (n := 0) rfl (by decide)) (lro (c := 83) (k := 0) (j := 84) (by decide)) (i1 c_222_27 (i3 c_222_29 rfl (i54 (σ1 := uc σ 84 (u1 (σ 84) 11 x1)) c_222_30 (lo (c := 84) (kd := 0) (n := 112300) rfl (by decide)) (by decide) (by decide) (by decide) rfl r1 (wr_ rfl rfl) (i5 c_222_31 rfl (i45 c_222_32 (lo (c := 83) (kd := 112) (n := 0) rfl (by decide)) (lro (c := 83) (k := 0) (j := 84) (by decide)) (i1 c_222_35 (i3 c_222_37 rfl (i54 (σ1 := uc σ 84 (u1 (u1 (σ 84) 11 x1) 12 x2)) c_222_38 (lo (c := 84) (kd := 0) (n := 112300) rfl (by decide)) (by decide) (by decide) (by decide) rfl r3 (wr_ (uc_s _ _ _) (uc_uc _ _ _ _)) (i1 c_222_39 ?_))))))))))
      exact i91 c_222_40 (by decide) t
    · have t := iF t hc
      have ha4 : ¬ (1 ≤ x2 ∧ x2 ≤ 100000) := hc
      refine i1 c_222_21 ?_
      exact i91 c_222_22 (by decide) t
  · have t := iF t hc
    have ha2 : ¬ (0 ≤ x1 ∧ x1 ≤ 1000) := hc
    refine i1 c_222_21 ?_
    exact i91 c_222_22 (by decide) t
theorem q_222 {d : Nat} {S : zS} {σ τ : zI} {Q : zQ} {rail : Int} {dear : Int} (p0 : rg rail) (p1 : rg dear) (t : Q (some (.int (wI (if k_terms (σ 84) rail dear then 1 else 0)))) S (uc σ 84 (r_terms (σ 84) rail dear)) τ) : wc (d + 3) 222 [.ref 83, .int (wI rail), .int (wI dear)] S σ τ Q := by
  refine wc_ok fun K => ?_
  refine wc_of mi_222 rfl (u_222_0 ?_)
  unfold r_terms at t
  by_cases hk : k_terms (σ 84) rail dear
  · rw [if_pos hk, if_pos hk] at t
    simp only [k_terms] at hk
    repeat' (first | exact t | refine ⟨_, rfl, by omega, ?_⟩ | refine ⟨by omega, ?_⟩ | refine ifI (fun _ => ?_) (fun _ => ?_) | (exfalso; omega))
  · rw [if_neg hk, if_neg hk, uc_id] at t
    simp only [k_terms] at hk
    repeat' (first | exact t | refine ⟨_, rfl, by omega, ?_⟩ | refine ⟨by omega, ?_⟩ | refine ifI (fun _ => ?_) (fun _ => ?_) | (exfalso; omega))
abbrev k_strike (a : Int → Int) (mill on : Int) : Prop := (0 ≤ mill ∧ mill < a 1) ∧ a (3300 + 16 * mill + 5) ≠ 1 ∧ ¬ (a (3300 + 16 * mill + 6) = 1 ↔ on = 1)
def r_strike (a : Int → Int) (mill on : Int) : Int → Int := if k_strike a mill on then u1 a (3300 + 16 * mill + 6) (on) else a
-- method 224: MillTownModel.strike(IZ)Z
theorem c_224_0 : pg_cd 224 0 = (5, 1, 0, 0, 0) := by decide +kernel
theorem c_224_1 : pg_cd 224 1 = (3, 1, 0, 1, 0) := by decide +kernel
theorem c_224_2 : pg_cd 224 2 = (80, 201, 115, 0, 0) := by decide +kernel
theorem c_224_5 : pg_cd 224 5 = (36, 3, 0, 0, 33) := by decide +kernel
theorem c_224_8 : pg_cd 224 8 = (5, 1, 0, 0, 0) := by decide +kernel
theorem c_224_9 : pg_cd 224 9 = (3, 1, 0, 1, 0) := by decide +kernel
theorem c_224_10 : pg_cd 224 10 = (1, 1, 0, 0, 5) := by decide +kernel
theorem c_224_11 : pg_cd 224 11 = (80, 198, 118, 0, 0) := by decide +kernel
theorem c_224_14 : pg_cd 224 14 = (1, 1, 0, 0, 1) := by decide +kernel
theorem c_224_15 : pg_cd 224 15 = (37, 3, 0, 0, 23) := by decide +kernel
theorem c_224_18 : pg_cd 224 18 = (5, 1, 0, 0, 0) := by decide +kernel
theorem c_224_19 : pg_cd 224 19 = (3, 1, 0, 1, 0) := by decide +kernel
theorem c_224_20 : pg_cd 224 20 = (1, 2, 0, 0, 6) := by decide +kernel
theorem c_224_22 : pg_cd 224 22 = (80, 198, 118, 0, 0) := by decide +kernel
theorem c_224_25 : pg_cd 224 25 = (1, 1, 0, 0, 1) := by decide +kernel
theorem c_224_26 : pg_cd 224 26 = (37, 3, 0, 1, 7) := by decide +kernel
theorem c_224_29 : pg_cd 224 29 = (1, 1, 0, 0, 1) := by decide +kernel
theorem c_224_30 : pg_cd 224 30 = (38, 3, 0, 0, 4) := by decide +kernel
theorem c_224_33 : pg_cd 224 33 = (1, 1, 0, 0, 0) := by decide +kernel
theorem c_224_34 : pg_cd 224 34 = (3, 1, 0, 2, 0) := by decide +kernel
theorem c_224_35 : pg_cd 224 35 = (37, 3, 0, 1, 5) := by decide +kernel
theorem c_224_38 : pg_cd 224 38 = (1, 1, 0, 0, 0) := by decide +kernel
theorem c_224_39 : pg_cd 224 39 = (91, 0, 0, 0, 0) := by decide +kernel
theorem c_224_40 : pg_cd 224 40 = (5, 1, 0, 0, 0) := by decide +kernel
theorem c_224_41 : pg_cd 224 41 = (45, 12, 8, 0, 0) := by decide +kernel
theorem c_224_44 : pg_cd 224 44 = (1, 3, 0, 0, 3300) := by decide +kernel
theorem c_224_47 : pg_cd 224 47 = (1, 2, 0, 0, 16) := by decide +kernel
theorem c_224_49 : pg_cd 224 49 = (3, 1, 0, 1, 0) := by decide +kernel
theorem c_224_50 : pg_cd 224 50 = (12, 1, 0, 0, 0) := by decide +kernel
theorem c_224_51 : pg_cd 224 51 = (10, 1, 0, 0, 0) := by decide +kernel
theorem c_224_52 : pg_cd 224 52 = (1, 2, 0, 0, 6) := by decide +kernel
theorem c_224_54 : pg_cd 224 54 = (10, 1, 0, 0, 0) := by decide +kernel
theorem c_224_55 : pg_cd 224 55 = (3, 1, 0, 2, 0) := by decide +kernel
theorem c_224_56 : pg_cd 224 56 = (36, 3, 0, 0, 7) := by decide +kernel
theorem c_224_59 : pg_cd 224 59 = (1, 1, 0, 0, 1) := by decide +kernel
theorem c_224_60 : pg_cd 224 60 = (38, 3, 0, 0, 4) := by decide +kernel
theorem c_224_63 : pg_cd 224 63 = (1, 1, 0, 0, 0) := by decide +kernel
theorem c_224_64 : pg_cd 224 64 = (54, 1, 0, 0, 0) := by decide +kernel
theorem c_224_65 : pg_cd 224 65 = (1, 1, 0, 0, 1) := by decide +kernel
theorem c_224_66 : pg_cd 224 66 = (91, 0, 0, 0, 0) := by decide +kernel
theorem mi_224 : pg_mc 224 = 12 ∧ pg_na 224 = 2 ∧ pg_mx 224 = 3 := by decide +kernel
set_option maxRecDepth 20000 in
theorem u_224_0 {d : Nat} {S : zS} {σ τ : zI} {Q : zQ} {x1 : Int} {x2 : Int} (t : (rg x1) ∧ (0 ≤ σ 84 1) ∧ if 0 ≤ x1 ∧ x1 < σ 84 1 then ((0 ≤ 3300 + 16 * x1 + 5 ∧ 3300 + 16 * x1 + 5 < 112300) ∧ if (σ 84 (3300 + 16 * x1 + 5)) = 1 then (Q (some (.int (wI 0))) S σ τ) else ((0 ≤ 3300 + 16 * x1 + 6 ∧ 3300 + 16 * x1 + 6 < 112300) ∧ if (σ 84 (3300 + 16 * x1 + 6)) = 1 then ((rg x2) ∧ if (1 : Int) = x2 then (Q (some (.int (wI 0))) S σ τ) else (if x2 = 0 then ((0 ≤ (3300 + (16 * x1)) + 6 ∧ (3300 + (16 * x1)) + 6 < 112300) ∧ Q (some (.int (wI 1))) S (uc σ 84 (u1 (σ 84) ((3300 + (16 * x1)) + 6) 0)) τ) else ((0 ≤ (3300 + (16 * x1)) + 6 ∧ (3300 + (16 * x1)) + 6 < 112300) ∧ Q (some (.int (wI 1))) S (uc σ 84 (u1 (σ 84) ((3300 + (16 * x1)) + 6) 1)) τ))) else ((rg x2) ∧ if (0 : Int) = x2 then (Q (some (.int (wI 0))) S σ τ) else (if x2 = 0 then ((0 ≤ (3300 + (16 * x1)) + 6 ∧ (3300 + (16 * x1)) + 6 < 112300) ∧ Q (some (.int (wI 1))) S (uc σ 84 (u1 (σ 84) ((3300 + (16 * x1)) + 6) 0)) τ) else ((0 ≤ (3300 + (16 * x1)) + 6 ∧ (3300 + (16 * x1)) + 6 < 112300) ∧ Q (some (.int (wI 1))) S (uc σ 84 (u1 (σ 84) ((3300 + (16 * x1)) + 6) 1)) τ))))) else (Q (some (.int (wI 0))) S σ τ)) : wi (d + 3) 224 0 [.ref 83, .int (wI x1), .int (wI x2)] [] S σ τ Q := by
  obtain ⟨r1, t⟩ := t
  obtain ⟨p2, t⟩ := t
  refine i5 c_224_0 rfl (i3 c_224_1 rfl ?_)
  refine i80 (As := [.int (wI x1)]) (rest := []) c_224_2 mi_201 rfl rfl (Nat.le_of_ble_eq_true rfl) (Nat.le_of_ble_eq_true rfl) (lo (c := 83) (kd := 112) (n := 0) rfl (by decide)) (q_201 r1 p2 ?_)
  show wi (d + 3) 224 5 [.ref 83, .int (wI x1), .int (wI x2)] [.int (wI (if 0 ≤ x1 ∧ x1 < σ 84 1 then 1 else 0))] S σ τ Q
  refine i36e c_224_5 rfl (fun hc => ?_) (fun hc => ?_)
  · have t := iT t hc
    have ha3 : 0 ≤ x1 ∧ x1 < σ 84 1 := hc
    obtain ⟨p4, t⟩ := t
    refine i5 c_224_8 rfl (i3 c_224_9 rfl (i1 c_224_10 ?_))
    refine i80 (As := [.int (wI x1), .int (wI 5)]) (rest := []) c_224_11 mi_198 rfl rfl (Nat.le_of_ble_eq_true rfl) (Nat.le_of_ble_eq_true rfl) (lo (c := 83) (kd := 112) (n := 0) rfl (by decide)) (q_198 p4 ?_)
    show wi (d + 3) 224 14 [.ref 83, .int (wI x1), .int (wI x2)] [.int (wI (σ 84 (3300 + 16 * x1 + 5)))] S σ τ Q
    refine wi_ok (fun K5 => ?_)
    refine i1 c_224_14 ?_
    refine i37 c_224_15 (rge_ K5 rfl) (by decide) rfl (fun hc => ?_) (fun hc => ?_)
    · have t := iT t hc
      have ha6 : (σ 84 (3300 + 16 * x1 + 5)) = 1 := hc
      refine i1 c_224_38 ?_
      exact i91 c_224_39 (by decide) t
    · have t := iF t hc
      have ha6 : ¬ ((σ 84 (3300 + 16 * x1 + 5)) = 1) := hc
      obtain ⟨p7, t⟩ := t
      refine i5 c_224_18 rfl (i3 c_224_19 rfl (i1 c_224_20 ?_))
      refine i80 (As := [.int (wI x1), .int (wI 6)]) (rest := []) c_224_22 mi_198 rfl rfl (Nat.le_of_ble_eq_true rfl) (Nat.le_of_ble_eq_true rfl) (lo (c := 83) (kd := 112) (n := 0) rfl (by decide)) (q_198 p7 ?_)
      show wi (d + 3) 224 25 [.ref 83, .int (wI x1), .int (wI x2)] [.int (wI (σ 84 (3300 + 16 * x1 + 6)))] S σ τ Q
      refine i1 c_224_25 ?_
      refine i37 c_224_26 (rge_ K5 rfl) (by decide) rfl (fun hc => ?_) (fun hc => ?_)
      · have t := iF t hc
        have ha8 : ¬ ((σ 84 (3300 + 16 * x1 + 6)) = 1) := hc
        obtain ⟨r9, t⟩ := t
        refine i1 c_224_33 (i3 c_224_34 rfl ?_)
        refine i37 c_224_35 (by decide) r9 rfl (fun hc => ?_) (fun hc => ?_)
        · have t := iF t hc
          have ha10 : ¬ ((0 : Int) = x2) := hc
          refine i5 c_224_40 rfl (i45 c_224_41 (lo (c := 83) (kd := 112) (n := 0) rfl (by decide)) (lro (c := 83) (k := 0) (j := 84) (by decide)) (i1 c_224_44 (i1 c_224_47 (i3 c_224_49 rfl (i12 c_224_50 (i10 c_224_51 (i1 c_224_52 (i10 c_224_54 (i3 c_224_55 rfl ?_)))))))))
          refine i36 c_224_56 r9 rfl (fun hc => ?_) (fun hc => ?_)
          · have t := iT t hc
            have ha11 : x2 = 0 := hc
            obtain ⟨r12, t⟩ := t
            refine i1 c_224_63 (i54 (σ1 := uc σ 84 (u1 (σ 84) ((3300 + (16 * x1)) + 6) 0)) c_224_64 (lo (c := 84) (kd := 0) (n := 112300) rfl (by decide)) (by decide) r12 (by decide) rfl (by decide) (wr_ rfl rfl) (i1 c_224_65 ?_))
            exact i91 c_224_66 (by decide) t
          · have t := iF t hc
            have ha11 : ¬ (x2 = 0) := hc
            obtain ⟨r13, t⟩ := t
            refine i1 c_224_59 (i38 c_224_60 rfl (i54 (σ1 := uc σ 84 (u1 (σ 84) ((3300 + (16 * x1)) + 6) 1)) c_224_64 (lo (c := 84) (kd := 0) (n := 112300) rfl (by decide)) (by decide) r13 (by decide) rfl (by decide) (wr_ rfl rfl) (i1 c_224_65 ?_)))
            exact i91 c_224_66 (by decide) t
        · have t := iT t (Decidable.not_not.mp hc)
          have ha10 : (0 : Int) = x2 := Decidable.not_not.mp hc
          refine i1 c_224_38 ?_
          exact i91 c_224_39 (by decide) t
      · have t := iT t (Decidable.not_not.mp hc)
        have ha8 : (σ 84 (3300 + 16 * x1 + 6)) = 1 := Decidable.not_not.mp hc
        obtain ⟨r14, t⟩ := t
        refine i1 c_224_29 (i38 c_224_30 rfl (i3 c_224_34 rfl ?_))
        refine i37 c_224_35 (by decide) r14 rfl (fun hc => ?_) (fun hc => ?_)
        · have t := iF t hc
          have ha15 : ¬ ((1 : Int) = x2) := hc
          refine i5 c_224_40 rfl (i45 c_224_41 (lo (c := 83) (kd := 112) (n := 0) rfl (by decide)) (lro (c := 83) (k := 0) (j := 84) (by decide)) (i1 c_224_44 (i1 c_224_47 (i3 c_224_49 rfl (i12 c_224_50 (i10 c_224_51 (i1 c_224_52 (i10 c_224_54 (i3 c_224_55 rfl ?_)))))))))
          refine i36 c_224_56 r14 rfl (fun hc => ?_) (fun hc => ?_)
          · have t := iT t hc
            have ha16 : x2 = 0 := hc
            obtain ⟨r17, t⟩ := t
            refine i1 c_224_63 (i54 (σ1 := uc σ 84 (u1 (σ 84) ((3300 + (16 * x1)) + 6) 0)) c_224_64 (lo (c := 84) (kd := 0) (n := 112300) rfl (by decide)) (by decide) r17 (by decide) rfl (by decide) (wr_ rfl rfl) (i1 c_224_65 ?_))
            exact i91 c_224_66 (by decide) t
          · have t := iF t hc
            have ha16 : ¬ (x2 = 0) := hc
            obtain ⟨r18, t⟩ := t
            refine i1 c_224_59 (i38 c_224_60 rfl (i54 (σ1 := uc σ 84 (u1 (σ 84) ((3300 + (16 * x1)) + 6) 1)) c_224_64 (lo (c := 84) (kd := 0) (n := 112300) rfl (by decide)) (by decide) r18 (by decide) rfl (by decide) (wr_ rfl rfl) (i1 c_224_65 ?_)))
            exact i91 c_224_66 (by decide) t
        · have t := iT t (Decidable.not_not.mp hc)
          have ha15 : (1 : Int) = x2 := Decidable.not_not.mp hc
          refine i1 c_224_38 ?_
          exact i91 c_224_39 (by decide) t
  · have t := iF t hc
    have ha3 : ¬ (0 ≤ x1 ∧ x1 < σ 84 1) := hc
    refine i1 c_224_38 ?_
    exact i91 c_224_39 (by decide) t
theorem q_224 {d : Nat} {S : zS} {σ τ : zI} {Q : zQ} {mill : Int} {on : Int} (p0 : rg mill) (p1 : rg on) (p2 : 0 ≤ σ 84 1 ∧ σ 84 1 ≤ 8) (p3 : on = 0 ∨ on = 1) (t : Q (some (.int (wI (if k_strike (σ 84) mill on then 1 else 0)))) S (uc σ 84 (r_strike (σ 84) mill on)) τ) : wc (d + 3) 224 [.ref 83, .int (wI mill), .int (wI on)] S σ τ Q := by
  refine wc_ok fun K => ?_
  refine wc_of mi_224 rfl (u_224_0 ?_)
  unfold r_strike at t
  by_cases hk : k_strike (σ 84) mill on
  · rw [if_pos hk, if_pos hk] at t
    simp only [k_strike] at hk
    repeat' (first | exact t | refine ⟨_, rfl, by omega, ?_⟩ | refine ⟨by omega, ?_⟩ | refine ifI (fun _ => ?_) (fun _ => ?_) | (have hon : on = 0 := (by omega); rw [hon] at t; exact t) | (have hon : on = 1 := (by omega); rw [hon] at t; exact t) | (exfalso; omega))
  · rw [if_neg hk, if_neg hk, uc_id] at t
    simp only [k_strike] at hk
    repeat' (first | exact t | refine ⟨_, rfl, by omega, ?_⟩ | refine ⟨by omega, ?_⟩ | refine ifI (fun _ => ?_) (fun _ => ?_) | (exfalso; omega))
abbrev k_offer (a : Int → Int) (side v : Int) : Prop := (0 ≤ side ∧ side ≤ 1) ∧ (0 ≤ v ∧ v ≤ 1000)
def r_offer (a : Int → Int) (side v : Int) : Int → Int := if k_offer a side v then u1 a (13 + side) (v) else a
-- method 305: MillTownModel.offer(II)Z
theorem c_305_0 : pg_cd 305 0 = (3, 1, 0, 1, 0) := by decide +kernel
theorem c_305_1 : pg_cd 305 1 = (1, 1, 0, 0, 0) := by decide +kernel
theorem c_305_2 : pg_cd 305 2 = (1, 1, 0, 0, 1) := by decide +kernel
theorem c_305_3 : pg_cd 305 3 = (81, 196, 76, 0, 0) := by decide +kernel
theorem c_305_6 : pg_cd 305 6 = (36, 3, 0, 0, 14) := by decide +kernel
theorem c_305_9 : pg_cd 305 9 = (3, 1, 0, 2, 0) := by decide +kernel
theorem c_305_10 : pg_cd 305 10 = (1, 1, 0, 0, 0) := by decide +kernel
theorem c_305_11 : pg_cd 305 11 = (1, 3, 0, 0, 1000) := by decide +kernel
theorem c_305_14 : pg_cd 305 14 = (81, 196, 76, 0, 0) := by decide +kernel
theorem c_305_17 : pg_cd 305 17 = (36, 3, 0, 1, 5) := by decide +kernel
theorem c_305_20 : pg_cd 305 20 = (1, 1, 0, 0, 0) := by decide +kernel
theorem c_305_21 : pg_cd 305 21 = (91, 0, 0, 0, 0) := by decide +kernel
theorem c_305_22 : pg_cd 305 22 = (5, 1, 0, 0, 0) := by decide +kernel
theorem c_305_23 : pg_cd 305 23 = (45, 12, 8, 0, 0) := by decide +kernel
theorem c_305_26 : pg_cd 305 26 = (1, 2, 0, 0, 13) := by decide +kernel
theorem c_305_28 : pg_cd 305 28 = (3, 1, 0, 1, 0) := by decide +kernel
theorem c_305_29 : pg_cd 305 29 = (10, 1, 0, 0, 0) := by decide +kernel
theorem c_305_30 : pg_cd 305 30 = (3, 1, 0, 2, 0) := by decide +kernel
theorem c_305_31 : pg_cd 305 31 = (54, 1, 0, 0, 0) := by decide +kernel
theorem c_305_32 : pg_cd 305 32 = (1, 1, 0, 0, 1) := by decide +kernel
theorem c_305_33 : pg_cd 305 33 = (91, 0, 0, 0, 0) := by decide +kernel
theorem mi_305 : pg_mc 305 = 12 ∧ pg_na 305 = 2 ∧ pg_mx 305 = 3 := by decide +kernel
set_option maxRecDepth 20000 in
theorem u_305_0 {d : Nat} {S : zS} {σ τ : zI} {Q : zQ} {x1 : Int} {x2 : Int} (t : (rg x1) ∧ if 0 ≤ x1 ∧ x1 ≤ 1 then ((rg x2) ∧ if 0 ≤ x2 ∧ x2 ≤ 1000 then ((0 ≤ 13 + x1 ∧ 13 + x1 < 112300) ∧ Q (some (.int (wI 1))) S (uc σ 84 (u1 (σ 84) (13 + x1) x2)) τ) else (Q (some (.int (wI 0))) S σ τ)) else (Q (some (.int (wI 0))) S σ τ)) : wi (d + 3) 305 0 [.ref 83, .int (wI x1), .int (wI x2)] [] S σ τ Q := by
  obtain ⟨r1, t⟩ := t
  refine i3 c_305_0 rfl (i1 c_305_1 (i1 c_305_2 ?_))
  refine i81 (As := [.int (wI x1), .int (wI 0), .int (wI 1)]) (rest := []) c_305_3 mi_196 rfl rfl (Nat.le_of_ble_eq_true rfl) (Nat.le_of_ble_eq_true rfl) (q_196 r1 (by decide) (by decide) ?_)
  show wi (d + 3) 305 6 [.ref 83, .int (wI x1), .int (wI x2)] [.int (wI (if 0 ≤ x1 ∧ x1 ≤ 1 then 1 else 0))] S σ τ Q
  refine i36e c_305_6 rfl (fun hc => ?_) (fun hc => ?_)
  · have t := iT t hc
    have ha2 : 0 ≤ x1 ∧ x1 ≤ 1 := hc
    obtain ⟨r3, t⟩ := t
    refine i3 c_305_9 rfl (i1 c_305_10 (i1 c_305_11 ?_))
    refine i81 (As := [.int (wI x2), .int (wI 0), .int (wI 1000)]) (rest := []) c_305_14 mi_196 rfl rfl (Nat.le_of_ble_eq_true rfl) (Nat.le_of_ble_eq_true rfl) (q_196 r3 (by decide) (by decide) ?_)
    show wi (d + 3) 305 17 [.ref 83, .int (wI x1), .int (wI x2)] [.int (wI (if 0 ≤ x2 ∧ x2 ≤ 1000 then 1 else 0))] S σ τ Q
    refine i36f c_305_17 rfl (fun hc => ?_) (fun hc => ?_)
    · have t := iT t hc
      have ha4 : 0 ≤ x2 ∧ x2 ≤ 1000 := hc
      obtain ⟨r5, t⟩ := t
      refine i5 c_305_22 rfl (i45 c_305_23 (lo (c := 83) (kd := 112) (n := 0) rfl (by decide)) (lro (c := 83) (k := 0) (j := 84) (by decide)) (i1 c_305_26 (i3 c_305_28 rfl (i10 c_305_29 (i3 c_305_30 rfl (i54 (σ1 := uc σ 84 (u1 (σ 84) (13 + x1) x2)) c_305_31 (lo (c := 84) (kd := 0) (n := 112300) rfl (by decide)) (by decide) r5 (by decide) rfl r3 (wr_ rfl rfl) (i1 c_305_32 ?_)))))))
      exact i91 c_305_33 (by decide) t
    · have t := iF t hc
      have ha4 : ¬ (0 ≤ x2 ∧ x2 ≤ 1000) := hc
      refine i1 c_305_20 ?_
      exact i91 c_305_21 (by decide) t
  · have t := iF t hc
    have ha2 : ¬ (0 ≤ x1 ∧ x1 ≤ 1) := hc
    refine i1 c_305_20 ?_
    exact i91 c_305_21 (by decide) t
theorem q_305 {d : Nat} {S : zS} {σ τ : zI} {Q : zQ} {side : Int} {v : Int} (p0 : rg side) (p1 : rg v) (t : Q (some (.int (wI (if k_offer (σ 84) side v then 1 else 0)))) S (uc σ 84 (r_offer (σ 84) side v)) τ) : wc (d + 3) 305 [.ref 83, .int (wI side), .int (wI v)] S σ τ Q := by
  refine wc_ok fun K => ?_
  refine wc_of mi_305 rfl (u_305_0 ?_)
  unfold r_offer at t
  by_cases hk : k_offer (σ 84) side v
  · rw [if_pos hk, if_pos hk] at t
    simp only [k_offer] at hk
    repeat' (first | exact t | refine ⟨_, rfl, by omega, ?_⟩ | refine ⟨by omega, ?_⟩ | refine ifI (fun _ => ?_) (fun _ => ?_) | (exfalso; omega))
  · rw [if_neg hk, if_neg hk, uc_id] at t
    simp only [k_offer] at hk
    repeat' (first | exact t | refine ⟨_, rfl, by omega, ?_⟩ | refine ⟨by omega, ?_⟩ | refine ifI (fun _ => ?_) (fun _ => ?_) | (exfalso; omega))
abbrev k_wish (a : Int → Int) (kind v : Int) : Prop := (0 ≤ kind ∧ kind ≤ 5) ∧ (v = -1 ∨ 0 ≤ v ∧ v ≤ 10000)
def r_wish (a : Int → Int) (kind v : Int) : Int → Int := if k_wish a kind v then u1 a (20 + 8 * kind + 6) (v) else a
-- method 307: MillTownModel.wish(II)Z
theorem c_307_0 : pg_cd 307 0 = (3, 1, 0, 1, 0) := by decide +kernel
theorem c_307_1 : pg_cd 307 1 = (81, 204, 80, 0, 0) := by decide +kernel
theorem c_307_4 : pg_cd 307 4 = (36, 3, 0, 0, 19) := by decide +kernel
theorem c_307_7 : pg_cd 307 7 = (3, 1, 0, 2, 0) := by decide +kernel
theorem c_307_8 : pg_cd 307 8 = (1, 1, 0, 0, (-1)) := by decide +kernel
theorem c_307_9 : pg_cd 307 9 = (37, 3, 0, 0, 16) := by decide +kernel
theorem c_307_12 : pg_cd 307 12 = (3, 1, 0, 2, 0) := by decide +kernel
theorem c_307_13 : pg_cd 307 13 = (1, 1, 0, 0, 0) := by decide +kernel
theorem c_307_14 : pg_cd 307 14 = (1, 3, 0, 0, 10000) := by decide +kernel
theorem c_307_17 : pg_cd 307 17 = (81, 196, 76, 0, 0) := by decide +kernel
theorem c_307_20 : pg_cd 307 20 = (36, 3, 0, 1, 5) := by decide +kernel
theorem c_307_23 : pg_cd 307 23 = (1, 1, 0, 0, 0) := by decide +kernel
theorem c_307_24 : pg_cd 307 24 = (91, 0, 0, 0, 0) := by decide +kernel
theorem c_307_25 : pg_cd 307 25 = (5, 1, 0, 0, 0) := by decide +kernel
theorem c_307_26 : pg_cd 307 26 = (45, 12, 8, 0, 0) := by decide +kernel
theorem c_307_29 : pg_cd 307 29 = (1, 2, 0, 0, 20) := by decide +kernel
theorem c_307_31 : pg_cd 307 31 = (1, 2, 0, 0, 8) := by decide +kernel
theorem c_307_33 : pg_cd 307 33 = (3, 1, 0, 1, 0) := by decide +kernel
theorem c_307_34 : pg_cd 307 34 = (12, 1, 0, 0, 0) := by decide +kernel
theorem c_307_35 : pg_cd 307 35 = (10, 1, 0, 0, 0) := by decide +kernel
theorem c_307_36 : pg_cd 307 36 = (1, 2, 0, 0, 6) := by decide +kernel
theorem c_307_38 : pg_cd 307 38 = (10, 1, 0, 0, 0) := by decide +kernel
theorem c_307_39 : pg_cd 307 39 = (3, 1, 0, 2, 0) := by decide +kernel
theorem c_307_40 : pg_cd 307 40 = (54, 1, 0, 0, 0) := by decide +kernel
theorem c_307_41 : pg_cd 307 41 = (1, 1, 0, 0, 1) := by decide +kernel
theorem c_307_42 : pg_cd 307 42 = (91, 0, 0, 0, 0) := by decide +kernel
theorem mi_307 : pg_mc 307 = 12 ∧ pg_na 307 = 2 ∧ pg_mx 307 = 3 := by decide +kernel
set_option maxRecDepth 20000 in
theorem u_307_0 {d : Nat} {S : zS} {σ τ : zI} {Q : zQ} {x1 : Int} {x2 : Int} (t : (rg x1) ∧ if 0 ≤ x1 ∧ x1 ≤ 5 then ((rg x2) ∧ if x2 = (-1) then ((0 ≤ (20 + (8 * x1)) + 6 ∧ (20 + (8 * x1)) + 6 < 112300) ∧ Q (some (.int (wI 1))) S (uc σ 84 (u1 (σ 84) ((20 + (8 * x1)) + 6) x2)) τ) else (if 0 ≤ x2 ∧ x2 ≤ 10000 then ((0 ≤ (20 + (8 * x1)) + 6 ∧ (20 + (8 * x1)) + 6 < 112300) ∧ Q (some (.int (wI 1))) S (uc σ 84 (u1 (σ 84) ((20 + (8 * x1)) + 6) x2)) τ) else (Q (some (.int (wI 0))) S σ τ))) else (Q (some (.int (wI 0))) S σ τ)) : wi (d + 3) 307 0 [.ref 83, .int (wI x1), .int (wI x2)] [] S σ τ Q := by
  obtain ⟨r1, t⟩ := t
  refine i3 c_307_0 rfl ?_
  refine i81 (As := [.int (wI x1)]) (rest := []) c_307_1 mi_204 rfl rfl (Nat.le_of_ble_eq_true rfl) (Nat.le_of_ble_eq_true rfl) (q_204 r1 ?_)
  show wi (d + 3) 307 4 [.ref 83, .int (wI x1), .int (wI x2)] [.int (wI (if 0 ≤ x1 ∧ x1 ≤ 5 then 1 else 0))] S σ τ Q
  refine i36e c_307_4 rfl (fun hc => ?_) (fun hc => ?_)
  · have t := iT t hc
    have ha2 : 0 ≤ x1 ∧ x1 ≤ 5 := hc
    obtain ⟨r3, t⟩ := t
    refine i3 c_307_7 rfl (i1 c_307_8 ?_)
    refine i37 c_307_9 r3 (by decide) rfl (fun hc => ?_) (fun hc => ?_)
    · have t := iT t hc
      have ha4 : x2 = (-1) := hc
      obtain ⟨r5, t⟩ := t
      refine i5 c_307_25 rfl (i45 c_307_26 (lo (c := 83) (kd := 112) (n := 0) rfl (by decide)) (lro (c := 83) (k := 0) (j := 84) (by decide)) (i1 c_307_29 (i1 c_307_31 (i3 c_307_33 rfl (i12 c_307_34 (i10 c_307_35 (i1 c_307_36 (i10 c_307_38 (i3 c_307_39 rfl (i54 (σ1 := uc σ 84 (u1 (σ 84) ((20 + (8 * x1)) + 6) x2)) c_307_40 (lo (c := 84) (kd := 0) (n := 112300) rfl (by decide)) (by decide) r5 (by decide) rfl r3 (wr_ rfl rfl) (i1 c_307_41 ?_)))))))))))
      exact i91 c_307_42 (by decide) t
    · have t := iF t hc
      have ha4 : ¬ (x2 = (-1)) := hc
      refine i3 c_307_12 rfl (i1 c_307_13 (i1 c_307_14 ?_))
      refine i81 (As := [.int (wI x2), .int (wI 0), .int (wI 10000)]) (rest := []) c_307_17 mi_196 rfl rfl (Nat.le_of_ble_eq_true rfl) (Nat.le_of_ble_eq_true rfl) (q_196 r3 (by decide) (by decide) ?_)
      show wi (d + 3) 307 20 [.ref 83, .int (wI x1), .int (wI x2)] [.int (wI (if 0 ≤ x2 ∧ x2 ≤ 10000 then 1 else 0))] S σ τ Q
      refine i36f c_307_20 rfl (fun hc => ?_) (fun hc => ?_)
      · have t := iT t hc
        have ha6 : 0 ≤ x2 ∧ x2 ≤ 10000 := hc
        obtain ⟨r7, t⟩ := t
        refine i5 c_307_25 rfl (i45 c_307_26 (lo (c := 83) (kd := 112) (n := 0) rfl (by decide)) (lro (c := 83) (k := 0) (j := 84) (by decide)) (i1 c_307_29 (i1 c_307_31 (i3 c_307_33 rfl (i12 c_307_34 (i10 c_307_35 (i1 c_307_36 (i10 c_307_38 (i3 c_307_39 rfl (i54 (σ1 := uc σ 84 (u1 (σ 84) ((20 + (8 * x1)) + 6) x2)) c_307_40 (lo (c := 84) (kd := 0) (n := 112300) rfl (by decide)) (by decide) r7 (by decide) rfl r3 (wr_ rfl rfl) (i1 c_307_41 ?_)))))))))))
        exact i91 c_307_42 (by decide) t
      · have t := iF t hc
        have ha6 : ¬ (0 ≤ x2 ∧ x2 ≤ 10000) := hc
        refine i1 c_307_23 ?_
        exact i91 c_307_24 (by decide) t
  · have t := iF t hc
    have ha2 : ¬ (0 ≤ x1 ∧ x1 ≤ 5) := hc
    refine i1 c_307_23 ?_
    exact i91 c_307_24 (by decide) t
theorem q_307 {d : Nat} {S : zS} {σ τ : zI} {Q : zQ} {kind : Int} {v : Int} (p0 : rg kind) (p1 : rg v) (t : Q (some (.int (wI (if k_wish (σ 84) kind v then 1 else 0)))) S (uc σ 84 (r_wish (σ 84) kind v)) τ) : wc (d + 3) 307 [.ref 83, .int (wI kind), .int (wI v)] S σ τ Q := by
  refine wc_ok fun K => ?_
  refine wc_of mi_307 rfl (u_307_0 ?_)
  unfold r_wish at t
  by_cases hk : k_wish (σ 84) kind v
  · rw [if_pos hk, if_pos hk] at t
    simp only [k_wish] at hk
    repeat' (first | exact t | refine ⟨_, rfl, by omega, ?_⟩ | refine ⟨by omega, ?_⟩ | refine ifI (fun _ => ?_) (fun _ => ?_) | (exfalso; omega))
  · rw [if_neg hk, if_neg hk, uc_id] at t
    simp only [k_wish] at hk
    repeat' (first | exact t | refine ⟨_, rfl, by omega, ?_⟩ | refine ⟨by omega, ?_⟩ | refine ifI (fun _ => ?_) (fun _ => ?_) | (exfalso; omega))
