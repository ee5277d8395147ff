/-! ===== half time shared: the search itself (segments printed by wip/whole, contracts own work) ===== -/
-- method 71: MillTown$Sharing.search(LMillTown$Rows;II)V
theorem c_71_0 : pg_cd 71 0 = (3, 1, 0, 2, 0) := by decide +kernel
theorem c_71_1 : pg_cd 71 1 = (36, 3, 0, 2, 9) := by decide +kernel
theorem c_71_4 : pg_cd 71 4 = (3, 1, 0, 2, 0) := by decide +kernel
theorem c_71_5 : pg_cd 71 5 = (1, 2, 0, 0, 8) := by decide +kernel
theorem c_71_7 : pg_cd 71 7 = (37, 3, 0, 5, 4) := by decide +kernel
theorem c_71_10 : pg_cd 71 10 = (94, 0, 0, 0, 0) := by decide +kernel
theorem c_71_11 : pg_cd 71 11 = (5, 1, 0, 0, 0) := by decide +kernel
theorem c_71_12 : pg_cd 71 12 = (3, 1, 0, 2, 0) := by decide +kernel
theorem c_71_13 : pg_cd 71 13 = (80, 70, 138, 0, 0) := by decide +kernel
theorem c_71_16 : pg_cd 71 16 = (6, 2, 0, 4, 0) := by decide +kernel
theorem c_71_18 : pg_cd 71 18 = (5, 1, 0, 0, 0) := by decide +kernel
theorem c_71_19 : pg_cd 71 19 = (43, 5, 40, 9, 0) := by decide +kernel
theorem c_71_22 : pg_cd 71 22 = (3, 1, 0, 3, 0) := by decide +kernel
theorem c_71_23 : pg_cd 71 23 = (5, 1, 0, 0, 0) := by decide +kernel
theorem c_71_24 : pg_cd 71 24 = (45, 5, 25, 4, 0) := by decide +kernel
theorem c_71_27 : pg_cd 71 27 = (3, 1, 0, 2, 0) := by decide +kernel
theorem c_71_28 : pg_cd 71 28 = (50, 1, 0, 0, 0) := by decide +kernel
theorem c_71_29 : pg_cd 71 29 = (10, 1, 0, 0, 0) := by decide +kernel
theorem c_71_30 : pg_cd 71 30 = (74, 0, 133, 0, 0) := by decide +kernel
theorem c_71_33 : pg_cd 71 33 = (6, 2, 0, 5, 0) := by decide +kernel
theorem c_71_35 : pg_cd 71 35 = (3, 2, 0, 4, 0) := by decide +kernel
theorem c_71_37 : pg_cd 71 37 = (5, 1, 0, 0, 0) := by decide +kernel
theorem c_71_38 : pg_cd 71 38 = (43, 5, 44, 10, 0) := by decide +kernel
theorem c_71_41 : pg_cd 71 41 = (37, 3, 0, 4, 21) := by decide +kernel
theorem c_71_44 : pg_cd 71 44 = (3, 2, 0, 4, 0) := by decide +kernel
theorem c_71_46 : pg_cd 71 46 = (5, 1, 0, 0, 0) := by decide +kernel
theorem c_71_47 : pg_cd 71 47 = (43, 5, 44, 10, 0) := by decide +kernel
theorem c_71_50 : pg_cd 71 50 = (37, 3, 0, 1, 13) := by decide +kernel
theorem c_71_53 : pg_cd 71 53 = (3, 2, 0, 5, 0) := by decide +kernel
theorem c_71_55 : pg_cd 71 55 = (5, 1, 0, 0, 0) := by decide +kernel
theorem c_71_56 : pg_cd 71 56 = (43, 5, 47, 11, 0) := by decide +kernel
theorem c_71_59 : pg_cd 71 59 = (37, 3, 0, 4, 4) := by decide +kernel
theorem c_71_62 : pg_cd 71 62 = (94, 0, 0, 0, 0) := by decide +kernel
theorem c_71_63 : pg_cd 71 63 = (3, 1, 0, 2, 0) := by decide +kernel
theorem c_71_64 : pg_cd 71 64 = (5, 1, 0, 1, 0) := by decide +kernel
theorem c_71_65 : pg_cd 71 65 = (43, 4, 73, 2, 0) := by decide +kernel
theorem c_71_68 : pg_cd 71 68 = (37, 3, 0, 3, 9) := by decide +kernel
theorem c_71_71 : pg_cd 71 71 = (3, 1, 0, 2, 0) := by decide +kernel
theorem c_71_72 : pg_cd 71 72 = (1, 2, 0, 0, 8) := by decide +kernel
theorem c_71_74 : pg_cd 71 74 = (37, 3, 0, 2, 30) := by decide +kernel
theorem c_71_77 : pg_cd 71 77 = (5, 1, 0, 0, 0) := by decide +kernel
theorem c_71_78 : pg_cd 71 78 = (3, 2, 0, 4, 0) := by decide +kernel
theorem c_71_80 : pg_cd 71 80 = (46, 5, 44, 10, 0) := by decide +kernel
theorem c_71_83 : pg_cd 71 83 = (5, 1, 0, 0, 0) := by decide +kernel
theorem c_71_84 : pg_cd 71 84 = (3, 1, 0, 3, 0) := by decide +kernel
theorem c_71_85 : pg_cd 71 85 = (46, 5, 47, 11, 0) := by decide +kernel
theorem c_71_88 : pg_cd 71 88 = (5, 1, 0, 0, 0) := by decide +kernel
theorem c_71_89 : pg_cd 71 89 = (45, 5, 31, 6, 0) := by decide +kernel
theorem c_71_92 : pg_cd 71 92 = (1, 1, 0, 0, 0) := by decide +kernel
theorem c_71_93 : pg_cd 71 93 = (5, 1, 0, 0, 0) := by decide +kernel
theorem c_71_94 : pg_cd 71 94 = (45, 5, 34, 7, 0) := by decide +kernel
theorem c_71_97 : pg_cd 71 97 = (1, 1, 0, 0, 0) := by decide +kernel
theorem c_71_98 : pg_cd 71 98 = (1, 2, 0, 0, 8) := by decide +kernel
theorem c_71_100 : pg_cd 71 100 = (62, 0, 142, 0, 0) := by decide +kernel
theorem c_71_103 : pg_cd 71 103 = (94, 0, 0, 0, 0) := by decide +kernel
theorem c_71_104 : pg_cd 71 104 = (5, 1, 0, 1, 0) := by decide +kernel
theorem c_71_105 : pg_cd 71 105 = (3, 1, 0, 2, 0) := by decide +kernel
theorem c_71_106 : pg_cd 71 106 = (1, 1, 0, 0, 4) := by decide +kernel
theorem c_71_107 : pg_cd 71 107 = (80, 55, 78, 0, 0) := by decide +kernel
theorem c_71_110 : pg_cd 71 110 = (36, 3, 0, 1, 7) := by decide +kernel
theorem c_71_113 : pg_cd 71 113 = (1, 1, 0, 0, 2) := by decide +kernel
theorem c_71_114 : pg_cd 71 114 = (38, 3, 0, 0, 4) := by decide +kernel
theorem c_71_117 : pg_cd 71 117 = (1, 1, 0, 0, 0) := by decide +kernel
theorem c_71_118 : pg_cd 71 118 = (6, 2, 0, 6, 0) := by decide +kernel
theorem c_71_120 : pg_cd 71 120 = (3, 2, 0, 6, 0) := by decide +kernel
theorem c_71_122 : pg_cd 71 122 = (6, 2, 0, 7, 0) := by decide +kernel
theorem c_71_124 : pg_cd 71 124 = (3, 2, 0, 7, 0) := by decide +kernel
theorem c_71_126 : pg_cd 71 126 = (36, 3, 0, 2, 58) := by decide +kernel
theorem c_71_129 : pg_cd 71 129 = (3, 1, 0, 3, 0) := by decide +kernel
theorem c_71_130 : pg_cd 71 130 = (5, 1, 0, 0, 0) := by decide +kernel
theorem c_71_131 : pg_cd 71 131 = (45, 5, 15, 1, 0) := by decide +kernel
theorem c_71_134 : pg_cd 71 134 = (3, 1, 0, 2, 0) := by decide +kernel
theorem c_71_135 : pg_cd 71 135 = (1, 1, 0, 0, 3) := by decide +kernel
theorem c_71_136 : pg_cd 71 136 = (12, 1, 0, 0, 0) := by decide +kernel
theorem c_71_137 : pg_cd 71 137 = (3, 2, 0, 7, 0) := by decide +kernel
theorem c_71_139 : pg_cd 71 139 = (10, 1, 0, 0, 0) := by decide +kernel
theorem c_71_140 : pg_cd 71 140 = (50, 1, 0, 0, 0) := by decide +kernel
theorem c_71_141 : pg_cd 71 141 = (10, 1, 0, 0, 0) := by decide +kernel
theorem c_71_142 : pg_cd 71 142 = (6, 2, 0, 8, 0) := by decide +kernel
theorem c_71_144 : pg_cd 71 144 = (3, 2, 0, 8, 0) := by decide +kernel
theorem c_71_146 : pg_cd 71 146 = (5, 1, 0, 0, 0) := by decide +kernel
theorem c_71_147 : pg_cd 71 147 = (43, 5, 40, 9, 0) := by decide +kernel
theorem c_71_150 : pg_cd 71 150 = (37, 3, 0, 4, 28) := by decide +kernel
theorem c_71_153 : pg_cd 71 153 = (5, 1, 0, 0, 0) := by decide +kernel
theorem c_71_154 : pg_cd 71 154 = (45, 5, 31, 6, 0) := by decide +kernel
theorem c_71_157 : pg_cd 71 157 = (3, 1, 0, 2, 0) := by decide +kernel
theorem c_71_158 : pg_cd 71 158 = (3, 2, 0, 7, 0) := by decide +kernel
theorem c_71_160 : pg_cd 71 160 = (54, 1, 0, 0, 0) := by decide +kernel
theorem c_71_161 : pg_cd 71 161 = (5, 1, 0, 0, 0) := by decide +kernel
theorem c_71_162 : pg_cd 71 162 = (3, 1, 0, 2, 0) := by decide +kernel
theorem c_71_163 : pg_cd 71 163 = (3, 2, 0, 7, 0) := by decide +kernel
theorem c_71_165 : pg_cd 71 165 = (80, 72, 148, 0, 0) := by decide +kernel
theorem c_71_168 : pg_cd 71 168 = (5, 1, 0, 0, 0) := by decide +kernel
theorem c_71_169 : pg_cd 71 169 = (5, 1, 0, 1, 0) := by decide +kernel
theorem c_71_170 : pg_cd 71 170 = (3, 1, 0, 2, 0) := by decide +kernel
theorem c_71_171 : pg_cd 71 171 = (1, 1, 0, 0, 1) := by decide +kernel
theorem c_71_172 : pg_cd 71 172 = (10, 1, 0, 0, 0) := by decide +kernel
theorem c_71_173 : pg_cd 71 173 = (3, 2, 0, 8, 0) := by decide +kernel
theorem c_71_175 : pg_cd 71 175 = (80, 71, 93, 0, 0) := by decide +kernel
theorem c_71_178 : pg_cd 71 178 = (9, 3, 0, 7, (-1)) := by decide +kernel
theorem c_71_181 : pg_cd 71 181 = (38, 3, 0, 0, (-57)) := by decide +kernel
theorem c_71_184 : pg_cd 71 184 = (94, 0, 0, 0, 0) := by decide +kernel
theorem mi_71 : pg_mc 71 = 5 ∧ pg_na 71 = 3 ∧ pg_mx 71 = 9 := by decide +kernel
set_option maxRecDepth 20000 in
theorem u_71_0 {d : Nat} {S : zS} {σ τ : zI} {Q : zQ} {x1 : Nat} {x2 : Int} {x3 : Int} (hx1 : tw x1) (t : (rg x2) ∧ if x2 < 0 then (Q none S σ τ) else (if x2 ≤ 8 then ((0 ≤ x2 ∧ x2 ≤ (8 : Int)) ∧ (∀ h, 0 ≤ h → h < 24 → (0 ≤ τ 70 (x2 * 24 + h) ∧ τ 70 (x2 * 24 + h) ≤ 1000000000000) ∧ (0 ≤ τ 71 (x2 * 24 + h) ∧ τ 71 (x2 * 24 + h) ≤ 1000000000000)) ∧ ∀ (v6 : Int), v6 = sI (fun h => if τ 70 (x2 * 24 + h) + τ 71 (x2 * 24 + h) < τ 76 h then 1 else 0) 24 → 0 ≤ v6 ∧ v6 ≤ 24 → (0 ≤ x2 ∧ x2 < 9) ∧ (rg (x3 + (σ 72 x2))) ∧ (rg v6) ∧ if (σ 67 10) < v6 then (Q none S σ τ) else (if v6 = (σ 67 10) then (if (σ 67 11) < (min (σ 67 9) (x3 + (σ 72 x2))) then (if (σ (x1 + 5) 2) ≤ x2 then (∃ w26 : Int, wI w26 = wI x3 ∧ rg w26 ∧ Q none S (uc (uc σ 67 (u1 (u1 (σ 67) 10 v6) 11 w26)) 75 (fun k => if 0 ≤ k ∧ k < 0 + 8 then (uc σ 67 (u1 (u1 (σ 67) 10 v6) 11 w26)) 74 (0 + (k - 0)) else (uc σ 67 (u1 (u1 (σ 67) 10 v6) 11 w26)) 75 k)) τ) else (if x2 < 8 then (if (rt_ (σ (x1 + 5) 2) (σ (x1 + 6)) 13 4 x2) = 0 then (wi (d + 9) 71 124 [.ref 67, .ref (x1 + 5), .int (wI x2), .int (wI x3), .int (wI v6), .int (wI (min (σ 67 9) (x3 + (σ 72 x2)))), .int (wI 2), .int (wI 2), .retAddr 0] [] S σ τ Q) else (wi (d + 9) 71 124 [.ref 67, .ref (x1 + 5), .int (wI x2), .int (wI x3), .int (wI v6), .int (wI (min (σ 67 9) (x3 + (σ 72 x2)))), .int (wI 0), .int (wI 0), .retAddr 0] [] S σ τ Q)) else (∃ w31 : Int, wI w31 = wI x3 ∧ rg w31 ∧ Q none S (uc (uc σ 67 (u1 (u1 (σ 67) 10 v6) 11 w31)) 75 (fun k => if 0 ≤ k ∧ k < 0 + 8 then (uc σ 67 (u1 (u1 (σ 67) 10 v6) 11 w31)) 74 (0 + (k - 0)) else (uc σ 67 (u1 (u1 (σ 67) 10 v6) 11 w31)) 75 k)) τ))) else (Q none S σ τ)) else (if (σ (x1 + 5) 2) ≤ x2 then (∃ w16 : Int, wI w16 = wI x3 ∧ rg w16 ∧ Q none S (uc (uc σ 67 (u1 (u1 (σ 67) 10 v6) 11 w16)) 75 (fun k => if 0 ≤ k ∧ k < 0 + 8 then (uc σ 67 (u1 (u1 (σ 67) 10 v6) 11 w16)) 74 (0 + (k - 0)) else (uc σ 67 (u1 (u1 (σ 67) 10 v6) 11 w16)) 75 k)) τ) else (if x2 < 8 then (if (rt_ (σ (x1 + 5) 2) (σ (x1 + 6)) 13 4 x2) = 0 then (wi (d + 9) 71 124 [.ref 67, .ref (x1 + 5), .int (wI x2), .int (wI x3), .int (wI v6), .int (wI (min (σ 67 9) (x3 + (σ 72 x2)))), .int (wI 2), .int (wI 2), .retAddr 0] [] S σ τ Q) else (wi (d + 9) 71 124 [.ref 67, .ref (x1 + 5), .int (wI x2), .int (wI x3), .int (wI v6), .int (wI (min (σ 67 9) (x3 + (σ 72 x2)))), .int (wI 0), .int (wI 0), .retAddr 0] [] S σ τ Q)) else (∃ w21 : Int, wI w21 = wI x3 ∧ rg w21 ∧ Q none S (uc (uc σ 67 (u1 (u1 (σ 67) 10 v6) 11 w21)) 75 (fun k => if 0 ≤ k ∧ k < 0 + 8 then (uc σ 67 (u1 (u1 (σ 67) 10 v6) 11 w21)) 74 (0 + (k - 0)) else (uc σ 67 (u1 (u1 (σ 67) 10 v6) 11 w21)) 75 k)) τ))))) else (Q none S σ τ))) : wi (d + 9) 71 0 [.ref 67, .ref (x1 + 5), .int (wI x2), .int (wI x3), .retAddr 0, .retAddr 0, .retAddr 0, .retAddr 0, .retAddr 0] [] S σ τ Q := by
  obtain ⟨r1, t⟩ := t
  refine i3 c_71_0 rfl ?_
  refine i36 c_71_1 r1 rfl (fun hc => ?_) (fun hc => ?_)
  · have t := iT t hc
    have ha2 : x2 < 0 := hc
    exact i94 c_71_10 t
  · have t := iF t hc
    have ha2 : ¬ (x2 < 0) := hc
    refine i3 c_71_4 rfl (i1 c_71_5 ?_)
    refine i37 c_71_7 r1 (by decide) rfl (fun hc => ?_) (fun hc => ?_)
    · have t := iT t hc
      have ha3 : x2 ≤ 8 := hc
      obtain ⟨p4, t⟩ := t
      obtain ⟨p5, t⟩ := t
      refine i5 c_71_11 rfl (i3 c_71_12 rfl ?_)
      refine i80 (As := [.int (wI x2)]) (rest := []) c_71_13 mi_70 rfl rfl (Nat.le_of_ble_eq_true rfl) (Nat.le_of_ble_eq_true rfl) (lo (c := 67) (kd := 105) (n := 0) rfl (by decide)) (q_70 p4 p5 (fun v6 q7 q8 => ?_))
      have t := t v6 q7 q8
      show wi (d + 9) 71 16 [.ref 67, .ref (x1 + 5), .int (wI x2), .int (wI x3), .retAddr 0, .retAddr 0, .retAddr 0, .retAddr 0, .retAddr 0] [.int (wI v6)] S σ τ Q
      refine i6 (L' := [.ref 67, .ref (x1 + 5), .int (wI x2), .int (wI x3), .int (wI v6), .retAddr 0, .retAddr 0, .retAddr 0, .retAddr 0]) c_71_16 rfl (i5 c_71_18 rfl (wi_ok (fun K9 => ?_)))
      obtain ⟨r10, t⟩ := t
      obtain ⟨r11, t⟩ := t
      obtain ⟨r12, t⟩ := t
      refine i43 (v := σ 67 9) c_71_19 (lo (c := 67) (kd := 105) (n := 0) rfl (by decide)) rfl (i3 c_71_22 rfl (i5 c_71_23 rfl (i45 c_71_24 (lo (c := 67) (kd := 105) (n := 0) rfl (by decide)) (lro (c := 67) (k := 4) (j := 72) (by decide)) (i3 c_71_27 rfl (i50 (v := σ 72 x2) c_71_28 (lo (c := 72) (kd := 0) (n := 9) rfl (by decide)) (by decide) r10 rfl (i10 c_71_29 (i74 c_71_30 (Nat.le_of_ble_eq_true rfl) (by omega) (rge_ K9 rfl) r11 (i6 (L' := [.ref 67, .ref (x1 + 5), .int (wI x2), .int (wI x3), .int (wI v6), .int (wI (min (σ 67 9) (x3 + (σ 72 x2)))), .retAddr 0, .retAddr 0, .retAddr 0]) c_71_33 rfl (i3 c_71_35 rfl (i5 c_71_37 rfl (i43 (v := σ 67 10) c_71_38 (lo (c := 67) (kd := 105) (n := 0) rfl (by decide)) rfl ?_)))))))))))
      refine i37 c_71_41 r12 (rge_ K9 rfl) rfl (fun hc => ?_) (fun hc => ?_)
      · have t := iT t hc
        have ha13 : (σ 67 10) < v6 := hc
        exact i94 c_71_62 t
      · have t := iF t hc
        have ha13 : ¬ ((σ 67 10) < v6) := hc
        refine i3 c_71_44 rfl (i5 c_71_46 rfl (i43 (v := σ 67 10) c_71_47 (lo (c := 67) (kd := 105) (n := 0) rfl (by decide)) rfl ?_))
        refine i37 c_71_50 r12 (rge_ K9 rfl) rfl (fun hc => ?_) (fun hc => ?_)
        · have t := iF t hc
          have ha14 : ¬ (v6 = (σ 67 10)) := hc
          refine i3 c_71_63 rfl (i5 c_71_64 rfl (i43 (v := σ (x1 + 5) 2) c_71_65 (lo (lyt_5 hx1) (by have := tw_b hx1; omega)) rfl ?_))
          refine i37 c_71_68 r1 (rge_ K9 rfl) rfl (fun hc => ?_) (fun hc => ?_)
          · have t := iT t hc
            have ha15 : (σ (x1 + 5) 2) ≤ x2 := hc
            obtain ⟨w16, e17, r18, t⟩ := t
            refine i5 c_71_77 rfl (i3 c_71_78 rfl (i46 (σ1 := uc σ 67 (u1 (σ 67) 10 v6)) c_71_80 (lo (c := 67) (kd := 105) (n := 0) rfl (by decide)) (by decide) rfl r12 (wr_ rfl rfl) (i5 c_71_83 rfl (i3 c_71_84 rfl (i46 (σ1 := uc σ 67 (u1 (u1 (σ 67) 10 v6) 11 w16)) c_71_85 (lo (c := 67) (kd := 105) (n := 0) rfl (by decide)) (by decide) e17 r18 (wr_ (uc_s _ _ _) (uc_uc _ _ _ _)) (i5 c_71_88 rfl (i45 c_71_89 (lo (c := 67) (kd := 105) (n := 0) rfl (by decide)) (lro (c := 67) (k := 6) (j := 74) (by decide)) (i1 c_71_92 (i5 c_71_93 rfl (i45 c_71_94 (lo (c := 67) (kd := 105) (n := 0) rfl (by decide)) (lro (c := 67) (k := 7) (j := 75) (by decide)) (i1 c_71_97 (i1 c_71_98 (i62 (σ1 := (uc (uc σ 67 (u1 (u1 (σ 67) 10 v6) 11 w16)) 75 (fun k => if 0 ≤ k ∧ k < 0 + 8 then (uc σ 67 (u1 (u1 (σ 67) 10 v6) 11 w16)) 74 (0 + (k - 0)) else (uc σ 67 (u1 (u1 (σ 67) 10 v6) 11 w16)) 75 k))) c_71_100 (Nat.le_of_ble_eq_true rfl) (lo (c := 74) (kd := 0) (n := 8) rfl (by decide)) (lo (c := 75) (kd := 0) (n := 8) rfl (by decide)) (by decide) (by decide) (by decide) (by decide) rfl ?_)))))))))))))
            exact i94 c_71_103 t
          · have t := iF t hc
            have ha15 : ¬ ((σ (x1 + 5) 2) ≤ x2) := hc
            refine i3 c_71_71 rfl (i1 c_71_72 ?_)
            refine i37 c_71_74 r1 (by decide) rfl (fun hc => ?_) (fun hc => ?_)
            · have t := iT t hc
              have ha19 : x2 < 8 := hc
              refine i5 c_71_104 rfl (i3 c_71_105 rfl (i1 c_71_106 ?_))
              refine i80 (As := [.int (wI x2), .int (wI 4)]) (rest := []) c_71_107 mi_55 rfl rfl (Nat.le_of_ble_eq_true rfl) (Nat.le_of_ble_eq_true rfl) (lo (lyt_5 hx1) (by have := tw_b hx1; omega)) (q_at (ow_mills hx1) r1 (by decide) ?_)
              show wi (d + 9) 71 110 [.ref 67, .ref (x1 + 5), .int (wI x2), .int (wI x3), .int (wI v6), .int (wI (min (σ 67 9) (x3 + (σ 72 x2)))), .retAddr 0, .retAddr 0, .retAddr 0] [.int (wI (rt_ (σ (x1 + 5) 2) (σ (x1 + 6)) 13 4 x2))] S σ τ Q
              refine i36 c_71_110 (rg_rt_ (fun k => kO_r K9 _ k) _ _ _ _) rfl (fun hc => ?_) (fun hc => ?_)
              · have t := iF t hc
                have ha20 : ¬ ((rt_ (σ (x1 + 5) 2) (σ (x1 + 6)) 13 4 x2) = 0) := hc
                refine i1 c_71_117 (i6 (L' := [.ref 67, .ref (x1 + 5), .int (wI x2), .int (wI x3), .int (wI v6), .int (wI (min (σ 67 9) (x3 + (σ 72 x2)))), .int (wI 0), .retAddr 0, .retAddr 0]) c_71_118 rfl (i3 c_71_120 rfl (i6 (L' := [.ref 67, .ref (x1 + 5), .int (wI x2), .int (wI x3), .int (wI v6), .int (wI (min (σ 67 9) (x3 + (σ 72 x2)))), .int (wI 0), .int (wI 0), .retAddr 0]) c_71_122 rfl t)))
              · have t := iT t (Decidable.not_not.mp hc)
                have ha20 : (rt_ (σ (x1 + 5) 2) (σ (x1 + 6)) 13 4 x2) = 0 := Decidable.not_not.mp hc
                refine i1 c_71_113 (i38 c_71_114 rfl (i6 (L' := [.ref 67, .ref (x1 + 5), .int (wI x2), .int (wI x3), .int (wI v6), .int (wI (min (σ 67 9) (x3 + (σ 72 x2)))), .int (wI 2), .retAddr 0, .retAddr 0]) c_71_118 rfl (i3 c_71_120 rfl (i6 (L' := [.ref 67, .ref (x1 + 5), .int (wI x2), .int (wI x3), .int (wI v6), .int (wI (min (σ 67 9) (x3 + (σ 72 x2)))), .int (wI 2), .int (wI 2), .retAddr 0]) c_71_122 rfl t))))
            · have t := iF t hc
              have ha19 : ¬ (x2 < 8) := hc
              obtain ⟨w21, e22, r23, t⟩ := t
              refine i5 c_71_77 rfl (i3 c_71_78 rfl (i46 (σ1 := uc σ 67 (u1 (σ 67) 10 v6)) c_71_80 (lo (c := 67) (kd := 105) (n := 0) rfl (by decide)) (by decide) rfl r12 (wr_ rfl rfl) (i5 c_71_83 rfl (i3 c_71_84 rfl (i46 (σ1 := uc σ 67 (u1 (u1 (σ 67) 10 v6) 11 w21)) c_71_85 (lo (c := 67) (kd := 105) (n := 0) rfl (by decide)) (by decide) e22 r23 (wr_ (uc_s _ _ _) (uc_uc _ _ _ _)) (i5 c_71_88 rfl (i45 c_71_89 (lo (c := 67) (kd := 105) (n := 0) rfl (by decide)) (lro (c := 67) (k := 6) (j := 74) (by decide)) (i1 c_71_92 (i5 c_71_93 rfl (i45 c_71_94 (lo (c := 67) (kd := 105) (n := 0) rfl (by decide)) (lro (c := 67) (k := 7) (j := 75) (by decide)) (i1 c_71_97 (i1 c_71_98 (i62 (σ1 := (uc (uc σ 67 (u1 (u1 (σ 67) 10 v6) 11 w21)) 75 (fun k => if 0 ≤ k ∧ k < 0 + 8 then (uc σ 67 (u1 (u1 (σ 67) 10 v6) 11 w21)) 74 (0 + (k - 0)) else (uc σ 67 (u1 (u1 (σ 67) 10 v6) 11 w21)) 75 k))) c_71_100 (Nat.le_of_ble_eq_true rfl) (lo (c := 74) (kd := 0) (n := 8) rfl (by decide)) (lo (c := 75) (kd := 0) (n := 8) rfl (by decide)) (by decide) (by decide) (by decide) (by decide) rfl ?_)))))))))))))
              exact i94 c_71_103 t
        · have t := iT t (Decidable.not_not.mp hc)
          have ha14 : v6 = (σ 67 10) := Decidable.not_not.mp hc
          refine i3 c_71_53 rfl (i5 c_71_55 rfl (i43 (v := σ 67 11) c_71_56 (lo (c := 67) (kd := 105) (n := 0) rfl (by decide)) rfl ?_))
          refine i37 c_71_59 (min_i (rge_ K9 rfl) r11) (rge_ K9 rfl) rfl (fun hc => ?_) (fun hc => ?_)
          · have t := iT t hc
            have ha24 : (σ 67 11) < (min (σ 67 9) (x3 + (σ 72 x2))) := hc
            refine i3 c_71_63 rfl (i5 c_71_64 rfl (i43 (v := σ (x1 + 5) 2) c_71_65 (lo (lyt_5 hx1) (by have := tw_b hx1; omega)) rfl ?_))
            refine i37 c_71_68 r1 (rge_ K9 rfl) rfl (fun hc => ?_) (fun hc => ?_)
            · have t := iT t hc
              have ha25 : (σ (x1 + 5) 2) ≤ x2 := hc
              obtain ⟨w26, e27, r28, t⟩ := t
              refine i5 c_71_77 rfl (i3 c_71_78 rfl (i46 (σ1 := uc σ 67 (u1 (σ 67) 10 v6)) c_71_80 (lo (c := 67) (kd := 105) (n := 0) rfl (by decide)) (by decide) rfl r12 (wr_ rfl rfl) (i5 c_71_83 rfl (i3 c_71_84 rfl (i46 (σ1 := uc σ 67 (u1 (u1 (σ 67) 10 v6) 11 w26)) c_71_85 (lo (c := 67) (kd := 105) (n := 0) rfl (by decide)) (by decide) e27 r28 (wr_ (uc_s _ _ _) (uc_uc _ _ _ _)) (i5 c_71_88 rfl (i45 c_71_89 (lo (c := 67) (kd := 105) (n := 0) rfl (by decide)) (lro (c := 67) (k := 6) (j := 74) (by decide)) (i1 c_71_92 (i5 c_71_93 rfl (i45 c_71_94 (lo (c := 67) (kd := 105) (n := 0) rfl (by decide)) (lro (c := 67) (k := 7) (j := 75) (by decide)) (i1 c_71_97 (i1 c_71_98 (i62 (σ1 := (uc (uc σ 67 (u1 (u1 (σ 67) 10 v6) 11 w26)) 75 (fun k => if 0 ≤ k ∧ k < 0 + 8 then (uc σ 67 (u1 (u1 (σ 67) 10 v6) 11 w26)) 74 (0 + (k - 0)) else (uc σ 67 (u1 (u1 (σ 67) 10 v6) 11 w26)) 75 k))) c_71_100 (Nat.le_of_ble_eq_true rfl) (lo (c := 74) (kd := 0) (n := 8) rfl (by decide)) (lo (c := 75) (kd := 0) (n := 8) rfl (by decide)) (by decide) (by decide) (by decide) (by decide) rfl ?_)))))))))))))
              exact i94 c_71_103 t
            · have t := iF t hc
              have ha25 : ¬ ((σ (x1 + 5) 2) ≤ x2) := hc
              refine i3 c_71_71 rfl (i1 c_71_72 ?_)
              refine i37 c_71_74 r1 (by decide) rfl (fun hc => ?_) (fun hc => ?_)
              · have t := iT t hc
                have ha29 : x2 < 8 := hc
                refine i5 c_71_104 rfl (i3 c_71_105 rfl (i1 c_71_106 ?_))
                refine i80 (As := [.int (wI x2), .int (wI 4)]) (rest := []) c_71_107 mi_55 rfl rfl (Nat.le_of_ble_eq_true rfl) (Nat.le_of_ble_eq_true rfl) (lo (lyt_5 hx1) (by have := tw_b hx1; omega)) (q_at (ow_mills hx1) r1 (by decide) ?_)
                show wi (d + 9) 71 110 [.ref 67, .ref (x1 + 5), .int (wI x2), .int (wI x3), .int (wI v6), .int (wI (min (σ 67 9) (x3 + (σ 72 x2)))), .retAddr 0, .retAddr 0, .retAddr 0] [.int (wI (rt_ (σ (x1 + 5) 2) (σ (x1 + 6)) 13 4 x2))] S σ τ Q
                refine i36 c_71_110 (rg_rt_ (fun k => kO_r K9 _ k) _ _ _ _) rfl (fun hc => ?_) (fun hc => ?_)
                · have t := iF t hc
                  have ha30 : ¬ ((rt_ (σ (x1 + 5) 2) (σ (x1 + 6)) 13 4 x2) = 0) := hc
                  refine i1 c_71_117 (i6 (L' := [.ref 67, .ref (x1 + 5), .int (wI x2), .int (wI x3), .int (wI v6), .int (wI (min (σ 67 9) (x3 + (σ 72 x2)))), .int (wI 0), .retAddr 0, .retAddr 0]) c_71_118 rfl (i3 c_71_120 rfl (i6 (L' := [.ref 67, .ref (x1 + 5), .int (wI x2), .int (wI x3), .int (wI v6), .int (wI (min (σ 67 9) (x3 + (σ 72 x2)))), .int (wI 0), .int (wI 0), .retAddr 0]) c_71_122 rfl t)))
                · have t := iT t (Decidable.not_not.mp hc)
                  have ha30 : (rt_ (σ (x1 + 5) 2) (σ (x1 + 6)) 13 4 x2) = 0 := Decidable.not_not.mp hc
                  refine i1 c_71_113 (i38 c_71_114 rfl (i6 (L' := [.ref 67, .ref (x1 + 5), .int (wI x2), .int (wI x3), .int (wI v6), .int (wI (min (σ 67 9) (x3 + (σ 72 x2)))), .int (wI 2), .retAddr 0, .retAddr 0]) c_71_118 rfl (i3 c_71_120 rfl (i6 (L' := [.ref 67, .ref (x1 + 5), .int (wI x2), .int (wI x3), .int (wI v6), .int (wI (min (σ 67 9) (x3 + (σ 72 x2)))), .int (wI 2), .int (wI 2), .retAddr 0]) c_71_122 rfl t))))
              · have t := iF t hc
                have ha29 : ¬ (x2 < 8) := hc
                obtain ⟨w31, e32, r33, t⟩ := t
                refine i5 c_71_77 rfl (i3 c_71_78 rfl (i46 (σ1 := uc σ 67 (u1 (σ 67) 10 v6)) c_71_80 (lo (c := 67) (kd := 105) (n := 0) rfl (by decide)) (by decide) rfl r12 (wr_ rfl rfl) (i5 c_71_83 rfl (i3 c_71_84 rfl (i46 (σ1 := uc σ 67 (u1 (u1 (σ 67) 10 v6) 11 w31)) c_71_85 (lo (c := 67) (kd := 105) (n := 0) rfl (by decide)) (by decide) e32 r33 (wr_ (uc_s _ _ _) (uc_uc _ _ _ _)) (i5 c_71_88 rfl (i45 c_71_89 (lo (c := 67) (kd := 105) (n := 0) rfl (by decide)) (lro (c := 67) (k := 6) (j := 74) (by decide)) (i1 c_71_92 (i5 c_71_93 rfl (i45 c_71_94 (lo (c := 67) (kd := 105) (n := 0) rfl (by decide)) (lro (c := 67) (k := 7) (j := 75) (by decide)) (i1 c_71_97 (i1 c_71_98 (i62 (σ1 := (uc (uc σ 67 (u1 (u1 (σ 67) 10 v6) 11 w31)) 75 (fun k => if 0 ≤ k ∧ k < 0 + 8 then (uc σ 67 (u1 (u1 (σ 67) 10 v6) 11 w31)) 74 (0 + (k - 0)) else (uc σ 67 (u1 (u1 (σ 67) 10 v6) 11 w31)) 75 k))) c_71_100 (Nat.le_of_ble_eq_true rfl) (lo (c := 74) (kd := 0) (n := 8) rfl (by decide)) (lo (c := 75) (kd := 0) (n := 8) rfl (by decide)) (by decide) (by decide) (by decide) (by decide) rfl ?_)))))))))))))
                exact i94 c_71_103 t
          · have t := iF t hc
            have ha24 : ¬ ((σ 67 11) < (min (σ 67 9) (x3 + (σ 72 x2)))) := hc
            exact i94 c_71_62 t
    · have t := iF t hc
      have ha3 : ¬ (x2 ≤ 8) := hc
      exact i94 c_71_10 t
set_option maxRecDepth 20000 in
theorem u_71_124 {d : Nat} {S : zS} {σ τ : zI} {Q : zQ} {x1 : Nat} {x2 : Int} {x3 : Int} {x4 : Int} {x5 : Int} {x6 : Int} {x7 : Int} {y8 : Value} (hx1 : tw x1) (t : (rg x7) ∧ if x7 < 0 then (Q none S σ τ) else ((0 ≤ (x2 * 3) + x7 ∧ (x2 * 3) + x7 < 24) ∧ (rg (x3 + (σ 69 ((x2 * 3) + x7)))) ∧ if (σ 67 9) < (x3 + (σ 69 ((x2 * 3) + x7))) then (wi (d + 9) 71 178 [.ref 67, .ref (x1 + 5), .int (wI x2), .int (wI x3), .int (wI x4), .int (wI x5), .int (wI x6), .int (wI x7), .int (wI (x3 + (σ 69 ((x2 * 3) + x7))))] [] S σ τ Q) else ((0 ≤ x2 ∧ x2 < 8) ∧ (0 ≤ x2 ∧ x2 ≤ (7 : Int)) ∧ (0 ≤ x7 ∧ x7 ≤ (2 : Int)) ∧ (∀ h, 0 ≤ h → h < 24 → (0 ≤ τ 70 (x2 * 24 + h) ∧ τ 70 (x2 * 24 + h) ≤ 1000000000000) ∧ (0 ≤ τ 68 ((x2 * 3 + x7) * 24 + h) ∧ τ 68 ((x2 * 3 + x7) * 24 + h) ≤ 1000000000000)) ∧ ∀ (τ111 : zI), AR τ τ111 x2 x7 → wc (d + 8) 71 [.ref 67, .ref (x1 + 5), .int (wI (x2 + 1)), .int (wI (x3 + (σ 69 ((x2 * 3) + x7))))] S (uc σ 74 (u1 (σ 74) x2 x7)) τ111 (fun r S1 σ1 τ1 => wi (d + 9) 71 178 [.ref 67, .ref (x1 + 5), .int (wI x2), .int (wI x3), .int (wI x4), .int (wI x5), .int (wI x6), .int (wI x7), .int (wI (x3 + (σ 69 ((x2 * 3) + x7))))] (r.toList ++ []) S1 σ1 τ1 Q)))) : wi (d + 9) 71 124 [.ref 67, .ref (x1 + 5), .int (wI x2), .int (wI x3), .int (wI x4), .int (wI x5), .int (wI x6), .int (wI x7), y8] [] S σ τ Q := by
  obtain ⟨r1, t⟩ := t
  refine i3 c_71_124 rfl ?_
  refine i36 c_71_126 r1 rfl (fun hc => ?_) (fun hc => ?_)
  · have t := iT t hc
    have ha2 : x7 < 0 := hc
    exact i94 c_71_184 t
  · have t := iF t hc
    have ha2 : ¬ (x7 < 0) := hc
    obtain ⟨r3, t⟩ := t
    refine i3 c_71_129 rfl (i5 c_71_130 rfl (i45 c_71_131 (lo (c := 67) (kd := 105) (n := 0) rfl (by decide)) (lro (c := 67) (k := 1) (j := 69) (by decide)) (i3 c_71_134 rfl (i1 c_71_135 (i12 c_71_136 (i3 c_71_137 rfl (i10 c_71_139 (wi_ok (fun K4 => ?_)))))))))
    obtain ⟨r5, t⟩ := t
    refine i50 (v := σ 69 ((x2 * 3) + x7)) c_71_140 (lo (c := 69) (kd := 0) (n := 24) rfl (by decide)) (by decide) r3 rfl (i10 c_71_141 (i6 (L' := [.ref 67, .ref (x1 + 5), .int (wI x2), .int (wI x3), .int (wI x4), .int (wI x5), .int (wI x6), .int (wI x7), .int (wI (x3 + (σ 69 ((x2 * 3) + x7))))]) c_71_142 rfl (i3 c_71_144 rfl (i5 c_71_146 rfl (i43 (v := σ 67 9) c_71_147 (lo (c := 67) (kd := 105) (n := 0) rfl (by decide)) rfl ?_)))))
    refine i37 c_71_150 r5 (rge_ K4 rfl) rfl (fun hc => ?_) (fun hc => ?_)
    · have t := iT t hc
      have ha6 : (σ 67 9) < (x3 + (σ 69 ((x2 * 3) + x7))) := hc
      exact t
    · have t := iF t hc
      have ha6 : ¬ ((σ 67 9) < (x3 + (σ 69 ((x2 * 3) + x7)))) := hc
      obtain ⟨r7, t⟩ := t
      obtain ⟨p8, t⟩ := t
      obtain ⟨p9, t⟩ := t
      obtain ⟨p10, t⟩ := t
      refine i5 c_71_153 rfl (i45 c_71_154 (lo (c := 67) (kd := 105) (n := 0) rfl (by decide)) (lro (c := 67) (k := 6) (j := 74) (by decide)) (i3 c_71_157 rfl (i3 c_71_158 rfl (i54 (σ1 := uc σ 74 (u1 (σ 74) x2 x7)) c_71_160 (lo (c := 74) (kd := 0) (n := 8) rfl (by decide)) (by decide) r7 (by decide) rfl r1 (wr_ rfl rfl) (i5 c_71_161 rfl (i3 c_71_162 rfl (i3 c_71_163 rfl ?_)))))))
      refine i80 (As := [.int (wI x2), .int (wI x7)]) (rest := []) c_71_165 mi_72 rfl rfl (Nat.le_of_ble_eq_true rfl) (Nat.le_of_ble_eq_true rfl) (lo (c := 67) (kd := 105) (n := 0) rfl (by decide)) (q_72 p8 p9 p10 (fun τ111 q12 => ?_))
      have t := t τ111 q12
      show wi (d + 9) 71 168 [.ref 67, .ref (x1 + 5), .int (wI x2), .int (wI x3), .int (wI x4), .int (wI x5), .int (wI x6), .int (wI x7), .int (wI (x3 + (σ 69 ((x2 * 3) + x7))))] [] S (uc σ 74 (u1 (σ 74) x2 x7)) τ111 Q
      refine i5 c_71_168 rfl (i5 c_71_169 rfl (i3 c_71_170 rfl (i1 c_71_171 (i10 c_71_172 (i3 c_71_173 rfl ?_)))))
      exact i80 (As := [.ref (x1 + 5), .int (wI (x2 + 1)), .int (wI (x3 + (σ 69 ((x2 * 3) + x7))))]) (rest := []) c_71_175 mi_71 rfl rfl (Nat.le_of_ble_eq_true rfl) (Nat.le_of_ble_eq_true rfl) (lo (c := 67) (kd := 105) (n := 0) rfl (by decide)) t
set_option maxRecDepth 20000 in
theorem u_71_178 {d : Nat} {S : zS} {σ τ : zI} {Q : zQ} {x1 : Nat} {x2 : Int} {x3 : Int} {x4 : Int} {x5 : Int} {x6 : Int} {x7 : Int} {x8 : Int} (hx1 : tw x1) (t : wi (d + 9) 71 124 [.ref 67, .ref (x1 + 5), .int (wI x2), .int (wI x3), .int (wI x4), .int (wI x5), .int (wI x6), .int (wI (x7 + (-1))), .int (wI x8)] [] S σ τ Q) : wi (d + 9) 71 178 [.ref 67, .ref (x1 + 5), .int (wI x2), .int (wI x3), .int (wI x4), .int (wI x5), .int (wI x6), .int (wI x7), .int (wI x8)] [] S σ τ Q := by
  refine i9 (L' := [.ref 67, .ref (x1 + 5), .int (wI x2), .int (wI x3), .int (wI x4), .int (wI x5), .int (wI x6), .int (wI (x7 + (-1))), .int (wI x8)]) c_71_178 rfl rfl (i38 c_71_181 rfl t)
theorem BZ_ext {σ : zI} {a : Int → Int} {most q q2 : Int} (h : BZ σ a most q) (l : q ≤ q2) (c : ∀ q', q ≤ q' → q' < q2 → ¬ q_G a most q') : BZ σ a most q2 := by
  obtain ⟨b, h1, h2, h3⟩ := h
  exact ⟨b, BQ_ext h1 l (fun q' a0 a1 g => absurd g (c q' a0 a1)), h2, h3⟩
set_option maxHeartbeats 4000000 in
theorem q_srch {S : zS} {a : Int → Int} {most : Int} {tn : Nat} (htn : tw tn) (hJ : Jv a) (hT : jv_T a) (hm : 0 ≤ most ∧ most ≤ 100000) : ∀ (j : Nat) (d : Nat) (k c before : Int) (σ τ : zI) (Q : zQ), k + j = a 1 → 0 ≤ k → 0 ≤ c → before = sI (fun m => c_pc a m (dg k c m)) k → before ≤ most → RT σ tn a → SC σ τ a most → PX σ τ a k c → BZ σ a most (c * pw3 j) → (∀ σ2 τ2, FZ σ σ2 τ τ2 k → BZ σ2 a most ((c + 1) * pw3 j) → Q none S σ2 τ2) → wc (d + 9 + j) 71 [.ref 67, .ref (tn + 5), .int (wI k), .int (wI before)] S σ τ Q := by
  have hC := jC hJ
  unfold jv_C at hC
  have tb := tw_b htn
  intro j
  induction j with
  | zero =>
    intro d k c before σ τ Q hk k0 c0 hb hbm rt sc px bz t
    have hk : k = a 1 := by omega
    subst hk
    have e1 : pw3 ((0 : Nat) : Int) = 1 := rfl
    rw [e1, Int.mul_one] at bz
    rw [e1, Int.mul_one] at t
    have cn := cM rt
    have bb := sI_b (f := fun m => c_pc a m (dg (a 1) c m)) (n := a 1) (lo := 0) (hi := 35640) (by omega) (fun p p0 p1 => c_pc_b hJ hT ⟨p0, p1⟩)
    rw [← hb] at bb
    have r72 := (sc.2.1 (a 1) (by omega) (by omega)).1
    have z72 : r_pF a (a 1) = 0 := by unfold r_pF; rw [Int.sub_self]; rfl
    have hh : ∀ h, 0 ≤ h → h < 24 → τ 70 (a 1 * 24 + h) = sI (fun m => c_e a m (dg (a 1) c m) h) (a 1) ∧ τ 71 (a 1 * 24 + h) = r_eF a (a 1) h ∧ τ 76 h = c_nd a h := fun h h0 h1 => ⟨px.2.1 h h0 h1, (sc.2.1 (a 1) (by omega) (by omega)).2 h h0 h1, sc.2.2.1 h h0 h1⟩
    have gq : q_G a most c := ⟨px.2.2, by
      have : q_N a c = before := by
        rw [hb]
        refine sI_c (fun m m0 m1 => ?_)
        unfold c_pc
        rcases px.2.2 m m0 m1 with e | e
        · rw [e]
          have : s_pc a m 0 = 0 := rfl
          rw [this]
          split <;> rfl
        · rw [if_pos e]
      omega⟩
    have hN : q_N a c = before := by rw [q_N_c gq, hb]
    have lh := leaf_H hJ hT gq
    obtain ⟨b, bq, bn, bd⟩ := bz
    have pruned : (0 ≤ b → σ 67 10 < q_H a c ∨ σ 67 10 = q_H a c ∧ q_N a c ≤ σ 67 11) → 0 ≤ b → Q none S σ τ := fun h b0 => t σ τ ⟨fun _ _ _ _ => rfl, fun _ _ _ => rfl, fun _ _ => rfl, fun _ _ => rfl, fun _ _ => rfl⟩ ⟨b, BQ_keep bq b0 (by have := BQ_v bq b0; have := h b0; omega), bn, bd⟩
    have found : (b < 0 ∨ q_H a c < σ 67 10 ∨ q_H a c = σ 67 10 ∧ σ 67 11 < q_N a c) → Q none S (uc (uc σ 67 (u1 (u1 (σ 67) 10 (q_H a c)) 11 before)) 75 (fun k => if 0 ≤ k ∧ k < 0 + 8 then (uc σ 67 (u1 (u1 (σ 67) 10 (q_H a c)) 11 before)) 74 (0 + (k - 0)) else (uc σ 67 (u1 (u1 (σ 67) 10 (q_H a c)) 11 before)) 75 k)) τ := fun h => by
      refine t _ τ ⟨fun c c1 c2 c3 => by rw [uc_n c3, uc_n c1], fun i i1 i2 => by rw [uc_n (by decide), uc_s, u1_n i2, u1_n i1], fun _ _ => rfl, fun _ _ => rfl, fun m _ => by rw [uc_n (by decide), uc_n (by decide)]⟩ ⟨c, ?_, fun h => by omega, fun _ m m0 m1 => ?_⟩
      · rw [uc_n (by decide), uc_s, u1_n (by decide), u1_s, u1_s, ← hN]
        refine BQ_new c0 bq gq ?_
        by_cases b0 : b < 0
        · exact Or.inl b0
        · have := BQ_v bq (by omega)
          omega
      · rw [uc_s, if_pos (by omega), uc_n (by decide), show 0 + (m - 0) = m by omega]
        exact px.1 m m0 m1
    clear t
    have hHb := q_H_b a c (by omega)
    refine wc_of mi_71 rfl (u_71_0 htn ⟨by omega, ?_⟩)
    rw [cn, r72, z72, Int.add_zero, sc.2.2.2]
    rw [if_neg (by omega), if_pos (by omega)]
    refine ⟨by omega, fun h h0 h1 => ?_, fun v hv bv => ?_⟩
    · obtain ⟨g1, g2, g3⟩ := hh h h0 h1
      have b1 := sI_b (f := fun m => c_e a m (dg (a 1) c m) h) (n := a 1) (lo := 0) (hi := 7200000000) (by omega) (fun p p0 p1 => c_e_b hJ hT ⟨p0, p1⟩)
      have b2 := r_eF_b (m := a 1) (h := h) hJ hT (by omega)
      rw [g1, g2]
      omega
    · have hv : v = q_H a c := by
        rw [hv, ← lh]
        refine sI_c (fun h h0 h1 => ?_)
        obtain ⟨g1, g2, g3⟩ := hh h h0 h1
        rw [g1, g2, g3]
        rfl
      subst hv
      refine ⟨by omega, by omega, by omega, ifI (fun e => pruned (fun _ => Or.inl e) (by have := bn; omega)) (fun e => ifI (fun e2 => ifI (fun e3 => ?_) (fun e3 => pruned (fun _ => Or.inr ⟨by omega, by omega⟩) (by have := bn; omega))) (fun e2 => ?_))⟩
      · rw [if_pos (by omega)]
        exact ⟨before, rfl, by omega, found (by omega)⟩
      · rw [if_pos (by omega)]
        exact ⟨before, rfl, by omega, found (by omega)⟩
  | succ j ihj =>
    intro d k c before σ τ Q hk k0 c0 hb hbm rt sc px bz t
    have hk1 : k < a 1 := by omega
    have cn := cM rt
    have ps : pw3 ((j + 1 : Nat) : Int) = 3 * pw3 (j : Int) := by
      rw [show ((j + 1 : Nat) : Int) = (j : Int) + 1 from rfl]
      exact pw3_s (by omega)
    have pj := pw3_p (j : Int)
    rw [ps] at bz t
    have hkj : a 1 - k = ((j + 1 : Nat) : Int) := by omega
    have bb := sI_b (f := fun m => c_pc a m (dg k c m)) (n := k) (lo := 0) (hi := 35640) (by omega) (fun p p0 p1 => c_pc_b hJ hT ⟨p0, by omega⟩)
    rw [← hb] at bb
    have r72 := (sc.2.1 k (by omega) (by omega)).1
    have pb := r_pF_b (m := k) hJ hT (by omega)
    have hh : ∀ h, 0 ≤ h → h < 24 → τ 70 (k * 24 + h) = sI (fun m => c_e a m (dg k c m) h) k ∧ τ 71 (k * 24 + h) = r_eF a k h ∧ τ 76 h = c_nd a h := fun h h0 h1 => ⟨px.2.1 h h0 h1, (sc.2.1 k (by omega) (by omega)).2 h h0 h1, sc.2.2.1 h h0 h1⟩
    have sb := fun h => sI_b (f := fun m => c_e a m (dg k c m) h) (n := k) (lo := 0) (hi := 7200000000) (by omega) (fun p p0 p1 => c_e_b hJ hT ⟨p0, by omega⟩)
    have eb := fun h => r_eF_b (m := k) (h := h) hJ hT (by omega)
    have ml := Int.mul_le_mul_of_nonneg_right (show c ≤ c + 1 by omega) (show 0 ≤ 3 * pw3 (j : Int) by omega)
    -- plans that begin so
    have inb : ∀ q', c * (3 * pw3 (j : Int)) ≤ q' → q' < (c + 1) * (3 * pw3 (j : Int)) → q' / pw3 (a 1 - k) = c := fun q' h0 h1 => by
      rw [hkj, ps]
      exact blk (by omega) h0 h1
    have pruned : (∀ H N, σ 67 10 = H → σ 67 11 = N → H < sI (hgF a k c) 24 ∨ H = sI (hgF a k c) 24 ∧ min most (before + r_pF a k) ≤ N) → Q none S σ τ := fun h => by
      obtain ⟨b, bq, bn, bd⟩ := bz
      refine t σ τ ⟨fun _ _ _ _ => rfl, fun _ _ _ => rfl, fun _ _ => rfl, fun _ _ => rfl, fun _ _ => rfl⟩ ⟨b, BQ_ext bq ml (fun q' a0 a1 g => ?_), bn, bd⟩
      have h1 := pre_H hJ hT g ⟨k0, by omega⟩ (inb q' a0 a1)
      have h2 := pre_N hJ hT g ⟨k0, by omega⟩ (inb q' a0 a1)
      rw [← hb] at h2
      have h3 := g.2
      have h4 := q_H_b a q' (by omega)
      have h5 := h _ _ rfl rfl
      omega
    -- the runs
    have loop : ∀ r, -1 ≤ r → ∀ σ' τ', FZ σ σ' τ τ' k → BZ σ' a most ((3 * c + (2 - r)) * pw3 (j : Int)) → r ≤ 2 → (a (3300 + 16 * k + 5) = 0 ∨ r ≤ 0) → ∀ x4 x5 x6 y8, wi (d + j + 1 + 9) 71 124 [.ref 67, .ref (tn + 5), .int (wI k), .int (wI before), .int (wI x4), .int (wI x5), .int (wI x6), .int (wI r), y8] [] S σ' τ' Q := by
      refine lp_dn (fun r r0 ih => ?_)
      intro σ' τ' fz bz' r1 hcl x4 x5 x6 y8
      have sc' := SC_f sc fz
      have rt' : RT σ' tn a := RT_σ (fun c h1 h2 => fz.1 c (by omega) (by omega) (by omega)) rt
      refine u_71_124 (d := d + j + 1) htn ⟨by omega, ifI (fun e => ?_) (fun e => ?_)⟩
      · refine t σ' τ' fz ?_
        rw [show r = -1 by omega, show (3 * c + (2 - (-1 : Int))) * pw3 (j : Int) = (c + 1) * (3 * pw3 (j : Int)) by grind] at bz'
        exact bz'
      · have hp := (sc'.1 k k0 hk1 r (by omega) r1)
        have cb := c_pc_b (how := r) hJ hT (m := k) ⟨k0, hk1⟩
        have fz1 := fz.2.2.2.1
        have ih := ih (by omega)
        -- behind this run
        have next : ∀ σ2 τ2, FZ σ σ2 τ τ2 k → BZ σ2 a most ((3 * c + (2 - r) + 1) * pw3 (j : Int)) → ∀ x8, wi (d + j + 1 + 9) 71 178 [.ref 67, .ref (tn + 5), .int (wI k), .int (wI before), .int (wI x4), .int (wI x5), .int (wI x6), .int (wI r), .int (wI x8)] [] S σ2 τ2 Q := fun σ2 τ2 f2 b2 x8 => by
          refine u_71_178 (d := d + j + 1) htn ?_
          rw [show 3 * c + (2 - r) + 1 = 3 * c + (2 - (r - 1)) by omega] at b2
          exact ih σ2 τ2 f2 b2 (by omega) (by omega) _ _ _ _
        rw [hp.1, sc'.2.2.2]
        have snoc : sI (fun m => c_pc a m (dg (k + 1) (3 * c + (2 - r)) m)) (k + 1) = before + c_pc a k r := by
          rw [sI_s k0, hb, dg_last k0 ⟨by omega, r1⟩]
          congr 1
          exact sI_c (fun m m0 m1 => by rw [dg_snoc ⟨m0, m1⟩ ⟨by omega, r1⟩])
        have kj : a 1 - (k + 1) = (j : Int) := by omega
        refine ⟨by omega, by omega, ifI (fun e2 => ?_) (fun e2 => ?_)⟩
        · refine next σ' τ' fz (BZ_ext bz' ?_ (fun q' a0 a1 g => ?_)) _
          · exact Int.mul_le_mul_of_nonneg_right (by omega) (by omega)
          · have h2 := pre_N (k := k + 1) (c := 3 * c + (2 - r)) hJ hT g ⟨by omega, by omega⟩ (by rw [kj]; exact blk pj a0 a1)
            have := g.2
            omega
        · have hcl2 : r = 0 ∨ a (3300 + 16 * k + 5) = 0 := by omega
          refine ⟨by omega, by omega, by omega, fun h h0 h1 => ?_, fun τ1 ar => ?_⟩
          · rw [fz1 (k * 24 + h) (by omega), (hh h h0 h1).1, hp.2 h h0 h1]
            have := sb h
            have := c_e_b (how := r) (h := h) hJ hT (m := k) ⟨k0, hk1⟩
            omega
          · rw [show d + j + 1 + 8 = d + 9 + j by omega]
            have fz2 : FZ σ (uc σ' 74 (u1 (σ' 74) k r)) τ τ1 k := ⟨fun c c1 c2 c3 => by rw [uc_n c2]; exact fz.1 c c1 c2 c3, fun i i1 i2 => by rw [uc_n (by decide)]; exact fz.2.1 i i1 i2, fun c c1 => by rw [ar.1 c c1]; exact fz.2.2.1 c c1, fun i hi => by rw [ar.2.2 i (Or.inl hi)]; exact fz1 i hi, fun m hm => by rw [uc_s, u1_n (by omega)]; exact fz.2.2.2.2 m hm⟩
            refine ihj d (k + 1) (3 * c + (2 - r)) (before + c_pc a k r) _ τ1 _ (by omega) (by omega) (by omega) snoc.symm (by omega) (RT_σ (fun c h1 h2 => fz2.1 c (by omega) (by omega) (by omega)) rt) (SC_f sc fz2) ⟨fun m m0 m1 => ?_, fun h h0 h1 => ?_, fun m m0 m1 => ?_⟩ ?_ (fun σ2 τ2 f3 b3 => ?_)
            · rw [uc_s]
              by_cases cm : m = k
              · subst cm; rw [u1_s, dg_last k0 ⟨by omega, r1⟩]
              · rw [u1_n cm, fz.2.2.2.2 m (by omega), px.1 m m0 (by omega), dg_snoc ⟨m0, by omega⟩ ⟨by omega, r1⟩]
            · rw [ar.2.1 h h0 h1, fz1 (k * 24 + h) (by omega), (hh h h0 h1).1, hp.2 h h0 h1, sI_s k0, dg_last k0 ⟨by omega, r1⟩]
              congr 1
              exact sI_c (fun m m0 m1 => by rw [dg_snoc ⟨m0, m1⟩ ⟨by omega, r1⟩])
            · by_cases cm : m = k
              · subst cm; rw [dg_last k0 ⟨by omega, r1⟩]; exact hcl2
              · rw [dg_snoc ⟨m0, by omega⟩ ⟨by omega, r1⟩]; exact px.2.2 m m0 (by omega)
            · obtain ⟨b, q1, q2, q3⟩ := bz'
              exact ⟨b, by rw [uc_n (by decide)]; exact q1, by rw [uc_n (by decide)]; exact q2, by rw [uc_n (by decide)]; exact q3⟩
            · exact next σ2 τ2 ⟨fun c c1 c2 c3 => by rw [f3.1 c c1 c2 c3]; exact fz2.1 c c1 c2 c3, fun i i1 i2 => by rw [f3.2.1 i i1 i2]; exact fz2.2.1 i i1 i2, fun c c1 => by rw [f3.2.2.1 c c1]; exact fz2.2.2.1 c c1, fun i hi => by rw [f3.2.2.2.1 i (by omega)]; exact fz2.2.2.2.1 i hi, fun m hm => by rw [f3.2.2.2.2 m (by omega)]; exact fz2.2.2.2.2 m hm⟩ b3 _
    have start : ∀ x4 x5 y8, if a (3300 + 16 * k + 5) = 0 then wi (d + j + 1 + 9) 71 124 [.ref 67, .ref (tn + 5), .int (wI k), .int (wI before), .int (wI x4), .int (wI x5), .int (wI 2), .int (wI 2), y8] [] S σ τ Q else wi (d + j + 1 + 9) 71 124 [.ref 67, .ref (tn + 5), .int (wI k), .int (wI before), .int (wI x4), .int (wI x5), .int (wI 0), .int (wI 0), y8] [] S σ τ Q := fun x4 x5 y8 => by
      have f0 : FZ σ σ τ τ k := ⟨fun _ _ _ _ => rfl, fun _ _ _ => rfl, fun _ _ => rfl, fun _ _ => rfl, fun _ _ => rfl⟩
      refine ifI (fun e => ?_) (fun e => ?_)
      · refine loop 2 (by omega) σ τ f0 ?_ (by omega) (Or.inl e) _ _ _ _
        rw [show (3 * c + (2 - (2 : Int))) * pw3 (j : Int) = c * (3 * pw3 (j : Int)) by grind]
        exact bz
      · refine loop 0 (by omega) σ τ f0 (BZ_ext bz ?_ (fun q' a0 a1 g => ?_)) (by omega) (Or.inr (by omega)) _ _ _ _
        · have : (3 * c + (2 - (0 : Int))) * pw3 (j : Int) = c * (3 * pw3 (j : Int)) + 2 * pw3 (j : Int) := by grind
          omega
        · have kj : a 1 - (k + 1) = (j : Int) := by omega
          have e1 : (3 * c + (2 - (0 : Int))) * pw3 (j : Int) = (3 * c + 1 + 1) * pw3 (j : Int) := by grind
          have e2 : c * (3 * pw3 (j : Int)) = (3 * c) * pw3 (j : Int) := by grind
          have dv : ∃ r, (r = 1 ∨ r = 2) ∧ q' / pw3 (j : Int) = 3 * c + (2 - r) := by
            by_cases x : q' < (3 * c + 1) * pw3 (j : Int)
            · exact ⟨2, Or.inr rfl, by rw [show 3 * c + (2 - (2 : Int)) = 3 * c by omega]; exact blk pj (by omega) x⟩
            · exact ⟨1, Or.inl rfl, by rw [show 3 * c + (2 - (1 : Int)) = 3 * c + 1 by omega]; exact blk pj (by omega) (by omega)⟩
          obtain ⟨r, hr, hd⟩ := dv
          have := dg_pre (M := a 1) (k := k + 1) (m := k) (q := q') (c := 3 * c + (2 - r)) ⟨k0, by omega⟩ (by omega) (by rw [kj]; exact hd)
          rw [dg_last (r := r) k0 (by omega)] at this
          rcases g.1 k k0 hk1 with g1 | g1
          · omega
          · exact e g1
    clear loop t
    rw [show d + 9 + (j + 1) = d + j + 1 + 9 by omega]
    refine wc_of mi_71 rfl (u_71_0 (d := d + j + 1) htn ⟨by omega, ?_⟩)
    have vm := vM4 rt (r := k) ⟨k0, hk1⟩
    rw [cn] at vm
    rw [cn, r72, sc.2.2.2]
    rw [if_neg (by omega), if_pos (by omega)]
    refine ⟨by omega, fun h h0 h1 => ?_, fun v hv bv => ?_⟩
    · obtain ⟨g1, g2, g3⟩ := hh h h0 h1
      have b1 := sb h
      have b2 := eb h
      rw [g1, g2]
      omega
    · have hv : v = sI (hgF a k c) 24 := by
        rw [hv]
        refine sI_c (fun h h0 h1 => ?_)
        obtain ⟨g1, g2, g3⟩ := hh h h0 h1
        rw [g1, g2, g3]
        rfl
      rw [vm]
      refine ⟨by omega, by omega, by omega, ifI (fun e => pruned (fun H N q1 q2 => by omega)) (fun e => ifI (fun e2 => ifI (fun e3 => ?_) (fun e3 => pruned (fun H N q1 q2 => by omega))) (fun e2 => ?_))⟩
      · rw [if_neg (by omega), if_pos (by omega)]
        exact start _ _ _
      · rw [if_neg (by omega), if_pos (by omega)]
        exact start _ _ _
