/-! ===== a WEEK of the class: the FUND, the book (segments printed by wip/whole, contracts own work) ===== -/
-- method 128: MillTown$Week.levyAndRelieve(LMillTown$Town;)V
theorem c_128_0 : pg_cd 128 0 = (1, 1, 0, 0, 0) := by decide +kernel
theorem c_128_1 : pg_cd 128 1 = (6, 1, 0, 2, 0) := by decide +kernel
theorem c_128_2 : pg_cd 128 2 = (3, 1, 0, 2, 0) := by decide +kernel
theorem c_128_3 : pg_cd 128 3 = (5, 1, 0, 1, 0) := by decide +kernel
theorem c_128_4 : pg_cd 128 4 = (45, 8, 143, 5, 0) := by decide +kernel
theorem c_128_7 : pg_cd 128 7 = (43, 4, 121, 2, 0) := by decide +kernel
theorem c_128_10 : pg_cd 128 10 = (37, 3, 0, 3, 54) := by decide +kernel
theorem c_128_13 : pg_cd 128 13 = (3, 1, 0, 2, 0) := by decide +kernel
theorem c_128_14 : pg_cd 128 14 = (1, 2, 0, 0, 60) := by decide +kernel
theorem c_128_16 : pg_cd 128 16 = (37, 3, 0, 3, 48) := by decide +kernel
theorem c_128_19 : pg_cd 128 19 = (5, 1, 0, 0, 0) := by decide +kernel
theorem c_128_20 : pg_cd 128 20 = (45, 9, 29, 3, 0) := by decide +kernel
theorem c_128_23 : pg_cd 128 23 = (3, 1, 0, 2, 0) := by decide +kernel
theorem c_128_24 : pg_cd 128 24 = (50, 1, 0, 0, 0) := by decide +kernel
theorem c_128_25 : pg_cd 128 25 = (5, 1, 0, 1, 0) := by decide +kernel
theorem c_128_26 : pg_cd 128 26 = (43, 8, 223, 14, 0) := by decide +kernel
theorem c_128_29 : pg_cd 128 29 = (37, 3, 0, 2, 29) := by decide +kernel
theorem c_128_32 : pg_cd 128 32 = (5, 1, 0, 0, 0) := by decide +kernel
theorem c_128_33 : pg_cd 128 33 = (45, 9, 29, 3, 0) := by decide +kernel
theorem c_128_36 : pg_cd 128 36 = (3, 1, 0, 2, 0) := by decide +kernel
theorem c_128_37 : pg_cd 128 37 = (34, 1, 0, 0, 0) := by decide +kernel
theorem c_128_38 : pg_cd 128 38 = (50, 1, 0, 0, 0) := by decide +kernel
theorem c_128_39 : pg_cd 128 39 = (5, 1, 0, 1, 0) := by decide +kernel
theorem c_128_40 : pg_cd 128 40 = (43, 8, 223, 14, 0) := by decide +kernel
theorem c_128_43 : pg_cd 128 43 = (11, 1, 0, 0, 0) := by decide +kernel
theorem c_128_44 : pg_cd 128 44 = (54, 1, 0, 0, 0) := by decide +kernel
theorem c_128_45 : pg_cd 128 45 = (5, 1, 0, 1, 0) := by decide +kernel
theorem c_128_46 : pg_cd 128 46 = (33, 1, 0, 0, 0) := by decide +kernel
theorem c_128_47 : pg_cd 128 47 = (43, 8, 226, 13, 0) := by decide +kernel
theorem c_128_50 : pg_cd 128 50 = (5, 1, 0, 1, 0) := by decide +kernel
theorem c_128_51 : pg_cd 128 51 = (43, 8, 223, 14, 0) := by decide +kernel
theorem c_128_54 : pg_cd 128 54 = (10, 1, 0, 0, 0) := by decide +kernel
theorem c_128_55 : pg_cd 128 55 = (46, 8, 226, 13, 0) := by decide +kernel
theorem c_128_58 : pg_cd 128 58 = (9, 3, 0, 2, 1) := by decide +kernel
theorem c_128_61 : pg_cd 128 61 = (38, 3, 0, 0, (-59)) := by decide +kernel
theorem c_128_64 : pg_cd 128 64 = (1, 1, 0, 0, 0) := by decide +kernel
theorem c_128_65 : pg_cd 128 65 = (6, 1, 0, 2, 0) := by decide +kernel
theorem c_128_66 : pg_cd 128 66 = (3, 1, 0, 2, 0) := by decide +kernel
theorem c_128_67 : pg_cd 128 67 = (5, 1, 0, 1, 0) := by decide +kernel
theorem c_128_68 : pg_cd 128 68 = (45, 8, 143, 5, 0) := by decide +kernel
theorem c_128_71 : pg_cd 128 71 = (43, 4, 121, 2, 0) := by decide +kernel
theorem c_128_74 : pg_cd 128 74 = (37, 3, 0, 3, 83) := by decide +kernel
theorem c_128_77 : pg_cd 128 77 = (3, 1, 0, 2, 0) := by decide +kernel
theorem c_128_78 : pg_cd 128 78 = (1, 2, 0, 0, 60) := by decide +kernel
theorem c_128_80 : pg_cd 128 80 = (37, 3, 0, 3, 77) := by decide +kernel
theorem c_128_83 : pg_cd 128 83 = (5, 1, 0, 1, 0) := by decide +kernel
theorem c_128_84 : pg_cd 128 84 = (45, 8, 115, 2, 0) := by decide +kernel
theorem c_128_87 : pg_cd 128 87 = (5, 1, 0, 1, 0) := by decide +kernel
theorem c_128_88 : pg_cd 128 88 = (45, 8, 143, 5, 0) := by decide +kernel
theorem c_128_91 : pg_cd 128 91 = (3, 1, 0, 2, 0) := by decide +kernel
theorem c_128_92 : pg_cd 128 92 = (1, 1, 0, 0, 4) := by decide +kernel
theorem c_128_93 : pg_cd 128 93 = (80, 55, 118, 0, 0) := by decide +kernel
theorem c_128_96 : pg_cd 128 96 = (1, 1, 0, 0, 5) := by decide +kernel
theorem c_128_97 : pg_cd 128 97 = (80, 55, 118, 0, 0) := by decide +kernel
theorem c_128_100 : pg_cd 128 100 = (1, 1, 0, 0, 1) := by decide +kernel
theorem c_128_101 : pg_cd 128 101 = (37, 3, 0, 1, 7) := by decide +kernel
theorem c_128_104 : pg_cd 128 104 = (1, 1, 0, 0, 1) := by decide +kernel
theorem c_128_105 : pg_cd 128 105 = (38, 3, 0, 0, 4) := by decide +kernel
theorem c_128_108 : pg_cd 128 108 = (1, 1, 0, 0, 0) := by decide +kernel
theorem c_128_109 : pg_cd 128 109 = (6, 1, 0, 3, 0) := by decide +kernel
theorem c_128_110 : pg_cd 128 110 = (3, 1, 0, 3, 0) := by decide +kernel
theorem c_128_111 : pg_cd 128 111 = (36, 3, 0, 0, 40) := by decide +kernel
theorem c_128_114 : pg_cd 128 114 = (5, 1, 0, 1, 0) := by decide +kernel
theorem c_128_115 : pg_cd 128 115 = (43, 8, 226, 13, 0) := by decide +kernel
theorem c_128_118 : pg_cd 128 118 = (5, 1, 0, 1, 0) := by decide +kernel
theorem c_128_119 : pg_cd 128 119 = (43, 8, 229, 15, 0) := by decide +kernel
theorem c_128_122 : pg_cd 128 122 = (37, 3, 0, 2, 29) := by decide +kernel
theorem c_128_125 : pg_cd 128 125 = (5, 1, 0, 0, 0) := by decide +kernel
theorem c_128_126 : pg_cd 128 126 = (45, 9, 29, 3, 0) := by decide +kernel
theorem c_128_129 : pg_cd 128 129 = (3, 1, 0, 2, 0) := by decide +kernel
theorem c_128_130 : pg_cd 128 130 = (34, 1, 0, 0, 0) := by decide +kernel
theorem c_128_131 : pg_cd 128 131 = (50, 1, 0, 0, 0) := by decide +kernel
theorem c_128_132 : pg_cd 128 132 = (5, 1, 0, 1, 0) := by decide +kernel
theorem c_128_133 : pg_cd 128 133 = (43, 8, 229, 15, 0) := by decide +kernel
theorem c_128_136 : pg_cd 128 136 = (10, 1, 0, 0, 0) := by decide +kernel
theorem c_128_137 : pg_cd 128 137 = (54, 1, 0, 0, 0) := by decide +kernel
theorem c_128_138 : pg_cd 128 138 = (5, 1, 0, 1, 0) := by decide +kernel
theorem c_128_139 : pg_cd 128 139 = (33, 1, 0, 0, 0) := by decide +kernel
theorem c_128_140 : pg_cd 128 140 = (43, 8, 226, 13, 0) := by decide +kernel
theorem c_128_143 : pg_cd 128 143 = (5, 1, 0, 1, 0) := by decide +kernel
theorem c_128_144 : pg_cd 128 144 = (43, 8, 229, 15, 0) := by decide +kernel
theorem c_128_147 : pg_cd 128 147 = (11, 1, 0, 0, 0) := by decide +kernel
theorem c_128_148 : pg_cd 128 148 = (46, 8, 226, 13, 0) := by decide +kernel
theorem c_128_151 : pg_cd 128 151 = (9, 3, 0, 2, 1) := by decide +kernel
theorem c_128_154 : pg_cd 128 154 = (38, 3, 0, 0, (-88)) := by decide +kernel
theorem c_128_157 : pg_cd 128 157 = (94, 0, 0, 0, 0) := by decide +kernel
theorem mi_128 : pg_mc 128 = 9 ∧ pg_na 128 = 1 ∧ pg_mx 128 = 4 := by decide +kernel
set_option maxRecDepth 20000 in
theorem u_128_0 {d : Nat} {S : zS} {σ τ : zI} {Q : zQ} {x1 : Nat} (hx1 : tw x1) (t : wi (d + 1) 128 2 [.ref 53, .ref x1, .int (wI 0), .retAddr 0] [] S σ τ Q) : wi (d + 1) 128 0 [.ref 53, .ref x1, .retAddr 0, .retAddr 0] [] S σ τ Q := by
  refine i1 c_128_0 (i6 (L' := [.ref 53, .ref x1, .int (wI 0), .retAddr 0]) c_128_1 rfl t)
set_option maxRecDepth 20000 in
theorem u_128_2 {d : Nat} {S : zS} {σ τ : zI} {Q : zQ} {x1 : Nat} {x2 : Int} {y3 : Value} (hx1 : tw x1) (t : (rg x2) ∧ if (σ (x1 + 11) 2) ≤ x2 then (wi (d + 1) 128 66 [.ref 53, .ref x1, .int (wI 0), y3] [] S σ τ Q) else (if (60 : Int) ≤ x2 then (wi (d + 1) 128 66 [.ref 53, .ref x1, .int (wI 0), y3] [] S σ τ Q) else ((0 ≤ x2 ∧ x2 < 60) ∧ if (σ 61 x2) < (σ x1 14) then (wi (d + 1) 128 2 [.ref 53, .ref x1, .int (wI (x2 + 1)), y3] [] S σ τ Q) else (∃ w7 : Int, wI w7 = wI ((σ 61 x2) - (σ x1 14)) ∧ rg w7 ∧ ∃ w11 : Int, wI w11 = wI ((σ x1 13) + (σ x1 14)) ∧ rg w11 ∧ wi (d + 1) 128 2 [.ref 53, .ref x1, .int (wI (x2 + 1)), y3] [] S (uc (uc σ 61 (u1 (σ 61) x2 w7)) x1 (u1 (σ x1) 13 w11)) τ Q)))) : wi (d + 1) 128 2 [.ref 53, .ref x1, .int (wI x2), y3] [] S σ τ Q := by
  refine i3 c_128_2 rfl (i5 c_128_3 rfl (i45 c_128_4 (lo (lyt_0 hx1) (by have := tw_b hx1; omega)) (lro (lrt_5 hx1)) (wi_ok (fun K1 => ?_))))
  obtain ⟨r2, t⟩ := t
  refine i43 (v := σ (x1 + 11) 2) c_128_7 (lo (lyt_11 hx1) (by have := tw_b hx1; omega)) rfl ?_
  refine i37 c_128_10 r2 (rge_ K1 rfl) rfl (fun hc => ?_) (fun hc => ?_)
  · have t := iT t hc
    have ha3 : (σ (x1 + 11) 2) ≤ x2 := hc
    refine i1 c_128_64 (i6 (L' := [.ref 53, .ref x1, .int (wI 0), y3]) c_128_65 rfl t)
  · have t := iF t hc
    have ha3 : ¬ ((σ (x1 + 11) 2) ≤ x2) := hc
    refine i3 c_128_13 rfl (i1 c_128_14 ?_)
    refine i37 c_128_16 r2 (by decide) rfl (fun hc => ?_) (fun hc => ?_)
    · have t := iT t hc
      have ha4 : (60 : Int) ≤ x2 := hc
      refine i1 c_128_64 (i6 (L' := [.ref 53, .ref x1, .int (wI 0), y3]) c_128_65 rfl t)
    · have t := iF t hc
      have ha4 : ¬ ((60 : Int) ≤ x2) := hc
      obtain ⟨r5, t⟩ := t
      refine i5 c_128_19 rfl (i45 c_128_20 (lo (c := 53) (kd := 109) (n := 0) rfl (by decide)) (lro (c := 53) (k := 3) (j := 61) (by decide)) (i3 c_128_23 rfl (i50 (v := σ 61 x2) c_128_24 (lo (c := 61) (kd := 0) (n := 60) rfl (by decide)) (by decide) r5 rfl (i5 c_128_25 rfl (i43 (v := σ x1 14) c_128_26 (lo (lyt_0 hx1) (by have := tw_b hx1; omega)) rfl ?_)))))
      refine i37 c_128_29 (rge_ K1 rfl) (rge_ K1 rfl) rfl (fun hc => ?_) (fun hc => ?_)
      · have t := iT t hc
        have ha6 : (σ 61 x2) < (σ x1 14) := hc
        refine i9 (L' := [.ref 53, .ref x1, .int (wI (x2 + 1)), y3]) c_128_58 rfl rfl (i38 c_128_61 rfl t)
      · have t := iF t hc
        have ha6 : ¬ ((σ 61 x2) < (σ x1 14)) := hc
        obtain ⟨w7, e8, r9, t⟩ := t
        refine i5 c_128_32 rfl (i45 c_128_33 (lo (c := 53) (kd := 109) (n := 0) rfl (by decide)) (lro (c := 53) (k := 3) (j := 61) (by decide)) (i3 c_128_36 rfl (i34a c_128_37 (i50 (v := σ 61 x2) c_128_38 (lo (c := 61) (kd := 0) (n := 60) rfl (by decide)) (by decide) r5 rfl (i5 c_128_39 rfl (i43 (v := σ x1 14) c_128_40 (lo (lyt_0 hx1) (by have := tw_b hx1; omega)) rfl (i11 c_128_43 (i54 (σ1 := uc σ 61 (u1 (σ 61) x2 w7)) c_128_44 (lo (c := 61) (kd := 0) (n := 60) rfl (by decide)) (by decide) r5 (by decide) e8 r9 (wr_ rfl rfl) (i5 c_128_45 rfl (i33a c_128_46 (wi_ok (fun K10 => ?_))))))))))))
        obtain ⟨w11, e12, r13, t⟩ := t
        refine i43 (v := σ x1 13) c_128_47 (lo (lyt_0 hx1) (by have := tw_b hx1; omega)) (congrFun (uc_ns rfl (by have := tw_b hx1; omega)) _) (i5 c_128_50 rfl (i43 (v := σ x1 14) c_128_51 (lo (lyt_0 hx1) (by have := tw_b hx1; omega)) (congrFun (uc_ns rfl (by have := tw_b hx1; omega)) _) (i10 c_128_54 (i46 (σ1 := uc (uc σ 61 (u1 (σ 61) x2 w7)) x1 (u1 (σ x1) 13 w11)) c_128_55 (lo (lyt_0 hx1) (by have := tw_b hx1; omega)) (ln_0 hx1) e12 r13 (wr_ (uc_ns rfl (by have := tw_b hx1; omega)) rfl) (i9 (L' := [.ref 53, .ref x1, .int (wI (x2 + 1)), y3]) c_128_58 rfl rfl (i38 c_128_61 rfl t))))))
set_option maxRecDepth 20000 in
theorem u_128_66 {d : Nat} {S : zS} {σ τ : zI} {Q : zQ} {x1 : Nat} {x2 : Int} {y3 : Value} (hx1 : tw x1) (t : (rg x2) ∧ if (σ (x1 + 11) 2) ≤ x2 then (Q none S σ τ) else (if (60 : Int) ≤ x2 then (Q none S σ τ) else (if (rt_ (σ (x1 + 5) 2) (σ (x1 + 6)) 13 5 (rt_ (σ (x1 + 11) 2) (σ (x1 + 12)) 9 4 x2)) = 1 then (if (σ x1 13) < (σ x1 15) then (wi (d + 1) 128 66 [.ref 53, .ref x1, .int (wI (x2 + 1)), .int (wI 1)] [] S σ τ Q) else ((0 ≤ x2 ∧ x2 < 60) ∧ ∃ w8 : Int, wI w8 = wI ((σ 61 x2) + (σ x1 15)) ∧ rg w8 ∧ ∃ w12 : Int, wI w12 = wI ((σ x1 13) - (σ x1 15)) ∧ rg w12 ∧ wi (d + 1) 128 66 [.ref 53, .ref x1, .int (wI (x2 + 1)), .int (wI 1)] [] S (uc (uc σ 61 (u1 (σ 61) x2 w8)) x1 (u1 (σ x1) 13 w12)) τ Q)) else (wi (d + 1) 128 66 [.ref 53, .ref x1, .int (wI (x2 + 1)), .int (wI 0)] [] S σ τ Q)))) : wi (d + 1) 128 66 [.ref 53, .ref x1, .int (wI x2), y3] [] S σ τ Q := by
  refine i3 c_128_66 rfl (i5 c_128_67 rfl (i45 c_128_68 (lo (lyt_0 hx1) (by have := tw_b hx1; omega)) (lro (lrt_5 hx1)) (wi_ok (fun K1 => ?_))))
  obtain ⟨r2, t⟩ := t
  refine i43 (v := σ (x1 + 11) 2) c_128_71 (lo (lyt_11 hx1) (by have := tw_b hx1; omega)) rfl ?_
  refine i37 c_128_74 r2 (rge_ K1 rfl) rfl (fun hc => ?_) (fun hc => ?_)
  · have t := iT t hc
    have ha3 : (σ (x1 + 11) 2) ≤ x2 := hc
    exact i94 c_128_157 t
  · have t := iF t hc
    have ha3 : ¬ ((σ (x1 + 11) 2) ≤ x2) := hc
    refine i3 c_128_77 rfl (i1 c_128_78 ?_)
    refine i37 c_128_80 r2 (by decide) rfl (fun hc => ?_) (fun hc => ?_)
    · have t := iT t hc
      have ha4 : (60 : Int) ≤ x2 := hc
      exact i94 c_128_157 t
    · have t := iF t hc
      have ha4 : ¬ ((60 : Int) ≤ x2) := hc
      refine i5 c_128_83 rfl (i45 c_128_84 (lo (lyt_0 hx1) (by have := tw_b hx1; omega)) (lro (lrt_2 hx1)) (i5 c_128_87 rfl (i45 c_128_88 (lo (lyt_0 hx1) (by have := tw_b hx1; omega)) (lro (lrt_5 hx1)) (i3 c_128_91 rfl (i1 c_128_92 ?_)))))
      refine i80 (As := [.int (wI x2), .int (wI 4)]) (rest := [.ref (x1 + 5)]) c_128_93 mi_55 rfl rfl (Nat.le_of_ble_eq_true rfl) (Nat.le_of_ble_eq_true rfl) (lo (lyt_11 hx1) (by have := tw_b hx1; omega)) (q_at (ow_persons hx1) r2 (by decide) ?_)
      show wi (d + 1) 128 96 [.ref 53, .ref x1, .int (wI x2), y3] [.int (wI (rt_ (σ (x1 + 11) 2) (σ (x1 + 12)) 9 4 x2)), .ref (x1 + 5)] S σ τ Q
      refine i1 c_128_96 ?_
      refine i80 (As := [.int (wI (rt_ (σ (x1 + 11) 2) (σ (x1 + 12)) 9 4 x2)), .int (wI 5)]) (rest := []) c_128_97 mi_55 rfl rfl (Nat.le_of_ble_eq_true rfl) (Nat.le_of_ble_eq_true rfl) (lo (lyt_5 hx1) (by have := tw_b hx1; omega)) (q_at (ow_mills hx1) (rg_rt_ (fun k => kO_r K1 _ k) _ _ _ _) (by decide) ?_)
      show wi (d + 1) 128 100 [.ref 53, .ref x1, .int (wI x2), y3] [.int (wI (rt_ (σ (x1 + 5) 2) (σ (x1 + 6)) 13 5 (rt_ (σ (x1 + 11) 2) (σ (x1 + 12)) 9 4 x2)))] S σ τ Q
      refine i1 c_128_100 ?_
      refine i37 c_128_101 (rg_rt_ (fun k => kO_r K1 _ k) _ _ _ _) (by decide) rfl (fun hc => ?_) (fun hc => ?_)
      · have t := iF t hc
        have ha5 : ¬ ((rt_ (σ (x1 + 5) 2) (σ (x1 + 6)) 13 5 (rt_ (σ (x1 + 11) 2) (σ (x1 + 12)) 9 4 x2)) = 1) := hc
        refine i1 c_128_108 (i6 (L' := [.ref 53, .ref x1, .int (wI x2), .int (wI 0)]) c_128_109 rfl (i3 c_128_110 rfl (i36k (pc1 := 151) c_128_111 (by decide) (i9 (L' := [.ref 53, .ref x1, .int (wI (x2 + 1)), .int (wI 0)]) c_128_151 rfl rfl (i38 c_128_154 rfl t)))))
      · have t := iT t (Decidable.not_not.mp hc)
        have ha5 : (rt_ (σ (x1 + 5) 2) (σ (x1 + 6)) 13 5 (rt_ (σ (x1 + 11) 2) (σ (x1 + 12)) 9 4 x2)) = 1 := Decidable.not_not.mp hc
        refine i1 c_128_104 (i38 c_128_105 rfl (i6 (L' := [.ref 53, .ref x1, .int (wI x2), .int (wI 1)]) c_128_109 rfl (i3 c_128_110 rfl (i36k (pc1 := 114) c_128_111 (by decide) (i5 c_128_114 rfl (i43 (v := σ x1 13) c_128_115 (lo (lyt_0 hx1) (by have := tw_b hx1; omega)) rfl (i5 c_128_118 rfl (i43 (v := σ x1 15) c_128_119 (lo (lyt_0 hx1) (by have := tw_b hx1; omega)) rfl ?_))))))))
        refine i37 c_128_122 (rge_ K1 rfl) (rge_ K1 rfl) rfl (fun hc => ?_) (fun hc => ?_)
        · have t := iT t hc
          have ha6 : (σ x1 13) < (σ x1 15) := hc
          refine i9 (L' := [.ref 53, .ref x1, .int (wI (x2 + 1)), .int (wI 1)]) c_128_151 rfl rfl (i38 c_128_154 rfl t)
        · have t := iF t hc
          have ha6 : ¬ ((σ x1 13) < (σ x1 15)) := hc
          obtain ⟨r7, t⟩ := t
          obtain ⟨w8, e9, r10, t⟩ := t
          refine i5 c_128_125 rfl (i45 c_128_126 (lo (c := 53) (kd := 109) (n := 0) rfl (by decide)) (lro (c := 53) (k := 3) (j := 61) (by decide)) (i3 c_128_129 rfl (i34a c_128_130 (i50 (v := σ 61 x2) c_128_131 (lo (c := 61) (kd := 0) (n := 60) rfl (by decide)) (by decide) r7 rfl (i5 c_128_132 rfl (i43 (v := σ x1 15) c_128_133 (lo (lyt_0 hx1) (by have := tw_b hx1; omega)) rfl (i10 c_128_136 (i54 (σ1 := uc σ 61 (u1 (σ 61) x2 w8)) c_128_137 (lo (c := 61) (kd := 0) (n := 60) rfl (by decide)) (by decide) r7 (by decide) e9 r10 (wr_ rfl rfl) (i5 c_128_138 rfl (i33a c_128_139 (wi_ok (fun K11 => ?_))))))))))))
          obtain ⟨w12, e13, r14, t⟩ := t
          refine i43 (v := σ x1 13) c_128_140 (lo (lyt_0 hx1) (by have := tw_b hx1; omega)) (congrFun (uc_ns rfl (by have := tw_b hx1; omega)) _) (i5 c_128_143 rfl (i43 (v := σ x1 15) c_128_144 (lo (lyt_0 hx1) (by have := tw_b hx1; omega)) (congrFun (uc_ns rfl (by have := tw_b hx1; omega)) _) (i11 c_128_147 (i46 (σ1 := uc (uc σ 61 (u1 (σ 61) x2 w8)) x1 (u1 (σ x1) 13 w12)) c_128_148 (lo (lyt_0 hx1) (by have := tw_b hx1; omega)) (ln_0 hx1) e13 r14 (wr_ (uc_ns rfl (by have := tw_b hx1; omega)) rfl) (i9 (L' := [.ref 53, .ref x1, .int (wI (x2 + 1)), .int (wI 1)]) c_128_151 rfl rfl (i38 c_128_154 rfl t))))))
theorem q_128 {d : Nat} {S : zS} {σ τ : zI} {Q : zQ} {tn : Nat} {a : Int → Int} (htn : tw tn) (p0 : CT3 σ tn a) (p1 : Jv a) (p2 : jv_T a) (p3 : a 0 ≤ 399) (p4 : jv_U a) (p5 : (∀ p, 0 ≤ p → p < 60 → σ 61 p = wk_Wf a p)) (t : ∀ (σ1 : zI), (∀ c, c ≠ 61 → c ≠ tn → σ1 c = σ c) → (∀ k, k ≠ 13 → σ1 tn k = σ tn k) → σ1 tn 13 = wk_F2 a (a 4) → (∀ p, 0 ≤ p → p < a 4 → σ1 61 p = wk_W2 a p) → Q none S σ1 τ) : wc (d + 1) 128 [.ref 53, .ref tn] S σ τ Q := by
  have hC := jC p1
  unfold jv_C at hC
  have hS := jS p1
  unfold jv_S at hS
  have tb := tw_b htn
  have cs := p0
  unfold CT3 at cs
  have u8 := p4.1
  have c13 : σ tn 13 = a 8 := (cs_R cs).1.2.2.2.2.2.1
  have c14 : σ tn 14 = a 9 := (cs_R cs).1.2.2.2.2.2.2.1
  have c15 : σ tn 15 = a 10 := (cs_R cs).1.2.2.2.2.2.2.2.1
  refine wc_of mi_128 rfl (u_128_0 htn ?_)
  have rel : ∀ q, 0 ≤ q → q ≤ a 4 → ∀ σ' : zI, (∀ c, c ≠ 61 → c ≠ tn → σ' c = σ c) → (∀ k, k ≠ 13 → σ' tn k = σ tn k) → σ' tn 13 = wk_F2 a q → (∀ p, 0 ≤ p → p < a 4 → σ' 61 p = if p < q then wk_W2 a p else wk_lv a p) → ∀ y3, wi (d + 1) 128 66 [.ref 53, .ref tn, .int (wI q), y3] [] S σ' τ Q := by
    refine lp_up (fun q q0 q1 ih => ?_)
    intro σ' f fk g13 w y3
    have fb := wk_F2_b p1 (by omega) q q0 q1
    have f1b := wk_F1_b p1 (n := a 4) (by omega)
    refine u_128_66 htn ?_
    rw [f (tn + 11) (by omega) (by omega), (cs_P cs).1]
    refine ⟨by omega, ifI (fun e => ?_) (fun e => ifI (fun e2 => by omega) (fun e2 => ?_))⟩
    · have e : q = a 4 := by omega
      subst e
      exact t σ' f fk g13 (fun p r0 r1 => by rw [w p r0 r1, if_pos r1])
    · have ih := ih (by omega)
      have hP := jP p1 q q0 (by omega)
      have lb := wk_lv_b p1 p2 p3 q
      have wb := wk_Wf_b p1 p2 p3 q
      have v4 : rt_ (a 4) (σ' (tn + 12)) 9 4 q = a (3652 + 12 * q + 4) := by
        have := vp cs (p := q) (k := 4) ⟨q0, by omega⟩ (by omega)
        rw [(cs_P cs).1] at this
        rw [f (tn + 12) (by omega) (by omega), this]
        exact sP_2 q 4 (by omega) (by omega) (by omega) (by omega) (by omega) (by omega)
      rw [v4, f (tn + 5) (by omega) (by omega), f (tn + 6) (by omega) (by omega), g13, fk 15 (by omega), c15]
      have Fs := wk_F2_s (a := a) q0
      have st : rt_ (σ (tn + 5) 2) (σ (tn + 6)) 13 5 (a (3652 + 12 * q + 4)) = 1 ↔ wk_sk a q := by
        by_cases m0 : 0 ≤ a (3652 + 12 * q + 4)
        · have hM := jM p1 (a (3652 + 12 * q + 4)) m0 (by omega)
          rw [vm cs ⟨m0, by omega⟩ (show mcR 5 6 by omega), sM_3 _ 6 m0 (by omega) (by omega)]
          unfold wk_sk; omega
        · rw [rt_n (by rw [(cs_M cs).1]; omega)]
          unfold wk_sk; omega
      have no : ¬ (wk_sk a q ∧ a 10 ≤ wk_F2 a q) → ∀ y3, wi (d + 1) 128 66 [.ref 53, .ref tn, .int (wI (q + 1)), y3] [] S σ' τ Q := fun hn y3 => by
        rw [if_neg hn] at Fs
        refine ih σ' f fk (by rw [Fs]; exact g13) (fun p r0 r1 => ?_) _
        rw [w p r0 r1]
        by_cases ex : p = q
        · subst ex; rw [if_neg (by omega), if_pos (by omega)]; unfold wk_W2; rw [if_neg hn]
        · by_cases x : p < q
          · rw [if_pos x, if_pos (by omega)]
          · rw [if_neg x, if_neg (by omega)]
      refine ifI (fun e3 => ifI (fun e4 => no (fun z => by have := z.2; omega) _) (fun e4 => ⟨by omega, ?_⟩)) (fun e3 => no (fun z => e3 (st.mpr z.1)) _)
      have yes : wk_sk a q ∧ a 10 ≤ wk_F2 a q := ⟨st.mp e3, by omega⟩
      rw [if_pos yes] at Fs
      have wq := w q q0 (by omega)
      rw [if_neg (by omega)] at wq
      rw [wq]
      refine ⟨wk_lv a q + a 10, rfl, by omega, wk_F2 a q - a 10, rfl, by omega, ih _ (fun c h1 h2 => by rw [uc_n h2, uc_n h1]; exact f c h1 h2) (fun k hk => by rw [uc_s, u1_n hk]; exact fk k hk) (by rw [uc_s, u1_s, Fs]) (fun p r0 r1 => ?_) _⟩
      rw [uc_n (by omega), uc_s]
      by_cases ex : p = q
      · subst ex; rw [u1_s, if_pos (by omega)]; unfold wk_W2; rw [if_pos yes]
      · rw [u1_n ex, w p r0 r1]
        by_cases x : p < q
        · rw [if_pos x, if_pos (by omega)]
        · rw [if_neg x, if_neg (by omega)]
  have lev : ∀ q, 0 ≤ q → q ≤ a 4 → ∀ σ' : zI, (∀ c, c ≠ 61 → c ≠ tn → σ' c = σ c) → (∀ k, k ≠ 13 → σ' tn k = σ tn k) → σ' tn 13 = wk_F1 a q → (∀ p, 0 ≤ p → p < a 4 → σ' 61 p = if p < q then wk_lv a p else wk_Wf a p) → ∀ y3, wi (d + 1) 128 2 [.ref 53, .ref tn, .int (wI q), y3] [] S σ' τ Q := by
    refine lp_up (fun q q0 q1 ih => ?_)
    intro σ' f fk g13 w y3
    have f1b := wk_F1_b p1 (n := q) ⟨q0, q1⟩
    have fin : q = a 4 → ∀ y3, wi (d + 1) 128 66 [.ref 53, .ref tn, .int (wI 0), y3] [] S σ' τ Q := fun e y3 => by
      subst e
      refine rel 0 (by omega) (by omega) σ' f fk (by rw [wk_F2_0]; exact g13) (fun p r0 r1 => ?_) _
      rw [w p r0 r1, if_pos r1, if_neg (by omega)]
    refine u_128_2 htn ?_
    rw [f (tn + 11) (by omega) (by omega), (cs_P cs).1]
    refine ⟨by omega, ifI (fun e => fin (by omega) _) (fun e => ifI (fun e2 => by omega) (fun e2 => ⟨by omega, ?_⟩))⟩
    have ih := ih (by omega)
    have wb := wk_Wf_b p1 p2 p3 q
    have wq := w q q0 (by omega)
    rw [if_neg (by omega)] at wq
    rw [wq, fk 14 (by omega), c14, g13]
    have Fs : wk_F1 a (q + 1) = wk_F1 a q + (if a 9 ≤ wk_Wf a q then a 9 else 0) := by unfold wk_F1; rw [sI_s q0]; omega
    refine ifI (fun e1 => ?_) (fun e1 => ?_)
    · rw [if_neg (by omega), Int.add_zero] at Fs
      refine ih σ' f fk (by rw [Fs]; exact g13) (fun p r0 r1 => ?_) _
      rw [w p r0 r1]
      by_cases ex : p = q
      · subst ex; rw [if_neg (by omega), if_pos (by omega)]; unfold wk_lv; rw [if_neg (by omega)]
      · by_cases x : p < q
        · rw [if_pos x, if_pos (by omega)]
        · rw [if_neg x, if_neg (by omega)]
    · rw [if_pos (by omega)] at Fs
      refine ⟨wk_Wf a q - a 9, rfl, by omega, wk_F1 a q + a 9, rfl, by omega, ih _ (fun c h1 h2 => by rw [uc_n h2, uc_n h1]; exact f c h1 h2) (fun k hk => by rw [uc_s, u1_n hk]; exact fk k hk) (by rw [uc_s, u1_s, Fs]) (fun p r0 r1 => ?_) _⟩
      rw [uc_n (by omega), uc_s]
      by_cases ex : p = q
      · subst ex; rw [u1_s, if_pos (by omega)]; unfold wk_lv; rw [if_pos (by omega)]
      · rw [u1_n ex, w p r0 r1]
        by_cases x : p < q
        · rw [if_pos x, if_pos (by omega)]
        · rw [if_neg x, if_neg (by omega)]
  refine lev 0 (by omega) (by omega) σ (fun _ _ _ => rfl) (fun _ _ => rfl) ?_ (fun p r0 r1 => by rw [p5 p r0 (by omega), if_neg (by omega)]) _
  rw [c13]
  show a 8 = a 8 + 0
  omega
/-- EARNED by HOME of the first n PERSONS -/
def wk_E (a : Int → Int) (h n : Int) : Int := sI (fun p => if a (3652 + 12 * p + 0) = h then wk_W2 a p else 0) n
theorem wk_E_b {a : Int → Int} (hJ : Jv a) (hT : jv_T a) (h0 : a 0 ≤ 399) {h n : Int} (hn : 0 ≤ n ∧ n ≤ a 4) : 0 ≤ wk_E a h n ∧ wk_E a h n ≤ 330030000 := by
  have w0 : ∀ p, 0 ≤ wk_W2 a p := fun p => (wk_W2_b hJ hT h0 p).1
  have e0 : 0 ≤ wk_E a h n := sI_p0 hn.1 (fun p _ _ => by
    have := w0 p
    try dsimp only
    split <;> omega)
  have e1 : wk_E a h n ≤ sI (wk_W2 a) n := sI_le hn.1 (fun p _ _ => by
    have := w0 p
    try dsimp only
    split <;> omega)
  have e2 : sI (wk_W2 a) n ≤ sI (wk_W2 a) (a 4) := sI_mono hn.1 hn.2 (fun p _ _ => w0 p)
  have := wk_W2_s hJ hT h0
  omega
/-- the book of a WEEK when WAGES are written -/
def BW (σ : zI) (y : Nat) (a : Int → Int) : Prop := (∀ p, 0 ≤ p → p < 60 → σ (y + 1) p = (if p < a 4 then wk_W2 a p else 0) ∧ σ (y + 2) p = (if p < a 4 then a (3652 + 12 * p + 4) else -1)) ∧ (∀ m, 0 ≤ m → m < 8 → σ (y + 3) m = if m < a 1 then wk_by a m else -1) ∧ (∀ h, 0 ≤ h → h < 24 → σ (y + 4) h = wk_E a h (a 4) ∧ σ (y + 5) h = 0 ∧ σ (y + 6) h = 0 ∧ σ (y + 7) h = 0) ∧ σ y 7 = 0
-- method 129: MillTown$Week.writeWages(LMillTown$Town;LMillTown$WeekBook;)V
theorem c_129_0 : pg_cd 129 0 = (1, 1, 0, 0, 0) := by decide +kernel
theorem c_129_1 : pg_cd 129 1 = (6, 1, 0, 3, 0) := by decide +kernel
theorem c_129_2 : pg_cd 129 2 = (3, 1, 0, 3, 0) := by decide +kernel
theorem c_129_3 : pg_cd 129 3 = (5, 1, 0, 1, 0) := by decide +kernel
theorem c_129_4 : pg_cd 129 4 = (45, 8, 115, 2, 0) := by decide +kernel
theorem c_129_7 : pg_cd 129 7 = (43, 4, 121, 2, 0) := by decide +kernel
theorem c_129_10 : pg_cd 129 10 = (37, 3, 0, 3, 31) := by decide +kernel
theorem c_129_13 : pg_cd 129 13 = (3, 1, 0, 3, 0) := by decide +kernel
theorem c_129_14 : pg_cd 129 14 = (1, 2, 0, 0, 8) := by decide +kernel
theorem c_129_16 : pg_cd 129 16 = (37, 3, 0, 3, 25) := by decide +kernel
theorem c_129_19 : pg_cd 129 19 = (5, 1, 0, 2, 0) := by decide +kernel
theorem c_129_20 : pg_cd 129 20 = (45, 10, 232, 2, 0) := by decide +kernel
theorem c_129_23 : pg_cd 129 23 = (3, 1, 0, 3, 0) := by decide +kernel
theorem c_129_24 : pg_cd 129 24 = (5, 1, 0, 1, 0) := by decide +kernel
theorem c_129_25 : pg_cd 129 25 = (45, 8, 115, 2, 0) := by decide +kernel
theorem c_129_28 : pg_cd 129 28 = (3, 1, 0, 3, 0) := by decide +kernel
theorem c_129_29 : pg_cd 129 29 = (1, 2, 0, 0, 8) := by decide +kernel
theorem c_129_31 : pg_cd 129 31 = (80, 55, 118, 0, 0) := by decide +kernel
theorem c_129_34 : pg_cd 129 34 = (54, 1, 0, 0, 0) := by decide +kernel
theorem c_129_35 : pg_cd 129 35 = (9, 3, 0, 3, 1) := by decide +kernel
theorem c_129_38 : pg_cd 129 38 = (38, 3, 0, 0, (-36)) := by decide +kernel
theorem c_129_41 : pg_cd 129 41 = (1, 1, 0, 0, 0) := by decide +kernel
theorem c_129_42 : pg_cd 129 42 = (6, 1, 0, 3, 0) := by decide +kernel
theorem c_129_43 : pg_cd 129 43 = (3, 1, 0, 3, 0) := by decide +kernel
theorem c_129_44 : pg_cd 129 44 = (5, 1, 0, 1, 0) := by decide +kernel
theorem c_129_45 : pg_cd 129 45 = (45, 8, 143, 5, 0) := by decide +kernel
theorem c_129_48 : pg_cd 129 48 = (43, 4, 121, 2, 0) := by decide +kernel
theorem c_129_51 : pg_cd 129 51 = (37, 3, 0, 3, 97) := by decide +kernel
theorem c_129_54 : pg_cd 129 54 = (3, 1, 0, 3, 0) := by decide +kernel
theorem c_129_55 : pg_cd 129 55 = (1, 2, 0, 0, 60) := by decide +kernel
theorem c_129_57 : pg_cd 129 57 = (37, 3, 0, 3, 91) := by decide +kernel
theorem c_129_60 : pg_cd 129 60 = (5, 1, 0, 1, 0) := by decide +kernel
theorem c_129_61 : pg_cd 129 61 = (45, 8, 143, 5, 0) := by decide +kernel
theorem c_129_64 : pg_cd 129 64 = (3, 1, 0, 3, 0) := by decide +kernel
theorem c_129_65 : pg_cd 129 65 = (1, 1, 0, 0, 0) := by decide +kernel
theorem c_129_66 : pg_cd 129 66 = (80, 55, 118, 0, 0) := by decide +kernel
theorem c_129_69 : pg_cd 129 69 = (6, 2, 0, 4, 0) := by decide +kernel
theorem c_129_71 : pg_cd 129 71 = (5, 1, 0, 1, 0) := by decide +kernel
theorem c_129_72 : pg_cd 129 72 = (45, 8, 143, 5, 0) := by decide +kernel
theorem c_129_75 : pg_cd 129 75 = (3, 1, 0, 3, 0) := by decide +kernel
theorem c_129_76 : pg_cd 129 76 = (1, 2, 0, 0, 8) := by decide +kernel
theorem c_129_78 : pg_cd 129 78 = (5, 1, 0, 0, 0) := by decide +kernel
theorem c_129_79 : pg_cd 129 79 = (45, 9, 29, 3, 0) := by decide +kernel
theorem c_129_82 : pg_cd 129 82 = (3, 1, 0, 3, 0) := by decide +kernel
theorem c_129_83 : pg_cd 129 83 = (50, 1, 0, 0, 0) := by decide +kernel
theorem c_129_84 : pg_cd 129 84 = (80, 56, 171, 0, 0) := by decide +kernel
theorem c_129_87 : pg_cd 129 87 = (5, 1, 0, 2, 0) := by decide +kernel
theorem c_129_88 : pg_cd 129 88 = (45, 10, 236, 0, 0) := by decide +kernel
theorem c_129_91 : pg_cd 129 91 = (3, 1, 0, 3, 0) := by decide +kernel
theorem c_129_92 : pg_cd 129 92 = (5, 1, 0, 0, 0) := by decide +kernel
theorem c_129_93 : pg_cd 129 93 = (45, 9, 29, 3, 0) := by decide +kernel
theorem c_129_96 : pg_cd 129 96 = (3, 1, 0, 3, 0) := by decide +kernel
theorem c_129_97 : pg_cd 129 97 = (50, 1, 0, 0, 0) := by decide +kernel
theorem c_129_98 : pg_cd 129 98 = (54, 1, 0, 0, 0) := by decide +kernel
theorem c_129_99 : pg_cd 129 99 = (5, 1, 0, 2, 0) := by decide +kernel
theorem c_129_100 : pg_cd 129 100 = (45, 10, 237, 1, 0) := by decide +kernel
theorem c_129_103 : pg_cd 129 103 = (3, 1, 0, 3, 0) := by decide +kernel
theorem c_129_104 : pg_cd 129 104 = (5, 1, 0, 1, 0) := by decide +kernel
theorem c_129_105 : pg_cd 129 105 = (45, 8, 143, 5, 0) := by decide +kernel
theorem c_129_108 : pg_cd 129 108 = (3, 1, 0, 3, 0) := by decide +kernel
theorem c_129_109 : pg_cd 129 109 = (1, 1, 0, 0, 4) := by decide +kernel
theorem c_129_110 : pg_cd 129 110 = (80, 55, 118, 0, 0) := by decide +kernel
theorem c_129_113 : pg_cd 129 113 = (54, 1, 0, 0, 0) := by decide +kernel
theorem c_129_114 : pg_cd 129 114 = (3, 2, 0, 4, 0) := by decide +kernel
theorem c_129_116 : pg_cd 129 116 = (36, 3, 0, 2, 26) := by decide +kernel
theorem c_129_119 : pg_cd 129 119 = (3, 2, 0, 4, 0) := by decide +kernel
theorem c_129_121 : pg_cd 129 121 = (1, 2, 0, 0, 24) := by decide +kernel
theorem c_129_123 : pg_cd 129 123 = (37, 3, 0, 3, 19) := by decide +kernel
theorem c_129_126 : pg_cd 129 126 = (5, 1, 0, 2, 0) := by decide +kernel
theorem c_129_127 : pg_cd 129 127 = (45, 10, 239, 3, 0) := by decide +kernel
theorem c_129_130 : pg_cd 129 130 = (3, 2, 0, 4, 0) := by decide +kernel
theorem c_129_132 : pg_cd 129 132 = (34, 1, 0, 0, 0) := by decide +kernel
theorem c_129_133 : pg_cd 129 133 = (50, 1, 0, 0, 0) := by decide +kernel
theorem c_129_134 : pg_cd 129 134 = (5, 1, 0, 0, 0) := by decide +kernel
theorem c_129_135 : pg_cd 129 135 = (45, 9, 29, 3, 0) := by decide +kernel
theorem c_129_138 : pg_cd 129 138 = (3, 1, 0, 3, 0) := by decide +kernel
theorem c_129_139 : pg_cd 129 139 = (50, 1, 0, 0, 0) := by decide +kernel
theorem c_129_140 : pg_cd 129 140 = (10, 1, 0, 0, 0) := by decide +kernel
theorem c_129_141 : pg_cd 129 141 = (54, 1, 0, 0, 0) := by decide +kernel
theorem c_129_142 : pg_cd 129 142 = (9, 3, 0, 3, 1) := by decide +kernel
theorem c_129_145 : pg_cd 129 145 = (38, 3, 0, 0, (-102)) := by decide +kernel
theorem c_129_148 : pg_cd 129 148 = (94, 0, 0, 0, 0) := by decide +kernel
theorem mi_129 : pg_mc 129 = 9 ∧ pg_na 129 = 2 ∧ pg_mx 129 = 5 := by decide +kernel
set_option maxRecDepth 20000 in
theorem u_129_0 {d : Nat} {S : zS} {σ τ : zI} {Q : zQ} {x1 : Nat} {x2 : Nat} (hx1 : tw x1) (hx2 : oB S x2) (t : wi (d + 1) 129 2 [.ref 53, .ref x1, .ref x2, .int (wI 0), .retAddr 0] [] S σ τ Q) : wi (d + 1) 129 0 [.ref 53, .ref x1, .ref x2, .retAddr 0, .retAddr 0] [] S σ τ Q := by
  refine i1 c_129_0 (i6 (L' := [.ref 53, .ref x1, .ref x2, .int (wI 0), .retAddr 0]) c_129_1 rfl t)
set_option maxRecDepth 20000 in
theorem u_129_2 {d : Nat} {S : zS} {σ τ : zI} {Q : zQ} {x1 : Nat} {x2 : Nat} {x3 : Int} {y4 : Value} (hx1 : tw x1) (hx2 : oB S x2) (t : (rg x3) ∧ if (σ (x1 + 5) 2) ≤ x3 then (wi (d + 1) 129 43 [.ref 53, .ref x1, .ref x2, .int (wI 0), y4] [] S σ τ Q) else (if (8 : Int) ≤ x3 then (wi (d + 1) 129 43 [.ref 53, .ref x1, .ref x2, .int (wI 0), y4] [] S σ τ Q) else ((0 ≤ x3 ∧ x3 < 8) ∧ wi (d + 1) 129 2 [.ref 53, .ref x1, .ref x2, .int (wI (x3 + 1)), y4] [] S (uc σ (x2 + 3) (u1 (σ (x2 + 3)) x3 (rt_ (σ (x1 + 5) 2) (σ (x1 + 6)) 13 8 x3))) τ Q))) : wi (d + 1) 129 2 [.ref 53, .ref x1, .ref x2, .int (wI x3), y4] [] S σ τ Q := by
  refine i3 c_129_2 rfl (i5 c_129_3 rfl (i45 c_129_4 (lo (lyt_0 hx1) (by have := tw_b hx1; omega)) (lro (lrt_2 hx1)) (wi_ok (fun K1 => ?_))))
  obtain ⟨r2, t⟩ := t
  refine i43 (v := σ (x1 + 5) 2) c_129_7 (lo (lyt_5 hx1) (by have := tw_b hx1; omega)) rfl ?_
  refine i37 c_129_10 r2 (rge_ K1 rfl) rfl (fun hc => ?_) (fun hc => ?_)
  · have t := iT t hc
    have ha3 : (σ (x1 + 5) 2) ≤ x3 := hc
    refine i1 c_129_41 (i6 (L' := [.ref 53, .ref x1, .ref x2, .int (wI 0), y4]) c_129_42 rfl t)
  · have t := iF t hc
    have ha3 : ¬ ((σ (x1 + 5) 2) ≤ x3) := hc
    refine i3 c_129_13 rfl (i1 c_129_14 ?_)
    refine i37 c_129_16 r2 (by decide) rfl (fun hc => ?_) (fun hc => ?_)
    · have t := iT t hc
      have ha4 : (8 : Int) ≤ x3 := hc
      refine i1 c_129_41 (i6 (L' := [.ref 53, .ref x1, .ref x2, .int (wI 0), y4]) c_129_42 rfl t)
    · have t := iF t hc
      have ha4 : ¬ ((8 : Int) ≤ x3) := hc
      refine i5 c_129_19 rfl (i45 c_129_20 (fun _ => oB_0 hx2) (fun _ => oB_r2 hx2) (i3 c_129_23 rfl (i5 c_129_24 rfl (i45 c_129_25 (lo (lyt_0 hx1) (by have := tw_b hx1; omega)) (lro (lrt_2 hx1)) (i3 c_129_28 rfl (i1 c_129_29 ?_))))))
      refine i80 (As := [.int (wI x3), .int (wI 8)]) (rest := [.int (wI x3), .ref (x2 + 3)]) c_129_31 mi_55 rfl rfl (Nat.le_of_ble_eq_true rfl) (Nat.le_of_ble_eq_true rfl) (lo (lyt_5 hx1) (by have := tw_b hx1; omega)) (q_at (ow_mills hx1) r2 (by decide) ?_)
      show wi (d + 1) 129 34 [.ref 53, .ref x1, .ref x2, .int (wI x3), y4] [.int (wI (rt_ (σ (x1 + 5) 2) (σ (x1 + 6)) 13 8 x3)), .int (wI x3), .ref (x2 + 3)] S σ τ Q
      obtain ⟨r5, t⟩ := t
      refine i54 (σ1 := uc σ (x2 + 3) (u1 (σ (x2 + 3)) x3 (rt_ (σ (x1 + 5) 2) (σ (x1 + 6)) 13 8 x3))) c_129_34 (fun _ => oB_3 hx2) (by decide) r5 (isR_b (by have := oB_b hx2; omega)) rfl (rg_rt_ (fun k => kO_r K1 _ k) _ _ _ _) (wr_ rfl rfl) (i9 (L' := [.ref 53, .ref x1, .ref x2, .int (wI (x3 + 1)), y4]) c_129_35 rfl rfl (i38 c_129_38 rfl t))
set_option maxRecDepth 20000 in
theorem u_129_43 {d : Nat} {S : zS} {σ τ : zI} {Q : zQ} {x1 : Nat} {x2 : Nat} {x3 : Int} {y4 : Value} (hx1 : tw x1) (hx2 : oB S x2) (t : (rg x3) ∧ if (σ (x1 + 11) 2) ≤ x3 then (Q none S σ τ) else (if (60 : Int) ≤ x3 then (Q none S σ τ) else ((0 ≤ x3 ∧ x3 < 60) ∧ (0 ≤ x3 ∧ x3 < (σ (x1 + 11) 2)) ∧ if (rt_ (σ (x1 + 11) 2) (σ (x1 + 12)) 9 0 x3) < 0 then (wi (d + 1) 129 43 [.ref 53, .ref x1, .ref x2, .int (wI (x3 + 1)), .int (wI (rt_ (σ (x1 + 11) 2) (σ (x1 + 12)) 9 0 x3))] [] S (uc (uc (uc σ (x1 + 12) (u1 (σ (x1 + 12)) (x3 * 9 + 8) (σ 61 x3))) (x2 + 1) (u1 (σ (x2 + 1)) x3 (σ 61 x3))) (x2 + 2) (u1 (σ (x2 + 2)) x3 (rt_ (σ (x1 + 11) 2) (u1 (σ (x1 + 12)) (x3 * 9 + 8) (σ 61 x3)) 9 4 x3))) τ Q) else (if (24 : Int) ≤ (rt_ (σ (x1 + 11) 2) (σ (x1 + 12)) 9 0 x3) then (wi (d + 1) 129 43 [.ref 53, .ref x1, .ref x2, .int (wI (x3 + 1)), .int (wI (rt_ (σ (x1 + 11) 2) (σ (x1 + 12)) 9 0 x3))] [] S (uc (uc (uc σ (x1 + 12) (u1 (σ (x1 + 12)) (x3 * 9 + 8) (σ 61 x3))) (x2 + 1) (u1 (σ (x2 + 1)) x3 (σ 61 x3))) (x2 + 2) (u1 (σ (x2 + 2)) x3 (rt_ (σ (x1 + 11) 2) (u1 (σ (x1 + 12)) (x3 * 9 + 8) (σ 61 x3)) 9 4 x3))) τ Q) else ((0 ≤ rt_ (σ (x1 + 11) 2) (σ (x1 + 12)) 9 0 x3 ∧ rt_ (σ (x1 + 11) 2) (σ (x1 + 12)) 9 0 x3 < 24) ∧ ∃ w13 : Int, wI w13 = wI ((σ (x2 + 4) (rt_ (σ (x1 + 11) 2) (σ (x1 + 12)) 9 0 x3)) + (σ 61 x3)) ∧ rg w13 ∧ wi (d + 1) 129 43 [.ref 53, .ref x1, .ref x2, .int (wI (x3 + 1)), .int (wI (rt_ (σ (x1 + 11) 2) (σ (x1 + 12)) 9 0 x3))] [] S (uc (uc (uc (uc σ (x1 + 12) (u1 (σ (x1 + 12)) (x3 * 9 + 8) (σ 61 x3))) (x2 + 1) (u1 (σ (x2 + 1)) x3 (σ 61 x3))) (x2 + 2) (u1 (σ (x2 + 2)) x3 (rt_ (σ (x1 + 11) 2) (u1 (σ (x1 + 12)) (x3 * 9 + 8) (σ 61 x3)) 9 4 x3))) (x2 + 4) (u1 (σ (x2 + 4)) (rt_ (σ (x1 + 11) 2) (σ (x1 + 12)) 9 0 x3) w13)) τ Q))))) : wi (d + 1) 129 43 [.ref 53, .ref x1, .ref x2, .int (wI x3), y4] [] S σ τ Q := by
  refine i3 c_129_43 rfl (i5 c_129_44 rfl (i45 c_129_45 (lo (lyt_0 hx1) (by have := tw_b hx1; omega)) (lro (lrt_5 hx1)) (wi_ok (fun K1 => ?_))))
  obtain ⟨r2, t⟩ := t
  refine i43 (v := σ (x1 + 11) 2) c_129_48 (lo (lyt_11 hx1) (by have := tw_b hx1; omega)) rfl ?_
  refine i37 c_129_51 r2 (rge_ K1 rfl) rfl (fun hc => ?_) (fun hc => ?_)
  · have t := iT t hc
    have ha3 : (σ (x1 + 11) 2) ≤ x3 := hc
    exact i94 c_129_148 t
  · have t := iF t hc
    have ha3 : ¬ ((σ (x1 + 11) 2) ≤ x3) := hc
    refine i3 c_129_54 rfl (i1 c_129_55 ?_)
    refine i37 c_129_57 r2 (by decide) rfl (fun hc => ?_) (fun hc => ?_)
    · have t := iT t hc
      have ha4 : (60 : Int) ≤ x3 := hc
      exact i94 c_129_148 t
    · have t := iF t hc
      have ha4 : ¬ ((60 : Int) ≤ x3) := hc
      refine i5 c_129_60 rfl (i45 c_129_61 (lo (lyt_0 hx1) (by have := tw_b hx1; omega)) (lro (lrt_5 hx1)) (i3 c_129_64 rfl (i1 c_129_65 ?_)))
      refine i80 (As := [.int (wI x3), .int (wI 0)]) (rest := []) c_129_66 mi_55 rfl rfl (Nat.le_of_ble_eq_true rfl) (Nat.le_of_ble_eq_true rfl) (lo (lyt_11 hx1) (by have := tw_b hx1; omega)) (q_at (ow_persons hx1) r2 (by decide) ?_)
      show wi (d + 1) 129 69 [.ref 53, .ref x1, .ref x2, .int (wI x3), y4] [.int (wI (rt_ (σ (x1 + 11) 2) (σ (x1 + 12)) 9 0 x3))] S σ τ Q
      obtain ⟨r5, t⟩ := t
      obtain ⟨b6, t⟩ := t
      refine i6 (L' := [.ref 53, .ref x1, .ref x2, .int (wI x3), .int (wI (rt_ (σ (x1 + 11) 2) (σ (x1 + 12)) 9 0 x3))]) c_129_69 rfl (i5 c_129_71 rfl (i45 c_129_72 (lo (lyt_0 hx1) (by have := tw_b hx1; omega)) (lro (lrt_5 hx1)) (i3 c_129_75 rfl (i1 c_129_76 (i5 c_129_78 rfl (i45 c_129_79 (lo (c := 53) (kd := 109) (n := 0) rfl (by decide)) (lro (c := 53) (k := 3) (j := 61) (by decide)) (i3 c_129_82 rfl (i50 (v := σ 61 x3) c_129_83 (lo (c := 61) (kd := 0) (n := 60) rfl (by decide)) (by decide) r5 rfl ?_))))))))
      refine i80 (As := [.int (wI x3), .int (wI 8), .int (wI (σ 61 x3))]) (rest := []) c_129_84 mi_56 rfl rfl (Nat.le_of_ble_eq_true rfl) (Nat.le_of_ble_eq_true rfl) (lo (lyt_11 hx1) (by have := tw_b hx1; omega)) (q_put (v2 := σ 61 x3) (ow_persons hx1) r2 b6 (by decide) rfl (rge_ K1 rfl) ?_)
      show wi (d + 1) 129 87 [.ref 53, .ref x1, .ref x2, .int (wI x3), .int (wI (rt_ (σ (x1 + 11) 2) (σ (x1 + 12)) 9 0 x3))] [] S (uc σ (x1 + 12) (u1 (σ (x1 + 12)) (x3 * 9 + 8) (σ 61 x3))) τ Q
      refine i5 c_129_87 rfl (i45 c_129_88 (fun _ => oB_0 hx2) (fun _ => oB_r0 hx2) (i3 c_129_91 rfl (i5 c_129_92 rfl (i45 c_129_93 (lo (c := 53) (kd := 109) (n := 0) rfl (by decide)) (lro (c := 53) (k := 3) (j := 61) (by decide)) (i3 c_129_96 rfl (wi_ok (fun K7 => ?_)))))))
      refine i50 (v := σ 61 x3) c_129_97 (lo (c := 61) (kd := 0) (n := 60) rfl (by decide)) (by decide) r5 (congrFun (uc_ns rfl (by have := tw_b hx1; omega)) _) (i54 (σ1 := uc (uc σ (x1 + 12) (u1 (σ (x1 + 12)) (x3 * 9 + 8) (σ 61 x3))) (x2 + 1) (u1 (σ (x2 + 1)) x3 (σ 61 x3))) c_129_98 (fun _ => oB_1 hx2) (by decide) r5 (isR_b (by have := oB_b hx2; omega)) rfl (rge_ K7 (congrFun (uc_ns rfl (by have := tw_b hx1; omega)) _)) (wr_ (uc_ns rfl (by have := oB_b hx2; have := tw_b hx1; omega)) rfl) (i5 c_129_99 rfl (i45 c_129_100 (fun _ => oB_0 hx2) (fun _ => oB_r1 hx2) (i3 c_129_103 rfl (i5 c_129_104 rfl (i45 c_129_105 (lo (lyt_0 hx1) (by have := tw_b hx1; omega)) (lro (lrt_5 hx1)) (i3 c_129_108 rfl (i1 c_129_109 (wi_ok (fun K8 => ?_))))))))))
      refine i80 (As := [.int (wI x3), .int (wI 4)]) (rest := [.int (wI x3), .ref (x2 + 2)]) c_129_110 mi_55 rfl rfl (Nat.le_of_ble_eq_true rfl) (Nat.le_of_ble_eq_true rfl) (lo (lyt_11 hx1) (by have := tw_b hx1; omega)) (q_at (ow_persons hx1) r2 (by decide) ?_)
      show wi (d + 1) 129 113 [.ref 53, .ref x1, .ref x2, .int (wI x3), .int (wI (rt_ (σ (x1 + 11) 2) (σ (x1 + 12)) 9 0 x3))] [.int (wI (rt_ ((uc (uc σ (x1 + 12) (u1 (σ (x1 + 12)) (x3 * 9 + 8) (σ 61 x3))) (x2 + 1) (u1 (σ (x2 + 1)) x3 (σ 61 x3))) (x1 + 11) 2) ((uc (uc σ (x1 + 12) (u1 (σ (x1 + 12)) (x3 * 9 + 8) (σ 61 x3))) (x2 + 1) (u1 (σ (x2 + 1)) x3 (σ 61 x3))) (x1 + 12)) 9 4 x3)), .int (wI x3), .ref (x2 + 2)] S (uc (uc σ (x1 + 12) (u1 (σ (x1 + 12)) (x3 * 9 + 8) (σ 61 x3))) (x2 + 1) (u1 (σ (x2 + 1)) x3 (σ 61 x3))) τ Q
      refine wi_v (v := rt_ (σ (x1 + 11) 2) (u1 (σ (x1 + 12)) (x3 * 9 + 8) (σ 61 x3)) 9 4 x3) (rt_c (congrFun (uc_ns (uc_ns rfl (by have := tw_b hx1; have := tw_b hx1; omega)) (by have := tw_b hx1; have := oB_b hx2; omega)) _) (uc_ns (uc_s _ _ _) (by have := tw_b hx1; have := oB_b hx2; omega))) (i54 (σ1 := uc (uc (uc σ (x1 + 12) (u1 (σ (x1 + 12)) (x3 * 9 + 8) (σ 61 x3))) (x2 + 1) (u1 (σ (x2 + 1)) x3 (σ 61 x3))) (x2 + 2) (u1 (σ (x2 + 2)) x3 (rt_ (σ (x1 + 11) 2) (u1 (σ (x1 + 12)) (x3 * 9 + 8) (σ 61 x3)) 9 4 x3))) c_129_113 (fun _ => oB_2 hx2) (by decide) r5 (isR_b (by have := oB_b hx2; omega)) rfl (rg_rt_ (fun k => rge_ K8 (congrFun (uc_ns (uc_s _ _ _) (by have := tw_b hx1; have := oB_b hx2; omega)) k)) _ _ _ _) (wr_ (uc_ns (uc_ns rfl (by have := oB_b hx2; have := tw_b hx1; omega)) (by have := oB_b hx2; have := oB_b hx2; omega)) rfl) (i3 c_129_114 rfl ?_))
      refine i36 c_129_116 (rg_rt_ (fun k => kO_r K1 _ k) _ _ _ _) rfl (fun hc => ?_) (fun hc => ?_)
      · have t := iT t hc
        have ha9 : (rt_ (σ (x1 + 11) 2) (σ (x1 + 12)) 9 0 x3) < 0 := hc
        refine i9 (L' := [.ref 53, .ref x1, .ref x2, .int (wI (x3 + 1)), .int (wI (rt_ (σ (x1 + 11) 2) (σ (x1 + 12)) 9 0 x3))]) c_129_142 rfl rfl (i38 c_129_145 rfl t)
      · have t := iF t hc
        have ha9 : ¬ ((rt_ (σ (x1 + 11) 2) (σ (x1 + 12)) 9 0 x3) < 0) := hc
        refine i3 c_129_119 rfl (i1 c_129_121 ?_)
        refine i37 c_129_123 (rg_rt_ (fun k => kO_r K1 _ k) _ _ _ _) (by decide) rfl (fun hc => ?_) (fun hc => ?_)
        · have t := iT t hc
          have ha10 : (24 : Int) ≤ (rt_ (σ (x1 + 11) 2) (σ (x1 + 12)) 9 0 x3) := hc
          refine i9 (L' := [.ref 53, .ref x1, .ref x2, .int (wI (x3 + 1)), .int (wI (rt_ (σ (x1 + 11) 2) (σ (x1 + 12)) 9 0 x3))]) c_129_142 rfl rfl (i38 c_129_145 rfl t)
        · have t := iF t hc
          have ha10 : ¬ ((24 : Int) ≤ (rt_ (σ (x1 + 11) 2) (σ (x1 + 12)) 9 0 x3)) := hc
          obtain ⟨r11, t⟩ := t
          refine i5 c_129_126 rfl (i45 c_129_127 (fun _ => oB_0 hx2) (fun _ => oB_r3 hx2) (i3 c_129_130 rfl (i34a c_129_132 (wi_ok (fun K12 => ?_)))))
          obtain ⟨w13, e14, r15, t⟩ := t
          refine i50 (v := σ (x2 + 4) (rt_ (σ (x1 + 11) 2) (σ (x1 + 12)) 9 0 x3)) c_129_133 (fun _ => oB_4 hx2) (by decide) r11 (congrFun (uc_ns (uc_ns (uc_ns rfl (by have := oB_b hx2; have := tw_b hx1; omega)) (by have := oB_b hx2; have := oB_b hx2; omega)) (by have := oB_b hx2; have := oB_b hx2; omega)) _) (i5 c_129_134 rfl (i45 c_129_135 (lo (c := 53) (kd := 109) (n := 0) rfl (by decide)) (lro (c := 53) (k := 3) (j := 61) (by decide)) (i3 c_129_138 rfl (i50 (v := σ 61 x3) c_129_139 (lo (c := 61) (kd := 0) (n := 60) rfl (by decide)) (by decide) r5 (congrFun (uc_ns (uc_ns (uc_ns rfl (by have := tw_b hx1; omega)) (by have := oB_b hx2; omega)) (by have := oB_b hx2; omega)) _) (i10 c_129_140 (i54 (σ1 := uc (uc (uc (uc σ (x1 + 12) (u1 (σ (x1 + 12)) (x3 * 9 + 8) (σ 61 x3))) (x2 + 1) (u1 (σ (x2 + 1)) x3 (σ 61 x3))) (x2 + 2) (u1 (σ (x2 + 2)) x3 (rt_ (σ (x1 + 11) 2) (u1 (σ (x1 + 12)) (x3 * 9 + 8) (σ 61 x3)) 9 4 x3))) (x2 + 4) (u1 (σ (x2 + 4)) (rt_ (σ (x1 + 11) 2) (σ (x1 + 12)) 9 0 x3) w13)) c_129_141 (fun _ => oB_4 hx2) (by decide) r11 (isR_b (by have := oB_b hx2; omega)) e14 r15 (wr_ (uc_ns (uc_ns (uc_ns rfl (by have := oB_b hx2; have := tw_b hx1; omega)) (by have := oB_b hx2; have := oB_b hx2; omega)) (by have := oB_b hx2; have := oB_b hx2; omega)) rfl) (i9 (L' := [.ref 53, .ref x1, .ref x2, .int (wI (x3 + 1)), .int (wI (rt_ (σ (x1 + 11) 2) (σ (x1 + 12)) 9 0 x3))]) c_129_142 rfl rfl (i38 c_129_145 rfl t))))))))
theorem q_129 {d : Nat} {S : zS} {σ τ : zI} {Q : zQ} {tn : Nat} {y : Nat} {a : Int → Int} (htn : tw tn) (hy : oB S y) (p0 : cT_P σ tn a (PE2 a (a 1)) ∧ cT_M σ tn a (MI3 a (a 1)) (TKq a (a 4))) (p1 : Jv a) (p2 : jv_T a) (p3 : a 0 ≤ 399) (p4 : CB σ y) (p5 : (∀ p, 0 ≤ p → p < a 4 → σ 61 p = wk_W2 a p)) (t : ∀ (σ1 : zI), (∀ c, c ≠ tn + 12 → c ≠ y + 1 → c ≠ y + 2 → c ≠ y + 3 → c ≠ y + 4 → σ1 c = σ c) → (∀ p c, 0 ≤ p → p < a 4 → 0 ≤ c → c ≤ 8 → σ1 (tn + 12) (p * 9 + c) = if c = 8 then wk_W2 a p else σ (tn + 12) (p * 9 + c)) → BW σ1 y a → Q none S σ1 τ) : wc (d + 1) 129 [.ref 53, .ref tn, .ref y] S σ τ Q := by
  have hC := jC p1
  unfold jv_C at hC
  have tb := tw_b htn
  have yb := oB_b hy
  obtain ⟨cp, cm⟩ := p0
  refine wc_of mi_129 rfl (u_129_0 htn hy ?_)
  have pers : ∀ q, 0 ≤ q → q ≤ a 4 → ∀ σ' : zI, (∀ c, c ≠ tn + 12 → c ≠ y + 1 → c ≠ y + 2 → c ≠ y + 3 → c ≠ y + 4 → σ' c = σ c) → (∀ p c, 0 ≤ p → p < a 4 → 0 ≤ c → c ≤ 8 → σ' (tn + 12) (p * 9 + c) = if c = 8 ∧ p < q then wk_W2 a p else σ (tn + 12) (p * 9 + c)) → (∀ p, 0 ≤ p → p < 60 → σ' (y + 1) p = (if p < q then wk_W2 a p else 0) ∧ σ' (y + 2) p = (if p < q then a (3652 + 12 * p + 4) else -1)) → (∀ m, 0 ≤ m → m < 8 → σ' (y + 3) m = if m < a 1 then wk_by a m else -1) → (∀ h, 0 ≤ h → h < 24 → σ' (y + 4) h = wk_E a h q) → ∀ y4, wi (d + 1) 129 43 [.ref 53, .ref tn, .ref y, .int (wI q), y4] [] S σ' τ Q := by
    refine lp_up (fun q q0 q1 ih => ?_)
    intro σ' f w8 b12 b3 b4 y4
    refine u_129_43 htn hy ?_
    rw [f (tn + 11) (by omega) (by omega) (by omega) (by omega) (by omega), cp.1]
    refine ⟨by omega, ifI (fun e => ?_) (fun e => ifI (fun e2 => by omega) (fun e2 => ⟨by omega, by omega, ?_⟩))⟩
    · have e : q = a 4 := by omega
      subst e
      refine t σ' f (fun p c r0 r1 c0 c1 => ?_) ⟨b12, b3, fun h r0 r1 => ⟨b4 h r0 r1, ?_⟩, ?_⟩
      · rw [w8 p c r0 r1 c0 c1]
        by_cases x : c = 8
        · rw [if_pos ⟨x, r1⟩, if_pos x]
        · rw [if_neg (fun z => x z.1), if_neg x]
      · rw [f (y + 5) (by omega) (by omega) (by omega) (by omega) (by omega), f (y + 6) (by omega) (by omega) (by omega) (by omega) (by omega), f (y + 7) (by omega) (by omega) (by omega) (by omega) (by omega)]
        exact (p4.2.2.1 h r0 r1).2
      · rw [f y (by omega) (by omega) (by omega) (by omega) (by omega)]; exact p4.2.2.2
    · have ih := ih (by omega)
      have hP := jP p1 q q0 (by omega)
      have wb := wk_W2_b p1 p2 p3 q
      have v : ∀ k, k = 0 ∨ k = 4 → σ' (tn + 12) (q * 9 + k) = a (3652 + 12 * q + k) := fun k hk => by
        rw [w8 q k q0 (by omega) (by omega) (by omega), if_neg (by omega), cp.2 q k q0 (by omega) (by omega) (by omega)]
        exact sP_2 q k (by omega) (by omega) (by omega) (by omega) (by omega) (by omega)
      have v0 : rt_ (a 4) (σ' (tn + 12)) 9 0 q = a (3652 + 12 * q + 0) := by rw [rt_p ⟨q0, by omega⟩]; exact v 0 (by omega)
      have v4 : rt_ (a 4) (u1 (σ' (tn + 12)) (q * 9 + 8) (σ' 61 q)) 9 4 q = a (3652 + 12 * q + 4) := by
        rw [rt_p ⟨q0, by omega⟩]
        show u1 (σ' (tn + 12)) (q * 9 + 8) (σ' 61 q) (q * 9 + 4) = _
        rw [u1_n (by omega)]; exact v 4 (by omega)
      have w61 : σ' 61 q = wk_W2 a q := by rw [f 61 (by omega) (by omega) (by omega) (by omega) (by omega)]; exact p5 q q0 (by omega)
      rw [v0, v4, w61]
      have hb : 0 ≤ a (3652 + 12 * q + 0) ∧ a (3652 + 12 * q + 0) < 24 := by omega
      have Eb := wk_E_b p1 p2 p3 (h := a (3652 + 12 * q + 0)) (n := q) ⟨q0, q1⟩
      have Es : ∀ h, wk_E a h (q + 1) = wk_E a h q + (if a (3652 + 12 * q + 0) = h then wk_W2 a q else 0) := fun h => sI_s q0
      rw [b4 _ hb.1 hb.2]
      have we : wk_W2 a q ≤ 330030000 := by
        have := sI_g1 (f := wk_W2 a) (n := a 4) (c := q) ⟨q0, by omega⟩ (fun p _ _ => (wk_W2_b p1 p2 p3 p).1)
        have := wk_W2_s p1 p2 p3
        omega
      refine ifI (fun e3 => by omega) (fun e3 => ifI (fun e4 => by omega) (fun e4 => ⟨by omega, wk_E a (a (3652 + 12 * q + 0)) q + wk_W2 a q, rfl, by omega, ih _ (fun c h1 h2 h3 h4 h5 => ?_) (fun p c r0 r1 c0 c1 => ?_) (fun p r0 r1 => ?_) (fun m r0 r1 => ?_) (fun h r0 r1 => ?_) _⟩))
      · rw [uc_n h5, uc_n h3, uc_n h2, uc_n h1]; exact f c h1 h2 h3 h4 h5
      · rw [uc_n (by omega), uc_n (by omega), uc_n (by omega), uc_s]
        by_cases ex : p = q ∧ c = 8
        · obtain ⟨rfl, rfl⟩ := ex
          rw [u1_s, if_pos (by omega)]
        · rw [u1_n (by omega), w8 p c r0 r1 c0 c1]
          by_cases x : c = 8 ∧ p < q
          · rw [if_pos x, if_pos (by omega)]
          · rw [if_neg x, if_neg (by omega)]
      · rw [uc_n (by omega), uc_n (by omega), uc_s, uc_n (show y + 2 ≠ y + 4 by omega), uc_s]
        by_cases ex : p = q
        · subst ex
          rw [u1_s, u1_s, if_pos (by omega), if_pos (by omega)]; exact ⟨rfl, rfl⟩
        · rw [u1_n ex, u1_n ex, (b12 p r0 r1).1, (b12 p r0 r1).2]
          by_cases x : p < q
          · rw [if_pos x, if_pos x, if_pos (by omega), if_pos (by omega)]; exact ⟨rfl, rfl⟩
          · rw [if_neg x, if_neg x, if_neg (by omega), if_neg (by omega)]; exact ⟨rfl, rfl⟩
      · rw [uc_n (by omega), uc_n (by omega), uc_n (by omega), uc_n (by omega)]; exact b3 m r0 r1
      · rw [uc_s, Es]
        by_cases ex : h = a (3652 + 12 * q + 0)
        · rw [ex, u1_s, if_pos rfl]
        · rw [u1_n ex, if_neg (fun z => ex z.symm), Int.add_zero]; exact b4 h r0 r1
  have mills : ∀ m, 0 ≤ m → m ≤ a 1 → ∀ σ' : zI, (∀ c, c ≠ y + 3 → σ' c = σ c) → (∀ x, 0 ≤ x → x < 8 → σ' (y + 3) x = if x < m then wk_by a x else -1) → ∀ y4, wi (d + 1) 129 2 [.ref 53, .ref tn, .ref y, .int (wI m), y4] [] S σ' τ Q := by
    refine lp_up (fun m m0 m1 ih => ?_)
    intro σ' f b3 y4
    have fin : m = a 1 → ∀ y4, wi (d + 1) 129 43 [.ref 53, .ref tn, .ref y, .int (wI 0), y4] [] S σ' τ Q := fun e y4 => by
      subst e
      refine pers 0 (by omega) (by omega) σ' (fun c h1 h2 h3 h4 h5 => f c h4) (fun p c r0 r1 c0 c1 => by rw [f (tn + 12) (by omega), if_neg (by omega)]) (fun p r0 r1 => ?_) b3 (fun h r0 r1 => ?_) _
      · rw [f (y + 1) (by omega), f (y + 2) (by omega), if_neg (by omega), if_neg (by omega)]; exact p4.1 p r0 r1
      · rw [f (y + 4) (by omega)]; exact (p4.2.2.1 h r0 r1).1
    refine u_129_2 htn hy ?_
    rw [f (tn + 5) (by omega), cm.1]
    refine ⟨by omega, ifI (fun e => fin (by omega) _) (fun e => ifI (fun e2 => by omega) (fun e2 => ⟨by omega, ?_⟩))⟩
    have v8 : rt_ (a 1) (σ' (tn + 6)) 13 8 m = wk_by a m := by
      rw [rt_p ⟨m0, by omega⟩, f (tn + 6) (by omega)]
      have := (cm.2 m m0 (by omega)).1 8 9 (by omega)
      rw [MI3_k (by omega) (by omega), if_neg (by omega), if_neg (by omega), if_pos rfl] at this
      exact this
    rw [v8]
    refine ih (by omega) _ (fun c hc => by rw [uc_n hc]; exact f c hc) (fun x x0 x1 => ?_) _
    rw [uc_s]
    by_cases ex : x = m
    · subst ex; rw [u1_s, if_pos (by omega)]
    · rw [u1_n ex, b3 x x0 x1]
      by_cases z : x < m
      · rw [if_pos z, if_pos (by omega)]
      · rw [if_neg z, if_neg (by omega)]
  exact mills 0 (by omega) (by omega) σ (fun _ _ => rfl) (fun x x0 x1 => by rw [if_neg (by omega)]; exact p4.2.1 x x0 x1) _
