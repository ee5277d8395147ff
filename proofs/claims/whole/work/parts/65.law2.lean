/-! ===== the class: FRACTIONS, SUMS, PAY (segments printed by wip/whole, contracts own work) ===== -/
theorem tm_ab (x y : Int) : (x.tmod y).natAbs = x.natAbs % y.natAbs := by
  rw [Int.natAbs_tmod]
theorem mod_half {m n : Nat} (h : 0 < n) (h2 : n ≤ m) : 2 * (m % n) < m := by
  by_cases c : m < 2 * n
  · have : m % n = m - n := by
      rw [Nat.mod_eq_sub_mod h2, Nat.mod_eq_of_lt (by omega)]
    omega
  · have := Nat.mod_lt m h
    omega
theorem rd_D_g {x y D : Int} (hy : y ≠ 0) (hD : D.natAbs = Nat.gcd x.natAbs y.natAbs) (hs : D < 0 ↔ y < 0) : D = rd_D x y := by
  have := rd_D_p (x := x) hy
  unfold rd_D
  split <;> omega
-- method 24: MillTown$Law.settle(IJJ)V
theorem c_24_0 : pg_cd 24 0 = (5, 1, 0, 0, 0) := by decide +kernel
theorem c_24_1 : pg_cd 24 1 = (45, 1, 17, 1, 0) := by decide +kernel
theorem c_24_4 : pg_cd 24 4 = (3, 1, 0, 1, 0) := by decide +kernel
theorem c_24_5 : pg_cd 24 5 = (2, 1, 0, 0, 0) := by decide +kernel
theorem c_24_6 : pg_cd 24 6 = (56, 1, 0, 0, 0) := by decide +kernel
theorem c_24_7 : pg_cd 24 7 = (5, 1, 0, 0, 0) := by decide +kernel
theorem c_24_8 : pg_cd 24 8 = (45, 1, 21, 2, 0) := by decide +kernel
theorem c_24_11 : pg_cd 24 11 = (3, 1, 0, 1, 0) := by decide +kernel
theorem c_24_12 : pg_cd 24 12 = (2, 1, 0, 0, 0) := by decide +kernel
theorem c_24_13 : pg_cd 24 13 = (56, 1, 0, 0, 0) := by decide +kernel
theorem c_24_14 : pg_cd 24 14 = (4, 2, 0, 4, 0) := by decide +kernel
theorem c_24_16 : pg_cd 24 16 = (2, 1, 0, 0, 0) := by decide +kernel
theorem c_24_17 : pg_cd 24 17 = (28, 1, 0, 0, 0) := by decide +kernel
theorem c_24_18 : pg_cd 24 18 = (36, 3, 0, 1, 4) := by decide +kernel
theorem c_24_21 : pg_cd 24 21 = (94, 0, 0, 0, 0) := by decide +kernel
theorem c_24_22 : pg_cd 24 22 = (4, 1, 0, 2, 0) := by decide +kernel
theorem c_24_23 : pg_cd 24 23 = (7, 2, 0, 6, 0) := by decide +kernel
theorem c_24_25 : pg_cd 24 25 = (4, 2, 0, 4, 0) := by decide +kernel
theorem c_24_27 : pg_cd 24 27 = (7, 2, 0, 8, 0) := by decide +kernel
theorem c_24_29 : pg_cd 24 29 = (1, 1, 0, 0, 0) := by decide +kernel
theorem c_24_30 : pg_cd 24 30 = (6, 2, 0, 10, 0) := by decide +kernel
theorem c_24_32 : pg_cd 24 32 = (3, 2, 0, 10, 0) := by decide +kernel
theorem c_24_34 : pg_cd 24 34 = (1, 3, 0, 0, 200) := by decide +kernel
theorem c_24_37 : pg_cd 24 37 = (37, 3, 0, 3, 31) := by decide +kernel
theorem c_24_40 : pg_cd 24 40 = (4, 2, 0, 8, 0) := by decide +kernel
theorem c_24_42 : pg_cd 24 42 = (2, 1, 0, 0, 0) := by decide +kernel
theorem c_24_43 : pg_cd 24 43 = (28, 1, 0, 0, 0) := by decide +kernel
theorem c_24_44 : pg_cd 24 44 = (36, 3, 0, 0, 24) := by decide +kernel
theorem c_24_47 : pg_cd 24 47 = (4, 2, 0, 6, 0) := by decide +kernel
theorem c_24_49 : pg_cd 24 49 = (4, 2, 0, 8, 0) := by decide +kernel
theorem c_24_51 : pg_cd 24 51 = (27, 1, 0, 0, 0) := by decide +kernel
theorem c_24_52 : pg_cd 24 52 = (7, 2, 0, 11, 0) := by decide +kernel
theorem c_24_54 : pg_cd 24 54 = (4, 2, 0, 8, 0) := by decide +kernel
theorem c_24_56 : pg_cd 24 56 = (7, 2, 0, 6, 0) := by decide +kernel
theorem c_24_58 : pg_cd 24 58 = (4, 2, 0, 11, 0) := by decide +kernel
theorem c_24_60 : pg_cd 24 60 = (7, 2, 0, 8, 0) := by decide +kernel
theorem c_24_62 : pg_cd 24 62 = (9, 3, 0, 10, 1) := by decide +kernel
theorem c_24_65 : pg_cd 24 65 = (38, 3, 0, 0, (-33)) := by decide +kernel
theorem c_24_68 : pg_cd 24 68 = (4, 2, 0, 6, 0) := by decide +kernel
theorem c_24_70 : pg_cd 24 70 = (2, 1, 0, 0, 0) := by decide +kernel
theorem c_24_71 : pg_cd 24 71 = (28, 1, 0, 0, 0) := by decide +kernel
theorem c_24_72 : pg_cd 24 72 = (36, 3, 0, 3, 7) := by decide +kernel
theorem c_24_75 : pg_cd 24 75 = (1, 1, 0, 0, 1) := by decide +kernel
theorem c_24_76 : pg_cd 24 76 = (38, 3, 0, 0, 4) := by decide +kernel
theorem c_24_79 : pg_cd 24 79 = (1, 1, 0, 0, 0) := by decide +kernel
theorem c_24_80 : pg_cd 24 80 = (4, 2, 0, 4, 0) := by decide +kernel
theorem c_24_82 : pg_cd 24 82 = (2, 1, 0, 0, 0) := by decide +kernel
theorem c_24_83 : pg_cd 24 83 = (28, 1, 0, 0, 0) := by decide +kernel
theorem c_24_84 : pg_cd 24 84 = (36, 3, 0, 3, 7) := by decide +kernel
theorem c_24_87 : pg_cd 24 87 = (1, 1, 0, 0, 1) := by decide +kernel
theorem c_24_88 : pg_cd 24 88 = (38, 3, 0, 0, 4) := by decide +kernel
theorem c_24_91 : pg_cd 24 91 = (1, 1, 0, 0, 0) := by decide +kernel
theorem c_24_92 : pg_cd 24 92 = (37, 3, 0, 0, 8) := by decide +kernel
theorem c_24_95 : pg_cd 24 95 = (4, 2, 0, 6, 0) := by decide +kernel
theorem c_24_97 : pg_cd 24 97 = (29, 1, 0, 0, 0) := by decide +kernel
theorem c_24_98 : pg_cd 24 98 = (7, 2, 0, 6, 0) := by decide +kernel
theorem c_24_100 : pg_cd 24 100 = (4, 2, 0, 6, 0) := by decide +kernel
theorem c_24_102 : pg_cd 24 102 = (2, 1, 0, 0, 0) := by decide +kernel
theorem c_24_103 : pg_cd 24 103 = (28, 1, 0, 0, 0) := by decide +kernel
theorem c_24_104 : pg_cd 24 104 = (36, 3, 0, 1, 4) := by decide +kernel
theorem c_24_107 : pg_cd 24 107 = (94, 0, 0, 0, 0) := by decide +kernel
theorem c_24_108 : pg_cd 24 108 = (4, 1, 0, 2, 0) := by decide +kernel
theorem c_24_109 : pg_cd 24 109 = (4, 2, 0, 6, 0) := by decide +kernel
theorem c_24_111 : pg_cd 24 111 = (26, 1, 0, 0, 0) := by decide +kernel
theorem c_24_112 : pg_cd 24 112 = (7, 2, 0, 10, 0) := by decide +kernel
theorem c_24_114 : pg_cd 24 114 = (4, 2, 0, 4, 0) := by decide +kernel
theorem c_24_116 : pg_cd 24 116 = (4, 2, 0, 6, 0) := by decide +kernel
theorem c_24_118 : pg_cd 24 118 = (26, 1, 0, 0, 0) := by decide +kernel
theorem c_24_119 : pg_cd 24 119 = (7, 2, 0, 12, 0) := by decide +kernel
theorem c_24_121 : pg_cd 24 121 = (4, 2, 0, 10, 0) := by decide +kernel
theorem c_24_123 : pg_cd 24 123 = (2, 3, 120, 0, 1000000000) := by decide +kernel
theorem c_24_126 : pg_cd 24 126 = (28, 1, 0, 0, 0) := by decide +kernel
theorem c_24_127 : pg_cd 24 127 = (36, 3, 0, 4, 37) := by decide +kernel
theorem c_24_130 : pg_cd 24 130 = (4, 2, 0, 10, 0) := by decide +kernel
theorem c_24_132 : pg_cd 24 132 = (2, 3, 122, 0, (-1000000000)) := by decide +kernel
theorem c_24_135 : pg_cd 24 135 = (28, 1, 0, 0, 0) := by decide +kernel
theorem c_24_136 : pg_cd 24 136 = (36, 3, 0, 2, 28) := by decide +kernel
theorem c_24_139 : pg_cd 24 139 = (4, 2, 0, 12, 0) := by decide +kernel
theorem c_24_141 : pg_cd 24 141 = (2, 3, 120, 0, 1000000000) := by decide +kernel
theorem c_24_144 : pg_cd 24 144 = (28, 1, 0, 0, 0) := by decide +kernel
theorem c_24_145 : pg_cd 24 145 = (36, 3, 0, 4, 19) := by decide +kernel
theorem c_24_148 : pg_cd 24 148 = (5, 1, 0, 0, 0) := by decide +kernel
theorem c_24_149 : pg_cd 24 149 = (45, 1, 17, 1, 0) := by decide +kernel
theorem c_24_152 : pg_cd 24 152 = (3, 1, 0, 1, 0) := by decide +kernel
theorem c_24_153 : pg_cd 24 153 = (4, 2, 0, 10, 0) := by decide +kernel
theorem c_24_155 : pg_cd 24 155 = (56, 1, 0, 0, 0) := by decide +kernel
theorem c_24_156 : pg_cd 24 156 = (5, 1, 0, 0, 0) := by decide +kernel
theorem c_24_157 : pg_cd 24 157 = (45, 1, 21, 2, 0) := by decide +kernel
theorem c_24_160 : pg_cd 24 160 = (3, 1, 0, 1, 0) := by decide +kernel
theorem c_24_161 : pg_cd 24 161 = (4, 2, 0, 12, 0) := by decide +kernel
theorem c_24_163 : pg_cd 24 163 = (56, 1, 0, 0, 0) := by decide +kernel
theorem c_24_164 : pg_cd 24 164 = (94, 0, 0, 0, 0) := by decide +kernel
theorem mi_24 : pg_mc 24 = 1 ∧ pg_na 24 = 3 ∧ pg_mx 24 = 14 := by decide +kernel
set_option maxRecDepth 20000 in
theorem u_24_0 {d : Nat} {S : zS} {σ τ : zI} {Q : zQ} {x1 : Int} {x2 : Int} {x4 : Int} (t : (0 ≤ x1 ∧ x1 < 64) ∧ (rj x4) ∧ if x4 = 0 then (Q none S σ (uc (uc τ 56 (u1 (τ 56) x1 0)) 57 (u1 (τ 57) x1 0))) else (wi (d + 0) 24 32 [.ref 54, .int (wI x1), .long (wJ x2), .retAddr 0, .long (wJ x4), .retAddr 0, .long (wJ x2), .retAddr 0, .long (wJ x4), .retAddr 0, .int (wI 0), .retAddr 0, .retAddr 0, .retAddr 0] [] S σ (uc (uc τ 56 (u1 (τ 56) x1 0)) 57 (u1 (τ 57) x1 0)) Q)) : wi (d + 0) 24 0 [.ref 54, .int (wI x1), .long (wJ x2), .retAddr 0, .long (wJ x4), .retAddr 0, .retAddr 0, .retAddr 0, .retAddr 0, .retAddr 0, .retAddr 0, .retAddr 0, .retAddr 0, .retAddr 0] [] S σ τ Q := by
  obtain ⟨r1, t⟩ := t
  obtain ⟨r2, t⟩ := t
  refine i5 c_24_0 rfl (i45 c_24_1 (lo (c := 54) (kd := 101) (n := 0) rfl (by decide)) (lro (c := 54) (k := 1) (j := 56) (by decide)) (i3 c_24_4 rfl (i2 c_24_5 (i56 (τ1 := uc τ 56 (u1 (τ 56) x1 0)) c_24_6 (lo (c := 56) (kd := 1) (n := 64) rfl (by decide)) (by decide) r1 rfl (by decide) (wr_ rfl rfl) (i5 c_24_7 rfl (i45 c_24_8 (lo (c := 54) (kd := 101) (n := 0) rfl (by decide)) (lro (c := 54) (k := 2) (j := 57) (by decide)) (i3 c_24_11 rfl (i2 c_24_12 (i56 (τ1 := uc (uc τ 56 (u1 (τ 56) x1 0)) 57 (u1 (τ 57) x1 0)) c_24_13 (lo (c := 57) (kd := 1) (n := 64) rfl (by decide)) (by decide) r1 rfl (by decide) (wr_ (uc_ns rfl (by decide)) rfl) (i4 c_24_14 rfl (i2 c_24_16 (i28 c_24_17 ?_))))))))))))
  refine i36l c_24_18 r2 (by decide) rfl (fun hc => ?_) (fun hc => ?_)
  · have t := iF t hc
    have ha3 : ¬ (x4 = 0) := hc
    refine i4 c_24_22 rfl (i7 (L' := [.ref 54, .int (wI x1), .long (wJ x2), .retAddr 0, .long (wJ x4), .retAddr 0, .long (wJ x2), .retAddr 0, .retAddr 0, .retAddr 0, .retAddr 0, .retAddr 0, .retAddr 0, .retAddr 0]) c_24_23 rfl (i4 c_24_25 rfl (i7 (L' := [.ref 54, .int (wI x1), .long (wJ x2), .retAddr 0, .long (wJ x4), .retAddr 0, .long (wJ x2), .retAddr 0, .long (wJ x4), .retAddr 0, .retAddr 0, .retAddr 0, .retAddr 0, .retAddr 0]) c_24_27 rfl (i1 c_24_29 (i6 (L' := [.ref 54, .int (wI x1), .long (wJ x2), .retAddr 0, .long (wJ x4), .retAddr 0, .long (wJ x2), .retAddr 0, .long (wJ x4), .retAddr 0, .int (wI 0), .retAddr 0, .retAddr 0, .retAddr 0]) c_24_30 rfl t)))))
  · have t := iT t (Decidable.not_not.mp hc)
    have ha3 : x4 = 0 := Decidable.not_not.mp hc
    exact i94 c_24_21 t
set_option maxRecDepth 20000 in
theorem u_24_32 {d : Nat} {S : zS} {σ τ : zI} {Q : zQ} {x1 : Int} {x2 : Int} {x4 : Int} {x6 : Int} {x8 : Int} {x10 : Int} {y11 : Value} {y12 : Value} {y13 : Value} (t : (rg x10) ∧ if (200 : Int) ≤ x10 then ((rj x6) ∧ if (0 : Int) ≤ x6 then ((rj x4) ∧ if (0 : Int) ≤ x4 then (if x6 = 0 then (Q none S σ τ) else ((rj x2) ∧ (x6 ≠ 0) ∧ (x6 ≠ 0) ∧ (rj (Int.tdiv x2 x6)) ∧ if (1000000000 : Int) < (Int.tdiv x2 x6) then (Q none S σ τ) else (if (Int.tdiv x2 x6) < (-1000000000) then (Q none S σ τ) else ((rj (Int.tdiv x4 x6)) ∧ if (1000000000 : Int) < (Int.tdiv x4 x6) then (Q none S σ τ) else ((0 ≤ x1 ∧ x1 < 64) ∧ Q none S σ (uc (uc τ 56 (u1 (τ 56) x1 (Int.tdiv x2 x6))) 57 (u1 (τ 57) x1 (Int.tdiv x4 x6)))))))) else ((rj (-x6)) ∧ if (-x6) = 0 then (Q none S σ τ) else ((rj x2) ∧ ((-x6) ≠ 0) ∧ ((-x6) ≠ 0) ∧ (rj (Int.tdiv x2 (-x6))) ∧ if (1000000000 : Int) < (Int.tdiv x2 (-x6)) then (Q none S σ τ) else (if (Int.tdiv x2 (-x6)) < (-1000000000) then (Q none S σ τ) else ((rj (Int.tdiv x4 (-x6))) ∧ if (1000000000 : Int) < (Int.tdiv x4 (-x6)) then (Q none S σ τ) else ((0 ≤ x1 ∧ x1 < 64) ∧ Q none S σ (uc (uc τ 56 (u1 (τ 56) x1 (Int.tdiv x2 (-x6)))) 57 (u1 (τ 57) x1 (Int.tdiv x4 (-x6)))))))))) else ((rj x4) ∧ if (0 : Int) ≤ x4 then ((rj (-x6)) ∧ if (-x6) = 0 then (Q none S σ τ) else ((rj x2) ∧ ((-x6) ≠ 0) ∧ ((-x6) ≠ 0) ∧ (rj (Int.tdiv x2 (-x6))) ∧ if (1000000000 : Int) < (Int.tdiv x2 (-x6)) then (Q none S σ τ) else (if (Int.tdiv x2 (-x6)) < (-1000000000) then (Q none S σ τ) else ((rj (Int.tdiv x4 (-x6))) ∧ if (1000000000 : Int) < (Int.tdiv x4 (-x6)) then (Q none S σ τ) else ((0 ≤ x1 ∧ x1 < 64) ∧ Q none S σ (uc (uc τ 56 (u1 (τ 56) x1 (Int.tdiv x2 (-x6)))) 57 (u1 (τ 57) x1 (Int.tdiv x4 (-x6))))))))) else (if x6 = 0 then (Q none S σ τ) else ((rj x2) ∧ (x6 ≠ 0) ∧ (x6 ≠ 0) ∧ (rj (Int.tdiv x2 x6)) ∧ if (1000000000 : Int) < (Int.tdiv x2 x6) then (Q none S σ τ) else (if (Int.tdiv x2 x6) < (-1000000000) then (Q none S σ τ) else ((rj (Int.tdiv x4 x6)) ∧ if (1000000000 : Int) < (Int.tdiv x4 x6) then (Q none S σ τ) else ((0 ≤ x1 ∧ x1 < 64) ∧ Q none S σ (uc (uc τ 56 (u1 (τ 56) x1 (Int.tdiv x2 x6))) 57 (u1 (τ 57) x1 (Int.tdiv x4 x6)))))))))) else ((rj x8) ∧ if x8 = 0 then ((rj x6) ∧ if (0 : Int) ≤ x6 then ((rj x4) ∧ if (0 : Int) ≤ x4 then (if x6 = 0 then (Q none S σ τ) else ((rj x2) ∧ (x6 ≠ 0) ∧ (x6 ≠ 0) ∧ (rj (Int.tdiv x2 x6)) ∧ if (1000000000 : Int) < (Int.tdiv x2 x6) then (Q none S σ τ) else (if (Int.tdiv x2 x6) < (-1000000000) then (Q none S σ τ) else ((rj (Int.tdiv x4 x6)) ∧ if (1000000000 : Int) < (Int.tdiv x4 x6) then (Q none S σ τ) else ((0 ≤ x1 ∧ x1 < 64) ∧ Q none S σ (uc (uc τ 56 (u1 (τ 56) x1 (Int.tdiv x2 x6))) 57 (u1 (τ 57) x1 (Int.tdiv x4 x6)))))))) else ((rj (-x6)) ∧ if (-x6) = 0 then (Q none S σ τ) else ((rj x2) ∧ ((-x6) ≠ 0) ∧ ((-x6) ≠ 0) ∧ (rj (Int.tdiv x2 (-x6))) ∧ if (1000000000 : Int) < (Int.tdiv x2 (-x6)) then (Q none S σ τ) else (if (Int.tdiv x2 (-x6)) < (-1000000000) then (Q none S σ τ) else ((rj (Int.tdiv x4 (-x6))) ∧ if (1000000000 : Int) < (Int.tdiv x4 (-x6)) then (Q none S σ τ) else ((0 ≤ x1 ∧ x1 < 64) ∧ Q none S σ (uc (uc τ 56 (u1 (τ 56) x1 (Int.tdiv x2 (-x6)))) 57 (u1 (τ 57) x1 (Int.tdiv x4 (-x6)))))))))) else ((rj x4) ∧ if (0 : Int) ≤ x4 then ((rj (-x6)) ∧ if (-x6) = 0 then (Q none S σ τ) else ((rj x2) ∧ ((-x6) ≠ 0) ∧ ((-x6) ≠ 0) ∧ (rj (Int.tdiv x2 (-x6))) ∧ if (1000000000 : Int) < (Int.tdiv x2 (-x6)) then (Q none S σ τ) else (if (Int.tdiv x2 (-x6)) < (-1000000000) then (Q none S σ τ) else ((rj (Int.tdiv x4 (-x6))) ∧ if (1000000000 : Int) < (Int.tdiv x4 (-x6)) then (Q none S σ τ) else ((0 ≤ x1 ∧ x1 < 64) ∧ Q none S σ (uc (uc τ 56 (u1 (τ 56) x1 (Int.tdiv x2 (-x6)))) 57 (u1 (τ 57) x1 (Int.tdiv x4 (-x6))))))))) else (if x6 = 0 then (Q none S σ τ) else ((rj x2) ∧ (x6 ≠ 0) ∧ (x6 ≠ 0) ∧ (rj (Int.tdiv x2 x6)) ∧ if (1000000000 : Int) < (Int.tdiv x2 x6) then (Q none S σ τ) else (if (Int.tdiv x2 x6) < (-1000000000) then (Q none S σ τ) else ((rj (Int.tdiv x4 x6)) ∧ if (1000000000 : Int) < (Int.tdiv x4 x6) then (Q none S σ τ) else ((0 ≤ x1 ∧ x1 < 64) ∧ Q none S σ (uc (uc τ 56 (u1 (τ 56) x1 (Int.tdiv x2 x6))) 57 (u1 (τ 57) x1 (Int.tdiv x4 x6)))))))))) else ((rj x6) ∧ (x8 ≠ 0) ∧ wi (d + 0) 24 32 [.ref 54, .int (wI x1), .long (wJ x2), .retAddr 0, .long (wJ x4), .retAddr 0, .long (wJ x8), .retAddr 0, .long (wJ (Int.tmod x6 x8)), .retAddr 0, .int (wI (x10 + 1)), .long (wJ (Int.tmod x6 x8)), .retAddr 0, y13] [] S σ τ Q))) : wi (d + 0) 24 32 [.ref 54, .int (wI x1), .long (wJ x2), .retAddr 0, .long (wJ x4), .retAddr 0, .long (wJ x6), .retAddr 0, .long (wJ x8), .retAddr 0, .int (wI x10), y11, y12, y13] [] S σ τ Q := by
  obtain ⟨r1, t⟩ := t
  refine i3 c_24_32 rfl (i1 c_24_34 ?_)
  refine i37 c_24_37 r1 (by decide) rfl (fun hc => ?_) (fun hc => ?_)
  · have t := iT t hc
    have ha2 : (200 : Int) ≤ x10 := hc
    obtain ⟨r3, t⟩ := t
    refine i4 c_24_68 rfl (i2 c_24_70 (i28 c_24_71 ?_))
    refine i36l c_24_72 r3 (by decide) rfl (fun hc => ?_) (fun hc => ?_)
    · have t := iT t hc
      have ha4 : (0 : Int) ≤ x6 := hc
      obtain ⟨r5, t⟩ := t
      refine i1 c_24_79 (i4 c_24_80 rfl (i2 c_24_82 (i28 c_24_83 ?_)))
      refine i36l c_24_84 r5 (by decide) rfl (fun hc => ?_) (fun hc => ?_)
      · have t := iT t hc
        have ha6 : (0 : Int) ≤ x4 := hc
        refine i1 c_24_91 (i37k (pc1 := 100) c_24_92 (by decide) (i4 c_24_100 rfl (i2 c_24_102 (i28 c_24_103 ?_))))
        refine i36l c_24_104 r3 (by decide) rfl (fun hc => ?_) (fun hc => ?_)
        · have t := iF t hc
          have ha7 : ¬ (x6 = 0) := hc
          obtain ⟨r8, t⟩ := t
          obtain ⟨y9, t⟩ := t
          obtain ⟨y10, t⟩ := t
          obtain ⟨r11, t⟩ := t
          refine i4 c_24_108 rfl (i4 c_24_109 rfl (i26 c_24_111 r8 r3 y9 (i7 (L' := [.ref 54, .int (wI x1), .long (wJ x2), .retAddr 0, .long (wJ x4), .retAddr 0, .long (wJ x6), .retAddr 0, .long (wJ x8), .retAddr 0, .long (wJ (Int.tdiv x2 x6)), .retAddr 0, y12, y13]) c_24_112 rfl (i4 c_24_114 rfl (i4 c_24_116 rfl (i26 c_24_118 r5 r3 y10 (i7 (L' := [.ref 54, .int (wI x1), .long (wJ x2), .retAddr 0, .long (wJ x4), .retAddr 0, .long (wJ x6), .retAddr 0, .long (wJ x8), .retAddr 0, .long (wJ (Int.tdiv x2 x6)), .retAddr 0, .long (wJ (Int.tdiv x4 x6)), .retAddr 0]) c_24_119 rfl (i4 c_24_121 rfl (i2 c_24_123 (i28 c_24_126 ?_))))))))))
          refine i36l c_24_127 r11 (by decide) rfl (fun hc => ?_) (fun hc => ?_)
          · have t := iT t hc
            have ha12 : (1000000000 : Int) < (Int.tdiv x2 x6) := hc
            exact i94 c_24_164 t
          · have t := iF t hc
            have ha12 : ¬ ((1000000000 : Int) < (Int.tdiv x2 x6)) := hc
            refine i4 c_24_130 rfl (i2 c_24_132 (i28 c_24_135 ?_))
            refine i36l c_24_136 r11 (by decide) rfl (fun hc => ?_) (fun hc => ?_)
            · have t := iT t hc
              have ha13 : (Int.tdiv x2 x6) < (-1000000000) := hc
              exact i94 c_24_164 t
            · have t := iF t hc
              have ha13 : ¬ ((Int.tdiv x2 x6) < (-1000000000)) := hc
              obtain ⟨r14, t⟩ := t
              refine i4 c_24_139 rfl (i2 c_24_141 (i28 c_24_144 ?_))
              refine i36l c_24_145 r14 (by decide) rfl (fun hc => ?_) (fun hc => ?_)
              · have t := iT t hc
                have ha15 : (1000000000 : Int) < (Int.tdiv x4 x6) := hc
                exact i94 c_24_164 t
              · have t := iF t hc
                have ha15 : ¬ ((1000000000 : Int) < (Int.tdiv x4 x6)) := hc
                obtain ⟨r16, t⟩ := t
                refine i5 c_24_148 rfl (i45 c_24_149 (lo (c := 54) (kd := 101) (n := 0) rfl (by decide)) (lro (c := 54) (k := 1) (j := 56) (by decide)) (i3 c_24_152 rfl (i4 c_24_153 rfl (i56 (τ1 := uc τ 56 (u1 (τ 56) x1 (Int.tdiv x2 x6))) c_24_155 (lo (c := 56) (kd := 1) (n := 64) rfl (by decide)) (by decide) r16 rfl r11 (wr_ rfl rfl) (i5 c_24_156 rfl (i45 c_24_157 (lo (c := 54) (kd := 101) (n := 0) rfl (by decide)) (lro (c := 54) (k := 2) (j := 57) (by decide)) (i3 c_24_160 rfl (i4 c_24_161 rfl (i56 (τ1 := uc (uc τ 56 (u1 (τ 56) x1 (Int.tdiv x2 x6))) 57 (u1 (τ 57) x1 (Int.tdiv x4 x6))) c_24_163 (lo (c := 57) (kd := 1) (n := 64) rfl (by decide)) (by decide) r16 rfl r14 (wr_ (uc_ns rfl (by decide)) rfl) ?_)))))))))
                exact i94 c_24_164 t
        · have t := iT t (Decidable.not_not.mp hc)
          have ha7 : x6 = 0 := Decidable.not_not.mp hc
          exact i94 c_24_107 t
      · have t := iF t hc
        have ha6 : ¬ ((0 : Int) ≤ x4) := hc
        obtain ⟨r17, t⟩ := t
        refine i1 c_24_87 (i38 c_24_88 rfl (i37k (pc1 := 95) c_24_92 (by decide) (i4 c_24_95 rfl (i29 c_24_97 (i7 (L' := [.ref 54, .int (wI x1), .long (wJ x2), .retAddr 0, .long (wJ x4), .retAddr 0, .long (wJ (-x6)), .retAddr 0, .long (wJ x8), .retAddr 0, .int (wI x10), y11, y12, y13]) c_24_98 rfl (i4 c_24_100 rfl (i2 c_24_102 (i28 c_24_103 ?_))))))))
        refine i36l c_24_104 r17 (by decide) rfl (fun hc => ?_) (fun hc => ?_)
        · have t := iF t hc
          have ha18 : ¬ ((-x6) = 0) := hc
          obtain ⟨r19, t⟩ := t
          obtain ⟨y20, t⟩ := t
          obtain ⟨y21, t⟩ := t
          obtain ⟨r22, t⟩ := t
          refine i4 c_24_108 rfl (i4 c_24_109 rfl (i26 c_24_111 r19 r17 y20 (i7 (L' := [.ref 54, .int (wI x1), .long (wJ x2), .retAddr 0, .long (wJ x4), .retAddr 0, .long (wJ (-x6)), .retAddr 0, .long (wJ x8), .retAddr 0, .long (wJ (Int.tdiv x2 (-x6))), .retAddr 0, y12, y13]) c_24_112 rfl (i4 c_24_114 rfl (i4 c_24_116 rfl (i26 c_24_118 r5 r17 y21 (i7 (L' := [.ref 54, .int (wI x1), .long (wJ x2), .retAddr 0, .long (wJ x4), .retAddr 0, .long (wJ (-x6)), .retAddr 0, .long (wJ x8), .retAddr 0, .long (wJ (Int.tdiv x2 (-x6))), .retAddr 0, .long (wJ (Int.tdiv x4 (-x6))), .retAddr 0]) c_24_119 rfl (i4 c_24_121 rfl (i2 c_24_123 (i28 c_24_126 ?_))))))))))
          refine i36l c_24_127 r22 (by decide) rfl (fun hc => ?_) (fun hc => ?_)
          · have t := iT t hc
            have ha23 : (1000000000 : Int) < (Int.tdiv x2 (-x6)) := hc
            exact i94 c_24_164 t
          · have t := iF t hc
            have ha23 : ¬ ((1000000000 : Int) < (Int.tdiv x2 (-x6))) := hc
            refine i4 c_24_130 rfl (i2 c_24_132 (i28 c_24_135 ?_))
            refine i36l c_24_136 r22 (by decide) rfl (fun hc => ?_) (fun hc => ?_)
            · have t := iT t hc
              have ha24 : (Int.tdiv x2 (-x6)) < (-1000000000) := hc
              exact i94 c_24_164 t
            · have t := iF t hc
              have ha24 : ¬ ((Int.tdiv x2 (-x6)) < (-1000000000)) := hc
              obtain ⟨r25, t⟩ := t
              refine i4 c_24_139 rfl (i2 c_24_141 (i28 c_24_144 ?_))
              refine i36l c_24_145 r25 (by decide) rfl (fun hc => ?_) (fun hc => ?_)
              · have t := iT t hc
                have ha26 : (1000000000 : Int) < (Int.tdiv x4 (-x6)) := hc
                exact i94 c_24_164 t
              · have t := iF t hc
                have ha26 : ¬ ((1000000000 : Int) < (Int.tdiv x4 (-x6))) := hc
                obtain ⟨r27, t⟩ := t
                refine i5 c_24_148 rfl (i45 c_24_149 (lo (c := 54) (kd := 101) (n := 0) rfl (by decide)) (lro (c := 54) (k := 1) (j := 56) (by decide)) (i3 c_24_152 rfl (i4 c_24_153 rfl (i56 (τ1 := uc τ 56 (u1 (τ 56) x1 (Int.tdiv x2 (-x6)))) c_24_155 (lo (c := 56) (kd := 1) (n := 64) rfl (by decide)) (by decide) r27 rfl r22 (wr_ rfl rfl) (i5 c_24_156 rfl (i45 c_24_157 (lo (c := 54) (kd := 101) (n := 0) rfl (by decide)) (lro (c := 54) (k := 2) (j := 57) (by decide)) (i3 c_24_160 rfl (i4 c_24_161 rfl (i56 (τ1 := uc (uc τ 56 (u1 (τ 56) x1 (Int.tdiv x2 (-x6)))) 57 (u1 (τ 57) x1 (Int.tdiv x4 (-x6)))) c_24_163 (lo (c := 57) (kd := 1) (n := 64) rfl (by decide)) (by decide) r27 rfl r25 (wr_ (uc_ns rfl (by decide)) rfl) ?_)))))))))
                exact i94 c_24_164 t
        · have t := iT t (Decidable.not_not.mp hc)
          have ha18 : (-x6) = 0 := Decidable.not_not.mp hc
          exact i94 c_24_107 t
    · have t := iF t hc
      have ha4 : ¬ ((0 : Int) ≤ x6) := hc
      obtain ⟨r28, t⟩ := t
      refine i1 c_24_75 (i38 c_24_76 rfl (i4 c_24_80 rfl (i2 c_24_82 (i28 c_24_83 ?_))))
      refine i36l c_24_84 r28 (by decide) rfl (fun hc => ?_) (fun hc => ?_)
      · have t := iT t hc
        have ha29 : (0 : Int) ≤ x4 := hc
        obtain ⟨r30, t⟩ := t
        refine i1 c_24_91 (i37k (pc1 := 95) c_24_92 (by decide) (i4 c_24_95 rfl (i29 c_24_97 (i7 (L' := [.ref 54, .int (wI x1), .long (wJ x2), .retAddr 0, .long (wJ x4), .retAddr 0, .long (wJ (-x6)), .retAddr 0, .long (wJ x8), .retAddr 0, .int (wI x10), y11, y12, y13]) c_24_98 rfl (i4 c_24_100 rfl (i2 c_24_102 (i28 c_24_103 ?_)))))))
        refine i36l c_24_104 r30 (by decide) rfl (fun hc => ?_) (fun hc => ?_)
        · have t := iF t hc
          have ha31 : ¬ ((-x6) = 0) := hc
          obtain ⟨r32, t⟩ := t
          obtain ⟨y33, t⟩ := t
          obtain ⟨y34, t⟩ := t
          obtain ⟨r35, t⟩ := t
          refine i4 c_24_108 rfl (i4 c_24_109 rfl (i26 c_24_111 r32 r30 y33 (i7 (L' := [.ref 54, .int (wI x1), .long (wJ x2), .retAddr 0, .long (wJ x4), .retAddr 0, .long (wJ (-x6)), .retAddr 0, .long (wJ x8), .retAddr 0, .long (wJ (Int.tdiv x2 (-x6))), .retAddr 0, y12, y13]) c_24_112 rfl (i4 c_24_114 rfl (i4 c_24_116 rfl (i26 c_24_118 r28 r30 y34 (i7 (L' := [.ref 54, .int (wI x1), .long (wJ x2), .retAddr 0, .long (wJ x4), .retAddr 0, .long (wJ (-x6)), .retAddr 0, .long (wJ x8), .retAddr 0, .long (wJ (Int.tdiv x2 (-x6))), .retAddr 0, .long (wJ (Int.tdiv x4 (-x6))), .retAddr 0]) c_24_119 rfl (i4 c_24_121 rfl (i2 c_24_123 (i28 c_24_126 ?_))))))))))
          refine i36l c_24_127 r35 (by decide) rfl (fun hc => ?_) (fun hc => ?_)
          · have t := iT t hc
            have ha36 : (1000000000 : Int) < (Int.tdiv x2 (-x6)) := hc
            exact i94 c_24_164 t
          · have t := iF t hc
            have ha36 : ¬ ((1000000000 : Int) < (Int.tdiv x2 (-x6))) := hc
            refine i4 c_24_130 rfl (i2 c_24_132 (i28 c_24_135 ?_))
            refine i36l c_24_136 r35 (by decide) rfl (fun hc => ?_) (fun hc => ?_)
            · have t := iT t hc
              have ha37 : (Int.tdiv x2 (-x6)) < (-1000000000) := hc
              exact i94 c_24_164 t
            · have t := iF t hc
              have ha37 : ¬ ((Int.tdiv x2 (-x6)) < (-1000000000)) := hc
              obtain ⟨r38, t⟩ := t
              refine i4 c_24_139 rfl (i2 c_24_141 (i28 c_24_144 ?_))
              refine i36l c_24_145 r38 (by decide) rfl (fun hc => ?_) (fun hc => ?_)
              · have t := iT t hc
                have ha39 : (1000000000 : Int) < (Int.tdiv x4 (-x6)) := hc
                exact i94 c_24_164 t
              · have t := iF t hc
                have ha39 : ¬ ((1000000000 : Int) < (Int.tdiv x4 (-x6))) := hc
                obtain ⟨r40, t⟩ := t
                refine i5 c_24_148 rfl (i45 c_24_149 (lo (c := 54) (kd := 101) (n := 0) rfl (by decide)) (lro (c := 54) (k := 1) (j := 56) (by decide)) (i3 c_24_152 rfl (i4 c_24_153 rfl (i56 (τ1 := uc τ 56 (u1 (τ 56) x1 (Int.tdiv x2 (-x6)))) c_24_155 (lo (c := 56) (kd := 1) (n := 64) rfl (by decide)) (by decide) r40 rfl r35 (wr_ rfl rfl) (i5 c_24_156 rfl (i45 c_24_157 (lo (c := 54) (kd := 101) (n := 0) rfl (by decide)) (lro (c := 54) (k := 2) (j := 57) (by decide)) (i3 c_24_160 rfl (i4 c_24_161 rfl (i56 (τ1 := uc (uc τ 56 (u1 (τ 56) x1 (Int.tdiv x2 (-x6)))) 57 (u1 (τ 57) x1 (Int.tdiv x4 (-x6)))) c_24_163 (lo (c := 57) (kd := 1) (n := 64) rfl (by decide)) (by decide) r40 rfl r38 (wr_ (uc_ns rfl (by decide)) rfl) ?_)))))))))
                exact i94 c_24_164 t
        · have t := iT t (Decidable.not_not.mp hc)
          have ha31 : (-x6) = 0 := Decidable.not_not.mp hc
          exact i94 c_24_107 t
      · have t := iF t hc
        have ha29 : ¬ ((0 : Int) ≤ x4) := hc
        refine i1 c_24_87 (i38 c_24_88 rfl (i37k (pc1 := 100) c_24_92 (by decide) (i4 c_24_100 rfl (i2 c_24_102 (i28 c_24_103 ?_)))))
        refine i36l c_24_104 r3 (by decide) rfl (fun hc => ?_) (fun hc => ?_)
        · have t := iF t hc
          have ha41 : ¬ (x6 = 0) := hc
          obtain ⟨r42, t⟩ := t
          obtain ⟨y43, t⟩ := t
          obtain ⟨y44, t⟩ := t
          obtain ⟨r45, t⟩ := t
          refine i4 c_24_108 rfl (i4 c_24_109 rfl (i26 c_24_111 r42 r3 y43 (i7 (L' := [.ref 54, .int (wI x1), .long (wJ x2), .retAddr 0, .long (wJ x4), .retAddr 0, .long (wJ x6), .retAddr 0, .long (wJ x8), .retAddr 0, .long (wJ (Int.tdiv x2 x6)), .retAddr 0, y12, y13]) c_24_112 rfl (i4 c_24_114 rfl (i4 c_24_116 rfl (i26 c_24_118 r28 r3 y44 (i7 (L' := [.ref 54, .int (wI x1), .long (wJ x2), .retAddr 0, .long (wJ x4), .retAddr 0, .long (wJ x6), .retAddr 0, .long (wJ x8), .retAddr 0, .long (wJ (Int.tdiv x2 x6)), .retAddr 0, .long (wJ (Int.tdiv x4 x6)), .retAddr 0]) c_24_119 rfl (i4 c_24_121 rfl (i2 c_24_123 (i28 c_24_126 ?_))))))))))
          refine i36l c_24_127 r45 (by decide) rfl (fun hc => ?_) (fun hc => ?_)
          · have t := iT t hc
            have ha46 : (1000000000 : Int) < (Int.tdiv x2 x6) := hc
            exact i94 c_24_164 t
          · have t := iF t hc
            have ha46 : ¬ ((1000000000 : Int) < (Int.tdiv x2 x6)) := hc
            refine i4 c_24_130 rfl (i2 c_24_132 (i28 c_24_135 ?_))
            refine i36l c_24_136 r45 (by decide) rfl (fun hc => ?_) (fun hc => ?_)
            · have t := iT t hc
              have ha47 : (Int.tdiv x2 x6) < (-1000000000) := hc
              exact i94 c_24_164 t
            · have t := iF t hc
              have ha47 : ¬ ((Int.tdiv x2 x6) < (-1000000000)) := hc
              obtain ⟨r48, t⟩ := t
              refine i4 c_24_139 rfl (i2 c_24_141 (i28 c_24_144 ?_))
              refine i36l c_24_145 r48 (by decide) rfl (fun hc => ?_) (fun hc => ?_)
              · have t := iT t hc
                have ha49 : (1000000000 : Int) < (Int.tdiv x4 x6) := hc
                exact i94 c_24_164 t
              · have t := iF t hc
                have ha49 : ¬ ((1000000000 : Int) < (Int.tdiv x4 x6)) := hc
                obtain ⟨r50, t⟩ := t
                refine i5 c_24_148 rfl (i45 c_24_149 (lo (c := 54) (kd := 101) (n := 0) rfl (by decide)) (lro (c := 54) (k := 1) (j := 56) (by decide)) (i3 c_24_152 rfl (i4 c_24_153 rfl (i56 (τ1 := uc τ 56 (u1 (τ 56) x1 (Int.tdiv x2 x6))) c_24_155 (lo (c := 56) (kd := 1) (n := 64) rfl (by decide)) (by decide) r50 rfl r45 (wr_ rfl rfl) (i5 c_24_156 rfl (i45 c_24_157 (lo (c := 54) (kd := 101) (n := 0) rfl (by decide)) (lro (c := 54) (k := 2) (j := 57) (by decide)) (i3 c_24_160 rfl (i4 c_24_161 rfl (i56 (τ1 := uc (uc τ 56 (u1 (τ 56) x1 (Int.tdiv x2 x6))) 57 (u1 (τ 57) x1 (Int.tdiv x4 x6))) c_24_163 (lo (c := 57) (kd := 1) (n := 64) rfl (by decide)) (by decide) r50 rfl r48 (wr_ (uc_ns rfl (by decide)) rfl) ?_)))))))))
                exact i94 c_24_164 t
        · have t := iT t (Decidable.not_not.mp hc)
          have ha41 : x6 = 0 := Decidable.not_not.mp hc
          exact i94 c_24_107 t
  · have t := iF t hc
    have ha2 : ¬ ((200 : Int) ≤ x10) := hc
    obtain ⟨r51, t⟩ := t
    refine i4 c_24_40 rfl (i2 c_24_42 (i28 c_24_43 ?_))
    refine i36l c_24_44 r51 (by decide) rfl (fun hc => ?_) (fun hc => ?_)
    · have t := iT t hc
      have ha52 : x8 = 0 := hc
      obtain ⟨r53, t⟩ := t
      refine i4 c_24_68 rfl (i2 c_24_70 (i28 c_24_71 ?_))
      refine i36l c_24_72 r53 (by decide) rfl (fun hc => ?_) (fun hc => ?_)
      · have t := iT t hc
        have ha54 : (0 : Int) ≤ x6 := hc
        obtain ⟨r55, t⟩ := t
        refine i1 c_24_79 (i4 c_24_80 rfl (i2 c_24_82 (i28 c_24_83 ?_)))
        refine i36l c_24_84 r55 (by decide) rfl (fun hc => ?_) (fun hc => ?_)
        · have t := iT t hc
          have ha56 : (0 : Int) ≤ x4 := hc
          refine i1 c_24_91 (i37k (pc1 := 100) c_24_92 (by decide) (i4 c_24_100 rfl (i2 c_24_102 (i28 c_24_103 ?_))))
          refine i36l c_24_104 r53 (by decide) rfl (fun hc => ?_) (fun hc => ?_)
          · have t := iF t hc
            have ha57 : ¬ (x6 = 0) := hc
            obtain ⟨r58, t⟩ := t
            obtain ⟨y59, t⟩ := t
            obtain ⟨y60, t⟩ := t
            obtain ⟨r61, t⟩ := t
            refine i4 c_24_108 rfl (i4 c_24_109 rfl (i26 c_24_111 r58 r53 y59 (i7 (L' := [.ref 54, .int (wI x1), .long (wJ x2), .retAddr 0, .long (wJ x4), .retAddr 0, .long (wJ x6), .retAddr 0, .long (wJ x8), .retAddr 0, .long (wJ (Int.tdiv x2 x6)), .retAddr 0, y12, y13]) c_24_112 rfl (i4 c_24_114 rfl (i4 c_24_116 rfl (i26 c_24_118 r55 r53 y60 (i7 (L' := [.ref 54, .int (wI x1), .long (wJ x2), .retAddr 0, .long (wJ x4), .retAddr 0, .long (wJ x6), .retAddr 0, .long (wJ x8), .retAddr 0, .long (wJ (Int.tdiv x2 x6)), .retAddr 0, .long (wJ (Int.tdiv x4 x6)), .retAddr 0]) c_24_119 rfl (i4 c_24_121 rfl (i2 c_24_123 (i28 c_24_126 ?_))))))))))
            refine i36l c_24_127 r61 (by decide) rfl (fun hc => ?_) (fun hc => ?_)
            · have t := iT t hc
              have ha62 : (1000000000 : Int) < (Int.tdiv x2 x6) := hc
              exact i94 c_24_164 t
            · have t := iF t hc
              have ha62 : ¬ ((1000000000 : Int) < (Int.tdiv x2 x6)) := hc
              refine i4 c_24_130 rfl (i2 c_24_132 (i28 c_24_135 ?_))
              refine i36l c_24_136 r61 (by decide) rfl (fun hc => ?_) (fun hc => ?_)
              · have t := iT t hc
                have ha63 : (Int.tdiv x2 x6) < (-1000000000) := hc
                exact i94 c_24_164 t
              · have t := iF t hc
                have ha63 : ¬ ((Int.tdiv x2 x6) < (-1000000000)) := hc
                obtain ⟨r64, t⟩ := t
                refine i4 c_24_139 rfl (i2 c_24_141 (i28 c_24_144 ?_))
                refine i36l c_24_145 r64 (by decide) rfl (fun hc => ?_) (fun hc => ?_)
                · have t := iT t hc
                  have ha65 : (1000000000 : Int) < (Int.tdiv x4 x6) := hc
                  exact i94 c_24_164 t
                · have t := iF t hc
                  have ha65 : ¬ ((1000000000 : Int) < (Int.tdiv x4 x6)) := hc
                  obtain ⟨r66, t⟩ := t
                  refine i5 c_24_148 rfl (i45 c_24_149 (lo (c := 54) (kd := 101) (n := 0) rfl (by decide)) (lro (c := 54) (k := 1) (j := 56) (by decide)) (i3 c_24_152 rfl (i4 c_24_153 rfl (i56 (τ1 := uc τ 56 (u1 (τ 56) x1 (Int.tdiv x2 x6))) c_24_155 (lo (c := 56) (kd := 1) (n := 64) rfl (by decide)) (by decide) r66 rfl r61 (wr_ rfl rfl) (i5 c_24_156 rfl (i45 c_24_157 (lo (c := 54) (kd := 101) (n := 0) rfl (by decide)) (lro (c := 54) (k := 2) (j := 57) (by decide)) (i3 c_24_160 rfl (i4 c_24_161 rfl (i56 (τ1 := uc (uc τ 56 (u1 (τ 56) x1 (Int.tdiv x2 x6))) 57 (u1 (τ 57) x1 (Int.tdiv x4 x6))) c_24_163 (lo (c := 57) (kd := 1) (n := 64) rfl (by decide)) (by decide) r66 rfl r64 (wr_ (uc_ns rfl (by decide)) rfl) ?_)))))))))
                  exact i94 c_24_164 t
          · have t := iT t (Decidable.not_not.mp hc)
            have ha57 : x6 = 0 := Decidable.not_not.mp hc
            exact i94 c_24_107 t
        · have t := iF t hc
          have ha56 : ¬ ((0 : Int) ≤ x4) := hc
          obtain ⟨r67, t⟩ := t
          refine i1 c_24_87 (i38 c_24_88 rfl (i37k (pc1 := 95) c_24_92 (by decide) (i4 c_24_95 rfl (i29 c_24_97 (i7 (L' := [.ref 54, .int (wI x1), .long (wJ x2), .retAddr 0, .long (wJ x4), .retAddr 0, .long (wJ (-x6)), .retAddr 0, .long (wJ x8), .retAddr 0, .int (wI x10), y11, y12, y13]) c_24_98 rfl (i4 c_24_100 rfl (i2 c_24_102 (i28 c_24_103 ?_))))))))
          refine i36l c_24_104 r67 (by decide) rfl (fun hc => ?_) (fun hc => ?_)
          · have t := iF t hc
            have ha68 : ¬ ((-x6) = 0) := hc
            obtain ⟨r69, t⟩ := t
            obtain ⟨y70, t⟩ := t
            obtain ⟨y71, t⟩ := t
            obtain ⟨r72, t⟩ := t
            refine i4 c_24_108 rfl (i4 c_24_109 rfl (i26 c_24_111 r69 r67 y70 (i7 (L' := [.ref 54, .int (wI x1), .long (wJ x2), .retAddr 0, .long (wJ x4), .retAddr 0, .long (wJ (-x6)), .retAddr 0, .long (wJ x8), .retAddr 0, .long (wJ (Int.tdiv x2 (-x6))), .retAddr 0, y12, y13]) c_24_112 rfl (i4 c_24_114 rfl (i4 c_24_116 rfl (i26 c_24_118 r55 r67 y71 (i7 (L' := [.ref 54, .int (wI x1), .long (wJ x2), .retAddr 0, .long (wJ x4), .retAddr 0, .long (wJ (-x6)), .retAddr 0, .long (wJ x8), .retAddr 0, .long (wJ (Int.tdiv x2 (-x6))), .retAddr 0, .long (wJ (Int.tdiv x4 (-x6))), .retAddr 0]) c_24_119 rfl (i4 c_24_121 rfl (i2 c_24_123 (i28 c_24_126 ?_))))))))))
            refine i36l c_24_127 r72 (by decide) rfl (fun hc => ?_) (fun hc => ?_)
            · have t := iT t hc
              have ha73 : (1000000000 : Int) < (Int.tdiv x2 (-x6)) := hc
              exact i94 c_24_164 t
            · have t := iF t hc
              have ha73 : ¬ ((1000000000 : Int) < (Int.tdiv x2 (-x6))) := hc
              refine i4 c_24_130 rfl (i2 c_24_132 (i28 c_24_135 ?_))
              refine i36l c_24_136 r72 (by decide) rfl (fun hc => ?_) (fun hc => ?_)
              · have t := iT t hc
                have ha74 : (Int.tdiv x2 (-x6)) < (-1000000000) := hc
                exact i94 c_24_164 t
              · have t := iF t hc
                have ha74 : ¬ ((Int.tdiv x2 (-x6)) < (-1000000000)) := hc
                obtain ⟨r75, t⟩ := t
                refine i4 c_24_139 rfl (i2 c_24_141 (i28 c_24_144 ?_))
                refine i36l c_24_145 r75 (by decide) rfl (fun hc => ?_) (fun hc => ?_)
                · have t := iT t hc
                  have ha76 : (1000000000 : Int) < (Int.tdiv x4 (-x6)) := hc
                  exact i94 c_24_164 t
                · have t := iF t hc
                  have ha76 : ¬ ((1000000000 : Int) < (Int.tdiv x4 (-x6))) := hc
                  obtain ⟨r77, t⟩ := t
                  refine i5 c_24_148 rfl (i45 c_24_149 (lo (c := 54) (kd := 101) (n := 0) rfl (by decide)) (lro (c := 54) (k := 1) (j := 56) (by decide)) (i3 c_24_152 rfl (i4 c_24_153 rfl (i56 (τ1 := uc τ 56 (u1 (τ 56) x1 (Int.tdiv x2 (-x6)))) c_24_155 (lo (c := 56) (kd := 1) (n := 64) rfl (by decide)) (by decide) r77 rfl r72 (wr_ rfl rfl) (i5 c_24_156 rfl (i45 c_24_157 (lo (c := 54) (kd := 101) (n := 0) rfl (by decide)) (lro (c := 54) (k := 2) (j := 57) (by decide)) (i3 c_24_160 rfl (i4 c_24_161 rfl (i56 (τ1 := uc (uc τ 56 (u1 (τ 56) x1 (Int.tdiv x2 (-x6)))) 57 (u1 (τ 57) x1 (Int.tdiv x4 (-x6)))) c_24_163 (lo (c := 57) (kd := 1) (n := 64) rfl (by decide)) (by decide) r77 rfl r75 (wr_ (uc_ns rfl (by decide)) rfl) ?_)))))))))
                  exact i94 c_24_164 t
          · have t := iT t (Decidable.not_not.mp hc)
            have ha68 : (-x6) = 0 := Decidable.not_not.mp hc
            exact i94 c_24_107 t
      · have t := iF t hc
        have ha54 : ¬ ((0 : Int) ≤ x6) := hc
        obtain ⟨r78, t⟩ := t
        refine i1 c_24_75 (i38 c_24_76 rfl (i4 c_24_80 rfl (i2 c_24_82 (i28 c_24_83 ?_))))
        refine i36l c_24_84 r78 (by decide) rfl (fun hc => ?_) (fun hc => ?_)
        · have t := iT t hc
          have ha79 : (0 : Int) ≤ x4 := hc
          obtain ⟨r80, t⟩ := t
          refine i1 c_24_91 (i37k (pc1 := 95) c_24_92 (by decide) (i4 c_24_95 rfl (i29 c_24_97 (i7 (L' := [.ref 54, .int (wI x1), .long (wJ x2), .retAddr 0, .long (wJ x4), .retAddr 0, .long (wJ (-x6)), .retAddr 0, .long (wJ x8), .retAddr 0, .int (wI x10), y11, y12, y13]) c_24_98 rfl (i4 c_24_100 rfl (i2 c_24_102 (i28 c_24_103 ?_)))))))
          refine i36l c_24_104 r80 (by decide) rfl (fun hc => ?_) (fun hc => ?_)
          · have t := iF t hc
            have ha81 : ¬ ((-x6) = 0) := hc
            obtain ⟨r82, t⟩ := t
            obtain ⟨y83, t⟩ := t
            obtain ⟨y84, t⟩ := t
            obtain ⟨r85, t⟩ := t
            refine i4 c_24_108 rfl (i4 c_24_109 rfl (i26 c_24_111 r82 r80 y83 (i7 (L' := [.ref 54, .int (wI x1), .long (wJ x2), .retAddr 0, .long (wJ x4), .retAddr 0, .long (wJ (-x6)), .retAddr 0, .long (wJ x8), .retAddr 0, .long (wJ (Int.tdiv x2 (-x6))), .retAddr 0, y12, y13]) c_24_112 rfl (i4 c_24_114 rfl (i4 c_24_116 rfl (i26 c_24_118 r78 r80 y84 (i7 (L' := [.ref 54, .int (wI x1), .long (wJ x2), .retAddr 0, .long (wJ x4), .retAddr 0, .long (wJ (-x6)), .retAddr 0, .long (wJ x8), .retAddr 0, .long (wJ (Int.tdiv x2 (-x6))), .retAddr 0, .long (wJ (Int.tdiv x4 (-x6))), .retAddr 0]) c_24_119 rfl (i4 c_24_121 rfl (i2 c_24_123 (i28 c_24_126 ?_))))))))))
            refine i36l c_24_127 r85 (by decide) rfl (fun hc => ?_) (fun hc => ?_)
            · have t := iT t hc
              have ha86 : (1000000000 : Int) < (Int.tdiv x2 (-x6)) := hc
              exact i94 c_24_164 t
            · have t := iF t hc
              have ha86 : ¬ ((1000000000 : Int) < (Int.tdiv x2 (-x6))) := hc
              refine i4 c_24_130 rfl (i2 c_24_132 (i28 c_24_135 ?_))
              refine i36l c_24_136 r85 (by decide) rfl (fun hc => ?_) (fun hc => ?_)
              · have t := iT t hc
                have ha87 : (Int.tdiv x2 (-x6)) < (-1000000000) := hc
                exact i94 c_24_164 t
              · have t := iF t hc
                have ha87 : ¬ ((Int.tdiv x2 (-x6)) < (-1000000000)) := hc
                obtain ⟨r88, t⟩ := t
                refine i4 c_24_139 rfl (i2 c_24_141 (i28 c_24_144 ?_))
                refine i36l c_24_145 r88 (by decide) rfl (fun hc => ?_) (fun hc => ?_)
                · have t := iT t hc
                  have ha89 : (1000000000 : Int) < (Int.tdiv x4 (-x6)) := hc
                  exact i94 c_24_164 t
                · have t := iF t hc
                  have ha89 : ¬ ((1000000000 : Int) < (Int.tdiv x4 (-x6))) := hc
                  obtain ⟨r90, t⟩ := t
                  refine i5 c_24_148 rfl (i45 c_24_149 (lo (c := 54) (kd := 101) (n := 0) rfl (by decide)) (lro (c := 54) (k := 1) (j := 56) (by decide)) (i3 c_24_152 rfl (i4 c_24_153 rfl (i56 (τ1 := uc τ 56 (u1 (τ 56) x1 (Int.tdiv x2 (-x6)))) c_24_155 (lo (c := 56) (kd := 1) (n := 64) rfl (by decide)) (by decide) r90 rfl r85 (wr_ rfl rfl) (i5 c_24_156 rfl (i45 c_24_157 (lo (c := 54) (kd := 101) (n := 0) rfl (by decide)) (lro (c := 54) (k := 2) (j := 57) (by decide)) (i3 c_24_160 rfl (i4 c_24_161 rfl (i56 (τ1 := uc (uc τ 56 (u1 (τ 56) x1 (Int.tdiv x2 (-x6)))) 57 (u1 (τ 57) x1 (Int.tdiv x4 (-x6)))) c_24_163 (lo (c := 57) (kd := 1) (n := 64) rfl (by decide)) (by decide) r90 rfl r88 (wr_ (uc_ns rfl (by decide)) rfl) ?_)))))))))
                  exact i94 c_24_164 t
          · have t := iT t (Decidable.not_not.mp hc)
            have ha81 : (-x6) = 0 := Decidable.not_not.mp hc
            exact i94 c_24_107 t
        · have t := iF t hc
          have ha79 : ¬ ((0 : Int) ≤ x4) := hc
          refine i1 c_24_87 (i38 c_24_88 rfl (i37k (pc1 := 100) c_24_92 (by decide) (i4 c_24_100 rfl (i2 c_24_102 (i28 c_24_103 ?_)))))
          refine i36l c_24_104 r53 (by decide) rfl (fun hc => ?_) (fun hc => ?_)
          · have t := iF t hc
            have ha91 : ¬ (x6 = 0) := hc
            obtain ⟨r92, t⟩ := t
            obtain ⟨y93, t⟩ := t
            obtain ⟨y94, t⟩ := t
            obtain ⟨r95, t⟩ := t
            refine i4 c_24_108 rfl (i4 c_24_109 rfl (i26 c_24_111 r92 r53 y93 (i7 (L' := [.ref 54, .int (wI x1), .long (wJ x2), .retAddr 0, .long (wJ x4), .retAddr 0, .long (wJ x6), .retAddr 0, .long (wJ x8), .retAddr 0, .long (wJ (Int.tdiv x2 x6)), .retAddr 0, y12, y13]) c_24_112 rfl (i4 c_24_114 rfl (i4 c_24_116 rfl (i26 c_24_118 r78 r53 y94 (i7 (L' := [.ref 54, .int (wI x1), .long (wJ x2), .retAddr 0, .long (wJ x4), .retAddr 0, .long (wJ x6), .retAddr 0, .long (wJ x8), .retAddr 0, .long (wJ (Int.tdiv x2 x6)), .retAddr 0, .long (wJ (Int.tdiv x4 x6)), .retAddr 0]) c_24_119 rfl (i4 c_24_121 rfl (i2 c_24_123 (i28 c_24_126 ?_))))))))))
            refine i36l c_24_127 r95 (by decide) rfl (fun hc => ?_) (fun hc => ?_)
            · have t := iT t hc
              have ha96 : (1000000000 : Int) < (Int.tdiv x2 x6) := hc
              exact i94 c_24_164 t
            · have t := iF t hc
              have ha96 : ¬ ((1000000000 : Int) < (Int.tdiv x2 x6)) := hc
              refine i4 c_24_130 rfl (i2 c_24_132 (i28 c_24_135 ?_))
              refine i36l c_24_136 r95 (by decide) rfl (fun hc => ?_) (fun hc => ?_)
              · have t := iT t hc
                have ha97 : (Int.tdiv x2 x6) < (-1000000000) := hc
                exact i94 c_24_164 t
              · have t := iF t hc
                have ha97 : ¬ ((Int.tdiv x2 x6) < (-1000000000)) := hc
                obtain ⟨r98, t⟩ := t
                refine i4 c_24_139 rfl (i2 c_24_141 (i28 c_24_144 ?_))
                refine i36l c_24_145 r98 (by decide) rfl (fun hc => ?_) (fun hc => ?_)
                · have t := iT t hc
                  have ha99 : (1000000000 : Int) < (Int.tdiv x4 x6) := hc
                  exact i94 c_24_164 t
                · have t := iF t hc
                  have ha99 : ¬ ((1000000000 : Int) < (Int.tdiv x4 x6)) := hc
                  obtain ⟨r100, t⟩ := t
                  refine i5 c_24_148 rfl (i45 c_24_149 (lo (c := 54) (kd := 101) (n := 0) rfl (by decide)) (lro (c := 54) (k := 1) (j := 56) (by decide)) (i3 c_24_152 rfl (i4 c_24_153 rfl (i56 (τ1 := uc τ 56 (u1 (τ 56) x1 (Int.tdiv x2 x6))) c_24_155 (lo (c := 56) (kd := 1) (n := 64) rfl (by decide)) (by decide) r100 rfl r95 (wr_ rfl rfl) (i5 c_24_156 rfl (i45 c_24_157 (lo (c := 54) (kd := 101) (n := 0) rfl (by decide)) (lro (c := 54) (k := 2) (j := 57) (by decide)) (i3 c_24_160 rfl (i4 c_24_161 rfl (i56 (τ1 := uc (uc τ 56 (u1 (τ 56) x1 (Int.tdiv x2 x6))) 57 (u1 (τ 57) x1 (Int.tdiv x4 x6))) c_24_163 (lo (c := 57) (kd := 1) (n := 64) rfl (by decide)) (by decide) r100 rfl r98 (wr_ (uc_ns rfl (by decide)) rfl) ?_)))))))))
                  exact i94 c_24_164 t
          · have t := iT t (Decidable.not_not.mp hc)
            have ha91 : x6 = 0 := Decidable.not_not.mp hc
            exact i94 c_24_107 t
    · have t := iF t hc
      have ha52 : ¬ (x8 = 0) := hc
      obtain ⟨r101, t⟩ := t
      obtain ⟨y102, t⟩ := t
      refine i4 c_24_47 rfl (i4 c_24_49 rfl (i27 c_24_51 r101 r51 y102 (i7 (L' := [.ref 54, .int (wI x1), .long (wJ x2), .retAddr 0, .long (wJ x4), .retAddr 0, .long (wJ x6), .retAddr 0, .long (wJ x8), .retAddr 0, .int (wI x10), .long (wJ (Int.tmod x6 x8)), .retAddr 0, y13]) c_24_52 rfl (i4 c_24_54 rfl (i7 (L' := [.ref 54, .int (wI x1), .long (wJ x2), .retAddr 0, .long (wJ x4), .retAddr 0, .long (wJ x8), .retAddr 0, .long (wJ x8), .retAddr 0, .int (wI x10), .long (wJ (Int.tmod x6 x8)), .retAddr 0, y13]) c_24_56 rfl (i4 c_24_58 rfl (i7 (L' := [.ref 54, .int (wI x1), .long (wJ x2), .retAddr 0, .long (wJ x4), .retAddr 0, .long (wJ x8), .retAddr 0, .long (wJ (Int.tmod x6 x8)), .retAddr 0, .int (wI x10), .long (wJ (Int.tmod x6 x8)), .retAddr 0, y13]) c_24_60 rfl (i9 (L' := [.ref 54, .int (wI x1), .long (wJ x2), .retAddr 0, .long (wJ x4), .retAddr 0, .long (wJ x8), .retAddr 0, .long (wJ (Int.tmod x6 x8)), .retAddr 0, .int (wI (x10 + 1)), .long (wJ (Int.tmod x6 x8)), .retAddr 0, y13]) c_24_62 rfl rfl (i38 c_24_65 rfl t)))))))))
theorem q_24 {d : Nat} {S : zS} {σ τ : zI} {Q : zQ} {at_ : Int} {over : Int} {under : Int} (p0 : (0 : Int) ≤ at_ ∧ at_ < (64 : Int)) (p1 : (-2000000000000000000 : Int) ≤ over ∧ over ≤ (2000000000000000000 : Int)) (p2 : (-2000000000000000000 : Int) ≤ under ∧ under ≤ (2000000000000000000 : Int)) (t : Q none S σ (uc (uc τ 56 (u1 (τ 56) at_ (red over under).1)) 57 (u1 (τ 57) at_ (red over under).2))) : wc (d + 0) 24 [.ref 54, .int (wI at_), .long (wJ over), .long (wJ under)] S σ τ Q := by
  refine wc_of mi_24 rfl (u_24_0 ⟨p0, by omega, ?_⟩)
  refine ifI (fun e => ?_) (fun e => ?_)
  · subst e; exact t
  have lost : red over under = (0, 0) → Q none S σ (uc (uc τ 56 (u1 (τ 56) at_ 0)) 57 (u1 (τ 57) at_ 0)) := fun h => by rw [h] at t; exact t
  have good : red over under = (over.tdiv (rd_D over under), under.tdiv (rd_D over under)) → Q none S σ (uc (uc (uc (uc τ 56 (u1 (τ 56) at_ 0)) 57 (u1 (τ 57) at_ 0)) 56 (u1 (u1 (τ 56) at_ 0) at_ (over.tdiv (rd_D over under)))) 57 (u1 (u1 (τ 57) at_ 0) at_ (under.tdiv (rd_D over under)))) := fun h => by
    rw [h] at t
    rw [uc4 (by decide), u1_u1, u1_u1]
    exact t
  clear t
  have bo := Int.natAbs_tdiv_le_natAbs over (rd_D over under)
  have bu := Int.natAbs_tdiv_le_natAbs under (rd_D over under)
  have d0 := rd_D_0 (x := over) e
  unfold red at lost good
  rw [if_neg e] at lost good
  have fin : ∀ D : Int, D.natAbs = Nat.gcd over.natAbs under.natAbs → ∀ i y y2 y3, (0 ≤ i ∧ i ≤ 200) → (wi (d + 0) 24 32 [.ref 54, .int (wI at_), .long (wJ over), .retAddr 0, .long (wJ under), .retAddr 0, .long (wJ D), .retAddr 0, .long (wJ 0), .retAddr 0, .int (wI i), y, y2, y3] [] S σ (uc (uc τ 56 (u1 (τ 56) at_ 0)) 57 (u1 (τ 57) at_ 0)) Q) := by
    intro D hD i y y2 y3 hi
    have gl : Nat.gcd over.natAbs under.natAbs ≤ under.natAbs := Nat.le_of_dvd (by omega) (Nat.gcd_dvd_right _ _)
    have gp : 0 < Nat.gcd over.natAbs under.natAbs := Nat.gcd_pos_of_pos_right _ (by omega)
    have main : ∀ E, E = rd_D over under → (if E = 0 then (Q none S σ (uc (uc τ 56 (u1 (τ 56) at_ 0)) 57 (u1 (τ 57) at_ 0))) else ((rj over) ∧ (E ≠ 0) ∧ (E ≠ 0) ∧ (rj (Int.tdiv over E)) ∧ if (1000000000 : Int) < (Int.tdiv over E) then (Q none S σ (uc (uc τ 56 (u1 (τ 56) at_ 0)) 57 (u1 (τ 57) at_ 0))) else (if (Int.tdiv over E) < (-1000000000) then (Q none S σ (uc (uc τ 56 (u1 (τ 56) at_ 0)) 57 (u1 (τ 57) at_ 0))) else ((rj (Int.tdiv under E)) ∧ if (1000000000 : Int) < (Int.tdiv under E) then (Q none S σ (uc (uc τ 56 (u1 (τ 56) at_ 0)) 57 (u1 (τ 57) at_ 0))) else ((0 ≤ at_ ∧ at_ < 64) ∧ Q none S σ (uc (uc (uc (uc τ 56 (u1 (τ 56) at_ 0)) 57 (u1 (τ 57) at_ 0)) 56 (u1 ((uc (uc τ 56 (u1 (τ 56) at_ 0)) 57 (u1 (τ 57) at_ 0)) 56) at_ (Int.tdiv over E))) 57 (u1 ((uc (uc τ 56 (u1 (τ 56) at_ 0)) 57 (u1 (τ 57) at_ 0)) 57) at_ (Int.tdiv under E)))))))) := by
      intro E hE
      subst hE
      generalize rd_D over under = E at *
      rw [if_neg d0]
      refine ⟨by omega, d0, d0, by omega, ?_⟩
      refine ifI (fun c => lost (by rw [if_pos (Or.inl c)])) (fun c => ?_)
      refine ifI (fun c2 => lost (by rw [if_pos (Or.inr (Or.inl c2))])) (fun c2 => ⟨by omega, ?_⟩)
      refine ifI (fun c3 => lost (by rw [if_pos (Or.inr (Or.inr c3))])) (fun c3 => ⟨p0, ?_⟩)
      rw [uc_s, uc_n (show (56 : Nat) ≠ 57 by decide), uc_s]
      exact good (by rw [if_neg (by omega)])
    refine u_24_32 ⟨by omega, ?_⟩
    refine ifI (fun _ => ?_) (fun _ => ⟨by omega, ?_⟩)
    rotate_left
    · rw [if_pos rfl]
      refine ⟨by omega, ?_⟩
      refine ifI (fun c => ⟨by omega, ?_⟩) (fun c => ⟨by omega, ?_⟩)
      · refine ifI (fun c2 => main D (rd_D_g e hD (by omega))) (fun c2 => ⟨by omega, main (-D) (rd_D_g e (by omega) (by omega))⟩)
      · refine ifI (fun c2 => ⟨by omega, main (-D) (rd_D_g e (by omega) (by omega))⟩) (fun c2 => main D (rd_D_g e hD (by omega)))
    · refine ⟨by omega, ?_⟩
      refine ifI (fun c => ⟨by omega, ?_⟩) (fun c => ⟨by omega, ?_⟩)
      · refine ifI (fun c2 => main D (rd_D_g e hD (by omega))) (fun c2 => ⟨by omega, main (-D) (rd_D_g e (by omega) (by omega))⟩)
      · refine ifI (fun c2 => ⟨by omega, main (-D) (rd_D_g e (by omega) (by omega))⟩) (fun c2 => main D (rd_D_g e hD (by omega)))
  have step : ∀ k : Nat, ∀ (D R i : Int) (y y2 y3 : Value), R.natAbs < 2 ^ k → D.natAbs ≤ 2000000000000000000 → R.natAbs ≤ 2000000000000000000 → Nat.gcd D.natAbs R.natAbs = Nat.gcd over.natAbs under.natAbs → 0 ≤ i → i + 2 * (k : Int) ≤ 200 → wi (d + 0) 24 32 [.ref 54, .int (wI at_), .long (wJ over), .retAddr 0, .long (wJ under), .retAddr 0, .long (wJ D), .retAddr 0, .long (wJ R), .retAddr 0, .int (wI i), y, y2, y3] [] S σ (uc (uc τ 56 (u1 (τ 56) at_ 0)) 57 (u1 (τ 57) at_ 0)) Q := by
    intro k
    induction k with
    | zero =>
      intro D R i y y2 y3 hR hD hR2 hg h0 hi
      have : R = 0 := by omega
      subst this
      rw [show (0 : Int).natAbs = 0 from rfl, Nat.gcd_zero_right] at hg
      exact fin D hg _ _ _ _ (by omega)
    | succ k ih =>
      intro D R i y y2 y3 hR hD hR2 hg h0 hi
      by_cases r0 : R = 0
      · subst r0
        rw [show (0 : Int).natAbs = 0 from rfl, Nat.gcd_zero_right] at hg
        exact fin D hg _ _ _ _ (by omega)
      refine u_24_32 ⟨by omega, ?_⟩
      rw [if_neg (by omega)]
      refine ⟨by omega, ?_⟩
      rw [if_neg r0]
      refine ⟨by omega, r0, ?_⟩
      have m1 := tm_ab D R
      have l1 := Nat.mod_lt D.natAbs (show R.natAbs > 0 by omega)
      have g1 : Nat.gcd R.natAbs (D.tmod R).natAbs = Nat.gcd over.natAbs under.natAbs := by
        rw [m1, Nat.gcd_comm R.natAbs, ← Nat.gcd_rec, Nat.gcd_comm]; exact hg
      generalize D.tmod R = R1 at *
      by_cases r1 : R1 = 0
      · subst r1
        rw [show (0 : Int).natAbs = 0 from rfl, Nat.gcd_zero_right] at g1
        exact fin R g1 _ _ _ _ (by omega)
      refine u_24_32 ⟨by omega, ?_⟩
      rw [if_neg (by omega)]
      refine ⟨by omega, ?_⟩
      rw [if_neg r1]
      refine ⟨by omega, r1, ?_⟩
      have m2 := tm_ab R R1
      have l2 := mod_half (m := R.natAbs) (n := R1.natAbs) (by omega) (by omega)
      have l3 := Nat.mod_lt R.natAbs (show R1.natAbs > 0 by omega)
      have g2 : Nat.gcd R1.natAbs (R.tmod R1).natAbs = Nat.gcd over.natAbs under.natAbs := by
        rw [m2, Nat.gcd_comm R1.natAbs, ← Nat.gcd_rec, Nat.gcd_comm]; exact g1
      have pw : 2 ^ (k + 1) = 2 * 2 ^ k := by rw [Nat.pow_succ]; omega
      generalize R.tmod R1 = R2 at *
      exact ih R1 R2 (i + 1 + 1) _ _ _ (by omega) (by omega) (by omega) g2 (by omega) (by omega)
  exact step 61 over under 0 _ _ _ (by omega) (by omega) (by omega) rfl (by omega) (by omega)
-- method 23: MillTown$Law.isSo(IJJ)Z
theorem c_23_0 : pg_cd 23 0 = (3, 1, 0, 0, 0) := by decide +kernel
theorem c_23_1 : pg_cd 23 1 = (42, 1, 35, 0, 0) := by decide +kernel
theorem c_23_36 : pg_cd 23 36 = (4, 1, 0, 1, 0) := by decide +kernel
theorem c_23_37 : pg_cd 23 37 = (4, 1, 0, 3, 0) := by decide +kernel
theorem c_23_38 : pg_cd 23 38 = (28, 1, 0, 0, 0) := by decide +kernel
theorem c_23_39 : pg_cd 23 39 = (36, 3, 0, 3, 7) := by decide +kernel
theorem c_23_42 : pg_cd 23 42 = (1, 1, 0, 0, 1) := by decide +kernel
theorem c_23_43 : pg_cd 23 43 = (38, 3, 0, 0, 4) := by decide +kernel
theorem c_23_46 : pg_cd 23 46 = (1, 1, 0, 0, 0) := by decide +kernel
theorem c_23_47 : pg_cd 23 47 = (91, 0, 0, 0, 0) := by decide +kernel
theorem c_23_48 : pg_cd 23 48 = (4, 1, 0, 1, 0) := by decide +kernel
theorem c_23_49 : pg_cd 23 49 = (4, 1, 0, 3, 0) := by decide +kernel
theorem c_23_50 : pg_cd 23 50 = (28, 1, 0, 0, 0) := by decide +kernel
theorem c_23_51 : pg_cd 23 51 = (36, 3, 0, 4, 7) := by decide +kernel
theorem c_23_54 : pg_cd 23 54 = (1, 1, 0, 0, 1) := by decide +kernel
theorem c_23_55 : pg_cd 23 55 = (38, 3, 0, 0, 4) := by decide +kernel
theorem c_23_58 : pg_cd 23 58 = (1, 1, 0, 0, 0) := by decide +kernel
theorem c_23_59 : pg_cd 23 59 = (91, 0, 0, 0, 0) := by decide +kernel
theorem c_23_60 : pg_cd 23 60 = (4, 1, 0, 1, 0) := by decide +kernel
theorem c_23_61 : pg_cd 23 61 = (4, 1, 0, 3, 0) := by decide +kernel
theorem c_23_62 : pg_cd 23 62 = (28, 1, 0, 0, 0) := by decide +kernel
theorem c_23_63 : pg_cd 23 63 = (36, 3, 0, 5, 7) := by decide +kernel
theorem c_23_66 : pg_cd 23 66 = (1, 1, 0, 0, 1) := by decide +kernel
theorem c_23_67 : pg_cd 23 67 = (38, 3, 0, 0, 4) := by decide +kernel
theorem c_23_70 : pg_cd 23 70 = (1, 1, 0, 0, 0) := by decide +kernel
theorem c_23_71 : pg_cd 23 71 = (91, 0, 0, 0, 0) := by decide +kernel
theorem c_23_72 : pg_cd 23 72 = (4, 1, 0, 1, 0) := by decide +kernel
theorem c_23_73 : pg_cd 23 73 = (4, 1, 0, 3, 0) := by decide +kernel
theorem c_23_74 : pg_cd 23 74 = (28, 1, 0, 0, 0) := by decide +kernel
theorem c_23_75 : pg_cd 23 75 = (36, 3, 0, 2, 7) := by decide +kernel
theorem c_23_78 : pg_cd 23 78 = (1, 1, 0, 0, 1) := by decide +kernel
theorem c_23_79 : pg_cd 23 79 = (38, 3, 0, 0, 4) := by decide +kernel
theorem c_23_82 : pg_cd 23 82 = (1, 1, 0, 0, 0) := by decide +kernel
theorem c_23_83 : pg_cd 23 83 = (91, 0, 0, 0, 0) := by decide +kernel
theorem c_23_84 : pg_cd 23 84 = (4, 1, 0, 1, 0) := by decide +kernel
theorem c_23_85 : pg_cd 23 85 = (4, 1, 0, 3, 0) := by decide +kernel
theorem c_23_86 : pg_cd 23 86 = (28, 1, 0, 0, 0) := by decide +kernel
theorem c_23_87 : pg_cd 23 87 = (36, 3, 0, 1, 7) := by decide +kernel
theorem c_23_90 : pg_cd 23 90 = (1, 1, 0, 0, 1) := by decide +kernel
theorem c_23_91 : pg_cd 23 91 = (38, 3, 0, 0, 4) := by decide +kernel
theorem c_23_94 : pg_cd 23 94 = (1, 1, 0, 0, 0) := by decide +kernel
theorem c_23_95 : pg_cd 23 95 = (91, 0, 0, 0, 0) := by decide +kernel
theorem c_23_96 : pg_cd 23 96 = (4, 1, 0, 1, 0) := by decide +kernel
theorem c_23_97 : pg_cd 23 97 = (4, 1, 0, 3, 0) := by decide +kernel
theorem c_23_98 : pg_cd 23 98 = (28, 1, 0, 0, 0) := by decide +kernel
theorem c_23_99 : pg_cd 23 99 = (36, 3, 0, 0, 7) := by decide +kernel
theorem c_23_102 : pg_cd 23 102 = (1, 1, 0, 0, 1) := by decide +kernel
theorem c_23_103 : pg_cd 23 103 = (38, 3, 0, 0, 4) := by decide +kernel
theorem c_23_106 : pg_cd 23 106 = (1, 1, 0, 0, 0) := by decide +kernel
theorem c_23_107 : pg_cd 23 107 = (91, 0, 0, 0, 0) := by decide +kernel
theorem mi_23 : pg_mc 23 = 1 ∧ pg_na 23 = 3 ∧ pg_mx 23 = 5 := by decide +kernel
theorem sw_1 : pg_sw 1 = (95, 23, 27, [35, 47, 59, 71, 83]) := by decide +kernel
set_option maxRecDepth 20000 in
theorem u_23_0 {d : Nat} {S : zS} {σ τ : zI} {Q : zQ} {x0 : Int} {x1 : Int} {x3 : Int} (t : (rg x0) ∧ if x0 = 23 then ((rj x1) ∧ (rj x3) ∧ if x3 ≤ x1 then (Q (some (.int (wI 0))) S σ τ) else (Q (some (.int (wI 1))) S σ τ)) else (if x0 = 24 then ((rj x1) ∧ (rj x3) ∧ if x3 < x1 then (Q (some (.int (wI 0))) S σ τ) else (Q (some (.int (wI 1))) S σ τ)) else (if x0 = 25 then ((rj x1) ∧ (rj x3) ∧ if x1 ≤ x3 then (Q (some (.int (wI 0))) S σ τ) else (Q (some (.int (wI 1))) S σ τ)) else (if x0 = 26 then ((rj x1) ∧ (rj x3) ∧ if x1 < x3 then (Q (some (.int (wI 0))) S σ τ) else (Q (some (.int (wI 1))) S σ τ)) else (if x0 = 27 then ((rj x1) ∧ (rj x3) ∧ if x1 = x3 then (Q (some (.int (wI 1))) S σ τ) else (Q (some (.int (wI 0))) S σ τ)) else ((rj x1) ∧ (rj x3) ∧ if x1 = x3 then (Q (some (.int (wI 0))) S σ τ) else (Q (some (.int (wI 1))) S σ τ))))))) : wi (d + 0) 23 0 [.int (wI x0), .long (wJ x1), .retAddr 0, .long (wJ x3), .retAddr 0] [] S σ τ Q := by
  obtain ⟨r1, t⟩ := t
  refine i3 c_23_0 rfl ?_
  by_cases e0 : x0 = 23
  · have t := iT t e0
    refine i42 (o := 35) c_23_1 sw_1 23 e0 (by decide) (by decide) rfl rfl ?_
    obtain ⟨r2, t⟩ := t
    obtain ⟨r3, t⟩ := t
    refine i4 c_23_36 rfl (i4 c_23_37 rfl (i28 c_23_38 ?_))
    refine i36l c_23_39 r2 r3 rfl (fun hc => ?_) (fun hc => ?_)
    · have t := iT t hc
      have ha4 : x3 ≤ x1 := hc
      refine i1 c_23_46 ?_
      exact i91 c_23_47 (by decide) t
    · have t := iF t hc
      have ha4 : ¬ (x3 ≤ x1) := hc
      refine i1 c_23_42 (i38 c_23_43 rfl ?_)
      exact i91 c_23_47 (by decide) t
  have t := iF t e0
  by_cases e1 : x0 = 24
  · have t := iT t e1
    refine i42 (o := 47) c_23_1 sw_1 24 e1 (by decide) (by decide) rfl rfl ?_
    obtain ⟨r5, t⟩ := t
    obtain ⟨r6, t⟩ := t
    refine i4 c_23_48 rfl (i4 c_23_49 rfl (i28 c_23_50 ?_))
    refine i36l c_23_51 r5 r6 rfl (fun hc => ?_) (fun hc => ?_)
    · have t := iT t hc
      have ha7 : x3 < x1 := hc
      refine i1 c_23_58 ?_
      exact i91 c_23_59 (by decide) t
    · have t := iF t hc
      have ha7 : ¬ (x3 < x1) := hc
      refine i1 c_23_54 (i38 c_23_55 rfl ?_)
      exact i91 c_23_59 (by decide) t
  have t := iF t e1
  by_cases e2 : x0 = 25
  · have t := iT t e2
    refine i42 (o := 59) c_23_1 sw_1 25 e2 (by decide) (by decide) rfl rfl ?_
    obtain ⟨r8, t⟩ := t
    obtain ⟨r9, t⟩ := t
    refine i4 c_23_60 rfl (i4 c_23_61 rfl (i28 c_23_62 ?_))
    refine i36l c_23_63 r8 r9 rfl (fun hc => ?_) (fun hc => ?_)
    · have t := iT t hc
      have ha10 : x1 ≤ x3 := hc
      refine i1 c_23_70 ?_
      exact i91 c_23_71 (by decide) t
    · have t := iF t hc
      have ha10 : ¬ (x1 ≤ x3) := hc
      refine i1 c_23_66 (i38 c_23_67 rfl ?_)
      exact i91 c_23_71 (by decide) t
  have t := iF t e2
  by_cases e3 : x0 = 26
  · have t := iT t e3
    refine i42 (o := 71) c_23_1 sw_1 26 e3 (by decide) (by decide) rfl rfl ?_
    obtain ⟨r11, t⟩ := t
    obtain ⟨r12, t⟩ := t
    refine i4 c_23_72 rfl (i4 c_23_73 rfl (i28 c_23_74 ?_))
    refine i36l c_23_75 r11 r12 rfl (fun hc => ?_) (fun hc => ?_)
    · have t := iT t hc
      have ha13 : x1 < x3 := hc
      refine i1 c_23_82 ?_
      exact i91 c_23_83 (by decide) t
    · have t := iF t hc
      have ha13 : ¬ (x1 < x3) := hc
      refine i1 c_23_78 (i38 c_23_79 rfl ?_)
      exact i91 c_23_83 (by decide) t
  have t := iF t e3
  by_cases e4 : x0 = 27
  · have t := iT t e4
    refine i42 (o := 83) c_23_1 sw_1 27 e4 (by decide) (by decide) rfl rfl ?_
    obtain ⟨r14, t⟩ := t
    obtain ⟨r15, t⟩ := t
    refine i4 c_23_84 rfl (i4 c_23_85 rfl (i28 c_23_86 ?_))
    refine i36l c_23_87 r14 r15 rfl (fun hc => ?_) (fun hc => ?_)
    · have t := iF t hc
      have ha16 : ¬ (x1 = x3) := hc
      refine i1 c_23_94 ?_
      exact i91 c_23_95 (by decide) t
    · have t := iT t (Decidable.not_not.mp hc)
      have ha16 : x1 = x3 := Decidable.not_not.mp hc
      refine i1 c_23_90 (i38 c_23_91 rfl ?_)
      exact i91 c_23_95 (by decide) t
  have t := iF t e4
  refine i42d c_23_1 sw_1 r1 (by omega) rfl ?_
  obtain ⟨r17, t⟩ := t
  obtain ⟨r18, t⟩ := t
  refine i4 c_23_96 rfl (i4 c_23_97 rfl (i28 c_23_98 ?_))
  refine i36l c_23_99 r17 r18 rfl (fun hc => ?_) (fun hc => ?_)
  · have t := iT t hc
    have ha19 : x1 = x3 := hc
    refine i1 c_23_106 ?_
    exact i91 c_23_107 (by decide) t
  · have t := iF t hc
    have ha19 : ¬ (x1 = x3) := hc
    refine i1 c_23_102 (i38 c_23_103 rfl ?_)
    exact i91 c_23_107 (by decide) t
theorem q_23 {d : Nat} {S : zS} {σ τ : zI} {Q : zQ} {o : Int} {x : Int} {y : Int} (p0 : (23 : Int) ≤ o ∧ o ≤ (28 : Int)) (p1 : rj x) (p2 : rj y) (t : Q (some (.int (wI (if (o = 23 ∧ x < y) ∨ (o = 24 ∧ x ≤ y) ∨ (o = 25 ∧ y < x) ∨ (o = 26 ∧ y ≤ x) ∨ (o = 27 ∧ x = y) ∨ (o = 28 ∧ x ≠ y) then 1 else 0)))) S σ τ) : wc (d + 0) 23 [.int (wI o), .long (wJ x), .long (wJ y)] S σ τ Q := by
  refine wc_of mi_23 rfl (u_23_0 ⟨by omega, ?_⟩)
  repeat' (first | (first | (rw [if_pos (by omega)] at t; exact t) | (rw [if_neg (by omega)] at t; exact t)) | refine ⟨p1, p2, ?_⟩ | refine ifI (fun _ => ?_) (fun _ => ?_))
/-- a FRACTION as the class keeps it -/
abbrev frN (u l : Int) : Prop := (l = 0 ∧ u = 0) ∨ ((0 < l ∧ l ≤ 1000000000) ∧ -1000000000 ≤ u ∧ u ≤ 1000000000)
theorem red_1 {x : Int} (h : -1000000000 ≤ x ∧ x ≤ 1000000000) : red x 1 = (x, 1) := by
  have g : rd_D x 1 = 1 := by
    unfold rd_D
    rw [if_neg (by decide), show (1 : Int).natAbs = 1 from rfl, Nat.gcd_one_right]
    rfl
  unfold red
  rw [if_neg (by decide), g, Int.tdiv_one, Int.tdiv_one, if_neg (by omega)]
theorem red_n (x y : Int) : frN (red x y).1 (red x y).2 := by
  have := red_b x y
  omega
theorem fr2_n (o p q r s : Int) : frN (fr2 o p q r s).1 (fr2 o p q r s).2 := by
  have := fr2_b o p q r s
  omega
/-- what join does for the reference's step o -/
def jn (o p q r s : Int) : Int × Int := if o ≤ 8 then fr2 o p q r s else if o ≤ 15 then (b1_ (cm2 o p q r s), 1) else if o = 21 then (p * r, 1) else (max p r, 1)
theorem stE_j {O V : Int} (h : 3 ≤ O ∧ O ≤ 8 ∨ 10 ≤ O ∧ O ≤ 15 ∨ O = 21 ∨ O = 22) : ∃ K, stE O V = K * 10000 + 0 ∧ stE O 0 = K * 10000 ∧ K ≠ 2 ∧ K ≠ 37 ∧ K ≠ 16 ∧ (K < 17 ∨ 20 < K) ∧ 0 ≤ K ∧ K ≤ 100 := by
  unfold stE
  repeat rw [if_neg (by omega)]
  repeat rw [if_neg (by omega)]
  repeat' split
  all_goals first | exact ⟨29, by omega⟩ | exact ⟨30, by omega⟩ | exact ⟨31, by omega⟩ | exact ⟨32, by omega⟩ | exact ⟨21, by omega⟩ | exact ⟨22, by omega⟩ | exact ⟨13 + O, by omega⟩ | exact ⟨15, by omega⟩ | exact ⟨14, by omega⟩ | omega
theorem stE_c {O : Int} (h : 10 ≤ O ∧ O ≤ 15) : stE O 0 = (13 + O) * 10000 := by
  unfold stE
  repeat rw [if_neg (by omega)]
  rw [if_pos (by omega)]
section JN
variable {p q r s : Int}
theorem qs_0 (hq : frN p q) (hs : frN r s) : q * s = 0 ↔ q = 0 ∨ s = 0 := Int.mul_eq_zero
theorem jn_3 (hq : frN p q) (hs : frN r s) : red (p * s + r * q) (q * s) = fr2 3 p q r s := by
  unfold fr2
  by_cases h : q = 0 ∨ s = 0
  · rw [if_pos h, (qs_0 hq hs).mpr h]; rfl
  · rw [if_neg h, if_pos rfl]
theorem jn_4 (hq : frN p q) (hs : frN r s) : red (p * s - r * q) (q * s) = fr2 4 p q r s := by
  unfold fr2
  by_cases h : q = 0 ∨ s = 0
  · rw [if_pos h, (qs_0 hq hs).mpr h]; rfl
  · rw [if_neg h, if_neg (by decide), if_pos rfl]
theorem jn_5 (hq : frN p q) (hs : frN r s) : red (p * r) (q * s) = fr2 5 p q r s := by
  unfold fr2
  by_cases h : q = 0 ∨ s = 0
  · rw [if_pos h, (qs_0 hq hs).mpr h]; rfl
  · rw [if_neg h, if_neg (by decide), if_neg (by decide), if_pos rfl]
theorem jn_6 (h : ¬ (q = 0 ∨ s = 0)) : red (p * s) (r * q) = fr2 6 p q r s := by
  unfold fr2
  rw [if_neg h, if_neg (by decide), if_neg (by decide), if_neg (by decide), if_pos rfl, Int.mul_comm r q]
theorem jn_60 (h : q = 0 ∨ s = 0) : red (p * s) 0 = fr2 6 p q r s := by
  unfold fr2
  rw [if_pos h]; rfl
theorem jn_7 (hq : frN p q) (hs : frN r s) : red (min (p * s) (r * q)) (q * s) = fr2 7 p q r s := by
  unfold fr2
  by_cases h : q = 0 ∨ s = 0
  · rw [if_pos h, (qs_0 hq hs).mpr h]; rfl
  · rw [if_neg h, if_neg (by decide), if_neg (by decide), if_neg (by decide), if_neg (by decide), if_pos rfl]
    split
    · next c => rw [Int.min_eq_left (by omega)]; exact red_mul (by omega)
    · next c => rw [Int.min_eq_right (by omega), Int.mul_comm q s]; exact red_mul (by omega)
theorem jn_8 (hq : frN p q) (hs : frN r s) : red (max (p * s) (r * q)) (q * s) = fr2 8 p q r s := by
  unfold fr2
  by_cases h : q = 0 ∨ s = 0
  · rw [if_pos h, (qs_0 hq hs).mpr h]; rfl
  · rw [if_neg h, if_neg (by decide), if_neg (by decide), if_neg (by decide), if_neg (by decide), if_neg (by decide)]
    split
    · next c => rw [Int.max_eq_right (by omega), Int.mul_comm q s]; exact red_mul (by omega)
    · next c => rw [Int.max_eq_left (by omega)]; exact red_mul (by omega)
end JN
-- method 22: MillTown$Law.join(II)V
theorem c_22_0 : pg_cd 22 0 = (3, 1, 0, 2, 0) := by decide +kernel
theorem c_22_1 : pg_cd 22 1 = (36, 3, 0, 2, 11) := by decide +kernel
theorem c_22_4 : pg_cd 22 4 = (3, 1, 0, 2, 0) := by decide +kernel
theorem c_22_5 : pg_cd 22 5 = (1, 1, 0, 0, 1) := by decide +kernel
theorem c_22_6 : pg_cd 22 6 = (10, 1, 0, 0, 0) := by decide +kernel
theorem c_22_7 : pg_cd 22 7 = (1, 2, 0, 0, 64) := by decide +kernel
theorem c_22_9 : pg_cd 22 9 = (37, 3, 0, 2, 4) := by decide +kernel
theorem c_22_12 : pg_cd 22 12 = (94, 0, 0, 0, 0) := by decide +kernel
theorem c_22_13 : pg_cd 22 13 = (5, 1, 0, 0, 0) := by decide +kernel
theorem c_22_14 : pg_cd 22 14 = (45, 1, 17, 1, 0) := by decide +kernel
theorem c_22_17 : pg_cd 22 17 = (3, 1, 0, 2, 0) := by decide +kernel
theorem c_22_18 : pg_cd 22 18 = (52, 1, 0, 0, 0) := by decide +kernel
theorem c_22_19 : pg_cd 22 19 = (5, 1, 0, 0, 0) := by decide +kernel
theorem c_22_20 : pg_cd 22 20 = (45, 1, 21, 2, 0) := by decide +kernel
theorem c_22_23 : pg_cd 22 23 = (3, 1, 0, 2, 0) := by decide +kernel
theorem c_22_24 : pg_cd 22 24 = (1, 1, 0, 0, 1) := by decide +kernel
theorem c_22_25 : pg_cd 22 25 = (10, 1, 0, 0, 0) := by decide +kernel
theorem c_22_26 : pg_cd 22 26 = (52, 1, 0, 0, 0) := by decide +kernel
theorem c_22_27 : pg_cd 22 27 = (24, 1, 0, 0, 0) := by decide +kernel
theorem c_22_28 : pg_cd 22 28 = (7, 1, 0, 3, 0) := by decide +kernel
theorem c_22_29 : pg_cd 22 29 = (5, 1, 0, 0, 0) := by decide +kernel
theorem c_22_30 : pg_cd 22 30 = (45, 1, 17, 1, 0) := by decide +kernel
theorem c_22_33 : pg_cd 22 33 = (3, 1, 0, 2, 0) := by decide +kernel
theorem c_22_34 : pg_cd 22 34 = (1, 1, 0, 0, 1) := by decide +kernel
theorem c_22_35 : pg_cd 22 35 = (10, 1, 0, 0, 0) := by decide +kernel
theorem c_22_36 : pg_cd 22 36 = (52, 1, 0, 0, 0) := by decide +kernel
theorem c_22_37 : pg_cd 22 37 = (5, 1, 0, 0, 0) := by decide +kernel
theorem c_22_38 : pg_cd 22 38 = (45, 1, 21, 2, 0) := by decide +kernel
theorem c_22_41 : pg_cd 22 41 = (3, 1, 0, 2, 0) := by decide +kernel
theorem c_22_42 : pg_cd 22 42 = (52, 1, 0, 0, 0) := by decide +kernel
theorem c_22_43 : pg_cd 22 43 = (24, 1, 0, 0, 0) := by decide +kernel
theorem c_22_44 : pg_cd 22 44 = (7, 2, 0, 5, 0) := by decide +kernel
theorem c_22_46 : pg_cd 22 46 = (5, 1, 0, 0, 0) := by decide +kernel
theorem c_22_47 : pg_cd 22 47 = (45, 1, 21, 2, 0) := by decide +kernel
theorem c_22_50 : pg_cd 22 50 = (3, 1, 0, 2, 0) := by decide +kernel
theorem c_22_51 : pg_cd 22 51 = (52, 1, 0, 0, 0) := by decide +kernel
theorem c_22_52 : pg_cd 22 52 = (5, 1, 0, 0, 0) := by decide +kernel
theorem c_22_53 : pg_cd 22 53 = (45, 1, 21, 2, 0) := by decide +kernel
theorem c_22_56 : pg_cd 22 56 = (3, 1, 0, 2, 0) := by decide +kernel
theorem c_22_57 : pg_cd 22 57 = (1, 1, 0, 0, 1) := by decide +kernel
theorem c_22_58 : pg_cd 22 58 = (10, 1, 0, 0, 0) := by decide +kernel
theorem c_22_59 : pg_cd 22 59 = (52, 1, 0, 0, 0) := by decide +kernel
theorem c_22_60 : pg_cd 22 60 = (24, 1, 0, 0, 0) := by decide +kernel
theorem c_22_61 : pg_cd 22 61 = (7, 2, 0, 7, 0) := by decide +kernel
theorem c_22_63 : pg_cd 22 63 = (4, 2, 0, 7, 0) := by decide +kernel
theorem c_22_65 : pg_cd 22 65 = (2, 1, 0, 0, 0) := by decide +kernel
theorem c_22_66 : pg_cd 22 66 = (28, 1, 0, 0, 0) := by decide +kernel
theorem c_22_67 : pg_cd 22 67 = (36, 3, 0, 0, 7) := by decide +kernel
theorem c_22_70 : pg_cd 22 70 = (1, 1, 0, 0, 1) := by decide +kernel
theorem c_22_71 : pg_cd 22 71 = (38, 3, 0, 0, 4) := by decide +kernel
theorem c_22_74 : pg_cd 22 74 = (1, 1, 0, 0, 0) := by decide +kernel
theorem c_22_75 : pg_cd 22 75 = (6, 2, 0, 9, 0) := by decide +kernel
theorem c_22_77 : pg_cd 22 77 = (3, 1, 0, 1, 0) := by decide +kernel
theorem c_22_78 : pg_cd 22 78 = (42, 0, 90, 0, 0) := by decide +kernel
theorem c_22_168 : pg_cd 22 168 = (5, 1, 0, 0, 0) := by decide +kernel
theorem c_22_169 : pg_cd 22 169 = (3, 1, 0, 2, 0) := by decide +kernel
theorem c_22_170 : pg_cd 22 170 = (4, 1, 0, 3, 0) := by decide +kernel
theorem c_22_171 : pg_cd 22 171 = (4, 2, 0, 5, 0) := by decide +kernel
theorem c_22_173 : pg_cd 22 173 = (22, 1, 0, 0, 0) := by decide +kernel
theorem c_22_174 : pg_cd 22 174 = (4, 2, 0, 7, 0) := by decide +kernel
theorem c_22_176 : pg_cd 22 176 = (80, 24, 112, 0, 0) := by decide +kernel
theorem c_22_179 : pg_cd 22 179 = (38, 3, 0, 0, 170) := by decide +kernel
theorem c_22_182 : pg_cd 22 182 = (5, 1, 0, 0, 0) := by decide +kernel
theorem c_22_183 : pg_cd 22 183 = (3, 1, 0, 2, 0) := by decide +kernel
theorem c_22_184 : pg_cd 22 184 = (4, 1, 0, 3, 0) := by decide +kernel
theorem c_22_185 : pg_cd 22 185 = (4, 2, 0, 5, 0) := by decide +kernel
theorem c_22_187 : pg_cd 22 187 = (23, 1, 0, 0, 0) := by decide +kernel
theorem c_22_188 : pg_cd 22 188 = (4, 2, 0, 7, 0) := by decide +kernel
theorem c_22_190 : pg_cd 22 190 = (80, 24, 112, 0, 0) := by decide +kernel
theorem c_22_193 : pg_cd 22 193 = (38, 3, 0, 0, 156) := by decide +kernel
theorem c_22_196 : pg_cd 22 196 = (5, 1, 0, 0, 0) := by decide +kernel
theorem c_22_197 : pg_cd 22 197 = (3, 1, 0, 2, 0) := by decide +kernel
theorem c_22_198 : pg_cd 22 198 = (5, 1, 0, 0, 0) := by decide +kernel
theorem c_22_199 : pg_cd 22 199 = (45, 1, 17, 1, 0) := by decide +kernel
theorem c_22_202 : pg_cd 22 202 = (3, 1, 0, 2, 0) := by decide +kernel
theorem c_22_203 : pg_cd 22 203 = (52, 1, 0, 0, 0) := by decide +kernel
theorem c_22_204 : pg_cd 22 204 = (5, 1, 0, 0, 0) := by decide +kernel
theorem c_22_205 : pg_cd 22 205 = (45, 1, 17, 1, 0) := by decide +kernel
theorem c_22_208 : pg_cd 22 208 = (3, 1, 0, 2, 0) := by decide +kernel
theorem c_22_209 : pg_cd 22 209 = (1, 1, 0, 0, 1) := by decide +kernel
theorem c_22_210 : pg_cd 22 210 = (10, 1, 0, 0, 0) := by decide +kernel
theorem c_22_211 : pg_cd 22 211 = (52, 1, 0, 0, 0) := by decide +kernel
theorem c_22_212 : pg_cd 22 212 = (24, 1, 0, 0, 0) := by decide +kernel
theorem c_22_213 : pg_cd 22 213 = (4, 2, 0, 7, 0) := by decide +kernel
theorem c_22_215 : pg_cd 22 215 = (80, 24, 112, 0, 0) := by decide +kernel
theorem c_22_218 : pg_cd 22 218 = (38, 3, 0, 0, 131) := by decide +kernel
theorem c_22_221 : pg_cd 22 221 = (5, 1, 0, 0, 0) := by decide +kernel
theorem c_22_222 : pg_cd 22 222 = (3, 1, 0, 2, 0) := by decide +kernel
theorem c_22_223 : pg_cd 22 223 = (4, 1, 0, 3, 0) := by decide +kernel
theorem c_22_224 : pg_cd 22 224 = (3, 2, 0, 9, 0) := by decide +kernel
theorem c_22_226 : pg_cd 22 226 = (36, 3, 0, 0, 8) := by decide +kernel
theorem c_22_229 : pg_cd 22 229 = (4, 2, 0, 5, 0) := by decide +kernel
theorem c_22_231 : pg_cd 22 231 = (38, 3, 0, 0, 4) := by decide +kernel
theorem c_22_234 : pg_cd 22 234 = (2, 1, 0, 0, 0) := by decide +kernel
theorem c_22_235 : pg_cd 22 235 = (80, 24, 112, 0, 0) := by decide +kernel
theorem c_22_238 : pg_cd 22 238 = (38, 3, 0, 0, 111) := by decide +kernel
theorem c_22_241 : pg_cd 22 241 = (5, 1, 0, 0, 0) := by decide +kernel
theorem c_22_242 : pg_cd 22 242 = (3, 1, 0, 2, 0) := by decide +kernel
theorem c_22_243 : pg_cd 22 243 = (4, 1, 0, 3, 0) := by decide +kernel
theorem c_22_244 : pg_cd 22 244 = (4, 2, 0, 5, 0) := by decide +kernel
theorem c_22_246 : pg_cd 22 246 = (77, 0, 94, 0, 0) := by decide +kernel
theorem c_22_249 : pg_cd 22 249 = (4, 2, 0, 7, 0) := by decide +kernel
theorem c_22_251 : pg_cd 22 251 = (80, 24, 112, 0, 0) := by decide +kernel
theorem c_22_254 : pg_cd 22 254 = (38, 3, 0, 0, 95) := by decide +kernel
theorem c_22_257 : pg_cd 22 257 = (5, 1, 0, 0, 0) := by decide +kernel
theorem c_22_258 : pg_cd 22 258 = (3, 1, 0, 2, 0) := by decide +kernel
theorem c_22_259 : pg_cd 22 259 = (4, 1, 0, 3, 0) := by decide +kernel
theorem c_22_260 : pg_cd 22 260 = (4, 2, 0, 5, 0) := by decide +kernel
theorem c_22_262 : pg_cd 22 262 = (76, 0, 89, 0, 0) := by decide +kernel
theorem c_22_265 : pg_cd 22 265 = (4, 2, 0, 7, 0) := by decide +kernel
theorem c_22_267 : pg_cd 22 267 = (80, 24, 112, 0, 0) := by decide +kernel
theorem c_22_270 : pg_cd 22 270 = (38, 3, 0, 0, 79) := by decide +kernel
theorem c_22_273 : pg_cd 22 273 = (5, 1, 0, 0, 0) := by decide +kernel
theorem c_22_274 : pg_cd 22 274 = (3, 1, 0, 2, 0) := by decide +kernel
theorem c_22_275 : pg_cd 22 275 = (5, 1, 0, 0, 0) := by decide +kernel
theorem c_22_276 : pg_cd 22 276 = (45, 1, 17, 1, 0) := by decide +kernel
theorem c_22_279 : pg_cd 22 279 = (3, 1, 0, 2, 0) := by decide +kernel
theorem c_22_280 : pg_cd 22 280 = (52, 1, 0, 0, 0) := by decide +kernel
theorem c_22_281 : pg_cd 22 281 = (5, 1, 0, 0, 0) := by decide +kernel
theorem c_22_282 : pg_cd 22 282 = (45, 1, 17, 1, 0) := by decide +kernel
theorem c_22_285 : pg_cd 22 285 = (3, 1, 0, 2, 0) := by decide +kernel
theorem c_22_286 : pg_cd 22 286 = (1, 1, 0, 0, 1) := by decide +kernel
theorem c_22_287 : pg_cd 22 287 = (10, 1, 0, 0, 0) := by decide +kernel
theorem c_22_288 : pg_cd 22 288 = (52, 1, 0, 0, 0) := by decide +kernel
theorem c_22_289 : pg_cd 22 289 = (24, 1, 0, 0, 0) := by decide +kernel
theorem c_22_290 : pg_cd 22 290 = (2, 1, 0, 0, 1) := by decide +kernel
theorem c_22_291 : pg_cd 22 291 = (80, 24, 112, 0, 0) := by decide +kernel
theorem c_22_294 : pg_cd 22 294 = (38, 3, 0, 0, 55) := by decide +kernel
theorem c_22_297 : pg_cd 22 297 = (5, 1, 0, 0, 0) := by decide +kernel
theorem c_22_298 : pg_cd 22 298 = (3, 1, 0, 2, 0) := by decide +kernel
theorem c_22_299 : pg_cd 22 299 = (5, 1, 0, 0, 0) := by decide +kernel
theorem c_22_300 : pg_cd 22 300 = (45, 1, 17, 1, 0) := by decide +kernel
theorem c_22_303 : pg_cd 22 303 = (3, 1, 0, 2, 0) := by decide +kernel
theorem c_22_304 : pg_cd 22 304 = (52, 1, 0, 0, 0) := by decide +kernel
theorem c_22_305 : pg_cd 22 305 = (5, 1, 0, 0, 0) := by decide +kernel
theorem c_22_306 : pg_cd 22 306 = (45, 1, 17, 1, 0) := by decide +kernel
theorem c_22_309 : pg_cd 22 309 = (3, 1, 0, 2, 0) := by decide +kernel
theorem c_22_310 : pg_cd 22 310 = (1, 1, 0, 0, 1) := by decide +kernel
theorem c_22_311 : pg_cd 22 311 = (10, 1, 0, 0, 0) := by decide +kernel
theorem c_22_312 : pg_cd 22 312 = (52, 1, 0, 0, 0) := by decide +kernel
theorem c_22_313 : pg_cd 22 313 = (76, 0, 89, 0, 0) := by decide +kernel
theorem c_22_316 : pg_cd 22 316 = (2, 1, 0, 0, 1) := by decide +kernel
theorem c_22_317 : pg_cd 22 317 = (80, 24, 112, 0, 0) := by decide +kernel
theorem c_22_320 : pg_cd 22 320 = (38, 3, 0, 0, 29) := by decide +kernel
theorem c_22_323 : pg_cd 22 323 = (5, 1, 0, 0, 0) := by decide +kernel
theorem c_22_324 : pg_cd 22 324 = (3, 1, 0, 2, 0) := by decide +kernel
theorem c_22_325 : pg_cd 22 325 = (3, 2, 0, 9, 0) := by decide +kernel
theorem c_22_327 : pg_cd 22 327 = (36, 3, 0, 0, 17) := by decide +kernel
theorem c_22_330 : pg_cd 22 330 = (3, 1, 0, 1, 0) := by decide +kernel
theorem c_22_331 : pg_cd 22 331 = (4, 1, 0, 3, 0) := by decide +kernel
theorem c_22_332 : pg_cd 22 332 = (4, 2, 0, 5, 0) := by decide +kernel
theorem c_22_334 : pg_cd 22 334 = (81, 23, 116, 0, 0) := by decide +kernel
theorem c_22_337 : pg_cd 22 337 = (36, 3, 0, 0, 7) := by decide +kernel
theorem c_22_340 : pg_cd 22 340 = (2, 1, 0, 0, 1) := by decide +kernel
theorem c_22_341 : pg_cd 22 341 = (38, 3, 0, 0, 4) := by decide +kernel
theorem c_22_344 : pg_cd 22 344 = (2, 1, 0, 0, 0) := by decide +kernel
theorem c_22_345 : pg_cd 22 345 = (2, 1, 0, 0, 1) := by decide +kernel
theorem c_22_346 : pg_cd 22 346 = (80, 24, 112, 0, 0) := by decide +kernel
theorem c_22_349 : pg_cd 22 349 = (94, 0, 0, 0, 0) := by decide +kernel
theorem mi_22 : pg_mc 22 = 1 ∧ pg_na 22 = 2 ∧ pg_mx 22 = 10 := by decide +kernel
theorem sw_0 : pg_sw 0 = (245, 14, 32, [219, 195, 245, 245, 245, 245, 245, 163, 179, 245, 245, 245, 245, 245, 245, 90, 104, 118, 143]) := by decide +kernel
set_option maxRecDepth 20000 in
theorem u_22_0 {d : Nat} {S : zS} {σ τ : zI} {Q : zQ} {x1 : Int} {x2 : Int} (t : (rg x2) ∧ if x2 < 0 then (wi (d + 8) 22 12 [.ref 54, .int (wI x1), .int (wI x2), .retAddr 0, .retAddr 0, .retAddr 0, .retAddr 0, .retAddr 0, .retAddr 0, .retAddr 0] [] S σ τ Q) else ((rg (x2 + 1)) ∧ if (x2 + 1) < 64 then ((0 ≤ x2 ∧ x2 < 64) ∧ (0 ≤ x2 + 1 ∧ x2 + 1 < 64) ∧ (rj ((τ 57 x2) * (τ 57 (x2 + 1)))) ∧ if ((τ 57 x2) * (τ 57 (x2 + 1))) = 0 then (wi (d + 8) 22 75 [.ref 54, .int (wI x1), .int (wI x2), .long (wJ ((τ 56 x2) * (τ 57 (x2 + 1)))), .retAddr 0, .long (wJ ((τ 56 (x2 + 1)) * (τ 57 x2))), .retAddr 0, .long (wJ ((τ 57 x2) * (τ 57 (x2 + 1)))), .retAddr 0, .retAddr 0] [.int (wI 0)] S σ τ Q) else (wi (d + 8) 22 75 [.ref 54, .int (wI x1), .int (wI x2), .long (wJ ((τ 56 x2) * (τ 57 (x2 + 1)))), .retAddr 0, .long (wJ ((τ 56 (x2 + 1)) * (τ 57 x2))), .retAddr 0, .long (wJ ((τ 57 x2) * (τ 57 (x2 + 1)))), .retAddr 0, .retAddr 0] [.int (wI 1)] S σ τ Q)) else (wi (d + 8) 22 12 [.ref 54, .int (wI x1), .int (wI x2), .retAddr 0, .retAddr 0, .retAddr 0, .retAddr 0, .retAddr 0, .retAddr 0, .retAddr 0] [] S σ τ Q))) : wi (d + 8) 22 0 [.ref 54, .int (wI x1), .int (wI x2), .retAddr 0, .retAddr 0, .retAddr 0, .retAddr 0, .retAddr 0, .retAddr 0, .retAddr 0] [] S σ τ Q := by
  obtain ⟨r1, t⟩ := t
  refine i3 c_22_0 rfl ?_
  refine i36 c_22_1 r1 rfl (fun hc => ?_) (fun hc => ?_)
  · have t := iT t hc
    have ha2 : x2 < 0 := hc
    exact t
  · have t := iF t hc
    have ha2 : ¬ (x2 < 0) := hc
    obtain ⟨r3, t⟩ := t
    refine i3 c_22_4 rfl (i1 c_22_5 (i10 c_22_6 (i1 c_22_7 ?_)))
    refine i37 c_22_9 r3 (by decide) rfl (fun hc => ?_) (fun hc => ?_)
    · have t := iT t hc
      have ha4 : (x2 + 1) < 64 := hc
      obtain ⟨r5, t⟩ := t
      refine i5 c_22_13 rfl (i45 c_22_14 (lo (c := 54) (kd := 101) (n := 0) rfl (by decide)) (lro (c := 54) (k := 1) (j := 56) (by decide)) (i3 c_22_17 rfl (wi_ok (fun K6 => ?_))))
      obtain ⟨r7, t⟩ := t
      obtain ⟨r8, t⟩ := t
      refine i52 (v := τ 56 x2) c_22_18 (lo (c := 56) (kd := 1) (n := 64) rfl (by decide)) (by decide) r5 rfl (i5 c_22_19 rfl (i45 c_22_20 (lo (c := 54) (kd := 101) (n := 0) rfl (by decide)) (lro (c := 54) (k := 2) (j := 57) (by decide)) (i3 c_22_23 rfl (i1 c_22_24 (i10 c_22_25 (i52 (v := τ 57 (x2 + 1)) c_22_26 (lo (c := 57) (kd := 1) (n := 64) rfl (by decide)) (by decide) r7 rfl (i24 c_22_27 (i7 (L' := [.ref 54, .int (wI x1), .int (wI x2), .long (wJ ((τ 56 x2) * (τ 57 (x2 + 1)))), .retAddr 0, .retAddr 0, .retAddr 0, .retAddr 0, .retAddr 0, .retAddr 0]) c_22_28 rfl (i5 c_22_29 rfl (i45 c_22_30 (lo (c := 54) (kd := 101) (n := 0) rfl (by decide)) (lro (c := 54) (k := 1) (j := 56) (by decide)) (i3 c_22_33 rfl (i1 c_22_34 (i10 c_22_35 (i52 (v := τ 56 (x2 + 1)) c_22_36 (lo (c := 56) (kd := 1) (n := 64) rfl (by decide)) (by decide) r7 rfl (i5 c_22_37 rfl (i45 c_22_38 (lo (c := 54) (kd := 101) (n := 0) rfl (by decide)) (lro (c := 54) (k := 2) (j := 57) (by decide)) (i3 c_22_41 rfl (i52 (v := τ 57 x2) c_22_42 (lo (c := 57) (kd := 1) (n := 64) rfl (by decide)) (by decide) r5 rfl (i24 c_22_43 (i7 (L' := [.ref 54, .int (wI x1), .int (wI x2), .long (wJ ((τ 56 x2) * (τ 57 (x2 + 1)))), .retAddr 0, .long (wJ ((τ 56 (x2 + 1)) * (τ 57 x2))), .retAddr 0, .retAddr 0, .retAddr 0, .retAddr 0]) c_22_44 rfl (i5 c_22_46 rfl (i45 c_22_47 (lo (c := 54) (kd := 101) (n := 0) rfl (by decide)) (lro (c := 54) (k := 2) (j := 57) (by decide)) (i3 c_22_50 rfl (i52 (v := τ 57 x2) c_22_51 (lo (c := 57) (kd := 1) (n := 64) rfl (by decide)) (by decide) r5 rfl (i5 c_22_52 rfl (i45 c_22_53 (lo (c := 54) (kd := 101) (n := 0) rfl (by decide)) (lro (c := 54) (k := 2) (j := 57) (by decide)) (i3 c_22_56 rfl (i1 c_22_57 (i10 c_22_58 (i52 (v := τ 57 (x2 + 1)) c_22_59 (lo (c := 57) (kd := 1) (n := 64) rfl (by decide)) (by decide) r7 rfl (i24 c_22_60 (i7 (L' := [.ref 54, .int (wI x1), .int (wI x2), .long (wJ ((τ 56 x2) * (τ 57 (x2 + 1)))), .retAddr 0, .long (wJ ((τ 56 (x2 + 1)) * (τ 57 x2))), .retAddr 0, .long (wJ ((τ 57 x2) * (τ 57 (x2 + 1)))), .retAddr 0, .retAddr 0]) c_22_61 rfl (i4 c_22_63 rfl (i2 c_22_65 (i28 c_22_66 ?_)))))))))))))))))))))))))))))))))))
      refine i36l c_22_67 r8 (by decide) rfl (fun hc => ?_) (fun hc => ?_)
      · have t := iT t hc
        have ha9 : ((τ 57 x2) * (τ 57 (x2 + 1))) = 0 := hc
        refine i1 c_22_74 t
      · have t := iF t hc
        have ha9 : ¬ (((τ 57 x2) * (τ 57 (x2 + 1))) = 0) := hc
        refine i1 c_22_70 (i38 c_22_71 rfl t)
    · have t := iF t hc
      have ha4 : ¬ ((x2 + 1) < 64) := hc
      exact t
set_option maxRecDepth 20000 in
theorem u_22_12 {d : Nat} {S : zS} {σ τ : zI} {Q : zQ} {x1 : Int} {x2 : Int} {y3 : Value} {y4 : Value} {y5 : Value} {y6 : Value} {y7 : Value} {y8 : Value} {y9 : Value} (t : Q none S σ τ) : wi (d + 8) 22 12 [.ref 54, .int (wI x1), .int (wI x2), y3, y4, y5, y6, y7, y8, y9] [] S σ τ Q := by
  exact i94 c_22_12 t
set_option maxRecDepth 20000 in
theorem u_22_75 {d : Nat} {S : zS} {σ τ : zI} {Q : zQ} {x1 : Int} {x2 : Int} {x3 : Int} {x5 : Int} {x7 : Int} {y9 : Value} {s0 : Int} (t : (rg x1) ∧ if x1 = 14 then ((0 ≤ x2 ∧ x2 < 64) ∧ (0 ≤ x2 + 1 ∧ x2 + 1 < 64) ∧ ((0 : Int) ≤ x2 ∧ x2 < (64 : Int)) ∧ ((-2000000000000000000 : Int) ≤ (max (τ 56 x2) (τ 56 (x2 + 1))) ∧ (max (τ 56 x2) (τ 56 (x2 + 1))) ≤ (2000000000000000000 : Int)) ∧ ((-2000000000000000000 : Int) ≤ 1 ∧ 1 ≤ (2000000000000000000 : Int)) ∧ wi (d + 8) 22 349 [.ref 54, .int (wI x1), .int (wI x2), .long (wJ x3), .retAddr 0, .long (wJ x5), .retAddr 0, .long (wJ x7), .retAddr 0, .int (wI s0)] [] S σ (uc (uc τ 56 (u1 ((τ 56)) x2 (red (max (τ 56 x2) (τ 56 (x2 + 1))) 1).1)) 57 (u1 ((τ 57)) x2 (red (max (τ 56 x2) (τ 56 (x2 + 1))) 1).2)) Q) else (if x1 = 15 then ((0 ≤ x2 ∧ x2 < 64) ∧ (0 ≤ x2 + 1 ∧ x2 + 1 < 64) ∧ ((0 : Int) ≤ x2 ∧ x2 < (64 : Int)) ∧ ((-2000000000000000000 : Int) ≤ ((τ 56 x2) * (τ 56 (x2 + 1))) ∧ ((τ 56 x2) * (τ 56 (x2 + 1))) ≤ (2000000000000000000 : Int)) ∧ ((-2000000000000000000 : Int) ≤ 1 ∧ 1 ≤ (2000000000000000000 : Int)) ∧ wi (d + 8) 22 349 [.ref 54, .int (wI x1), .int (wI x2), .long (wJ x3), .retAddr 0, .long (wJ x5), .retAddr 0, .long (wJ x7), .retAddr 0, .int (wI s0)] [] S σ (uc (uc τ 56 (u1 ((τ 56)) x2 (red ((τ 56 x2) * (τ 56 (x2 + 1))) 1).1)) 57 (u1 ((τ 57)) x2 (red ((τ 56 x2) * (τ 56 (x2 + 1))) 1).2)) Q) else (if x1 = 21 then ((rj x3) ∧ (rj x5) ∧ ((0 : Int) ≤ x2 ∧ x2 < (64 : Int)) ∧ ((-2000000000000000000 : Int) ≤ (min x3 x5) ∧ (min x3 x5) ≤ (2000000000000000000 : Int)) ∧ ((-2000000000000000000 : Int) ≤ x7 ∧ x7 ≤ (2000000000000000000 : Int)) ∧ wi (d + 8) 22 349 [.ref 54, .int (wI x1), .int (wI x2), .long (wJ x3), .retAddr 0, .long (wJ x5), .retAddr 0, .long (wJ x7), .retAddr 0, .int (wI s0)] [] S σ (uc (uc τ 56 (u1 ((τ 56)) x2 (red (min x3 x5) x7).1)) 57 (u1 ((τ 57)) x2 (red (min x3 x5) x7).2)) Q) else (if x1 = 22 then ((rj x3) ∧ (rj x5) ∧ ((0 : Int) ≤ x2 ∧ x2 < (64 : Int)) ∧ ((-2000000000000000000 : Int) ≤ (max x3 x5) ∧ (max x3 x5) ≤ (2000000000000000000 : Int)) ∧ ((-2000000000000000000 : Int) ≤ x7 ∧ x7 ≤ (2000000000000000000 : Int)) ∧ wi (d + 8) 22 349 [.ref 54, .int (wI x1), .int (wI x2), .long (wJ x3), .retAddr 0, .long (wJ x5), .retAddr 0, .long (wJ x7), .retAddr 0, .int (wI s0)] [] S σ (uc (uc τ 56 (u1 ((τ 56)) x2 (red (max x3 x5) x7).1)) 57 (u1 ((τ 57)) x2 (red (max x3 x5) x7).2)) Q) else (if x1 = 29 then (((0 : Int) ≤ x2 ∧ x2 < (64 : Int)) ∧ ((-2000000000000000000 : Int) ≤ (x3 + x5) ∧ (x3 + x5) ≤ (2000000000000000000 : Int)) ∧ ((-2000000000000000000 : Int) ≤ x7 ∧ x7 ≤ (2000000000000000000 : Int)) ∧ wi (d + 8) 22 349 [.ref 54, .int (wI x1), .int (wI x2), .long (wJ x3), .retAddr 0, .long (wJ x5), .retAddr 0, .long (wJ x7), .retAddr 0, .int (wI s0)] [] S σ (uc (uc τ 56 (u1 ((τ 56)) x2 (red (x3 + x5) x7).1)) 57 (u1 ((τ 57)) x2 (red (x3 + x5) x7).2)) Q) else (if x1 = 30 then (((0 : Int) ≤ x2 ∧ x2 < (64 : Int)) ∧ ((-2000000000000000000 : Int) ≤ (x3 - x5) ∧ (x3 - x5) ≤ (2000000000000000000 : Int)) ∧ ((-2000000000000000000 : Int) ≤ x7 ∧ x7 ≤ (2000000000000000000 : Int)) ∧ wi (d + 8) 22 349 [.ref 54, .int (wI x1), .int (wI x2), .long (wJ x3), .retAddr 0, .long (wJ x5), .retAddr 0, .long (wJ x7), .retAddr 0, .int (wI s0)] [] S σ (uc (uc τ 56 (u1 ((τ 56)) x2 (red (x3 - x5) x7).1)) 57 (u1 ((τ 57)) x2 (red (x3 - x5) x7).2)) Q) else (if x1 = 31 then ((0 ≤ x2 ∧ x2 < 64) ∧ (0 ≤ x2 + 1 ∧ x2 + 1 < 64) ∧ ((0 : Int) ≤ x2 ∧ x2 < (64 : Int)) ∧ ((-2000000000000000000 : Int) ≤ ((τ 56 x2) * (τ 56 (x2 + 1))) ∧ ((τ 56 x2) * (τ 56 (x2 + 1))) ≤ (2000000000000000000 : Int)) ∧ ((-2000000000000000000 : Int) ≤ x7 ∧ x7 ≤ (2000000000000000000 : Int)) ∧ wi (d + 8) 22 349 [.ref 54, .int (wI x1), .int (wI x2), .long (wJ x3), .retAddr 0, .long (wJ x5), .retAddr 0, .long (wJ x7), .retAddr 0, .int (wI s0)] [] S σ (uc (uc τ 56 (u1 ((τ 56)) x2 (red ((τ 56 x2) * (τ 56 (x2 + 1))) x7).1)) 57 (u1 ((τ 57)) x2 (red ((τ 56 x2) * (τ 56 (x2 + 1))) x7).2)) Q) else (if x1 = 32 then ((rg s0) ∧ if s0 = 0 then (wi (d + 8) 22 235 [.ref 54, .int (wI x1), .int (wI x2), .long (wJ x3), .retAddr 0, .long (wJ x5), .retAddr 0, .long (wJ x7), .retAddr 0, .int (wI s0)] [.long (wJ 0), .long (wJ x3), .int (wI x2), .ref 54] S σ τ Q) else (wi (d + 8) 22 235 [.ref 54, .int (wI x1), .int (wI x2), .long (wJ x3), .retAddr 0, .long (wJ x5), .retAddr 0, .long (wJ x7), .retAddr 0, .int (wI s0)] [.long (wJ x5), .long (wJ x3), .int (wI x2), .ref 54] S σ τ Q)) else ((rg s0) ∧ if s0 = 0 then (wi (d + 8) 22 344 [.ref 54, .int (wI x1), .int (wI x2), .long (wJ x3), .retAddr 0, .long (wJ x5), .retAddr 0, .long (wJ x7), .retAddr 0, .int (wI s0)] [.int (wI x2), .ref 54] S σ τ Q) else (((23 : Int) ≤ x1 ∧ x1 ≤ (28 : Int)) ∧ (rj x3) ∧ (rj x5) ∧ if (x1 = 23 ∧ x3 < x5) ∨ (x1 = 24 ∧ x3 ≤ x5) ∨ (x1 = 25 ∧ x5 < x3) ∨ (x1 = 26 ∧ x5 ≤ x3) ∨ (x1 = 27 ∧ x3 = x5) ∨ (x1 = 28 ∧ x3 ≠ x5) then (wi (d + 8) 22 345 [.ref 54, .int (wI x1), .int (wI x2), .long (wJ x3), .retAddr 0, .long (wJ x5), .retAddr 0, .long (wJ x7), .retAddr 0, .int (wI s0)] [.long (wJ 1), .int (wI x2), .ref 54] S σ τ Q) else (wi (d + 8) 22 344 [.ref 54, .int (wI x1), .int (wI x2), .long (wJ x3), .retAddr 0, .long (wJ x5), .retAddr 0, .long (wJ x7), .retAddr 0, .int (wI s0)] [.int (wI x2), .ref 54] S σ τ Q))))))))))) : wi (d + 8) 22 75 [.ref 54, .int (wI x1), .int (wI x2), .long (wJ x3), .retAddr 0, .long (wJ x5), .retAddr 0, .long (wJ x7), .retAddr 0, y9] [.int (wI s0)] S σ τ Q := by
  obtain ⟨r1, t⟩ := t
  refine i6 (L' := [.ref 54, .int (wI x1), .int (wI x2), .long (wJ x3), .retAddr 0, .long (wJ x5), .retAddr 0, .long (wJ x7), .retAddr 0, .int (wI s0)]) c_22_75 rfl (i3 c_22_77 rfl ?_)
  by_cases e0 : x1 = 14
  · have t := iT t e0
    refine i42 (o := 219) c_22_78 sw_0 14 e0 (by decide) (by decide) rfl rfl ?_
    obtain ⟨r2, t⟩ := t
    refine i5 c_22_297 rfl (i3 c_22_298 rfl (i5 c_22_299 rfl (i45 c_22_300 (lo (c := 54) (kd := 101) (n := 0) rfl (by decide)) (lro (c := 54) (k := 1) (j := 56) (by decide)) (i3 c_22_303 rfl (wi_ok (fun K3 => ?_))))))
    obtain ⟨r4, t⟩ := t
    obtain ⟨p5, t⟩ := t
    obtain ⟨p6, t⟩ := t
    obtain ⟨p7, t⟩ := t
    refine i52 (v := τ 56 x2) c_22_304 (lo (c := 56) (kd := 1) (n := 64) rfl (by decide)) (by decide) r2 rfl (i5 c_22_305 rfl (i45 c_22_306 (lo (c := 54) (kd := 101) (n := 0) rfl (by decide)) (lro (c := 54) (k := 1) (j := 56) (by decide)) (i3 c_22_309 rfl (i1 c_22_310 (i10 c_22_311 (i52 (v := τ 56 (x2 + 1)) c_22_312 (lo (c := 56) (kd := 1) (n := 64) rfl (by decide)) (by decide) r4 rfl (i76 c_22_313 (Nat.le_of_ble_eq_true rfl) (by omega) (rje_ K3 rfl) (rje_ K3 rfl) (i2 c_22_316 ?_))))))))
    refine i80 (As := [.int (wI x2), .long (wJ (max (τ 56 x2) (τ 56 (x2 + 1)))), .long (wJ 1)]) (rest := []) c_22_317 mi_24 rfl rfl (Nat.le_of_ble_eq_true rfl) (Nat.le_of_ble_eq_true rfl) (lo (c := 54) (kd := 101) (n := 0) rfl (by decide)) (q_24 p5 p6 p7 ?_)
    show wi (d + 8) 22 320 [.ref 54, .int (wI x1), .int (wI x2), .long (wJ x3), .retAddr 0, .long (wJ x5), .retAddr 0, .long (wJ x7), .retAddr 0, .int (wI s0)] [] S σ (uc (uc τ 56 (u1 ((τ 56)) x2 (red (max (τ 56 x2) (τ 56 (x2 + 1))) 1).1)) 57 (u1 ((τ 57)) x2 (red (max (τ 56 x2) (τ 56 (x2 + 1))) 1).2)) Q
    refine i38 c_22_320 rfl t
  have t := iF t e0
  by_cases e1 : x1 = 15
  · have t := iT t e1
    refine i42 (o := 195) c_22_78 sw_0 15 e1 (by decide) (by decide) rfl rfl ?_
    obtain ⟨r8, t⟩ := t
    refine i5 c_22_273 rfl (i3 c_22_274 rfl (i5 c_22_275 rfl (i45 c_22_276 (lo (c := 54) (kd := 101) (n := 0) rfl (by decide)) (lro (c := 54) (k := 1) (j := 56) (by decide)) (i3 c_22_279 rfl (wi_ok (fun K9 => ?_))))))
    obtain ⟨r10, t⟩ := t
    obtain ⟨p11, t⟩ := t
    obtain ⟨p12, t⟩ := t
    obtain ⟨p13, t⟩ := t
    refine i52 (v := τ 56 x2) c_22_280 (lo (c := 56) (kd := 1) (n := 64) rfl (by decide)) (by decide) r8 rfl (i5 c_22_281 rfl (i45 c_22_282 (lo (c := 54) (kd := 101) (n := 0) rfl (by decide)) (lro (c := 54) (k := 1) (j := 56) (by decide)) (i3 c_22_285 rfl (i1 c_22_286 (i10 c_22_287 (i52 (v := τ 56 (x2 + 1)) c_22_288 (lo (c := 56) (kd := 1) (n := 64) rfl (by decide)) (by decide) r10 rfl (i24 c_22_289 (i2 c_22_290 ?_))))))))
    refine i80 (As := [.int (wI x2), .long (wJ ((τ 56 x2) * (τ 56 (x2 + 1)))), .long (wJ 1)]) (rest := []) c_22_291 mi_24 rfl rfl (Nat.le_of_ble_eq_true rfl) (Nat.le_of_ble_eq_true rfl) (lo (c := 54) (kd := 101) (n := 0) rfl (by decide)) (q_24 p11 p12 p13 ?_)
    show wi (d + 8) 22 294 [.ref 54, .int (wI x1), .int (wI x2), .long (wJ x3), .retAddr 0, .long (wJ x5), .retAddr 0, .long (wJ x7), .retAddr 0, .int (wI s0)] [] S σ (uc (uc τ 56 (u1 ((τ 56)) x2 (red ((τ 56 x2) * (τ 56 (x2 + 1))) 1).1)) 57 (u1 ((τ 57)) x2 (red ((τ 56 x2) * (τ 56 (x2 + 1))) 1).2)) Q
    refine i38 c_22_294 rfl t
  have t := iF t e1
  by_cases e7 : x1 = 21
  · have t := iT t e7
    refine i42 (o := 163) c_22_78 sw_0 21 e7 (by decide) (by decide) rfl rfl ?_
    obtain ⟨r14, t⟩ := t
    obtain ⟨r15, t⟩ := t
    obtain ⟨p16, t⟩ := t
    obtain ⟨p17, t⟩ := t
    obtain ⟨p18, t⟩ := t
    refine i5 c_22_241 rfl (i3 c_22_242 rfl (i4 c_22_243 rfl (i4 c_22_244 rfl (i77 c_22_246 (Nat.le_of_ble_eq_true rfl) (by omega) r14 r15 (i4 c_22_249 rfl ?_)))))
    refine i80 (As := [.int (wI x2), .long (wJ (min x3 x5)), .long (wJ x7)]) (rest := []) c_22_251 mi_24 rfl rfl (Nat.le_of_ble_eq_true rfl) (Nat.le_of_ble_eq_true rfl) (lo (c := 54) (kd := 101) (n := 0) rfl (by decide)) (q_24 p16 p17 p18 ?_)
    show wi (d + 8) 22 254 [.ref 54, .int (wI x1), .int (wI x2), .long (wJ x3), .retAddr 0, .long (wJ x5), .retAddr 0, .long (wJ x7), .retAddr 0, .int (wI s0)] [] S σ (uc (uc τ 56 (u1 ((τ 56)) x2 (red (min x3 x5) x7).1)) 57 (u1 ((τ 57)) x2 (red (min x3 x5) x7).2)) Q
    refine i38 c_22_254 rfl t
  have t := iF t e7
  by_cases e8 : x1 = 22
  · have t := iT t e8
    refine i42 (o := 179) c_22_78 sw_0 22 e8 (by decide) (by decide) rfl rfl ?_
    obtain ⟨r19, t⟩ := t
    obtain ⟨r20, t⟩ := t
    obtain ⟨p21, t⟩ := t
    obtain ⟨p22, t⟩ := t
    obtain ⟨p23, t⟩ := t
    refine i5 c_22_257 rfl (i3 c_22_258 rfl (i4 c_22_259 rfl (i4 c_22_260 rfl (i76 c_22_262 (Nat.le_of_ble_eq_true rfl) (by omega) r19 r20 (i4 c_22_265 rfl ?_)))))
    refine i80 (As := [.int (wI x2), .long (wJ (max x3 x5)), .long (wJ x7)]) (rest := []) c_22_267 mi_24 rfl rfl (Nat.le_of_ble_eq_true rfl) (Nat.le_of_ble_eq_true rfl) (lo (c := 54) (kd := 101) (n := 0) rfl (by decide)) (q_24 p21 p22 p23 ?_)
    show wi (d + 8) 22 270 [.ref 54, .int (wI x1), .int (wI x2), .long (wJ x3), .retAddr 0, .long (wJ x5), .retAddr 0, .long (wJ x7), .retAddr 0, .int (wI s0)] [] S σ (uc (uc τ 56 (u1 ((τ 56)) x2 (red (max x3 x5) x7).1)) 57 (u1 ((τ 57)) x2 (red (max x3 x5) x7).2)) Q
    refine i38 c_22_270 rfl t
  have t := iF t e8
  by_cases e15 : x1 = 29
  · have t := iT t e15
    refine i42 (o := 90) c_22_78 sw_0 29 e15 (by decide) (by decide) rfl rfl ?_
    obtain ⟨p24, t⟩ := t
    obtain ⟨p25, t⟩ := t
    obtain ⟨p26, t⟩ := t
    refine i5 c_22_168 rfl (i3 c_22_169 rfl (i4 c_22_170 rfl (i4 c_22_171 rfl (i22 c_22_173 (i4 c_22_174 rfl ?_)))))
    refine i80 (As := [.int (wI x2), .long (wJ (x3 + x5)), .long (wJ x7)]) (rest := []) c_22_176 mi_24 rfl rfl (Nat.le_of_ble_eq_true rfl) (Nat.le_of_ble_eq_true rfl) (lo (c := 54) (kd := 101) (n := 0) rfl (by decide)) (q_24 p24 p25 p26 ?_)
    show wi (d + 8) 22 179 [.ref 54, .int (wI x1), .int (wI x2), .long (wJ x3), .retAddr 0, .long (wJ x5), .retAddr 0, .long (wJ x7), .retAddr 0, .int (wI s0)] [] S σ (uc (uc τ 56 (u1 ((τ 56)) x2 (red (x3 + x5) x7).1)) 57 (u1 ((τ 57)) x2 (red (x3 + x5) x7).2)) Q
    refine i38 c_22_179 rfl t
  have t := iF t e15
  by_cases e16 : x1 = 30
  · have t := iT t e16
    refine i42 (o := 104) c_22_78 sw_0 30 e16 (by decide) (by decide) rfl rfl ?_
    obtain ⟨p27, t⟩ := t
    obtain ⟨p28, t⟩ := t
    obtain ⟨p29, t⟩ := t
    refine i5 c_22_182 rfl (i3 c_22_183 rfl (i4 c_22_184 rfl (i4 c_22_185 rfl (i23 c_22_187 (i4 c_22_188 rfl ?_)))))
    refine i80 (As := [.int (wI x2), .long (wJ (x3 - x5)), .long (wJ x7)]) (rest := []) c_22_190 mi_24 rfl rfl (Nat.le_of_ble_eq_true rfl) (Nat.le_of_ble_eq_true rfl) (lo (c := 54) (kd := 101) (n := 0) rfl (by decide)) (q_24 p27 p28 p29 ?_)
    show wi (d + 8) 22 193 [.ref 54, .int (wI x1), .int (wI x2), .long (wJ x3), .retAddr 0, .long (wJ x5), .retAddr 0, .long (wJ x7), .retAddr 0, .int (wI s0)] [] S σ (uc (uc τ 56 (u1 ((τ 56)) x2 (red (x3 - x5) x7).1)) 57 (u1 ((τ 57)) x2 (red (x3 - x5) x7).2)) Q
    refine i38 c_22_193 rfl t
  have t := iF t e16
  by_cases e17 : x1 = 31
  · have t := iT t e17
    refine i42 (o := 118) c_22_78 sw_0 31 e17 (by decide) (by decide) rfl rfl ?_
    obtain ⟨r30, t⟩ := t
    refine i5 c_22_196 rfl (i3 c_22_197 rfl (i5 c_22_198 rfl (i45 c_22_199 (lo (c := 54) (kd := 101) (n := 0) rfl (by decide)) (lro (c := 54) (k := 1) (j := 56) (by decide)) (i3 c_22_202 rfl (wi_ok (fun K31 => ?_))))))
    obtain ⟨r32, t⟩ := t
    obtain ⟨p33, t⟩ := t
    obtain ⟨p34, t⟩ := t
    obtain ⟨p35, t⟩ := t
    refine i52 (v := τ 56 x2) c_22_203 (lo (c := 56) (kd := 1) (n := 64) rfl (by decide)) (by decide) r30 rfl (i5 c_22_204 rfl (i45 c_22_205 (lo (c := 54) (kd := 101) (n := 0) rfl (by decide)) (lro (c := 54) (k := 1) (j := 56) (by decide)) (i3 c_22_208 rfl (i1 c_22_209 (i10 c_22_210 (i52 (v := τ 56 (x2 + 1)) c_22_211 (lo (c := 56) (kd := 1) (n := 64) rfl (by decide)) (by decide) r32 rfl (i24 c_22_212 (i4 c_22_213 rfl ?_))))))))
    refine i80 (As := [.int (wI x2), .long (wJ ((τ 56 x2) * (τ 56 (x2 + 1)))), .long (wJ x7)]) (rest := []) c_22_215 mi_24 rfl rfl (Nat.le_of_ble_eq_true rfl) (Nat.le_of_ble_eq_true rfl) (lo (c := 54) (kd := 101) (n := 0) rfl (by decide)) (q_24 p33 p34 p35 ?_)
    show wi (d + 8) 22 218 [.ref 54, .int (wI x1), .int (wI x2), .long (wJ x3), .retAddr 0, .long (wJ x5), .retAddr 0, .long (wJ x7), .retAddr 0, .int (wI s0)] [] S σ (uc (uc τ 56 (u1 ((τ 56)) x2 (red ((τ 56 x2) * (τ 56 (x2 + 1))) x7).1)) 57 (u1 ((τ 57)) x2 (red ((τ 56 x2) * (τ 56 (x2 + 1))) x7).2)) Q
    refine i38 c_22_218 rfl t
  have t := iF t e17
  by_cases e18 : x1 = 32
  · have t := iT t e18
    refine i42 (o := 143) c_22_78 sw_0 32 e18 (by decide) (by decide) rfl rfl ?_
    obtain ⟨r36, t⟩ := t
    refine i5 c_22_221 rfl (i3 c_22_222 rfl (i4 c_22_223 rfl (i3 c_22_224 rfl ?_)))
    refine i36 c_22_226 r36 rfl (fun hc => ?_) (fun hc => ?_)
    · have t := iT t hc
      have ha37 : s0 = 0 := hc
      refine i2 c_22_234 t
    · have t := iF t hc
      have ha37 : ¬ (s0 = 0) := hc
      refine i4 c_22_229 rfl (i38 c_22_231 rfl t)
  have t := iF t e18
  by_cases e : x1 = 16
  · refine i42 (o := 245) c_22_78 sw_0 16 e (by decide) (by decide) rfl rfl ?_
    obtain ⟨r44, t⟩ := t
    refine i5 c_22_323 rfl (i3 c_22_324 rfl (i3 c_22_325 rfl ?_))
    refine i36 c_22_327 r44 rfl (fun hc => ?_) (fun hc => ?_)
    · have t := iT t hc
      have ha45 : s0 = 0 := hc
      exact t
    · have t := iF t hc
      have ha45 : ¬ (s0 = 0) := hc
      obtain ⟨p46, t⟩ := t
      obtain ⟨p47, t⟩ := t
      obtain ⟨p48, t⟩ := t
      refine i3 c_22_330 rfl (i4 c_22_331 rfl (i4 c_22_332 rfl ?_))
      refine i81 (As := [.int (wI x1), .long (wJ x3), .long (wJ x5)]) (rest := [.int (wI x2), .ref 54]) c_22_334 mi_23 rfl rfl (Nat.le_of_ble_eq_true rfl) (Nat.le_of_ble_eq_true rfl) (q_23 p46 p47 p48 ?_)
      show wi (d + 8) 22 337 [.ref 54, .int (wI x1), .int (wI x2), .long (wJ x3), .retAddr 0, .long (wJ x5), .retAddr 0, .long (wJ x7), .retAddr 0, .int (wI s0)] [.int (wI (if (x1 = 23 ∧ x3 < x5) ∨ (x1 = 24 ∧ x3 ≤ x5) ∨ (x1 = 25 ∧ x5 < x3) ∨ (x1 = 26 ∧ x5 ≤ x3) ∨ (x1 = 27 ∧ x3 = x5) ∨ (x1 = 28 ∧ x3 ≠ x5) then 1 else 0)), .int (wI x2), .ref 54] S σ τ Q
      refine i36e c_22_337 rfl (fun hc => ?_) (fun hc => ?_)
      · have t := iT t hc
        have ha49 : (x1 = 23 ∧ x3 < x5) ∨ (x1 = 24 ∧ x3 ≤ x5) ∨ (x1 = 25 ∧ x5 < x3) ∨ (x1 = 26 ∧ x5 ≤ x3) ∨ (x1 = 27 ∧ x3 = x5) ∨ (x1 = 28 ∧ x3 ≠ x5) := hc
        refine i2 c_22_340 (i38 c_22_341 rfl t)
      · have t := iF t hc
        have ha49 : ¬ ((x1 = 23 ∧ x3 < x5) ∨ (x1 = 24 ∧ x3 ≤ x5) ∨ (x1 = 25 ∧ x5 < x3) ∨ (x1 = 26 ∧ x5 ≤ x3) ∨ (x1 = 27 ∧ x3 = x5) ∨ (x1 = 28 ∧ x3 ≠ x5)) := hc
        exact t
  by_cases e : x1 = 17
  · refine i42 (o := 245) c_22_78 sw_0 17 e (by decide) (by decide) rfl rfl ?_
    obtain ⟨r50, t⟩ := t
    refine i5 c_22_323 rfl (i3 c_22_324 rfl (i3 c_22_325 rfl ?_))
    refine i36 c_22_327 r50 rfl (fun hc => ?_) (fun hc => ?_)
    · have t := iT t hc
      have ha51 : s0 = 0 := hc
      exact t
    · have t := iF t hc
      have ha51 : ¬ (s0 = 0) := hc
      obtain ⟨p52, t⟩ := t
      obtain ⟨p53, t⟩ := t
      obtain ⟨p54, t⟩ := t
      refine i3 c_22_330 rfl (i4 c_22_331 rfl (i4 c_22_332 rfl ?_))
      refine i81 (As := [.int (wI x1), .long (wJ x3), .long (wJ x5)]) (rest := [.int (wI x2), .ref 54]) c_22_334 mi_23 rfl rfl (Nat.le_of_ble_eq_true rfl) (Nat.le_of_ble_eq_true rfl) (q_23 p52 p53 p54 ?_)
      show wi (d + 8) 22 337 [.ref 54, .int (wI x1), .int (wI x2), .long (wJ x3), .retAddr 0, .long (wJ x5), .retAddr 0, .long (wJ x7), .retAddr 0, .int (wI s0)] [.int (wI (if (x1 = 23 ∧ x3 < x5) ∨ (x1 = 24 ∧ x3 ≤ x5) ∨ (x1 = 25 ∧ x5 < x3) ∨ (x1 = 26 ∧ x5 ≤ x3) ∨ (x1 = 27 ∧ x3 = x5) ∨ (x1 = 28 ∧ x3 ≠ x5) then 1 else 0)), .int (wI x2), .ref 54] S σ τ Q
      refine i36e c_22_337 rfl (fun hc => ?_) (fun hc => ?_)
      · have t := iT t hc
        have ha55 : (x1 = 23 ∧ x3 < x5) ∨ (x1 = 24 ∧ x3 ≤ x5) ∨ (x1 = 25 ∧ x5 < x3) ∨ (x1 = 26 ∧ x5 ≤ x3) ∨ (x1 = 27 ∧ x3 = x5) ∨ (x1 = 28 ∧ x3 ≠ x5) := hc
        refine i2 c_22_340 (i38 c_22_341 rfl t)
      · have t := iF t hc
        have ha55 : ¬ ((x1 = 23 ∧ x3 < x5) ∨ (x1 = 24 ∧ x3 ≤ x5) ∨ (x1 = 25 ∧ x5 < x3) ∨ (x1 = 26 ∧ x5 ≤ x3) ∨ (x1 = 27 ∧ x3 = x5) ∨ (x1 = 28 ∧ x3 ≠ x5)) := hc
        exact t
  by_cases e : x1 = 18
  · refine i42 (o := 245) c_22_78 sw_0 18 e (by decide) (by decide) rfl rfl ?_
    obtain ⟨r56, t⟩ := t
    refine i5 c_22_323 rfl (i3 c_22_324 rfl (i3 c_22_325 rfl ?_))
    refine i36 c_22_327 r56 rfl (fun hc => ?_) (fun hc => ?_)
    · have t := iT t hc
      have ha57 : s0 = 0 := hc
      exact t
    · have t := iF t hc
      have ha57 : ¬ (s0 = 0) := hc
      obtain ⟨p58, t⟩ := t
      obtain ⟨p59, t⟩ := t
      obtain ⟨p60, t⟩ := t
      refine i3 c_22_330 rfl (i4 c_22_331 rfl (i4 c_22_332 rfl ?_))
      refine i81 (As := [.int (wI x1), .long (wJ x3), .long (wJ x5)]) (rest := [.int (wI x2), .ref 54]) c_22_334 mi_23 rfl rfl (Nat.le_of_ble_eq_true rfl) (Nat.le_of_ble_eq_true rfl) (q_23 p58 p59 p60 ?_)
      show wi (d + 8) 22 337 [.ref 54, .int (wI x1), .int (wI x2), .long (wJ x3), .retAddr 0, .long (wJ x5), .retAddr 0, .long (wJ x7), .retAddr 0, .int (wI s0)] [.int (wI (if (x1 = 23 ∧ x3 < x5) ∨ (x1 = 24 ∧ x3 ≤ x5) ∨ (x1 = 25 ∧ x5 < x3) ∨ (x1 = 26 ∧ x5 ≤ x3) ∨ (x1 = 27 ∧ x3 = x5) ∨ (x1 = 28 ∧ x3 ≠ x5) then 1 else 0)), .int (wI x2), .ref 54] S σ τ Q
      refine i36e c_22_337 rfl (fun hc => ?_) (fun hc => ?_)
      · have t := iT t hc
        have ha61 : (x1 = 23 ∧ x3 < x5) ∨ (x1 = 24 ∧ x3 ≤ x5) ∨ (x1 = 25 ∧ x5 < x3) ∨ (x1 = 26 ∧ x5 ≤ x3) ∨ (x1 = 27 ∧ x3 = x5) ∨ (x1 = 28 ∧ x3 ≠ x5) := hc
        refine i2 c_22_340 (i38 c_22_341 rfl t)
      · have t := iF t hc
        have ha61 : ¬ ((x1 = 23 ∧ x3 < x5) ∨ (x1 = 24 ∧ x3 ≤ x5) ∨ (x1 = 25 ∧ x5 < x3) ∨ (x1 = 26 ∧ x5 ≤ x3) ∨ (x1 = 27 ∧ x3 = x5) ∨ (x1 = 28 ∧ x3 ≠ x5)) := hc
        exact t
  by_cases e : x1 = 19
  · refine i42 (o := 245) c_22_78 sw_0 19 e (by decide) (by decide) rfl rfl ?_
    obtain ⟨r62, t⟩ := t
    refine i5 c_22_323 rfl (i3 c_22_324 rfl (i3 c_22_325 rfl ?_))
    refine i36 c_22_327 r62 rfl (fun hc => ?_) (fun hc => ?_)
    · have t := iT t hc
      have ha63 : s0 = 0 := hc
      exact t
    · have t := iF t hc
      have ha63 : ¬ (s0 = 0) := hc
      obtain ⟨p64, t⟩ := t
      obtain ⟨p65, t⟩ := t
      obtain ⟨p66, t⟩ := t
      refine i3 c_22_330 rfl (i4 c_22_331 rfl (i4 c_22_332 rfl ?_))
      refine i81 (As := [.int (wI x1), .long (wJ x3), .long (wJ x5)]) (rest := [.int (wI x2), .ref 54]) c_22_334 mi_23 rfl rfl (Nat.le_of_ble_eq_true rfl) (Nat.le_of_ble_eq_true rfl) (q_23 p64 p65 p66 ?_)
      show wi (d + 8) 22 337 [.ref 54, .int (wI x1), .int (wI x2), .long (wJ x3), .retAddr 0, .long (wJ x5), .retAddr 0, .long (wJ x7), .retAddr 0, .int (wI s0)] [.int (wI (if (x1 = 23 ∧ x3 < x5) ∨ (x1 = 24 ∧ x3 ≤ x5) ∨ (x1 = 25 ∧ x5 < x3) ∨ (x1 = 26 ∧ x5 ≤ x3) ∨ (x1 = 27 ∧ x3 = x5) ∨ (x1 = 28 ∧ x3 ≠ x5) then 1 else 0)), .int (wI x2), .ref 54] S σ τ Q
      refine i36e c_22_337 rfl (fun hc => ?_) (fun hc => ?_)
      · have t := iT t hc
        have ha67 : (x1 = 23 ∧ x3 < x5) ∨ (x1 = 24 ∧ x3 ≤ x5) ∨ (x1 = 25 ∧ x5 < x3) ∨ (x1 = 26 ∧ x5 ≤ x3) ∨ (x1 = 27 ∧ x3 = x5) ∨ (x1 = 28 ∧ x3 ≠ x5) := hc
        refine i2 c_22_340 (i38 c_22_341 rfl t)
      · have t := iF t hc
        have ha67 : ¬ ((x1 = 23 ∧ x3 < x5) ∨ (x1 = 24 ∧ x3 ≤ x5) ∨ (x1 = 25 ∧ x5 < x3) ∨ (x1 = 26 ∧ x5 ≤ x3) ∨ (x1 = 27 ∧ x3 = x5) ∨ (x1 = 28 ∧ x3 ≠ x5)) := hc
        exact t
  by_cases e : x1 = 20
  · refine i42 (o := 245) c_22_78 sw_0 20 e (by decide) (by decide) rfl rfl ?_
    obtain ⟨r68, t⟩ := t
    refine i5 c_22_323 rfl (i3 c_22_324 rfl (i3 c_22_325 rfl ?_))
    refine i36 c_22_327 r68 rfl (fun hc => ?_) (fun hc => ?_)
    · have t := iT t hc
      have ha69 : s0 = 0 := hc
      exact t
    · have t := iF t hc
      have ha69 : ¬ (s0 = 0) := hc
      obtain ⟨p70, t⟩ := t
      obtain ⟨p71, t⟩ := t
      obtain ⟨p72, t⟩ := t
      refine i3 c_22_330 rfl (i4 c_22_331 rfl (i4 c_22_332 rfl ?_))
      refine i81 (As := [.int (wI x1), .long (wJ x3), .long (wJ x5)]) (rest := [.int (wI x2), .ref 54]) c_22_334 mi_23 rfl rfl (Nat.le_of_ble_eq_true rfl) (Nat.le_of_ble_eq_true rfl) (q_23 p70 p71 p72 ?_)
      show wi (d + 8) 22 337 [.ref 54, .int (wI x1), .int (wI x2), .long (wJ x3), .retAddr 0, .long (wJ x5), .retAddr 0, .long (wJ x7), .retAddr 0, .int (wI s0)] [.int (wI (if (x1 = 23 ∧ x3 < x5) ∨ (x1 = 24 ∧ x3 ≤ x5) ∨ (x1 = 25 ∧ x5 < x3) ∨ (x1 = 26 ∧ x5 ≤ x3) ∨ (x1 = 27 ∧ x3 = x5) ∨ (x1 = 28 ∧ x3 ≠ x5) then 1 else 0)), .int (wI x2), .ref 54] S σ τ Q
      refine i36e c_22_337 rfl (fun hc => ?_) (fun hc => ?_)
      · have t := iT t hc
        have ha73 : (x1 = 23 ∧ x3 < x5) ∨ (x1 = 24 ∧ x3 ≤ x5) ∨ (x1 = 25 ∧ x5 < x3) ∨ (x1 = 26 ∧ x5 ≤ x3) ∨ (x1 = 27 ∧ x3 = x5) ∨ (x1 = 28 ∧ x3 ≠ x5) := hc
        refine i2 c_22_340 (i38 c_22_341 rfl t)
      · have t := iF t hc
        have ha73 : ¬ ((x1 = 23 ∧ x3 < x5) ∨ (x1 = 24 ∧ x3 ≤ x5) ∨ (x1 = 25 ∧ x5 < x3) ∨ (x1 = 26 ∧ x5 ≤ x3) ∨ (x1 = 27 ∧ x3 = x5) ∨ (x1 = 28 ∧ x3 ≠ x5)) := hc
        exact t
  by_cases e : x1 = 23
  · refine i42 (o := 245) c_22_78 sw_0 23 e (by decide) (by decide) rfl rfl ?_
    obtain ⟨r74, t⟩ := t
    refine i5 c_22_323 rfl (i3 c_22_324 rfl (i3 c_22_325 rfl ?_))
    refine i36 c_22_327 r74 rfl (fun hc => ?_) (fun hc => ?_)
    · have t := iT t hc
      have ha75 : s0 = 0 := hc
      exact t
    · have t := iF t hc
      have ha75 : ¬ (s0 = 0) := hc
      obtain ⟨p76, t⟩ := t
      obtain ⟨p77, t⟩ := t
      obtain ⟨p78, t⟩ := t
      refine i3 c_22_330 rfl (i4 c_22_331 rfl (i4 c_22_332 rfl ?_))
      refine i81 (As := [.int (wI x1), .long (wJ x3), .long (wJ x5)]) (rest := [.int (wI x2), .ref 54]) c_22_334 mi_23 rfl rfl (Nat.le_of_ble_eq_true rfl) (Nat.le_of_ble_eq_true rfl) (q_23 p76 p77 p78 ?_)
      show wi (d + 8) 22 337 [.ref 54, .int (wI x1), .int (wI x2), .long (wJ x3), .retAddr 0, .long (wJ x5), .retAddr 0, .long (wJ x7), .retAddr 0, .int (wI s0)] [.int (wI (if (x1 = 23 ∧ x3 < x5) ∨ (x1 = 24 ∧ x3 ≤ x5) ∨ (x1 = 25 ∧ x5 < x3) ∨ (x1 = 26 ∧ x5 ≤ x3) ∨ (x1 = 27 ∧ x3 = x5) ∨ (x1 = 28 ∧ x3 ≠ x5) then 1 else 0)), .int (wI x2), .ref 54] S σ τ Q
      refine i36e c_22_337 rfl (fun hc => ?_) (fun hc => ?_)
      · have t := iT t hc
        have ha79 : (x1 = 23 ∧ x3 < x5) ∨ (x1 = 24 ∧ x3 ≤ x5) ∨ (x1 = 25 ∧ x5 < x3) ∨ (x1 = 26 ∧ x5 ≤ x3) ∨ (x1 = 27 ∧ x3 = x5) ∨ (x1 = 28 ∧ x3 ≠ x5) := hc
        refine i2 c_22_340 (i38 c_22_341 rfl t)
      · have t := iF t hc
        have ha79 : ¬ ((x1 = 23 ∧ x3 < x5) ∨ (x1 = 24 ∧ x3 ≤ x5) ∨ (x1 = 25 ∧ x5 < x3) ∨ (x1 = 26 ∧ x5 ≤ x3) ∨ (x1 = 27 ∧ x3 = x5) ∨ (x1 = 28 ∧ x3 ≠ x5)) := hc
        exact t
  by_cases e : x1 = 24
  · refine i42 (o := 245) c_22_78 sw_0 24 e (by decide) (by decide) rfl rfl ?_
    obtain ⟨r80, t⟩ := t
    refine i5 c_22_323 rfl (i3 c_22_324 rfl (i3 c_22_325 rfl ?_))
    refine i36 c_22_327 r80 rfl (fun hc => ?_) (fun hc => ?_)
    · have t := iT t hc
      have ha81 : s0 = 0 := hc
      exact t
    · have t := iF t hc
      have ha81 : ¬ (s0 = 0) := hc
      obtain ⟨p82, t⟩ := t
      obtain ⟨p83, t⟩ := t
      obtain ⟨p84, t⟩ := t
      refine i3 c_22_330 rfl (i4 c_22_331 rfl (i4 c_22_332 rfl ?_))
      refine i81 (As := [.int (wI x1), .long (wJ x3), .long (wJ x5)]) (rest := [.int (wI x2), .ref 54]) c_22_334 mi_23 rfl rfl (Nat.le_of_ble_eq_true rfl) (Nat.le_of_ble_eq_true rfl) (q_23 p82 p83 p84 ?_)
      show wi (d + 8) 22 337 [.ref 54, .int (wI x1), .int (wI x2), .long (wJ x3), .retAddr 0, .long (wJ x5), .retAddr 0, .long (wJ x7), .retAddr 0, .int (wI s0)] [.int (wI (if (x1 = 23 ∧ x3 < x5) ∨ (x1 = 24 ∧ x3 ≤ x5) ∨ (x1 = 25 ∧ x5 < x3) ∨ (x1 = 26 ∧ x5 ≤ x3) ∨ (x1 = 27 ∧ x3 = x5) ∨ (x1 = 28 ∧ x3 ≠ x5) then 1 else 0)), .int (wI x2), .ref 54] S σ τ Q
      refine i36e c_22_337 rfl (fun hc => ?_) (fun hc => ?_)
      · have t := iT t hc
        have ha85 : (x1 = 23 ∧ x3 < x5) ∨ (x1 = 24 ∧ x3 ≤ x5) ∨ (x1 = 25 ∧ x5 < x3) ∨ (x1 = 26 ∧ x5 ≤ x3) ∨ (x1 = 27 ∧ x3 = x5) ∨ (x1 = 28 ∧ x3 ≠ x5) := hc
        refine i2 c_22_340 (i38 c_22_341 rfl t)
      · have t := iF t hc
        have ha85 : ¬ ((x1 = 23 ∧ x3 < x5) ∨ (x1 = 24 ∧ x3 ≤ x5) ∨ (x1 = 25 ∧ x5 < x3) ∨ (x1 = 26 ∧ x5 ≤ x3) ∨ (x1 = 27 ∧ x3 = x5) ∨ (x1 = 28 ∧ x3 ≠ x5)) := hc
        exact t
  by_cases e : x1 = 25
  · refine i42 (o := 245) c_22_78 sw_0 25 e (by decide) (by decide) rfl rfl ?_
    obtain ⟨r86, t⟩ := t
    refine i5 c_22_323 rfl (i3 c_22_324 rfl (i3 c_22_325 rfl ?_))
    refine i36 c_22_327 r86 rfl (fun hc => ?_) (fun hc => ?_)
    · have t := iT t hc
      have ha87 : s0 = 0 := hc
      exact t
    · have t := iF t hc
      have ha87 : ¬ (s0 = 0) := hc
      obtain ⟨p88, t⟩ := t
      obtain ⟨p89, t⟩ := t
      obtain ⟨p90, t⟩ := t
      refine i3 c_22_330 rfl (i4 c_22_331 rfl (i4 c_22_332 rfl ?_))
      refine i81 (As := [.int (wI x1), .long (wJ x3), .long (wJ x5)]) (rest := [.int (wI x2), .ref 54]) c_22_334 mi_23 rfl rfl (Nat.le_of_ble_eq_true rfl) (Nat.le_of_ble_eq_true rfl) (q_23 p88 p89 p90 ?_)
      show wi (d + 8) 22 337 [.ref 54, .int (wI x1), .int (wI x2), .long (wJ x3), .retAddr 0, .long (wJ x5), .retAddr 0, .long (wJ x7), .retAddr 0, .int (wI s0)] [.int (wI (if (x1 = 23 ∧ x3 < x5) ∨ (x1 = 24 ∧ x3 ≤ x5) ∨ (x1 = 25 ∧ x5 < x3) ∨ (x1 = 26 ∧ x5 ≤ x3) ∨ (x1 = 27 ∧ x3 = x5) ∨ (x1 = 28 ∧ x3 ≠ x5) then 1 else 0)), .int (wI x2), .ref 54] S σ τ Q
      refine i36e c_22_337 rfl (fun hc => ?_) (fun hc => ?_)
      · have t := iT t hc
        have ha91 : (x1 = 23 ∧ x3 < x5) ∨ (x1 = 24 ∧ x3 ≤ x5) ∨ (x1 = 25 ∧ x5 < x3) ∨ (x1 = 26 ∧ x5 ≤ x3) ∨ (x1 = 27 ∧ x3 = x5) ∨ (x1 = 28 ∧ x3 ≠ x5) := hc
        refine i2 c_22_340 (i38 c_22_341 rfl t)
      · have t := iF t hc
        have ha91 : ¬ ((x1 = 23 ∧ x3 < x5) ∨ (x1 = 24 ∧ x3 ≤ x5) ∨ (x1 = 25 ∧ x5 < x3) ∨ (x1 = 26 ∧ x5 ≤ x3) ∨ (x1 = 27 ∧ x3 = x5) ∨ (x1 = 28 ∧ x3 ≠ x5)) := hc
        exact t
  by_cases e : x1 = 26
  · refine i42 (o := 245) c_22_78 sw_0 26 e (by decide) (by decide) rfl rfl ?_
    obtain ⟨r92, t⟩ := t
    refine i5 c_22_323 rfl (i3 c_22_324 rfl (i3 c_22_325 rfl ?_))
    refine i36 c_22_327 r92 rfl (fun hc => ?_) (fun hc => ?_)
    · have t := iT t hc
      have ha93 : s0 = 0 := hc
      exact t
    · have t := iF t hc
      have ha93 : ¬ (s0 = 0) := hc
      obtain ⟨p94, t⟩ := t
      obtain ⟨p95, t⟩ := t
      obtain ⟨p96, t⟩ := t
      refine i3 c_22_330 rfl (i4 c_22_331 rfl (i4 c_22_332 rfl ?_))
      refine i81 (As := [.int (wI x1), .long (wJ x3), .long (wJ x5)]) (rest := [.int (wI x2), .ref 54]) c_22_334 mi_23 rfl rfl (Nat.le_of_ble_eq_true rfl) (Nat.le_of_ble_eq_true rfl) (q_23 p94 p95 p96 ?_)
      show wi (d + 8) 22 337 [.ref 54, .int (wI x1), .int (wI x2), .long (wJ x3), .retAddr 0, .long (wJ x5), .retAddr 0, .long (wJ x7), .retAddr 0, .int (wI s0)] [.int (wI (if (x1 = 23 ∧ x3 < x5) ∨ (x1 = 24 ∧ x3 ≤ x5) ∨ (x1 = 25 ∧ x5 < x3) ∨ (x1 = 26 ∧ x5 ≤ x3) ∨ (x1 = 27 ∧ x3 = x5) ∨ (x1 = 28 ∧ x3 ≠ x5) then 1 else 0)), .int (wI x2), .ref 54] S σ τ Q
      refine i36e c_22_337 rfl (fun hc => ?_) (fun hc => ?_)
      · have t := iT t hc
        have ha97 : (x1 = 23 ∧ x3 < x5) ∨ (x1 = 24 ∧ x3 ≤ x5) ∨ (x1 = 25 ∧ x5 < x3) ∨ (x1 = 26 ∧ x5 ≤ x3) ∨ (x1 = 27 ∧ x3 = x5) ∨ (x1 = 28 ∧ x3 ≠ x5) := hc
        refine i2 c_22_340 (i38 c_22_341 rfl t)
      · have t := iF t hc
        have ha97 : ¬ ((x1 = 23 ∧ x3 < x5) ∨ (x1 = 24 ∧ x3 ≤ x5) ∨ (x1 = 25 ∧ x5 < x3) ∨ (x1 = 26 ∧ x5 ≤ x3) ∨ (x1 = 27 ∧ x3 = x5) ∨ (x1 = 28 ∧ x3 ≠ x5)) := hc
        exact t
  by_cases e : x1 = 27
  · refine i42 (o := 245) c_22_78 sw_0 27 e (by decide) (by decide) rfl rfl ?_
    obtain ⟨r98, t⟩ := t
    refine i5 c_22_323 rfl (i3 c_22_324 rfl (i3 c_22_325 rfl ?_))
    refine i36 c_22_327 r98 rfl (fun hc => ?_) (fun hc => ?_)
    · have t := iT t hc
      have ha99 : s0 = 0 := hc
      exact t
    · have t := iF t hc
      have ha99 : ¬ (s0 = 0) := hc
      obtain ⟨p100, t⟩ := t
      obtain ⟨p101, t⟩ := t
      obtain ⟨p102, t⟩ := t
      refine i3 c_22_330 rfl (i4 c_22_331 rfl (i4 c_22_332 rfl ?_))
      refine i81 (As := [.int (wI x1), .long (wJ x3), .long (wJ x5)]) (rest := [.int (wI x2), .ref 54]) c_22_334 mi_23 rfl rfl (Nat.le_of_ble_eq_true rfl) (Nat.le_of_ble_eq_true rfl) (q_23 p100 p101 p102 ?_)
      show wi (d + 8) 22 337 [.ref 54, .int (wI x1), .int (wI x2), .long (wJ x3), .retAddr 0, .long (wJ x5), .retAddr 0, .long (wJ x7), .retAddr 0, .int (wI s0)] [.int (wI (if (x1 = 23 ∧ x3 < x5) ∨ (x1 = 24 ∧ x3 ≤ x5) ∨ (x1 = 25 ∧ x5 < x3) ∨ (x1 = 26 ∧ x5 ≤ x3) ∨ (x1 = 27 ∧ x3 = x5) ∨ (x1 = 28 ∧ x3 ≠ x5) then 1 else 0)), .int (wI x2), .ref 54] S σ τ Q
      refine i36e c_22_337 rfl (fun hc => ?_) (fun hc => ?_)
      · have t := iT t hc
        have ha103 : (x1 = 23 ∧ x3 < x5) ∨ (x1 = 24 ∧ x3 ≤ x5) ∨ (x1 = 25 ∧ x5 < x3) ∨ (x1 = 26 ∧ x5 ≤ x3) ∨ (x1 = 27 ∧ x3 = x5) ∨ (x1 = 28 ∧ x3 ≠ x5) := hc
        refine i2 c_22_340 (i38 c_22_341 rfl t)
      · have t := iF t hc
        have ha103 : ¬ ((x1 = 23 ∧ x3 < x5) ∨ (x1 = 24 ∧ x3 ≤ x5) ∨ (x1 = 25 ∧ x5 < x3) ∨ (x1 = 26 ∧ x5 ≤ x3) ∨ (x1 = 27 ∧ x3 = x5) ∨ (x1 = 28 ∧ x3 ≠ x5)) := hc
        exact t
  by_cases e : x1 = 28
  · refine i42 (o := 245) c_22_78 sw_0 28 e (by decide) (by decide) rfl rfl ?_
    obtain ⟨r104, t⟩ := t
    refine i5 c_22_323 rfl (i3 c_22_324 rfl (i3 c_22_325 rfl ?_))
    refine i36 c_22_327 r104 rfl (fun hc => ?_) (fun hc => ?_)
    · have t := iT t hc
      have ha105 : s0 = 0 := hc
      exact t
    · have t := iF t hc
      have ha105 : ¬ (s0 = 0) := hc
      obtain ⟨p106, t⟩ := t
      obtain ⟨p107, t⟩ := t
      obtain ⟨p108, t⟩ := t
      refine i3 c_22_330 rfl (i4 c_22_331 rfl (i4 c_22_332 rfl ?_))
      refine i81 (As := [.int (wI x1), .long (wJ x3), .long (wJ x5)]) (rest := [.int (wI x2), .ref 54]) c_22_334 mi_23 rfl rfl (Nat.le_of_ble_eq_true rfl) (Nat.le_of_ble_eq_true rfl) (q_23 p106 p107 p108 ?_)
      show wi (d + 8) 22 337 [.ref 54, .int (wI x1), .int (wI x2), .long (wJ x3), .retAddr 0, .long (wJ x5), .retAddr 0, .long (wJ x7), .retAddr 0, .int (wI s0)] [.int (wI (if (x1 = 23 ∧ x3 < x5) ∨ (x1 = 24 ∧ x3 ≤ x5) ∨ (x1 = 25 ∧ x5 < x3) ∨ (x1 = 26 ∧ x5 ≤ x3) ∨ (x1 = 27 ∧ x3 = x5) ∨ (x1 = 28 ∧ x3 ≠ x5) then 1 else 0)), .int (wI x2), .ref 54] S σ τ Q
      refine i36e c_22_337 rfl (fun hc => ?_) (fun hc => ?_)
      · have t := iT t hc
        have ha109 : (x1 = 23 ∧ x3 < x5) ∨ (x1 = 24 ∧ x3 ≤ x5) ∨ (x1 = 25 ∧ x5 < x3) ∨ (x1 = 26 ∧ x5 ≤ x3) ∨ (x1 = 27 ∧ x3 = x5) ∨ (x1 = 28 ∧ x3 ≠ x5) := hc
        refine i2 c_22_340 (i38 c_22_341 rfl t)
      · have t := iF t hc
        have ha109 : ¬ ((x1 = 23 ∧ x3 < x5) ∨ (x1 = 24 ∧ x3 ≤ x5) ∨ (x1 = 25 ∧ x5 < x3) ∨ (x1 = 26 ∧ x5 ≤ x3) ∨ (x1 = 27 ∧ x3 = x5) ∨ (x1 = 28 ∧ x3 ≠ x5)) := hc
        exact t
  refine i42d c_22_78 sw_0 r1 (by omega) rfl ?_
  obtain ⟨r38, t⟩ := t
  refine i5 c_22_323 rfl (i3 c_22_324 rfl (i3 c_22_325 rfl ?_))
  refine i36 c_22_327 r38 rfl (fun hc => ?_) (fun hc => ?_)
  · have t := iT t hc
    have ha39 : s0 = 0 := hc
    exact t
  · have t := iF t hc
    have ha39 : ¬ (s0 = 0) := hc
    obtain ⟨p40, t⟩ := t
    obtain ⟨p41, t⟩ := t
    obtain ⟨p42, t⟩ := t
    refine i3 c_22_330 rfl (i4 c_22_331 rfl (i4 c_22_332 rfl ?_))
    refine i81 (As := [.int (wI x1), .long (wJ x3), .long (wJ x5)]) (rest := [.int (wI x2), .ref 54]) c_22_334 mi_23 rfl rfl (Nat.le_of_ble_eq_true rfl) (Nat.le_of_ble_eq_true rfl) (q_23 p40 p41 p42 ?_)
    show wi (d + 8) 22 337 [.ref 54, .int (wI x1), .int (wI x2), .long (wJ x3), .retAddr 0, .long (wJ x5), .retAddr 0, .long (wJ x7), .retAddr 0, .int (wI s0)] [.int (wI (if (x1 = 23 ∧ x3 < x5) ∨ (x1 = 24 ∧ x3 ≤ x5) ∨ (x1 = 25 ∧ x5 < x3) ∨ (x1 = 26 ∧ x5 ≤ x3) ∨ (x1 = 27 ∧ x3 = x5) ∨ (x1 = 28 ∧ x3 ≠ x5) then 1 else 0)), .int (wI x2), .ref 54] S σ τ Q
    refine i36e c_22_337 rfl (fun hc => ?_) (fun hc => ?_)
    · have t := iT t hc
      have ha43 : (x1 = 23 ∧ x3 < x5) ∨ (x1 = 24 ∧ x3 ≤ x5) ∨ (x1 = 25 ∧ x5 < x3) ∨ (x1 = 26 ∧ x5 ≤ x3) ∨ (x1 = 27 ∧ x3 = x5) ∨ (x1 = 28 ∧ x3 ≠ x5) := hc
      refine i2 c_22_340 (i38 c_22_341 rfl t)
    · have t := iF t hc
      have ha43 : ¬ ((x1 = 23 ∧ x3 < x5) ∨ (x1 = 24 ∧ x3 ≤ x5) ∨ (x1 = 25 ∧ x5 < x3) ∨ (x1 = 26 ∧ x5 ≤ x3) ∨ (x1 = 27 ∧ x3 = x5) ∨ (x1 = 28 ∧ x3 ≠ x5)) := hc
      exact t
set_option maxRecDepth 20000 in
theorem u_22_235 {d : Nat} {S : zS} {σ τ : zI} {Q : zQ} {x1 : Int} {x2 : Int} {x3 : Int} {x5 : Int} {x7 : Int} {x9 : Int} {s1 : Int} {s2 : Int} {s3 : Int} (t : ((0 : Int) ≤ s1 ∧ s1 < (64 : Int)) ∧ ((-2000000000000000000 : Int) ≤ s2 ∧ s2 ≤ (2000000000000000000 : Int)) ∧ ((-2000000000000000000 : Int) ≤ s3 ∧ s3 ≤ (2000000000000000000 : Int)) ∧ wi (d + 8) 22 349 [.ref 54, .int (wI x1), .int (wI x2), .long (wJ x3), .retAddr 0, .long (wJ x5), .retAddr 0, .long (wJ x7), .retAddr 0, .int (wI x9)] [] S σ (uc (uc τ 56 (u1 ((τ 56)) s1 (red s2 s3).1)) 57 (u1 ((τ 57)) s1 (red s2 s3).2)) Q) : wi (d + 8) 22 235 [.ref 54, .int (wI x1), .int (wI x2), .long (wJ x3), .retAddr 0, .long (wJ x5), .retAddr 0, .long (wJ x7), .retAddr 0, .int (wI x9)] [.long (wJ s3), .long (wJ s2), .int (wI s1), .ref 54] S σ τ Q := by
  obtain ⟨p1, t⟩ := t
  obtain ⟨p2, t⟩ := t
  obtain ⟨p3, t⟩ := t
  refine i80 (As := [.int (wI s1), .long (wJ s2), .long (wJ s3)]) (rest := []) c_22_235 mi_24 rfl rfl (Nat.le_of_ble_eq_true rfl) (Nat.le_of_ble_eq_true rfl) (lo (c := 54) (kd := 101) (n := 0) rfl (by decide)) (q_24 p1 p2 p3 ?_)
  show wi (d + 8) 22 238 [.ref 54, .int (wI x1), .int (wI x2), .long (wJ x3), .retAddr 0, .long (wJ x5), .retAddr 0, .long (wJ x7), .retAddr 0, .int (wI x9)] [] S σ (uc (uc τ 56 (u1 ((τ 56)) s1 (red s2 s3).1)) 57 (u1 ((τ 57)) s1 (red s2 s3).2)) Q
  refine i38 c_22_238 rfl t
set_option maxRecDepth 20000 in
theorem u_22_344 {d : Nat} {S : zS} {σ τ : zI} {Q : zQ} {x1 : Int} {x2 : Int} {x3 : Int} {x5 : Int} {x7 : Int} {x9 : Int} {s1 : Int} (t : wi (d + 8) 22 345 [.ref 54, .int (wI x1), .int (wI x2), .long (wJ x3), .retAddr 0, .long (wJ x5), .retAddr 0, .long (wJ x7), .retAddr 0, .int (wI x9)] [.long (wJ 0), .int (wI s1), .ref 54] S σ τ Q) : wi (d + 8) 22 344 [.ref 54, .int (wI x1), .int (wI x2), .long (wJ x3), .retAddr 0, .long (wJ x5), .retAddr 0, .long (wJ x7), .retAddr 0, .int (wI x9)] [.int (wI s1), .ref 54] S σ τ Q := by
  refine i2 c_22_344 t
set_option maxRecDepth 20000 in
theorem u_22_345 {d : Nat} {S : zS} {σ τ : zI} {Q : zQ} {x1 : Int} {x2 : Int} {x3 : Int} {x5 : Int} {x7 : Int} {x9 : Int} {s1 : Int} {s2 : Int} (t : ((0 : Int) ≤ s1 ∧ s1 < (64 : Int)) ∧ ((-2000000000000000000 : Int) ≤ s2 ∧ s2 ≤ (2000000000000000000 : Int)) ∧ ((-2000000000000000000 : Int) ≤ 1 ∧ 1 ≤ (2000000000000000000 : Int)) ∧ wi (d + 8) 22 349 [.ref 54, .int (wI x1), .int (wI x2), .long (wJ x3), .retAddr 0, .long (wJ x5), .retAddr 0, .long (wJ x7), .retAddr 0, .int (wI x9)] [] S σ (uc (uc τ 56 (u1 ((τ 56)) s1 (red s2 1).1)) 57 (u1 ((τ 57)) s1 (red s2 1).2)) Q) : wi (d + 8) 22 345 [.ref 54, .int (wI x1), .int (wI x2), .long (wJ x3), .retAddr 0, .long (wJ x5), .retAddr 0, .long (wJ x7), .retAddr 0, .int (wI x9)] [.long (wJ s2), .int (wI s1), .ref 54] S σ τ Q := by
  obtain ⟨p1, t⟩ := t
  obtain ⟨p2, t⟩ := t
  obtain ⟨p3, t⟩ := t
  refine i2 c_22_345 ?_
  refine i80 (As := [.int (wI s1), .long (wJ s2), .long (wJ 1)]) (rest := []) c_22_346 mi_24 rfl rfl (Nat.le_of_ble_eq_true rfl) (Nat.le_of_ble_eq_true rfl) (lo (c := 54) (kd := 101) (n := 0) rfl (by decide)) (q_24 p1 p2 p3 ?_)
  show wi (d + 8) 22 349 [.ref 54, .int (wI x1), .int (wI x2), .long (wJ x3), .retAddr 0, .long (wJ x5), .retAddr 0, .long (wJ x7), .retAddr 0, .int (wI x9)] [] S σ (uc (uc τ 56 (u1 ((τ 56)) s1 (red s2 1).1)) 57 (u1 ((τ 57)) s1 (red s2 1).2)) Q
  exact t
set_option maxRecDepth 20000 in
theorem u_22_349 {d : Nat} {S : zS} {σ τ : zI} {Q : zQ} {x1 : Int} {x2 : Int} {x3 : Int} {x5 : Int} {x7 : Int} {x9 : Int} (t : Q none S σ τ) : wi (d + 8) 22 349 [.ref 54, .int (wI x1), .int (wI x2), .long (wJ x3), .retAddr 0, .long (wJ x5), .retAddr 0, .long (wJ x7), .retAddr 0, .int (wI x9)] [] S σ τ Q := by
  exact i94 c_22_349 t
theorem q_22 {d : Nat} {S : zS} {σ τ : zI} {Q : zQ} {step : Int} {at_ : Int} {o : Int} (p0 : (0 : Int) ≤ at_ ∧ at_ < (63 : Int)) (p1 : frN (τ 56 at_) (τ 57 at_)) (p2 : frN (τ 56 (at_ + 1)) (τ 57 (at_ + 1))) (p3 : ((3 : Int) ≤ o ∧ o ≤ 8 ∨ 10 ≤ o ∧ o ≤ 15 ∨ o = 21 ∨ o = 22) ∧ step * 10000 = stE o 0) (p4 : 21 ≤ o → (0 ≤ τ 56 at_ ∧ τ 56 at_ ≤ 1) ∧ (0 ≤ τ 56 (at_ + 1) ∧ τ 56 (at_ + 1) ≤ 1)) (t : Q none S σ (uc (uc τ 56 (u1 (τ 56) at_ (jn o (τ 56 at_) (τ 57 at_) (τ 56 (at_ + 1)) (τ 57 (at_ + 1))).1)) 57 (u1 (τ 57) at_ (jn o (τ 56 at_) (τ 57 at_) (τ 56 (at_ + 1)) (τ 57 (at_ + 1))).2))) : wc (d + 8) 22 [.ref 54, .int (wI step), .int (wI at_)] S σ τ Q := by
  refine wc_of mi_22 rfl (u_22_0 ⟨by omega, ?_⟩)
  rw [if_neg (by omega)]
  refine ⟨by omega, ?_⟩
  rw [if_pos (by omega)]
  have fin : ∀ X Y, red X Y = jn o (τ 56 at_) (τ 57 at_) (τ 56 (at_ + 1)) (τ 57 (at_ + 1)) → ∀ x3 x5 x7 x9, wi (d + 8) 22 349 [.ref 54, .int (wI step), .int (wI at_), .long (wJ x3), .retAddr 0, .long (wJ x5), .retAddr 0, .long (wJ x7), .retAddr 0, .int (wI x9)] [] S σ (uc (uc τ 56 (u1 (τ 56) at_ (red X Y).1)) 57 (u1 (τ 57) at_ (red X Y).2)) Q := fun X Y h x3 x5 x7 x9 => u_22_349 (by rw [h]; exact t)
  clear t
  generalize hvp : τ 56 at_ = p at *
  generalize hvq : τ 57 at_ = q at *
  generalize hvr : τ 56 (at_ + 1) = r at *
  generalize hvs : τ 57 (at_ + 1) = s at *
  have b1 := mb9 (x := p) (y := s) (by omega) (by omega)
  have b2 := mb9 (x := r) (y := q) (by omega) (by omega)
  have b3 := mb9 (x := q) (y := s) (by omega) (by omega)
  have b4 := mb9 (x := p) (y := r) (by omega) (by omega)
  have z0 := qs_0 p1 p2
  have mid : ∀ z, (z = 0 ∧ (q = 0 ∨ s = 0) ∨ z = 1 ∧ ¬ (q = 0 ∨ s = 0)) → ∀ y9, wi (d + 8) 22 75 [.ref 54, .int (wI step), .int (wI at_), .long (wJ (p * s)), .retAddr 0, .long (wJ (r * q)), .retAddr 0, .long (wJ (q * s)), .retAddr 0, y9] [.int (wI z)] S σ τ Q := fun z hz y9 => by
    have e3 := jn_3 p1 p2
    have e4 := jn_4 p1 p2
    have e5 := jn_5 p1 p2
    have e7 := jn_7 p1 p2
    have e8 := jn_8 p1 p2
    have e6 := fun h => jn_6 (p := p) (q := q) (r := r) (s := s) h
    have e60 := fun h => jn_60 (p := p) (q := q) (r := r) (s := s) h
    have ep : 21 ≤ o → red (p * r) 1 = (p * r, 1) := fun h => red_1 (by
      have h := p4 h
      have : p = 0 ∨ p = 1 := by omega
      rcases this with h2 | h2 <;> rw [h2] <;> omega)
    have em : 21 ≤ o → red (max p r) 1 = (max p r, 1) := fun h => red_1 (by have := p4 h; omega)
    have c0 : (q = 0 ∨ s = 0) → cm2 o p q r s = false := fun h => by unfold cm2; rw [if_pos h]
    have c1 : ¬ (q = 0 ∨ s = 0) → cm2 o p q r s = if o = 10 then decide (p * s < r * q) else if o = 11 then decide (p * s ≤ r * q) else if o = 12 then decide (r * q < p * s) else if o = 13 then decide (r * q ≤ p * s) else if o = 14 then decide (p * s = r * q) else decide (p * s ≠ r * q) := fun h => by unfold cm2; rw [if_neg h]
    generalize hps : p * s = ps at *
    generalize hrq : r * q = rq at *
    generalize hqs : q * s = qs at *
    generalize hpr : p * r = pr at *
    have nil : 10 ≤ o → o ≤ 15 → cm2 o p q r s = false → ∀ x7 x9, wi (d + 8) 22 344 [.ref 54, .int (wI step), .int (wI at_), .long (wJ ps), .retAddr 0, .long (wJ rq), .retAddr 0, .long (wJ x7), .retAddr 0, .int (wI x9)] [.int (wI at_), .ref 54] S σ τ Q := fun ho ho2 h x7 x9 => by
      refine u_22_344 (u_22_345 ⟨by omega, by omega, by omega, ?_⟩)
      refine fin _ _ ?_ _ _ _ _
      rw [red_1 (by omega)]
      unfold jn
      rw [if_neg (by omega), if_pos (by omega), h]
      rfl
    have one : 10 ≤ o → o ≤ 15 → cm2 o p q r s = true → ∀ x7 x9, wi (d + 8) 22 345 [.ref 54, .int (wI step), .int (wI at_), .long (wJ ps), .retAddr 0, .long (wJ rq), .retAddr 0, .long (wJ x7), .retAddr 0, .int (wI x9)] [.long (wJ 1), .int (wI at_), .ref 54] S σ τ Q := fun ho ho2 h x7 x9 => by
      refine u_22_345 ⟨by omega, by omega, by omega, ?_⟩
      refine fin _ _ ?_ _ _ _ _
      rw [red_1 (by omega)]
      unfold jn
      rw [if_neg (by omega), if_pos (by omega), h]
      rfl
    obtain ⟨ho, hst⟩ := p3
    unfold jn at fin
    refine u_22_75 ?_
    have cmp : (10 ≤ o ∧ o ≤ 15) → step = 13 + o := fun h => by
      rw [stE_c h] at hst
      omega
    have hstep : 0 ≤ step ∧ step ≤ 100 := by
      obtain ⟨K, _, k2, _, _, _, _, k7⟩ := stE_j (V := 0) ho
      rw [k2] at hst
      omega
    by_cases hc : 10 ≤ o ∧ o ≤ 15
    · have hs := cmp hc
      clear fin hst
      refine ⟨by omega, ?_⟩
      rw [if_neg (by omega), if_neg (by omega), if_neg (by omega), if_neg (by omega), if_neg (by omega), if_neg (by omega), if_neg (by omega), if_neg (by omega)]
      refine ⟨by omega, ?_⟩
      refine ifI (fun c => nil hc.1 hc.2 (c0 (by omega)) _ _) (fun c => ⟨by omega, by omega, by omega, ?_⟩)
      have c1 := c1 (by omega)
      refine ifI (fun c2 => one hc.1 hc.2 ?_ _ _) (fun c2 => nil hc.1 hc.2 ?_ _ _)
      · rw [c1]
        repeat' split
        all_goals first | (rw [decide_eq_true_eq]; omega)
      · rw [c1]
        repeat' split
        all_goals first | (rw [decide_eq_false_iff_not]; omega)
    · clear nil one cmp c0 c1
      have : o = 3 ∨ o = 4 ∨ o = 5 ∨ o = 6 ∨ o = 7 ∨ o = 8 ∨ o = 21 ∨ o = 22 := by omega
      refine ⟨by omega, ?_⟩
      rcases this with h | h | h | h | h | h | h | h <;> subst h
      · have hs : step = 29 := by rw [show stE 3 0 = 290000 from rfl] at hst; omega
        subst hs
        rw [if_neg (by decide), if_neg (by decide), if_neg (by decide), if_neg (by decide), if_pos rfl]
        exact ⟨by omega, by omega, by omega, fin _ _ (by rw [e3]; rfl) _ _ _ _⟩
      · have hs : step = 30 := by rw [show stE 4 0 = 300000 from rfl] at hst; omega
        subst hs
        rw [if_neg (by decide), if_neg (by decide), if_neg (by decide), if_neg (by decide), if_neg (by decide), if_pos rfl]
        exact ⟨by omega, by omega, by omega, fin _ _ (by rw [e4]; rfl) _ _ _ _⟩
      · have hs : step = 31 := by rw [show stE 5 0 = 310000 from rfl] at hst; omega
        subst hs
        rw [if_neg (by decide), if_neg (by decide), if_neg (by decide), if_neg (by decide), if_neg (by decide), if_neg (by decide), if_pos rfl, hvp, hvr, hpr]
        exact ⟨by omega, by omega, by omega, by omega, by omega, fin _ _ (by rw [e5]; rfl) _ _ _ _⟩
      · have hs : step = 32 := by rw [show stE 6 0 = 320000 from rfl] at hst; omega
        subst hs
        rw [if_neg (by decide), if_neg (by decide), if_neg (by decide), if_neg (by decide), if_neg (by decide), if_neg (by decide), if_neg (by decide), if_pos rfl]
        refine ⟨by omega, ?_⟩
        refine ifI (fun c => ?_) (fun c => ?_)
        · refine u_22_235 ⟨by omega, by omega, by omega, fin _ _ (by rw [e60 (by omega)]; rfl) _ _ _ _⟩
        · refine u_22_235 ⟨by omega, by omega, by omega, fin _ _ (by rw [e6 (by omega)]; rfl) _ _ _ _⟩
      · have hs : step = 21 := by rw [show stE 7 0 = 210000 from rfl] at hst; omega
        subst hs
        rw [if_neg (by decide), if_neg (by decide), if_pos rfl]
        exact ⟨by omega, by omega, by omega, by omega, by omega, fin _ _ (by rw [e7]; rfl) _ _ _ _⟩
      · have hs : step = 22 := by rw [show stE 8 0 = 220000 from rfl] at hst; omega
        subst hs
        rw [if_neg (by decide), if_neg (by decide), if_neg (by decide), if_pos rfl]
        exact ⟨by omega, by omega, by omega, by omega, by omega, fin _ _ (by rw [e8]; rfl) _ _ _ _⟩
      · have hs : step = 15 := by rw [show stE 21 0 = 150000 from rfl] at hst; omega
        subst hs
        rw [if_neg (by decide), if_pos rfl, hvp, hvr, hpr]
        exact ⟨by omega, by omega, by omega, by omega, by omega, fin _ _ (by rw [ep (by omega), ← hpr]; rfl) _ _ _ _⟩
      · have hs : step = 14 := by rw [show stE 22 0 = 140000 from rfl] at hst; omega
        subst hs
        rw [if_pos rfl, hvp, hvr]
        exact ⟨by omega, by omega, by omega, by omega, by omega, fin _ _ (by rw [em (by omega)]; rfl) _ _ _ _⟩
  refine ⟨by omega, by omega, by omega, ?_⟩
  exact ifI (fun c => mid 0 (Or.inl ⟨rfl, z0.mp c⟩) _) (fun c => mid 1 (Or.inr ⟨rfl, fun h => c (z0.mpr h)⟩) _)
/-- the class's one pile: truths below, FRACTIONS above -/
def cl_ (s : eS) : List (Int × Int) := s.1 ++ s.2.map (fun b => (b1_ b, 1))
def CRs (u l : Int → Int) : List (Int × Int) → Prop
  | [] => True
  | x :: t => (u (t.length + 1) = x.1 ∧ l (t.length + 1) = x.2 ∧ frN x.1 x.2) ∧ CRs u l t
theorem CRs_c {u l u' l' : Int → Int} : ∀ {fs : List (Int × Int)}, (∀ k : Int, 1 ≤ k → k ≤ fs.length → u' k = u k ∧ l' k = l k) → CRs u l fs → CRs u' l' fs
  | [], _, _ => trivial
  | x :: t, h, q => by
    have e := h (t.length + 1) (by omega) (by rw [List.length_cons]; omega)
    exact ⟨⟨by rw [e.1]; exact q.1.1, by rw [e.2]; exact q.1.2.1, q.1.2.2⟩, CRs_c (fun k h0 h1 => h k h0 (by rw [List.length_cons]; omega)) q.2⟩
theorem cl_len (s : eS) : ((cl_ s).length : Int) = s.1.length + s.2.length := by
  unfold cl_
  rw [List.length_append, List.length_map]
  omega
theorem b1_01 (b : Bool) : 0 ≤ b1_ b ∧ b1_ b ≤ 1 := by cases b <;> decide
theorem tdv {z k r : Int} (h : z = k * 10000 + r) (h0 : 0 ≤ k) (h1 : 0 ≤ r ∧ r < 10000) : z.tdiv 10000 = k ∧ z.tmod 10000 = r := by
  rw [Int.tdiv_eq_ediv_of_nonneg (by omega), Int.tmod_eq_emod_of_nonneg (by omega)]
  omega
theorem cl_0 {s : eS} {x : Int × Int} : cl_ (x :: s.1, s.2) = x :: cl_ s := rfl
theorem cl_2 {kv : Int → Int} {V : Int} {s : eS} (h : ok1 2 V s.1.length s.2.length) : ∃ X T, cl_ s = X :: T ∧ cl_ (ev1 kv 2 V s) = (-X.1, X.2) :: T := by
  obtain ⟨fs, bs⟩ := s
  unfold ok1 at h
  obtain ⟨x, t, e⟩ := len1 (l := fs) (by dsimp only at h; omega)
  subst e
  exact ⟨x, _, rfl, rfl⟩
theorem cl_20 {kv : Int → Int} {V : Int} {s : eS} (h : ok1 20 V s.1.length s.2.length) : ∃ b T, cl_ s = (b1_ b, 1) :: T ∧ cl_ (ev1 kv 20 V s) = (b1_ (!b), 1) :: T := by
  obtain ⟨fs, bs⟩ := s
  unfold ok1 at h
  obtain ⟨x, t, e⟩ := len1 (l := bs) (by dsimp only at h; omega)
  subst e
  have : fs = [] := List.length_eq_zero_iff.mp (by dsimp only at h; omega)
  subst this
  exact ⟨x, _, rfl, rfl⟩
theorem cl_j {kv : Int → Int} {O V : Int} {s : eS} (h : ok1 O V s.1.length s.2.length) (hO : 3 ≤ O ∧ O ≤ 8 ∨ 10 ≤ O ∧ O ≤ 15 ∨ O = 21 ∨ O = 22) : ∃ Y X T, cl_ s = Y :: X :: T ∧ cl_ (ev1 kv O V s) = jn O X.1 X.2 Y.1 Y.2 :: T ∧ (21 ≤ O → (0 ≤ X.1 ∧ X.1 ≤ 1) ∧ (0 ≤ Y.1 ∧ Y.1 ≤ 1)) := by
  obtain ⟨fs, bs⟩ := s
  unfold ok1 at h
  dsimp only at h
  by_cases c : O ≤ 15
  · obtain ⟨y, x, t, e⟩ := len2 (l := fs) (by omega)
    subst e
    by_cases c2 : O ≤ 8
    · refine ⟨y, x, _, rfl, ?_, fun h => by omega⟩
      rw [ev1_3 (by omega)]
      unfold jn
      rw [if_pos c2]
      rfl
    · have : t = [] := List.length_eq_zero_iff.mp (by rw [List.length_cons, List.length_cons] at h; omega)
      subst this
      refine ⟨y, x, _, rfl, ?_, fun h => by omega⟩
      rw [ev1_10 (by omega)]
      unfold jn
      rw [if_neg c2, if_pos c]
      rfl
  · obtain ⟨y, x, t, e⟩ := len2 (l := bs) (by omega)
    subst e
    have : fs = [] := List.length_eq_zero_iff.mp (by omega)
    subst this
    refine ⟨(b1_ y, 1), (b1_ x, 1), _, rfl, ?_, fun _ => ⟨b1_01 _, b1_01 _⟩⟩
    unfold jn
    rw [if_neg (by omega), if_neg c]
    have : O = 21 ∨ O = 22 := by omega
    rcases this with h | h <;> subst h
    · rw [if_pos rfl, ev1_21]
      cases x <;> cases y <;> rfl
    · rw [if_neg (by decide), ev1_22]
      cases x <;> cases y <;> rfl
/-- what run of the class leaves alone -/
def Fr9 (τ τ1 : zI) : Prop := (∀ c, c ≠ 56 → c ≠ 57 → τ1 c = τ c) ∧ τ1 56 0 = τ 56 0 ∧ τ1 57 0 = τ 57 0
theorem Fr9_2 {τ τ' : zI} {f g : Int → Int} (h : Fr9 τ τ') (hf : f 0 = τ' 56 0) (hg : g 0 = τ' 57 0) : Fr9 τ (uc (uc τ' 56 f) 57 g) := ⟨fun c h1 h2 => by rw [uc_n h2, uc_n h1]; exact h.1 c h1 h2, by rw [uc_n (by decide), uc_s, hf]; exact h.2.1, by rw [uc_s, hg]; exact h.2.2⟩
theorem Fr9_1 {τ τ' : zI} {f : Int → Int} (h : Fr9 τ τ') (hf : f 0 = τ' 56 0) : Fr9 τ (uc τ' 56 f) := ⟨fun c h1 h2 => by rw [uc_n h1]; exact h.1 c h1 h2, by rw [uc_s, hf]; exact h.2.1, by rw [uc_n (by decide)]; exact h.2.2⟩
theorem i56_ {τ : zI} {f g : Int → Int} : (uc (uc τ 56 f) 57 g) 56 = f := by rw [uc_n (by decide), uc_s]
theorem i57_ {τ : zI} {f g : Int → Int} : (uc (uc τ 56 f) 57 g) 57 = g := by rw [uc_s]
theorem vKr {σ : zI} {t : Nat} {a : Int → Int} (h : RT σ t a) {kind v : Int} (hk : 0 ≤ kind ∧ kind ≤ 5) (hv : 1 ≤ v ∧ v ≤ 4) : ra_ (σ (t + 1) 2) (σ (t + 2)) 6 kind (0 + (16 + v) - 17) = a (20 + 8 * kind + v) := by
  have e : ra_ (σ (t + 1) 2) (σ (t + 2)) 6 kind (0 + (16 + v) - 17) = rt_ (σ (t + 1) 2) (σ (t + 2)) 6 (v - 1) kind := by
    unfold ra_ rt_
    rw [cK h, if_pos (by omega), if_pos (by omega), show 0 + (16 + v) - 17 = v - 1 by omega]
  rw [e]
  have : v = 1 ∨ v = 2 ∨ v = 3 ∨ v = 4 := by omega
  rcases this with h1 | h1 | h1 | h1 <;> subst h1
  · exact vK0 h hk
  · exact vK1 h hk
  · exact vK2 h hk
  · exact vK3 h hk
-- method 21: MillTown$Law.run(LMillTown$Text;IILMillTown$Rows;I)V
theorem c_21_0 : pg_cd 21 0 = (1, 1, 0, 0, 0) := by decide +kernel
theorem c_21_1 : pg_cd 21 1 = (6, 2, 0, 6, 0) := by decide +kernel
theorem c_21_3 : pg_cd 21 3 = (3, 1, 0, 2, 0) := by decide +kernel
theorem c_21_4 : pg_cd 21 4 = (6, 2, 0, 7, 0) := by decide +kernel
theorem c_21_6 : pg_cd 21 6 = (3, 2, 0, 7, 0) := by decide +kernel
theorem c_21_8 : pg_cd 21 8 = (36, 3, 0, 2, 192) := by decide +kernel
theorem c_21_11 : pg_cd 21 11 = (3, 2, 0, 7, 0) := by decide +kernel
theorem c_21_13 : pg_cd 21 13 = (3, 1, 0, 3, 0) := by decide +kernel
theorem c_21_14 : pg_cd 21 14 = (37, 3, 0, 3, 186) := by decide +kernel
theorem c_21_17 : pg_cd 21 17 = (3, 2, 0, 7, 0) := by decide +kernel
theorem c_21_19 : pg_cd 21 19 = (5, 1, 0, 1, 0) := by decide +kernel
theorem c_21_20 : pg_cd 21 20 = (43, 7, 105, 2, 0) := by decide +kernel
theorem c_21_23 : pg_cd 21 23 = (37, 3, 0, 3, 177) := by decide +kernel
theorem c_21_26 : pg_cd 21 26 = (5, 1, 0, 1, 0) := by decide +kernel
theorem c_21_27 : pg_cd 21 27 = (45, 7, 108, 1, 0) := by decide +kernel
theorem c_21_30 : pg_cd 21 30 = (3, 2, 0, 7, 0) := by decide +kernel
theorem c_21_32 : pg_cd 21 32 = (50, 1, 0, 0, 0) := by decide +kernel
theorem c_21_33 : pg_cd 21 33 = (1, 3, 0, 0, 10000) := by decide +kernel
theorem c_21_36 : pg_cd 21 36 = (16, 1, 0, 0, 0) := by decide +kernel
theorem c_21_37 : pg_cd 21 37 = (6, 2, 0, 8, 0) := by decide +kernel
theorem c_21_39 : pg_cd 21 39 = (3, 2, 0, 8, 0) := by decide +kernel
theorem c_21_41 : pg_cd 21 41 = (1, 1, 0, 0, 2) := by decide +kernel
theorem c_21_42 : pg_cd 21 42 = (37, 3, 0, 0, 17) := by decide +kernel
theorem c_21_45 : pg_cd 21 45 = (3, 2, 0, 8, 0) := by decide +kernel
theorem c_21_47 : pg_cd 21 47 = (1, 2, 0, 0, 17) := by decide +kernel
theorem c_21_49 : pg_cd 21 49 = (37, 3, 0, 2, 77) := by decide +kernel
theorem c_21_52 : pg_cd 21 52 = (3, 2, 0, 8, 0) := by decide +kernel
theorem c_21_54 : pg_cd 21 54 = (1, 2, 0, 0, 20) := by decide +kernel
theorem c_21_56 : pg_cd 21 56 = (37, 3, 0, 4, 70) := by decide +kernel
theorem c_21_59 : pg_cd 21 59 = (3, 2, 0, 6, 0) := by decide +kernel
theorem c_21_61 : pg_cd 21 61 = (1, 1, 0, 0, 1) := by decide +kernel
theorem c_21_62 : pg_cd 21 62 = (10, 1, 0, 0, 0) := by decide +kernel
theorem c_21_63 : pg_cd 21 63 = (1, 2, 0, 0, 64) := by decide +kernel
theorem c_21_65 : pg_cd 21 65 = (37, 3, 0, 2, 4) := by decide +kernel
theorem c_21_68 : pg_cd 21 68 = (94, 0, 0, 0, 0) := by decide +kernel
theorem c_21_69 : pg_cd 21 69 = (9, 3, 0, 6, 1) := by decide +kernel
theorem c_21_72 : pg_cd 21 72 = (5, 1, 0, 0, 0) := by decide +kernel
theorem c_21_73 : pg_cd 21 73 = (45, 1, 17, 1, 0) := by decide +kernel
theorem c_21_76 : pg_cd 21 76 = (3, 2, 0, 6, 0) := by decide +kernel
theorem c_21_78 : pg_cd 21 78 = (3, 2, 0, 8, 0) := by decide +kernel
theorem c_21_80 : pg_cd 21 80 = (1, 1, 0, 0, 2) := by decide +kernel
theorem c_21_81 : pg_cd 21 81 = (37, 3, 0, 1, 18) := by decide +kernel
theorem c_21_84 : pg_cd 21 84 = (5, 1, 0, 1, 0) := by decide +kernel
theorem c_21_85 : pg_cd 21 85 = (45, 7, 108, 1, 0) := by decide +kernel
theorem c_21_88 : pg_cd 21 88 = (3, 2, 0, 7, 0) := by decide +kernel
theorem c_21_90 : pg_cd 21 90 = (50, 1, 0, 0, 0) := by decide +kernel
theorem c_21_91 : pg_cd 21 91 = (1, 3, 0, 0, 10000) := by decide +kernel
theorem c_21_94 : pg_cd 21 94 = (17, 1, 0, 0, 0) := by decide +kernel
theorem c_21_95 : pg_cd 21 95 = (31, 1, 0, 0, 0) := by decide +kernel
theorem c_21_96 : pg_cd 21 96 = (38, 3, 0, 0, 18) := by decide +kernel
theorem c_21_99 : pg_cd 21 99 = (5, 2, 0, 4, 0) := by decide +kernel
theorem c_21_101 : pg_cd 21 101 = (3, 2, 0, 5, 0) := by decide +kernel
theorem c_21_103 : pg_cd 21 103 = (1, 1, 0, 0, 0) := by decide +kernel
theorem c_21_104 : pg_cd 21 104 = (3, 2, 0, 8, 0) := by decide +kernel
theorem c_21_106 : pg_cd 21 106 = (10, 1, 0, 0, 0) := by decide +kernel
theorem c_21_107 : pg_cd 21 107 = (1, 2, 0, 0, 17) := by decide +kernel
theorem c_21_109 : pg_cd 21 109 = (11, 1, 0, 0, 0) := by decide +kernel
theorem c_21_110 : pg_cd 21 110 = (80, 55, 47, 0, 0) := by decide +kernel
theorem c_21_113 : pg_cd 21 113 = (31, 1, 0, 0, 0) := by decide +kernel
theorem c_21_114 : pg_cd 21 114 = (56, 1, 0, 0, 0) := by decide +kernel
theorem c_21_115 : pg_cd 21 115 = (5, 1, 0, 0, 0) := by decide +kernel
theorem c_21_116 : pg_cd 21 116 = (45, 1, 21, 2, 0) := by decide +kernel
theorem c_21_119 : pg_cd 21 119 = (3, 2, 0, 6, 0) := by decide +kernel
theorem c_21_121 : pg_cd 21 121 = (2, 1, 0, 0, 1) := by decide +kernel
theorem c_21_122 : pg_cd 21 122 = (56, 1, 0, 0, 0) := by decide +kernel
theorem c_21_123 : pg_cd 21 123 = (38, 3, 0, 0, 71) := by decide +kernel
theorem c_21_126 : pg_cd 21 126 = (3, 2, 0, 8, 0) := by decide +kernel
theorem c_21_128 : pg_cd 21 128 = (1, 2, 0, 0, 37) := by decide +kernel
theorem c_21_130 : pg_cd 21 130 = (37, 3, 0, 1, 21) := by decide +kernel
theorem c_21_133 : pg_cd 21 133 = (5, 1, 0, 0, 0) := by decide +kernel
theorem c_21_134 : pg_cd 21 134 = (45, 1, 17, 1, 0) := by decide +kernel
theorem c_21_137 : pg_cd 21 137 = (3, 2, 0, 6, 0) := by decide +kernel
theorem c_21_139 : pg_cd 21 139 = (5, 1, 0, 0, 0) := by decide +kernel
theorem c_21_140 : pg_cd 21 140 = (45, 1, 17, 1, 0) := by decide +kernel
theorem c_21_143 : pg_cd 21 143 = (3, 2, 0, 6, 0) := by decide +kernel
theorem c_21_145 : pg_cd 21 145 = (52, 1, 0, 0, 0) := by decide +kernel
theorem c_21_146 : pg_cd 21 146 = (29, 1, 0, 0, 0) := by decide +kernel
theorem c_21_147 : pg_cd 21 147 = (56, 1, 0, 0, 0) := by decide +kernel
theorem c_21_148 : pg_cd 21 148 = (38, 3, 0, 0, 46) := by decide +kernel
theorem c_21_151 : pg_cd 21 151 = (3, 2, 0, 8, 0) := by decide +kernel
theorem c_21_153 : pg_cd 21 153 = (1, 2, 0, 0, 16) := by decide +kernel
theorem c_21_155 : pg_cd 21 155 = (37, 3, 0, 1, 22) := by decide +kernel
theorem c_21_158 : pg_cd 21 158 = (5, 1, 0, 0, 0) := by decide +kernel
theorem c_21_159 : pg_cd 21 159 = (45, 1, 17, 1, 0) := by decide +kernel
theorem c_21_162 : pg_cd 21 162 = (3, 2, 0, 6, 0) := by decide +kernel
theorem c_21_164 : pg_cd 21 164 = (2, 1, 0, 0, 1) := by decide +kernel
theorem c_21_165 : pg_cd 21 165 = (5, 1, 0, 0, 0) := by decide +kernel
theorem c_21_166 : pg_cd 21 166 = (45, 1, 17, 1, 0) := by decide +kernel
theorem c_21_169 : pg_cd 21 169 = (3, 2, 0, 6, 0) := by decide +kernel
theorem c_21_171 : pg_cd 21 171 = (52, 1, 0, 0, 0) := by decide +kernel
theorem c_21_172 : pg_cd 21 172 = (23, 1, 0, 0, 0) := by decide +kernel
theorem c_21_173 : pg_cd 21 173 = (56, 1, 0, 0, 0) := by decide +kernel
theorem c_21_174 : pg_cd 21 174 = (38, 3, 0, 0, 20) := by decide +kernel
theorem c_21_177 : pg_cd 21 177 = (3, 2, 0, 6, 0) := by decide +kernel
theorem c_21_179 : pg_cd 21 179 = (1, 1, 0, 0, 2) := by decide +kernel
theorem c_21_180 : pg_cd 21 180 = (37, 3, 0, 2, 14) := by decide +kernel
theorem c_21_183 : pg_cd 21 183 = (9, 3, 0, 6, (-1)) := by decide +kernel
theorem c_21_186 : pg_cd 21 186 = (5, 1, 0, 0, 0) := by decide +kernel
theorem c_21_187 : pg_cd 21 187 = (3, 2, 0, 8, 0) := by decide +kernel
theorem c_21_189 : pg_cd 21 189 = (3, 2, 0, 6, 0) := by decide +kernel
theorem c_21_191 : pg_cd 21 191 = (80, 22, 101, 0, 0) := by decide +kernel
theorem c_21_194 : pg_cd 21 194 = (9, 3, 0, 7, 1) := by decide +kernel
theorem c_21_197 : pg_cd 21 197 = (38, 3, 0, 0, (-191)) := by decide +kernel
theorem c_21_200 : pg_cd 21 200 = (94, 0, 0, 0, 0) := by decide +kernel
theorem mi_21 : pg_mc 21 = 1 ∧ pg_na 21 = 5 ∧ pg_mx 21 = 9 := by decide +kernel
set_option maxRecDepth 20000 in
theorem u_21_0 {d : Nat} {S : zS} {σ τ : zI} {Q : zQ} {x1 : Nat} {x2 : Int} {x3 : Int} {x4 : Nat} {x5 : Int} (hx1 : oT S x1) (hx4 : tw x4) (t : wi (d + 9) 21 6 [.ref 54, .ref x1, .int (wI x2), .int (wI x3), .ref (x4 + 1), .int (wI x5), .int (wI 0), .int (wI x2), .retAddr 0] [] S σ τ Q) : wi (d + 9) 21 0 [.ref 54, .ref x1, .int (wI x2), .int (wI x3), .ref (x4 + 1), .int (wI x5), .retAddr 0, .retAddr 0, .retAddr 0] [] S σ τ Q := by
  refine i1 c_21_0 (i6 (L' := [.ref 54, .ref x1, .int (wI x2), .int (wI x3), .ref (x4 + 1), .int (wI x5), .int (wI 0), .retAddr 0, .retAddr 0]) c_21_1 rfl (i3 c_21_3 rfl (i6 (L' := [.ref 54, .ref x1, .int (wI x2), .int (wI x3), .ref (x4 + 1), .int (wI x5), .int (wI 0), .int (wI x2), .retAddr 0]) c_21_4 rfl t)))
set_option maxRecDepth 20000 in
theorem u_21_6 {d : Nat} {S : zS} {σ τ : zI} {Q : zQ} {x1 : Nat} {x2 : Int} {x3 : Int} {x4 : Nat} {x5 : Int} {x6 : Int} {x7 : Int} {y8 : Value} (hx1 : oT S x1) (hx4 : tw x4) (t : (rg x7) ∧ if x7 < 0 then (Q none S σ τ) else ((rg x3) ∧ if x3 ≤ x7 then (Q none S σ τ) else (if (σ x1 2) ≤ x7 then (Q none S σ τ) else ((0 ≤ x7 ∧ x7 < 300) ∧ (rg (Int.tdiv (σ (x1 + 3) x7) 10000)) ∧ if (Int.tdiv (σ (x1 + 3) x7) 10000) = 2 then ((rg (x6 + 1)) ∧ if (x6 + 1) < 64 then ((rg (Int.tmod (σ (x1 + 3) x7) 10000)) ∧ (0 ≤ x6 + 1 ∧ x6 + 1 < 64) ∧ wi (d + 9) 21 6 [.ref 54, .ref x1, .int (wI x2), .int (wI x3), .ref (x4 + 1), .int (wI x5), .int (wI (x6 + 1)), .int (wI (x7 + 1)), .int (wI (Int.tdiv (σ (x1 + 3) x7) 10000))] [] S σ (uc (uc τ 56 (u1 (τ 56) (x6 + 1) (Int.tmod (σ (x1 + 3) x7) 10000))) 57 (u1 (τ 57) (x6 + 1) 1)) Q) else (Q none S σ τ)) else (if (Int.tdiv (σ (x1 + 3) x7) 10000) < 17 then (if (Int.tdiv (σ (x1 + 3) x7) 10000) = 37 then ((0 ≤ x6 ∧ x6 < 64) ∧ ∃ w31 : Int, wJ w31 = wJ (-(τ 56 x6)) ∧ rj w31 ∧ wi (d + 9) 21 6 [.ref 54, .ref x1, .int (wI x2), .int (wI x3), .ref (x4 + 1), .int (wI x5), .int (wI x6), .int (wI (x7 + 1)), .int (wI (Int.tdiv (σ (x1 + 3) x7) 10000))] [] S σ (uc τ 56 (u1 (τ 56) x6 w31)) Q) else (if (Int.tdiv (σ (x1 + 3) x7) 10000) = 16 then ((0 ≤ x6 ∧ x6 < 64) ∧ ∃ w27 : Int, wJ w27 = wJ (1 - (τ 56 x6)) ∧ rj w27 ∧ wi (d + 9) 21 6 [.ref 54, .ref x1, .int (wI x2), .int (wI x3), .ref (x4 + 1), .int (wI x5), .int (wI x6), .int (wI (x7 + 1)), .int (wI (Int.tdiv (σ (x1 + 3) x7) 10000))] [] S σ (uc τ 56 (u1 (τ 56) x6 w27)) Q) else ((rg x6) ∧ if x6 < 2 then (wi (d + 9) 21 6 [.ref 54, .ref x1, .int (wI x2), .int (wI x3), .ref (x4 + 1), .int (wI x5), .int (wI x6), .int (wI (x7 + 1)), .int (wI (Int.tdiv (σ (x1 + 3) x7) 10000))] [] S σ τ Q) else (∃ o20 : Int, ((0 : Int) ≤ (x6 + (-1)) ∧ (x6 + (-1)) < (63 : Int)) ∧ (frN (τ 56 (x6 + (-1))) (τ 57 (x6 + (-1)))) ∧ (frN (τ 56 ((x6 + (-1)) + 1)) (τ 57 ((x6 + (-1)) + 1))) ∧ (((3 : Int) ≤ o20 ∧ o20 ≤ 8 ∨ 10 ≤ o20 ∧ o20 ≤ 15 ∨ o20 = 21 ∨ o20 = 22) ∧ (Int.tdiv (σ (x1 + 3) x7) 10000) * 10000 = stE o20 0) ∧ (21 ≤ o20 → (0 ≤ τ 56 (x6 + (-1)) ∧ τ 56 (x6 + (-1)) ≤ 1) ∧ (0 ≤ τ 56 ((x6 + (-1)) + 1) ∧ τ 56 ((x6 + (-1)) + 1) ≤ 1)) ∧ wi (d + 9) 21 6 [.ref 54, .ref x1, .int (wI x2), .int (wI x3), .ref (x4 + 1), .int (wI x5), .int (wI (x6 + (-1))), .int (wI (x7 + 1)), .int (wI (Int.tdiv (σ (x1 + 3) x7) 10000))] [] S σ (uc (uc τ 56 (u1 ((τ 56)) (x6 + (-1)) (jn o20 ((τ 56) (x6 + (-1))) (τ 57 (x6 + (-1))) ((τ 56) ((x6 + (-1)) + 1)) (τ 57 ((x6 + (-1)) + 1))).1)) 57 (u1 ((τ 57)) (x6 + (-1)) (jn o20 (τ 56 (x6 + (-1))) ((τ 57) (x6 + (-1))) (τ 56 ((x6 + (-1)) + 1)) ((τ 57) ((x6 + (-1)) + 1))).2)) Q)))) else (if (20 : Int) < (Int.tdiv (σ (x1 + 3) x7) 10000) then (if (Int.tdiv (σ (x1 + 3) x7) 10000) = 37 then ((0 ≤ x6 ∧ x6 < 64) ∧ ∃ w50 : Int, wJ w50 = wJ (-(τ 56 x6)) ∧ rj w50 ∧ wi (d + 9) 21 6 [.ref 54, .ref x1, .int (wI x2), .int (wI x3), .ref (x4 + 1), .int (wI x5), .int (wI x6), .int (wI (x7 + 1)), .int (wI (Int.tdiv (σ (x1 + 3) x7) 10000))] [] S σ (uc τ 56 (u1 (τ 56) x6 w50)) Q) else (if (Int.tdiv (σ (x1 + 3) x7) 10000) = 16 then ((0 ≤ x6 ∧ x6 < 64) ∧ ∃ w46 : Int, wJ w46 = wJ (1 - (τ 56 x6)) ∧ rj w46 ∧ wi (d + 9) 21 6 [.ref 54, .ref x1, .int (wI x2), .int (wI x3), .ref (x4 + 1), .int (wI x5), .int (wI x6), .int (wI (x7 + 1)), .int (wI (Int.tdiv (σ (x1 + 3) x7) 10000))] [] S σ (uc τ 56 (u1 (τ 56) x6 w46)) Q) else ((rg x6) ∧ if x6 < 2 then (wi (d + 9) 21 6 [.ref 54, .ref x1, .int (wI x2), .int (wI x3), .ref (x4 + 1), .int (wI x5), .int (wI x6), .int (wI (x7 + 1)), .int (wI (Int.tdiv (σ (x1 + 3) x7) 10000))] [] S σ τ Q) else (∃ o39 : Int, ((0 : Int) ≤ (x6 + (-1)) ∧ (x6 + (-1)) < (63 : Int)) ∧ (frN (τ 56 (x6 + (-1))) (τ 57 (x6 + (-1)))) ∧ (frN (τ 56 ((x6 + (-1)) + 1)) (τ 57 ((x6 + (-1)) + 1))) ∧ (((3 : Int) ≤ o39 ∧ o39 ≤ 8 ∨ 10 ≤ o39 ∧ o39 ≤ 15 ∨ o39 = 21 ∨ o39 = 22) ∧ (Int.tdiv (σ (x1 + 3) x7) 10000) * 10000 = stE o39 0) ∧ (21 ≤ o39 → (0 ≤ τ 56 (x6 + (-1)) ∧ τ 56 (x6 + (-1)) ≤ 1) ∧ (0 ≤ τ 56 ((x6 + (-1)) + 1) ∧ τ 56 ((x6 + (-1)) + 1) ≤ 1)) ∧ wi (d + 9) 21 6 [.ref 54, .ref x1, .int (wI x2), .int (wI x3), .ref (x4 + 1), .int (wI x5), .int (wI (x6 + (-1))), .int (wI (x7 + 1)), .int (wI (Int.tdiv (σ (x1 + 3) x7) 10000))] [] S σ (uc (uc τ 56 (u1 ((τ 56)) (x6 + (-1)) (jn o39 ((τ 56) (x6 + (-1))) (τ 57 (x6 + (-1))) ((τ 56) ((x6 + (-1)) + 1)) (τ 57 ((x6 + (-1)) + 1))).1)) 57 (u1 ((τ 57)) (x6 + (-1)) (jn o39 (τ 56 (x6 + (-1))) ((τ 57) (x6 + (-1))) (τ 56 ((x6 + (-1)) + 1)) ((τ 57) ((x6 + (-1)) + 1))).2)) Q)))) else ((rg (x6 + 1)) ∧ if (x6 + 1) < 64 then ((rg x5) ∧ (rg ((0 + (Int.tdiv (σ (x1 + 3) x7) 10000)) - 17)) ∧ (0 ≤ x6 + 1 ∧ x6 + 1 < 64) ∧ wi (d + 9) 21 6 [.ref 54, .ref x1, .int (wI x2), .int (wI x3), .ref (x4 + 1), .int (wI x5), .int (wI (x6 + 1)), .int (wI (x7 + 1)), .int (wI (Int.tdiv (σ (x1 + 3) x7) 10000))] [] S σ (uc (uc τ 56 (u1 (τ 56) (x6 + 1) (ra_ (σ (x4 + 1) 2) (σ (x4 + 2)) 6 x5 ((0 + (Int.tdiv (σ (x1 + 3) x7) 10000)) - 17)))) 57 (u1 (τ 57) (x6 + 1) 1)) Q) else (Q none S σ τ)))))))) : wi (d + 9) 21 6 [.ref 54, .ref x1, .int (wI x2), .int (wI x3), .ref (x4 + 1), .int (wI x5), .int (wI x6), .int (wI x7), y8] [] S σ τ Q := by
  obtain ⟨r1, t⟩ := t
  refine i3 c_21_6 rfl ?_
  refine i36 c_21_8 r1 rfl (fun hc => ?_) (fun hc => ?_)
  · have t := iT t hc
    have ha2 : x7 < 0 := hc
    exact i94 c_21_200 t
  · have t := iF t hc
    have ha2 : ¬ (x7 < 0) := hc
    obtain ⟨r3, t⟩ := t
    refine i3 c_21_11 rfl (i3 c_21_13 rfl ?_)
    refine i37 c_21_14 r1 r3 rfl (fun hc => ?_) (fun hc => ?_)
    · have t := iT t hc
      have ha4 : x3 ≤ x7 := hc
      exact i94 c_21_200 t
    · have t := iF t hc
      have ha4 : ¬ (x3 ≤ x7) := hc
      refine i3 c_21_17 rfl (i5 c_21_19 rfl (wi_ok (fun K5 => ?_)))
      refine i43 (v := σ x1 2) c_21_20 (fun _ => oT_0 hx1) rfl ?_
      refine i37 c_21_23 r1 (rge_ K5 rfl) rfl (fun hc => ?_) (fun hc => ?_)
      · have t := iT t hc
        have ha6 : (σ x1 2) ≤ x7 := hc
        exact i94 c_21_200 t
      · have t := iF t hc
        have ha6 : ¬ ((σ x1 2) ≤ x7) := hc
        obtain ⟨r7, t⟩ := t
        obtain ⟨r8, t⟩ := t
        refine i5 c_21_26 rfl (i45 c_21_27 (fun _ => oT_0 hx1) (fun _ => oT_r1 hx1) (i3 c_21_30 rfl (i50 (v := σ (x1 + 3) x7) c_21_32 (fun _ => oT_3 hx1) (by decide) r7 rfl (i1 c_21_33 (i16 c_21_36 (rge_ K5 rfl) (by decide) (by decide) (i6 (L' := [.ref 54, .ref x1, .int (wI x2), .int (wI x3), .ref (x4 + 1), .int (wI x5), .int (wI x6), .int (wI x7), .int (wI (Int.tdiv (σ (x1 + 3) x7) 10000))]) c_21_37 rfl (i3 c_21_39 rfl (i1 c_21_41 ?_))))))))
        refine i37 c_21_42 r8 (by decide) rfl (fun hc => ?_) (fun hc => ?_)
        · have t := iT t hc
          have ha9 : (Int.tdiv (σ (x1 + 3) x7) 10000) = 2 := hc
          obtain ⟨r10, t⟩ := t
          refine i3 c_21_59 rfl (i1 c_21_61 (i10 c_21_62 (i1 c_21_63 ?_)))
          refine i37 c_21_65 r10 (by decide) rfl (fun hc => ?_) (fun hc => ?_)
          · have t := iT t hc
            have ha11 : (x6 + 1) < 64 := hc
            refine i9 (L' := [.ref 54, .ref x1, .int (wI x2), .int (wI x3), .ref (x4 + 1), .int (wI x5), .int (wI (x6 + 1)), .int (wI x7), .int (wI (Int.tdiv (σ (x1 + 3) x7) 10000))]) c_21_69 rfl rfl (i5 c_21_72 rfl (i45 c_21_73 (lo (c := 54) (kd := 101) (n := 0) rfl (by decide)) (lro (c := 54) (k := 1) (j := 56) (by decide)) (i3 c_21_76 rfl (i3 c_21_78 rfl (i1 c_21_80 ?_)))))
            refine i37 c_21_81 r8 (by decide) rfl (fun hc => absurd (show (Int.tdiv (σ (x1 + 3) x7) 10000) = 2 by omega) hc) (fun _ => ?_)
            obtain ⟨r13, t⟩ := t
            obtain ⟨r14, t⟩ := t
            refine i5 c_21_84 rfl (i45 c_21_85 (fun _ => oT_0 hx1) (fun _ => oT_r1 hx1) (i3 c_21_88 rfl (i50 (v := σ (x1 + 3) x7) c_21_90 (fun _ => oT_3 hx1) (by decide) r7 rfl (i1 c_21_91 (i17 c_21_94 (rge_ K5 rfl) (by decide) (by decide) (i31 c_21_95 r13 (i38 c_21_96 rfl (i56 (τ1 := uc τ 56 (u1 (τ 56) (x6 + 1) (Int.tmod (σ (x1 + 3) x7) 10000))) c_21_114 (lo (c := 56) (kd := 1) (n := 64) rfl (by decide)) (by decide) r14 rfl (rj_of r13) (wr_ rfl rfl) (i5 c_21_115 rfl (i45 c_21_116 (lo (c := 54) (kd := 101) (n := 0) rfl (by decide)) (lro (c := 54) (k := 2) (j := 57) (by decide)) (i3 c_21_119 rfl (i2 c_21_121 (i56 (τ1 := uc (uc τ 56 (u1 (τ 56) (x6 + 1) (Int.tmod (σ (x1 + 3) x7) 10000))) 57 (u1 (τ 57) (x6 + 1) 1)) c_21_122 (lo (c := 57) (kd := 1) (n := 64) rfl (by decide)) (by decide) r14 rfl (by decide) (wr_ (uc_ns rfl (by decide)) rfl) (i38 c_21_123 rfl (i9 (L' := [.ref 54, .ref x1, .int (wI x2), .int (wI x3), .ref (x4 + 1), .int (wI x5), .int (wI (x6 + 1)), .int (wI (x7 + 1)), .int (wI (Int.tdiv (σ (x1 + 3) x7) 10000))]) c_21_194 rfl rfl (i38 c_21_197 rfl t))))))))))))))))
          · have t := iF t hc
            have ha11 : ¬ ((x6 + 1) < 64) := hc
            exact i94 c_21_68 t
        · have t := iF t hc
          have ha9 : ¬ ((Int.tdiv (σ (x1 + 3) x7) 10000) = 2) := hc
          refine i3 c_21_45 rfl (i1 c_21_47 ?_)
          refine i37 c_21_49 r8 (by decide) rfl (fun hc => ?_) (fun hc => ?_)
          · have t := iT t hc
            have ha15 : (Int.tdiv (σ (x1 + 3) x7) 10000) < 17 := hc
            refine i3 c_21_126 rfl (i1 c_21_128 ?_)
            refine i37 c_21_130 r8 (by decide) rfl (fun hc => ?_) (fun hc => ?_)
            · have t := iF t hc
              have ha16 : ¬ ((Int.tdiv (σ (x1 + 3) x7) 10000) = 37) := hc
              refine i3 c_21_151 rfl (i1 c_21_153 ?_)
              refine i37 c_21_155 r8 (by decide) rfl (fun hc => ?_) (fun hc => ?_)
              · have t := iF t hc
                have ha17 : ¬ ((Int.tdiv (σ (x1 + 3) x7) 10000) = 16) := hc
                obtain ⟨r18, t⟩ := t
                refine i3 c_21_177 rfl (i1 c_21_179 ?_)
                refine i37 c_21_180 r18 (by decide) rfl (fun hc => ?_) (fun hc => ?_)
                · have t := iT t hc
                  have ha19 : x6 < 2 := hc
                  refine i9 (L' := [.ref 54, .ref x1, .int (wI x2), .int (wI x3), .ref (x4 + 1), .int (wI x5), .int (wI x6), .int (wI (x7 + 1)), .int (wI (Int.tdiv (σ (x1 + 3) x7) 10000))]) c_21_194 rfl rfl (i38 c_21_197 rfl t)
                · have t := iF t hc
                  have ha19 : ¬ (x6 < 2) := hc
                  obtain ⟨o20, t⟩ := t
                  obtain ⟨p21, t⟩ := t
                  obtain ⟨p22, t⟩ := t
                  obtain ⟨p23, t⟩ := t
                  obtain ⟨p24, t⟩ := t
                  obtain ⟨p25, t⟩ := t
                  refine i9 (L' := [.ref 54, .ref x1, .int (wI x2), .int (wI x3), .ref (x4 + 1), .int (wI x5), .int (wI (x6 + (-1))), .int (wI x7), .int (wI (Int.tdiv (σ (x1 + 3) x7) 10000))]) c_21_183 rfl rfl (i5 c_21_186 rfl (i3 c_21_187 rfl (i3 c_21_189 rfl ?_)))
                  refine i80 (As := [.int (wI (Int.tdiv (σ (x1 + 3) x7) 10000)), .int (wI (x6 + (-1)))]) (rest := []) c_21_191 mi_22 rfl rfl (Nat.le_of_ble_eq_true rfl) (Nat.le_of_ble_eq_true rfl) (lo (c := 54) (kd := 101) (n := 0) rfl (by decide)) (q_22 (o := o20) p21 p22 p23 p24 p25 ?_)
                  show wi (d + 9) 21 194 [.ref 54, .ref x1, .int (wI x2), .int (wI x3), .ref (x4 + 1), .int (wI x5), .int (wI (x6 + (-1))), .int (wI x7), .int (wI (Int.tdiv (σ (x1 + 3) x7) 10000))] [] S σ (uc (uc τ 56 (u1 ((τ 56)) (x6 + (-1)) (jn o20 ((τ 56) (x6 + (-1))) (τ 57 (x6 + (-1))) ((τ 56) ((x6 + (-1)) + 1)) (τ 57 ((x6 + (-1)) + 1))).1)) 57 (u1 ((τ 57)) (x6 + (-1)) (jn o20 (τ 56 (x6 + (-1))) ((τ 57) (x6 + (-1))) (τ 56 ((x6 + (-1)) + 1)) ((τ 57) ((x6 + (-1)) + 1))).2)) Q
                  refine i9 (L' := [.ref 54, .ref x1, .int (wI x2), .int (wI x3), .ref (x4 + 1), .int (wI x5), .int (wI (x6 + (-1))), .int (wI (x7 + 1)), .int (wI (Int.tdiv (σ (x1 + 3) x7) 10000))]) c_21_194 rfl rfl (i38 c_21_197 rfl t)
              · have t := iT t (Decidable.not_not.mp hc)
                have ha17 : (Int.tdiv (σ (x1 + 3) x7) 10000) = 16 := Decidable.not_not.mp hc
                obtain ⟨r26, t⟩ := t
                obtain ⟨w27, e28, r29, t⟩ := t
                refine i5 c_21_158 rfl (i45 c_21_159 (lo (c := 54) (kd := 101) (n := 0) rfl (by decide)) (lro (c := 54) (k := 1) (j := 56) (by decide)) (i3 c_21_162 rfl (i2 c_21_164 (i5 c_21_165 rfl (i45 c_21_166 (lo (c := 54) (kd := 101) (n := 0) rfl (by decide)) (lro (c := 54) (k := 1) (j := 56) (by decide)) (i3 c_21_169 rfl (i52 (v := τ 56 x6) c_21_171 (lo (c := 56) (kd := 1) (n := 64) rfl (by decide)) (by decide) r26 rfl (i23 c_21_172 (i56 (τ1 := uc τ 56 (u1 (τ 56) x6 w27)) c_21_173 (lo (c := 56) (kd := 1) (n := 64) rfl (by decide)) (by decide) r26 e28 r29 (wr_ rfl rfl) (i38 c_21_174 rfl (i9 (L' := [.ref 54, .ref x1, .int (wI x2), .int (wI x3), .ref (x4 + 1), .int (wI x5), .int (wI x6), .int (wI (x7 + 1)), .int (wI (Int.tdiv (σ (x1 + 3) x7) 10000))]) c_21_194 rfl rfl (i38 c_21_197 rfl t))))))))))))
            · have t := iT t (Decidable.not_not.mp hc)
              have ha16 : (Int.tdiv (σ (x1 + 3) x7) 10000) = 37 := Decidable.not_not.mp hc
              obtain ⟨r30, t⟩ := t
              obtain ⟨w31, e32, r33, t⟩ := t
              refine i5 c_21_133 rfl (i45 c_21_134 (lo (c := 54) (kd := 101) (n := 0) rfl (by decide)) (lro (c := 54) (k := 1) (j := 56) (by decide)) (i3 c_21_137 rfl (i5 c_21_139 rfl (i45 c_21_140 (lo (c := 54) (kd := 101) (n := 0) rfl (by decide)) (lro (c := 54) (k := 1) (j := 56) (by decide)) (i3 c_21_143 rfl (i52 (v := τ 56 x6) c_21_145 (lo (c := 56) (kd := 1) (n := 64) rfl (by decide)) (by decide) r30 rfl (i29 c_21_146 (i56 (τ1 := uc τ 56 (u1 (τ 56) x6 w31)) c_21_147 (lo (c := 56) (kd := 1) (n := 64) rfl (by decide)) (by decide) r30 e32 r33 (wr_ rfl rfl) (i38 c_21_148 rfl (i9 (L' := [.ref 54, .ref x1, .int (wI x2), .int (wI x3), .ref (x4 + 1), .int (wI x5), .int (wI x6), .int (wI (x7 + 1)), .int (wI (Int.tdiv (σ (x1 + 3) x7) 10000))]) c_21_194 rfl rfl (i38 c_21_197 rfl t)))))))))))
          · have t := iF t hc
            have ha15 : ¬ ((Int.tdiv (σ (x1 + 3) x7) 10000) < 17) := hc
            refine i3 c_21_52 rfl (i1 c_21_54 ?_)
            refine i37 c_21_56 r8 (by decide) rfl (fun hc => ?_) (fun hc => ?_)
            · have t := iT t hc
              have ha34 : (20 : Int) < (Int.tdiv (σ (x1 + 3) x7) 10000) := hc
              refine i3 c_21_126 rfl (i1 c_21_128 ?_)
              refine i37 c_21_130 r8 (by decide) rfl (fun hc => ?_) (fun hc => ?_)
              · have t := iF t hc
                have ha35 : ¬ ((Int.tdiv (σ (x1 + 3) x7) 10000) = 37) := hc
                refine i3 c_21_151 rfl (i1 c_21_153 ?_)
                refine i37 c_21_155 r8 (by decide) rfl (fun hc => ?_) (fun hc => ?_)
                · have t := iF t hc
                  have ha36 : ¬ ((Int.tdiv (σ (x1 + 3) x7) 10000) = 16) := hc
                  obtain ⟨r37, t⟩ := t
                  refine i3 c_21_177 rfl (i1 c_21_179 ?_)
                  refine i37 c_21_180 r37 (by decide) rfl (fun hc => ?_) (fun hc => ?_)
                  · have t := iT t hc
                    have ha38 : x6 < 2 := hc
                    refine i9 (L' := [.ref 54, .ref x1, .int (wI x2), .int (wI x3), .ref (x4 + 1), .int (wI x5), .int (wI x6), .int (wI (x7 + 1)), .int (wI (Int.tdiv (σ (x1 + 3) x7) 10000))]) c_21_194 rfl rfl (i38 c_21_197 rfl t)
                  · have t := iF t hc
                    have ha38 : ¬ (x6 < 2) := hc
                    obtain ⟨o39, t⟩ := t
                    obtain ⟨p40, t⟩ := t
                    obtain ⟨p41, t⟩ := t
                    obtain ⟨p42, t⟩ := t
                    obtain ⟨p43, t⟩ := t
                    obtain ⟨p44, t⟩ := t
                    refine i9 (L' := [.ref 54, .ref x1, .int (wI x2), .int (wI x3), .ref (x4 + 1), .int (wI x5), .int (wI (x6 + (-1))), .int (wI x7), .int (wI (Int.tdiv (σ (x1 + 3) x7) 10000))]) c_21_183 rfl rfl (i5 c_21_186 rfl (i3 c_21_187 rfl (i3 c_21_189 rfl ?_)))
                    refine i80 (As := [.int (wI (Int.tdiv (σ (x1 + 3) x7) 10000)), .int (wI (x6 + (-1)))]) (rest := []) c_21_191 mi_22 rfl rfl (Nat.le_of_ble_eq_true rfl) (Nat.le_of_ble_eq_true rfl) (lo (c := 54) (kd := 101) (n := 0) rfl (by decide)) (q_22 (o := o39) p40 p41 p42 p43 p44 ?_)
                    show wi (d + 9) 21 194 [.ref 54, .ref x1, .int (wI x2), .int (wI x3), .ref (x4 + 1), .int (wI x5), .int (wI (x6 + (-1))), .int (wI x7), .int (wI (Int.tdiv (σ (x1 + 3) x7) 10000))] [] S σ (uc (uc τ 56 (u1 ((τ 56)) (x6 + (-1)) (jn o39 ((τ 56) (x6 + (-1))) (τ 57 (x6 + (-1))) ((τ 56) ((x6 + (-1)) + 1)) (τ 57 ((x6 + (-1)) + 1))).1)) 57 (u1 ((τ 57)) (x6 + (-1)) (jn o39 (τ 56 (x6 + (-1))) ((τ 57) (x6 + (-1))) (τ 56 ((x6 + (-1)) + 1)) ((τ 57) ((x6 + (-1)) + 1))).2)) Q
                    refine i9 (L' := [.ref 54, .ref x1, .int (wI x2), .int (wI x3), .ref (x4 + 1), .int (wI x5), .int (wI (x6 + (-1))), .int (wI (x7 + 1)), .int (wI (Int.tdiv (σ (x1 + 3) x7) 10000))]) c_21_194 rfl rfl (i38 c_21_197 rfl t)
                · have t := iT t (Decidable.not_not.mp hc)
                  have ha36 : (Int.tdiv (σ (x1 + 3) x7) 10000) = 16 := Decidable.not_not.mp hc
                  obtain ⟨r45, t⟩ := t
                  obtain ⟨w46, e47, r48, t⟩ := t
                  refine i5 c_21_158 rfl (i45 c_21_159 (lo (c := 54) (kd := 101) (n := 0) rfl (by decide)) (lro (c := 54) (k := 1) (j := 56) (by decide)) (i3 c_21_162 rfl (i2 c_21_164 (i5 c_21_165 rfl (i45 c_21_166 (lo (c := 54) (kd := 101) (n := 0) rfl (by decide)) (lro (c := 54) (k := 1) (j := 56) (by decide)) (i3 c_21_169 rfl (i52 (v := τ 56 x6) c_21_171 (lo (c := 56) (kd := 1) (n := 64) rfl (by decide)) (by decide) r45 rfl (i23 c_21_172 (i56 (τ1 := uc τ 56 (u1 (τ 56) x6 w46)) c_21_173 (lo (c := 56) (kd := 1) (n := 64) rfl (by decide)) (by decide) r45 e47 r48 (wr_ rfl rfl) (i38 c_21_174 rfl (i9 (L' := [.ref 54, .ref x1, .int (wI x2), .int (wI x3), .ref (x4 + 1), .int (wI x5), .int (wI x6), .int (wI (x7 + 1)), .int (wI (Int.tdiv (σ (x1 + 3) x7) 10000))]) c_21_194 rfl rfl (i38 c_21_197 rfl t))))))))))))
              · have t := iT t (Decidable.not_not.mp hc)
                have ha35 : (Int.tdiv (σ (x1 + 3) x7) 10000) = 37 := Decidable.not_not.mp hc
                obtain ⟨r49, t⟩ := t
                obtain ⟨w50, e51, r52, t⟩ := t
                refine i5 c_21_133 rfl (i45 c_21_134 (lo (c := 54) (kd := 101) (n := 0) rfl (by decide)) (lro (c := 54) (k := 1) (j := 56) (by decide)) (i3 c_21_137 rfl (i5 c_21_139 rfl (i45 c_21_140 (lo (c := 54) (kd := 101) (n := 0) rfl (by decide)) (lro (c := 54) (k := 1) (j := 56) (by decide)) (i3 c_21_143 rfl (i52 (v := τ 56 x6) c_21_145 (lo (c := 56) (kd := 1) (n := 64) rfl (by decide)) (by decide) r49 rfl (i29 c_21_146 (i56 (τ1 := uc τ 56 (u1 (τ 56) x6 w50)) c_21_147 (lo (c := 56) (kd := 1) (n := 64) rfl (by decide)) (by decide) r49 e51 r52 (wr_ rfl rfl) (i38 c_21_148 rfl (i9 (L' := [.ref 54, .ref x1, .int (wI x2), .int (wI x3), .ref (x4 + 1), .int (wI x5), .int (wI x6), .int (wI (x7 + 1)), .int (wI (Int.tdiv (σ (x1 + 3) x7) 10000))]) c_21_194 rfl rfl (i38 c_21_197 rfl t)))))))))))
            · have t := iF t hc
              have ha34 : ¬ ((20 : Int) < (Int.tdiv (σ (x1 + 3) x7) 10000)) := hc
              obtain ⟨r53, t⟩ := t
              refine i3 c_21_59 rfl (i1 c_21_61 (i10 c_21_62 (i1 c_21_63 ?_)))
              refine i37 c_21_65 r53 (by decide) rfl (fun hc => ?_) (fun hc => ?_)
              · have t := iT t hc
                have ha54 : (x6 + 1) < 64 := hc
                refine i9 (L' := [.ref 54, .ref x1, .int (wI x2), .int (wI x3), .ref (x4 + 1), .int (wI x5), .int (wI (x6 + 1)), .int (wI x7), .int (wI (Int.tdiv (σ (x1 + 3) x7) 10000))]) c_21_69 rfl rfl (i5 c_21_72 rfl (i45 c_21_73 (lo (c := 54) (kd := 101) (n := 0) rfl (by decide)) (lro (c := 54) (k := 1) (j := 56) (by decide)) (i3 c_21_76 rfl (i3 c_21_78 rfl (i1 c_21_80 ?_)))))
                refine i37 c_21_81 r8 (by decide) rfl (fun _ => ?_) (fun hc => absurd (show ¬ ((Int.tdiv (σ (x1 + 3) x7) 10000) = 2) by omega) hc)
                obtain ⟨r56, t⟩ := t
                obtain ⟨r57, t⟩ := t
                refine i5 c_21_99 rfl (i3 c_21_101 rfl (i1 c_21_103 (i3 c_21_104 rfl (i10 c_21_106 (i1 c_21_107 (i11 c_21_109 ?_))))))
                refine i80 (As := [.int (wI x5), .int (wI ((0 + (Int.tdiv (σ (x1 + 3) x7) 10000)) - 17))]) (rest := [.int (wI (x6 + 1)), .ref 56]) c_21_110 mi_55 rfl rfl (Nat.le_of_ble_eq_true rfl) (Nat.le_of_ble_eq_true rfl) (lo (lyt_1 hx4) (by have := tw_b hx4; omega)) (q_atv (ow_kinds hx4) r56 r57 ?_)
                show wi (d + 9) 21 113 [.ref 54, .ref x1, .int (wI x2), .int (wI x3), .ref (x4 + 1), .int (wI x5), .int (wI (x6 + 1)), .int (wI x7), .int (wI (Int.tdiv (σ (x1 + 3) x7) 10000))] [.int (wI (ra_ (σ (x4 + 1) 2) (σ (x4 + 2)) 6 x5 ((0 + (Int.tdiv (σ (x1 + 3) x7) 10000)) - 17))), .int (wI (x6 + 1)), .ref 56] S σ τ Q
                obtain ⟨r58, t⟩ := t
                refine i31 c_21_113 (rg_ra_ (fun k => kO_r K5 _ k) _ _ _ _) (i56 (τ1 := uc τ 56 (u1 (τ 56) (x6 + 1) (ra_ (σ (x4 + 1) 2) (σ (x4 + 2)) 6 x5 ((0 + (Int.tdiv (σ (x1 + 3) x7) 10000)) - 17)))) c_21_114 (lo (c := 56) (kd := 1) (n := 64) rfl (by decide)) (by decide) r58 rfl (rj_of (rg_ra_ (fun k => kO_r K5 _ k) _ _ _ _)) (wr_ rfl rfl) (i5 c_21_115 rfl (i45 c_21_116 (lo (c := 54) (kd := 101) (n := 0) rfl (by decide)) (lro (c := 54) (k := 2) (j := 57) (by decide)) (i3 c_21_119 rfl (i2 c_21_121 (i56 (τ1 := uc (uc τ 56 (u1 (τ 56) (x6 + 1) (ra_ (σ (x4 + 1) 2) (σ (x4 + 2)) 6 x5 ((0 + (Int.tdiv (σ (x1 + 3) x7) 10000)) - 17)))) 57 (u1 (τ 57) (x6 + 1) 1)) c_21_122 (lo (c := 57) (kd := 1) (n := 64) rfl (by decide)) (by decide) r58 rfl (by decide) (wr_ (uc_ns rfl (by decide)) rfl) (i38 c_21_123 rfl (i9 (L' := [.ref 54, .ref x1, .int (wI x2), .int (wI x3), .ref (x4 + 1), .int (wI x5), .int (wI (x6 + 1)), .int (wI (x7 + 1)), .int (wI (Int.tdiv (σ (x1 + 3) x7) 10000))]) c_21_194 rfl rfl (i38 c_21_197 rfl t)))))))))
              · have t := iF t hc
                have ha54 : ¬ ((x6 + 1) < 64) := hc
                exact i94 c_21_68 t
theorem q_21 {d : Nat} {S : zS} {σ τ : zI} {Q : zQ} {x : Nat} {fro : Int} {to : Int} {tn : Nat} {kind : Int} {a : Int → Int} {n : Int} {m1 : Int} {b1 : Int} (hx : oT S x) (htn : tw tn) (p0 : RT σ tn a) (p1 : TX σ x a n) (p2 : jv_K a) (p3 : 0 ≤ fro ∧ fro ≤ to ∧ to ≤ σ x 2) (p4 : 0 ≤ kind ∧ kind ≤ 5) (p5 : wzN a (5500 + 840 * n + 200) (to - fro).toNat fro 0 0 m1 b1) (t : ∀ (τ1 : zI), Fr9 τ τ1 → CRs (τ1 56) (τ1 57) (cl_ (evN a (fun v => a (20 + 8 * kind + v)) (5500 + 840 * n + 200) (to - fro).toNat fro ([], []))) → Q none S σ τ1) : wc (d + 9) 21 [.ref 54, .ref x, .int (wI fro), .int (wI to), .ref (tn + 1), .int (wI kind)] S σ τ Q := by
  have K := p2 kind p4.1 p4.2
  have tl := p1.2.2.2.2.1
  have ts := p1.2.2.2.2.2.1
  have key : ∀ n' : Nat, ∀ (τ' : zI) (s : eS) (i : Int) (y8 : Value), i + n' = to → fro ≤ i → wzN a (5500 + 840 * n + 200) n' i s.1.length s.2.length m1 b1 → (s.1.length : Int) + s.2.length ≤ 60 → Fr9 τ τ' → CRs (τ' 56) (τ' 57) (cl_ s) → (∀ τ1, Fr9 τ τ1 → CRs (τ1 56) (τ1 57) (cl_ (evN a (fun v => a (20 + 8 * kind + v)) (5500 + 840 * n + 200) n' i s)) → Q none S σ τ1) → wi (d + 9) 21 6 [.ref 54, .ref x, .int (wI fro), .int (wI to), .ref (tn + 1), .int (wI kind), .int (wI ((cl_ s).length : Int)), .int (wI i), y8] [] S σ τ' Q := by
    intro n'
    induction n' with
    | zero =>
      intro τ' s i y8 hi hf hw hsz fr rs t
      refine u_21_6 hx htn ⟨by omega, ?_⟩
      rw [if_neg (by omega)]
      refine ⟨by omega, ?_⟩
      rw [if_pos (by omega)]
      exact t _ fr rs
    | succ n' ih =>
      intro τ' s i y8 hi hf hw hsz fr rs t
      have ho := hw.1
      have len := ev1_len (kv := (fun v => a (20 + 8 * kind + v))) hw.1
      have next : ∀ (τ2 : zI) (z : Int) (y : Value), z = ((cl_ (ev1 (fun v => a (20 + 8 * kind + v)) (a ((5500 + 840 * n + 200) + 2 * i)) (a ((5500 + 840 * n + 200) + 2 * i + 1)) s)).length : Int) → Fr9 τ τ2 → CRs (τ2 56) (τ2 57) (cl_ (ev1 (fun v => a (20 + 8 * kind + v)) (a ((5500 + 840 * n + 200) + 2 * i)) (a ((5500 + 840 * n + 200) + 2 * i + 1)) s)) → wi (d + 9) 21 6 [.ref 54, .ref x, .int (wI fro), .int (wI to), .ref (tn + 1), .int (wI kind), .int (wI z), .int (wI (i + 1)), y] [] S σ τ2 Q := fun τ2 z y hz f2 r2 => by
        rw [hz]
        exact ih τ2 _ (i + 1) _ (by omega) (by omega) (by rw [len.1, len.2]; exact hw.2) (by rw [len.1, len.2]; exact sz_b hw.1 hsz) f2 r2 t
      clear t ih
      have cl := cl_len s
      refine u_21_6 hx htn ⟨by omega, ?_⟩
      rw [if_neg (by omega)]
      refine ⟨by omega, ?_⟩
      rw [if_neg (by omega), if_neg (by omega)]
      refine ⟨by omega, ?_⟩
      rw [ts i (by omega) (by omega)]
      generalize a ((5500 + 840 * n + 200) + 2 * i) = O at *
      generalize a ((5500 + 840 * n + 200) + 2 * i + 1) = V at *
      have ho' := ho
      unfold ok1 at ho'
      by_cases hj : 3 ≤ O ∧ O ≤ 8 ∨ 10 ≤ O ∧ O ≤ 15 ∨ O = 21 ∨ O = 22
      · obtain ⟨Kk, k1, k2, k3, k4, k5, k6, k7⟩ := stE_j (V := V) hj
        have td := tdv k1 k7.1 (by omega)
        obtain ⟨Y, X, T, e1, e2, e3⟩ := cl_j (kv := (fun v => a (20 + 8 * kind + v))) ho hj
        rw [e2] at next
        rw [e1] at rs cl ⊢
        rw [List.length_cons, List.length_cons] at cl ⊢
        rw [td.1]
        obtain ⟨⟨y1, y2, y3⟩, ⟨⟨x1, x2, x3⟩, rT⟩⟩ := rs
        rw [List.length_cons] at y1 y2
        have g1 : ((T.length + 1 + 1 : Nat) : Int) + (-1) = (T.length : Int) + 1 := by omega
        have g2 : ((T.length + 1 + 1 : Nat) : Int) = (T.length : Int) + 1 + 1 := by omega
        have g3 : ((T.length + 1 : Nat) : Int) = (T.length : Int) + 1 := by omega
        rw [g3] at y1 y2
        have J : ∀ y, (rg ((T.length + 1 + 1 : Nat) : Int)) ∧ if ((T.length + 1 + 1 : Nat) : Int) < 2 then (wi (d + 9) 21 6 [.ref 54, .ref x, .int (wI fro), .int (wI to), .ref (tn + 1), .int (wI kind), .int (wI ((T.length + 1 + 1 : Nat) : Int)), .int (wI (i + 1)), y] [] S σ τ' Q) else (∃ o39 : Int, (0 ≤ (((T.length + 1 + 1 : Nat) : Int) + (-1)) ∧ (((T.length + 1 + 1 : Nat) : Int) + (-1)) < 63) ∧ (frN (τ' 56 (((T.length + 1 + 1 : Nat) : Int) + (-1))) (τ' 57 (((T.length + 1 + 1 : Nat) : Int) + (-1)))) ∧ (frN (τ' 56 ((((T.length + 1 + 1 : Nat) : Int) + (-1)) + 1)) (τ' 57 ((((T.length + 1 + 1 : Nat) : Int) + (-1)) + 1))) ∧ (((3 : Int) ≤ o39 ∧ o39 ≤ 8 ∨ 10 ≤ o39 ∧ o39 ≤ 15 ∨ o39 = 21 ∨ o39 = 22) ∧ Kk * 10000 = stE o39 0) ∧ (21 ≤ o39 → (0 ≤ τ' 56 (((T.length + 1 + 1 : Nat) : Int) + (-1)) ∧ τ' 56 (((T.length + 1 + 1 : Nat) : Int) + (-1)) ≤ 1) ∧ (0 ≤ τ' 56 ((((T.length + 1 + 1 : Nat) : Int) + (-1)) + 1) ∧ τ' 56 ((((T.length + 1 + 1 : Nat) : Int) + (-1)) + 1) ≤ 1)) ∧ wi (d + 9) 21 6 [.ref 54, .ref x, .int (wI fro), .int (wI to), .ref (tn + 1), .int (wI kind), .int (wI (((T.length + 1 + 1 : Nat) : Int) + (-1))), .int (wI (i + 1)), y] [] S σ (uc (uc τ' 56 (u1 ((τ' 56)) (((T.length + 1 + 1 : Nat) : Int) + (-1)) (jn o39 ((τ' 56) (((T.length + 1 + 1 : Nat) : Int) + (-1))) (τ' 57 (((T.length + 1 + 1 : Nat) : Int) + (-1))) ((τ' 56) ((((T.length + 1 + 1 : Nat) : Int) + (-1)) + 1)) (τ' 57 ((((T.length + 1 + 1 : Nat) : Int) + (-1)) + 1))).1)) 57 (u1 ((τ' 57)) (((T.length + 1 + 1 : Nat) : Int) + (-1)) (jn o39 (τ' 56 (((T.length + 1 + 1 : Nat) : Int) + (-1))) ((τ' 57) (((T.length + 1 + 1 : Nat) : Int) + (-1))) (τ' 56 ((((T.length + 1 + 1 : Nat) : Int) + (-1)) + 1)) ((τ' 57) ((((T.length + 1 + 1 : Nat) : Int) + (-1)) + 1))).2)) Q) := fun y => by
          refine ⟨by omega, ?_⟩
          rw [if_neg (by omega), g1]
          refine ⟨O, by omega, ?_⟩
          rw [x1, x2, y1, y2]
          refine ⟨x3, y3, ⟨hj, k2.symm⟩, e3, ?_⟩
          refine next _ _ _ (by rw [List.length_cons]; omega) (Fr9_2 fr (by rw [u1_n (by omega)]) (by rw [u1_n (by omega)])) ?_
          rw [i56_, i57_]
          refine ⟨⟨by rw [u1_s], by rw [u1_s], ?_⟩, CRs_c (fun k h0 h1 => ⟨by rw [u1_n (by omega)], by rw [u1_n (by omega)]⟩) rT⟩
          unfold jn
          repeat' split
          · exact fr2_n _ _ _ _ _
          · have := b1_01 (cm2 O X.1 X.2 Y.1 Y.2); dsimp only; omega
          · have := e3 (by omega)
            have h2 : X.1 = 0 ∨ X.1 = 1 := by omega
            dsimp only
            rcases h2 with h2 | h2 <;> rw [h2] <;> omega
          · have := e3 (by omega); dsimp only; omega
        refine ⟨by omega, ?_⟩
        rw [if_neg k3]
        refine ifI (fun c => ?_) (fun c => ?_)
        · rw [if_neg k4, if_neg k5]
          exact J _
        · rw [if_pos (by omega), if_neg k4, if_neg k5]
          exact J _
      · have : O = 0 ∨ O = 1 ∨ O = 2 ∨ O = 20 := by omega
        rcases this with h | h | h | h <;> subst h
        · have td := tdv (z := stE 0 V) (k := 2) (r := V) (by show 20000 + V = _; omega) (by omega) (by omega)
          rw [td.1, td.2]
          refine ⟨by omega, ?_⟩
          rw [if_pos rfl]
          refine ⟨by omega, ?_⟩
          rw [if_pos (by omega)]
          refine ⟨by omega, by omega, ?_⟩
          refine next _ _ _ (by rw [ev1_0, cl_0, List.length_cons]; omega) (Fr9_2 fr (by rw [u1_n (by omega)]) (by rw [u1_n (by omega)])) ?_
          rw [ev1_0, cl_0, i56_, i57_]
          exact ⟨⟨by rw [u1_s], by rw [u1_s], by dsimp only; omega⟩, CRs_c (fun k h0 h1 => ⟨by rw [u1_n (by omega)], by rw [u1_n (by omega)]⟩) rs⟩
        · have td := tdv (z := stE 1 V) (k := 16 + V) (r := 0) (by show (16 + V) * 10000 = _; omega) (by omega) (by omega)
          have vk := vKr p0 (kind := kind) (v := V) p4 (by omega)
          have bk : 0 ≤ a (20 + 8 * kind + V) ∧ a (20 + 8 * kind + V) ≤ 1000 := by
            have : V = 1 ∨ V = 2 ∨ V = 3 ∨ V = 4 := by omega
            rcases this with h | h | h | h <;> rw [h] <;> omega
          rw [td.1]
          refine ⟨by omega, ?_⟩
          rw [if_neg (by omega), if_neg (by omega), if_neg (by omega)]
          refine ⟨by omega, ?_⟩
          rw [if_pos (by omega), vk]
          refine ⟨by omega, by omega, by omega, ?_⟩
          refine next _ _ _ (by rw [ev1_1, cl_0, List.length_cons]; omega) (Fr9_2 fr (by rw [u1_n (by omega)]) (by rw [u1_n (by omega)])) ?_
          rw [ev1_1, cl_0, i56_, i57_]
          exact ⟨⟨by rw [u1_s], by rw [u1_s], by dsimp only; omega⟩, CRs_c (fun k h0 h1 => ⟨by rw [u1_n (by omega)], by rw [u1_n (by omega)]⟩) rs⟩
        · have td := tdv (z := stE 2 V) (k := 37) (r := 0) (by show 370000 = _; omega) (by omega) (by omega)
          obtain ⟨X, T, e1, e2⟩ := cl_2 (kv := (fun v => a (20 + 8 * kind + v))) ho
          rw [e2] at next
          rw [e1] at rs cl ⊢
          rw [List.length_cons] at cl ⊢
          obtain ⟨⟨x1, x2, x3⟩, rT⟩ := rs
          have g3 : ((T.length + 1 : Nat) : Int) = (T.length : Int) + 1 := by omega
          rw [td.1]
          refine ⟨by omega, ?_⟩
          rw [if_neg (by omega), if_neg (by omega), if_pos (by omega), if_pos rfl, g3, x1]
          refine ⟨by omega, -X.1, rfl, by omega, ?_⟩
          refine next _ _ _ (by rw [List.length_cons]; omega) (Fr9_1 fr (by rw [u1_n (by omega)])) ?_
          rw [uc_s, uc_n (by decide)]
          exact ⟨⟨by rw [u1_s], x2, by dsimp only; omega⟩, CRs_c (fun k h0 h1 => ⟨by rw [u1_n (by omega)], rfl⟩) rT⟩
        · have td := tdv (z := stE 20 V) (k := 16) (r := 0) (by show 160000 = _; omega) (by omega) (by omega)
          obtain ⟨b, T, e1, e2⟩ := cl_20 (kv := (fun v => a (20 + 8 * kind + v))) ho
          rw [e2] at next
          rw [e1] at rs cl ⊢
          rw [List.length_cons] at cl ⊢
          obtain ⟨⟨x1, x2, x3⟩, rT⟩ := rs
          have g3 : ((T.length + 1 : Nat) : Int) = (T.length : Int) + 1 := by omega
          have hb : b1_ (!b) = 1 - b1_ b := by cases b <;> rfl
          have hb2 := b1_01 b
          rw [td.1]
          refine ⟨by omega, ?_⟩
          rw [if_neg (by omega), if_pos (by omega), if_neg (by omega), if_pos rfl, g3, x1]
          dsimp only
          refine ⟨by omega, 1 - b1_ b, rfl, by omega, ?_⟩
          refine next _ _ _ (by rw [List.length_cons]; omega) (Fr9_1 fr (by rw [u1_n (by omega)])) ?_
          rw [uc_s, uc_n (by decide), hb]
          exact ⟨⟨by rw [u1_s], x2, by dsimp only; omega⟩, CRs_c (fun k h0 h1 => ⟨by rw [u1_n (by omega)], rfl⟩) rT⟩
  refine wc_of mi_21 rfl (u_21_0 hx htn ?_)
  exact key _ τ ([], []) fro _ (by omega) (by omega) p5 (by decide) ⟨fun _ _ _ => rfl, rfl, rfl⟩ trivial t
