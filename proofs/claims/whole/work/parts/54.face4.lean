/-! ===== the class: work and persons (segments printed by wip/whole, contracts own work) ===== -/
theorem uc_e {σ σ1 : zI} {k : Nat} {F : Int → Int} (h : ∀ c, c ≠ k → σ1 c = σ c) : uc σ1 k F = uc σ k F := by
  funext c
  unfold uc
  split
  · rfl
  · next q => exact h c q
theorem uc_ex {σ σ1 : zI} {k : Nat} (h : ∀ c, c ≠ k → σ1 c = σ c) : σ1 = uc σ k (σ1 k) := by
  funext c
  unfold uc
  split
  · next q => rw [q]
  · next q => exact h c q
theorem r_endL_c {a : Int → Int} {p n q j : Int} (h0 : 0 ≤ n) (hj : 0 ≤ j ∧ j ≤ 2 ∨ 8 ≤ j ∧ j ≤ 11) : fI (r_endL p) n a (3652 + 12 * q + j) = a (3652 + 12 * q + j) := by
  have key : ∀ m : Nat, fN (r_endL p) m a (3652 + 12 * q + j) = a (3652 + 12 * q + j) := by
    intro m
    induction m with
    | zero => rfl
    | succ m ih =>
      show r_endL p (m : Int) (fN (r_endL p) m a) _ = _
      unfold r_endL
      split
      · split
        · rw [r_end1_n (by omega)]; exact ih
        · exact ih
      · exact ih
  exact key n.toNat
theorem r_endW_c {a : Int → Int} {p q j : Int} (h4 : 0 ≤ a 4) (hj : 0 ≤ j ∧ j ≤ 2 ∨ 8 ≤ j ∧ j ≤ 11) : r_endW a p (3652 + 12 * q + j) = a (3652 + 12 * q + j) := by
  unfold r_endW
  rw [r_end1_n (by omega)]
  split
  · exact r_endL_c h4 hj
  · rfl
theorem r_endW_n {a : Int → Int} {p k : Int} (hp : 0 ≤ p ∧ p < a 4) (h : k < 3652 ∨ 3652 + 12 * a 4 ≤ k) : r_endW a p k = a k := by
  unfold r_endW
  rw [r_end1_n (by omega)]
  split
  · exact r_endL_n (by omega) h
  · rfl
/-- a person's work ends, or begins -/
theorem RT_end {σ σ1 : zI} {t : Nat} {a : Int → Int} {p : Int} (h : RT σ t a) (q : jv_C a) (hp : 0 ≤ p ∧ p < a 4) (hF : fP (σ1 (t + 12)) (r_endW a p)) (hs : ∀ c, c ≠ t + 12 → σ1 c = σ c) : RT σ1 t (r_endW a p) := by
  unfold jv_C at q
  rw [uc_ex hs]
  exact RT_P h hF (fun k hk => r_endW_n hp (by omega)) (fun x x0 x1 => ⟨r_endW_c (by omega) (by omega), r_endW_c (by omega) (by omega)⟩) (by omega)
theorem RT_start {σ σ1 : zI} {t : Nat} {a : Int → Int} {p s m n tc : Int} (h : RT σ t a) (q : jv_C a) (hp : 0 ≤ p ∧ p < a 4) (hF : fP (σ1 (t + 12)) (r_endW a p)) (hs : ∀ c, c ≠ t + 12 → σ1 c = σ c) : RT (uc σ1 (t + 12) (u1 (u1 (u1 (u1 (σ1 (t + 12)) (p * 9 + 3) s) (p * 9 + 4) m) (p * 9 + 5) n) (p * 9 + 6) tc)) t (u1 (u1 (u1 (u1 (r_endW a p) (3652 + 12 * p + 3) s) (3652 + 12 * p + 4) m) (3652 + 12 * p + 5) n) (3652 + 12 * p + 6) tc) := by
  unfold jv_C at q
  have e4 : r_endW a p 4 = a 4 := r_endW_n hp (by omega)
  rw [uc_e hs]
  refine RT_P h (fP_u (fP_u (fP_u (fP_u hF (by omega) (by omega)) ?_ (by omega)) ?_ (by omega)) ?_ (by omega)) (fun k hk => ?_) (fun x x0 x1 => ⟨?_, ?_⟩) (by omega)
  · rw [u1_n (by omega)]; omega
  · rw [u1_n (by omega), u1_n (by omega)]; omega
  · rw [u1_n (by omega), u1_n (by omega), u1_n (by omega)]; omega
  · rw [u1_n (by omega), u1_n (by omega), u1_n (by omega), u1_n (by omega)]; exact r_endW_n hp (by omega)
  · rw [u1_n (by omega), u1_n (by omega), u1_n (by omega), u1_n (by omega)]; exact r_endW_c (by omega) (by omega)
  · rw [u1_n (by omega), u1_n (by omega), u1_n (by omega), u1_n (by omega)]; exact r_endW_c (by omega) (by omega)
-- method 153: MillTown.work(IIII)Z
theorem c_153_0 : pg_cd 153 0 = (5, 1, 0, 0, 0) := by decide +kernel
theorem c_153_1 : pg_cd 153 1 = (45, 11, 12, 0, 0) := by decide +kernel
theorem c_153_4 : pg_cd 153 4 = (45, 8, 136, 5, 0) := by decide +kernel
theorem c_153_7 : pg_cd 153 7 = (3, 1, 0, 1, 0) := by decide +kernel
theorem c_153_8 : pg_cd 153 8 = (80, 53, 75, 0, 0) := by decide +kernel
theorem c_153_11 : pg_cd 153 11 = (36, 3, 0, 0, 38) := by decide +kernel
theorem c_153_14 : pg_cd 153 14 = (3, 1, 0, 2, 0) := by decide +kernel
theorem c_153_15 : pg_cd 153 15 = (1, 1, 0, 0, 0) := by decide +kernel
theorem c_153_16 : pg_cd 153 16 = (1, 1, 0, 0, 4) := by decide +kernel
theorem c_153_17 : pg_cd 153 17 = (81, 141, 85, 0, 0) := by decide +kernel
theorem c_153_20 : pg_cd 153 20 = (36, 3, 0, 0, 29) := by decide +kernel
theorem c_153_23 : pg_cd 153 23 = (5, 1, 0, 0, 0) := by decide +kernel
theorem c_153_24 : pg_cd 153 24 = (45, 11, 12, 0, 0) := by decide +kernel
theorem c_153_27 : pg_cd 153 27 = (45, 8, 127, 4, 0) := by decide +kernel
theorem c_153_30 : pg_cd 153 30 = (5, 1, 0, 0, 0) := by decide +kernel
theorem c_153_31 : pg_cd 153 31 = (45, 11, 12, 0, 0) := by decide +kernel
theorem c_153_34 : pg_cd 153 34 = (45, 8, 136, 5, 0) := by decide +kernel
theorem c_153_37 : pg_cd 153 37 = (3, 1, 0, 1, 0) := by decide +kernel
theorem c_153_38 : pg_cd 153 38 = (1, 1, 0, 0, 0) := by decide +kernel
theorem c_153_39 : pg_cd 153 39 = (80, 55, 130, 0, 0) := by decide +kernel
theorem c_153_42 : pg_cd 153 42 = (1, 1, 0, 0, 2) := by decide +kernel
theorem c_153_43 : pg_cd 153 43 = (80, 55, 130, 0, 0) := by decide +kernel
theorem c_153_46 : pg_cd 153 46 = (36, 3, 0, 0, 5) := by decide +kernel
theorem c_153_49 : pg_cd 153 49 = (1, 1, 0, 0, 0) := by decide +kernel
theorem c_153_50 : pg_cd 153 50 = (91, 0, 0, 0, 0) := by decide +kernel
theorem c_153_51 : pg_cd 153 51 = (3, 1, 0, 2, 0) := by decide +kernel
theorem c_153_52 : pg_cd 153 52 = (36, 3, 0, 1, 13) := by decide +kernel
theorem c_153_55 : pg_cd 153 55 = (5, 1, 0, 0, 0) := by decide +kernel
theorem c_153_56 : pg_cd 153 56 = (45, 11, 12, 0, 0) := by decide +kernel
theorem c_153_59 : pg_cd 153 59 = (3, 1, 0, 1, 0) := by decide +kernel
theorem c_153_60 : pg_cd 153 60 = (80, 103, 139, 0, 0) := by decide +kernel
theorem c_153_63 : pg_cd 153 63 = (1, 1, 0, 0, 1) := by decide +kernel
theorem c_153_64 : pg_cd 153 64 = (91, 0, 0, 0, 0) := by decide +kernel
theorem c_153_65 : pg_cd 153 65 = (3, 1, 0, 2, 0) := by decide +kernel
theorem c_153_66 : pg_cd 153 66 = (1, 1, 0, 0, 2) := by decide +kernel
theorem c_153_67 : pg_cd 153 67 = (37, 3, 0, 1, 15) := by decide +kernel
theorem c_153_70 : pg_cd 153 70 = (5, 1, 0, 0, 0) := by decide +kernel
theorem c_153_71 : pg_cd 153 71 = (45, 11, 12, 0, 0) := by decide +kernel
theorem c_153_74 : pg_cd 153 74 = (3, 1, 0, 1, 0) := by decide +kernel
theorem c_153_75 : pg_cd 153 75 = (3, 1, 0, 3, 0) := by decide +kernel
theorem c_153_76 : pg_cd 153 76 = (80, 100, 143, 0, 0) := by decide +kernel
theorem c_153_79 : pg_cd 153 79 = (38, 3, 0, 0, 4) := by decide +kernel
theorem c_153_82 : pg_cd 153 82 = (3, 1, 0, 3, 0) := by decide +kernel
theorem c_153_83 : pg_cd 153 83 = (6, 2, 0, 5, 0) := by decide +kernel
theorem c_153_85 : pg_cd 153 85 = (5, 1, 0, 0, 0) := by decide +kernel
theorem c_153_86 : pg_cd 153 86 = (3, 2, 0, 5, 0) := by decide +kernel
theorem c_153_88 : pg_cd 153 88 = (80, 154, 146, 0, 0) := by decide +kernel
theorem c_153_91 : pg_cd 153 91 = (36, 3, 0, 0, 16) := by decide +kernel
theorem c_153_94 : pg_cd 153 94 = (5, 1, 0, 0, 0) := by decide +kernel
theorem c_153_95 : pg_cd 153 95 = (3, 1, 0, 1, 0) := by decide +kernel
theorem c_153_96 : pg_cd 153 96 = (3, 1, 0, 2, 0) := by decide +kernel
theorem c_153_97 : pg_cd 153 97 = (3, 2, 0, 5, 0) := by decide +kernel
theorem c_153_99 : pg_cd 153 99 = (3, 2, 0, 4, 0) := by decide +kernel
theorem c_153_101 : pg_cd 153 101 = (80, 155, 149, 0, 0) := by decide +kernel
theorem c_153_104 : pg_cd 153 104 = (36, 3, 0, 1, 5) := by decide +kernel
theorem c_153_107 : pg_cd 153 107 = (1, 1, 0, 0, 0) := by decide +kernel
theorem c_153_108 : pg_cd 153 108 = (91, 0, 0, 0, 0) := by decide +kernel
theorem c_153_109 : pg_cd 153 109 = (5, 1, 0, 0, 0) := by decide +kernel
theorem c_153_110 : pg_cd 153 110 = (45, 11, 12, 0, 0) := by decide +kernel
theorem c_153_113 : pg_cd 153 113 = (3, 1, 0, 1, 0) := by decide +kernel
theorem c_153_114 : pg_cd 153 114 = (80, 103, 139, 0, 0) := by decide +kernel
theorem c_153_117 : pg_cd 153 117 = (5, 1, 0, 0, 0) := by decide +kernel
theorem c_153_118 : pg_cd 153 118 = (45, 11, 12, 0, 0) := by decide +kernel
theorem c_153_121 : pg_cd 153 121 = (3, 1, 0, 1, 0) := by decide +kernel
theorem c_153_122 : pg_cd 153 122 = (3, 1, 0, 2, 0) := by decide +kernel
theorem c_153_123 : pg_cd 153 123 = (3, 2, 0, 5, 0) := by decide +kernel
theorem c_153_125 : pg_cd 153 125 = (3, 2, 0, 4, 0) := by decide +kernel
theorem c_153_127 : pg_cd 153 127 = (3, 1, 0, 2, 0) := by decide +kernel
theorem c_153_128 : pg_cd 153 128 = (1, 1, 0, 0, 2) := by decide +kernel
theorem c_153_129 : pg_cd 153 129 = (37, 3, 0, 1, 7) := by decide +kernel
theorem c_153_132 : pg_cd 153 132 = (3, 1, 0, 3, 0) := by decide +kernel
theorem c_153_133 : pg_cd 153 133 = (38, 3, 0, 0, 4) := by decide +kernel
theorem c_153_136 : pg_cd 153 136 = (1, 1, 0, 0, (-1)) := by decide +kernel
theorem c_153_137 : pg_cd 153 137 = (80, 101, 153, 0, 0) := by decide +kernel
theorem c_153_140 : pg_cd 153 140 = (1, 1, 0, 0, 1) := by decide +kernel
theorem c_153_141 : pg_cd 153 141 = (91, 0, 0, 0, 0) := by decide +kernel
theorem mi_153 : pg_mc 153 = 11 ∧ pg_na 153 = 4 ∧ pg_mx 153 = 6 := by decide +kernel
set_option maxRecDepth 20000 in
theorem u_153_0 {d : Nat} {S : zS} {σ τ : zI} {Q : zQ} {x1 : Int} {x2 : Int} {x3 : Int} {x4 : Int} (t : (rg x1) ∧ if 0 ≤ x1 ∧ x1 < (σ 13 2) then ((rg x2) ∧ if 0 ≤ x2 ∧ x2 ≤ 4 then (if (rt_ (σ 11 2) (σ 12) 8 2 (rt_ (σ 13 2) (σ 14) 9 0 x1)) = 0 then (if x2 = 0 then (∃ a46 : Int → Int, (RT σ 2 a46) ∧ (0 ≤ x1 ∧ x1 < a46 4) ∧ ∀ (σ149 : zI), fP (σ149 (2 + 12)) (r_endW a46 x1) → (∀ c, c ≠ 2 + 12 → σ149 c = σ c) → Q (some (.int (wI 1))) S σ149 τ) else (if x2 = 2 then ((rg x3) ∧ (rg (if (0 ≤ x3 ∧ x3 < σ 13 2) ∧ x3 ≠ x1 ∧ rt_ (σ 13 2) (σ 14) 9 3 x3 = 1 then rt_ (σ 13 2) (σ 14) 9 4 x3 else -1)) ∧ if (0 ≤ (if (0 ≤ x3 ∧ x3 < σ 13 2) ∧ x3 ≠ x1 ∧ rt_ (σ 13 2) (σ 14) 9 3 x3 = 1 then rt_ (σ 13 2) (σ 14) 9 4 x3 else -1) ∧ (if (0 ≤ x3 ∧ x3 < σ 13 2) ∧ x3 ≠ x1 ∧ rt_ (σ 13 2) (σ 14) 9 3 x3 = 1 then rt_ (σ 13 2) (σ 14) 9 4 x3 else -1) < σ 7 2) ∧ rt_ (σ 7 2) (σ 8) 13 4 (if (0 ≤ x3 ∧ x3 < σ 13 2) ∧ x3 ≠ x1 ∧ rt_ (σ 13 2) (σ 14) 9 3 x3 = 1 then rt_ (σ 13 2) (σ 14) 9 4 x3 else -1) = 0 then (∃ a30 : Int → Int, (RT σ 2 a30) ∧ (Jv a30) ∧ (0 ≤ x1 ∧ x1 < a30 4) ∧ (0 ≤ (if (0 ≤ x3 ∧ x3 < σ 13 2) ∧ x3 ≠ x1 ∧ rt_ (σ 13 2) (σ 14) 9 3 x3 = 1 then rt_ (σ 13 2) (σ 14) 9 4 x3 else -1) ∧ (if (0 ≤ x3 ∧ x3 < σ 13 2) ∧ x3 ≠ x1 ∧ rt_ (σ 13 2) (σ 14) 9 3 x3 = 1 then rt_ (σ 13 2) (σ 14) 9 4 x3 else -1) < a30 1) ∧ (1 ≤ x2 ∧ x2 ≤ 4) ∧ (rg x4) ∧ if (x2 = 1 ∧ (1 ≤ x4 ∧ x4 ≤ 6) ∧ r_had a30 (if (0 ≤ x3 ∧ x3 < σ 13 2) ∧ x3 ≠ x1 ∧ rt_ (σ 13 2) (σ 14) 9 3 x3 = 1 then rt_ (σ 13 2) (σ 14) 9 4 x3 else -1) x1 + x4 ≤ a30 (3300 + 16 * (if (0 ≤ x3 ∧ x3 < σ 13 2) ∧ x3 ≠ x1 ∧ rt_ (σ 13 2) (σ 14) 9 3 x3 = 1 then rt_ (σ 13 2) (σ 14) 9 4 x3 else -1) + 0)) ∨ (x2 = 2 ∧ (1 ≤ x4 ∧ x4 ≤ 2) ∧ r_had a30 (if (0 ≤ x3 ∧ x3 < σ 13 2) ∧ x3 ≠ x1 ∧ rt_ (σ 13 2) (σ 14) 9 3 x3 = 1 then rt_ (σ 13 2) (σ 14) 9 4 x3 else -1) x1 + x4 ≤ a30 (3300 + 16 * (if (0 ≤ x3 ∧ x3 < σ 13 2) ∧ x3 ≠ x1 ∧ rt_ (σ 13 2) (σ 14) 9 3 x3 = 1 then rt_ (σ 13 2) (σ 14) 9 4 x3 else -1) + 0)) ∨ (3 ≤ x2 ∧ (1 ≤ x4 ∧ x4 ≤ 50) ∧ (x2 = 4 → a30 (3652 + 12 * x1 + 1) < 18)) then (∃ a38 : Int → Int, (RT σ 2 a38) ∧ (0 ≤ x1 ∧ x1 < a38 4) ∧ ∀ (σ141 : zI), fP (σ141 (2 + 12)) (r_endW a38 x1) → (∀ c, c ≠ 2 + 12 → σ141 c = σ c) → (0 ≤ x1 ∧ x1 < σ141 (2 + 11) 2) ∧ Q (some (.int (wI 1))) S (uc σ141 14 (u1 (u1 (u1 (u1 ((σ141 14)) (x1 * 9 + 3) x2) (x1 * 9 + 4) (if (0 ≤ x3 ∧ x3 < σ 13 2) ∧ x3 ≠ x1 ∧ rt_ (σ 13 2) (σ 14) 9 3 x3 = 1 then rt_ (σ 13 2) (σ 14) 9 4 x3 else -1)) (x1 * 9 + 5) x4) (x1 * 9 + 6) x3)) τ) else (Q (some (.int (wI 0))) S σ τ)) else (Q (some (.int (wI 0))) S σ τ)) else ((rg x3) ∧ if (0 ≤ x3 ∧ x3 < σ 7 2) ∧ rt_ (σ 7 2) (σ 8) 13 4 x3 = 0 then (∃ a11 : Int → Int, (RT σ 2 a11) ∧ (Jv a11) ∧ (0 ≤ x1 ∧ x1 < a11 4) ∧ (0 ≤ x3 ∧ x3 < a11 1) ∧ (1 ≤ x2 ∧ x2 ≤ 4) ∧ (rg x4) ∧ if (x2 = 1 ∧ (1 ≤ x4 ∧ x4 ≤ 6) ∧ r_had a11 x3 x1 + x4 ≤ a11 (3300 + 16 * x3 + 0)) ∨ (x2 = 2 ∧ (1 ≤ x4 ∧ x4 ≤ 2) ∧ r_had a11 x3 x1 + x4 ≤ a11 (3300 + 16 * x3 + 0)) ∨ (3 ≤ x2 ∧ (1 ≤ x4 ∧ x4 ≤ 50) ∧ (x2 = 4 → a11 (3652 + 12 * x1 + 1) < 18)) then (∃ a19 : Int → Int, (RT σ 2 a19) ∧ (0 ≤ x1 ∧ x1 < a19 4) ∧ ∀ (σ122 : zI), fP (σ122 (2 + 12)) (r_endW a19 x1) → (∀ c, c ≠ 2 + 12 → σ122 c = σ c) → (0 ≤ x1 ∧ x1 < σ122 (2 + 11) 2) ∧ Q (some (.int (wI 1))) S (uc σ122 14 (u1 (u1 (u1 (u1 ((σ122 14)) (x1 * 9 + 3) x2) (x1 * 9 + 4) x3) (x1 * 9 + 5) x4) (x1 * 9 + 6) (-1))) τ) else (Q (some (.int (wI 0))) S σ τ)) else (Q (some (.int (wI 0))) S σ τ)))) else (Q (some (.int (wI 0))) S σ τ)) else (Q (some (.int (wI 0))) S σ τ)) else (Q (some (.int (wI 0))) S σ τ)) : wi (d + 12) 153 0 [.ref 1, .int (wI x1), .int (wI x2), .int (wI x3), .int (wI x4), .retAddr 0] [] S σ τ Q := by
  obtain ⟨r1, t⟩ := t
  refine i5 c_153_0 rfl (i45 c_153_1 (lo (c := 1) (kd := 111) (n := 0) rfl (by decide)) (lro (c := 1) (k := 0) (j := 2) (by decide)) (i45 c_153_4 (lo (c := 2) (kd := 108) (n := 0) rfl (by decide)) (lro (c := 2) (k := 5) (j := 13) (by decide)) (i3 c_153_7 rfl (wi_ok (fun K2 => ?_)))))
  refine i80 (As := [.int (wI x1)]) (rest := []) c_153_8 mi_53 rfl rfl (Nat.le_of_ble_eq_true rfl) (Nat.le_of_ble_eq_true rfl) (lo (c := 13) (kd := 104) (n := 0) rfl (by decide)) (q_has (ow_persons tw_2) r1 ?_)
  show wi (d + 12) 153 11 [.ref 1, .int (wI x1), .int (wI x2), .int (wI x3), .int (wI x4), .retAddr 0] [.int (wI (if 0 ≤ x1 ∧ x1 < σ 13 2 then 1 else 0))] S σ τ Q
  refine i36e c_153_11 rfl (fun hc => ?_) (fun hc => ?_)
  · have t := iT t hc
    have ha3 : 0 ≤ x1 ∧ x1 < (σ 13 2) := hc
    obtain ⟨r4, t⟩ := t
    refine i3 c_153_14 rfl (i1 c_153_15 (i1 c_153_16 ?_))
    refine i81 (As := [.int (wI x2), .int (wI 0), .int (wI 4)]) (rest := []) c_153_17 mi_141 rfl rfl (Nat.le_of_ble_eq_true rfl) (Nat.le_of_ble_eq_true rfl) (q_141 r4 (by decide) (by decide) ?_)
    show wi (d + 12) 153 20 [.ref 1, .int (wI x1), .int (wI x2), .int (wI x3), .int (wI x4), .retAddr 0] [.int (wI (if 0 ≤ x2 ∧ x2 ≤ 4 then 1 else 0))] S σ τ Q
    refine i36e c_153_20 rfl (fun hc => ?_) (fun hc => ?_)
    · have t := iT t hc
      have ha5 : 0 ≤ x2 ∧ x2 ≤ 4 := hc
      refine i5 c_153_23 rfl (i45 c_153_24 (lo (c := 1) (kd := 111) (n := 0) rfl (by decide)) (lro (c := 1) (k := 0) (j := 2) (by decide)) (i45 c_153_27 (lo (c := 2) (kd := 108) (n := 0) rfl (by decide)) (lro (c := 2) (k := 4) (j := 11) (by decide)) (i5 c_153_30 rfl (i45 c_153_31 (lo (c := 1) (kd := 111) (n := 0) rfl (by decide)) (lro (c := 1) (k := 0) (j := 2) (by decide)) (i45 c_153_34 (lo (c := 2) (kd := 108) (n := 0) rfl (by decide)) (lro (c := 2) (k := 5) (j := 13) (by decide)) (i3 c_153_37 rfl (i1 c_153_38 ?_)))))))
      refine i80 (As := [.int (wI x1), .int (wI 0)]) (rest := [.ref 11]) c_153_39 mi_55 rfl rfl (Nat.le_of_ble_eq_true rfl) (Nat.le_of_ble_eq_true rfl) (lo (c := 13) (kd := 104) (n := 0) rfl (by decide)) (q_at (ow_persons tw_2) r1 (by decide) ?_)
      show wi (d + 12) 153 42 [.ref 1, .int (wI x1), .int (wI x2), .int (wI x3), .int (wI x4), .retAddr 0] [.int (wI (rt_ (σ 13 2) (σ 14) 9 0 x1)), .ref 11] S σ τ Q
      refine i1 c_153_42 ?_
      refine i80 (As := [.int (wI (rt_ (σ 13 2) (σ 14) 9 0 x1)), .int (wI 2)]) (rest := []) c_153_43 mi_55 rfl rfl (Nat.le_of_ble_eq_true rfl) (Nat.le_of_ble_eq_true rfl) (lo (c := 11) (kd := 104) (n := 0) rfl (by decide)) (q_at (ow_homes tw_2) (rg_rt_ (fun k => kO_r K2 _ k) _ _ _ _) (by decide) ?_)
      show wi (d + 12) 153 46 [.ref 1, .int (wI x1), .int (wI x2), .int (wI x3), .int (wI x4), .retAddr 0] [.int (wI (rt_ (σ 11 2) (σ 12) 8 2 (rt_ (σ 13 2) (σ 14) 9 0 x1)))] S σ τ Q
      refine i36 c_153_46 (rg_rt_ (fun k => kO_r K2 _ k) _ _ _ _) rfl (fun hc => ?_) (fun hc => ?_)
      · have t := iT t hc
        have ha6 : (rt_ (σ 11 2) (σ 12) 8 2 (rt_ (σ 13 2) (σ 14) 9 0 x1)) = 0 := hc
        refine i3 c_153_51 rfl ?_
        refine i36 c_153_52 r4 rfl (fun hc => ?_) (fun hc => ?_)
        · have t := iF t hc
          have ha7 : ¬ (x2 = 0) := hc
          refine i3 c_153_65 rfl (i1 c_153_66 ?_)
          refine i37 c_153_67 r4 (by decide) rfl (fun hc => ?_) (fun hc => ?_)
          · have t := iF t hc
            have ha8 : ¬ (x2 = 2) := hc
            obtain ⟨r9, t⟩ := t
            refine i3 c_153_82 rfl (i6 (L' := [.ref 1, .int (wI x1), .int (wI x2), .int (wI x3), .int (wI x4), .int (wI x3)]) c_153_83 rfl (i5 c_153_85 rfl (i3 c_153_86 rfl ?_)))
            refine i80 (As := [.int (wI x3)]) (rest := []) c_153_88 mi_154 rfl rfl (Nat.le_of_ble_eq_true rfl) (Nat.le_of_ble_eq_true rfl) (lo (c := 1) (kd := 111) (n := 0) rfl (by decide)) (q_154 r9 ?_)
            show wi (d + 12) 153 91 [.ref 1, .int (wI x1), .int (wI x2), .int (wI x3), .int (wI x4), .int (wI x3)] [.int (wI (if (0 ≤ x3 ∧ x3 < σ 7 2) ∧ rt_ (σ 7 2) (σ 8) 13 4 x3 = 0 then 1 else 0))] S σ τ Q
            refine i36e c_153_91 rfl (fun hc => ?_) (fun hc => ?_)
            · have t := iT t hc
              have ha10 : (0 ≤ x3 ∧ x3 < σ 7 2) ∧ rt_ (σ 7 2) (σ 8) 13 4 x3 = 0 := hc
              obtain ⟨a11, t⟩ := t
              obtain ⟨p12, t⟩ := t
              obtain ⟨p13, t⟩ := t
              obtain ⟨p14, t⟩ := t
              obtain ⟨p15, t⟩ := t
              obtain ⟨p16, t⟩ := t
              obtain ⟨r17, t⟩ := t
              refine i5 c_153_94 rfl (i3 c_153_95 rfl (i3 c_153_96 rfl (i3 c_153_97 rfl (i3 c_153_99 rfl ?_))))
              refine i80 (As := [.int (wI x1), .int (wI x2), .int (wI x3), .int (wI x4)]) (rest := []) c_153_101 mi_155 rfl rfl (Nat.le_of_ble_eq_true rfl) (Nat.le_of_ble_eq_true rfl) (lo (c := 1) (kd := 111) (n := 0) rfl (by decide)) (q_155 (a := a11) p12 p13 p14 p15 p16 r17 ?_)
              show wi (d + 12) 153 104 [.ref 1, .int (wI x1), .int (wI x2), .int (wI x3), .int (wI x4), .int (wI x3)] [.int (wI (if (x2 = 1 ∧ (1 ≤ x4 ∧ x4 ≤ 6) ∧ r_had a11 x3 x1 + x4 ≤ a11 (3300 + 16 * x3 + 0)) ∨ (x2 = 2 ∧ (1 ≤ x4 ∧ x4 ≤ 2) ∧ r_had a11 x3 x1 + x4 ≤ a11 (3300 + 16 * x3 + 0)) ∨ (3 ≤ x2 ∧ (1 ≤ x4 ∧ x4 ≤ 50) ∧ (x2 = 4 → a11 (3652 + 12 * x1 + 1) < 18)) then 1 else 0))] S σ τ Q
              refine i36f c_153_104 rfl (fun hc => ?_) (fun hc => ?_)
              · have t := iT t hc
                have ha18 : (x2 = 1 ∧ (1 ≤ x4 ∧ x4 ≤ 6) ∧ r_had a11 x3 x1 + x4 ≤ a11 (3300 + 16 * x3 + 0)) ∨ (x2 = 2 ∧ (1 ≤ x4 ∧ x4 ≤ 2) ∧ r_had a11 x3 x1 + x4 ≤ a11 (3300 + 16 * x3 + 0)) ∨ (3 ≤ x2 ∧ (1 ≤ x4 ∧ x4 ≤ 50) ∧ (x2 = 4 → a11 (3652 + 12 * x1 + 1) < 18)) := hc
                obtain ⟨a19, t⟩ := t
                obtain ⟨p20, t⟩ := t
                obtain ⟨p21, t⟩ := t
                refine i5 c_153_109 rfl (i45 c_153_110 (lo (c := 1) (kd := 111) (n := 0) rfl (by decide)) (lro (c := 1) (k := 0) (j := 2) (by decide)) (i3 c_153_113 rfl ?_))
                refine i80 (As := [.int (wI x1)]) (rest := []) c_153_114 mi_103 rfl rfl (Nat.le_of_ble_eq_true rfl) (Nat.le_of_ble_eq_true rfl) (lo (c := 2) (kd := 108) (n := 0) rfl (by decide)) (q_103 (a := a19) tw_2 p20 p21 (fun σ122 q23 q24 => ?_))
                have t := t σ122 q23 q24
                show wi (d + 12) 153 117 [.ref 1, .int (wI x1), .int (wI x2), .int (wI x3), .int (wI x4), .int (wI x3)] [] S σ122 τ Q
                refine i5 c_153_117 rfl (i45 c_153_118 (lo (c := 1) (kd := 111) (n := 0) rfl (by decide)) (lro (c := 1) (k := 0) (j := 2) (by decide)) (i3 c_153_121 rfl (i3 c_153_122 rfl (i3 c_153_123 rfl (i3 c_153_125 rfl (i3 c_153_127 rfl (i1 c_153_128 ?_)))))))
                refine i37 c_153_129 r4 (by decide) rfl (fun _ => ?_) (fun hc => absurd (show ¬ (x2 = 2) by omega) hc)
                obtain ⟨p26, t⟩ := t
                refine i1 c_153_136 ?_
                refine i80 (As := [.int (wI x1), .int (wI x2), .int (wI x3), .int (wI x4), .int (wI (-1))]) (rest := []) c_153_137 mi_101 rfl rfl (Nat.le_of_ble_eq_true rfl) (Nat.le_of_ble_eq_true rfl) (lo (c := 2) (kd := 108) (n := 0) rfl (by decide)) (q_101 tw_2 p26 r4 r9 r17 (by decide) ?_)
                show wi (d + 12) 153 140 [.ref 1, .int (wI x1), .int (wI x2), .int (wI x3), .int (wI x4), .int (wI x3)] [] S (uc σ122 14 (u1 (u1 (u1 (u1 ((σ122 14)) (x1 * 9 + 3) x2) (x1 * 9 + 4) x3) (x1 * 9 + 5) x4) (x1 * 9 + 6) (-1))) τ Q
                refine i1 c_153_140 ?_
                exact i91 c_153_141 (by decide) t
              · have t := iF t hc
                have ha18 : ¬ ((x2 = 1 ∧ (1 ≤ x4 ∧ x4 ≤ 6) ∧ r_had a11 x3 x1 + x4 ≤ a11 (3300 + 16 * x3 + 0)) ∨ (x2 = 2 ∧ (1 ≤ x4 ∧ x4 ≤ 2) ∧ r_had a11 x3 x1 + x4 ≤ a11 (3300 + 16 * x3 + 0)) ∨ (3 ≤ x2 ∧ (1 ≤ x4 ∧ x4 ≤ 50) ∧ (x2 = 4 → a11 (3652 + 12 * x1 + 1) < 18))) := hc
                refine i1 c_153_107 ?_
                exact i91 c_153_108 (by decide) t
            · have t := iF t hc
              have ha10 : ¬ ((0 ≤ x3 ∧ x3 < σ 7 2) ∧ rt_ (σ 7 2) (σ 8) 13 4 x3 = 0) := hc
              refine i1 c_153_107 ?_
              exact i91 c_153_108 (by decide) t
          · have t := iT t (Decidable.not_not.mp hc)
            have ha8 : x2 = 2 := Decidable.not_not.mp hc
            obtain ⟨r27, t⟩ := t
            refine i5 c_153_70 rfl (i45 c_153_71 (lo (c := 1) (kd := 111) (n := 0) rfl (by decide)) (lro (c := 1) (k := 0) (j := 2) (by decide)) (i3 c_153_74 rfl (i3 c_153_75 rfl ?_)))
            refine i80 (As := [.int (wI x1), .int (wI x3)]) (rest := []) c_153_76 mi_100 rfl rfl (Nat.le_of_ble_eq_true rfl) (Nat.le_of_ble_eq_true rfl) (lo (c := 2) (kd := 108) (n := 0) rfl (by decide)) (q_100 tw_2 r1 r27 ?_)
            show wi (d + 12) 153 79 [.ref 1, .int (wI x1), .int (wI x2), .int (wI x3), .int (wI x4), .retAddr 0] [.int (wI (if (0 ≤ x3 ∧ x3 < σ 13 2) ∧ x3 ≠ x1 ∧ rt_ (σ 13 2) (σ 14) 9 3 x3 = 1 then rt_ (σ 13 2) (σ 14) 9 4 x3 else -1))] S σ τ Q
            obtain ⟨r28, t⟩ := t
            refine i38 c_153_79 rfl (i6 (L' := [.ref 1, .int (wI x1), .int (wI x2), .int (wI x3), .int (wI x4), .int (wI (if (0 ≤ x3 ∧ x3 < σ 13 2) ∧ x3 ≠ x1 ∧ rt_ (σ 13 2) (σ 14) 9 3 x3 = 1 then rt_ (σ 13 2) (σ 14) 9 4 x3 else -1))]) c_153_83 rfl (i5 c_153_85 rfl (i3 c_153_86 rfl ?_)))
            refine i80 (As := [.int (wI (if (0 ≤ x3 ∧ x3 < σ 13 2) ∧ x3 ≠ x1 ∧ rt_ (σ 13 2) (σ 14) 9 3 x3 = 1 then rt_ (σ 13 2) (σ 14) 9 4 x3 else -1))]) (rest := []) c_153_88 mi_154 rfl rfl (Nat.le_of_ble_eq_true rfl) (Nat.le_of_ble_eq_true rfl) (lo (c := 1) (kd := 111) (n := 0) rfl (by decide)) (q_154 r28 ?_)
            show wi (d + 12) 153 91 [.ref 1, .int (wI x1), .int (wI x2), .int (wI x3), .int (wI x4), .int (wI (if (0 ≤ x3 ∧ x3 < σ 13 2) ∧ x3 ≠ x1 ∧ rt_ (σ 13 2) (σ 14) 9 3 x3 = 1 then rt_ (σ 13 2) (σ 14) 9 4 x3 else -1))] [.int (wI (if (0 ≤ (if (0 ≤ x3 ∧ x3 < σ 13 2) ∧ x3 ≠ x1 ∧ rt_ (σ 13 2) (σ 14) 9 3 x3 = 1 then rt_ (σ 13 2) (σ 14) 9 4 x3 else -1) ∧ (if (0 ≤ x3 ∧ x3 < σ 13 2) ∧ x3 ≠ x1 ∧ rt_ (σ 13 2) (σ 14) 9 3 x3 = 1 then rt_ (σ 13 2) (σ 14) 9 4 x3 else -1) < σ 7 2) ∧ rt_ (σ 7 2) (σ 8) 13 4 (if (0 ≤ x3 ∧ x3 < σ 13 2) ∧ x3 ≠ x1 ∧ rt_ (σ 13 2) (σ 14) 9 3 x3 = 1 then rt_ (σ 13 2) (σ 14) 9 4 x3 else -1) = 0 then 1 else 0))] S σ τ Q
            refine i36e c_153_91 rfl (fun hc => ?_) (fun hc => ?_)
            · have t := iT t hc
              have ha29 : (0 ≤ (if (0 ≤ x3 ∧ x3 < σ 13 2) ∧ x3 ≠ x1 ∧ rt_ (σ 13 2) (σ 14) 9 3 x3 = 1 then rt_ (σ 13 2) (σ 14) 9 4 x3 else -1) ∧ (if (0 ≤ x3 ∧ x3 < σ 13 2) ∧ x3 ≠ x1 ∧ rt_ (σ 13 2) (σ 14) 9 3 x3 = 1 then rt_ (σ 13 2) (σ 14) 9 4 x3 else -1) < σ 7 2) ∧ rt_ (σ 7 2) (σ 8) 13 4 (if (0 ≤ x3 ∧ x3 < σ 13 2) ∧ x3 ≠ x1 ∧ rt_ (σ 13 2) (σ 14) 9 3 x3 = 1 then rt_ (σ 13 2) (σ 14) 9 4 x3 else -1) = 0 := hc
              obtain ⟨a30, t⟩ := t
              obtain ⟨p31, t⟩ := t
              obtain ⟨p32, t⟩ := t
              obtain ⟨p33, t⟩ := t
              obtain ⟨p34, t⟩ := t
              obtain ⟨p35, t⟩ := t
              obtain ⟨r36, t⟩ := t
              refine i5 c_153_94 rfl (i3 c_153_95 rfl (i3 c_153_96 rfl (i3 c_153_97 rfl (i3 c_153_99 rfl ?_))))
              refine i80 (As := [.int (wI x1), .int (wI x2), .int (wI (if (0 ≤ x3 ∧ x3 < σ 13 2) ∧ x3 ≠ x1 ∧ rt_ (σ 13 2) (σ 14) 9 3 x3 = 1 then rt_ (σ 13 2) (σ 14) 9 4 x3 else -1)), .int (wI x4)]) (rest := []) c_153_101 mi_155 rfl rfl (Nat.le_of_ble_eq_true rfl) (Nat.le_of_ble_eq_true rfl) (lo (c := 1) (kd := 111) (n := 0) rfl (by decide)) (q_155 (a := a30) p31 p32 p33 p34 p35 r36 ?_)
              show wi (d + 12) 153 104 [.ref 1, .int (wI x1), .int (wI x2), .int (wI x3), .int (wI x4), .int (wI (if (0 ≤ x3 ∧ x3 < σ 13 2) ∧ x3 ≠ x1 ∧ rt_ (σ 13 2) (σ 14) 9 3 x3 = 1 then rt_ (σ 13 2) (σ 14) 9 4 x3 else -1))] [.int (wI (if (x2 = 1 ∧ (1 ≤ x4 ∧ x4 ≤ 6) ∧ r_had a30 (if (0 ≤ x3 ∧ x3 < σ 13 2) ∧ x3 ≠ x1 ∧ rt_ (σ 13 2) (σ 14) 9 3 x3 = 1 then rt_ (σ 13 2) (σ 14) 9 4 x3 else -1) x1 + x4 ≤ a30 (3300 + 16 * (if (0 ≤ x3 ∧ x3 < σ 13 2) ∧ x3 ≠ x1 ∧ rt_ (σ 13 2) (σ 14) 9 3 x3 = 1 then rt_ (σ 13 2) (σ 14) 9 4 x3 else -1) + 0)) ∨ (x2 = 2 ∧ (1 ≤ x4 ∧ x4 ≤ 2) ∧ r_had a30 (if (0 ≤ x3 ∧ x3 < σ 13 2) ∧ x3 ≠ x1 ∧ rt_ (σ 13 2) (σ 14) 9 3 x3 = 1 then rt_ (σ 13 2) (σ 14) 9 4 x3 else -1) x1 + x4 ≤ a30 (3300 + 16 * (if (0 ≤ x3 ∧ x3 < σ 13 2) ∧ x3 ≠ x1 ∧ rt_ (σ 13 2) (σ 14) 9 3 x3 = 1 then rt_ (σ 13 2) (σ 14) 9 4 x3 else -1) + 0)) ∨ (3 ≤ x2 ∧ (1 ≤ x4 ∧ x4 ≤ 50) ∧ (x2 = 4 → a30 (3652 + 12 * x1 + 1) < 18)) then 1 else 0))] S σ τ Q
              refine i36f c_153_104 rfl (fun hc => ?_) (fun hc => ?_)
              · have t := iT t hc
                have ha37 : (x2 = 1 ∧ (1 ≤ x4 ∧ x4 ≤ 6) ∧ r_had a30 (if (0 ≤ x3 ∧ x3 < σ 13 2) ∧ x3 ≠ x1 ∧ rt_ (σ 13 2) (σ 14) 9 3 x3 = 1 then rt_ (σ 13 2) (σ 14) 9 4 x3 else -1) x1 + x4 ≤ a30 (3300 + 16 * (if (0 ≤ x3 ∧ x3 < σ 13 2) ∧ x3 ≠ x1 ∧ rt_ (σ 13 2) (σ 14) 9 3 x3 = 1 then rt_ (σ 13 2) (σ 14) 9 4 x3 else -1) + 0)) ∨ (x2 = 2 ∧ (1 ≤ x4 ∧ x4 ≤ 2) ∧ r_had a30 (if (0 ≤ x3 ∧ x3 < σ 13 2) ∧ x3 ≠ x1 ∧ rt_ (σ 13 2) (σ 14) 9 3 x3 = 1 then rt_ (σ 13 2) (σ 14) 9 4 x3 else -1) x1 + x4 ≤ a30 (3300 + 16 * (if (0 ≤ x3 ∧ x3 < σ 13 2) ∧ x3 ≠ x1 ∧ rt_ (σ 13 2) (σ 14) 9 3 x3 = 1 then rt_ (σ 13 2) (σ 14) 9 4 x3 else -1) + 0)) ∨ (3 ≤ x2 ∧ (1 ≤ x4 ∧ x4 ≤ 50) ∧ (x2 = 4 → a30 (3652 + 12 * x1 + 1) < 18)) := hc
                obtain ⟨a38, t⟩ := t
                obtain ⟨p39, t⟩ := t
                obtain ⟨p40, t⟩ := t
                refine i5 c_153_109 rfl (i45 c_153_110 (lo (c := 1) (kd := 111) (n := 0) rfl (by decide)) (lro (c := 1) (k := 0) (j := 2) (by decide)) (i3 c_153_113 rfl ?_))
                refine i80 (As := [.int (wI x1)]) (rest := []) c_153_114 mi_103 rfl rfl (Nat.le_of_ble_eq_true rfl) (Nat.le_of_ble_eq_true rfl) (lo (c := 2) (kd := 108) (n := 0) rfl (by decide)) (q_103 (a := a38) tw_2 p39 p40 (fun σ141 q42 q43 => ?_))
                have t := t σ141 q42 q43
                show wi (d + 12) 153 117 [.ref 1, .int (wI x1), .int (wI x2), .int (wI x3), .int (wI x4), .int (wI (if (0 ≤ x3 ∧ x3 < σ 13 2) ∧ x3 ≠ x1 ∧ rt_ (σ 13 2) (σ 14) 9 3 x3 = 1 then rt_ (σ 13 2) (σ 14) 9 4 x3 else -1))] [] S σ141 τ Q
                refine i5 c_153_117 rfl (i45 c_153_118 (lo (c := 1) (kd := 111) (n := 0) rfl (by decide)) (lro (c := 1) (k := 0) (j := 2) (by decide)) (i3 c_153_121 rfl (i3 c_153_122 rfl (i3 c_153_123 rfl (i3 c_153_125 rfl (i3 c_153_127 rfl (i1 c_153_128 ?_)))))))
                refine i37 c_153_129 r4 (by decide) rfl (fun hc => absurd (show x2 = 2 by omega) hc) (fun _ => ?_)
                obtain ⟨p45, t⟩ := t
                refine i3 c_153_132 rfl (i38 c_153_133 rfl ?_)
                refine i80 (As := [.int (wI x1), .int (wI x2), .int (wI (if (0 ≤ x3 ∧ x3 < σ 13 2) ∧ x3 ≠ x1 ∧ rt_ (σ 13 2) (σ 14) 9 3 x3 = 1 then rt_ (σ 13 2) (σ 14) 9 4 x3 else -1)), .int (wI x4), .int (wI x3)]) (rest := []) c_153_137 mi_101 rfl rfl (Nat.le_of_ble_eq_true rfl) (Nat.le_of_ble_eq_true rfl) (lo (c := 2) (kd := 108) (n := 0) rfl (by decide)) (q_101 tw_2 p45 r4 r28 r36 r27 ?_)
                show wi (d + 12) 153 140 [.ref 1, .int (wI x1), .int (wI x2), .int (wI x3), .int (wI x4), .int (wI (if (0 ≤ x3 ∧ x3 < σ 13 2) ∧ x3 ≠ x1 ∧ rt_ (σ 13 2) (σ 14) 9 3 x3 = 1 then rt_ (σ 13 2) (σ 14) 9 4 x3 else -1))] [] S (uc σ141 14 (u1 (u1 (u1 (u1 ((σ141 14)) (x1 * 9 + 3) x2) (x1 * 9 + 4) (if (0 ≤ x3 ∧ x3 < σ 13 2) ∧ x3 ≠ x1 ∧ rt_ (σ 13 2) (σ 14) 9 3 x3 = 1 then rt_ (σ 13 2) (σ 14) 9 4 x3 else -1)) (x1 * 9 + 5) x4) (x1 * 9 + 6) x3)) τ Q
                refine i1 c_153_140 ?_
                exact i91 c_153_141 (by decide) t
              · have t := iF t hc
                have ha37 : ¬ ((x2 = 1 ∧ (1 ≤ x4 ∧ x4 ≤ 6) ∧ r_had a30 (if (0 ≤ x3 ∧ x3 < σ 13 2) ∧ x3 ≠ x1 ∧ rt_ (σ 13 2) (σ 14) 9 3 x3 = 1 then rt_ (σ 13 2) (σ 14) 9 4 x3 else -1) x1 + x4 ≤ a30 (3300 + 16 * (if (0 ≤ x3 ∧ x3 < σ 13 2) ∧ x3 ≠ x1 ∧ rt_ (σ 13 2) (σ 14) 9 3 x3 = 1 then rt_ (σ 13 2) (σ 14) 9 4 x3 else -1) + 0)) ∨ (x2 = 2 ∧ (1 ≤ x4 ∧ x4 ≤ 2) ∧ r_had a30 (if (0 ≤ x3 ∧ x3 < σ 13 2) ∧ x3 ≠ x1 ∧ rt_ (σ 13 2) (σ 14) 9 3 x3 = 1 then rt_ (σ 13 2) (σ 14) 9 4 x3 else -1) x1 + x4 ≤ a30 (3300 + 16 * (if (0 ≤ x3 ∧ x3 < σ 13 2) ∧ x3 ≠ x1 ∧ rt_ (σ 13 2) (σ 14) 9 3 x3 = 1 then rt_ (σ 13 2) (σ 14) 9 4 x3 else -1) + 0)) ∨ (3 ≤ x2 ∧ (1 ≤ x4 ∧ x4 ≤ 50) ∧ (x2 = 4 → a30 (3652 + 12 * x1 + 1) < 18))) := hc
                refine i1 c_153_107 ?_
                exact i91 c_153_108 (by decide) t
            · have t := iF t hc
              have ha29 : ¬ ((0 ≤ (if (0 ≤ x3 ∧ x3 < σ 13 2) ∧ x3 ≠ x1 ∧ rt_ (σ 13 2) (σ 14) 9 3 x3 = 1 then rt_ (σ 13 2) (σ 14) 9 4 x3 else -1) ∧ (if (0 ≤ x3 ∧ x3 < σ 13 2) ∧ x3 ≠ x1 ∧ rt_ (σ 13 2) (σ 14) 9 3 x3 = 1 then rt_ (σ 13 2) (σ 14) 9 4 x3 else -1) < σ 7 2) ∧ rt_ (σ 7 2) (σ 8) 13 4 (if (0 ≤ x3 ∧ x3 < σ 13 2) ∧ x3 ≠ x1 ∧ rt_ (σ 13 2) (σ 14) 9 3 x3 = 1 then rt_ (σ 13 2) (σ 14) 9 4 x3 else -1) = 0) := hc
              refine i1 c_153_107 ?_
              exact i91 c_153_108 (by decide) t
        · have t := iT t (Decidable.not_not.mp hc)
          have ha7 : x2 = 0 := Decidable.not_not.mp hc
          obtain ⟨a46, t⟩ := t
          obtain ⟨p47, t⟩ := t
          obtain ⟨p48, t⟩ := t
          refine i5 c_153_55 rfl (i45 c_153_56 (lo (c := 1) (kd := 111) (n := 0) rfl (by decide)) (lro (c := 1) (k := 0) (j := 2) (by decide)) (i3 c_153_59 rfl ?_))
          refine i80 (As := [.int (wI x1)]) (rest := []) c_153_60 mi_103 rfl rfl (Nat.le_of_ble_eq_true rfl) (Nat.le_of_ble_eq_true rfl) (lo (c := 2) (kd := 108) (n := 0) rfl (by decide)) (q_103 (a := a46) tw_2 p47 p48 (fun σ149 q50 q51 => ?_))
          have t := t σ149 q50 q51
          show wi (d + 12) 153 63 [.ref 1, .int (wI x1), .int (wI x2), .int (wI x3), .int (wI x4), .retAddr 0] [] S σ149 τ Q
          refine i1 c_153_63 ?_
          exact i91 c_153_64 (by decide) t
      · have t := iF t hc
        have ha6 : ¬ ((rt_ (σ 11 2) (σ 12) 8 2 (rt_ (σ 13 2) (σ 14) 9 0 x1)) = 0) := hc
        refine i1 c_153_49 ?_
        exact i91 c_153_50 (by decide) t
    · have t := iF t hc
      have ha5 : ¬ (0 ≤ x2 ∧ x2 ≤ 4) := hc
      refine i1 c_153_49 ?_
      exact i91 c_153_50 (by decide) t
  · have t := iF t hc
    have ha3 : ¬ (0 ≤ x1 ∧ x1 < (σ 13 2)) := hc
    refine i1 c_153_49 ?_
    exact i91 c_153_50 (by decide) t
theorem q_153 {d : Nat} {S : zS} {σ τ : zI} {Q : zQ} {p : Int} {s : Int} {w : Int} {n : Int} {a : Int → Int} (p0 : RT σ 2 a) (p1 : Jv a) (p2 : jv_Z a) (p3 : rg p) (p4 : rg s) (p5 : rg w) (p6 : rg n) (t : ∀ (σ1 : zI), RT σ1 2 (r_work a p s w n) → F2 σ σ1 → Q (some (.int (wI (if k_work a p s w n then 1 else 0)))) S σ1 τ) : wc (d + 12) 153 [.ref 1, .int (wI p), .int (wI s), .int (wI w), .int (wI n)] S σ τ Q := by
  have hC := jC p1
  have hC' := hC
  unfold jv_C at hC
  have l2 := tl_2 p0
  refine wc_of mi_153 rfl (u_153_0 ⟨p3, ?_⟩)
  have tn : ¬ k_work a p s w n → Q (some (.int (wI 0))) S σ τ := fun h => by
    have er : r_work a p s w n = a := if_neg h
    have t := t σ (by rw [er]; exact p0) (fun _ _ => rfl)
    rw [if_neg h] at t
    exact t
  have tp : k_work a p s w n → ∀ σ1, RT σ1 2 (if s = 0 then r_endW a p else u1 (u1 (u1 (u1 (r_endW a p) (3652 + 12 * p + 3) s) (3652 + 12 * p + 4) (r_wm a s w)) (3652 + 12 * p + 5) n) (3652 + 12 * p + 6) (if s = 2 then w else -1)) → F2 σ σ1 → Q (some (.int (wI 1))) S σ1 τ := fun h σ1 h1 h2 => by
    have er : r_work a p s w n = _ := if_pos h
    have t := t σ1 (by rw [er]; exact h1) h2
    rw [if_pos h] at t
    exact t
  clear t
  refine ifI (fun b1 => ?_) (fun b1 => tn (fun h => by omega))
  have b1' : 0 ≤ p ∧ p < a 4 := by omega
  have hP := jP p1 p b1'.1 b1'.2
  have hH := jH p1 (a (3652 + 12 * p + 0)) (by omega) (by omega)
  have e0 : rt_ (σ 13 2) (σ 14) 9 0 p = a (3652 + 12 * p + 0) := vP p0 b1' (by omega)
  have eg : rt_ (σ 11 2) (σ 12) 8 2 (a (3652 + 12 * p + 0)) = a (3460 + 8 * a (3652 + 12 * p + 0) + 3) := vH2 p0 ⟨by omega, by omega⟩
  rw [e0, eg]
  refine ⟨p4, ?_⟩
  refine ifI (fun b2 => ?_) (fun b2 => tn (fun h => b2 h.2.1))
  refine ifI (fun b3 => ?_) (fun b3 => tn (fun h => by have := h.2.2.1; omega))
  have hg : a (3460 + 8 * a (3652 + 12 * p + 0) + 3) ≠ 1 := by omega
  clear hP hH
  refine ifI (fun s0 => ?_) (fun s0 => ?_)
  · refine ⟨a, p0, b1', ?_⟩
    intro σ1 h1 h2
    refine tp ⟨b1', b2, hg, Or.inl s0⟩ σ1 ?_ (fun c hc => h2 c (by omega))
    rw [if_pos s0]
    exact RT_end p0 hC' b1' h1 h2
  refine ifI (fun s2 => ?_) (fun s2 => ?_)
  · refine ⟨p5, ?_⟩
    by_cases c : (0 ≤ w ∧ w < a 4) ∧ w ≠ p ∧ a (3652 + 12 * w + 3) = 1
    · have hPw := jP p1 w c.1.1 c.1.2
      have w3 : rt_ (σ 13 2) (σ 14) 9 3 w = a (3652 + 12 * w + 3) := vP p0 c.1 (by omega)
      have w4 : rt_ (σ 13 2) (σ 14) 9 4 w = a (3652 + 12 * w + 4) := vP p0 c.1 (by omega)
      have cc : (0 ≤ w ∧ w < σ 13 2) ∧ w ≠ p ∧ a (3652 + 12 * w + 3) = 1 := ⟨by omega, c.2⟩
      have wm : 0 ≤ a (3652 + 12 * w + 4) ∧ a (3652 + 12 * w + 4) < a 1 := by omega
      clear hPw
      rw [w3, w4]
      simp only [if_pos cc]
      have ec : rt_ (σ 7 2) (σ 8) 13 4 (a (3652 + 12 * w + 4)) = a (3300 + 16 * a (3652 + 12 * w + 4) + 5) := vM4 p0 wm
      have hM := jM p1 (a (3652 + 12 * w + 4)) wm.1 wm.2
      rw [ec]
      refine ⟨by omega, ?_⟩
      refine ifI (fun b4 => ?_) (fun b4 => tn (fun h => ?_))
      · refine ⟨a, p0, p1, b1', wm, by omega, p6, ?_⟩
        refine ifI (fun b5 => ?_) (fun b5 => tn (fun h => ?_))
        · refine ⟨a, p0, b1', ?_⟩
          intro σ1 h1 h2
          refine ⟨by rw [h2 _ (by omega)]; omega, ?_⟩
          refine tp ⟨b1', b2, hg, Or.inr (Or.inl ⟨s2, c.1, c.2.1, c.2.2, by omega, by omega, by omega⟩)⟩ _ ?_ (fun c hc => by rw [uc_n (by omega)]; exact h2 c (by omega))
          have erm : r_wm a s w = a (3652 + 12 * w + 4) := if_pos s2
          rw [if_neg s0, if_pos s2, erm]
          exact RT_start p0 hC' b1' h1 h2
        · have := h.2.2.2
          omega
      · have := h.2.2.2
        omega
    · have cc : ¬ ((0 ≤ w ∧ w < σ 13 2) ∧ w ≠ p ∧ rt_ (σ 13 2) (σ 14) 9 3 w = 1) := fun h => by
        have w3 : rt_ (σ 13 2) (σ 14) 9 3 w = a (3652 + 12 * w + 3) := vP p0 (by omega) (by omega)
        exact c ⟨by omega, h.2.1, by omega⟩
      simp only [if_neg cc]
      refine ⟨by omega, ?_⟩
      rw [if_neg (fun h => by omega)]
      refine tn (fun h => ?_)
      have := h.2.2.2
      omega
  · refine ⟨p5, ?_⟩
    by_cases b : 0 ≤ w ∧ w < a 1
    · have ec : rt_ (σ 7 2) (σ 8) 13 4 w = a (3300 + 16 * w + 5) := vM4 p0 b
      have hM := jM p1 w b.1 b.2
      rw [ec]
      refine ifI (fun b4 => ?_) (fun b4 => tn (fun h => ?_))
      · refine ⟨a, p0, p1, b1', b, by omega, p6, ?_⟩
        refine ifI (fun b5 => ?_) (fun b5 => tn (fun h => ?_))
        · refine ⟨a, p0, b1', ?_⟩
          intro σ1 h1 h2
          refine ⟨by rw [h2 _ (by omega)]; omega, ?_⟩
          refine tp ⟨b1', b2, hg, by omega⟩ _ ?_ (fun c hc => by rw [uc_n (by omega)]; exact h2 c (by omega))
          have erm : r_wm a s w = w := if_neg s2
          rw [if_neg s0, if_neg s2, erm]
          exact RT_start p0 hC' b1' h1 h2
        · have := h.2.2.2
          omega
      · have := h.2.2.2
        omega
    · rw [if_neg (fun h => by omega)]
      refine tn (fun h => ?_)
      have := h.2.2.2
      omega
