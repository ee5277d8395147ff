/-! ===== the list made from WISHES (segments printed by wip/whole, contracts own work) ===== -/
theorem sq_n (d : Int) : 0 ≤ d * d := by
  rcases Int.le_total 0 d with h | h
  · exact Int.mul_nonneg h h
  · have := Int.mul_nonneg (show 0 ≤ -d by omega) (show 0 ≤ -d by omega)
    rw [Int.neg_mul_neg] at this
    exact this
theorem sq_b {d : Int} (h1 : -10000 ≤ d) (h2 : d ≤ 10000) : 0 ≤ d * d ∧ d * d ≤ 100000000 := by
  refine ⟨sq_n d, ?_⟩
  have := Int.mul_nonneg (show 0 ≤ 10000 - d by omega) (show 0 ≤ 10000 + d by omega)
  rw [Int.sub_mul, Int.mul_add] at this
  rw [Int.mul_add] at this
  omega
/-- what a list pays of the two faces of a KIND -/
def r_prt (a : Int → Int) (k x y : Int) : Int := (x * a (20 + 8 * k + 1) + y * a (20 + 8 * k + 2)).tdiv 10
theorem r_prt_b {a : Int → Int} (j : jv_K a) {k x y : Int} (hk : 0 ≤ k ∧ k ≤ 5) (hx : 0 ≤ x ∧ x ≤ 40) (hy : 0 ≤ y ∧ y ≤ 40) : (0 ≤ x * a (20 + 8 * k + 1) + y * a (20 + 8 * k + 2) ∧ x * a (20 + 8 * k + 1) + y * a (20 + 8 * k + 2) ≤ 10400) ∧ 0 ≤ r_prt a k x y ∧ r_prt a k x y ≤ 1040 := by
  have q := j k hk.1 hk.2
  have a1 := Int.mul_nonneg hx.1 (show 0 ≤ a (20 + 8 * k + 1) by omega)
  have a2 := Int.mul_nonneg hy.1 (show 0 ≤ a (20 + 8 * k + 2) by omega)
  have b1 := Int.mul_le_mul hx.2 q.1.2 (by omega) (by omega)
  have b2 := Int.mul_le_mul hy.2 q.2.1.2 (by omega) (by omega)
  have e : 0 ≤ x * a (20 + 8 * k + 1) + y * a (20 + 8 * k + 2) ∧ x * a (20 + 8 * k + 1) + y * a (20 + 8 * k + 2) ≤ 10400 := by omega
  refine ⟨e, ?_⟩
  unfold r_prt
  rw [Int.tdiv_eq_ediv_of_nonneg e.1]
  omega
def r_sq1 (a : Int → Int) (b x y k : Int) : Int := if 0 ≤ a (20 + 8 * k + 6) then (b + r_prt a k x y - a (20 + 8 * k + 6)) * (b + r_prt a k x y - a (20 + 8 * k + 6)) else 0
def r_sq (a : Int → Int) (b x y : Int) : Int := sI (r_sq1 a b x y) 6
theorem r_sq1_b {a : Int → Int} (j : jv_K a) {b x y k : Int} (hk : 0 ≤ k ∧ k ≤ 5) (hb : 0 ≤ b ∧ b ≤ 40) (hx : 0 ≤ x ∧ x ≤ 40) (hy : 0 ≤ y ∧ y ≤ 40) : 0 ≤ r_sq1 a b x y k ∧ r_sq1 a b x y k ≤ 100000000 := by
  have q := j k hk.1 hk.2
  have p := r_prt_b j hk hx hy
  unfold r_sq1
  split
  · exact sq_b (by omega) (by omega)
  · omega
theorem r_sqn_b {a : Int → Int} (j : jv_K a) {b x y n : Int} (hn : 0 ≤ n ∧ n ≤ 6) (hb : 0 ≤ b ∧ b ≤ 40) (hx : 0 ≤ x ∧ x ≤ 40) (hy : 0 ≤ y ∧ y ≤ 40) : 0 ≤ sI (r_sq1 a b x y) n ∧ sI (r_sq1 a b x y) n ≤ 600000000 := by
  have := sI_b (f := r_sq1 a b x y) (n := n) (lo := 0) (hi := 100000000) hn.1 (fun p p0 p1 => r_sq1_b j (by omega) hb hx hy)
  omega
-- method 309: MillTownModel.apart(II)I
theorem c_309_0 : pg_cd 309 0 = (3, 1, 0, 0, 0) := by decide +kernel
theorem c_309_1 : pg_cd 309 1 = (3, 1, 0, 1, 0) := by decide +kernel
theorem c_309_2 : pg_cd 309 2 = (37, 3, 0, 5, 9) := by decide +kernel
theorem c_309_5 : pg_cd 309 5 = (3, 1, 0, 0, 0) := by decide +kernel
theorem c_309_6 : pg_cd 309 6 = (3, 1, 0, 1, 0) := by decide +kernel
theorem c_309_7 : pg_cd 309 7 = (11, 1, 0, 0, 0) := by decide +kernel
theorem c_309_8 : pg_cd 309 8 = (38, 3, 0, 0, 6) := by decide +kernel
theorem c_309_11 : pg_cd 309 11 = (3, 1, 0, 1, 0) := by decide +kernel
theorem c_309_12 : pg_cd 309 12 = (3, 1, 0, 0, 0) := by decide +kernel
theorem c_309_13 : pg_cd 309 13 = (11, 1, 0, 0, 0) := by decide +kernel
theorem c_309_14 : pg_cd 309 14 = (90, 0, 0, 0, 0) := by decide +kernel
theorem mi_309 : pg_mc 309 = 12 ∧ pg_na 309 = 2 ∧ pg_mx 309 = 2 := by decide +kernel
set_option maxRecDepth 20000 in
theorem u_309_0 {d : Nat} {S : zS} {σ τ : zI} {Q : zQ} {x0 : Int} {x1 : Int} (t : (rg x0) ∧ (rg x1) ∧ if x0 ≤ x1 then (Q (some (.int (wI (x1 - x0)))) S σ τ) else (Q (some (.int (wI (x0 - x1)))) S σ τ)) : wi (d + 0) 309 0 [.int (wI x0), .int (wI x1)] [] S σ τ Q := by
  obtain ⟨r1, t⟩ := t
  obtain ⟨r2, t⟩ := t
  refine i3 c_309_0 rfl (i3 c_309_1 rfl ?_)
  refine i37 c_309_2 r1 r2 rfl (fun hc => ?_) (fun hc => ?_)
  · have t := iT t hc
    have ha3 : x0 ≤ x1 := hc
    refine i3 c_309_11 rfl (i3 c_309_12 rfl (i11 c_309_13 ?_))
    exact i90 c_309_14 t
  · have t := iF t hc
    have ha3 : ¬ (x0 ≤ x1) := hc
    refine i3 c_309_5 rfl (i3 c_309_6 rfl (i11 c_309_7 (i38 c_309_8 rfl ?_)))
    exact i90 c_309_14 t
theorem q_309 {d : Nat} {S : zS} {σ τ : zI} {Q : zQ} {x : Int} {y : Int} (p0 : 0 ≤ x ∧ x ≤ (40 : Int)) (p1 : 0 ≤ y ∧ y ≤ (40 : Int)) (t : ∀ (v : Int), v = max (x - y) (-(x - y)) → 0 ≤ v ∧ v ≤ 40 → Q (some (.int (wI v))) S σ τ) : wc (d + 0) 309 [.int (wI x), .int (wI y)] S σ τ Q := by
  refine wc_of mi_309 rfl (u_309_0 ⟨by omega, by omega, ifI (fun e => t _ (by omega) (by omega)) (fun e => t _ (by omega) (by omega))⟩)
-- method 308: MillTownModel.squares(III)I
theorem c_308_0 : pg_cd 308 0 = (1, 1, 0, 0, 0) := by decide +kernel
theorem c_308_1 : pg_cd 308 1 = (6, 2, 0, 4, 0) := by decide +kernel
theorem c_308_3 : pg_cd 308 3 = (1, 1, 0, 0, 0) := by decide +kernel
theorem c_308_4 : pg_cd 308 4 = (6, 2, 0, 5, 0) := by decide +kernel
theorem c_308_6 : pg_cd 308 6 = (3, 2, 0, 5, 0) := by decide +kernel
theorem c_308_8 : pg_cd 308 8 = (1, 2, 0, 0, 6) := by decide +kernel
theorem c_308_10 : pg_cd 308 10 = (37, 3, 0, 3, 68) := by decide +kernel
theorem c_308_13 : pg_cd 308 13 = (5, 1, 0, 0, 0) := by decide +kernel
theorem c_308_14 : pg_cd 308 14 = (3, 2, 0, 5, 0) := by decide +kernel
theorem c_308_16 : pg_cd 308 16 = (1, 2, 0, 0, 6) := by decide +kernel
theorem c_308_18 : pg_cd 308 18 = (80, 197, 85, 0, 0) := by decide +kernel
theorem c_308_21 : pg_cd 308 21 = (36, 3, 0, 3, 6) := by decide +kernel
theorem c_308_24 : pg_cd 308 24 = (38, 3, 0, 0, 48) := by decide +kernel
theorem c_308_27 : pg_cd 308 27 = (3, 1, 0, 1, 0) := by decide +kernel
theorem c_308_28 : pg_cd 308 28 = (3, 1, 0, 2, 0) := by decide +kernel
theorem c_308_29 : pg_cd 308 29 = (5, 1, 0, 0, 0) := by decide +kernel
theorem c_308_30 : pg_cd 308 30 = (3, 2, 0, 5, 0) := by decide +kernel
theorem c_308_32 : pg_cd 308 32 = (1, 1, 0, 0, 1) := by decide +kernel
theorem c_308_33 : pg_cd 308 33 = (80, 197, 85, 0, 0) := by decide +kernel
theorem c_308_36 : pg_cd 308 36 = (12, 1, 0, 0, 0) := by decide +kernel
theorem c_308_37 : pg_cd 308 37 = (3, 1, 0, 3, 0) := by decide +kernel
theorem c_308_38 : pg_cd 308 38 = (5, 1, 0, 0, 0) := by decide +kernel
theorem c_308_39 : pg_cd 308 39 = (3, 2, 0, 5, 0) := by decide +kernel
theorem c_308_41 : pg_cd 308 41 = (1, 1, 0, 0, 2) := by decide +kernel
theorem c_308_42 : pg_cd 308 42 = (80, 197, 85, 0, 0) := by decide +kernel
theorem c_308_45 : pg_cd 308 45 = (12, 1, 0, 0, 0) := by decide +kernel
theorem c_308_46 : pg_cd 308 46 = (10, 1, 0, 0, 0) := by decide +kernel
theorem c_308_47 : pg_cd 308 47 = (1, 2, 0, 0, 10) := by decide +kernel
theorem c_308_49 : pg_cd 308 49 = (16, 1, 0, 0, 0) := by decide +kernel
theorem c_308_50 : pg_cd 308 50 = (10, 1, 0, 0, 0) := by decide +kernel
theorem c_308_51 : pg_cd 308 51 = (5, 1, 0, 0, 0) := by decide +kernel
theorem c_308_52 : pg_cd 308 52 = (3, 2, 0, 5, 0) := by decide +kernel
theorem c_308_54 : pg_cd 308 54 = (1, 2, 0, 0, 6) := by decide +kernel
theorem c_308_56 : pg_cd 308 56 = (80, 197, 85, 0, 0) := by decide +kernel
theorem c_308_59 : pg_cd 308 59 = (11, 1, 0, 0, 0) := by decide +kernel
theorem c_308_60 : pg_cd 308 60 = (6, 2, 0, 6, 0) := by decide +kernel
theorem c_308_62 : pg_cd 308 62 = (3, 2, 0, 4, 0) := by decide +kernel
theorem c_308_64 : pg_cd 308 64 = (3, 2, 0, 6, 0) := by decide +kernel
theorem c_308_66 : pg_cd 308 66 = (3, 2, 0, 6, 0) := by decide +kernel
theorem c_308_68 : pg_cd 308 68 = (12, 1, 0, 0, 0) := by decide +kernel
theorem c_308_69 : pg_cd 308 69 = (10, 1, 0, 0, 0) := by decide +kernel
theorem c_308_70 : pg_cd 308 70 = (6, 2, 0, 4, 0) := by decide +kernel
theorem c_308_72 : pg_cd 308 72 = (9, 3, 0, 5, 1) := by decide +kernel
theorem c_308_75 : pg_cd 308 75 = (38, 3, 0, 0, (-69)) := by decide +kernel
theorem c_308_78 : pg_cd 308 78 = (3, 2, 0, 4, 0) := by decide +kernel
theorem c_308_80 : pg_cd 308 80 = (90, 0, 0, 0, 0) := by decide +kernel
theorem mi_308 : pg_mc 308 = 12 ∧ pg_na 308 = 3 ∧ pg_mx 308 = 7 := by decide +kernel
set_option maxRecDepth 20000 in
theorem u_308_0 {d : Nat} {S : zS} {σ τ : zI} {Q : zQ} {x1 : Int} {x2 : Int} {x3 : Int} (t : wi (d + 1) 308 6 [.ref 83, .int (wI x1), .int (wI x2), .int (wI x3), .int (wI 0), .int (wI 0), .retAddr 0] [] S σ τ Q) : wi (d + 1) 308 0 [.ref 83, .int (wI x1), .int (wI x2), .int (wI x3), .retAddr 0, .retAddr 0, .retAddr 0] [] S σ τ Q := by
  refine i1 c_308_0 (i6 (L' := [.ref 83, .int (wI x1), .int (wI x2), .int (wI x3), .int (wI 0), .retAddr 0, .retAddr 0]) c_308_1 rfl (i1 c_308_3 (i6 (L' := [.ref 83, .int (wI x1), .int (wI x2), .int (wI x3), .int (wI 0), .int (wI 0), .retAddr 0]) c_308_4 rfl t)))
set_option maxRecDepth 20000 in
theorem u_308_6 {d : Nat} {S : zS} {σ τ : zI} {Q : zQ} {x1 : Int} {x2 : Int} {x3 : Int} {x4 : Int} {x5 : Int} {y6 : Value} (t : (rg x5) ∧ if (6 : Int) ≤ x5 then (Q (some (.int (wI x4))) S σ τ) else ((0 ≤ 20 + 8 * x5 + 6 ∧ 20 + 8 * x5 + 6 < 112300) ∧ if (0 : Int) ≤ (σ 84 (20 + 8 * x5 + 6)) then ((0 ≤ 20 + 8 * x5 + 1 ∧ 20 + 8 * x5 + 1 < 112300) ∧ (0 ≤ 20 + 8 * x5 + 2 ∧ 20 + 8 * x5 + 2 < 112300) ∧ (rg ((x2 * (σ 84 (20 + 8 * x5 + 1))) + (x3 * (σ 84 (20 + 8 * x5 + 2))))) ∧ wi (d + 1) 308 6 [.ref 83, .int (wI x1), .int (wI x2), .int (wI x3), .int (wI (x4 + (((x1 + (Int.tdiv ((x2 * (σ 84 (20 + 8 * x5 + 1))) + (x3 * (σ 84 (20 + 8 * x5 + 2)))) 10)) - (σ 84 (20 + 8 * x5 + 6))) * ((x1 + (Int.tdiv ((x2 * (σ 84 (20 + 8 * x5 + 1))) + (x3 * (σ 84 (20 + 8 * x5 + 2)))) 10)) - (σ 84 (20 + 8 * x5 + 6)))))), .int (wI (x5 + 1)), .int (wI ((x1 + (Int.tdiv ((x2 * (σ 84 (20 + 8 * x5 + 1))) + (x3 * (σ 84 (20 + 8 * x5 + 2)))) 10)) - (σ 84 (20 + 8 * x5 + 6))))] [] S σ τ Q) else (wi (d + 1) 308 6 [.ref 83, .int (wI x1), .int (wI x2), .int (wI x3), .int (wI x4), .int (wI (x5 + 1)), y6] [] S σ τ Q))) : wi (d + 1) 308 6 [.ref 83, .int (wI x1), .int (wI x2), .int (wI x3), .int (wI x4), .int (wI x5), y6] [] S σ τ Q := by
  obtain ⟨r1, t⟩ := t
  refine i3 c_308_6 rfl (i1 c_308_8 ?_)
  refine i37 c_308_10 r1 (by decide) rfl (fun hc => ?_) (fun hc => ?_)
  · have t := iT t hc
    have ha2 : (6 : Int) ≤ x5 := hc
    refine i3 c_308_78 rfl ?_
    exact i90 c_308_80 t
  · have t := iF t hc
    have ha2 : ¬ ((6 : Int) ≤ x5) := hc
    obtain ⟨p3, t⟩ := t
    refine i5 c_308_13 rfl (i3 c_308_14 rfl (i1 c_308_16 ?_))
    refine i80 (As := [.int (wI x5), .int (wI 6)]) (rest := []) c_308_18 mi_197 rfl rfl (Nat.le_of_ble_eq_true rfl) (Nat.le_of_ble_eq_true rfl) (lo (c := 83) (kd := 112) (n := 0) rfl (by decide)) (q_197 p3 ?_)
    show wi (d + 1) 308 21 [.ref 83, .int (wI x1), .int (wI x2), .int (wI x3), .int (wI x4), .int (wI x5), y6] [.int (wI (σ 84 (20 + 8 * x5 + 6)))] S σ τ Q
    refine wi_ok (fun K4 => ?_)
    refine i36 c_308_21 (rge_ K4 rfl) rfl (fun hc => ?_) (fun hc => ?_)
    · have t := iT t hc
      have ha5 : (0 : Int) ≤ (σ 84 (20 + 8 * x5 + 6)) := hc
      obtain ⟨p6, t⟩ := t
      refine i3 c_308_27 rfl (i3 c_308_28 rfl (i5 c_308_29 rfl (i3 c_308_30 rfl (i1 c_308_32 ?_))))
      refine i80 (As := [.int (wI x5), .int (wI 1)]) (rest := [.int (wI x2), .int (wI x1)]) c_308_33 mi_197 rfl rfl (Nat.le_of_ble_eq_true rfl) (Nat.le_of_ble_eq_true rfl) (lo (c := 83) (kd := 112) (n := 0) rfl (by decide)) (q_197 p6 ?_)
      show wi (d + 1) 308 36 [.ref 83, .int (wI x1), .int (wI x2), .int (wI x3), .int (wI x4), .int (wI x5), y6] [.int (wI (σ 84 (20 + 8 * x5 + 1))), .int (wI x2), .int (wI x1)] S σ τ Q
      obtain ⟨p7, t⟩ := t
      refine i12 c_308_36 (i3 c_308_37 rfl (i5 c_308_38 rfl (i3 c_308_39 rfl (i1 c_308_41 ?_))))
      refine i80 (As := [.int (wI x5), .int (wI 2)]) (rest := [.int (wI x3), .int (wI (x2 * (σ 84 (20 + 8 * x5 + 1)))), .int (wI x1)]) c_308_42 mi_197 rfl rfl (Nat.le_of_ble_eq_true rfl) (Nat.le_of_ble_eq_true rfl) (lo (c := 83) (kd := 112) (n := 0) rfl (by decide)) (q_197 p7 ?_)
      show wi (d + 1) 308 45 [.ref 83, .int (wI x1), .int (wI x2), .int (wI x3), .int (wI x4), .int (wI x5), y6] [.int (wI (σ 84 (20 + 8 * x5 + 2))), .int (wI x3), .int (wI (x2 * (σ 84 (20 + 8 * x5 + 1)))), .int (wI x1)] S σ τ Q
      obtain ⟨r8, t⟩ := t
      refine i12 c_308_45 (i10 c_308_46 (i1 c_308_47 (i16 c_308_49 r8 (by decide) (by decide) (i10 c_308_50 (i5 c_308_51 rfl (i3 c_308_52 rfl (i1 c_308_54 ?_)))))))
      refine i80 (As := [.int (wI x5), .int (wI 6)]) (rest := [.int (wI (x1 + (Int.tdiv ((x2 * (σ 84 (20 + 8 * x5 + 1))) + (x3 * (σ 84 (20 + 8 * x5 + 2)))) 10)))]) c_308_56 mi_197 rfl rfl (Nat.le_of_ble_eq_true rfl) (Nat.le_of_ble_eq_true rfl) (lo (c := 83) (kd := 112) (n := 0) rfl (by decide)) (q_197 p3 ?_)
      show wi (d + 1) 308 59 [.ref 83, .int (wI x1), .int (wI x2), .int (wI x3), .int (wI x4), .int (wI x5), y6] [.int (wI (σ 84 (20 + 8 * x5 + 6))), .int (wI (x1 + (Int.tdiv ((x2 * (σ 84 (20 + 8 * x5 + 1))) + (x3 * (σ 84 (20 + 8 * x5 + 2)))) 10)))] S σ τ Q
      refine i11 c_308_59 (i6 (L' := [.ref 83, .int (wI x1), .int (wI x2), .int (wI x3), .int (wI x4), .int (wI x5), .int (wI ((x1 + (Int.tdiv ((x2 * (σ 84 (20 + 8 * x5 + 1))) + (x3 * (σ 84 (20 + 8 * x5 + 2)))) 10)) - (σ 84 (20 + 8 * x5 + 6))))]) c_308_60 rfl (i3 c_308_62 rfl (i3 c_308_64 rfl (i3 c_308_66 rfl (i12 c_308_68 (i10 c_308_69 (i6 (L' := [.ref 83, .int (wI x1), .int (wI x2), .int (wI x3), .int (wI (x4 + (((x1 + (Int.tdiv ((x2 * (σ 84 (20 + 8 * x5 + 1))) + (x3 * (σ 84 (20 + 8 * x5 + 2)))) 10)) - (σ 84 (20 + 8 * x5 + 6))) * ((x1 + (Int.tdiv ((x2 * (σ 84 (20 + 8 * x5 + 1))) + (x3 * (σ 84 (20 + 8 * x5 + 2)))) 10)) - (σ 84 (20 + 8 * x5 + 6)))))), .int (wI x5), .int (wI ((x1 + (Int.tdiv ((x2 * (σ 84 (20 + 8 * x5 + 1))) + (x3 * (σ 84 (20 + 8 * x5 + 2)))) 10)) - (σ 84 (20 + 8 * x5 + 6))))]) c_308_70 rfl (i9 (L' := [.ref 83, .int (wI x1), .int (wI x2), .int (wI x3), .int (wI (x4 + (((x1 + (Int.tdiv ((x2 * (σ 84 (20 + 8 * x5 + 1))) + (x3 * (σ 84 (20 + 8 * x5 + 2)))) 10)) - (σ 84 (20 + 8 * x5 + 6))) * ((x1 + (Int.tdiv ((x2 * (σ 84 (20 + 8 * x5 + 1))) + (x3 * (σ 84 (20 + 8 * x5 + 2)))) 10)) - (σ 84 (20 + 8 * x5 + 6)))))), .int (wI (x5 + 1)), .int (wI ((x1 + (Int.tdiv ((x2 * (σ 84 (20 + 8 * x5 + 1))) + (x3 * (σ 84 (20 + 8 * x5 + 2)))) 10)) - (σ 84 (20 + 8 * x5 + 6))))]) c_308_72 rfl rfl (i38 c_308_75 rfl t)))))))))
    · have t := iF t hc
      have ha5 : ¬ ((0 : Int) ≤ (σ 84 (20 + 8 * x5 + 6))) := hc
      refine i38 c_308_24 rfl (i9 (L' := [.ref 83, .int (wI x1), .int (wI x2), .int (wI x3), .int (wI x4), .int (wI (x5 + 1)), y6]) c_308_72 rfl rfl (i38 c_308_75 rfl t))
theorem q_308 {d : Nat} {S : zS} {σ τ : zI} {Q : zQ} {b : Int} {x : Int} {y : Int} (p0 : jv_K (σ 84)) (p1 : 0 ≤ b ∧ b ≤ (40 : Int)) (p2 : 0 ≤ x ∧ x ≤ (40 : Int)) (p3 : 0 ≤ y ∧ y ≤ (40 : Int)) (t : ∀ (v : Int), v = r_sq (σ 84) b x y → 0 ≤ v ∧ v ≤ 600000000 → Q (some (.int (wI v))) S σ τ) : wc (d + 1) 308 [.ref 83, .int (wI b), .int (wI x), .int (wI y)] S σ τ Q := by
  refine wc_of mi_308 rfl (u_308_0 ?_)
  have t := t (r_sq (σ 84) b x y) rfl (r_sqn_b p0 (by omega) p1 p2 p3)
  have key : ∀ k, 0 ≤ k → k ≤ 6 → ∀ s, s = sI (r_sq1 (σ 84) b x y) k → ∀ y6, wi (d + 1) 308 6 [.ref 83, .int (wI b), .int (wI x), .int (wI y), .int (wI s), .int (wI k), y6] [] S σ τ Q := by
    refine lp_up (fun k k0 k1 ih => ?_)
    intro s hs y6
    refine u_308_6 ⟨by omega, ifI (fun e => ?_) (fun e => ?_)⟩
    · have : k = 6 := by omega
      subst this
      rw [hs]; exact t
    · have ih := ih (by omega)
      rw [sI_s k0, ← hs] at ih
      unfold r_sq1 at ih
      have pb := r_prt_b p0 (k := k) (x := x) (y := y) (by omega) p2 p3
      refine ⟨by omega, ifI (fun c => ?_) (fun c => ?_)⟩
      · rw [if_pos c] at ih
        exact ⟨by omega, by omega, by omega, ih _ rfl _⟩
      · rw [if_neg c, Int.add_zero] at ih
        exact ih _ rfl _
  exact key 0 (by omega) (by omega) 0 rfl _
def r_ch (b0 b1 b2 x y z : Int) : Int := max (x - b0) (-(x - b0)) + max (y - b1) (-(y - b1)) + max (z - b2) (-(z - b2))
abbrev lx (F C x y z F' C' x' y' z' : Int) : Prop := F < F' ∨ F = F' ∧ (C < C' ∨ C = C' ∧ (x < x' ∨ x = x' ∧ (y < y' ∨ y = y' ∧ z ≤ z')))
theorem lx_t {F C x y z F' C' x' y' z' F2 C2 x2 y2 z2 : Int} (h : lx F C x y z F' C' x' y' z') (h2 : lx F' C' x' y' z' F2 C2 x2 y2 z2) : lx F C x y z F2 C2 x2 y2 z2 := by
  unfold lx at *
  omega
theorem lx_r (F C x y z : Int) : lx F C x y z F C x y z := by unfold lx; omega
theorem lx_n {F C x y z F' C' x' y' z' : Int} (h : ¬ lx F C x y z F' C' x' y' z') : lx F' C' x' y' z' F C x y z := by
  unfold lx at *
  omega
/-- the best list -/
def BM (a : Int → Int) (b0 b1 b2 x y z : Int) : Prop := ((0 ≤ x ∧ x ≤ 40) ∧ (0 ≤ y ∧ y ≤ 40) ∧ (0 ≤ z ∧ z ≤ 40)) ∧ ∀ x' y' z', (0 ≤ x' ∧ x' ≤ 40) → (0 ≤ y' ∧ y' ≤ 40) → (0 ≤ z' ∧ z' ≤ 40) → lx (r_sq a x y z) (r_ch b0 b1 b2 x y z) x y z (r_sq a x' y' z') (r_ch b0 b1 b2 x' y' z') x' y' z'
def MD (a : Int → Int) (b0 b1 b2 what v : Int) : Prop := ∃ x y z, BM a b0 b1 b2 x y z ∧ v = if what = 0 then x else if what = 1 then y else if what = 2 then z else r_sq a x y z
theorem MD_u {a : Int → Int} {b0 b1 b2 what v v' : Int} (h : MD a b0 b1 b2 what v) (h' : MD a b0 b1 b2 what v') : v = v' := by
  obtain ⟨x, y, z, q, e⟩ := h
  obtain ⟨x', y', z', q', e'⟩ := h'
  have h1 := q.2 x' y' z' q'.1.1 q'.1.2.1 q'.1.2.2
  have h2 := q'.2 x y z q.1.1 q.1.2.1 q.1.2.2
  unfold lx at h1 h2
  have : x = x' ∧ y = y' ∧ z = z' := by omega
  obtain ⟨rfl, rfl, rfl⟩ := this
  rw [e, e']
theorem qc {q : Int} (h : 0 ≤ q ∧ q < 68921) : (0 ≤ q.tdiv 1681 ∧ q.tdiv 1681 ≤ 40) ∧ (0 ≤ (q.tdiv 41).tmod 41 ∧ (q.tdiv 41).tmod 41 ≤ 40) ∧ (0 ≤ q.tmod 41 ∧ q.tmod 41 ≤ 40) ∧ q = q.tdiv 1681 * 1681 + (q.tdiv 41).tmod 41 * 41 + q.tmod 41 ∧ 0 ≤ q.tdiv 41 ∧ q.tdiv 41 ≤ 1681 := by
  have e := Int.tdiv_eq_ediv_of_nonneg (b := 41) h.1
  rw [e, Int.tdiv_eq_ediv_of_nonneg h.1, Int.tmod_eq_emod_of_nonneg h.1, Int.tmod_eq_emod_of_nonneg (by omega)]
  omega
/-- how many WISHES there are among the first KINDS -/
def r_wn (a : Int → Int) (n : Int) : Int := sI (fun k => if a (20 + 8 * k + 6) = -1 then 0 else 1) n
def r_lk (a : Int → Int) (x y n : Int) : Int := sI (fun k => if a (20 + 8 * k + 6) = -1 then 0 else a (20 + 8 * k + 6) - r_prt a k x y) n
theorem r_cv {a : Int → Int} (j : jv_K a) (b b' x y : Int) : ∀ n, 0 ≤ n → n ≤ 6 → sI (r_sq1 a b x y) n - sI (r_sq1 a b' x y) n = (b - b') * (r_wn a n * (b + b') - 2 * r_lk a x y n) := by
  intro n n0
  obtain ⟨k, rfl⟩ := Int.eq_ofNat_of_zero_le n0
  induction k with
  | zero =>
    intro _
    show (0 : Int) - 0 = (b - b') * (0 * (b + b') - 2 * 0)
    grind
  | succ k ih =>
    intro hk
    have ih := ih (by omega) (by omega)
    have e : ((k + 1 : Nat) : Int) = (k : Int) + 1 := rfl
    have q := (j k (by omega) (by omega)).2.2.2.2.2.1
    unfold r_wn r_lk at ih ⊢
    rw [e, sI_s (by omega), sI_s (by omega), sI_s (by omega), sI_s (by omega)]
    generalize sI (r_sq1 a b x y) k = A at *
    generalize sI (r_sq1 a b' x y) k = B at *
    generalize sI (fun k => if a (20 + 8 * k + 6) = -1 then 0 else 1) k = W at *
    generalize sI (fun k => if a (20 + 8 * k + 6) = -1 then 0 else a (20 + 8 * k + 6) - r_prt a k x y) k = L at *
    unfold r_sq1
    by_cases c : a (20 + 8 * (k : Int) + 6) = -1
    · rw [if_neg (by omega), if_neg (by omega), if_pos c, if_pos c]
      grind
    · rw [if_pos (by omega), if_pos (by omega), if_neg c, if_neg c]
      generalize a (20 + 8 * (k : Int) + 6) = w at *
      generalize r_prt a k x y = p at *
      grind
-- method 310: MillTownModel.made(IIII)I
theorem c_310_0 : pg_cd 310 0 = (1, 1, 0, 0, 0) := by decide +kernel
theorem c_310_1 : pg_cd 310 1 = (6, 2, 0, 5, 0) := by decide +kernel
theorem c_310_3 : pg_cd 310 3 = (1, 1, 0, 0, 0) := by decide +kernel
theorem c_310_4 : pg_cd 310 4 = (6, 2, 0, 6, 0) := by decide +kernel
theorem c_310_6 : pg_cd 310 6 = (3, 2, 0, 6, 0) := by decide +kernel
theorem c_310_8 : pg_cd 310 8 = (1, 2, 0, 0, 6) := by decide +kernel
theorem c_310_10 : pg_cd 310 10 = (37, 3, 0, 3, 32) := by decide +kernel
theorem c_310_13 : pg_cd 310 13 = (3, 2, 0, 5, 0) := by decide +kernel
theorem c_310_15 : pg_cd 310 15 = (36, 3, 0, 1, 14) := by decide +kernel
theorem c_310_18 : pg_cd 310 18 = (5, 1, 0, 0, 0) := by decide +kernel
theorem c_310_19 : pg_cd 310 19 = (3, 2, 0, 6, 0) := by decide +kernel
theorem c_310_21 : pg_cd 310 21 = (1, 2, 0, 0, 6) := by decide +kernel
theorem c_310_23 : pg_cd 310 23 = (80, 197, 85, 0, 0) := by decide +kernel
theorem c_310_26 : pg_cd 310 26 = (36, 3, 0, 2, 7) := by decide +kernel
theorem c_310_29 : pg_cd 310 29 = (1, 1, 0, 0, 1) := by decide +kernel
theorem c_310_30 : pg_cd 310 30 = (38, 3, 0, 0, 4) := by decide +kernel
theorem c_310_33 : pg_cd 310 33 = (1, 1, 0, 0, 0) := by decide +kernel
theorem c_310_34 : pg_cd 310 34 = (6, 2, 0, 5, 0) := by decide +kernel
theorem c_310_36 : pg_cd 310 36 = (9, 3, 0, 6, 1) := by decide +kernel
theorem c_310_39 : pg_cd 310 39 = (38, 3, 0, 0, (-33)) := by decide +kernel
theorem c_310_42 : pg_cd 310 42 = (3, 1, 0, 1, 0) := by decide +kernel
theorem c_310_43 : pg_cd 310 43 = (1, 1, 0, 0, 0) := by decide +kernel
theorem c_310_44 : pg_cd 310 44 = (1, 2, 0, 0, 40) := by decide +kernel
theorem c_310_46 : pg_cd 310 46 = (81, 196, 76, 0, 0) := by decide +kernel
theorem c_310_49 : pg_cd 310 49 = (36, 3, 0, 0, 38) := by decide +kernel
theorem c_310_52 : pg_cd 310 52 = (3, 1, 0, 2, 0) := by decide +kernel
theorem c_310_53 : pg_cd 310 53 = (1, 1, 0, 0, 0) := by decide +kernel
theorem c_310_54 : pg_cd 310 54 = (1, 2, 0, 0, 40) := by decide +kernel
theorem c_310_56 : pg_cd 310 56 = (81, 196, 76, 0, 0) := by decide +kernel
theorem c_310_59 : pg_cd 310 59 = (36, 3, 0, 0, 28) := by decide +kernel
theorem c_310_62 : pg_cd 310 62 = (3, 1, 0, 3, 0) := by decide +kernel
theorem c_310_63 : pg_cd 310 63 = (1, 1, 0, 0, 0) := by decide +kernel
theorem c_310_64 : pg_cd 310 64 = (1, 2, 0, 0, 40) := by decide +kernel
theorem c_310_66 : pg_cd 310 66 = (81, 196, 76, 0, 0) := by decide +kernel
theorem c_310_69 : pg_cd 310 69 = (36, 3, 0, 0, 18) := by decide +kernel
theorem c_310_72 : pg_cd 310 72 = (3, 2, 0, 4, 0) := by decide +kernel
theorem c_310_74 : pg_cd 310 74 = (1, 1, 0, 0, 0) := by decide +kernel
theorem c_310_75 : pg_cd 310 75 = (1, 1, 0, 0, 3) := by decide +kernel
theorem c_310_76 : pg_cd 310 76 = (81, 196, 76, 0, 0) := by decide +kernel
theorem c_310_79 : pg_cd 310 79 = (36, 3, 0, 0, 8) := by decide +kernel
theorem c_310_82 : pg_cd 310 82 = (3, 2, 0, 5, 0) := by decide +kernel
theorem c_310_84 : pg_cd 310 84 = (36, 3, 0, 1, 5) := by decide +kernel
theorem c_310_87 : pg_cd 310 87 = (1, 1, 0, 0, (-1)) := by decide +kernel
theorem c_310_88 : pg_cd 310 88 = (90, 0, 0, 0, 0) := by decide +kernel
theorem c_310_89 : pg_cd 310 89 = (1, 1, 0, 0, (-1)) := by decide +kernel
theorem c_310_90 : pg_cd 310 90 = (6, 2, 0, 6, 0) := by decide +kernel
theorem c_310_92 : pg_cd 310 92 = (1, 1, 0, 0, 0) := by decide +kernel
theorem c_310_93 : pg_cd 310 93 = (6, 2, 0, 7, 0) := by decide +kernel
theorem c_310_95 : pg_cd 310 95 = (1, 1, 0, 0, 0) := by decide +kernel
theorem c_310_96 : pg_cd 310 96 = (6, 2, 0, 8, 0) := by decide +kernel
theorem c_310_98 : pg_cd 310 98 = (1, 1, 0, 0, 0) := by decide +kernel
theorem c_310_99 : pg_cd 310 99 = (6, 2, 0, 9, 0) := by decide +kernel
theorem c_310_101 : pg_cd 310 101 = (3, 2, 0, 9, 0) := by decide +kernel
theorem c_310_103 : pg_cd 310 103 = (1, 3, 420, 0, 68921) := by decide +kernel
theorem c_310_106 : pg_cd 310 106 = (37, 3, 0, 3, 109) := by decide +kernel
theorem c_310_109 : pg_cd 310 109 = (3, 2, 0, 9, 0) := by decide +kernel
theorem c_310_111 : pg_cd 310 111 = (1, 3, 0, 0, 1681) := by decide +kernel
theorem c_310_114 : pg_cd 310 114 = (16, 1, 0, 0, 0) := by decide +kernel
theorem c_310_115 : pg_cd 310 115 = (6, 2, 0, 10, 0) := by decide +kernel
theorem c_310_117 : pg_cd 310 117 = (3, 2, 0, 9, 0) := by decide +kernel
theorem c_310_119 : pg_cd 310 119 = (1, 2, 0, 0, 41) := by decide +kernel
theorem c_310_121 : pg_cd 310 121 = (16, 1, 0, 0, 0) := by decide +kernel
theorem c_310_122 : pg_cd 310 122 = (1, 2, 0, 0, 41) := by decide +kernel
theorem c_310_124 : pg_cd 310 124 = (17, 1, 0, 0, 0) := by decide +kernel
theorem c_310_125 : pg_cd 310 125 = (6, 2, 0, 11, 0) := by decide +kernel
theorem c_310_127 : pg_cd 310 127 = (3, 2, 0, 9, 0) := by decide +kernel
theorem c_310_129 : pg_cd 310 129 = (1, 2, 0, 0, 41) := by decide +kernel
theorem c_310_131 : pg_cd 310 131 = (17, 1, 0, 0, 0) := by decide +kernel
theorem c_310_132 : pg_cd 310 132 = (6, 2, 0, 12, 0) := by decide +kernel
theorem c_310_134 : pg_cd 310 134 = (5, 1, 0, 0, 0) := by decide +kernel
theorem c_310_135 : pg_cd 310 135 = (3, 2, 0, 10, 0) := by decide +kernel
theorem c_310_137 : pg_cd 310 137 = (3, 2, 0, 11, 0) := by decide +kernel
theorem c_310_139 : pg_cd 310 139 = (3, 2, 0, 12, 0) := by decide +kernel
theorem c_310_141 : pg_cd 310 141 = (80, 308, 421, 0, 0) := by decide +kernel
theorem c_310_144 : pg_cd 310 144 = (6, 2, 0, 13, 0) := by decide +kernel
theorem c_310_146 : pg_cd 310 146 = (3, 2, 0, 10, 0) := by decide +kernel
theorem c_310_148 : pg_cd 310 148 = (3, 1, 0, 1, 0) := by decide +kernel
theorem c_310_149 : pg_cd 310 149 = (81, 309, 424, 0, 0) := by decide +kernel
theorem c_310_152 : pg_cd 310 152 = (3, 2, 0, 11, 0) := by decide +kernel
theorem c_310_154 : pg_cd 310 154 = (3, 1, 0, 2, 0) := by decide +kernel
theorem c_310_155 : pg_cd 310 155 = (81, 309, 424, 0, 0) := by decide +kernel
theorem c_310_158 : pg_cd 310 158 = (10, 1, 0, 0, 0) := by decide +kernel
theorem c_310_159 : pg_cd 310 159 = (3, 2, 0, 12, 0) := by decide +kernel
theorem c_310_161 : pg_cd 310 161 = (3, 1, 0, 3, 0) := by decide +kernel
theorem c_310_162 : pg_cd 310 162 = (81, 309, 424, 0, 0) := by decide +kernel
theorem c_310_165 : pg_cd 310 165 = (10, 1, 0, 0, 0) := by decide +kernel
theorem c_310_166 : pg_cd 310 166 = (6, 2, 0, 14, 0) := by decide +kernel
theorem c_310_168 : pg_cd 310 168 = (3, 2, 0, 6, 0) := by decide +kernel
theorem c_310_170 : pg_cd 310 170 = (36, 3, 0, 2, 27) := by decide +kernel
theorem c_310_173 : pg_cd 310 173 = (3, 2, 0, 13, 0) := by decide +kernel
theorem c_310_175 : pg_cd 310 175 = (3, 2, 0, 7, 0) := by decide +kernel
theorem c_310_177 : pg_cd 310 177 = (37, 3, 0, 4, 32) := by decide +kernel
theorem c_310_180 : pg_cd 310 180 = (3, 2, 0, 13, 0) := by decide +kernel
theorem c_310_182 : pg_cd 310 182 = (3, 2, 0, 7, 0) := by decide +kernel
theorem c_310_184 : pg_cd 310 184 = (37, 3, 0, 1, 13) := by decide +kernel
theorem c_310_187 : pg_cd 310 187 = (3, 2, 0, 14, 0) := by decide +kernel
theorem c_310_189 : pg_cd 310 189 = (3, 2, 0, 8, 0) := by decide +kernel
theorem c_310_191 : pg_cd 310 191 = (37, 3, 0, 2, 6) := by decide +kernel
theorem c_310_194 : pg_cd 310 194 = (38, 3, 0, 0, 15) := by decide +kernel
theorem c_310_197 : pg_cd 310 197 = (3, 2, 0, 9, 0) := by decide +kernel
theorem c_310_199 : pg_cd 310 199 = (6, 2, 0, 6, 0) := by decide +kernel
theorem c_310_201 : pg_cd 310 201 = (3, 2, 0, 13, 0) := by decide +kernel
theorem c_310_203 : pg_cd 310 203 = (6, 2, 0, 7, 0) := by decide +kernel
theorem c_310_205 : pg_cd 310 205 = (3, 2, 0, 14, 0) := by decide +kernel
theorem c_310_207 : pg_cd 310 207 = (6, 2, 0, 8, 0) := by decide +kernel
theorem c_310_209 : pg_cd 310 209 = (9, 3, 0, 9, 1) := by decide +kernel
theorem c_310_212 : pg_cd 310 212 = (38, 3, 0, 0, (-111)) := by decide +kernel
theorem c_310_215 : pg_cd 310 215 = (3, 2, 0, 4, 0) := by decide +kernel
theorem c_310_217 : pg_cd 310 217 = (36, 3, 0, 1, 12) := by decide +kernel
theorem c_310_220 : pg_cd 310 220 = (3, 2, 0, 6, 0) := by decide +kernel
theorem c_310_222 : pg_cd 310 222 = (1, 3, 0, 0, 1681) := by decide +kernel
theorem c_310_225 : pg_cd 310 225 = (16, 1, 0, 0, 0) := by decide +kernel
theorem c_310_226 : pg_cd 310 226 = (38, 3, 0, 0, 36) := by decide +kernel
theorem c_310_229 : pg_cd 310 229 = (3, 2, 0, 4, 0) := by decide +kernel
theorem c_310_231 : pg_cd 310 231 = (1, 1, 0, 0, 1) := by decide +kernel
theorem c_310_232 : pg_cd 310 232 = (37, 3, 0, 1, 14) := by decide +kernel
theorem c_310_235 : pg_cd 310 235 = (3, 2, 0, 6, 0) := by decide +kernel
theorem c_310_237 : pg_cd 310 237 = (1, 2, 0, 0, 41) := by decide +kernel
theorem c_310_239 : pg_cd 310 239 = (16, 1, 0, 0, 0) := by decide +kernel
theorem c_310_240 : pg_cd 310 240 = (1, 2, 0, 0, 41) := by decide +kernel
theorem c_310_242 : pg_cd 310 242 = (17, 1, 0, 0, 0) := by decide +kernel
theorem c_310_243 : pg_cd 310 243 = (38, 3, 0, 0, 19) := by decide +kernel
theorem c_310_246 : pg_cd 310 246 = (3, 2, 0, 4, 0) := by decide +kernel
theorem c_310_248 : pg_cd 310 248 = (1, 1, 0, 0, 2) := by decide +kernel
theorem c_310_249 : pg_cd 310 249 = (37, 3, 0, 1, 11) := by decide +kernel
theorem c_310_252 : pg_cd 310 252 = (3, 2, 0, 6, 0) := by decide +kernel
theorem c_310_254 : pg_cd 310 254 = (1, 2, 0, 0, 41) := by decide +kernel
theorem c_310_256 : pg_cd 310 256 = (17, 1, 0, 0, 0) := by decide +kernel
theorem c_310_257 : pg_cd 310 257 = (38, 3, 0, 0, 5) := by decide +kernel
theorem c_310_260 : pg_cd 310 260 = (3, 2, 0, 7, 0) := by decide +kernel
theorem c_310_262 : pg_cd 310 262 = (90, 0, 0, 0, 0) := by decide +kernel
theorem mi_310 : pg_mc 310 = 12 ∧ pg_na 310 = 4 ∧ pg_mx 310 = 15 := by decide +kernel
set_option maxRecDepth 20000 in
theorem u_310_0 {d : Nat} {S : zS} {σ τ : zI} {Q : zQ} {x1 : Int} {x2 : Int} {x3 : Int} {x4 : Int} (t : wi (d + 2) 310 6 [.ref 83, .int (wI x1), .int (wI x2), .int (wI x3), .int (wI x4), .int (wI 0), .int (wI 0), .retAddr 0, .retAddr 0, .retAddr 0, .retAddr 0, .retAddr 0, .retAddr 0, .retAddr 0, .retAddr 0] [] S σ τ Q) : wi (d + 2) 310 0 [.ref 83, .int (wI x1), .int (wI x2), .int (wI x3), .int (wI x4), .retAddr 0, .retAddr 0, .retAddr 0, .retAddr 0, .retAddr 0, .retAddr 0, .retAddr 0, .retAddr 0, .retAddr 0, .retAddr 0] [] S σ τ Q := by
  refine i1 c_310_0 (i6 (L' := [.ref 83, .int (wI x1), .int (wI x2), .int (wI x3), .int (wI x4), .int (wI 0), .retAddr 0, .retAddr 0, .retAddr 0, .retAddr 0, .retAddr 0, .retAddr 0, .retAddr 0, .retAddr 0, .retAddr 0]) c_310_1 rfl (i1 c_310_3 (i6 (L' := [.ref 83, .int (wI x1), .int (wI x2), .int (wI x3), .int (wI x4), .int (wI 0), .int (wI 0), .retAddr 0, .retAddr 0, .retAddr 0, .retAddr 0, .retAddr 0, .retAddr 0, .retAddr 0, .retAddr 0]) c_310_4 rfl t)))
set_option maxRecDepth 20000 in
theorem u_310_6 {d : Nat} {S : zS} {σ τ : zI} {Q : zQ} {x1 : Int} {x2 : Int} {x3 : Int} {x4 : Int} {x5 : Int} {x6 : Int} {y7 : Value} {y8 : Value} {y9 : Value} {y10 : Value} {y11 : Value} {y12 : Value} {y13 : Value} {y14 : Value} (t : (rg x6) ∧ if (6 : Int) ≤ x6 then ((rg x1) ∧ if 0 ≤ x1 ∧ x1 ≤ 40 then ((rg x2) ∧ if 0 ≤ x2 ∧ x2 ≤ 40 then ((rg x3) ∧ if 0 ≤ x3 ∧ x3 ≤ 40 then ((rg x4) ∧ if 0 ≤ x4 ∧ x4 ≤ 3 then ((rg x5) ∧ if x5 = 0 then (Q (some (.int (wI (-1)))) S σ τ) else (wi (d + 2) 310 101 [.ref 83, .int (wI x1), .int (wI x2), .int (wI x3), .int (wI x4), .int (wI x5), .int (wI (-1)), .int (wI 0), .int (wI 0), .int (wI 0), y10, y11, y12, y13, y14] [] S σ τ Q)) else (Q (some (.int (wI (-1)))) S σ τ)) else (Q (some (.int (wI (-1)))) S σ τ)) else (Q (some (.int (wI (-1)))) S σ τ)) else (Q (some (.int (wI (-1)))) S σ τ)) else ((rg x5) ∧ if x5 = 0 then ((0 ≤ 20 + 8 * x6 + 6 ∧ 20 + 8 * x6 + 6 < 112300) ∧ if (σ 84 (20 + 8 * x6 + 6)) < 0 then (wi (d + 2) 310 6 [.ref 83, .int (wI x1), .int (wI x2), .int (wI x3), .int (wI x4), .int (wI 0), .int (wI (x6 + 1)), y7, y8, y9, y10, y11, y12, y13, y14] [] S σ τ Q) else (wi (d + 2) 310 6 [.ref 83, .int (wI x1), .int (wI x2), .int (wI x3), .int (wI x4), .int (wI 1), .int (wI (x6 + 1)), y7, y8, y9, y10, y11, y12, y13, y14] [] S σ τ Q)) else (wi (d + 2) 310 6 [.ref 83, .int (wI x1), .int (wI x2), .int (wI x3), .int (wI x4), .int (wI 1), .int (wI (x6 + 1)), y7, y8, y9, y10, y11, y12, y13, y14] [] S σ τ Q))) : wi (d + 2) 310 6 [.ref 83, .int (wI x1), .int (wI x2), .int (wI x3), .int (wI x4), .int (wI x5), .int (wI x6), y7, y8, y9, y10, y11, y12, y13, y14] [] S σ τ Q := by
  obtain ⟨r1, t⟩ := t
  refine i3 c_310_6 rfl (i1 c_310_8 ?_)
  refine i37 c_310_10 r1 (by decide) rfl (fun hc => ?_) (fun hc => ?_)
  · have t := iT t hc
    have ha2 : (6 : Int) ≤ x6 := hc
    obtain ⟨r3, t⟩ := t
    refine i3 c_310_42 rfl (i1 c_310_43 (i1 c_310_44 ?_))
    refine i81 (As := [.int (wI x1), .int (wI 0), .int (wI 40)]) (rest := []) c_310_46 mi_196 rfl rfl (Nat.le_of_ble_eq_true rfl) (Nat.le_of_ble_eq_true rfl) (q_196 r3 (by decide) (by decide) ?_)
    show wi (d + 2) 310 49 [.ref 83, .int (wI x1), .int (wI x2), .int (wI x3), .int (wI x4), .int (wI x5), .int (wI x6), y7, y8, y9, y10, y11, y12, y13, y14] [.int (wI (if 0 ≤ x1 ∧ x1 ≤ 40 then 1 else 0))] S σ τ Q
    refine i36e c_310_49 rfl (fun hc => ?_) (fun hc => ?_)
    · have t := iT t hc
      have ha4 : 0 ≤ x1 ∧ x1 ≤ 40 := hc
      obtain ⟨r5, t⟩ := t
      refine i3 c_310_52 rfl (i1 c_310_53 (i1 c_310_54 ?_))
      refine i81 (As := [.int (wI x2), .int (wI 0), .int (wI 40)]) (rest := []) c_310_56 mi_196 rfl rfl (Nat.le_of_ble_eq_true rfl) (Nat.le_of_ble_eq_true rfl) (q_196 r5 (by decide) (by decide) ?_)
      show wi (d + 2) 310 59 [.ref 83, .int (wI x1), .int (wI x2), .int (wI x3), .int (wI x4), .int (wI x5), .int (wI x6), y7, y8, y9, y10, y11, y12, y13, y14] [.int (wI (if 0 ≤ x2 ∧ x2 ≤ 40 then 1 else 0))] S σ τ Q
      refine i36e c_310_59 rfl (fun hc => ?_) (fun hc => ?_)
      · have t := iT t hc
        have ha6 : 0 ≤ x2 ∧ x2 ≤ 40 := hc
        obtain ⟨r7, t⟩ := t
        refine i3 c_310_62 rfl (i1 c_310_63 (i1 c_310_64 ?_))
        refine i81 (As := [.int (wI x3), .int (wI 0), .int (wI 40)]) (rest := []) c_310_66 mi_196 rfl rfl (Nat.le_of_ble_eq_true rfl) (Nat.le_of_ble_eq_true rfl) (q_196 r7 (by decide) (by decide) ?_)
        show wi (d + 2) 310 69 [.ref 83, .int (wI x1), .int (wI x2), .int (wI x3), .int (wI x4), .int (wI x5), .int (wI x6), y7, y8, y9, y10, y11, y12, y13, y14] [.int (wI (if 0 ≤ x3 ∧ x3 ≤ 40 then 1 else 0))] S σ τ Q
        refine i36e c_310_69 rfl (fun hc => ?_) (fun hc => ?_)
        · have t := iT t hc
          have ha8 : 0 ≤ x3 ∧ x3 ≤ 40 := hc
          obtain ⟨r9, t⟩ := t
          refine i3 c_310_72 rfl (i1 c_310_74 (i1 c_310_75 ?_))
          refine i81 (As := [.int (wI x4), .int (wI 0), .int (wI 3)]) (rest := []) c_310_76 mi_196 rfl rfl (Nat.le_of_ble_eq_true rfl) (Nat.le_of_ble_eq_true rfl) (q_196 r9 (by decide) (by decide) ?_)
          show wi (d + 2) 310 79 [.ref 83, .int (wI x1), .int (wI x2), .int (wI x3), .int (wI x4), .int (wI x5), .int (wI x6), y7, y8, y9, y10, y11, y12, y13, y14] [.int (wI (if 0 ≤ x4 ∧ x4 ≤ 3 then 1 else 0))] S σ τ Q
          refine i36e c_310_79 rfl (fun hc => ?_) (fun hc => ?_)
          · have t := iT t hc
            have ha10 : 0 ≤ x4 ∧ x4 ≤ 3 := hc
            obtain ⟨r11, t⟩ := t
            refine i3 c_310_82 rfl ?_
            refine i36 c_310_84 r11 rfl (fun hc => ?_) (fun hc => ?_)
            · have t := iF t hc
              have ha12 : ¬ (x5 = 0) := hc
              refine i1 c_310_89 (i6 (L' := [.ref 83, .int (wI x1), .int (wI x2), .int (wI x3), .int (wI x4), .int (wI x5), .int (wI (-1)), y7, y8, y9, y10, y11, y12, y13, y14]) c_310_90 rfl (i1 c_310_92 (i6 (L' := [.ref 83, .int (wI x1), .int (wI x2), .int (wI x3), .int (wI x4), .int (wI x5), .int (wI (-1)), .int (wI 0), y8, y9, y10, y11, y12, y13, y14]) c_310_93 rfl (i1 c_310_95 (i6 (L' := [.ref 83, .int (wI x1), .int (wI x2), .int (wI x3), .int (wI x4), .int (wI x5), .int (wI (-1)), .int (wI 0), .int (wI 0), y9, y10, y11, y12, y13, y14]) c_310_96 rfl (i1 c_310_98 (i6 (L' := [.ref 83, .int (wI x1), .int (wI x2), .int (wI x3), .int (wI x4), .int (wI x5), .int (wI (-1)), .int (wI 0), .int (wI 0), .int (wI 0), y10, y11, y12, y13, y14]) c_310_99 rfl t)))))))
            · have t := iT t (Decidable.not_not.mp hc)
              have ha12 : x5 = 0 := Decidable.not_not.mp hc
              refine i1 c_310_87 ?_
              exact i90 c_310_88 t
          · have t := iF t hc
            have ha10 : ¬ (0 ≤ x4 ∧ x4 ≤ 3) := hc
            refine i1 c_310_87 ?_
            exact i90 c_310_88 t
        · have t := iF t hc
          have ha8 : ¬ (0 ≤ x3 ∧ x3 ≤ 40) := hc
          refine i1 c_310_87 ?_
          exact i90 c_310_88 t
      · have t := iF t hc
        have ha6 : ¬ (0 ≤ x2 ∧ x2 ≤ 40) := hc
        refine i1 c_310_87 ?_
        exact i90 c_310_88 t
    · have t := iF t hc
      have ha4 : ¬ (0 ≤ x1 ∧ x1 ≤ 40) := hc
      refine i1 c_310_87 ?_
      exact i90 c_310_88 t
  · have t := iF t hc
    have ha2 : ¬ ((6 : Int) ≤ x6) := hc
    obtain ⟨r13, t⟩ := t
    refine i3 c_310_13 rfl ?_
    refine i36 c_310_15 r13 rfl (fun hc => ?_) (fun hc => ?_)
    · have t := iF t hc
      have ha14 : ¬ (x5 = 0) := hc
      refine i1 c_310_29 (i38 c_310_30 rfl (i6 (L' := [.ref 83, .int (wI x1), .int (wI x2), .int (wI x3), .int (wI x4), .int (wI 1), .int (wI x6), y7, y8, y9, y10, y11, y12, y13, y14]) c_310_34 rfl (i9 (L' := [.ref 83, .int (wI x1), .int (wI x2), .int (wI x3), .int (wI x4), .int (wI 1), .int (wI (x6 + 1)), y7, y8, y9, y10, y11, y12, y13, y14]) c_310_36 rfl rfl (i38 c_310_39 rfl t))))
    · have t := iT t (Decidable.not_not.mp hc)
      have ha14 : x5 = 0 := Decidable.not_not.mp hc
      obtain ⟨p15, t⟩ := t
      refine i5 c_310_18 rfl (i3 c_310_19 rfl (i1 c_310_21 ?_))
      refine i80 (As := [.int (wI x6), .int (wI 6)]) (rest := []) c_310_23 mi_197 rfl rfl (Nat.le_of_ble_eq_true rfl) (Nat.le_of_ble_eq_true rfl) (lo (c := 83) (kd := 112) (n := 0) rfl (by decide)) (q_197 p15 ?_)
      show wi (d + 2) 310 26 [.ref 83, .int (wI x1), .int (wI x2), .int (wI x3), .int (wI x4), .int (wI x5), .int (wI x6), y7, y8, y9, y10, y11, y12, y13, y14] [.int (wI (σ 84 (20 + 8 * x6 + 6)))] S σ τ Q
      refine wi_ok (fun K16 => ?_)
      refine i36 c_310_26 (rge_ K16 rfl) rfl (fun hc => ?_) (fun hc => ?_)
      · have t := iT t hc
        have ha17 : (σ 84 (20 + 8 * x6 + 6)) < 0 := hc
        refine i1 c_310_33 (i6 (L' := [.ref 83, .int (wI x1), .int (wI x2), .int (wI x3), .int (wI x4), .int (wI 0), .int (wI x6), y7, y8, y9, y10, y11, y12, y13, y14]) c_310_34 rfl (i9 (L' := [.ref 83, .int (wI x1), .int (wI x2), .int (wI x3), .int (wI x4), .int (wI 0), .int (wI (x6 + 1)), y7, y8, y9, y10, y11, y12, y13, y14]) c_310_36 rfl rfl (i38 c_310_39 rfl t)))
      · have t := iF t hc
        have ha17 : ¬ ((σ 84 (20 + 8 * x6 + 6)) < 0) := hc
        refine i1 c_310_29 (i38 c_310_30 rfl (i6 (L' := [.ref 83, .int (wI x1), .int (wI x2), .int (wI x3), .int (wI x4), .int (wI 1), .int (wI x6), y7, y8, y9, y10, y11, y12, y13, y14]) c_310_34 rfl (i9 (L' := [.ref 83, .int (wI x1), .int (wI x2), .int (wI x3), .int (wI x4), .int (wI 1), .int (wI (x6 + 1)), y7, y8, y9, y10, y11, y12, y13, y14]) c_310_36 rfl rfl (i38 c_310_39 rfl t))))
set_option maxRecDepth 20000 in
theorem u_310_101 {d : Nat} {S : zS} {σ τ : zI} {Q : zQ} {x1 : Int} {x2 : Int} {x3 : Int} {x4 : Int} {x5 : Int} {x6 : Int} {x7 : Int} {x8 : Int} {x9 : Int} {y10 : Value} {y11 : Value} {y12 : Value} {y13 : Value} {y14 : Value} (t : (rg x9) ∧ if (68921 : Int) ≤ x9 then ((rg x4) ∧ if x4 = 0 then ((rg x6) ∧ Q (some (.int (wI (Int.tdiv x6 1681)))) S σ τ) else (if x4 = 1 then ((rg x6) ∧ (rg (Int.tdiv x6 41)) ∧ Q (some (.int (wI (Int.tmod (Int.tdiv x6 41) 41)))) S σ τ) else (if x4 = 2 then ((rg x6) ∧ Q (some (.int (wI (Int.tmod x6 41)))) S σ τ) else (Q (some (.int (wI x7))) S σ τ)))) else ((rg (Int.tdiv x9 41)) ∧ (jv_K (σ 84)) ∧ (0 ≤ (Int.tdiv x9 1681) ∧ (Int.tdiv x9 1681) ≤ (40 : Int)) ∧ (0 ≤ (Int.tmod (Int.tdiv x9 41) 41) ∧ (Int.tmod (Int.tdiv x9 41) 41) ≤ (40 : Int)) ∧ (0 ≤ (Int.tmod x9 41) ∧ (Int.tmod x9 41) ≤ (40 : Int)) ∧ ∀ (v16 : Int), v16 = r_sq (σ 84) (Int.tdiv x9 1681) (Int.tmod (Int.tdiv x9 41) 41) (Int.tmod x9 41) → 0 ≤ v16 ∧ v16 ≤ 600000000 → (0 ≤ x1 ∧ x1 ≤ (40 : Int)) ∧ ∀ (v20 : Int), v20 = max ((Int.tdiv x9 1681) - x1) (-((Int.tdiv x9 1681) - x1)) → 0 ≤ v20 ∧ v20 ≤ 40 → (0 ≤ x2 ∧ x2 ≤ (40 : Int)) ∧ ∀ (v24 : Int), v24 = max ((Int.tmod (Int.tdiv x9 41) 41) - x2) (-((Int.tmod (Int.tdiv x9 41) 41) - x2)) → 0 ≤ v24 ∧ v24 ≤ 40 → (0 ≤ x3 ∧ x3 ≤ (40 : Int)) ∧ ∀ (v28 : Int), v28 = max ((Int.tmod x9 41) - x3) (-((Int.tmod x9 41) - x3)) → 0 ≤ v28 ∧ v28 ≤ 40 → (rg x6) ∧ if x6 < 0 then (wi (d + 2) 310 101 [.ref 83, .int (wI x1), .int (wI x2), .int (wI x3), .int (wI x4), .int (wI x5), .int (wI x9), .int (wI v16), .int (wI ((v20 + v24) + v28)), .int (wI (x9 + 1)), .int (wI (Int.tdiv x9 1681)), .int (wI (Int.tmod (Int.tdiv x9 41) 41)), .int (wI (Int.tmod x9 41)), .int (wI v16), .int (wI ((v20 + v24) + v28))] [] S σ τ Q) else ((rg v16) ∧ (rg x7) ∧ if x7 < v16 then (wi (d + 2) 310 101 [.ref 83, .int (wI x1), .int (wI x2), .int (wI x3), .int (wI x4), .int (wI x5), .int (wI x6), .int (wI x7), .int (wI x8), .int (wI (x9 + 1)), .int (wI (Int.tdiv x9 1681)), .int (wI (Int.tmod (Int.tdiv x9 41) 41)), .int (wI (Int.tmod x9 41)), .int (wI v16), .int (wI ((v20 + v24) + v28))] [] S σ τ Q) else (if v16 = x7 then ((rg ((v20 + v24) + v28)) ∧ (rg x8) ∧ if ((v20 + v24) + v28) < x8 then (wi (d + 2) 310 101 [.ref 83, .int (wI x1), .int (wI x2), .int (wI x3), .int (wI x4), .int (wI x5), .int (wI x9), .int (wI v16), .int (wI ((v20 + v24) + v28)), .int (wI (x9 + 1)), .int (wI (Int.tdiv x9 1681)), .int (wI (Int.tmod (Int.tdiv x9 41) 41)), .int (wI (Int.tmod x9 41)), .int (wI v16), .int (wI ((v20 + v24) + v28))] [] S σ τ Q) else (wi (d + 2) 310 101 [.ref 83, .int (wI x1), .int (wI x2), .int (wI x3), .int (wI x4), .int (wI x5), .int (wI x6), .int (wI x7), .int (wI x8), .int (wI (x9 + 1)), .int (wI (Int.tdiv x9 1681)), .int (wI (Int.tmod (Int.tdiv x9 41) 41)), .int (wI (Int.tmod x9 41)), .int (wI v16), .int (wI ((v20 + v24) + v28))] [] S σ τ Q)) else (wi (d + 2) 310 101 [.ref 83, .int (wI x1), .int (wI x2), .int (wI x3), .int (wI x4), .int (wI x5), .int (wI x9), .int (wI v16), .int (wI ((v20 + v24) + v28)), .int (wI (x9 + 1)), .int (wI (Int.tdiv x9 1681)), .int (wI (Int.tmod (Int.tdiv x9 41) 41)), .int (wI (Int.tmod x9 41)), .int (wI v16), .int (wI ((v20 + v24) + v28))] [] S σ τ Q))))) : wi (d + 2) 310 101 [.ref 83, .int (wI x1), .int (wI x2), .int (wI x3), .int (wI x4), .int (wI x5), .int (wI x6), .int (wI x7), .int (wI x8), .int (wI x9), y10, y11, y12, y13, y14] [] S σ τ Q := by
  obtain ⟨r1, t⟩ := t
  refine i3 c_310_101 rfl (i1 c_310_103 ?_)
  refine i37 c_310_106 r1 (by decide) rfl (fun hc => ?_) (fun hc => ?_)
  · have t := iT t hc
    have ha2 : (68921 : Int) ≤ x9 := hc
    obtain ⟨r3, t⟩ := t
    refine i3 c_310_215 rfl ?_
    refine i36 c_310_217 r3 rfl (fun hc => ?_) (fun hc => ?_)
    · have t := iF t hc
      have ha4 : ¬ (x4 = 0) := hc
      refine i3 c_310_229 rfl (i1 c_310_231 ?_)
      refine i37 c_310_232 r3 (by decide) rfl (fun hc => ?_) (fun hc => ?_)
      · have t := iF t hc
        have ha5 : ¬ (x4 = 1) := hc
        refine i3 c_310_246 rfl (i1 c_310_248 ?_)
        refine i37 c_310_249 r3 (by decide) rfl (fun hc => ?_) (fun hc => ?_)
        · have t := iF t hc
          have ha6 : ¬ (x4 = 2) := hc
          refine i3 c_310_260 rfl ?_
          exact i90 c_310_262 t
        · have t := iT t (Decidable.not_not.mp hc)
          have ha6 : x4 = 2 := Decidable.not_not.mp hc
          obtain ⟨r7, t⟩ := t
          refine i3 c_310_252 rfl (i1 c_310_254 (i17 c_310_256 r7 (by decide) (by decide) (i38 c_310_257 rfl ?_)))
          exact i90 c_310_262 t
      · have t := iT t (Decidable.not_not.mp hc)
        have ha5 : x4 = 1 := Decidable.not_not.mp hc
        obtain ⟨r8, t⟩ := t
        obtain ⟨r9, t⟩ := t
        refine i3 c_310_235 rfl (i1 c_310_237 (i16 c_310_239 r8 (by decide) (by decide) (i1 c_310_240 (i17 c_310_242 r9 (by decide) (by decide) (i38 c_310_243 rfl ?_)))))
        exact i90 c_310_262 t
    · have t := iT t (Decidable.not_not.mp hc)
      have ha4 : x4 = 0 := Decidable.not_not.mp hc
      obtain ⟨r10, t⟩ := t
      refine i3 c_310_220 rfl (i1 c_310_222 (i16 c_310_225 r10 (by decide) (by decide) (i38 c_310_226 rfl ?_)))
      exact i90 c_310_262 t
  · have t := iF t hc
    have ha2 : ¬ ((68921 : Int) ≤ x9) := hc
    obtain ⟨r11, t⟩ := t
    obtain ⟨p12, t⟩ := t
    obtain ⟨p13, t⟩ := t
    obtain ⟨p14, t⟩ := t
    obtain ⟨p15, t⟩ := t
    refine i3 c_310_109 rfl (i1 c_310_111 (i16 c_310_114 r1 (by decide) (by decide) (i6 (L' := [.ref 83, .int (wI x1), .int (wI x2), .int (wI x3), .int (wI x4), .int (wI x5), .int (wI x6), .int (wI x7), .int (wI x8), .int (wI x9), .int (wI (Int.tdiv x9 1681)), y11, y12, y13, y14]) c_310_115 rfl (i3 c_310_117 rfl (i1 c_310_119 (i16 c_310_121 r1 (by decide) (by decide) (i1 c_310_122 (i17 c_310_124 r11 (by decide) (by decide) (i6 (L' := [.ref 83, .int (wI x1), .int (wI x2), .int (wI x3), .int (wI x4), .int (wI x5), .int (wI x6), .int (wI x7), .int (wI x8), .int (wI x9), .int (wI (Int.tdiv x9 1681)), .int (wI (Int.tmod (Int.tdiv x9 41) 41)), y12, y13, y14]) c_310_125 rfl (i3 c_310_127 rfl (i1 c_310_129 (i17 c_310_131 r1 (by decide) (by decide) (i6 (L' := [.ref 83, .int (wI x1), .int (wI x2), .int (wI x3), .int (wI x4), .int (wI x5), .int (wI x6), .int (wI x7), .int (wI x8), .int (wI x9), .int (wI (Int.tdiv x9 1681)), .int (wI (Int.tmod (Int.tdiv x9 41) 41)), .int (wI (Int.tmod x9 41)), y13, y14]) c_310_132 rfl (i5 c_310_134 rfl (i3 c_310_135 rfl (i3 c_310_137 rfl (i3 c_310_139 rfl ?_)))))))))))))))))
    refine i80 (As := [.int (wI (Int.tdiv x9 1681)), .int (wI (Int.tmod (Int.tdiv x9 41) 41)), .int (wI (Int.tmod x9 41))]) (rest := []) c_310_141 mi_308 rfl rfl (Nat.le_of_ble_eq_true rfl) (Nat.le_of_ble_eq_true rfl) (lo (c := 83) (kd := 112) (n := 0) rfl (by decide)) (q_308 p12 p13 p14 p15 (fun v16 q17 q18 => ?_))
    have t := t v16 q17 q18
    show wi (d + 2) 310 144 [.ref 83, .int (wI x1), .int (wI x2), .int (wI x3), .int (wI x4), .int (wI x5), .int (wI x6), .int (wI x7), .int (wI x8), .int (wI x9), .int (wI (Int.tdiv x9 1681)), .int (wI (Int.tmod (Int.tdiv x9 41) 41)), .int (wI (Int.tmod x9 41)), y13, y14] [.int (wI v16)] S σ τ Q
    obtain ⟨p19, t⟩ := t
    refine i6 (L' := [.ref 83, .int (wI x1), .int (wI x2), .int (wI x3), .int (wI x4), .int (wI x5), .int (wI x6), .int (wI x7), .int (wI x8), .int (wI x9), .int (wI (Int.tdiv x9 1681)), .int (wI (Int.tmod (Int.tdiv x9 41) 41)), .int (wI (Int.tmod x9 41)), .int (wI v16), y14]) c_310_144 rfl (i3 c_310_146 rfl (i3 c_310_148 rfl ?_))
    refine i81 (As := [.int (wI (Int.tdiv x9 1681)), .int (wI x1)]) (rest := []) c_310_149 mi_309 rfl rfl (Nat.le_of_ble_eq_true rfl) (Nat.le_of_ble_eq_true rfl) (q_309 p13 p19 (fun v20 q21 q22 => ?_))
    have t := t v20 q21 q22
    show wi (d + 2) 310 152 [.ref 83, .int (wI x1), .int (wI x2), .int (wI x3), .int (wI x4), .int (wI x5), .int (wI x6), .int (wI x7), .int (wI x8), .int (wI x9), .int (wI (Int.tdiv x9 1681)), .int (wI (Int.tmod (Int.tdiv x9 41) 41)), .int (wI (Int.tmod x9 41)), .int (wI v16), y14] [.int (wI v20)] S σ τ Q
    obtain ⟨p23, t⟩ := t
    refine i3 c_310_152 rfl (i3 c_310_154 rfl ?_)
    refine i81 (As := [.int (wI (Int.tmod (Int.tdiv x9 41) 41)), .int (wI x2)]) (rest := [.int (wI v20)]) c_310_155 mi_309 rfl rfl (Nat.le_of_ble_eq_true rfl) (Nat.le_of_ble_eq_true rfl) (q_309 p14 p23 (fun v24 q25 q26 => ?_))
    have t := t v24 q25 q26
    show wi (d + 2) 310 158 [.ref 83, .int (wI x1), .int (wI x2), .int (wI x3), .int (wI x4), .int (wI x5), .int (wI x6), .int (wI x7), .int (wI x8), .int (wI x9), .int (wI (Int.tdiv x9 1681)), .int (wI (Int.tmod (Int.tdiv x9 41) 41)), .int (wI (Int.tmod x9 41)), .int (wI v16), y14] [.int (wI v24), .int (wI v20)] S σ τ Q
    obtain ⟨p27, t⟩ := t
    refine i10 c_310_158 (i3 c_310_159 rfl (i3 c_310_161 rfl ?_))
    refine i81 (As := [.int (wI (Int.tmod x9 41)), .int (wI x3)]) (rest := [.int (wI (v20 + v24))]) c_310_162 mi_309 rfl rfl (Nat.le_of_ble_eq_true rfl) (Nat.le_of_ble_eq_true rfl) (q_309 p15 p27 (fun v28 q29 q30 => ?_))
    have t := t v28 q29 q30
    show wi (d + 2) 310 165 [.ref 83, .int (wI x1), .int (wI x2), .int (wI x3), .int (wI x4), .int (wI x5), .int (wI x6), .int (wI x7), .int (wI x8), .int (wI x9), .int (wI (Int.tdiv x9 1681)), .int (wI (Int.tmod (Int.tdiv x9 41) 41)), .int (wI (Int.tmod x9 41)), .int (wI v16), y14] [.int (wI v28), .int (wI (v20 + v24))] S σ τ Q
    obtain ⟨r31, t⟩ := t
    refine i10 c_310_165 (i6 (L' := [.ref 83, .int (wI x1), .int (wI x2), .int (wI x3), .int (wI x4), .int (wI x5), .int (wI x6), .int (wI x7), .int (wI x8), .int (wI x9), .int (wI (Int.tdiv x9 1681)), .int (wI (Int.tmod (Int.tdiv x9 41) 41)), .int (wI (Int.tmod x9 41)), .int (wI v16), .int (wI ((v20 + v24) + v28))]) c_310_166 rfl (i3 c_310_168 rfl ?_))
    refine i36 c_310_170 r31 rfl (fun hc => ?_) (fun hc => ?_)
    · have t := iT t hc
      have ha32 : x6 < 0 := hc
      refine i3 c_310_197 rfl (i6 (L' := [.ref 83, .int (wI x1), .int (wI x2), .int (wI x3), .int (wI x4), .int (wI x5), .int (wI x9), .int (wI x7), .int (wI x8), .int (wI x9), .int (wI (Int.tdiv x9 1681)), .int (wI (Int.tmod (Int.tdiv x9 41) 41)), .int (wI (Int.tmod x9 41)), .int (wI v16), .int (wI ((v20 + v24) + v28))]) c_310_199 rfl (i3 c_310_201 rfl (i6 (L' := [.ref 83, .int (wI x1), .int (wI x2), .int (wI x3), .int (wI x4), .int (wI x5), .int (wI x9), .int (wI v16), .int (wI x8), .int (wI x9), .int (wI (Int.tdiv x9 1681)), .int (wI (Int.tmod (Int.tdiv x9 41) 41)), .int (wI (Int.tmod x9 41)), .int (wI v16), .int (wI ((v20 + v24) + v28))]) c_310_203 rfl (i3 c_310_205 rfl (i6 (L' := [.ref 83, .int (wI x1), .int (wI x2), .int (wI x3), .int (wI x4), .int (wI x5), .int (wI x9), .int (wI v16), .int (wI ((v20 + v24) + v28)), .int (wI x9), .int (wI (Int.tdiv x9 1681)), .int (wI (Int.tmod (Int.tdiv x9 41) 41)), .int (wI (Int.tmod x9 41)), .int (wI v16), .int (wI ((v20 + v24) + v28))]) c_310_207 rfl (i9 (L' := [.ref 83, .int (wI x1), .int (wI x2), .int (wI x3), .int (wI x4), .int (wI x5), .int (wI x9), .int (wI v16), .int (wI ((v20 + v24) + v28)), .int (wI (x9 + 1)), .int (wI (Int.tdiv x9 1681)), .int (wI (Int.tmod (Int.tdiv x9 41) 41)), .int (wI (Int.tmod x9 41)), .int (wI v16), .int (wI ((v20 + v24) + v28))]) c_310_209 rfl rfl (i38 c_310_212 rfl t)))))))
    · have t := iF t hc
      have ha32 : ¬ (x6 < 0) := hc
      obtain ⟨r33, t⟩ := t
      obtain ⟨r34, t⟩ := t
      refine i3 c_310_173 rfl (i3 c_310_175 rfl ?_)
      refine i37 c_310_177 r33 r34 rfl (fun hc => ?_) (fun hc => ?_)
      · have t := iT t hc
        have ha35 : x7 < v16 := hc
        refine i9 (L' := [.ref 83, .int (wI x1), .int (wI x2), .int (wI x3), .int (wI x4), .int (wI x5), .int (wI x6), .int (wI x7), .int (wI x8), .int (wI (x9 + 1)), .int (wI (Int.tdiv x9 1681)), .int (wI (Int.tmod (Int.tdiv x9 41) 41)), .int (wI (Int.tmod x9 41)), .int (wI v16), .int (wI ((v20 + v24) + v28))]) c_310_209 rfl rfl (i38 c_310_212 rfl t)
      · have t := iF t hc
        have ha35 : ¬ (x7 < v16) := hc
        refine i3 c_310_180 rfl (i3 c_310_182 rfl ?_)
        refine i37 c_310_184 r33 r34 rfl (fun hc => ?_) (fun hc => ?_)
        · have t := iF t hc
          have ha36 : ¬ (v16 = x7) := hc
          refine i3 c_310_197 rfl (i6 (L' := [.ref 83, .int (wI x1), .int (wI x2), .int (wI x3), .int (wI x4), .int (wI x5), .int (wI x9), .int (wI x7), .int (wI x8), .int (wI x9), .int (wI (Int.tdiv x9 1681)), .int (wI (Int.tmod (Int.tdiv x9 41) 41)), .int (wI (Int.tmod x9 41)), .int (wI v16), .int (wI ((v20 + v24) + v28))]) c_310_199 rfl (i3 c_310_201 rfl (i6 (L' := [.ref 83, .int (wI x1), .int (wI x2), .int (wI x3), .int (wI x4), .int (wI x5), .int (wI x9), .int (wI v16), .int (wI x8), .int (wI x9), .int (wI (Int.tdiv x9 1681)), .int (wI (Int.tmod (Int.tdiv x9 41) 41)), .int (wI (Int.tmod x9 41)), .int (wI v16), .int (wI ((v20 + v24) + v28))]) c_310_203 rfl (i3 c_310_205 rfl (i6 (L' := [.ref 83, .int (wI x1), .int (wI x2), .int (wI x3), .int (wI x4), .int (wI x5), .int (wI x9), .int (wI v16), .int (wI ((v20 + v24) + v28)), .int (wI x9), .int (wI (Int.tdiv x9 1681)), .int (wI (Int.tmod (Int.tdiv x9 41) 41)), .int (wI (Int.tmod x9 41)), .int (wI v16), .int (wI ((v20 + v24) + v28))]) c_310_207 rfl (i9 (L' := [.ref 83, .int (wI x1), .int (wI x2), .int (wI x3), .int (wI x4), .int (wI x5), .int (wI x9), .int (wI v16), .int (wI ((v20 + v24) + v28)), .int (wI (x9 + 1)), .int (wI (Int.tdiv x9 1681)), .int (wI (Int.tmod (Int.tdiv x9 41) 41)), .int (wI (Int.tmod x9 41)), .int (wI v16), .int (wI ((v20 + v24) + v28))]) c_310_209 rfl rfl (i38 c_310_212 rfl t)))))))
        · have t := iT t (Decidable.not_not.mp hc)
          have ha36 : v16 = x7 := Decidable.not_not.mp hc
          obtain ⟨r37, t⟩ := t
          obtain ⟨r38, t⟩ := t
          refine i3 c_310_187 rfl (i3 c_310_189 rfl ?_)
          refine i37 c_310_191 r37 r38 rfl (fun hc => ?_) (fun hc => ?_)
          · have t := iT t hc
            have ha39 : ((v20 + v24) + v28) < x8 := hc
            refine i3 c_310_197 rfl (i6 (L' := [.ref 83, .int (wI x1), .int (wI x2), .int (wI x3), .int (wI x4), .int (wI x5), .int (wI x9), .int (wI x7), .int (wI x8), .int (wI x9), .int (wI (Int.tdiv x9 1681)), .int (wI (Int.tmod (Int.tdiv x9 41) 41)), .int (wI (Int.tmod x9 41)), .int (wI v16), .int (wI ((v20 + v24) + v28))]) c_310_199 rfl (i3 c_310_201 rfl (i6 (L' := [.ref 83, .int (wI x1), .int (wI x2), .int (wI x3), .int (wI x4), .int (wI x5), .int (wI x9), .int (wI v16), .int (wI x8), .int (wI x9), .int (wI (Int.tdiv x9 1681)), .int (wI (Int.tmod (Int.tdiv x9 41) 41)), .int (wI (Int.tmod x9 41)), .int (wI v16), .int (wI ((v20 + v24) + v28))]) c_310_203 rfl (i3 c_310_205 rfl (i6 (L' := [.ref 83, .int (wI x1), .int (wI x2), .int (wI x3), .int (wI x4), .int (wI x5), .int (wI x9), .int (wI v16), .int (wI ((v20 + v24) + v28)), .int (wI x9), .int (wI (Int.tdiv x9 1681)), .int (wI (Int.tmod (Int.tdiv x9 41) 41)), .int (wI (Int.tmod x9 41)), .int (wI v16), .int (wI ((v20 + v24) + v28))]) c_310_207 rfl (i9 (L' := [.ref 83, .int (wI x1), .int (wI x2), .int (wI x3), .int (wI x4), .int (wI x5), .int (wI x9), .int (wI v16), .int (wI ((v20 + v24) + v28)), .int (wI (x9 + 1)), .int (wI (Int.tdiv x9 1681)), .int (wI (Int.tmod (Int.tdiv x9 41) 41)), .int (wI (Int.tmod x9 41)), .int (wI v16), .int (wI ((v20 + v24) + v28))]) c_310_209 rfl rfl (i38 c_310_212 rfl t)))))))
          · have t := iF t hc
            have ha39 : ¬ (((v20 + v24) + v28) < x8) := hc
            refine i38 c_310_194 rfl (i9 (L' := [.ref 83, .int (wI x1), .int (wI x2), .int (wI x3), .int (wI x4), .int (wI x5), .int (wI x6), .int (wI x7), .int (wI x8), .int (wI (x9 + 1)), .int (wI (Int.tdiv x9 1681)), .int (wI (Int.tmod (Int.tdiv x9 41) 41)), .int (wI (Int.tmod x9 41)), .int (wI v16), .int (wI ((v20 + v24) + v28))]) c_310_209 rfl rfl (i38 c_310_212 rfl t))
set_option maxHeartbeats 4000000 in
theorem q_310 {d : Nat} {S : zS} {σ τ : zI} {Q : zQ} {b0 : Int} {b1 : Int} {b2 : Int} {what : Int} (p0 : rg b0) (p1 : rg b1) (p2 : rg b2) (p3 : rg what) (p4 : jv_K (σ 84)) (t : ∀ (v : Int), (((0 ≤ b0 ∧ b0 ≤ 40) ∧ (0 ≤ b1 ∧ b1 ≤ 40) ∧ (0 ≤ b2 ∧ b2 ≤ 40) ∧ (0 ≤ what ∧ what ≤ 3) ∧ ∃ k, 0 ≤ k ∧ k < 6 ∧ σ 84 (20 + 8 * k + 6) ≠ -1) → MD (σ 84) b0 b1 b2 what v) → (¬ ((0 ≤ b0 ∧ b0 ≤ 40) ∧ (0 ≤ b1 ∧ b1 ≤ 40) ∧ (0 ≤ b2 ∧ b2 ≤ 40) ∧ (0 ≤ what ∧ what ≤ 3) ∧ ∃ k, 0 ≤ k ∧ k < 6 ∧ σ 84 (20 + 8 * k + 6) ≠ -1) → v = -1) → Q (some (.int (wI v))) S σ τ) : wc (d + 2) 310 [.ref 83, .int (wI b0), .int (wI b1), .int (wI b2), .int (wI what)] S σ τ Q := by
  refine wc_of mi_310 rfl (u_310_0 ?_)
  have no : ¬ ((0 ≤ b0 ∧ b0 ≤ 40) ∧ (0 ≤ b1 ∧ b1 ≤ 40) ∧ (0 ≤ b2 ∧ b2 ≤ 40) ∧ (0 ≤ what ∧ what ≤ 3) ∧ ∃ k, 0 ≤ k ∧ k < 6 ∧ σ 84 (20 + 8 * k + 6) ≠ -1) → Q (some (.int (wI (-1)))) S σ τ := fun h => t (-1) (fun q => absurd q h) (fun _ => rfl)
  have L : ((0 ≤ b0 ∧ b0 ≤ 40) ∧ (0 ≤ b1 ∧ b1 ≤ 40) ∧ (0 ≤ b2 ∧ b2 ≤ 40) ∧ (0 ≤ what ∧ what ≤ 3) ∧ ∃ k, 0 ≤ k ∧ k < 6 ∧ σ 84 (20 + 8 * k + 6) ≠ -1) → ∀ q, 0 ≤ q → q ≤ 68921 → ∀ b f c, (q = 0 ∧ b = -1 ∨ (0 ≤ b ∧ b < q) ∧ f = r_sq (σ 84) (b.tdiv 1681) ((b.tdiv 41).tmod 41) (b.tmod 41) ∧ c = r_ch b0 b1 b2 (b.tdiv 1681) ((b.tdiv 41).tmod 41) (b.tmod 41) ∧ ∀ q', 0 ≤ q' → q' < q → f < r_sq (σ 84) (q'.tdiv 1681) ((q'.tdiv 41).tmod 41) (q'.tmod 41) ∨ f = r_sq (σ 84) (q'.tdiv 1681) ((q'.tdiv 41).tmod 41) (q'.tmod 41) ∧ (c < r_ch b0 b1 b2 (q'.tdiv 1681) ((q'.tdiv 41).tmod 41) (q'.tmod 41) ∨ c = r_ch b0 b1 b2 (q'.tdiv 1681) ((q'.tdiv 41).tmod 41) (q'.tmod 41) ∧ b ≤ q')) → (rg f ∧ rg c) → ∀ x5 y10 y11 y12 y13 y14, wi (d + 2) 310 101 [.ref 83, .int (wI b0), .int (wI b1), .int (wI b2), .int (wI what), .int (wI x5), .int (wI b), .int (wI f), .int (wI c), .int (wI q), y10, y11, y12, y13, y14] [] S σ τ Q := fun km => by
    refine lp_up (fun q q0 q1 ih => ?_)
    intro b f c hb rfc x5 y10 y11 y12 y13 y14
    refine u_310_101 ⟨by omega, ifI (fun e => ?_) (fun e => ?_)⟩
    · have e : q = 68921 := by omega
      rcases hb with hb | ⟨h1, h2, h3, h4⟩
      · omega
      have qb := qc (q := b) (by omega)
      have fin : ∀ v, (v = if what = 0 then b.tdiv 1681 else if what = 1 then (b.tdiv 41).tmod 41 else if what = 2 then b.tmod 41 else f) → Q (some (.int (wI v))) S σ τ := fun v hv => by
        refine t v (fun _ => ⟨_, _, _, ⟨⟨qb.1, qb.2.1, qb.2.2.1⟩, fun x' y' z' hx hy hz => ?_⟩, by rw [h2] at hv; exact hv⟩) (fun n => absurd km n)
        have h5 := h4 (x' * 1681 + y' * 41 + z') (by omega) (by omega)
        have e1 : (x' * 1681 + y' * 41 + z').tdiv 1681 = x' := by rw [Int.tdiv_eq_ediv_of_nonneg (by omega)]; omega
        have e2 : ((x' * 1681 + y' * 41 + z').tdiv 41).tmod 41 = y' := by
          have : (x' * 1681 + y' * 41 + z').tdiv 41 = x' * 41 + y' := by rw [Int.tdiv_eq_ediv_of_nonneg (by omega)]; omega
          rw [this, Int.tmod_eq_emod_of_nonneg (by omega)]; omega
        have e3 : (x' * 1681 + y' * 41 + z').tmod 41 = z' := by rw [Int.tmod_eq_emod_of_nonneg (by omega)]; omega
        rw [e1, e2, e3] at h5
        unfold lx
        rw [← h2, ← h3]
        omega
      refine ⟨by omega, ifI (fun e1 => ?_) (fun e1 => ifI (fun e2 => ?_) (fun e2 => ifI (fun e3 => ?_) (fun e3 => ?_)))⟩
      · exact ⟨by omega, fin _ (by rw [if_pos e1])⟩
      · exact ⟨by omega, by omega, fin _ (by rw [if_neg e1, if_pos e2])⟩
      · exact ⟨by omega, fin _ (by rw [if_neg e1, if_neg e2, if_pos e3])⟩
      · exact fin _ (by rw [if_neg e1, if_neg e2, if_neg e3])
    · have qb := qc (q := q) (by omega)
      have ih := ih (by omega)
      refine ⟨by omega, p4, by omega, by omega, by omega, fun F hF bF => ⟨by omega, fun c0 h0 g0 => ⟨by omega, fun c1 h1 g1 => ⟨by omega, fun c2 h2 g2 => ?_⟩⟩⟩⟩
      have hc : c0 + c1 + c2 = r_ch b0 b1 b2 (q.tdiv 1681) ((q.tdiv 41).tmod 41) (q.tmod 41) := by unfold r_ch; rw [h0, h1, h2]
      have nw : (∀ q', 0 ≤ q' → q' < q → F < r_sq (σ 84) (q'.tdiv 1681) ((q'.tdiv 41).tmod 41) (q'.tmod 41) ∨ F = r_sq (σ 84) (q'.tdiv 1681) ((q'.tdiv 41).tmod 41) (q'.tmod 41) ∧ c0 + c1 + c2 < r_ch b0 b1 b2 (q'.tdiv 1681) ((q'.tdiv 41).tmod 41) (q'.tmod 41)) → ∀ x5 y10 y11 y12 y13 y14, wi (d + 2) 310 101 [.ref 83, .int (wI b0), .int (wI b1), .int (wI b2), .int (wI what), .int (wI x5), .int (wI q), .int (wI F), .int (wI (c0 + c1 + c2)), .int (wI (q + 1)), y10, y11, y12, y13, y14] [] S σ τ Q := fun h => by
        refine ih q F (c0 + c1 + c2) (Or.inr ⟨⟨q0, by omega⟩, hF, hc, fun q' a0 a1 => ?_⟩) (by omega)
        by_cases e : q' = q
        · subst e
          rw [← hF, ← hc]
          omega
        · have := h q' a0 (by omega)
          omega
      clear h0 h1 h2
      rcases hb with hb | ⟨h1, h2, h3, h4⟩
      · refine ⟨by omega, ?_⟩
        rw [if_pos (by omega)]
        exact nw (fun q' a0 a1 => by omega) _ _ _ _ _ _
      have old : ∀ (h : f < F ∨ f = F ∧ c ≤ c0 + c1 + c2), ∀ x5 y10 y11 y12 y13 y14, wi (d + 2) 310 101 [.ref 83, .int (wI b0), .int (wI b1), .int (wI b2), .int (wI what), .int (wI x5), .int (wI b), .int (wI f), .int (wI c), .int (wI (q + 1)), y10, y11, y12, y13, y14] [] S σ τ Q := fun h => by
        refine ih b f c (Or.inr ⟨⟨by omega, by omega⟩, h2, h3, fun q' a0 a1 => ?_⟩) rfc
        by_cases e : q' = q
        · subst e
          rw [← hF, ← hc]
          omega
        · exact h4 q' a0 (by omega)
      refine ⟨by omega, ?_⟩
      rw [if_neg (by omega)]
      refine ⟨by omega, rfc.1, ifI (fun e1 => old (Or.inl e1) _ _ _ _ _ _) (fun e1 => ifI (fun e2 => ⟨by omega, rfc.2, ifI (fun e3 => ?_) (fun e3 => ?_)⟩) (fun e2 => ?_))⟩
      · refine nw (fun q' a0 a1 => ?_) _ _ _ _ _ _
        have := h4 q' a0 a1
        omega
      · exact old (Or.inr ⟨by omega, by omega⟩) _ _ _ _ _ _
      · refine nw (fun q' a0 a1 => ?_) _ _ _ _ _ _
        have := h4 q' a0 a1
        omega
  have l1 : ∀ k, 0 ≤ k → k ≤ 6 → ∀ s, ((s = 0 ∧ ∀ k', 0 ≤ k' → k' < k → σ 84 (20 + 8 * k' + 6) = -1) ∨ s = 1 ∧ ∃ k, 0 ≤ k ∧ k < 6 ∧ σ 84 (20 + 8 * k + 6) ≠ -1) → ∀ y7 y8 y9 y10 y11 y12 y13 y14, wi (d + 2) 310 6 [.ref 83, .int (wI b0), .int (wI b1), .int (wI b2), .int (wI what), .int (wI s), .int (wI k), y7, y8, y9, y10, y11, y12, y13, y14] [] S σ τ Q := by
    refine lp_up (fun k k0 k1 ih => ?_)
    intro s hs y7 y8 y9 y10 y11 y12 y13 y14
    refine u_310_6 ⟨by omega, ifI (fun e => ?_) (fun e => ?_)⟩
    · refine ⟨p0, ifI (fun e1 => ⟨p1, ifI (fun e2 => ⟨p2, ifI (fun e3 => ⟨p3, ifI (fun e4 => ⟨by omega, ifI (fun e5 => ?_) (fun e5 => ?_)⟩) (fun e4 => no (fun q => by omega))⟩) (fun e3 => no (fun q => by omega))⟩) (fun e2 => no (fun q => by omega))⟩) (fun e1 => no (fun q => by omega))⟩
      · rcases hs with hs | hs
        · refine no ?_
          rintro ⟨_, _, _, _, k', h1, h2, h3⟩
          exact h3 (hs.2 k' h1 (by omega))
        · omega
      · rcases hs with hs | hs
        · omega
        · exact L ⟨e1, e2, e3, e4, hs.2⟩ 0 (by omega) (by omega) (-1) 0 0 (Or.inl ⟨rfl, rfl⟩) (by omega) _ _ _ _ _ _
    · have ih := ih (by omega)
      have jk := (p4 k k0 (by omega)).2.2.2.2.2.1
      refine ⟨by omega, ifI (fun e1 => ⟨by omega, ifI (fun e2 => ?_) (fun e2 => ?_)⟩) (fun e1 => ?_)⟩
      · refine ih 0 (Or.inl ⟨rfl, fun k' h1 h2 => ?_⟩) _ _ _ _ _ _ _ _
        rcases hs with hs | hs
        · by_cases c : k' = k
          · subst c; omega
          · exact hs.2 k' h1 (by omega)
        · omega
      · exact ih 1 (Or.inr ⟨rfl, k, k0, by omega, by omega⟩) _ _ _ _ _ _ _ _
      · refine ih 1 (Or.inr ⟨rfl, ?_⟩) _ _ _ _ _ _ _ _
        rcases hs with hs | hs
        · omega
        · exact hs.2
  exact l1 0 (by omega) (by omega) 0 (Or.inl ⟨rfl, fun k' h1 h2 => by omega⟩) _ _ _ _ _ _ _ _
-- method 26: MillTown$ListMaker.fact(I)I
theorem c_26_0 : pg_cd 26 0 = (3, 1, 0, 1, 0) := by decide +kernel
theorem c_26_1 : pg_cd 26 1 = (36, 3, 0, 2, 21) := by decide +kernel
theorem c_26_4 : pg_cd 26 4 = (3, 1, 0, 1, 0) := by decide +kernel
theorem c_26_5 : pg_cd 26 5 = (5, 1, 0, 0, 0) := by decide +kernel
theorem c_26_6 : pg_cd 26 6 = (45, 2, 9, 0, 0) := by decide +kernel
theorem c_26_9 : pg_cd 26 9 = (58, 0, 0, 0, 0) := by decide +kernel
theorem c_26_10 : pg_cd 26 10 = (37, 3, 0, 3, 12) := by decide +kernel
theorem c_26_13 : pg_cd 26 13 = (5, 1, 0, 0, 0) := by decide +kernel
theorem c_26_14 : pg_cd 26 14 = (45, 2, 9, 0, 0) := by decide +kernel
theorem c_26_17 : pg_cd 26 17 = (3, 1, 0, 1, 0) := by decide +kernel
theorem c_26_18 : pg_cd 26 18 = (50, 1, 0, 0, 0) := by decide +kernel
theorem c_26_19 : pg_cd 26 19 = (38, 3, 0, 0, 4) := by decide +kernel
theorem c_26_22 : pg_cd 26 22 = (1, 1, 0, 0, (-1)) := by decide +kernel
theorem c_26_23 : pg_cd 26 23 = (90, 0, 0, 0, 0) := by decide +kernel
theorem mi_26 : pg_mc 26 = 2 ∧ pg_na 26 = 1 ∧ pg_mx 26 = 2 := by decide +kernel
set_option maxRecDepth 20000 in
theorem u_26_0 {d : Nat} {S : zS} {σ τ : zI} {Q : zQ} {x1 : Int} (t : (rg x1) ∧ if x1 < 0 then (Q (some (.int (wI (-1)))) S σ τ) else (if (4 : Int) ≤ x1 then (Q (some (.int (wI (-1)))) S σ τ) else ((0 ≤ x1 ∧ x1 < 4) ∧ Q (some (.int (wI (σ 78 x1)))) S σ τ))) : wi (d + 0) 26 0 [.ref 77, .int (wI x1)] [] S σ τ Q := by
  obtain ⟨r1, t⟩ := t
  refine i3 c_26_0 rfl ?_
  refine i36 c_26_1 r1 rfl (fun hc => ?_) (fun hc => ?_)
  · have t := iT t hc
    have ha2 : x1 < 0 := hc
    refine i1 c_26_22 ?_
    exact i90 c_26_23 t
  · have t := iF t hc
    have ha2 : ¬ (x1 < 0) := hc
    refine i3 c_26_4 rfl (i5 c_26_5 rfl (i45 c_26_6 (lo (c := 77) (kd := 102) (n := 0) rfl (by decide)) (lro (c := 77) (k := 0) (j := 78) (by decide)) (i58 (v := 4) c_26_9 (lo (c := 78) (kd := 0) (n := 4) rfl (by decide)) rfl ?_)))
    refine i37 c_26_10 r1 (by decide) rfl (fun hc => ?_) (fun hc => ?_)
    · have t := iT t hc
      have ha3 : (4 : Int) ≤ x1 := hc
      refine i1 c_26_22 ?_
      exact i90 c_26_23 t
    · have t := iF t hc
      have ha3 : ¬ ((4 : Int) ≤ x1) := hc
      obtain ⟨r4, t⟩ := t
      refine i5 c_26_13 rfl (i45 c_26_14 (lo (c := 77) (kd := 102) (n := 0) rfl (by decide)) (lro (c := 77) (k := 0) (j := 78) (by decide)) (i3 c_26_17 rfl (wi_ok (fun K5 => ?_))))
      refine i50 (v := σ 78 x1) c_26_18 (lo (c := 78) (kd := 0) (n := 4) rfl (by decide)) (by decide) r4 rfl (i38 c_26_19 rfl ?_)
      exact i90 c_26_23 t
theorem q_26 {d : Nat} {S : zS} {σ τ : zI} {Q : zQ} {what : Int} (p0 : 0 ≤ what ∧ what ≤ 3) (t : Q (some (.int (wI (σ 78 what)))) S σ τ) : wc (d + 0) 26 [.ref 77, .int (wI what)] S σ τ Q := by
  refine wc_of mi_26 rfl (u_26_0 ⟨by omega, ?_⟩)
  rw [if_neg (by omega), if_neg (by omega)]
  exact ⟨by omega, t⟩
-- method 28: MillTown$ListMaker.partOf(LMillTown$Rows;III)I
theorem c_28_0 : pg_cd 28 0 = (3, 1, 0, 2, 0) := by decide +kernel
theorem c_28_1 : pg_cd 28 1 = (5, 1, 0, 0, 0) := by decide +kernel
theorem c_28_2 : pg_cd 28 2 = (3, 1, 0, 1, 0) := by decide +kernel
theorem c_28_3 : pg_cd 28 3 = (1, 1, 0, 0, 0) := by decide +kernel
theorem c_28_4 : pg_cd 28 4 = (80, 55, 21, 0, 0) := by decide +kernel
theorem c_28_7 : pg_cd 28 7 = (12, 1, 0, 0, 0) := by decide +kernel
theorem c_28_8 : pg_cd 28 8 = (3, 1, 0, 3, 0) := by decide +kernel
theorem c_28_9 : pg_cd 28 9 = (5, 1, 0, 0, 0) := by decide +kernel
theorem c_28_10 : pg_cd 28 10 = (3, 1, 0, 1, 0) := by decide +kernel
theorem c_28_11 : pg_cd 28 11 = (1, 1, 0, 0, 1) := by decide +kernel
theorem c_28_12 : pg_cd 28 12 = (80, 55, 21, 0, 0) := by decide +kernel
theorem c_28_15 : pg_cd 28 15 = (12, 1, 0, 0, 0) := by decide +kernel
theorem c_28_16 : pg_cd 28 16 = (10, 1, 0, 0, 0) := by decide +kernel
theorem c_28_17 : pg_cd 28 17 = (1, 2, 0, 0, 10) := by decide +kernel
theorem c_28_19 : pg_cd 28 19 = (16, 1, 0, 0, 0) := by decide +kernel
theorem c_28_20 : pg_cd 28 20 = (90, 0, 0, 0, 0) := by decide +kernel
theorem mi_28 : pg_mc 28 = 2 ∧ pg_na 28 = 4 ∧ pg_mx 28 = 4 := by decide +kernel
set_option maxRecDepth 20000 in
theorem u_28_0 {d : Nat} {S : zS} {σ τ : zI} {Q : zQ} {x0 : Nat} {x1 : Int} {x2 : Int} {x3 : Int} (hx0 : tw x0) (t : (rg x1) ∧ (rg ((x2 * (rt_ (σ (x0 + 1) 2) (σ (x0 + 2)) 6 0 x1)) + (x3 * (rt_ (σ (x0 + 1) 2) (σ (x0 + 2)) 6 1 x1)))) ∧ Q (some (.int (wI (Int.tdiv ((x2 * (rt_ (σ (x0 + 1) 2) (σ (x0 + 2)) 6 0 x1)) + (x3 * (rt_ (σ (x0 + 1) 2) (σ (x0 + 2)) 6 1 x1))) 10)))) S σ τ) : wi (d + 1) 28 0 [.ref (x0 + 1), .int (wI x1), .int (wI x2), .int (wI x3)] [] S σ τ Q := by
  obtain ⟨r1, t⟩ := t
  refine i3 c_28_0 rfl (i5 c_28_1 rfl (i3 c_28_2 rfl (i1 c_28_3 (wi_ok (fun K2 => ?_)))))
  refine i80 (As := [.int (wI x1), .int (wI 0)]) (rest := [.int (wI x2)]) c_28_4 mi_55 rfl rfl (Nat.le_of_ble_eq_true rfl) (Nat.le_of_ble_eq_true rfl) (lo (lyt_1 hx0) (by have := tw_b hx0; omega)) (q_at (ow_kinds hx0) r1 (by decide) ?_)
  show wi (d + 1) 28 7 [.ref (x0 + 1), .int (wI x1), .int (wI x2), .int (wI x3)] [.int (wI (rt_ (σ (x0 + 1) 2) (σ (x0 + 2)) 6 0 x1)), .int (wI x2)] S σ τ Q
  refine i12 c_28_7 (i3 c_28_8 rfl (i5 c_28_9 rfl (i3 c_28_10 rfl (i1 c_28_11 ?_))))
  refine i80 (As := [.int (wI x1), .int (wI 1)]) (rest := [.int (wI x3), .int (wI (x2 * (rt_ (σ (x0 + 1) 2) (σ (x0 + 2)) 6 0 x1)))]) c_28_12 mi_55 rfl rfl (Nat.le_of_ble_eq_true rfl) (Nat.le_of_ble_eq_true rfl) (lo (lyt_1 hx0) (by have := tw_b hx0; omega)) (q_at (ow_kinds hx0) r1 (by decide) ?_)
  show wi (d + 1) 28 15 [.ref (x0 + 1), .int (wI x1), .int (wI x2), .int (wI x3)] [.int (wI (rt_ (σ (x0 + 1) 2) (σ (x0 + 2)) 6 1 x1)), .int (wI x3), .int (wI (x2 * (rt_ (σ (x0 + 1) 2) (σ (x0 + 2)) 6 0 x1)))] S σ τ Q
  obtain ⟨r3, t⟩ := t
  refine i12 c_28_15 (i10 c_28_16 (i1 c_28_17 (i16 c_28_19 r3 (by decide) (by decide) ?_)))
  exact i90 c_28_20 t
theorem q_28 {d : Nat} {S : zS} {σ τ : zI} {Q : zQ} {tn : Nat} {k : Int} {x : Int} {y : Int} {a : Int → Int} (htn : tw tn) (p0 : RT σ tn a) (p1 : jv_K a) (p2 : 0 ≤ k ∧ k ≤ (5 : Int)) (p3 : 0 ≤ x ∧ x ≤ (40 : Int)) (p4 : 0 ≤ y ∧ y ≤ (40 : Int)) (t : ∀ (v : Int), v = r_prt a k x y → 0 ≤ v ∧ v ≤ 1040 → Q (some (.int (wI v))) S σ τ) : wc (d + 1) 28 [.ref (tn + 1), .int (wI k), .int (wI x), .int (wI y)] S σ τ Q := by
  have b := r_prt_b p1 p2 p3 p4
  refine wc_of mi_28 rfl (u_28_0 htn ?_)
  rw [vK0 p0 p2, vK1 p0 p2]
  exact ⟨by omega, by omega, t _ rfl b.2⟩
-- method 29: MillTown$ListMaker.lackOf(LMillTown$Rows;II)I
theorem c_29_0 : pg_cd 29 0 = (1, 1, 0, 0, 0) := by decide +kernel
theorem c_29_1 : pg_cd 29 1 = (6, 1, 0, 3, 0) := by decide +kernel
theorem c_29_2 : pg_cd 29 2 = (1, 1, 0, 0, 0) := by decide +kernel
theorem c_29_3 : pg_cd 29 3 = (6, 2, 0, 4, 0) := by decide +kernel
theorem c_29_5 : pg_cd 29 5 = (3, 2, 0, 4, 0) := by decide +kernel
theorem c_29_7 : pg_cd 29 7 = (5, 1, 0, 0, 0) := by decide +kernel
theorem c_29_8 : pg_cd 29 8 = (43, 4, 15, 2, 0) := by decide +kernel
theorem c_29_11 : pg_cd 29 11 = (37, 3, 0, 3, 42) := by decide +kernel
theorem c_29_14 : pg_cd 29 14 = (5, 1, 0, 0, 0) := by decide +kernel
theorem c_29_15 : pg_cd 29 15 = (3, 2, 0, 4, 0) := by decide +kernel
theorem c_29_17 : pg_cd 29 17 = (1, 1, 0, 0, 5) := by decide +kernel
theorem c_29_18 : pg_cd 29 18 = (80, 55, 21, 0, 0) := by decide +kernel
theorem c_29_21 : pg_cd 29 21 = (6, 2, 0, 5, 0) := by decide +kernel
theorem c_29_23 : pg_cd 29 23 = (3, 1, 0, 3, 0) := by decide +kernel
theorem c_29_24 : pg_cd 29 24 = (3, 2, 0, 5, 0) := by decide +kernel
theorem c_29_26 : pg_cd 29 26 = (1, 1, 0, 0, (-1)) := by decide +kernel
theorem c_29_27 : pg_cd 29 27 = (37, 3, 0, 1, 7) := by decide +kernel
theorem c_29_30 : pg_cd 29 30 = (1, 1, 0, 0, 0) := by decide +kernel
theorem c_29_31 : pg_cd 29 31 = (38, 3, 0, 0, 14) := by decide +kernel
theorem c_29_34 : pg_cd 29 34 = (3, 2, 0, 5, 0) := by decide +kernel
theorem c_29_36 : pg_cd 29 36 = (5, 1, 0, 0, 0) := by decide +kernel
theorem c_29_37 : pg_cd 29 37 = (3, 2, 0, 4, 0) := by decide +kernel
theorem c_29_39 : pg_cd 29 39 = (3, 1, 0, 1, 0) := by decide +kernel
theorem c_29_40 : pg_cd 29 40 = (3, 1, 0, 2, 0) := by decide +kernel
theorem c_29_41 : pg_cd 29 41 = (81, 28, 48, 0, 0) := by decide +kernel
theorem c_29_44 : pg_cd 29 44 = (11, 1, 0, 0, 0) := by decide +kernel
theorem c_29_45 : pg_cd 29 45 = (10, 1, 0, 0, 0) := by decide +kernel
theorem c_29_46 : pg_cd 29 46 = (6, 1, 0, 3, 0) := by decide +kernel
theorem c_29_47 : pg_cd 29 47 = (9, 3, 0, 4, 1) := by decide +kernel
theorem c_29_50 : pg_cd 29 50 = (38, 3, 0, 0, (-45)) := by decide +kernel
theorem c_29_53 : pg_cd 29 53 = (3, 1, 0, 3, 0) := by decide +kernel
theorem c_29_54 : pg_cd 29 54 = (90, 0, 0, 0, 0) := by decide +kernel
theorem mi_29 : pg_mc 29 = 2 ∧ pg_na 29 = 3 ∧ pg_mx 29 = 6 := by decide +kernel
set_option maxRecDepth 20000 in
theorem u_29_0 {d : Nat} {S : zS} {σ τ : zI} {Q : zQ} {x0 : Nat} {x1 : Int} {x2 : Int} (hx0 : tw x0) (t : wi (d + 2) 29 5 [.ref (x0 + 1), .int (wI x1), .int (wI x2), .int (wI 0), .int (wI 0), .retAddr 0] [] S σ τ Q) : wi (d + 2) 29 0 [.ref (x0 + 1), .int (wI x1), .int (wI x2), .retAddr 0, .retAddr 0, .retAddr 0] [] S σ τ Q := by
  refine i1 c_29_0 (i6 (L' := [.ref (x0 + 1), .int (wI x1), .int (wI x2), .int (wI 0), .retAddr 0, .retAddr 0]) c_29_1 rfl (i1 c_29_2 (i6 (L' := [.ref (x0 + 1), .int (wI x1), .int (wI x2), .int (wI 0), .int (wI 0), .retAddr 0]) c_29_3 rfl t)))
set_option maxRecDepth 20000 in
theorem u_29_5 {d : Nat} {S : zS} {σ τ : zI} {Q : zQ} {x0 : Nat} {x1 : Int} {x2 : Int} {x3 : Int} {x4 : Int} {y5 : Value} (hx0 : tw x0) (t : (rg x4) ∧ if (σ (x0 + 1) 2) ≤ x4 then (Q (some (.int (wI x3))) S σ τ) else (if (rt_ (σ (x0 + 1) 2) (σ (x0 + 2)) 6 5 x4) = (-1) then (wi (d + 2) 29 5 [.ref (x0 + 1), .int (wI x1), .int (wI x2), .int (wI (x3 + 0)), .int (wI (x4 + 1)), .int (wI (rt_ (σ (x0 + 1) 2) (σ (x0 + 2)) 6 5 x4))] [] S σ τ Q) else (∃ a5 : Int → Int, (RT σ x0 a5) ∧ (jv_K a5) ∧ (0 ≤ x4 ∧ x4 ≤ (5 : Int)) ∧ (0 ≤ x1 ∧ x1 ≤ (40 : Int)) ∧ (0 ≤ x2 ∧ x2 ≤ (40 : Int)) ∧ ∀ (v11 : Int), v11 = r_prt a5 x4 x1 x2 → 0 ≤ v11 ∧ v11 ≤ 1040 → wi (d + 2) 29 5 [.ref (x0 + 1), .int (wI x1), .int (wI x2), .int (wI (x3 + ((rt_ (σ (x0 + 1) 2) (σ (x0 + 2)) 6 5 x4) - v11))), .int (wI (x4 + 1)), .int (wI (rt_ (σ (x0 + 1) 2) (σ (x0 + 2)) 6 5 x4))] [] S σ τ Q))) : wi (d + 2) 29 5 [.ref (x0 + 1), .int (wI x1), .int (wI x2), .int (wI x3), .int (wI x4), y5] [] S σ τ Q := by
  refine i3 c_29_5 rfl (i5 c_29_7 rfl (wi_ok (fun K1 => ?_)))
  obtain ⟨r2, t⟩ := t
  refine i43 (v := σ (x0 + 1) 2) c_29_8 (lo (lyt_1 hx0) (by have := tw_b hx0; omega)) rfl ?_
  refine i37 c_29_11 r2 (rge_ K1 rfl) rfl (fun hc => ?_) (fun hc => ?_)
  · have t := iT t hc
    have ha3 : (σ (x0 + 1) 2) ≤ x4 := hc
    refine i3 c_29_53 rfl ?_
    exact i90 c_29_54 t
  · have t := iF t hc
    have ha3 : ¬ ((σ (x0 + 1) 2) ≤ x4) := hc
    refine i5 c_29_14 rfl (i3 c_29_15 rfl (i1 c_29_17 ?_))
    refine i80 (As := [.int (wI x4), .int (wI 5)]) (rest := []) c_29_18 mi_55 rfl rfl (Nat.le_of_ble_eq_true rfl) (Nat.le_of_ble_eq_true rfl) (lo (lyt_1 hx0) (by have := tw_b hx0; omega)) (q_at (ow_kinds hx0) r2 (by decide) ?_)
    show wi (d + 2) 29 21 [.ref (x0 + 1), .int (wI x1), .int (wI x2), .int (wI x3), .int (wI x4), y5] [.int (wI (rt_ (σ (x0 + 1) 2) (σ (x0 + 2)) 6 5 x4))] S σ τ Q
    refine i6 (L' := [.ref (x0 + 1), .int (wI x1), .int (wI x2), .int (wI x3), .int (wI x4), .int (wI (rt_ (σ (x0 + 1) 2) (σ (x0 + 2)) 6 5 x4))]) c_29_21 rfl (i3 c_29_23 rfl (i3 c_29_24 rfl (i1 c_29_26 ?_)))
    refine i37 c_29_27 (rg_rt_ (fun k => kO_r K1 _ k) _ _ _ _) (by decide) rfl (fun hc => ?_) (fun hc => ?_)
    · have t := iF t hc
      have ha4 : ¬ ((rt_ (σ (x0 + 1) 2) (σ (x0 + 2)) 6 5 x4) = (-1)) := hc
      obtain ⟨a5, t⟩ := t
      obtain ⟨p6, t⟩ := t
      obtain ⟨p7, t⟩ := t
      obtain ⟨p8, t⟩ := t
      obtain ⟨p9, t⟩ := t
      obtain ⟨p10, t⟩ := t
      refine i3 c_29_34 rfl (i5 c_29_36 rfl (i3 c_29_37 rfl (i3 c_29_39 rfl (i3 c_29_40 rfl ?_))))
      refine i81 (As := [.ref (x0 + 1), .int (wI x4), .int (wI x1), .int (wI x2)]) (rest := [.int (wI (rt_ (σ (x0 + 1) 2) (σ (x0 + 2)) 6 5 x4)), .int (wI x3)]) c_29_41 mi_28 rfl rfl (Nat.le_of_ble_eq_true rfl) (Nat.le_of_ble_eq_true rfl) (q_28 (a := a5) hx0 p6 p7 p8 p9 p10 (fun v11 q12 q13 => ?_))
      have t := t v11 q12 q13
      show wi (d + 2) 29 44 [.ref (x0 + 1), .int (wI x1), .int (wI x2), .int (wI x3), .int (wI x4), .int (wI (rt_ (σ (x0 + 1) 2) (σ (x0 + 2)) 6 5 x4))] [.int (wI v11), .int (wI (rt_ (σ (x0 + 1) 2) (σ (x0 + 2)) 6 5 x4)), .int (wI x3)] S σ τ Q
      refine i11 c_29_44 (i10 c_29_45 (i6 (L' := [.ref (x0 + 1), .int (wI x1), .int (wI x2), .int (wI (x3 + ((rt_ (σ (x0 + 1) 2) (σ (x0 + 2)) 6 5 x4) - v11))), .int (wI x4), .int (wI (rt_ (σ (x0 + 1) 2) (σ (x0 + 2)) 6 5 x4))]) c_29_46 rfl (i9 (L' := [.ref (x0 + 1), .int (wI x1), .int (wI x2), .int (wI (x3 + ((rt_ (σ (x0 + 1) 2) (σ (x0 + 2)) 6 5 x4) - v11))), .int (wI (x4 + 1)), .int (wI (rt_ (σ (x0 + 1) 2) (σ (x0 + 2)) 6 5 x4))]) c_29_47 rfl rfl (i38 c_29_50 rfl t))))
    · have t := iT t (Decidable.not_not.mp hc)
      have ha4 : (rt_ (σ (x0 + 1) 2) (σ (x0 + 2)) 6 5 x4) = (-1) := Decidable.not_not.mp hc
      refine i1 c_29_30 (i38 c_29_31 rfl (i10 c_29_45 (i6 (L' := [.ref (x0 + 1), .int (wI x1), .int (wI x2), .int (wI (x3 + 0)), .int (wI x4), .int (wI (rt_ (σ (x0 + 1) 2) (σ (x0 + 2)) 6 5 x4))]) c_29_46 rfl (i9 (L' := [.ref (x0 + 1), .int (wI x1), .int (wI x2), .int (wI (x3 + 0)), .int (wI (x4 + 1)), .int (wI (rt_ (σ (x0 + 1) 2) (σ (x0 + 2)) 6 5 x4))]) c_29_47 rfl rfl (i38 c_29_50 rfl t)))))
theorem q_29 {d : Nat} {S : zS} {σ τ : zI} {Q : zQ} {tn : Nat} {x : Int} {y : Int} {a : Int → Int} (htn : tw tn) (p0 : RT σ tn a) (p1 : jv_K a) (p2 : 0 ≤ x ∧ x ≤ (40 : Int)) (p3 : 0 ≤ y ∧ y ≤ (40 : Int)) (t : ∀ (v : Int), v = r_lk a x y 6 → -7000 ≤ v ∧ v ≤ 60000 → Q (some (.int (wI v))) S σ τ) : wc (d + 2) 29 [.ref (tn + 1), .int (wI x), .int (wI y)] S σ τ Q := by
  have cn := cK p0
  refine wc_of mi_29 rfl (u_29_0 htn ?_)
  have t := t (r_lk a x y 6) rfl (by
    have := sI_b (f := fun k => if a (20 + 8 * k + 6) = -1 then 0 else a (20 + 8 * k + 6) - r_prt a k x y) (n := 6) (lo := -1040) (hi := 10000) (by omega) (fun k k0 k1 => by
      have q := (p1 k k0 (by omega)).2.2.2.2.2.1
      have b := r_prt_b p1 (k := k) (by omega) p2 p3
      try dsimp only
      split <;> omega)
    unfold r_lk
    omega)
  have key : ∀ k, 0 ≤ k → k ≤ 6 → ∀ s, s = r_lk a x y k → ∀ y5, wi (d + 2) 29 5 [.ref (tn + 1), .int (wI x), .int (wI y), .int (wI s), .int (wI k), y5] [] S σ τ Q := by
    refine lp_up (fun k k0 k1 ih => ?_)
    intro s hs y5
    refine u_29_5 htn ?_
    rw [cn]
    refine ⟨by omega, ifI (fun e => ?_) (fun e => ?_)⟩
    · have : k = 6 := by omega
      subst this
      rw [hs]; exact t
    · have ih := ih (by omega)
      unfold r_lk at ih hs
      rw [sI_s k0, ← hs] at ih
      have v5 := vK5 p0 (r := k) (by omega)
      rw [cn] at v5
      rw [v5]
      refine ifI (fun c => ?_) (fun c => ?_)
      · rw [if_pos c] at ih; exact ih _ rfl _
      · rw [if_neg c] at ih
        refine ⟨a, p0, p1, by omega, p2, p3, fun v hv _ => ?_⟩
        rw [hv]
        exact ih _ rfl _
  exact key 0 (by omega) (by omega) 0 rfl _
-- method 31: MillTown$ListMaker.isBetter(IIIII)Z
theorem c_31_0 : pg_cd 31 0 = (5, 1, 0, 0, 0) := by decide +kernel
theorem c_31_1 : pg_cd 31 1 = (45, 2, 9, 0, 0) := by decide +kernel
theorem c_31_4 : pg_cd 31 4 = (1, 1, 0, 0, 3) := by decide +kernel
theorem c_31_5 : pg_cd 31 5 = (50, 1, 0, 0, 0) := by decide +kernel
theorem c_31_6 : pg_cd 31 6 = (1, 1, 0, 0, (-1)) := by decide +kernel
theorem c_31_7 : pg_cd 31 7 = (37, 3, 0, 0, 13) := by decide +kernel
theorem c_31_10 : pg_cd 31 10 = (3, 1, 0, 1, 0) := by decide +kernel
theorem c_31_11 : pg_cd 31 11 = (5, 1, 0, 0, 0) := by decide +kernel
theorem c_31_12 : pg_cd 31 12 = (45, 2, 9, 0, 0) := by decide +kernel
theorem c_31_15 : pg_cd 31 15 = (1, 1, 0, 0, 3) := by decide +kernel
theorem c_31_16 : pg_cd 31 16 = (50, 1, 0, 0, 0) := by decide +kernel
theorem c_31_17 : pg_cd 31 17 = (37, 3, 0, 0, 29) := by decide +kernel
theorem c_31_20 : pg_cd 31 20 = (5, 1, 0, 0, 0) := by decide +kernel
theorem c_31_21 : pg_cd 31 21 = (45, 2, 9, 0, 0) := by decide +kernel
theorem c_31_24 : pg_cd 31 24 = (1, 1, 0, 0, 3) := by decide +kernel
theorem c_31_25 : pg_cd 31 25 = (50, 1, 0, 0, 0) := by decide +kernel
theorem c_31_26 : pg_cd 31 26 = (1, 1, 0, 0, (-1)) := by decide +kernel
theorem c_31_27 : pg_cd 31 27 = (37, 3, 0, 0, 13) := by decide +kernel
theorem c_31_30 : pg_cd 31 30 = (3, 1, 0, 1, 0) := by decide +kernel
theorem c_31_31 : pg_cd 31 31 = (5, 1, 0, 0, 0) := by decide +kernel
theorem c_31_32 : pg_cd 31 32 = (45, 2, 9, 0, 0) := by decide +kernel
theorem c_31_35 : pg_cd 31 35 = (1, 1, 0, 0, 3) := by decide +kernel
theorem c_31_36 : pg_cd 31 36 = (50, 1, 0, 0, 0) := by decide +kernel
theorem c_31_37 : pg_cd 31 37 = (37, 3, 0, 3, 7) := by decide +kernel
theorem c_31_40 : pg_cd 31 40 = (1, 1, 0, 0, 1) := by decide +kernel
theorem c_31_41 : pg_cd 31 41 = (38, 3, 0, 0, 4) := by decide +kernel
theorem c_31_44 : pg_cd 31 44 = (1, 1, 0, 0, 0) := by decide +kernel
theorem c_31_45 : pg_cd 31 45 = (91, 0, 0, 0, 0) := by decide +kernel
theorem c_31_46 : pg_cd 31 46 = (3, 1, 0, 2, 0) := by decide +kernel
theorem c_31_47 : pg_cd 31 47 = (5, 1, 0, 0, 0) := by decide +kernel
theorem c_31_48 : pg_cd 31 48 = (43, 2, 56, 1, 0) := by decide +kernel
theorem c_31_51 : pg_cd 31 51 = (37, 3, 0, 0, 17) := by decide +kernel
theorem c_31_54 : pg_cd 31 54 = (3, 1, 0, 2, 0) := by decide +kernel
theorem c_31_55 : pg_cd 31 55 = (5, 1, 0, 0, 0) := by decide +kernel
theorem c_31_56 : pg_cd 31 56 = (43, 2, 56, 1, 0) := by decide +kernel
theorem c_31_59 : pg_cd 31 59 = (37, 3, 0, 3, 7) := by decide +kernel
theorem c_31_62 : pg_cd 31 62 = (1, 1, 0, 0, 1) := by decide +kernel
theorem c_31_63 : pg_cd 31 63 = (38, 3, 0, 0, 4) := by decide +kernel
theorem c_31_66 : pg_cd 31 66 = (1, 1, 0, 0, 0) := by decide +kernel
theorem c_31_67 : pg_cd 31 67 = (91, 0, 0, 0, 0) := by decide +kernel
theorem c_31_68 : pg_cd 31 68 = (3, 1, 0, 3, 0) := by decide +kernel
theorem c_31_69 : pg_cd 31 69 = (5, 1, 0, 0, 0) := by decide +kernel
theorem c_31_70 : pg_cd 31 70 = (45, 2, 9, 0, 0) := by decide +kernel
theorem c_31_73 : pg_cd 31 73 = (1, 1, 0, 0, 0) := by decide +kernel
theorem c_31_74 : pg_cd 31 74 = (50, 1, 0, 0, 0) := by decide +kernel
theorem c_31_75 : pg_cd 31 75 = (37, 3, 0, 0, 19) := by decide +kernel
theorem c_31_78 : pg_cd 31 78 = (3, 1, 0, 3, 0) := by decide +kernel
theorem c_31_79 : pg_cd 31 79 = (5, 1, 0, 0, 0) := by decide +kernel
theorem c_31_80 : pg_cd 31 80 = (45, 2, 9, 0, 0) := by decide +kernel
theorem c_31_83 : pg_cd 31 83 = (1, 1, 0, 0, 0) := by decide +kernel
theorem c_31_84 : pg_cd 31 84 = (50, 1, 0, 0, 0) := by decide +kernel
theorem c_31_85 : pg_cd 31 85 = (37, 3, 0, 3, 7) := by decide +kernel
theorem c_31_88 : pg_cd 31 88 = (1, 1, 0, 0, 1) := by decide +kernel
theorem c_31_89 : pg_cd 31 89 = (38, 3, 0, 0, 4) := by decide +kernel
theorem c_31_92 : pg_cd 31 92 = (1, 1, 0, 0, 0) := by decide +kernel
theorem c_31_93 : pg_cd 31 93 = (91, 0, 0, 0, 0) := by decide +kernel
theorem c_31_94 : pg_cd 31 94 = (3, 2, 0, 4, 0) := by decide +kernel
theorem c_31_96 : pg_cd 31 96 = (5, 1, 0, 0, 0) := by decide +kernel
theorem c_31_97 : pg_cd 31 97 = (45, 2, 9, 0, 0) := by decide +kernel
theorem c_31_100 : pg_cd 31 100 = (1, 1, 0, 0, 1) := by decide +kernel
theorem c_31_101 : pg_cd 31 101 = (50, 1, 0, 0, 0) := by decide +kernel
theorem c_31_102 : pg_cd 31 102 = (37, 3, 0, 0, 22) := by decide +kernel
theorem c_31_105 : pg_cd 31 105 = (3, 2, 0, 4, 0) := by decide +kernel
theorem c_31_107 : pg_cd 31 107 = (5, 1, 0, 0, 0) := by decide +kernel
theorem c_31_108 : pg_cd 31 108 = (45, 2, 9, 0, 0) := by decide +kernel
theorem c_31_111 : pg_cd 31 111 = (1, 1, 0, 0, 1) := by decide +kernel
theorem c_31_112 : pg_cd 31 112 = (50, 1, 0, 0, 0) := by decide +kernel
theorem c_31_113 : pg_cd 31 113 = (37, 3, 0, 3, 7) := by decide +kernel
theorem c_31_116 : pg_cd 31 116 = (1, 1, 0, 0, 1) := by decide +kernel
theorem c_31_117 : pg_cd 31 117 = (38, 3, 0, 0, 23) := by decide +kernel
theorem c_31_120 : pg_cd 31 120 = (1, 1, 0, 0, 0) := by decide +kernel
theorem c_31_121 : pg_cd 31 121 = (38, 3, 0, 0, 19) := by decide +kernel
theorem c_31_124 : pg_cd 31 124 = (3, 2, 0, 5, 0) := by decide +kernel
theorem c_31_126 : pg_cd 31 126 = (5, 1, 0, 0, 0) := by decide +kernel
theorem c_31_127 : pg_cd 31 127 = (45, 2, 9, 0, 0) := by decide +kernel
theorem c_31_130 : pg_cd 31 130 = (1, 1, 0, 0, 2) := by decide +kernel
theorem c_31_131 : pg_cd 31 131 = (50, 1, 0, 0, 0) := by decide +kernel
theorem c_31_132 : pg_cd 31 132 = (37, 3, 0, 3, 7) := by decide +kernel
theorem c_31_135 : pg_cd 31 135 = (1, 1, 0, 0, 1) := by decide +kernel
theorem c_31_136 : pg_cd 31 136 = (38, 3, 0, 0, 4) := by decide +kernel
theorem c_31_139 : pg_cd 31 139 = (1, 1, 0, 0, 0) := by decide +kernel
theorem c_31_140 : pg_cd 31 140 = (91, 0, 0, 0, 0) := by decide +kernel
theorem mi_31 : pg_mc 31 = 2 ∧ pg_na 31 = 5 ∧ pg_mx 31 = 6 := by decide +kernel
set_option maxRecDepth 20000 in
theorem u_31_0 {d : Nat} {S : zS} {σ τ : zI} {Q : zQ} {x1 : Int} {x2 : Int} {x3 : Int} {x4 : Int} {x5 : Int} (t : if (σ 78 3) = (-1) then (Q (some (.int (wI 1))) S σ τ) else ((rg x1) ∧ if x1 = (σ 78 3) then ((rg x2) ∧ if x2 = (σ 77 1) then ((rg x3) ∧ if x3 = (σ 78 0) then ((rg x4) ∧ if x4 = (σ 78 1) then ((rg x5) ∧ if (σ 78 2) ≤ x5 then (Q (some (.int (wI 0))) S σ τ) else (Q (some (.int (wI 1))) S σ τ)) else (if (σ 78 1) ≤ x4 then (Q (some (.int (wI 0))) S σ τ) else (Q (some (.int (wI 1))) S σ τ))) else (if (σ 78 0) ≤ x3 then (Q (some (.int (wI 0))) S σ τ) else (Q (some (.int (wI 1))) S σ τ))) else (if (σ 77 1) ≤ x2 then (Q (some (.int (wI 0))) S σ τ) else (Q (some (.int (wI 1))) S σ τ))) else (if (σ 78 3) ≤ x1 then (Q (some (.int (wI 0))) S σ τ) else (Q (some (.int (wI 1))) S σ τ)))) : wi (d + 0) 31 0 [.ref 77, .int (wI x1), .int (wI x2), .int (wI x3), .int (wI x4), .int (wI x5)] [] S σ τ Q := by
  refine i5 c_31_0 rfl (i45 c_31_1 (lo (c := 77) (kd := 102) (n := 0) rfl (by decide)) (lro (c := 77) (k := 0) (j := 78) (by decide)) (i1 c_31_4 (wi_ok (fun K1 => ?_))))
  refine i50 (v := σ 78 3) c_31_5 (lo (c := 78) (kd := 0) (n := 4) rfl (by decide)) (by decide) (by decide) rfl (i1 c_31_6 ?_)
  refine i37 c_31_7 (rge_ K1 rfl) (by decide) rfl (fun hc => ?_) (fun hc => ?_)
  · have t := iT t hc
    have ha2 : (σ 78 3) = (-1) := hc
    refine i5 c_31_20 rfl (i45 c_31_21 (lo (c := 77) (kd := 102) (n := 0) rfl (by decide)) (lro (c := 77) (k := 0) (j := 78) (by decide)) (i1 c_31_24 (i50 (v := σ 78 3) c_31_25 (lo (c := 78) (kd := 0) (n := 4) rfl (by decide)) (by decide) (by decide) rfl (i1 c_31_26 ?_))))
    refine i37 c_31_27 (rge_ K1 rfl) (by decide) rfl (fun _ => ?_) (fun hc => absurd (show (σ 78 3) = (-1) by omega) hc)
    refine i1 c_31_40 (i38 c_31_41 rfl ?_)
    exact i91 c_31_45 (by decide) t
  · have t := iF t hc
    have ha2 : ¬ ((σ 78 3) = (-1)) := hc
    obtain ⟨r4, t⟩ := t
    refine i3 c_31_10 rfl (i5 c_31_11 rfl (i45 c_31_12 (lo (c := 77) (kd := 102) (n := 0) rfl (by decide)) (lro (c := 77) (k := 0) (j := 78) (by decide)) (i1 c_31_15 (i50 (v := σ 78 3) c_31_16 (lo (c := 78) (kd := 0) (n := 4) rfl (by decide)) (by decide) (by decide) rfl ?_))))
    refine i37 c_31_17 r4 (rge_ K1 rfl) rfl (fun hc => ?_) (fun hc => ?_)
    · have t := iT t hc
      have ha5 : x1 = (σ 78 3) := hc
      obtain ⟨r6, t⟩ := t
      refine i3 c_31_46 rfl (i5 c_31_47 rfl (i43 (v := σ 77 1) c_31_48 (lo (c := 77) (kd := 102) (n := 0) rfl (by decide)) rfl ?_))
      refine i37 c_31_51 r6 (rge_ K1 rfl) rfl (fun hc => ?_) (fun hc => ?_)
      · have t := iT t hc
        have ha7 : x2 = (σ 77 1) := hc
        obtain ⟨r8, t⟩ := t
        refine i3 c_31_68 rfl (i5 c_31_69 rfl (i45 c_31_70 (lo (c := 77) (kd := 102) (n := 0) rfl (by decide)) (lro (c := 77) (k := 0) (j := 78) (by decide)) (i1 c_31_73 (i50 (v := σ 78 0) c_31_74 (lo (c := 78) (kd := 0) (n := 4) rfl (by decide)) (by decide) (by decide) rfl ?_))))
        refine i37 c_31_75 r8 (rge_ K1 rfl) rfl (fun hc => ?_) (fun hc => ?_)
        · have t := iT t hc
          have ha9 : x3 = (σ 78 0) := hc
          obtain ⟨r10, t⟩ := t
          refine i3 c_31_94 rfl (i5 c_31_96 rfl (i45 c_31_97 (lo (c := 77) (kd := 102) (n := 0) rfl (by decide)) (lro (c := 77) (k := 0) (j := 78) (by decide)) (i1 c_31_100 (i50 (v := σ 78 1) c_31_101 (lo (c := 78) (kd := 0) (n := 4) rfl (by decide)) (by decide) (by decide) rfl ?_))))
          refine i37 c_31_102 r10 (rge_ K1 rfl) rfl (fun hc => ?_) (fun hc => ?_)
          · have t := iT t hc
            have ha11 : x4 = (σ 78 1) := hc
            obtain ⟨r12, t⟩ := t
            refine i3 c_31_124 rfl (i5 c_31_126 rfl (i45 c_31_127 (lo (c := 77) (kd := 102) (n := 0) rfl (by decide)) (lro (c := 77) (k := 0) (j := 78) (by decide)) (i1 c_31_130 (i50 (v := σ 78 2) c_31_131 (lo (c := 78) (kd := 0) (n := 4) rfl (by decide)) (by decide) (by decide) rfl ?_))))
            refine i37 c_31_132 r12 (rge_ K1 rfl) rfl (fun hc => ?_) (fun hc => ?_)
            · have t := iT t hc
              have ha13 : (σ 78 2) ≤ x5 := hc
              refine i1 c_31_139 ?_
              exact i91 c_31_140 (by decide) t
            · have t := iF t hc
              have ha13 : ¬ ((σ 78 2) ≤ x5) := hc
              refine i1 c_31_135 (i38 c_31_136 rfl ?_)
              exact i91 c_31_140 (by decide) t
          · have t := iF t hc
            have ha11 : ¬ (x4 = (σ 78 1)) := hc
            refine i3 c_31_105 rfl (i5 c_31_107 rfl (i45 c_31_108 (lo (c := 77) (kd := 102) (n := 0) rfl (by decide)) (lro (c := 77) (k := 0) (j := 78) (by decide)) (i1 c_31_111 (i50 (v := σ 78 1) c_31_112 (lo (c := 78) (kd := 0) (n := 4) rfl (by decide)) (by decide) (by decide) rfl ?_))))
            refine i37 c_31_113 r10 (rge_ K1 rfl) rfl (fun hc => ?_) (fun hc => ?_)
            · have t := iT t hc
              have ha14 : (σ 78 1) ≤ x4 := hc
              refine i1 c_31_120 (i38 c_31_121 rfl ?_)
              exact i91 c_31_140 (by decide) t
            · have t := iF t hc
              have ha14 : ¬ ((σ 78 1) ≤ x4) := hc
              refine i1 c_31_116 (i38 c_31_117 rfl ?_)
              exact i91 c_31_140 (by decide) t
        · have t := iF t hc
          have ha9 : ¬ (x3 = (σ 78 0)) := hc
          refine i3 c_31_78 rfl (i5 c_31_79 rfl (i45 c_31_80 (lo (c := 77) (kd := 102) (n := 0) rfl (by decide)) (lro (c := 77) (k := 0) (j := 78) (by decide)) (i1 c_31_83 (i50 (v := σ 78 0) c_31_84 (lo (c := 78) (kd := 0) (n := 4) rfl (by decide)) (by decide) (by decide) rfl ?_))))
          refine i37 c_31_85 r8 (rge_ K1 rfl) rfl (fun hc => ?_) (fun hc => ?_)
          · have t := iT t hc
            have ha15 : (σ 78 0) ≤ x3 := hc
            refine i1 c_31_92 ?_
            exact i91 c_31_93 (by decide) t
          · have t := iF t hc
            have ha15 : ¬ ((σ 78 0) ≤ x3) := hc
            refine i1 c_31_88 (i38 c_31_89 rfl ?_)
            exact i91 c_31_93 (by decide) t
      · have t := iF t hc
        have ha7 : ¬ (x2 = (σ 77 1)) := hc
        refine i3 c_31_54 rfl (i5 c_31_55 rfl (i43 (v := σ 77 1) c_31_56 (lo (c := 77) (kd := 102) (n := 0) rfl (by decide)) rfl ?_))
        refine i37 c_31_59 r6 (rge_ K1 rfl) rfl (fun hc => ?_) (fun hc => ?_)
        · have t := iT t hc
          have ha16 : (σ 77 1) ≤ x2 := hc
          refine i1 c_31_66 ?_
          exact i91 c_31_67 (by decide) t
        · have t := iF t hc
          have ha16 : ¬ ((σ 77 1) ≤ x2) := hc
          refine i1 c_31_62 (i38 c_31_63 rfl ?_)
          exact i91 c_31_67 (by decide) t
    · have t := iF t hc
      have ha5 : ¬ (x1 = (σ 78 3)) := hc
      refine i5 c_31_20 rfl (i45 c_31_21 (lo (c := 77) (kd := 102) (n := 0) rfl (by decide)) (lro (c := 77) (k := 0) (j := 78) (by decide)) (i1 c_31_24 (i50 (v := σ 78 3) c_31_25 (lo (c := 78) (kd := 0) (n := 4) rfl (by decide)) (by decide) (by decide) rfl (i1 c_31_26 ?_))))
      refine i37 c_31_27 (rge_ K1 rfl) (by decide) rfl (fun hc => absurd hc (show ¬ ((σ 78 3) = (-1)) by omega)) (fun _ => ?_)
      refine i3 c_31_30 rfl (i5 c_31_31 rfl (i45 c_31_32 (lo (c := 77) (kd := 102) (n := 0) rfl (by decide)) (lro (c := 77) (k := 0) (j := 78) (by decide)) (i1 c_31_35 (i50 (v := σ 78 3) c_31_36 (lo (c := 78) (kd := 0) (n := 4) rfl (by decide)) (by decide) (by decide) rfl ?_))))
      refine i37 c_31_37 r4 (rge_ K1 rfl) rfl (fun hc => ?_) (fun hc => ?_)
      · have t := iT t hc
        have ha18 : (σ 78 3) ≤ x1 := hc
        refine i1 c_31_44 ?_
        exact i91 c_31_45 (by decide) t
      · have t := iF t hc
        have ha18 : ¬ ((σ 78 3) ≤ x1) := hc
        refine i1 c_31_40 (i38 c_31_41 rfl ?_)
        exact i91 c_31_45 (by decide) t
theorem q_31 {d : Nat} {S : zS} {σ τ : zI} {Q : zQ} {F : Int} {c : Int} {b : Int} {x : Int} {y : Int} (p0 : rg F) (p1 : rg c) (p2 : rg b) (p3 : rg x) (p4 : rg y) (t : Q (some (.int (wI (if σ 78 3 = -1 ∨ ¬ lx (σ 78 3) (σ 77 1) (σ 78 0) (σ 78 1) (σ 78 2) F c b x y then 1 else 0)))) S σ τ) : wc (d + 0) 31 [.ref 77, .int (wI F), .int (wI c), .int (wI b), .int (wI x), .int (wI y)] S σ τ Q := by
  unfold lx at t
  refine wc_of mi_31 rfl (u_31_0 ?_)
  repeat' (first | (rw [if_pos (by omega)] at t; exact t) | (rw [if_neg (by omega)] at t; exact t) | refine ⟨by omega, ?_⟩ | refine ifI (fun _ => ?_) (fun _ => ?_))
/-- the best of those that were weighed -/
def BE (σ : zI) (a : Int → Int) (b0 b1 b2 : Int) (Cv : Int → Int → Int → Prop) : Prop := (σ 78 3 = -1 ∧ ∀ x y z, ¬ Cv x y z) ∨ ((0 ≤ σ 78 0 ∧ σ 78 0 ≤ 40) ∧ (0 ≤ σ 78 1 ∧ σ 78 1 ≤ 40) ∧ (0 ≤ σ 78 2 ∧ σ 78 2 ≤ 40)) ∧ σ 78 3 = r_sq a (σ 78 0) (σ 78 1) (σ 78 2) ∧ σ 77 1 = r_ch b0 b1 b2 (σ 78 0) (σ 78 1) (σ 78 2) ∧ ∀ x y z, (0 ≤ x ∧ x ≤ 40) → (0 ≤ y ∧ y ≤ 40) → (0 ≤ z ∧ z ≤ 40) → Cv x y z → lx (σ 78 3) (σ 77 1) (σ 78 0) (σ 78 1) (σ 78 2) (r_sq a x y z) (r_ch b0 b1 b2 x y z) x y z
def F77 (σ σ1 : zI) : Prop := ∀ c, c ≠ 77 → c ≠ 78 → σ1 c = σ c
theorem BE_to {σ : zI} {a : Int → Int} {b0 b1 b2 : Int} {C C' : Int → Int → Int → Prop} (h : BE σ a b0 b1 b2 C) (ne : ∀ x y z, C' x y z → ∃ x y z, C x y z) (q : ∀ x y z, (0 ≤ x ∧ x ≤ 40) → (0 ≤ y ∧ y ≤ 40) → (0 ≤ z ∧ z ≤ 40) → C' x y z → C x y z ∨ ∃ x', (0 ≤ x' ∧ x' ≤ 40) ∧ C x' y z ∧ r_sq a x' y z < r_sq a x y z) : BE σ a b0 b1 b2 C' := by
  rcases h with h | ⟨h1, h2, h3, h4⟩
  · refine Or.inl ⟨h.1, fun x y z c => ?_⟩
    obtain ⟨x, y, z, c⟩ := ne x y z c
    exact h.2 x y z c
  · refine Or.inr ⟨h1, h2, h3, fun x y z hx hy hz c => ?_⟩
    rcases q x y z hx hy hz c with c | ⟨x', hx', c, hl⟩
    · exact h4 x y z hx hy hz c
    · exact lx_t (h4 x' y z hx' hy hz c) (Or.inl hl)
-- method 30: MillTown$ListMaker.weigh(LMillTown$Rows;IIII)V
theorem c_30_0 : pg_cd 30 0 = (1, 1, 0, 0, 0) := by decide +kernel
theorem c_30_1 : pg_cd 30 1 = (6, 2, 0, 6, 0) := by decide +kernel
theorem c_30_3 : pg_cd 30 3 = (1, 1, 0, 0, 0) := by decide +kernel
theorem c_30_4 : pg_cd 30 4 = (6, 2, 0, 7, 0) := by decide +kernel
theorem c_30_6 : pg_cd 30 6 = (3, 2, 0, 7, 0) := by decide +kernel
theorem c_30_8 : pg_cd 30 8 = (5, 1, 0, 1, 0) := by decide +kernel
theorem c_30_9 : pg_cd 30 9 = (43, 4, 15, 2, 0) := by decide +kernel
theorem c_30_12 : pg_cd 30 12 = (37, 3, 0, 3, 54) := by decide +kernel
theorem c_30_15 : pg_cd 30 15 = (5, 1, 0, 1, 0) := by decide +kernel
theorem c_30_16 : pg_cd 30 16 = (3, 2, 0, 7, 0) := by decide +kernel
theorem c_30_18 : pg_cd 30 18 = (1, 1, 0, 0, 5) := by decide +kernel
theorem c_30_19 : pg_cd 30 19 = (80, 55, 21, 0, 0) := by decide +kernel
theorem c_30_22 : pg_cd 30 22 = (6, 2, 0, 8, 0) := by decide +kernel
theorem c_30_24 : pg_cd 30 24 = (3, 2, 0, 8, 0) := by decide +kernel
theorem c_30_26 : pg_cd 30 26 = (1, 1, 0, 0, (-1)) := by decide +kernel
theorem c_30_27 : pg_cd 30 27 = (37, 3, 0, 1, 7) := by decide +kernel
theorem c_30_30 : pg_cd 30 30 = (1, 1, 0, 0, 0) := by decide +kernel
theorem c_30_31 : pg_cd 30 31 = (38, 3, 0, 0, 17) := by decide +kernel
theorem c_30_34 : pg_cd 30 34 = (3, 2, 0, 8, 0) := by decide +kernel
theorem c_30_36 : pg_cd 30 36 = (3, 1, 0, 2, 0) := by decide +kernel
theorem c_30_37 : pg_cd 30 37 = (11, 1, 0, 0, 0) := by decide +kernel
theorem c_30_38 : pg_cd 30 38 = (5, 1, 0, 1, 0) := by decide +kernel
theorem c_30_39 : pg_cd 30 39 = (3, 2, 0, 7, 0) := by decide +kernel
theorem c_30_41 : pg_cd 30 41 = (3, 1, 0, 3, 0) := by decide +kernel
theorem c_30_42 : pg_cd 30 42 = (3, 2, 0, 4, 0) := by decide +kernel
theorem c_30_44 : pg_cd 30 44 = (81, 28, 48, 0, 0) := by decide +kernel
theorem c_30_47 : pg_cd 30 47 = (11, 1, 0, 0, 0) := by decide +kernel
theorem c_30_48 : pg_cd 30 48 = (6, 2, 0, 9, 0) := by decide +kernel
theorem c_30_50 : pg_cd 30 50 = (3, 2, 0, 6, 0) := by decide +kernel
theorem c_30_52 : pg_cd 30 52 = (3, 2, 0, 9, 0) := by decide +kernel
theorem c_30_54 : pg_cd 30 54 = (3, 2, 0, 9, 0) := by decide +kernel
theorem c_30_56 : pg_cd 30 56 = (12, 1, 0, 0, 0) := by decide +kernel
theorem c_30_57 : pg_cd 30 57 = (10, 1, 0, 0, 0) := by decide +kernel
theorem c_30_58 : pg_cd 30 58 = (6, 2, 0, 6, 0) := by decide +kernel
theorem c_30_60 : pg_cd 30 60 = (9, 3, 0, 7, 1) := by decide +kernel
theorem c_30_63 : pg_cd 30 63 = (38, 3, 0, 0, (-57)) := by decide +kernel
theorem c_30_66 : pg_cd 30 66 = (5, 1, 0, 0, 0) := by decide +kernel
theorem c_30_67 : pg_cd 30 67 = (3, 2, 0, 6, 0) := by decide +kernel
theorem c_30_69 : pg_cd 30 69 = (3, 2, 0, 5, 0) := by decide +kernel
theorem c_30_71 : pg_cd 30 71 = (3, 1, 0, 2, 0) := by decide +kernel
theorem c_30_72 : pg_cd 30 72 = (3, 1, 0, 3, 0) := by decide +kernel
theorem c_30_73 : pg_cd 30 73 = (3, 2, 0, 4, 0) := by decide +kernel
theorem c_30_75 : pg_cd 30 75 = (80, 31, 52, 0, 0) := by decide +kernel
theorem c_30_78 : pg_cd 30 78 = (36, 3, 0, 0, 39) := by decide +kernel
theorem c_30_81 : pg_cd 30 81 = (5, 1, 0, 0, 0) := by decide +kernel
theorem c_30_82 : pg_cd 30 82 = (45, 2, 9, 0, 0) := by decide +kernel
theorem c_30_85 : pg_cd 30 85 = (1, 1, 0, 0, 0) := by decide +kernel
theorem c_30_86 : pg_cd 30 86 = (3, 1, 0, 2, 0) := by decide +kernel
theorem c_30_87 : pg_cd 30 87 = (54, 1, 0, 0, 0) := by decide +kernel
theorem c_30_88 : pg_cd 30 88 = (5, 1, 0, 0, 0) := by decide +kernel
theorem c_30_89 : pg_cd 30 89 = (45, 2, 9, 0, 0) := by decide +kernel
theorem c_30_92 : pg_cd 30 92 = (1, 1, 0, 0, 1) := by decide +kernel
theorem c_30_93 : pg_cd 30 93 = (3, 1, 0, 3, 0) := by decide +kernel
theorem c_30_94 : pg_cd 30 94 = (54, 1, 0, 0, 0) := by decide +kernel
theorem c_30_95 : pg_cd 30 95 = (5, 1, 0, 0, 0) := by decide +kernel
theorem c_30_96 : pg_cd 30 96 = (45, 2, 9, 0, 0) := by decide +kernel
theorem c_30_99 : pg_cd 30 99 = (1, 1, 0, 0, 2) := by decide +kernel
theorem c_30_100 : pg_cd 30 100 = (3, 2, 0, 4, 0) := by decide +kernel
theorem c_30_102 : pg_cd 30 102 = (54, 1, 0, 0, 0) := by decide +kernel
theorem c_30_103 : pg_cd 30 103 = (5, 1, 0, 0, 0) := by decide +kernel
theorem c_30_104 : pg_cd 30 104 = (45, 2, 9, 0, 0) := by decide +kernel
theorem c_30_107 : pg_cd 30 107 = (1, 1, 0, 0, 3) := by decide +kernel
theorem c_30_108 : pg_cd 30 108 = (3, 2, 0, 6, 0) := by decide +kernel
theorem c_30_110 : pg_cd 30 110 = (54, 1, 0, 0, 0) := by decide +kernel
theorem c_30_111 : pg_cd 30 111 = (5, 1, 0, 0, 0) := by decide +kernel
theorem c_30_112 : pg_cd 30 112 = (3, 2, 0, 5, 0) := by decide +kernel
theorem c_30_114 : pg_cd 30 114 = (46, 2, 56, 1, 0) := by decide +kernel
theorem c_30_117 : pg_cd 30 117 = (94, 0, 0, 0, 0) := by decide +kernel
theorem mi_30 : pg_mc 30 = 2 ∧ pg_na 30 = 5 ∧ pg_mx 30 = 10 := by decide +kernel
set_option maxRecDepth 20000 in
theorem u_30_0 {d : Nat} {S : zS} {σ τ : zI} {Q : zQ} {x1 : Nat} {x2 : Int} {x3 : Int} {x4 : Int} {x5 : Int} (hx1 : tw x1) (t : wi (d + 2) 30 6 [.ref 77, .ref (x1 + 1), .int (wI x2), .int (wI x3), .int (wI x4), .int (wI x5), .int (wI 0), .int (wI 0), .retAddr 0, .retAddr 0] [] S σ τ Q) : wi (d + 2) 30 0 [.ref 77, .ref (x1 + 1), .int (wI x2), .int (wI x3), .int (wI x4), .int (wI x5), .retAddr 0, .retAddr 0, .retAddr 0, .retAddr 0] [] S σ τ Q := by
  refine i1 c_30_0 (i6 (L' := [.ref 77, .ref (x1 + 1), .int (wI x2), .int (wI x3), .int (wI x4), .int (wI x5), .int (wI 0), .retAddr 0, .retAddr 0, .retAddr 0]) c_30_1 rfl (i1 c_30_3 (i6 (L' := [.ref 77, .ref (x1 + 1), .int (wI x2), .int (wI x3), .int (wI x4), .int (wI x5), .int (wI 0), .int (wI 0), .retAddr 0, .retAddr 0]) c_30_4 rfl t)))
set_option maxRecDepth 20000 in
theorem u_30_6 {d : Nat} {S : zS} {σ τ : zI} {Q : zQ} {x1 : Nat} {x2 : Int} {x3 : Int} {x4 : Int} {x5 : Int} {x6 : Int} {x7 : Int} {y8 : Value} {y9 : Value} (hx1 : tw x1) (t : (rg x7) ∧ if (σ (x1 + 1) 2) ≤ x7 then ((rg x6) ∧ (rg x5) ∧ (rg x2) ∧ (rg x3) ∧ (rg x4) ∧ if σ 78 3 = -1 ∨ ¬ lx (σ 78 3) (σ 77 1) (σ 78 0) (σ 78 1) (σ 78 2) x6 x5 x2 x3 x4 then (Q none S (uc (uc σ 78 (u1 (u1 (u1 (u1 (σ 78) 0 x2) 1 x3) 2 x4) 3 x6)) 77 (u1 (σ 77) 1 x5)) τ) else (Q none S σ τ)) else (if (rt_ (σ (x1 + 1) 2) (σ (x1 + 2)) 6 5 x7) = (-1) then (wi (d + 2) 30 6 [.ref 77, .ref (x1 + 1), .int (wI x2), .int (wI x3), .int (wI x4), .int (wI x5), .int (wI (x6 + (0 * 0))), .int (wI (x7 + 1)), .int (wI (rt_ (σ (x1 + 1) 2) (σ (x1 + 2)) 6 5 x7)), .int (wI 0)] [] S σ τ Q) else (∃ a11 : Int → Int, (RT σ x1 a11) ∧ (jv_K a11) ∧ (0 ≤ x7 ∧ x7 ≤ (5 : Int)) ∧ (0 ≤ x3 ∧ x3 ≤ (40 : Int)) ∧ (0 ≤ x4 ∧ x4 ≤ (40 : Int)) ∧ ∀ (v17 : Int), v17 = r_prt a11 x7 x3 x4 → 0 ≤ v17 ∧ v17 ≤ 1040 → wi (d + 2) 30 6 [.ref 77, .ref (x1 + 1), .int (wI x2), .int (wI x3), .int (wI x4), .int (wI x5), .int (wI (x6 + ((((rt_ (σ (x1 + 1) 2) (σ (x1 + 2)) 6 5 x7) - x2) - v17) * (((rt_ (σ (x1 + 1) 2) (σ (x1 + 2)) 6 5 x7) - x2) - v17)))), .int (wI (x7 + 1)), .int (wI (rt_ (σ (x1 + 1) 2) (σ (x1 + 2)) 6 5 x7)), .int (wI (((rt_ (σ (x1 + 1) 2) (σ (x1 + 2)) 6 5 x7) - x2) - v17))] [] S σ τ Q))) : wi (d + 2) 30 6 [.ref 77, .ref (x1 + 1), .int (wI x2), .int (wI x3), .int (wI x4), .int (wI x5), .int (wI x6), .int (wI x7), y8, y9] [] S σ τ Q := by
  refine i3 c_30_6 rfl (i5 c_30_8 rfl (wi_ok (fun K1 => ?_)))
  obtain ⟨r2, t⟩ := t
  refine i43 (v := σ (x1 + 1) 2) c_30_9 (lo (lyt_1 hx1) (by have := tw_b hx1; omega)) rfl ?_
  refine i37 c_30_12 r2 (rge_ K1 rfl) rfl (fun hc => ?_) (fun hc => ?_)
  · have t := iT t hc
    have ha3 : (σ (x1 + 1) 2) ≤ x7 := hc
    obtain ⟨r4, t⟩ := t
    obtain ⟨r5, t⟩ := t
    obtain ⟨r6, t⟩ := t
    obtain ⟨r7, t⟩ := t
    obtain ⟨r8, t⟩ := t
    refine i5 c_30_66 rfl (i3 c_30_67 rfl (i3 c_30_69 rfl (i3 c_30_71 rfl (i3 c_30_72 rfl (i3 c_30_73 rfl ?_)))))
    refine i80 (As := [.int (wI x6), .int (wI x5), .int (wI x2), .int (wI x3), .int (wI x4)]) (rest := []) c_30_75 mi_31 rfl rfl (Nat.le_of_ble_eq_true rfl) (Nat.le_of_ble_eq_true rfl) (lo (c := 77) (kd := 102) (n := 0) rfl (by decide)) (q_31 r4 r5 r6 r7 r8 ?_)
    show wi (d + 2) 30 78 [.ref 77, .ref (x1 + 1), .int (wI x2), .int (wI x3), .int (wI x4), .int (wI x5), .int (wI x6), .int (wI x7), y8, y9] [.int (wI (if σ 78 3 = -1 ∨ ¬ lx (σ 78 3) (σ 77 1) (σ 78 0) (σ 78 1) (σ 78 2) x6 x5 x2 x3 x4 then 1 else 0))] S σ τ Q
    refine i36e c_30_78 rfl (fun hc => ?_) (fun hc => ?_)
    · have t := iT t hc
      have ha9 : σ 78 3 = -1 ∨ ¬ lx (σ 78 3) (σ 77 1) (σ 78 0) (σ 78 1) (σ 78 2) x6 x5 x2 x3 x4 := hc
      refine i5 c_30_81 rfl (i45 c_30_82 (lo (c := 77) (kd := 102) (n := 0) rfl (by decide)) (lro (c := 77) (k := 0) (j := 78) (by decide)) (i1 c_30_85 (i3 c_30_86 rfl (i54 (σ1 := uc σ 78 (u1 (σ 78) 0 x2)) c_30_87 (lo (c := 78) (kd := 0) (n := 4) rfl (by decide)) (by decide) (by decide) (by decide) rfl r6 (wr_ rfl rfl) (i5 c_30_88 rfl (i45 c_30_89 (lo (c := 77) (kd := 102) (n := 0) rfl (by decide)) (lro (c := 77) (k := 0) (j := 78) (by decide)) (i1 c_30_92 (i3 c_30_93 rfl (i54 (σ1 := uc σ 78 (u1 (u1 (σ 78) 0 x2) 1 x3)) c_30_94 (lo (c := 78) (kd := 0) (n := 4) rfl (by decide)) (by decide) (by decide) (by decide) rfl r7 (wr_ (uc_s _ _ _) (uc_uc _ _ _ _)) (i5 c_30_95 rfl (i45 c_30_96 (lo (c := 77) (kd := 102) (n := 0) rfl (by decide)) (lro (c := 77) (k := 0) (j := 78) (by decide)) (i1 c_30_99 (i3 c_30_100 rfl (i54 (σ1 := uc σ 78 (u1 (u1 (u1 (σ 78) 0 x2) 1 x3) 2 x4)) c_30_102 (lo (c := 78) (kd := 0) (n := 4) rfl (by decide)) (by decide) (by decide) (by decide) rfl r8 (wr_ (uc_s _ _ _) (uc_uc _ _ _ _)) (i5 c_30_103 rfl (i45 c_30_104 (lo (c := 77) (kd := 102) (n := 0) rfl (by decide)) (lro (c := 77) (k := 0) (j := 78) (by decide)) (i1 c_30_107 (i3 c_30_108 rfl (i54 (σ1 := uc σ 78 (u1 (u1 (u1 (u1 (σ 78) 0 x2) 1 x3) 2 x4) 3 x6)) c_30_110 (lo (c := 78) (kd := 0) (n := 4) rfl (by decide)) (by decide) (by decide) (by decide) rfl r4 (wr_ (uc_s _ _ _) (uc_uc _ _ _ _)) (i5 c_30_111 rfl (i3 c_30_112 rfl (i46 (σ1 := uc (uc σ 78 (u1 (u1 (u1 (u1 (σ 78) 0 x2) 1 x3) 2 x4) 3 x6)) 77 (u1 (σ 77) 1 x5)) c_30_114 (lo (c := 77) (kd := 102) (n := 0) rfl (by decide)) (by decide) rfl r5 (wr_ (uc_ns rfl (by decide)) rfl) ?_))))))))))))))))))))))
      exact i94 c_30_117 t
    · have t := iF t hc
      have ha9 : ¬ (σ 78 3 = -1 ∨ ¬ lx (σ 78 3) (σ 77 1) (σ 78 0) (σ 78 1) (σ 78 2) x6 x5 x2 x3 x4) := hc
      exact i94 c_30_117 t
  · have t := iF t hc
    have ha3 : ¬ ((σ (x1 + 1) 2) ≤ x7) := hc
    refine i5 c_30_15 rfl (i3 c_30_16 rfl (i1 c_30_18 ?_))
    refine i80 (As := [.int (wI x7), .int (wI 5)]) (rest := []) c_30_19 mi_55 rfl rfl (Nat.le_of_ble_eq_true rfl) (Nat.le_of_ble_eq_true rfl) (lo (lyt_1 hx1) (by have := tw_b hx1; omega)) (q_at (ow_kinds hx1) r2 (by decide) ?_)
    show wi (d + 2) 30 22 [.ref 77, .ref (x1 + 1), .int (wI x2), .int (wI x3), .int (wI x4), .int (wI x5), .int (wI x6), .int (wI x7), y8, y9] [.int (wI (rt_ (σ (x1 + 1) 2) (σ (x1 + 2)) 6 5 x7))] S σ τ Q
    refine i6 (L' := [.ref 77, .ref (x1 + 1), .int (wI x2), .int (wI x3), .int (wI x4), .int (wI x5), .int (wI x6), .int (wI x7), .int (wI (rt_ (σ (x1 + 1) 2) (σ (x1 + 2)) 6 5 x7)), y9]) c_30_22 rfl (i3 c_30_24 rfl (i1 c_30_26 ?_))
    refine i37 c_30_27 (rg_rt_ (fun k => kO_r K1 _ k) _ _ _ _) (by decide) rfl (fun hc => ?_) (fun hc => ?_)
    · have t := iF t hc
      have ha10 : ¬ ((rt_ (σ (x1 + 1) 2) (σ (x1 + 2)) 6 5 x7) = (-1)) := hc
      obtain ⟨a11, t⟩ := t
      obtain ⟨p12, t⟩ := t
      obtain ⟨p13, t⟩ := t
      obtain ⟨p14, t⟩ := t
      obtain ⟨p15, t⟩ := t
      obtain ⟨p16, t⟩ := t
      refine i3 c_30_34 rfl (i3 c_30_36 rfl (i11 c_30_37 (i5 c_30_38 rfl (i3 c_30_39 rfl (i3 c_30_41 rfl (i3 c_30_42 rfl ?_))))))
      refine i81 (As := [.ref (x1 + 1), .int (wI x7), .int (wI x3), .int (wI x4)]) (rest := [.int (wI ((rt_ (σ (x1 + 1) 2) (σ (x1 + 2)) 6 5 x7) - x2))]) c_30_44 mi_28 rfl rfl (Nat.le_of_ble_eq_true rfl) (Nat.le_of_ble_eq_true rfl) (q_28 (a := a11) hx1 p12 p13 p14 p15 p16 (fun v17 q18 q19 => ?_))
      have t := t v17 q18 q19
      show wi (d + 2) 30 47 [.ref 77, .ref (x1 + 1), .int (wI x2), .int (wI x3), .int (wI x4), .int (wI x5), .int (wI x6), .int (wI x7), .int (wI (rt_ (σ (x1 + 1) 2) (σ (x1 + 2)) 6 5 x7)), y9] [.int (wI v17), .int (wI ((rt_ (σ (x1 + 1) 2) (σ (x1 + 2)) 6 5 x7) - x2))] S σ τ Q
      refine i11 c_30_47 (i6 (L' := [.ref 77, .ref (x1 + 1), .int (wI x2), .int (wI x3), .int (wI x4), .int (wI x5), .int (wI x6), .int (wI x7), .int (wI (rt_ (σ (x1 + 1) 2) (σ (x1 + 2)) 6 5 x7)), .int (wI (((rt_ (σ (x1 + 1) 2) (σ (x1 + 2)) 6 5 x7) - x2) - v17))]) c_30_48 rfl (i3 c_30_50 rfl (i3 c_30_52 rfl (i3 c_30_54 rfl (i12 c_30_56 (i10 c_30_57 (i6 (L' := [.ref 77, .ref (x1 + 1), .int (wI x2), .int (wI x3), .int (wI x4), .int (wI x5), .int (wI (x6 + ((((rt_ (σ (x1 + 1) 2) (σ (x1 + 2)) 6 5 x7) - x2) - v17) * (((rt_ (σ (x1 + 1) 2) (σ (x1 + 2)) 6 5 x7) - x2) - v17)))), .int (wI x7), .int (wI (rt_ (σ (x1 + 1) 2) (σ (x1 + 2)) 6 5 x7)), .int (wI (((rt_ (σ (x1 + 1) 2) (σ (x1 + 2)) 6 5 x7) - x2) - v17))]) c_30_58 rfl (i9 (L' := [.ref 77, .ref (x1 + 1), .int (wI x2), .int (wI x3), .int (wI x4), .int (wI x5), .int (wI (x6 + ((((rt_ (σ (x1 + 1) 2) (σ (x1 + 2)) 6 5 x7) - x2) - v17) * (((rt_ (σ (x1 + 1) 2) (σ (x1 + 2)) 6 5 x7) - x2) - v17)))), .int (wI (x7 + 1)), .int (wI (rt_ (σ (x1 + 1) 2) (σ (x1 + 2)) 6 5 x7)), .int (wI (((rt_ (σ (x1 + 1) 2) (σ (x1 + 2)) 6 5 x7) - x2) - v17))]) c_30_60 rfl rfl (i38 c_30_63 rfl t)))))))))
    · have t := iT t (Decidable.not_not.mp hc)
      have ha10 : (rt_ (σ (x1 + 1) 2) (σ (x1 + 2)) 6 5 x7) = (-1) := Decidable.not_not.mp hc
      refine i1 c_30_30 (i38 c_30_31 rfl (i6 (L' := [.ref 77, .ref (x1 + 1), .int (wI x2), .int (wI x3), .int (wI x4), .int (wI x5), .int (wI x6), .int (wI x7), .int (wI (rt_ (σ (x1 + 1) 2) (σ (x1 + 2)) 6 5 x7)), .int (wI 0)]) c_30_48 rfl (i3 c_30_50 rfl (i3 c_30_52 rfl (i3 c_30_54 rfl (i12 c_30_56 (i10 c_30_57 (i6 (L' := [.ref 77, .ref (x1 + 1), .int (wI x2), .int (wI x3), .int (wI x4), .int (wI x5), .int (wI (x6 + (0 * 0))), .int (wI x7), .int (wI (rt_ (σ (x1 + 1) 2) (σ (x1 + 2)) 6 5 x7)), .int (wI 0)]) c_30_58 rfl (i9 (L' := [.ref 77, .ref (x1 + 1), .int (wI x2), .int (wI x3), .int (wI x4), .int (wI x5), .int (wI (x6 + (0 * 0))), .int (wI (x7 + 1)), .int (wI (rt_ (σ (x1 + 1) 2) (σ (x1 + 2)) 6 5 x7)), .int (wI 0)]) c_30_60 rfl rfl (i38 c_30_63 rfl t))))))))))
theorem q_30 {d : Nat} {S : zS} {σ τ : zI} {Q : zQ} {tn : Nat} {b : Int} {x : Int} {y : Int} {ch : Int} {a : Int → Int} {b0 : Int} {b1 : Int} {b2 : Int} {Cv : Int → Int → Int → Prop} (htn : tw tn) (p0 : RT σ tn a) (p1 : jv_K a) (p2 : 0 ≤ b ∧ b ≤ (40 : Int)) (p3 : 0 ≤ x ∧ x ≤ (40 : Int)) (p4 : 0 ≤ y ∧ y ≤ (40 : Int)) (p5 : BE σ a b0 b1 b2 Cv) (p6 : ch = r_ch b0 b1 b2 b x y) (p7 : rg ch) (t : ∀ (σ1 : zI), F77 σ σ1 → BE σ1 a b0 b1 b2 (fun x' y' z' => Cv x' y' z' ∨ (x' = b ∧ y' = x ∧ z' = y)) → Q none S σ1 τ) : wc (d + 2) 30 [.ref 77, .ref (tn + 1), .int (wI b), .int (wI x), .int (wI y), .int (wI ch)] S σ τ Q := by
  have cn := cK p0
  have tb := tw_b htn
  refine wc_of mi_30 rfl (u_30_0 htn ?_)
  have key : ∀ k, 0 ≤ k → k ≤ 6 → ∀ s, s = sI (r_sq1 a b x y) k → ∀ y8 y9, wi (d + 2) 30 6 [.ref 77, .ref (tn + 1), .int (wI b), .int (wI x), .int (wI y), .int (wI ch), .int (wI s), .int (wI k), y8, y9] [] S σ τ Q := by
    refine lp_up (fun k k0 k1 ih => ?_)
    intro s hs y8 y9
    have sb := r_sqn_b p1 (n := k) (by omega) p2 p3 p4
    rw [← hs] at sb
    refine u_30_6 htn ?_
    rw [cn]
    refine ⟨by omega, ifI (fun e => ?_) (fun e => ?_)⟩
    · have : k = 6 := by omega
      subst this
      have hs : s = r_sq a b x y := hs
      refine ⟨by omega, p7, by omega, by omega, by omega, ifI (fun e1 => ?_) (fun e1 => ?_)⟩
      · refine t _ (fun c c1 c2 => by rw [uc_n c1, uc_n c2]) ?_
        refine Or.inr ?_
        have e78 : uc (uc σ 78 (u1 (u1 (u1 (u1 (σ 78) 0 b) 1 x) 2 y) 3 s)) 77 (u1 (σ 77) 1 ch) 78 = u1 (u1 (u1 (u1 (σ 78) 0 b) 1 x) 2 y) 3 s := by rw [uc_n (by decide), uc_s]
        rw [e78, uc_s]
        simp (disch := omega) only [u1_n, u1_s]
        rw [hs, p6]
        refine ⟨⟨p2, p3, p4⟩, rfl, rfl, fun x' y' z' hx hy hz c => ?_⟩
        rcases c with c | ⟨rfl, rfl, rfl⟩
        · rcases p5 with q | q
          · exact absurd c (q.2 x' y' z')
          · rcases e1 with e1 | e1
            · have := r_sqn_b p1 (n := 6) (b := σ 78 0) (x := σ 78 1) (y := σ 78 2) (by omega) q.1.1 q.1.2.1 q.1.2.2
              have e2 := q.2.1
              unfold r_sq at e2
              omega
            · rw [hs, p6] at e1
              exact lx_t (lx_n e1) (q.2.2.2 x' y' z' hx hy hz c)
        · exact lx_r _ _ _ _ _
      · refine t _ (fun c c1 c2 => rfl) ?_
        have e2 : ¬ σ 78 3 = -1 := fun h => e1 (Or.inl h)
        have e3 : lx (σ 78 3) (σ 77 1) (σ 78 0) (σ 78 1) (σ 78 2) s ch b x y := Decidable.not_not.mp (fun h => e1 (Or.inr h))
        rcases p5 with q | q
        · exact absurd q.1 e2
        · refine Or.inr ⟨q.1, q.2.1, q.2.2.1, fun x' y' z' hx hy hz c => ?_⟩
          rcases c with c | ⟨rfl, rfl, rfl⟩
          · exact q.2.2.2 x' y' z' hx hy hz c
          · rw [hs, p6] at e3; exact e3
    · have ih := ih (by omega)
      rw [sI_s k0, ← hs] at ih
      have v5 := vK5 p0 (r := k) (by omega)
      rw [cn] at v5
      rw [v5]
      have jk := (p1 k k0 (by omega)).2.2.2.2.2.1
      unfold r_sq1 at ih
      refine ifI (fun c => ?_) (fun c => ?_)
      · rw [if_neg (by omega)] at ih
        exact ih _ rfl _ _
      · rw [if_pos (by omega)] at ih
        refine ⟨a, p0, p1, by omega, p3, p4, fun v hv _ => ih _ ?_ _ _⟩
        rw [hv]
        generalize r_prt a k x y = p
        generalize a (20 + 8 * k + 6) = w
        grind
  exact key 0 (by omega) (by omega) 0 rfl _ _
theorem r_bs {a : Int → Int} (j : jv_K a) {y z w L B l u x : Int} (hw : r_wn a 6 = w) (hL : r_lk a y z 6 = L) (w1 : 1 ≤ w ∧ w ≤ 6) (hB : B = L / w) (hl : l = max 0 (min 40 B)) (hu : u = max 0 (min 40 (B + 1))) (hx : 0 ≤ x ∧ x ≤ 40) : (x = l ∨ x = u) ∨ r_sq a l y z < r_sq a x y z ∨ r_sq a u y z < r_sq a x y z := by
  have c1 := r_cv j x l y z 6 (by omega) (by omega)
  have c2 := r_cv j x u y z 6 (by omega) (by omega)
  rw [hw, hL] at c1 c2
  unfold r_sq
  have neg : x < l → w * (x + l) - 2 * L < 0 := fun h => by
    rcases (show w = 1 ∨ w = 2 ∨ w = 3 ∨ w = 4 ∨ w = 5 ∨ w = 6 by omega) with e | e | e | e | e | e <;> subst e <;> omega
  have pos : u < x → 0 < w * (x + u) - 2 * L := fun h => by
    rcases (show w = 1 ∨ w = 2 ∨ w = 3 ∨ w = 4 ∨ w = 5 ∨ w = 6 by omega) with e | e | e | e | e | e <;> subst e <;> omega
  by_cases h1 : x < l
  · have := Int.mul_pos_of_neg_of_neg (show x - l < 0 by omega) (neg h1)
    omega
  · by_cases h2 : u < x
    · have := Int.mul_pos (show 0 < x - u by omega) (pos h2)
      omega
    · left
      omega
theorem r_wn_b (a : Int → Int) {n : Int} (h : 0 ≤ n) : 0 ≤ r_wn a n ∧ r_wn a n ≤ n := by
  have := sI_b (f := fun k => if a (20 + 8 * k + 6) = -1 then 0 else 1) (n := n) (lo := 0) (hi := 1) h (fun p _ _ => by
    try dsimp only
    split <;> omega)
  unfold r_wn
  omega
theorem dv_b {L w : Int} (hL : -7000 ≤ L ∧ L ≤ 60000) (w1 : 1 ≤ w ∧ w ≤ 6) : -8000 ≤ L / w ∧ L / w ≤ 60000 := by
  rcases (show w = 1 ∨ w = 2 ∨ w = 3 ∨ w = 4 ∨ w = 5 ∨ w = 6 by omega) with e | e | e | e | e | e <;> subst e <;> omega
-- method 27: MillTown$ListMaker.make(LMillTown$Rows;III)Z
theorem c_27_0 : pg_cd 27 0 = (1, 1, 0, 0, 0) := by decide +kernel
theorem c_27_1 : pg_cd 27 1 = (6, 2, 0, 5, 0) := by decide +kernel
theorem c_27_3 : pg_cd 27 3 = (1, 1, 0, 0, 0) := by decide +kernel
theorem c_27_4 : pg_cd 27 4 = (6, 2, 0, 6, 0) := by decide +kernel
theorem c_27_6 : pg_cd 27 6 = (3, 2, 0, 6, 0) := by decide +kernel
theorem c_27_8 : pg_cd 27 8 = (5, 1, 0, 1, 0) := by decide +kernel
theorem c_27_9 : pg_cd 27 9 = (43, 4, 15, 2, 0) := by decide +kernel
theorem c_27_12 : pg_cd 27 12 = (37, 3, 0, 3, 30) := by decide +kernel
theorem c_27_15 : pg_cd 27 15 = (3, 2, 0, 5, 0) := by decide +kernel
theorem c_27_17 : pg_cd 27 17 = (5, 1, 0, 1, 0) := by decide +kernel
theorem c_27_18 : pg_cd 27 18 = (3, 2, 0, 6, 0) := by decide +kernel
theorem c_27_20 : pg_cd 27 20 = (1, 1, 0, 0, 5) := by decide +kernel
theorem c_27_21 : pg_cd 27 21 = (80, 55, 21, 0, 0) := by decide +kernel
theorem c_27_24 : pg_cd 27 24 = (1, 1, 0, 0, (-1)) := by decide +kernel
theorem c_27_25 : pg_cd 27 25 = (37, 3, 0, 1, 7) := by decide +kernel
theorem c_27_28 : pg_cd 27 28 = (1, 1, 0, 0, 0) := by decide +kernel
theorem c_27_29 : pg_cd 27 29 = (38, 3, 0, 0, 4) := by decide +kernel
theorem c_27_32 : pg_cd 27 32 = (1, 1, 0, 0, 1) := by decide +kernel
theorem c_27_33 : pg_cd 27 33 = (10, 1, 0, 0, 0) := by decide +kernel
theorem c_27_34 : pg_cd 27 34 = (6, 2, 0, 5, 0) := by decide +kernel
theorem c_27_36 : pg_cd 27 36 = (9, 3, 0, 6, 1) := by decide +kernel
theorem c_27_39 : pg_cd 27 39 = (38, 3, 0, 0, (-33)) := by decide +kernel
theorem c_27_42 : pg_cd 27 42 = (3, 2, 0, 5, 0) := by decide +kernel
theorem c_27_44 : pg_cd 27 44 = (36, 3, 0, 4, 5) := by decide +kernel
theorem c_27_47 : pg_cd 27 47 = (1, 1, 0, 0, 0) := by decide +kernel
theorem c_27_48 : pg_cd 27 48 = (91, 0, 0, 0, 0) := by decide +kernel
theorem c_27_49 : pg_cd 27 49 = (5, 1, 0, 0, 0) := by decide +kernel
theorem c_27_50 : pg_cd 27 50 = (45, 2, 9, 0, 0) := by decide +kernel
theorem c_27_53 : pg_cd 27 53 = (1, 1, 0, 0, 3) := by decide +kernel
theorem c_27_54 : pg_cd 27 54 = (1, 1, 0, 0, (-1)) := by decide +kernel
theorem c_27_55 : pg_cd 27 55 = (54, 1, 0, 0, 0) := by decide +kernel
theorem c_27_56 : pg_cd 27 56 = (1, 1, 0, 0, 0) := by decide +kernel
theorem c_27_57 : pg_cd 27 57 = (6, 2, 0, 6, 0) := by decide +kernel
theorem c_27_59 : pg_cd 27 59 = (3, 2, 0, 6, 0) := by decide +kernel
theorem c_27_61 : pg_cd 27 61 = (1, 2, 0, 0, 40) := by decide +kernel
theorem c_27_63 : pg_cd 27 63 = (37, 3, 0, 4, 128) := by decide +kernel
theorem c_27_66 : pg_cd 27 66 = (1, 1, 0, 0, 0) := by decide +kernel
theorem c_27_67 : pg_cd 27 67 = (6, 2, 0, 7, 0) := by decide +kernel
theorem c_27_69 : pg_cd 27 69 = (3, 2, 0, 7, 0) := by decide +kernel
theorem c_27_71 : pg_cd 27 71 = (1, 2, 0, 0, 40) := by decide +kernel
theorem c_27_73 : pg_cd 27 73 = (37, 3, 0, 4, 112) := by decide +kernel
theorem c_27_76 : pg_cd 27 76 = (3, 2, 0, 6, 0) := by decide +kernel
theorem c_27_78 : pg_cd 27 78 = (3, 1, 0, 3, 0) := by decide +kernel
theorem c_27_79 : pg_cd 27 79 = (11, 1, 0, 0, 0) := by decide +kernel
theorem c_27_80 : pg_cd 27 80 = (75, 0, 25, 0, 0) := by decide +kernel
theorem c_27_83 : pg_cd 27 83 = (3, 2, 0, 7, 0) := by decide +kernel
theorem c_27_85 : pg_cd 27 85 = (3, 2, 0, 4, 0) := by decide +kernel
theorem c_27_87 : pg_cd 27 87 = (11, 1, 0, 0, 0) := by decide +kernel
theorem c_27_88 : pg_cd 27 88 = (75, 0, 25, 0, 0) := by decide +kernel
theorem c_27_91 : pg_cd 27 91 = (10, 1, 0, 0, 0) := by decide +kernel
theorem c_27_92 : pg_cd 27 92 = (6, 2, 0, 8, 0) := by decide +kernel
theorem c_27_94 : pg_cd 27 94 = (5, 1, 0, 1, 0) := by decide +kernel
theorem c_27_95 : pg_cd 27 95 = (3, 2, 0, 6, 0) := by decide +kernel
theorem c_27_97 : pg_cd 27 97 = (3, 2, 0, 7, 0) := by decide +kernel
theorem c_27_99 : pg_cd 27 99 = (81, 29, 31, 0, 0) := by decide +kernel
theorem c_27_102 : pg_cd 27 102 = (3, 2, 0, 5, 0) := by decide +kernel
theorem c_27_104 : pg_cd 27 104 = (72, 0, 35, 0, 0) := by decide +kernel
theorem c_27_107 : pg_cd 27 107 = (6, 2, 0, 9, 0) := by decide +kernel
theorem c_27_109 : pg_cd 27 109 = (1, 1, 0, 0, 0) := by decide +kernel
theorem c_27_110 : pg_cd 27 110 = (1, 2, 0, 0, 40) := by decide +kernel
theorem c_27_112 : pg_cd 27 112 = (3, 2, 0, 9, 0) := by decide +kernel
theorem c_27_114 : pg_cd 27 114 = (74, 0, 38, 0, 0) := by decide +kernel
theorem c_27_117 : pg_cd 27 117 = (73, 0, 41, 0, 0) := by decide +kernel
theorem c_27_120 : pg_cd 27 120 = (6, 2, 0, 10, 0) := by decide +kernel
theorem c_27_122 : pg_cd 27 122 = (1, 1, 0, 0, 0) := by decide +kernel
theorem c_27_123 : pg_cd 27 123 = (1, 2, 0, 0, 40) := by decide +kernel
theorem c_27_125 : pg_cd 27 125 = (3, 2, 0, 9, 0) := by decide +kernel
theorem c_27_127 : pg_cd 27 127 = (1, 1, 0, 0, 1) := by decide +kernel
theorem c_27_128 : pg_cd 27 128 = (10, 1, 0, 0, 0) := by decide +kernel
theorem c_27_129 : pg_cd 27 129 = (74, 0, 38, 0, 0) := by decide +kernel
theorem c_27_132 : pg_cd 27 132 = (73, 0, 41, 0, 0) := by decide +kernel
theorem c_27_135 : pg_cd 27 135 = (6, 2, 0, 11, 0) := by decide +kernel
theorem c_27_137 : pg_cd 27 137 = (5, 1, 0, 0, 0) := by decide +kernel
theorem c_27_138 : pg_cd 27 138 = (5, 1, 0, 1, 0) := by decide +kernel
theorem c_27_139 : pg_cd 27 139 = (3, 2, 0, 10, 0) := by decide +kernel
theorem c_27_141 : pg_cd 27 141 = (3, 2, 0, 6, 0) := by decide +kernel
theorem c_27_143 : pg_cd 27 143 = (3, 2, 0, 7, 0) := by decide +kernel
theorem c_27_145 : pg_cd 27 145 = (3, 2, 0, 8, 0) := by decide +kernel
theorem c_27_147 : pg_cd 27 147 = (3, 2, 0, 10, 0) := by decide +kernel
theorem c_27_149 : pg_cd 27 149 = (3, 1, 0, 2, 0) := by decide +kernel
theorem c_27_150 : pg_cd 27 150 = (11, 1, 0, 0, 0) := by decide +kernel
theorem c_27_151 : pg_cd 27 151 = (75, 0, 25, 0, 0) := by decide +kernel
theorem c_27_154 : pg_cd 27 154 = (10, 1, 0, 0, 0) := by decide +kernel
theorem c_27_155 : pg_cd 27 155 = (80, 30, 44, 0, 0) := by decide +kernel
theorem c_27_158 : pg_cd 27 158 = (5, 1, 0, 0, 0) := by decide +kernel
theorem c_27_159 : pg_cd 27 159 = (5, 1, 0, 1, 0) := by decide +kernel
theorem c_27_160 : pg_cd 27 160 = (3, 2, 0, 11, 0) := by decide +kernel
theorem c_27_162 : pg_cd 27 162 = (3, 2, 0, 6, 0) := by decide +kernel
theorem c_27_164 : pg_cd 27 164 = (3, 2, 0, 7, 0) := by decide +kernel
theorem c_27_166 : pg_cd 27 166 = (3, 2, 0, 8, 0) := by decide +kernel
theorem c_27_168 : pg_cd 27 168 = (3, 2, 0, 11, 0) := by decide +kernel
theorem c_27_170 : pg_cd 27 170 = (3, 1, 0, 2, 0) := by decide +kernel
theorem c_27_171 : pg_cd 27 171 = (11, 1, 0, 0, 0) := by decide +kernel
theorem c_27_172 : pg_cd 27 172 = (75, 0, 25, 0, 0) := by decide +kernel
theorem c_27_175 : pg_cd 27 175 = (10, 1, 0, 0, 0) := by decide +kernel
theorem c_27_176 : pg_cd 27 176 = (80, 30, 44, 0, 0) := by decide +kernel
theorem c_27_179 : pg_cd 27 179 = (9, 3, 0, 7, 1) := by decide +kernel
theorem c_27_182 : pg_cd 27 182 = (38, 3, 0, 0, (-113)) := by decide +kernel
theorem c_27_185 : pg_cd 27 185 = (9, 3, 0, 6, 1) := by decide +kernel
theorem c_27_188 : pg_cd 27 188 = (38, 3, 0, 0, (-129)) := by decide +kernel
theorem c_27_191 : pg_cd 27 191 = (1, 1, 0, 0, 1) := by decide +kernel
theorem c_27_192 : pg_cd 27 192 = (91, 0, 0, 0, 0) := by decide +kernel
theorem mi_27 : pg_mc 27 = 2 ∧ pg_na 27 = 4 ∧ pg_mx 27 = 12 := by decide +kernel
set_option maxRecDepth 20000 in
theorem u_27_0 {d : Nat} {S : zS} {σ τ : zI} {Q : zQ} {x1 : Nat} {x2 : Int} {x3 : Int} {x4 : Int} (hx1 : tw x1) (t : wi (d + 9) 27 6 [.ref 77, .ref (x1 + 1), .int (wI x2), .int (wI x3), .int (wI x4), .int (wI 0), .int (wI 0), .retAddr 0, .retAddr 0, .retAddr 0, .retAddr 0, .retAddr 0] [] S σ τ Q) : wi (d + 9) 27 0 [.ref 77, .ref (x1 + 1), .int (wI x2), .int (wI x3), .int (wI x4), .retAddr 0, .retAddr 0, .retAddr 0, .retAddr 0, .retAddr 0, .retAddr 0, .retAddr 0] [] S σ τ Q := by
  refine i1 c_27_0 (i6 (L' := [.ref 77, .ref (x1 + 1), .int (wI x2), .int (wI x3), .int (wI x4), .int (wI 0), .retAddr 0, .retAddr 0, .retAddr 0, .retAddr 0, .retAddr 0, .retAddr 0]) c_27_1 rfl (i1 c_27_3 (i6 (L' := [.ref 77, .ref (x1 + 1), .int (wI x2), .int (wI x3), .int (wI x4), .int (wI 0), .int (wI 0), .retAddr 0, .retAddr 0, .retAddr 0, .retAddr 0, .retAddr 0]) c_27_4 rfl t)))
set_option maxRecDepth 20000 in
theorem u_27_6 {d : Nat} {S : zS} {σ τ : zI} {Q : zQ} {x1 : Nat} {x2 : Int} {x3 : Int} {x4 : Int} {x5 : Int} {x6 : Int} {y7 : Value} {y8 : Value} {y9 : Value} {y10 : Value} {y11 : Value} (hx1 : tw x1) (t : (rg x6) ∧ if (σ (x1 + 1) 2) ≤ x6 then ((rg x5) ∧ if (0 : Int) < x5 then (wi (d + 9) 27 59 [.ref 77, .ref (x1 + 1), .int (wI x2), .int (wI x3), .int (wI x4), .int (wI x5), .int (wI 0), y7, y8, y9, y10, y11] [] S (uc σ 78 (u1 (σ 78) 3 (-1))) τ Q) else (Q (some (.int (wI 0))) S σ τ)) else (if (rt_ (σ (x1 + 1) 2) (σ (x1 + 2)) 6 5 x6) = (-1) then (wi (d + 9) 27 6 [.ref 77, .ref (x1 + 1), .int (wI x2), .int (wI x3), .int (wI x4), .int (wI (x5 + 0)), .int (wI (x6 + 1)), y7, y8, y9, y10, y11] [] S σ τ Q) else (wi (d + 9) 27 6 [.ref 77, .ref (x1 + 1), .int (wI x2), .int (wI x3), .int (wI x4), .int (wI (x5 + 1)), .int (wI (x6 + 1)), y7, y8, y9, y10, y11] [] S σ τ Q))) : wi (d + 9) 27 6 [.ref 77, .ref (x1 + 1), .int (wI x2), .int (wI x3), .int (wI x4), .int (wI x5), .int (wI x6), y7, y8, y9, y10, y11] [] S σ τ Q := by
  refine i3 c_27_6 rfl (i5 c_27_8 rfl (wi_ok (fun K1 => ?_)))
  obtain ⟨r2, t⟩ := t
  refine i43 (v := σ (x1 + 1) 2) c_27_9 (lo (lyt_1 hx1) (by have := tw_b hx1; omega)) rfl ?_
  refine i37 c_27_12 r2 (rge_ K1 rfl) rfl (fun hc => ?_) (fun hc => ?_)
  · have t := iT t hc
    have ha3 : (σ (x1 + 1) 2) ≤ x6 := hc
    obtain ⟨r4, t⟩ := t
    refine i3 c_27_42 rfl ?_
    refine i36 c_27_44 r4 rfl (fun hc => ?_) (fun hc => ?_)
    · have t := iT t hc
      have ha5 : (0 : Int) < x5 := hc
      refine i5 c_27_49 rfl (i45 c_27_50 (lo (c := 77) (kd := 102) (n := 0) rfl (by decide)) (lro (c := 77) (k := 0) (j := 78) (by decide)) (i1 c_27_53 (i1 c_27_54 (i54 (σ1 := uc σ 78 (u1 (σ 78) 3 (-1))) c_27_55 (lo (c := 78) (kd := 0) (n := 4) rfl (by decide)) (by decide) (by decide) (by decide) rfl (by decide) (wr_ rfl rfl) (i1 c_27_56 (i6 (L' := [.ref 77, .ref (x1 + 1), .int (wI x2), .int (wI x3), .int (wI x4), .int (wI x5), .int (wI 0), y7, y8, y9, y10, y11]) c_27_57 rfl t))))))
    · have t := iF t hc
      have ha5 : ¬ ((0 : Int) < x5) := hc
      refine i1 c_27_47 ?_
      exact i91 c_27_48 (by decide) t
  · have t := iF t hc
    have ha3 : ¬ ((σ (x1 + 1) 2) ≤ x6) := hc
    refine i3 c_27_15 rfl (i5 c_27_17 rfl (i3 c_27_18 rfl (i1 c_27_20 ?_)))
    refine i80 (As := [.int (wI x6), .int (wI 5)]) (rest := [.int (wI x5)]) c_27_21 mi_55 rfl rfl (Nat.le_of_ble_eq_true rfl) (Nat.le_of_ble_eq_true rfl) (lo (lyt_1 hx1) (by have := tw_b hx1; omega)) (q_at (ow_kinds hx1) r2 (by decide) ?_)
    show wi (d + 9) 27 24 [.ref 77, .ref (x1 + 1), .int (wI x2), .int (wI x3), .int (wI x4), .int (wI x5), .int (wI x6), y7, y8, y9, y10, y11] [.int (wI (rt_ (σ (x1 + 1) 2) (σ (x1 + 2)) 6 5 x6)), .int (wI x5)] S σ τ Q
    refine i1 c_27_24 ?_
    refine i37 c_27_25 (rg_rt_ (fun k => kO_r K1 _ k) _ _ _ _) (by decide) rfl (fun hc => ?_) (fun hc => ?_)
    · have t := iF t hc
      have ha6 : ¬ ((rt_ (σ (x1 + 1) 2) (σ (x1 + 2)) 6 5 x6) = (-1)) := hc
      refine i1 c_27_32 (i10 c_27_33 (i6 (L' := [.ref 77, .ref (x1 + 1), .int (wI x2), .int (wI x3), .int (wI x4), .int (wI (x5 + 1)), .int (wI x6), y7, y8, y9, y10, y11]) c_27_34 rfl (i9 (L' := [.ref 77, .ref (x1 + 1), .int (wI x2), .int (wI x3), .int (wI x4), .int (wI (x5 + 1)), .int (wI (x6 + 1)), y7, y8, y9, y10, y11]) c_27_36 rfl rfl (i38 c_27_39 rfl t))))
    · have t := iT t (Decidable.not_not.mp hc)
      have ha6 : (rt_ (σ (x1 + 1) 2) (σ (x1 + 2)) 6 5 x6) = (-1) := Decidable.not_not.mp hc
      refine i1 c_27_28 (i38 c_27_29 rfl (i10 c_27_33 (i6 (L' := [.ref 77, .ref (x1 + 1), .int (wI x2), .int (wI x3), .int (wI x4), .int (wI (x5 + 0)), .int (wI x6), y7, y8, y9, y10, y11]) c_27_34 rfl (i9 (L' := [.ref 77, .ref (x1 + 1), .int (wI x2), .int (wI x3), .int (wI x4), .int (wI (x5 + 0)), .int (wI (x6 + 1)), y7, y8, y9, y10, y11]) c_27_36 rfl rfl (i38 c_27_39 rfl t)))))
set_option maxRecDepth 20000 in
theorem u_27_59 {d : Nat} {S : zS} {σ τ : zI} {Q : zQ} {x1 : Nat} {x2 : Int} {x3 : Int} {x4 : Int} {x5 : Int} {x6 : Int} {y7 : Value} {y8 : Value} {y9 : Value} {y10 : Value} {y11 : Value} (hx1 : tw x1) (t : (rg x6) ∧ if (40 : Int) < x6 then (Q (some (.int (wI 1))) S σ τ) else (wi (d + 9) 27 69 [.ref 77, .ref (x1 + 1), .int (wI x2), .int (wI x3), .int (wI x4), .int (wI x5), .int (wI x6), .int (wI 0), y8, y9, y10, y11] [] S σ τ Q)) : wi (d + 9) 27 59 [.ref 77, .ref (x1 + 1), .int (wI x2), .int (wI x3), .int (wI x4), .int (wI x5), .int (wI x6), y7, y8, y9, y10, y11] [] S σ τ Q := by
  obtain ⟨r1, t⟩ := t
  refine i3 c_27_59 rfl (i1 c_27_61 ?_)
  refine i37 c_27_63 r1 (by decide) rfl (fun hc => ?_) (fun hc => ?_)
  · have t := iT t hc
    have ha2 : (40 : Int) < x6 := hc
    refine i1 c_27_191 ?_
    exact i91 c_27_192 (by decide) t
  · have t := iF t hc
    have ha2 : ¬ ((40 : Int) < x6) := hc
    refine i1 c_27_66 (i6 (L' := [.ref 77, .ref (x1 + 1), .int (wI x2), .int (wI x3), .int (wI x4), .int (wI x5), .int (wI x6), .int (wI 0), y8, y9, y10, y11]) c_27_67 rfl t)
set_option maxRecDepth 20000 in
theorem u_27_69 {d : Nat} {S : zS} {σ τ : zI} {Q : zQ} {x1 : Nat} {x2 : Int} {x3 : Int} {x4 : Int} {x5 : Int} {x6 : Int} {x7 : Int} {y8 : Value} {y9 : Value} {y10 : Value} {y11 : Value} (hx1 : tw x1) (t : (rg x7) ∧ if (40 : Int) < x7 then (wi (d + 9) 27 59 [.ref 77, .ref (x1 + 1), .int (wI x2), .int (wI x3), .int (wI x4), .int (wI x5), .int (wI (x6 + 1)), .int (wI x7), y8, y9, y10, y11] [] S σ τ Q) else ((rg (x6 - x3)) ∧ (rg (x7 - x4)) ∧ ∃ a5 : Int → Int, (RT σ x1 a5) ∧ (jv_K a5) ∧ (0 ≤ x6 ∧ x6 ≤ (40 : Int)) ∧ (0 ≤ x7 ∧ x7 ≤ (40 : Int)) ∧ ∀ (v10 : Int), v10 = r_lk a5 x6 x7 6 → -7000 ≤ v10 ∧ v10 ≤ 60000 → (rg v10) ∧ (rg x5) ∧ (0 < x5) ∧ (rg (v10 / x5)) ∧ (rg ((v10 / x5) + 1)) ∧ (rg ((max 0 (min 40 (v10 / x5))) - x2)) ∧ ∃ a19 : Int → Int, ∃ b020 : Int, ∃ b121 : Int, ∃ b222 : Int, ∃ Cv23 : Int → Int → Int → Prop, (RT σ x1 a19) ∧ (jv_K a19) ∧ (0 ≤ (max 0 (min 40 (v10 / x5))) ∧ (max 0 (min 40 (v10 / x5))) ≤ (40 : Int)) ∧ (BE σ a19 b020 b121 b222 Cv23) ∧ ((((max (x6 - x3) (-(x6 - x3))) + (max (x7 - x4) (-(x7 - x4)))) + (max ((max 0 (min 40 (v10 / x5))) - x2) (-((max 0 (min 40 (v10 / x5))) - x2)))) = r_ch b020 b121 b222 (max 0 (min 40 (v10 / x5))) x6 x7) ∧ (rg (((max (x6 - x3) (-(x6 - x3))) + (max (x7 - x4) (-(x7 - x4)))) + (max ((max 0 (min 40 (v10 / x5))) - x2) (-((max 0 (min 40 (v10 / x5))) - x2))))) ∧ ∀ (σ130 : zI), F77 σ σ130 → BE σ130 a19 b020 b121 b222 (fun x' y' z' => Cv23 x' y' z' ∨ (x' = (max 0 (min 40 (v10 / x5))) ∧ y' = x6 ∧ z' = x7)) → (rg ((max 0 (min 40 ((v10 / x5) + 1))) - x2)) ∧ ∃ a34 : Int → Int, ∃ b035 : Int, ∃ b136 : Int, ∃ b237 : Int, ∃ Cv38 : Int → Int → Int → Prop, (RT σ130 x1 a34) ∧ (jv_K a34) ∧ (0 ≤ (max 0 (min 40 ((v10 / x5) + 1))) ∧ (max 0 (min 40 ((v10 / x5) + 1))) ≤ (40 : Int)) ∧ (BE σ130 a34 b035 b136 b237 Cv38) ∧ ((((max (x6 - x3) (-(x6 - x3))) + (max (x7 - x4) (-(x7 - x4)))) + (max ((max 0 (min 40 ((v10 / x5) + 1))) - x2) (-((max 0 (min 40 ((v10 / x5) + 1))) - x2)))) = r_ch b035 b136 b237 (max 0 (min 40 ((v10 / x5) + 1))) x6 x7) ∧ (rg (((max (x6 - x3) (-(x6 - x3))) + (max (x7 - x4) (-(x7 - x4)))) + (max ((max 0 (min 40 ((v10 / x5) + 1))) - x2) (-((max 0 (min 40 ((v10 / x5) + 1))) - x2))))) ∧ ∀ (σ145 : zI), F77 σ130 σ145 → BE σ145 a34 b035 b136 b237 (fun x' y' z' => Cv38 x' y' z' ∨ (x' = (max 0 (min 40 ((v10 / x5) + 1))) ∧ y' = x6 ∧ z' = x7)) → wi (d + 9) 27 69 [.ref 77, .ref (x1 + 1), .int (wI x2), .int (wI x3), .int (wI x4), .int (wI x5), .int (wI x6), .int (wI (x7 + 1)), .int (wI ((max (x6 - x3) (-(x6 - x3))) + (max (x7 - x4) (-(x7 - x4))))), .int (wI (v10 / x5)), .int (wI (max 0 (min 40 (v10 / x5)))), .int (wI (max 0 (min 40 ((v10 / x5) + 1))))] [] S σ145 τ Q)) : wi (d + 9) 27 69 [.ref 77, .ref (x1 + 1), .int (wI x2), .int (wI x3), .int (wI x4), .int (wI x5), .int (wI x6), .int (wI x7), y8, y9, y10, y11] [] S σ τ Q := by
  obtain ⟨r1, t⟩ := t
  refine i3 c_27_69 rfl (i1 c_27_71 ?_)
  refine i37 c_27_73 r1 (by decide) rfl (fun hc => ?_) (fun hc => ?_)
  · have t := iT t hc
    have ha2 : (40 : Int) < x7 := hc
    refine i9 (L' := [.ref 77, .ref (x1 + 1), .int (wI x2), .int (wI x3), .int (wI x4), .int (wI x5), .int (wI (x6 + 1)), .int (wI x7), y8, y9, y10, y11]) c_27_185 rfl rfl (i38 c_27_188 rfl t)
  · have t := iF t hc
    have ha2 : ¬ ((40 : Int) < x7) := hc
    obtain ⟨r3, t⟩ := t
    obtain ⟨r4, t⟩ := t
    obtain ⟨a5, t⟩ := t
    obtain ⟨p6, t⟩ := t
    obtain ⟨p7, t⟩ := t
    obtain ⟨p8, t⟩ := t
    obtain ⟨p9, t⟩ := t
    refine i3 c_27_76 rfl (i3 c_27_78 rfl (i11 c_27_79 (i75 c_27_80 (Nat.le_of_ble_eq_true rfl) (by omega) r3 (i3 c_27_83 rfl (i3 c_27_85 rfl (i11 c_27_87 (i75 c_27_88 (Nat.le_of_ble_eq_true rfl) (by omega) r4 (i10 c_27_91 (i6 (L' := [.ref 77, .ref (x1 + 1), .int (wI x2), .int (wI x3), .int (wI x4), .int (wI x5), .int (wI x6), .int (wI x7), .int (wI ((max (x6 - x3) (-(x6 - x3))) + (max (x7 - x4) (-(x7 - x4))))), y9, y10, y11]) c_27_92 rfl (i5 c_27_94 rfl (i3 c_27_95 rfl (i3 c_27_97 rfl ?_))))))))))))
    refine i81 (As := [.ref (x1 + 1), .int (wI x6), .int (wI x7)]) (rest := []) c_27_99 mi_29 rfl rfl (Nat.le_of_ble_eq_true rfl) (Nat.le_of_ble_eq_true rfl) (q_29 (a := a5) hx1 p6 p7 p8 p9 (fun v10 q11 q12 => ?_))
    have t := t v10 q11 q12
    show wi (d + 9) 27 102 [.ref 77, .ref (x1 + 1), .int (wI x2), .int (wI x3), .int (wI x4), .int (wI x5), .int (wI x6), .int (wI x7), .int (wI ((max (x6 - x3) (-(x6 - x3))) + (max (x7 - x4) (-(x7 - x4))))), y9, y10, y11] [.int (wI v10)] S σ τ Q
    obtain ⟨r13, t⟩ := t
    obtain ⟨r14, t⟩ := t
    obtain ⟨y15, t⟩ := t
    obtain ⟨r16, t⟩ := t
    obtain ⟨r17, t⟩ := t
    obtain ⟨r18, t⟩ := t
    obtain ⟨a19, t⟩ := t
    obtain ⟨b020, t⟩ := t
    obtain ⟨b121, t⟩ := t
    obtain ⟨b222, t⟩ := t
    obtain ⟨Cv23, t⟩ := t
    obtain ⟨p24, t⟩ := t
    obtain ⟨p25, t⟩ := t
    obtain ⟨p26, t⟩ := t
    obtain ⟨p27, t⟩ := t
    obtain ⟨p28, t⟩ := t
    obtain ⟨r29, t⟩ := t
    refine i3 c_27_102 rfl (i72 c_27_104 (Nat.le_of_ble_eq_true rfl) (by omega) r13 r14 y15 (i6 (L' := [.ref 77, .ref (x1 + 1), .int (wI x2), .int (wI x3), .int (wI x4), .int (wI x5), .int (wI x6), .int (wI x7), .int (wI ((max (x6 - x3) (-(x6 - x3))) + (max (x7 - x4) (-(x7 - x4))))), .int (wI (v10 / x5)), y10, y11]) c_27_107 rfl (i1 c_27_109 (i1 c_27_110 (i3 c_27_112 rfl (i74 c_27_114 (Nat.le_of_ble_eq_true rfl) (by omega) (by decide) r16 (i73 c_27_117 (Nat.le_of_ble_eq_true rfl) (by omega) (by decide) (min_i (by decide) r16) (i6 (L' := [.ref 77, .ref (x1 + 1), .int (wI x2), .int (wI x3), .int (wI x4), .int (wI x5), .int (wI x6), .int (wI x7), .int (wI ((max (x6 - x3) (-(x6 - x3))) + (max (x7 - x4) (-(x7 - x4))))), .int (wI (v10 / x5)), .int (wI (max 0 (min 40 (v10 / x5)))), y11]) c_27_120 rfl (i1 c_27_122 (i1 c_27_123 (i3 c_27_125 rfl (i1 c_27_127 (i10 c_27_128 (i74 c_27_129 (Nat.le_of_ble_eq_true rfl) (by omega) (by decide) r17 (i73 c_27_132 (Nat.le_of_ble_eq_true rfl) (by omega) (by decide) (min_i (by decide) r17) (i6 (L' := [.ref 77, .ref (x1 + 1), .int (wI x2), .int (wI x3), .int (wI x4), .int (wI x5), .int (wI x6), .int (wI x7), .int (wI ((max (x6 - x3) (-(x6 - x3))) + (max (x7 - x4) (-(x7 - x4))))), .int (wI (v10 / x5)), .int (wI (max 0 (min 40 (v10 / x5)))), .int (wI (max 0 (min 40 ((v10 / x5) + 1))))]) c_27_135 rfl (i5 c_27_137 rfl (i5 c_27_138 rfl (i3 c_27_139 rfl (i3 c_27_141 rfl (i3 c_27_143 rfl (i3 c_27_145 rfl (i3 c_27_147 rfl (i3 c_27_149 rfl (i11 c_27_150 (i75 c_27_151 (Nat.le_of_ble_eq_true rfl) (by omega) r18 (i10 c_27_154 ?_)))))))))))))))))))))))))))
    refine i80 (As := [.ref (x1 + 1), .int (wI (max 0 (min 40 (v10 / x5)))), .int (wI x6), .int (wI x7), .int (wI (((max (x6 - x3) (-(x6 - x3))) + (max (x7 - x4) (-(x7 - x4)))) + (max ((max 0 (min 40 (v10 / x5))) - x2) (-((max 0 (min 40 (v10 / x5))) - x2)))))]) (rest := []) c_27_155 mi_30 rfl rfl (Nat.le_of_ble_eq_true rfl) (Nat.le_of_ble_eq_true rfl) (lo (c := 77) (kd := 102) (n := 0) rfl (by decide)) (q_30 (a := a19) (b0 := b020) (b1 := b121) (b2 := b222) (Cv := Cv23) hx1 p24 p25 p26 p8 p9 p27 p28 r29 (fun σ130 q31 q32 => ?_))
    have t := t σ130 q31 q32
    show wi (d + 9) 27 158 [.ref 77, .ref (x1 + 1), .int (wI x2), .int (wI x3), .int (wI x4), .int (wI x5), .int (wI x6), .int (wI x7), .int (wI ((max (x6 - x3) (-(x6 - x3))) + (max (x7 - x4) (-(x7 - x4))))), .int (wI (v10 / x5)), .int (wI (max 0 (min 40 (v10 / x5)))), .int (wI (max 0 (min 40 ((v10 / x5) + 1))))] [] S σ130 τ Q
    obtain ⟨r33, t⟩ := t
    obtain ⟨a34, t⟩ := t
    obtain ⟨b035, t⟩ := t
    obtain ⟨b136, t⟩ := t
    obtain ⟨b237, t⟩ := t
    obtain ⟨Cv38, t⟩ := t
    obtain ⟨p39, t⟩ := t
    obtain ⟨p40, t⟩ := t
    obtain ⟨p41, t⟩ := t
    obtain ⟨p42, t⟩ := t
    obtain ⟨p43, t⟩ := t
    obtain ⟨r44, t⟩ := t
    refine i5 c_27_158 rfl (i5 c_27_159 rfl (i3 c_27_160 rfl (i3 c_27_162 rfl (i3 c_27_164 rfl (i3 c_27_166 rfl (i3 c_27_168 rfl (i3 c_27_170 rfl (i11 c_27_171 (i75 c_27_172 (Nat.le_of_ble_eq_true rfl) (by omega) r33 (i10 c_27_175 ?_))))))))))
    refine i80 (As := [.ref (x1 + 1), .int (wI (max 0 (min 40 ((v10 / x5) + 1)))), .int (wI x6), .int (wI x7), .int (wI (((max (x6 - x3) (-(x6 - x3))) + (max (x7 - x4) (-(x7 - x4)))) + (max ((max 0 (min 40 ((v10 / x5) + 1))) - x2) (-((max 0 (min 40 ((v10 / x5) + 1))) - x2)))))]) (rest := []) c_27_176 mi_30 rfl rfl (Nat.le_of_ble_eq_true rfl) (Nat.le_of_ble_eq_true rfl) (lo (c := 77) (kd := 102) (n := 0) rfl (by decide)) (q_30 (a := a34) (b0 := b035) (b1 := b136) (b2 := b237) (Cv := Cv38) hx1 p39 p40 p41 p8 p9 p42 p43 r44 (fun σ145 q46 q47 => ?_))
    have t := t σ145 q46 q47
    show wi (d + 9) 27 179 [.ref 77, .ref (x1 + 1), .int (wI x2), .int (wI x3), .int (wI x4), .int (wI x5), .int (wI x6), .int (wI x7), .int (wI ((max (x6 - x3) (-(x6 - x3))) + (max (x7 - x4) (-(x7 - x4))))), .int (wI (v10 / x5)), .int (wI (max 0 (min 40 (v10 / x5)))), .int (wI (max 0 (min 40 ((v10 / x5) + 1))))] [] S σ145 τ Q
    refine i9 (L' := [.ref 77, .ref (x1 + 1), .int (wI x2), .int (wI x3), .int (wI x4), .int (wI x5), .int (wI x6), .int (wI (x7 + 1)), .int (wI ((max (x6 - x3) (-(x6 - x3))) + (max (x7 - x4) (-(x7 - x4))))), .int (wI (v10 / x5)), .int (wI (max 0 (min 40 (v10 / x5)))), .int (wI (max 0 (min 40 ((v10 / x5) + 1))))]) c_27_179 rfl rfl (i38 c_27_182 rfl t)
theorem q_27 {d : Nat} {S : zS} {σ τ : zI} {Q : zQ} {tn : Nat} {b0 : Int} {b1 : Int} {b2 : Int} {a : Int → Int} (htn : tw tn) (p0 : RT σ tn a) (p1 : jv_K a) (p2 : 0 ≤ b0 ∧ b0 ≤ (40 : Int)) (p3 : 0 ≤ b1 ∧ b1 ≤ (40 : Int)) (p4 : 0 ≤ b2 ∧ b2 ≤ (40 : Int)) (t : ∀ (σ1 : zI), F77 σ σ1 → (0 < r_wn a 6 → BE σ1 a b0 b1 b2 (fun _ y' z' => (0 ≤ y' ∧ y' ≤ 40) ∧ (0 ≤ z' ∧ z' ≤ 40))) → Q (some (.int (wI (if 0 < r_wn a 6 then 1 else 0)))) S σ1 τ) : wc (d + 9) 27 [.ref 77, .ref (tn + 1), .int (wI b0), .int (wI b1), .int (wI b2)] S σ τ Q := by
  have cn := cK p0
  have tb := tw_b htn
  have wb := r_wn_b a (n := 6) (by omega)
  refine wc_of mi_27 rfl (u_27_0 htn ?_)
  have inner : 0 < r_wn a 6 → ∀ x, 0 ≤ x → x ≤ 40 → (∀ σ1, F77 σ σ1 → BE σ1 a b0 b1 b2 (fun _ y' z' => (0 ≤ y' ∧ y' < x + 1) ∧ (0 ≤ z' ∧ z' ≤ 40)) → ∀ y7 y8 y9 y10 y11, wi (d + 9) 27 59 [.ref 77, .ref (tn + 1), .int (wI b0), .int (wI b1), .int (wI b2), .int (wI (r_wn a 6)), .int (wI (x + 1)), y7, y8, y9, y10, y11] [] S σ1 τ Q) → ∀ z, 0 ≤ z → z ≤ 41 → ∀ σ1, F77 σ σ1 → BE σ1 a b0 b1 b2 (fun _ y' z' => (0 ≤ z' ∧ z' ≤ 40) ∧ ((0 ≤ y' ∧ y' < x) ∨ y' = x ∧ z' < z)) → ∀ y8 y9 y10 y11, wi (d + 9) 27 69 [.ref 77, .ref (tn + 1), .int (wI b0), .int (wI b1), .int (wI b2), .int (wI (r_wn a 6)), .int (wI x), .int (wI z), y8, y9, y10, y11] [] S σ1 τ Q := fun w0 x x0 x1 out => by
    refine lp_up (fun z z0 z1 ih => ?_)
    intro σ1 f1 be y8 y9 y10 y11
    refine u_27_69 htn ⟨by omega, ifI (fun e => ?_) (fun e => ?_)⟩
    · refine out σ1 f1 (BE_to be (fun x' y' z' c => ⟨x', y', z', ⟨c.2, ?_⟩⟩) (fun x' y' z' hx hy hz c => Or.inl ⟨c.2, ?_⟩)) _ _ _ _ _
      · omega
      · omega
    · have rt : ∀ σ', F77 σ σ' → RT σ' tn a := fun σ' f => RT_σ (fun c c0 c1 => f c (by omega) (by omega)) p0
      refine ⟨by omega, by omega, a, rt σ1 f1, p1, by omega, by omega, fun L hL bL => ?_⟩
      have db := dv_b bL (w := r_wn a 6) (by omega)
      have bs := fun x' hx => r_bs p1 (x := x') (y := x) (z := z) (w := r_wn a 6) (L := L) rfl hL.symm (by omega) rfl rfl rfl hx
      generalize L / r_wn a 6 = B at *
      have lb : 0 ≤ max 0 (min 40 B) ∧ max 0 (min 40 B) ≤ 40 := by omega
      have ub : 0 ≤ max 0 (min 40 (B + 1)) ∧ max 0 (min 40 (B + 1)) ≤ 40 := by omega
      refine ⟨by omega, by omega, w0, by omega, by omega, by omega, a, b0, b1, b2, _, rt σ1 f1, p1, lb, be, ?_, by omega, fun σ2 f2 be2 => ?_⟩
      · unfold r_ch; omega
      have f2' : F77 σ σ2 := fun c h1 h2 => by rw [f2 c h1 h2, f1 c h1 h2]
      refine ⟨by omega, a, b0, b1, b2, _, rt σ2 f2', p1, ub, be2, ?_, by omega, fun σ3 f3 be3 => ?_⟩
      · unfold r_ch; omega
      refine ih (by omega) σ3 (fun c h1 h2 => by rw [f3 c h1 h2, f2' c h1 h2]) (BE_to be3 (fun x' y' z' c => ?_) (fun x' y' z' hx hy hz c => ?_)) _ _ _ _
      · exact ⟨_, _, _, Or.inr ⟨rfl, rfl, rfl⟩⟩
      · by_cases h : y' = x ∧ z' = z
        · obtain ⟨rfl, rfl⟩ := h
          rcases bs x' hx with (h1 | h1) | h1 | h1
          · exact Or.inl (Or.inl (Or.inr ⟨h1, rfl, rfl⟩))
          · exact Or.inl (Or.inr ⟨h1, rfl, rfl⟩)
          · exact Or.inr ⟨_, lb, Or.inl (Or.inr ⟨rfl, rfl, rfl⟩), h1⟩
          · exact Or.inr ⟨_, ub, Or.inr ⟨rfl, rfl, rfl⟩, h1⟩
        · exact Or.inl (Or.inl (Or.inl ⟨c.1, by omega⟩))
  have outer : 0 < r_wn a 6 → ∀ x, 0 ≤ x → x ≤ 41 → ∀ σ1, F77 σ σ1 → BE σ1 a b0 b1 b2 (fun _ y' z' => (0 ≤ y' ∧ y' < x) ∧ (0 ≤ z' ∧ z' ≤ 40)) → ∀ y7 y8 y9 y10 y11, wi (d + 9) 27 59 [.ref 77, .ref (tn + 1), .int (wI b0), .int (wI b1), .int (wI b2), .int (wI (r_wn a 6)), .int (wI x), y7, y8, y9, y10, y11] [] S σ1 τ Q := fun w0 => by
    refine lp_up (fun x x0 x1 ih => ?_)
    intro σ1 f1 be y7 y8 y9 y10 y11
    refine u_27_59 htn ⟨by omega, ifI (fun e => ?_) (fun e => ?_)⟩
    · have t := t σ1 f1 (fun _ => BE_to be (fun x' y' z' c => ⟨0, 0, 0, by omega⟩) (fun x' y' z' hx hy hz c => Or.inl (by omega)))
      rw [if_pos w0] at t
      exact t
    · refine inner w0 x x0 (by omega) (ih (by omega)) 0 (by omega) (by omega) σ1 f1 (BE_to be (fun x' y' z' c => ⟨x', y', z', by omega⟩) (fun x' y' z' hx hy hz c => Or.inl (by omega))) _ _ _ _
  have l1 : ∀ k, 0 ≤ k → k ≤ 6 → ∀ s, s = r_wn a k → ∀ y7 y8 y9 y10 y11, wi (d + 9) 27 6 [.ref 77, .ref (tn + 1), .int (wI b0), .int (wI b1), .int (wI b2), .int (wI s), .int (wI k), y7, y8, y9, y10, y11] [] S σ τ Q := by
    refine lp_up (fun k k0 k1 ih => ?_)
    intro s hs y7 y8 y9 y10 y11
    have b := r_wn_b a k0
    refine u_27_6 htn ?_
    rw [cn]
    refine ⟨by omega, ifI (fun e => ?_) (fun e => ?_)⟩
    · have : k = 6 := by omega
      subst this
      subst hs
      refine ⟨by omega, ifI (fun e1 => ?_) (fun e1 => ?_)⟩
      · refine outer e1 0 (by omega) (by omega) (uc σ 78 (u1 (σ 78) 3 (-1))) (fun c h1 h2 => uc_n h2) (Or.inl ⟨by rw [uc_s, u1_s], fun x' y' z' c => by omega⟩) _ _ _ _ _
      · have t := t σ (fun _ _ _ => rfl) (fun h => absurd h e1)
        rw [if_neg e1] at t
        exact t
    · have ih := ih (by omega)
      unfold r_wn at ih hs
      rw [sI_s k0, ← hs] at ih
      have v5 := vK5 p0 (r := k) (by omega)
      rw [cn] at v5
      rw [v5]
      refine ifI (fun c => ?_) (fun c => ?_)
      · rw [if_pos c] at ih; exact ih _ rfl _ _ _ _ _
      · rw [if_neg c] at ih; exact ih _ rfl _ _ _ _ _
  exact l1 0 (by omega) (by omega) 0 rfl _ _ _ _ _
