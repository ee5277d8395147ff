/-! ===== the class: made, loaf, THE SHEET, book, about (segments printed by wip/whole, contracts own work) ===== -/
theorem r_wn_p {a : Int → Int} : 0 < r_wn a 6 ↔ ∃ k, 0 ≤ k ∧ k < 6 ∧ a (20 + 8 * k + 6) ≠ -1 := by
  have key : ∀ n, 0 ≤ n → (0 < r_wn a n ↔ ∃ k, 0 ≤ k ∧ k < n ∧ a (20 + 8 * k + 6) ≠ -1) := by
    intro n n0
    obtain ⟨k, rfl⟩ := Int.eq_ofNat_of_zero_le n0
    induction k with
    | zero =>
      constructor
      · intro h
        have e : r_wn a ((0 : Nat) : Int) = 0 := rfl
        omega
      · rintro ⟨k, h1, h2, _⟩; omega
    | succ k ih =>
      have e : ((k + 1 : Nat) : Int) = (k : Int) + 1 := rfl
      have ih := ih (by omega)
      have b := r_wn_b a (n := (k : Int)) (by omega)
      have s : r_wn a ((k : Int) + 1) = r_wn a k + (if a (20 + 8 * (k : Int) + 6) = -1 then 0 else 1) := sI_s (by omega)
      rw [e, s]
      by_cases c : a (20 + 8 * (k : Int) + 6) = -1
      · rw [if_pos c, Int.add_zero, ih]
        constructor
        · rintro ⟨q, h1, h2, h3⟩; exact ⟨q, h1, by omega, h3⟩
        · rintro ⟨q, h1, h2, h3⟩
          refine ⟨q, h1, ?_, h3⟩
          by_cases h : q = k
          · subst h; exact absurd c h3
          · omega
      · rw [if_neg c]
        constructor
        · intro _; exact ⟨k, by omega, by omega, c⟩
        · intro _; omega
  exact key 6 (by omega)
/-- whether a list is made -/
def k_md (a : Int → Int) (b0 b1 b2 what : Int) : Prop := (0 ≤ b0 ∧ b0 ≤ 40) ∧ (0 ≤ b1 ∧ b1 ≤ 40) ∧ (0 ≤ b2 ∧ b2 ≤ 40) ∧ (0 ≤ what ∧ what ≤ 3) ∧ ∃ k, 0 ≤ k ∧ k < 6 ∧ a (20 + 8 * k + 6) ≠ -1
-- method 183: MillTown.made(IIII)I
theorem c_183_0 : pg_cd 183 0 = (3, 1, 0, 1, 0) := by decide +kernel
theorem c_183_1 : pg_cd 183 1 = (1, 1, 0, 0, 0) := by decide +kernel
theorem c_183_2 : pg_cd 183 2 = (1, 2, 0, 0, 40) := by decide +kernel
theorem c_183_4 : pg_cd 183 4 = (81, 141, 85, 0, 0) := by decide +kernel
theorem c_183_7 : pg_cd 183 7 = (36, 3, 0, 0, 37) := by decide +kernel
theorem c_183_10 : pg_cd 183 10 = (3, 1, 0, 2, 0) := by decide +kernel
theorem c_183_11 : pg_cd 183 11 = (1, 1, 0, 0, 0) := by decide +kernel
theorem c_183_12 : pg_cd 183 12 = (1, 2, 0, 0, 40) := by decide +kernel
theorem c_183_14 : pg_cd 183 14 = (81, 141, 85, 0, 0) := by decide +kernel
theorem c_183_17 : pg_cd 183 17 = (36, 3, 0, 0, 27) := by decide +kernel
theorem c_183_20 : pg_cd 183 20 = (3, 1, 0, 3, 0) := by decide +kernel
theorem c_183_21 : pg_cd 183 21 = (1, 1, 0, 0, 0) := by decide +kernel
theorem c_183_22 : pg_cd 183 22 = (1, 2, 0, 0, 40) := by decide +kernel
theorem c_183_24 : pg_cd 183 24 = (81, 141, 85, 0, 0) := by decide +kernel
theorem c_183_27 : pg_cd 183 27 = (36, 3, 0, 0, 17) := by decide +kernel
theorem c_183_30 : pg_cd 183 30 = (3, 2, 0, 4, 0) := by decide +kernel
theorem c_183_32 : pg_cd 183 32 = (1, 1, 0, 0, 0) := by decide +kernel
theorem c_183_33 : pg_cd 183 33 = (1, 1, 0, 0, 3) := by decide +kernel
theorem c_183_34 : pg_cd 183 34 = (81, 141, 85, 0, 0) := by decide +kernel
theorem c_183_37 : pg_cd 183 37 = (36, 3, 0, 0, 7) := by decide +kernel
theorem c_183_40 : pg_cd 183 40 = (1, 1, 0, 0, 1) := by decide +kernel
theorem c_183_41 : pg_cd 183 41 = (38, 3, 0, 0, 4) := by decide +kernel
theorem c_183_44 : pg_cd 183 44 = (1, 1, 0, 0, 0) := by decide +kernel
theorem c_183_45 : pg_cd 183 45 = (6, 2, 0, 5, 0) := by decide +kernel
theorem c_183_47 : pg_cd 183 47 = (3, 2, 0, 5, 0) := by decide +kernel
theorem c_183_49 : pg_cd 183 49 = (36, 3, 0, 0, 23) := by decide +kernel
theorem c_183_52 : pg_cd 183 52 = (5, 1, 0, 0, 0) := by decide +kernel
theorem c_183_53 : pg_cd 183 53 = (45, 11, 56, 8, 0) := by decide +kernel
theorem c_183_56 : pg_cd 183 56 = (5, 1, 0, 0, 0) := by decide +kernel
theorem c_183_57 : pg_cd 183 57 = (45, 11, 12, 0, 0) := by decide +kernel
theorem c_183_60 : pg_cd 183 60 = (45, 8, 288, 0, 0) := by decide +kernel
theorem c_183_63 : pg_cd 183 63 = (3, 1, 0, 1, 0) := by decide +kernel
theorem c_183_64 : pg_cd 183 64 = (3, 1, 0, 2, 0) := by decide +kernel
theorem c_183_65 : pg_cd 183 65 = (3, 1, 0, 3, 0) := by decide +kernel
theorem c_183_66 : pg_cd 183 66 = (80, 27, 291, 0, 0) := by decide +kernel
theorem c_183_69 : pg_cd 183 69 = (36, 3, 0, 1, 5) := by decide +kernel
theorem c_183_72 : pg_cd 183 72 = (1, 1, 0, 0, (-1)) := by decide +kernel
theorem c_183_73 : pg_cd 183 73 = (90, 0, 0, 0, 0) := by decide +kernel
theorem c_183_74 : pg_cd 183 74 = (5, 1, 0, 0, 0) := by decide +kernel
theorem c_183_75 : pg_cd 183 75 = (45, 11, 56, 8, 0) := by decide +kernel
theorem c_183_78 : pg_cd 183 78 = (3, 2, 0, 4, 0) := by decide +kernel
theorem c_183_80 : pg_cd 183 80 = (80, 26, 295, 0, 0) := by decide +kernel
theorem c_183_83 : pg_cd 183 83 = (90, 0, 0, 0, 0) := by decide +kernel
theorem mi_183 : pg_mc 183 = 11 ∧ pg_na 183 = 4 ∧ pg_mx 183 = 6 := by decide +kernel
set_option maxRecDepth 20000 in
theorem u_183_0 {d : Nat} {S : zS} {σ τ : zI} {Q : zQ} {x1 : Int} {x2 : Int} {x3 : Int} {x4 : Int} (t : (rg x1) ∧ if 0 ≤ x1 ∧ x1 ≤ 40 then ((rg x2) ∧ if 0 ≤ x2 ∧ x2 ≤ 40 then ((rg x3) ∧ if 0 ≤ x3 ∧ x3 ≤ 40 then ((rg x4) ∧ if 0 ≤ x4 ∧ x4 ≤ 3 then (∃ a9 : Int → Int, (RT σ 2 a9) ∧ (jv_K a9) ∧ (0 ≤ x1 ∧ x1 ≤ (40 : Int)) ∧ (0 ≤ x2 ∧ x2 ≤ (40 : Int)) ∧ (0 ≤ x3 ∧ x3 ≤ (40 : Int)) ∧ ∀ (σ115 : zI), F77 σ σ115 → (0 < r_wn a9 6 → BE σ115 a9 x1 x2 x3 (fun _ y' z' => (0 ≤ y' ∧ y' ≤ 40) ∧ (0 ≤ z' ∧ z' ≤ 40))) → if 0 < r_wn a9 6 then ((0 ≤ x4 ∧ x4 ≤ 3) ∧ Q (some (.int (wI (σ115 78 x4)))) S σ115 τ) else (Q (some (.int (wI (-1)))) S σ115 τ)) else (Q (some (.int (wI (-1)))) S σ τ)) else (Q (some (.int (wI (-1)))) S σ τ)) else (Q (some (.int (wI (-1)))) S σ τ)) else (Q (some (.int (wI (-1)))) S σ τ)) : wi (d + 10) 183 0 [.ref 1, .int (wI x1), .int (wI x2), .int (wI x3), .int (wI x4), .retAddr 0] [] S σ τ Q := by
  obtain ⟨r1, t⟩ := t
  refine i3 c_183_0 rfl (i1 c_183_1 (i1 c_183_2 ?_))
  refine i81 (As := [.int (wI x1), .int (wI 0), .int (wI 40)]) (rest := []) c_183_4 mi_141 rfl rfl (Nat.le_of_ble_eq_true rfl) (Nat.le_of_ble_eq_true rfl) (q_141 r1 (by decide) (by decide) ?_)
  show wi (d + 10) 183 7 [.ref 1, .int (wI x1), .int (wI x2), .int (wI x3), .int (wI x4), .retAddr 0] [.int (wI (if 0 ≤ x1 ∧ x1 ≤ 40 then 1 else 0))] S σ τ Q
  refine i36e c_183_7 rfl (fun hc => ?_) (fun hc => ?_)
  · have t := iT t hc
    have ha2 : 0 ≤ x1 ∧ x1 ≤ 40 := hc
    obtain ⟨r3, t⟩ := t
    refine i3 c_183_10 rfl (i1 c_183_11 (i1 c_183_12 ?_))
    refine i81 (As := [.int (wI x2), .int (wI 0), .int (wI 40)]) (rest := []) c_183_14 mi_141 rfl rfl (Nat.le_of_ble_eq_true rfl) (Nat.le_of_ble_eq_true rfl) (q_141 r3 (by decide) (by decide) ?_)
    show wi (d + 10) 183 17 [.ref 1, .int (wI x1), .int (wI x2), .int (wI x3), .int (wI x4), .retAddr 0] [.int (wI (if 0 ≤ x2 ∧ x2 ≤ 40 then 1 else 0))] S σ τ Q
    refine i36e c_183_17 rfl (fun hc => ?_) (fun hc => ?_)
    · have t := iT t hc
      have ha4 : 0 ≤ x2 ∧ x2 ≤ 40 := hc
      obtain ⟨r5, t⟩ := t
      refine i3 c_183_20 rfl (i1 c_183_21 (i1 c_183_22 ?_))
      refine i81 (As := [.int (wI x3), .int (wI 0), .int (wI 40)]) (rest := []) c_183_24 mi_141 rfl rfl (Nat.le_of_ble_eq_true rfl) (Nat.le_of_ble_eq_true rfl) (q_141 r5 (by decide) (by decide) ?_)
      show wi (d + 10) 183 27 [.ref 1, .int (wI x1), .int (wI x2), .int (wI x3), .int (wI x4), .retAddr 0] [.int (wI (if 0 ≤ x3 ∧ x3 ≤ 40 then 1 else 0))] S σ τ Q
      refine i36e c_183_27 rfl (fun hc => ?_) (fun hc => ?_)
      · have t := iT t hc
        have ha6 : 0 ≤ x3 ∧ x3 ≤ 40 := hc
        obtain ⟨r7, t⟩ := t
        refine i3 c_183_30 rfl (i1 c_183_32 (i1 c_183_33 ?_))
        refine i81 (As := [.int (wI x4), .int (wI 0), .int (wI 3)]) (rest := []) c_183_34 mi_141 rfl rfl (Nat.le_of_ble_eq_true rfl) (Nat.le_of_ble_eq_true rfl) (q_141 r7 (by decide) (by decide) ?_)
        show wi (d + 10) 183 37 [.ref 1, .int (wI x1), .int (wI x2), .int (wI x3), .int (wI x4), .retAddr 0] [.int (wI (if 0 ≤ x4 ∧ x4 ≤ 3 then 1 else 0))] S σ τ Q
        refine i36e c_183_37 rfl (fun hc => ?_) (fun hc => ?_)
        · have t := iT t hc
          have ha8 : 0 ≤ x4 ∧ x4 ≤ 3 := hc
          obtain ⟨a9, t⟩ := t
          obtain ⟨p10, t⟩ := t
          obtain ⟨p11, t⟩ := t
          obtain ⟨p12, t⟩ := t
          obtain ⟨p13, t⟩ := t
          obtain ⟨p14, t⟩ := t
          refine i1 c_183_40 (i38 c_183_41 rfl (i6 (L' := [.ref 1, .int (wI x1), .int (wI x2), .int (wI x3), .int (wI x4), .int (wI 1)]) c_183_45 rfl (i3 c_183_47 rfl (i36k (pc1 := 52) c_183_49 (by decide) (i5 c_183_52 rfl (i45 c_183_53 (lo (c := 1) (kd := 111) (n := 0) rfl (by decide)) (lro (c := 1) (k := 8) (j := 77) (by decide)) (i5 c_183_56 rfl (i45 c_183_57 (lo (c := 1) (kd := 111) (n := 0) rfl (by decide)) (lro (c := 1) (k := 0) (j := 2) (by decide)) (i45 c_183_60 (lo (c := 2) (kd := 108) (n := 0) rfl (by decide)) (lro (c := 2) (k := 0) (j := 3) (by decide)) (i3 c_183_63 rfl (i3 c_183_64 rfl (i3 c_183_65 rfl ?_))))))))))))
          refine i80 (As := [.ref 3, .int (wI x1), .int (wI x2), .int (wI x3)]) (rest := []) c_183_66 mi_27 rfl rfl (Nat.le_of_ble_eq_true rfl) (Nat.le_of_ble_eq_true rfl) (lo (c := 77) (kd := 102) (n := 0) rfl (by decide)) (q_27 (a := a9) tw_2 p10 p11 p12 p13 p14 (fun σ115 q16 q17 => ?_))
          have t := t σ115 q16 q17
          show wi (d + 10) 183 69 [.ref 1, .int (wI x1), .int (wI x2), .int (wI x3), .int (wI x4), .int (wI 1)] [.int (wI (if 0 < r_wn a9 6 then 1 else 0))] S σ115 τ Q
          refine i36f c_183_69 rfl (fun hc => ?_) (fun hc => ?_)
          · have t := iT t hc
            have ha18 : 0 < r_wn a9 6 := hc
            obtain ⟨p19, t⟩ := t
            refine i5 c_183_74 rfl (i45 c_183_75 (lo (c := 1) (kd := 111) (n := 0) rfl (by decide)) (lro (c := 1) (k := 8) (j := 77) (by decide)) (i3 c_183_78 rfl ?_))
            refine i80 (As := [.int (wI x4)]) (rest := []) c_183_80 mi_26 rfl rfl (Nat.le_of_ble_eq_true rfl) (Nat.le_of_ble_eq_true rfl) (lo (c := 77) (kd := 102) (n := 0) rfl (by decide)) (q_26 p19 ?_)
            show wi (d + 10) 183 83 [.ref 1, .int (wI x1), .int (wI x2), .int (wI x3), .int (wI x4), .int (wI 1)] [.int (wI (σ115 78 x4))] S σ115 τ Q
            exact i90 c_183_83 t
          · have t := iF t hc
            have ha18 : ¬ (0 < r_wn a9 6) := hc
            refine i1 c_183_72 ?_
            exact i90 c_183_73 t
        · have t := iF t hc
          have ha8 : ¬ (0 ≤ x4 ∧ x4 ≤ 3) := hc
          refine i1 c_183_44 (i6 (L' := [.ref 1, .int (wI x1), .int (wI x2), .int (wI x3), .int (wI x4), .int (wI 0)]) c_183_45 rfl (i3 c_183_47 rfl (i36k (pc1 := 72) c_183_49 (by decide) (i1 c_183_72 ?_))))
          exact i90 c_183_73 t
      · have t := iF t hc
        have ha6 : ¬ (0 ≤ x3 ∧ x3 ≤ 40) := hc
        refine i1 c_183_44 (i6 (L' := [.ref 1, .int (wI x1), .int (wI x2), .int (wI x3), .int (wI x4), .int (wI 0)]) c_183_45 rfl (i3 c_183_47 rfl (i36k (pc1 := 72) c_183_49 (by decide) (i1 c_183_72 ?_))))
        exact i90 c_183_73 t
    · have t := iF t hc
      have ha4 : ¬ (0 ≤ x2 ∧ x2 ≤ 40) := hc
      refine i1 c_183_44 (i6 (L' := [.ref 1, .int (wI x1), .int (wI x2), .int (wI x3), .int (wI x4), .int (wI 0)]) c_183_45 rfl (i3 c_183_47 rfl (i36k (pc1 := 72) c_183_49 (by decide) (i1 c_183_72 ?_))))
      exact i90 c_183_73 t
  · have t := iF t hc
    have ha2 : ¬ (0 ≤ x1 ∧ x1 ≤ 40) := hc
    refine i1 c_183_44 (i6 (L' := [.ref 1, .int (wI x1), .int (wI x2), .int (wI x3), .int (wI x4), .int (wI 0)]) c_183_45 rfl (i3 c_183_47 rfl (i36k (pc1 := 72) c_183_49 (by decide) (i1 c_183_72 ?_))))
    exact i90 c_183_73 t
theorem q_183 {d : Nat} {S : zS} {σ τ : zI} {Q : zQ} {b0 : Int} {b1 : Int} {b2 : Int} {what : Int} {a : Int → Int} (p0 : RT σ 2 a) (p1 : jv_K a) (p2 : rg b0) (p3 : rg b1) (p4 : rg b2) (p5 : rg what) (t : ∀ (v : Int) (σ1 : zI), F77 σ σ1 → (k_md a b0 b1 b2 what → MD a b0 b1 b2 what v) → (¬ k_md a b0 b1 b2 what → v = -1) → Q (some (.int (wI v))) S σ1 τ) : wc (d + 10) 183 [.ref 1, .int (wI b0), .int (wI b1), .int (wI b2), .int (wI what)] S σ τ Q := by
  refine wc_of mi_183 rfl (u_183_0 ?_)
  have no : ¬ (k_md a b0 b1 b2 what) → ∀ σ1, F77 σ σ1 → Q (some (.int (wI (-1)))) S σ1 τ := fun h σ1 f => t (-1) σ1 f (fun q => absurd q h) (fun _ => rfl)
  have n0 : ¬ (k_md a b0 b1 b2 what) → Q (some (.int (wI (-1)))) S σ τ := fun h => no h σ (fun _ _ _ => rfl)
  refine ⟨p2, ifI (fun e1 => ⟨p3, ifI (fun e2 => ⟨p4, ifI (fun e3 => ⟨p5, ifI (fun e4 => ?_) (fun e4 => n0 (fun q => e4 q.2.2.2.1))⟩) (fun e3 => n0 (fun q => e3 q.2.2.1))⟩) (fun e2 => n0 (fun q => e2 q.2.1))⟩) (fun e1 => n0 (fun q => e1 q.1))⟩
  refine ⟨a, p0, p1, e1, e2, e3, fun σ1 f1 be => ifI (fun e5 => ⟨e4, ?_⟩) (fun e5 => no (fun q => e5 (r_wn_p.mpr q.2.2.2.2)) σ1 f1)⟩
  have km : k_md a b0 b1 b2 what := ⟨e1, e2, e3, e4, r_wn_p.mp e5⟩
  refine t _ σ1 f1 (fun _ => ?_) (fun n => absurd km n)
  rcases be e5 with q | q
  · exact absurd (⟨⟨by decide, by decide⟩, ⟨by decide, by decide⟩⟩) (q.2 0 0 0)
  · refine ⟨σ1 78 0, σ1 78 1, σ1 78 2, ⟨q.1, fun x y z hx hy hz => ?_⟩, ?_⟩
    · have := q.2.2.2 x y z hx hy hz ⟨hy, hz⟩
      rw [q.2.1, q.2.2.1] at this
      exact this
    · rw [← q.2.1]
      by_cases h0 : what = 0
      · rw [if_pos h0, h0]
      · rw [if_neg h0]
        by_cases h1 : what = 1
        · rw [if_pos h1, h1]
        · rw [if_neg h1]
          by_cases h2 : what = 2
          · rw [if_pos h2, h2]
          · rw [if_neg h2, show what = 3 by omega]
-- method 186: MillTown.loaf(II)I
theorem c_186_0 : pg_cd 186 0 = (3, 1, 0, 1, 0) := by decide +kernel
theorem c_186_1 : pg_cd 186 1 = (36, 3, 0, 2, 23) := by decide +kernel
theorem c_186_4 : pg_cd 186 4 = (3, 1, 0, 1, 0) := by decide +kernel
theorem c_186_5 : pg_cd 186 5 = (5, 1, 0, 0, 0) := by decide +kernel
theorem c_186_6 : pg_cd 186 6 = (45, 11, 12, 0, 0) := by decide +kernel
theorem c_186_9 : pg_cd 186 9 = (43, 8, 311, 10, 0) := by decide +kernel
theorem c_186_12 : pg_cd 186 12 = (37, 3, 0, 3, 12) := by decide +kernel
theorem c_186_15 : pg_cd 186 15 = (3, 1, 0, 2, 0) := by decide +kernel
theorem c_186_16 : pg_cd 186 16 = (1, 1, 0, 0, 0) := by decide +kernel
theorem c_186_17 : pg_cd 186 17 = (1, 1, 0, 0, 4) := by decide +kernel
theorem c_186_18 : pg_cd 186 18 = (81, 141, 85, 0, 0) := by decide +kernel
theorem c_186_21 : pg_cd 186 21 = (36, 3, 0, 1, 5) := by decide +kernel
theorem c_186_24 : pg_cd 186 24 = (1, 1, 0, 0, (-1)) := by decide +kernel
theorem c_186_25 : pg_cd 186 25 = (90, 0, 0, 0, 0) := by decide +kernel
theorem c_186_26 : pg_cd 186 26 = (5, 1, 0, 0, 0) := by decide +kernel
theorem c_186_27 : pg_cd 186 27 = (45, 11, 38, 5, 0) := by decide +kernel
theorem c_186_30 : pg_cd 186 30 = (5, 1, 0, 0, 0) := by decide +kernel
theorem c_186_31 : pg_cd 186 31 = (45, 11, 12, 0, 0) := by decide +kernel
theorem c_186_34 : pg_cd 186 34 = (3, 1, 0, 1, 0) := by decide +kernel
theorem c_186_35 : pg_cd 186 35 = (3, 1, 0, 2, 0) := by decide +kernel
theorem c_186_36 : pg_cd 186 36 = (80, 5, 314, 0, 0) := by decide +kernel
theorem c_186_39 : pg_cd 186 39 = (90, 0, 0, 0, 0) := by decide +kernel
theorem mi_186 : pg_mc 186 = 11 ∧ pg_na 186 = 2 ∧ pg_mx 186 = 3 := by decide +kernel
set_option maxRecDepth 20000 in
theorem u_186_0 {d : Nat} {S : zS} {σ τ : zI} {Q : zQ} {x1 : Int} {x2 : Int} (t : (rg x1) ∧ if x1 < 0 then (Q (some (.int (wI (-1)))) S σ τ) else (if (σ 2 10) ≤ x1 then (Q (some (.int (wI (-1)))) S σ τ) else ((rg x2) ∧ if 0 ≤ x2 ∧ x2 ≤ 4 then (∃ a7 : Int → Int, (BX S σ a7) ∧ (RT σ 2 a7) ∧ (jv_C a7) ∧ (jv_B a7) ∧ (0 ≤ x1 ∧ x1 < a7 15) ∧ (0 ≤ x2 ∧ x2 ≤ (4 : Int)) ∧ ∀ (v14 : Int), LF a7 x1 x2 v14 → Q (some (.int (wI v14))) S σ τ) else (Q (some (.int (wI (-1)))) S σ τ)))) : wi (d + 4) 186 0 [.ref 1, .int (wI x1), .int (wI x2)] [] S σ τ Q := by
  obtain ⟨r1, t⟩ := t
  refine i3 c_186_0 rfl ?_
  refine i36 c_186_1 r1 rfl (fun hc => ?_) (fun hc => ?_)
  · have t := iT t hc
    have ha2 : x1 < 0 := hc
    refine i1 c_186_24 ?_
    exact i90 c_186_25 t
  · have t := iF t hc
    have ha2 : ¬ (x1 < 0) := hc
    refine i3 c_186_4 rfl (i5 c_186_5 rfl (i45 c_186_6 (lo (c := 1) (kd := 111) (n := 0) rfl (by decide)) (lro (c := 1) (k := 0) (j := 2) (by decide)) (wi_ok (fun K3 => ?_))))
    refine i43 (v := σ 2 10) c_186_9 (lo (c := 2) (kd := 108) (n := 0) rfl (by decide)) rfl ?_
    refine i37 c_186_12 r1 (rge_ K3 rfl) rfl (fun hc => ?_) (fun hc => ?_)
    · have t := iT t hc
      have ha4 : (σ 2 10) ≤ x1 := hc
      refine i1 c_186_24 ?_
      exact i90 c_186_25 t
    · have t := iF t hc
      have ha4 : ¬ ((σ 2 10) ≤ x1) := hc
      obtain ⟨r5, t⟩ := t
      refine i3 c_186_15 rfl (i1 c_186_16 (i1 c_186_17 ?_))
      refine i81 (As := [.int (wI x2), .int (wI 0), .int (wI 4)]) (rest := []) c_186_18 mi_141 rfl rfl (Nat.le_of_ble_eq_true rfl) (Nat.le_of_ble_eq_true rfl) (q_141 r5 (by decide) (by decide) ?_)
      show wi (d + 4) 186 21 [.ref 1, .int (wI x1), .int (wI x2)] [.int (wI (if 0 ≤ x2 ∧ x2 ≤ 4 then 1 else 0))] S σ τ Q
      refine i36f c_186_21 rfl (fun hc => ?_) (fun hc => ?_)
      · have t := iT t hc
        have ha6 : 0 ≤ x2 ∧ x2 ≤ 4 := hc
        obtain ⟨a7, t⟩ := t
        obtain ⟨p8, t⟩ := t
        obtain ⟨p9, t⟩ := t
        obtain ⟨p10, t⟩ := t
        obtain ⟨p11, t⟩ := t
        obtain ⟨p12, t⟩ := t
        obtain ⟨p13, t⟩ := t
        refine i5 c_186_26 rfl (i45 c_186_27 (lo (c := 1) (kd := 111) (n := 0) rfl (by decide)) (lro (c := 1) (k := 5) (j := 58) (by decide)) (i5 c_186_30 rfl (i45 c_186_31 (lo (c := 1) (kd := 111) (n := 0) rfl (by decide)) (lro (c := 1) (k := 0) (j := 2) (by decide)) (i3 c_186_34 rfl (i3 c_186_35 rfl ?_)))))
        refine i80 (As := [.ref 2, .int (wI x1), .int (wI x2)]) (rest := []) c_186_36 mi_5 rfl rfl (Nat.le_of_ble_eq_true rfl) (Nat.le_of_ble_eq_true rfl) (lo (c := 58) (kd := 100) (n := 0) rfl (by decide)) (q_5 (a := a7) tw_2 p8 p9 p10 p11 p12 p13 r1 (fun v14 q15 => ?_))
        have t := t v14 q15
        show wi (d + 4) 186 39 [.ref 1, .int (wI x1), .int (wI x2)] [.int (wI v14)] S σ τ Q
        exact i90 c_186_39 t
      · have t := iF t hc
        have ha6 : ¬ (0 ≤ x2 ∧ x2 ≤ 4) := hc
        refine i1 c_186_24 ?_
        exact i90 c_186_25 t
theorem q_186 {d : Nat} {S : zS} {σ τ : zI} {Q : zQ} {i : Int} {what : Int} {a : Int → Int} (p0 : RT σ 2 a) (p1 : BX S σ a) (p2 : jv_C a) (p3 : jv_B a) (p4 : rg i) (p5 : rg what) (t : ∀ (v : Int), ((0 ≤ i ∧ i < a 15) ∧ (0 ≤ what ∧ what ≤ 4) → LF a i what v) → (¬ ((0 ≤ i ∧ i < a 15) ∧ (0 ≤ what ∧ what ≤ 4)) → v = -1) → Q (some (.int (wI v))) S σ τ) : wc (d + 4) 186 [.ref 1, .int (wI i), .int (wI what)] S σ τ Q := by
  refine wc_of mi_186 rfl (u_186_0 ?_)
  have c15 : σ 2 10 = a 15 := (tS p0).2.2.1
  rw [c15]
  refine ⟨p4, ifI (fun e => ?_) (fun e => ifI (fun e2 => ?_) (fun e2 => ⟨p5, ifI (fun e3 => ?_) (fun e3 => ?_)⟩))⟩
  · exact t (-1) (fun h => by omega) (fun _ => rfl)
  · exact t (-1) (fun h => by omega) (fun _ => rfl)
  · exact ⟨a, p1, p0, p2, p3, by omega, e3, fun v hv => t v (fun _ => hv) (fun h => by omega)⟩
  · exact t (-1) (fun h => by omega) (fun _ => rfl)
-- method 187: MillTown.sheet(I)Z
theorem c_187_0 : pg_cd 187 0 = (5, 1, 0, 0, 0) := by decide +kernel
theorem c_187_1 : pg_cd 187 1 = (3, 1, 0, 1, 0) := by decide +kernel
theorem c_187_2 : pg_cd 187 2 = (80, 176, 247, 0, 0) := by decide +kernel
theorem c_187_5 : pg_cd 187 5 = (36, 3, 0, 1, 5) := by decide +kernel
theorem c_187_8 : pg_cd 187 8 = (1, 1, 0, 0, 0) := by decide +kernel
theorem c_187_9 : pg_cd 187 9 = (91, 0, 0, 0, 0) := by decide +kernel
theorem c_187_10 : pg_cd 187 10 = (5, 1, 0, 0, 0) := by decide +kernel
theorem c_187_11 : pg_cd 187 11 = (45, 11, 63, 9, 0) := by decide +kernel
theorem c_187_14 : pg_cd 187 14 = (5, 1, 0, 0, 0) := by decide +kernel
theorem c_187_15 : pg_cd 187 15 = (45, 11, 38, 5, 0) := by decide +kernel
theorem c_187_18 : pg_cd 187 18 = (5, 1, 0, 0, 0) := by decide +kernel
theorem c_187_19 : pg_cd 187 19 = (45, 11, 12, 0, 0) := by decide +kernel
theorem c_187_22 : pg_cd 187 22 = (3, 1, 0, 1, 0) := by decide +kernel
theorem c_187_23 : pg_cd 187 23 = (80, 76, 318, 0, 0) := by decide +kernel
theorem c_187_26 : pg_cd 187 26 = (1, 1, 0, 0, 1) := by decide +kernel
theorem c_187_27 : pg_cd 187 27 = (91, 0, 0, 0, 0) := by decide +kernel
theorem mi_187 : pg_mc 187 = 11 ∧ pg_na 187 = 1 ∧ pg_mx 187 = 2 := by decide +kernel
set_option maxRecDepth 20000 in
theorem u_187_0 {d : Nat} {S : zS} {σ τ : zI} {Q : zQ} {x1 : Int} (t : (rg x1) ∧ if 0 ≤ x1 ∧ x1 < σ 2 8 then (∃ a3 : Int → Int, (0 ≤ x1 ∧ x1 < a3 0) ∧ (BX S σ a3) ∧ (RT σ 2 a3) ∧ (Jv a3) ∧ (jv_B a3) ∧ Q (some (.int (wI 1))) S (uc (uc σ 79 (u1 ((σ 79)) 2 x1)) 80 (fg (r_sh a3 x1) ((σ 80)) 192)) τ) else (Q (some (.int (wI 0))) S σ τ)) : wi (d + 4) 187 0 [.ref 1, .int (wI x1)] [] S σ τ Q := by
  obtain ⟨r1, t⟩ := t
  refine i5 c_187_0 rfl (i3 c_187_1 rfl ?_)
  refine i80 (As := [.int (wI x1)]) (rest := []) c_187_2 mi_176 rfl rfl (Nat.le_of_ble_eq_true rfl) (Nat.le_of_ble_eq_true rfl) (lo (c := 1) (kd := 111) (n := 0) rfl (by decide)) (q_176 r1 ?_)
  show wi (d + 4) 187 5 [.ref 1, .int (wI x1)] [.int (wI (if 0 ≤ x1 ∧ x1 < σ 2 8 then 1 else 0))] S σ τ Q
  refine i36f c_187_5 rfl (fun hc => ?_) (fun hc => ?_)
  · have t := iT t hc
    have ha2 : 0 ≤ x1 ∧ x1 < σ 2 8 := hc
    obtain ⟨a3, t⟩ := t
    obtain ⟨p4, t⟩ := t
    obtain ⟨p5, t⟩ := t
    obtain ⟨p6, t⟩ := t
    obtain ⟨p7, t⟩ := t
    obtain ⟨p8, t⟩ := t
    refine i5 c_187_10 rfl (i45 c_187_11 (lo (c := 1) (kd := 111) (n := 0) rfl (by decide)) (lro (c := 1) (k := 9) (j := 79) (by decide)) (i5 c_187_14 rfl (i45 c_187_15 (lo (c := 1) (kd := 111) (n := 0) rfl (by decide)) (lro (c := 1) (k := 5) (j := 58) (by decide)) (i5 c_187_18 rfl (i45 c_187_19 (lo (c := 1) (kd := 111) (n := 0) rfl (by decide)) (lro (c := 1) (k := 0) (j := 2) (by decide)) (i3 c_187_22 rfl ?_))))))
    refine i80 (As := [.ref 58, .ref 2, .int (wI x1)]) (rest := []) c_187_23 mi_76 rfl rfl (Nat.le_of_ble_eq_true rfl) (Nat.le_of_ble_eq_true rfl) (lo (c := 79) (kd := 106) (n := 0) rfl (by decide)) (q_76 (a := a3) tw_2 p4 p5 p6 p7 p8 ?_)
    show wi (d + 4) 187 26 [.ref 1, .int (wI x1)] [] S (uc (uc σ 79 (u1 ((σ 79)) 2 x1)) 80 (fg (r_sh a3 x1) ((σ 80)) 192)) τ Q
    refine i1 c_187_26 ?_
    exact i91 c_187_27 (by decide) t
  · have t := iF t hc
    have ha2 : ¬ (0 ≤ x1 ∧ x1 < σ 2 8) := hc
    refine i1 c_187_8 ?_
    exact i91 c_187_9 (by decide) t
theorem q_187 {d : Nat} {S : zS} {σ τ : zI} {Q : zQ} {week : Int} {a : Int → Int} (p0 : RT σ 2 a) (p1 : BX S σ a) (p2 : Jv a) (p3 : jv_B a) (p4 : rg week) (t : Q (some (.int (wI (if 0 ≤ week ∧ week < a 0 then 1 else 0)))) S (uc (uc σ 79 (if 0 ≤ week ∧ week < a 0 then u1 (σ 79) 2 week else σ 79)) 80 (if 0 ≤ week ∧ week < a 0 then fg (r_sh a week) (σ 80) 192 else σ 80)) τ) : wc (d + 4) 187 [.ref 1, .int (wI week)] S σ τ Q := by
  refine wc_of mi_187 rfl (u_187_0 ?_)
  have c0 : σ 2 8 = a 0 := (tS p0).1
  rw [c0]
  refine ⟨p4, ifI (fun e => ?_) (fun e => ?_)⟩
  · rw [if_pos e, if_pos e, if_pos e] at t
    exact ⟨a, e, p1, p0, p2, p3, t⟩
  · rw [if_neg e, if_neg e, if_neg e, uc_id, uc_id] at t
    exact t
-- method 188: MillTown.onSheet(II)I
theorem c_188_0 : pg_cd 188 0 = (5, 1, 0, 0, 0) := by decide +kernel
theorem c_188_1 : pg_cd 188 1 = (45, 11, 63, 9, 0) := by decide +kernel
theorem c_188_4 : pg_cd 188 4 = (80, 75, 322, 0, 0) := by decide +kernel
theorem c_188_7 : pg_cd 188 7 = (36, 3, 0, 0, 15) := by decide +kernel
theorem c_188_10 : pg_cd 188 10 = (5, 1, 0, 0, 0) := by decide +kernel
theorem c_188_11 : pg_cd 188 11 = (45, 11, 63, 9, 0) := by decide +kernel
theorem c_188_14 : pg_cd 188 14 = (3, 1, 0, 1, 0) := by decide +kernel
theorem c_188_15 : pg_cd 188 15 = (3, 1, 0, 2, 0) := by decide +kernel
theorem c_188_16 : pg_cd 188 16 = (80, 77, 326, 0, 0) := by decide +kernel
theorem c_188_19 : pg_cd 188 19 = (38, 3, 0, 0, 4) := by decide +kernel
theorem c_188_22 : pg_cd 188 22 = (1, 1, 0, 0, (-1)) := by decide +kernel
theorem c_188_23 : pg_cd 188 23 = (90, 0, 0, 0, 0) := by decide +kernel
theorem mi_188 : pg_mc 188 = 11 ∧ pg_na 188 = 2 ∧ pg_mx 188 = 3 := by decide +kernel
set_option maxRecDepth 20000 in
theorem u_188_0 {d : Nat} {S : zS} {σ τ : zI} {Q : zQ} {x1 : Int} {x2 : Int} (t : if ¬ σ 79 2 = -1 then ((rg x1) ∧ (rg x2) ∧ Q (some (.int (wI (if (0 ≤ x1 ∧ x1 ≤ 7) ∧ (0 ≤ x2 ∧ x2 ≤ 23) then σ 80 (x1 * 24 + x2) else -1)))) S σ τ) else (Q (some (.int (wI (-1)))) S σ τ)) : wi (d + 2) 188 0 [.ref 1, .int (wI x1), .int (wI x2)] [] S σ τ Q := by
  refine i5 c_188_0 rfl (i45 c_188_1 (lo (c := 1) (kd := 111) (n := 0) rfl (by decide)) (lro (c := 1) (k := 9) (j := 79) (by decide)) ?_)
  refine i80 (As := []) (rest := []) c_188_4 mi_75 rfl rfl (Nat.le_of_ble_eq_true rfl) (Nat.le_of_ble_eq_true rfl) (lo (c := 79) (kd := 106) (n := 0) rfl (by decide)) (q_75 ?_)
  show wi (d + 2) 188 7 [.ref 1, .int (wI x1), .int (wI x2)] [.int (wI (if ¬ σ 79 2 = -1 then 1 else 0))] S σ τ Q
  refine i36e c_188_7 rfl (fun hc => ?_) (fun hc => ?_)
  · have t := iT t hc
    have ha1 : ¬ σ 79 2 = -1 := hc
    obtain ⟨r2, t⟩ := t
    obtain ⟨r3, t⟩ := t
    refine i5 c_188_10 rfl (i45 c_188_11 (lo (c := 1) (kd := 111) (n := 0) rfl (by decide)) (lro (c := 1) (k := 9) (j := 79) (by decide)) (i3 c_188_14 rfl (i3 c_188_15 rfl ?_)))
    refine i80 (As := [.int (wI x1), .int (wI x2)]) (rest := []) c_188_16 mi_77 rfl rfl (Nat.le_of_ble_eq_true rfl) (Nat.le_of_ble_eq_true rfl) (lo (c := 79) (kd := 106) (n := 0) rfl (by decide)) (q_77 r2 r3 ?_)
    show wi (d + 2) 188 19 [.ref 1, .int (wI x1), .int (wI x2)] [.int (wI (if (0 ≤ x1 ∧ x1 ≤ 7) ∧ (0 ≤ x2 ∧ x2 ≤ 23) then σ 80 (x1 * 24 + x2) else -1))] S σ τ Q
    refine i38 c_188_19 rfl ?_
    exact i90 c_188_23 t
  · have t := iF t hc
    have ha1 : ¬ (¬ σ 79 2 = -1) := hc
    refine i1 c_188_22 ?_
    exact i90 c_188_23 t
theorem q_188 {d : Nat} {S : zS} {σ τ : zI} {Q : zQ} {mill : Int} {home : Int} (p0 : rg mill) (p1 : rg home) (t : Q (some (.int (wI (if ((0 ≤ mill ∧ mill ≤ 7) ∧ (0 ≤ home ∧ home ≤ 23)) ∧ ¬ σ 79 2 = -1 then σ 80 (mill * 24 + home) else -1)))) S σ τ) : wc (d + 2) 188 [.ref 1, .int (wI mill), .int (wI home)] S σ τ Q := by
  refine wc_of mi_188 rfl (u_188_0 (ifI (fun e => ⟨p0, p1, ?_⟩) (fun e => ?_)))
  · by_cases c : (0 ≤ mill ∧ mill ≤ 7) ∧ (0 ≤ home ∧ home ≤ 23)
    · rw [if_pos ⟨c, e⟩] at t
      rw [if_pos c]; exact t
    · rw [if_neg (fun h => c h.1)] at t
      rw [if_neg c]; exact t
  · rw [if_neg (fun h => e h.2)] at t
    exact t
-- method 189: MillTown.alter(III)Z
theorem c_189_0 : pg_cd 189 0 = (5, 1, 0, 0, 0) := by decide +kernel
theorem c_189_1 : pg_cd 189 1 = (45, 11, 63, 9, 0) := by decide +kernel
theorem c_189_4 : pg_cd 189 4 = (80, 75, 322, 0, 0) := by decide +kernel
theorem c_189_7 : pg_cd 189 7 = (36, 3, 0, 0, 24) := by decide +kernel
theorem c_189_10 : pg_cd 189 10 = (3, 1, 0, 3, 0) := by decide +kernel
theorem c_189_11 : pg_cd 189 11 = (36, 3, 0, 0, 20) := by decide +kernel
theorem c_189_14 : pg_cd 189 14 = (5, 1, 0, 0, 0) := by decide +kernel
theorem c_189_15 : pg_cd 189 15 = (45, 11, 63, 9, 0) := by decide +kernel
theorem c_189_18 : pg_cd 189 18 = (3, 1, 0, 1, 0) := by decide +kernel
theorem c_189_19 : pg_cd 189 19 = (3, 1, 0, 2, 0) := by decide +kernel
theorem c_189_20 : pg_cd 189 20 = (3, 1, 0, 3, 0) := by decide +kernel
theorem c_189_21 : pg_cd 189 21 = (80, 78, 327, 0, 0) := by decide +kernel
theorem c_189_24 : pg_cd 189 24 = (36, 3, 0, 0, 7) := by decide +kernel
theorem c_189_27 : pg_cd 189 27 = (1, 1, 0, 0, 1) := by decide +kernel
theorem c_189_28 : pg_cd 189 28 = (38, 3, 0, 0, 4) := by decide +kernel
theorem c_189_31 : pg_cd 189 31 = (1, 1, 0, 0, 0) := by decide +kernel
theorem c_189_32 : pg_cd 189 32 = (91, 0, 0, 0, 0) := by decide +kernel
theorem mi_189 : pg_mc 189 = 11 ∧ pg_na 189 = 3 ∧ pg_mx 189 = 4 := by decide +kernel
set_option maxRecDepth 20000 in
theorem u_189_0 {d : Nat} {S : zS} {σ τ : zI} {Q : zQ} {x1 : Int} {x2 : Int} {x3 : Int} (t : if ¬ σ 79 2 = -1 then ((rg x3) ∧ if x3 = 0 then (Q (some (.int (wI 0))) S σ τ) else ((rg x1) ∧ (rg x2) ∧ if (0 ≤ x1 ∧ x1 ≤ 7) ∧ (0 ≤ x2 ∧ x2 ≤ 23) then (Q (some (.int (wI 1))) S (uc σ 80 (if (0 ≤ x1 ∧ x1 ≤ 7) ∧ (0 ≤ x2 ∧ x2 ≤ 23) then u1 ((σ 80)) (x1 * 24 + x2) (zxor ((σ 80) (x1 * 24 + x2)) x3) else (σ 80))) τ) else (Q (some (.int (wI 0))) S (uc σ 80 (if (0 ≤ x1 ∧ x1 ≤ 7) ∧ (0 ≤ x2 ∧ x2 ≤ 23) then u1 ((σ 80)) (x1 * 24 + x2) (zxor ((σ 80) (x1 * 24 + x2)) x3) else (σ 80))) τ))) else (Q (some (.int (wI 0))) S σ τ)) : wi (d + 2) 189 0 [.ref 1, .int (wI x1), .int (wI x2), .int (wI x3)] [] S σ τ Q := by
  refine i5 c_189_0 rfl (i45 c_189_1 (lo (c := 1) (kd := 111) (n := 0) rfl (by decide)) (lro (c := 1) (k := 9) (j := 79) (by decide)) ?_)
  refine i80 (As := []) (rest := []) c_189_4 mi_75 rfl rfl (Nat.le_of_ble_eq_true rfl) (Nat.le_of_ble_eq_true rfl) (lo (c := 79) (kd := 106) (n := 0) rfl (by decide)) (q_75 ?_)
  show wi (d + 2) 189 7 [.ref 1, .int (wI x1), .int (wI x2), .int (wI x3)] [.int (wI (if ¬ σ 79 2 = -1 then 1 else 0))] S σ τ Q
  refine i36e c_189_7 rfl (fun hc => ?_) (fun hc => ?_)
  · have t := iT t hc
    have ha1 : ¬ σ 79 2 = -1 := hc
    obtain ⟨r2, t⟩ := t
    refine i3 c_189_10 rfl ?_
    refine i36 c_189_11 r2 rfl (fun hc => ?_) (fun hc => ?_)
    · have t := iT t hc
      have ha3 : x3 = 0 := hc
      refine i1 c_189_31 ?_
      exact i91 c_189_32 (by decide) t
    · have t := iF t hc
      have ha3 : ¬ (x3 = 0) := hc
      obtain ⟨r4, t⟩ := t
      obtain ⟨r5, t⟩ := t
      refine i5 c_189_14 rfl (i45 c_189_15 (lo (c := 1) (kd := 111) (n := 0) rfl (by decide)) (lro (c := 1) (k := 9) (j := 79) (by decide)) (i3 c_189_18 rfl (i3 c_189_19 rfl (i3 c_189_20 rfl ?_))))
      refine i80 (As := [.int (wI x1), .int (wI x2), .int (wI x3)]) (rest := []) c_189_21 mi_78 rfl rfl (Nat.le_of_ble_eq_true rfl) (Nat.le_of_ble_eq_true rfl) (lo (c := 79) (kd := 106) (n := 0) rfl (by decide)) (q_78 r4 r5 ?_)
      show wi (d + 2) 189 24 [.ref 1, .int (wI x1), .int (wI x2), .int (wI x3)] [.int (wI (if (0 ≤ x1 ∧ x1 ≤ 7) ∧ (0 ≤ x2 ∧ x2 ≤ 23) then 1 else 0))] S (uc σ 80 (if (0 ≤ x1 ∧ x1 ≤ 7) ∧ (0 ≤ x2 ∧ x2 ≤ 23) then u1 ((σ 80)) (x1 * 24 + x2) (zxor ((σ 80) (x1 * 24 + x2)) x3) else (σ 80))) τ Q
      refine i36e c_189_24 rfl (fun hc => ?_) (fun hc => ?_)
      · have t := iT t hc
        have ha6 : (0 ≤ x1 ∧ x1 ≤ 7) ∧ (0 ≤ x2 ∧ x2 ≤ 23) := hc
        refine i1 c_189_27 (i38 c_189_28 rfl ?_)
        exact i91 c_189_32 (by decide) t
      · have t := iF t hc
        have ha6 : ¬ ((0 ≤ x1 ∧ x1 ≤ 7) ∧ (0 ≤ x2 ∧ x2 ≤ 23)) := hc
        refine i1 c_189_31 ?_
        exact i91 c_189_32 (by decide) t
  · have t := iF t hc
    have ha1 : ¬ (¬ σ 79 2 = -1) := hc
    refine i1 c_189_31 ?_
    exact i91 c_189_32 (by decide) t
theorem q_189 {d : Nat} {S : zS} {σ τ : zI} {Q : zQ} {mill : Int} {home : Int} {mask : Int} (p0 : rg mill) (p1 : rg home) (p2 : rg mask) (t : Q (some (.int (wI (if ((0 ≤ mill ∧ mill ≤ 7) ∧ (0 ≤ home ∧ home ≤ 23)) ∧ ¬ σ 79 2 = -1 ∧ mask ≠ 0 then 1 else 0)))) S (uc σ 80 (if ((0 ≤ mill ∧ mill ≤ 7) ∧ (0 ≤ home ∧ home ≤ 23)) ∧ ¬ σ 79 2 = -1 ∧ mask ≠ 0 then u1 (σ 80) (mill * 24 + home) (zxor (σ 80 (mill * 24 + home)) mask) else σ 80)) τ) : wc (d + 2) 189 [.ref 1, .int (wI mill), .int (wI home), .int (wI mask)] S σ τ Q := by
  have no : ¬ (((0 ≤ mill ∧ mill ≤ 7) ∧ (0 ≤ home ∧ home ≤ 23)) ∧ ¬ σ 79 2 = -1 ∧ mask ≠ 0) → Q (some (.int (wI 0))) S σ τ := fun h => by
    rw [if_neg h, if_neg h, uc_id] at t
    exact t
  refine wc_of mi_189 rfl (u_189_0 (ifI (fun e => ⟨p2, ifI (fun e2 => no (fun h => h.2.2 e2)) (fun e2 => ⟨p0, p1, ifI (fun e3 => ?_) (fun e3 => ?_)⟩)⟩) (fun e => no (fun h => e h.2.1))))
  · rw [if_pos ⟨e3, e, e2⟩, if_pos ⟨e3, e, e2⟩] at t
    rw [if_pos e3]; exact t
  · rw [if_neg e3, uc_id]
    exact no (fun h => e3 h.1)
-- method 190: MillTown.check(I)I
theorem c_190_0 : pg_cd 190 0 = (3, 1, 0, 1, 0) := by decide +kernel
theorem c_190_1 : pg_cd 190 1 = (1, 1, 0, 0, 0) := by decide +kernel
theorem c_190_2 : pg_cd 190 2 = (1, 1, 0, 0, 2) := by decide +kernel
theorem c_190_3 : pg_cd 190 3 = (81, 141, 85, 0, 0) := by decide +kernel
theorem c_190_6 : pg_cd 190 6 = (36, 3, 0, 0, 27) := by decide +kernel
theorem c_190_9 : pg_cd 190 9 = (5, 1, 0, 0, 0) := by decide +kernel
theorem c_190_10 : pg_cd 190 10 = (45, 11, 63, 9, 0) := by decide +kernel
theorem c_190_13 : pg_cd 190 13 = (80, 75, 322, 0, 0) := by decide +kernel
theorem c_190_16 : pg_cd 190 16 = (36, 3, 0, 0, 17) := by decide +kernel
theorem c_190_19 : pg_cd 190 19 = (5, 1, 0, 0, 0) := by decide +kernel
theorem c_190_20 : pg_cd 190 20 = (5, 1, 0, 0, 0) := by decide +kernel
theorem c_190_21 : pg_cd 190 21 = (45, 11, 63, 9, 0) := by decide +kernel
theorem c_190_24 : pg_cd 190 24 = (43, 6, 330, 2, 0) := by decide +kernel
theorem c_190_27 : pg_cd 190 27 = (80, 176, 247, 0, 0) := by decide +kernel
theorem c_190_30 : pg_cd 190 30 = (36, 3, 0, 1, 5) := by decide +kernel
theorem c_190_33 : pg_cd 190 33 = (1, 1, 0, 0, (-1)) := by decide +kernel
theorem c_190_34 : pg_cd 190 34 = (90, 0, 0, 0, 0) := by decide +kernel
theorem c_190_35 : pg_cd 190 35 = (5, 1, 0, 0, 0) := by decide +kernel
theorem c_190_36 : pg_cd 190 36 = (45, 11, 63, 9, 0) := by decide +kernel
theorem c_190_39 : pg_cd 190 39 = (5, 1, 0, 0, 0) := by decide +kernel
theorem c_190_40 : pg_cd 190 40 = (45, 11, 38, 5, 0) := by decide +kernel
theorem c_190_43 : pg_cd 190 43 = (5, 1, 0, 0, 0) := by decide +kernel
theorem c_190_44 : pg_cd 190 44 = (45, 11, 12, 0, 0) := by decide +kernel
theorem c_190_47 : pg_cd 190 47 = (3, 1, 0, 1, 0) := by decide +kernel
theorem c_190_48 : pg_cd 190 48 = (80, 79, 333, 0, 0) := by decide +kernel
theorem c_190_51 : pg_cd 190 51 = (90, 0, 0, 0, 0) := by decide +kernel
theorem mi_190 : pg_mc 190 = 11 ∧ pg_na 190 = 1 ∧ pg_mx 190 = 2 := by decide +kernel
set_option maxRecDepth 20000 in
theorem u_190_0 {d : Nat} {S : zS} {σ τ : zI} {Q : zQ} {x1 : Int} (t : (rg x1) ∧ if 0 ≤ x1 ∧ x1 ≤ 2 then (if ¬ σ 79 2 = -1 then (if 0 ≤ (σ 79 2) ∧ (σ 79 2) < σ 2 8 then (∃ a6 : Int → Int, (0 ≤ σ 79 2 ∧ σ 79 2 < a6 0) ∧ (BX S σ a6) ∧ (RT σ 2 a6) ∧ (Jv a6) ∧ (jv_B a6) ∧ Q (some (.int (wI (v_ck (ckI (σ 80) (r_sh a6 (σ 79 2)) 192) x1)))) S (uc σ 81 (fg (r_sh a6 ((σ 79) 2)) ((σ 81)) 192)) τ) else (Q (some (.int (wI (-1)))) S σ τ)) else (Q (some (.int (wI (-1)))) S σ τ)) else (Q (some (.int (wI (-1)))) S σ τ)) : wi (d + 9) 190 0 [.ref 1, .int (wI x1)] [] S σ τ Q := by
  obtain ⟨r1, t⟩ := t
  refine i3 c_190_0 rfl (i1 c_190_1 (i1 c_190_2 ?_))
  refine i81 (As := [.int (wI x1), .int (wI 0), .int (wI 2)]) (rest := []) c_190_3 mi_141 rfl rfl (Nat.le_of_ble_eq_true rfl) (Nat.le_of_ble_eq_true rfl) (q_141 r1 (by decide) (by decide) ?_)
  show wi (d + 9) 190 6 [.ref 1, .int (wI x1)] [.int (wI (if 0 ≤ x1 ∧ x1 ≤ 2 then 1 else 0))] S σ τ Q
  refine i36e c_190_6 rfl (fun hc => ?_) (fun hc => ?_)
  · have t := iT t hc
    have ha2 : 0 ≤ x1 ∧ x1 ≤ 2 := hc
    refine i5 c_190_9 rfl (i45 c_190_10 (lo (c := 1) (kd := 111) (n := 0) rfl (by decide)) (lro (c := 1) (k := 9) (j := 79) (by decide)) ?_)
    refine i80 (As := []) (rest := []) c_190_13 mi_75 rfl rfl (Nat.le_of_ble_eq_true rfl) (Nat.le_of_ble_eq_true rfl) (lo (c := 79) (kd := 106) (n := 0) rfl (by decide)) (q_75 ?_)
    show wi (d + 9) 190 16 [.ref 1, .int (wI x1)] [.int (wI (if ¬ σ 79 2 = -1 then 1 else 0))] S σ τ Q
    refine i36e c_190_16 rfl (fun hc => ?_) (fun hc => ?_)
    · have t := iT t hc
      have ha3 : ¬ σ 79 2 = -1 := hc
      refine i5 c_190_19 rfl (i5 c_190_20 rfl (i45 c_190_21 (lo (c := 1) (kd := 111) (n := 0) rfl (by decide)) (lro (c := 1) (k := 9) (j := 79) (by decide)) (wi_ok (fun K4 => ?_))))
      refine i43 (v := σ 79 2) c_190_24 (lo (c := 79) (kd := 106) (n := 0) rfl (by decide)) rfl ?_
      refine i80 (As := [.int (wI (σ 79 2))]) (rest := []) c_190_27 mi_176 rfl rfl (Nat.le_of_ble_eq_true rfl) (Nat.le_of_ble_eq_true rfl) (lo (c := 1) (kd := 111) (n := 0) rfl (by decide)) (q_176 (rge_ K4 rfl) ?_)
      show wi (d + 9) 190 30 [.ref 1, .int (wI x1)] [.int (wI (if 0 ≤ (σ 79 2) ∧ (σ 79 2) < σ 2 8 then 1 else 0))] S σ τ Q
      refine i36f c_190_30 rfl (fun hc => ?_) (fun hc => ?_)
      · have t := iT t hc
        have ha5 : 0 ≤ (σ 79 2) ∧ (σ 79 2) < σ 2 8 := hc
        obtain ⟨a6, t⟩ := t
        obtain ⟨p7, t⟩ := t
        obtain ⟨p8, t⟩ := t
        obtain ⟨p9, t⟩ := t
        obtain ⟨p10, t⟩ := t
        obtain ⟨p11, t⟩ := t
        refine i5 c_190_35 rfl (i45 c_190_36 (lo (c := 1) (kd := 111) (n := 0) rfl (by decide)) (lro (c := 1) (k := 9) (j := 79) (by decide)) (i5 c_190_39 rfl (i45 c_190_40 (lo (c := 1) (kd := 111) (n := 0) rfl (by decide)) (lro (c := 1) (k := 5) (j := 58) (by decide)) (i5 c_190_43 rfl (i45 c_190_44 (lo (c := 1) (kd := 111) (n := 0) rfl (by decide)) (lro (c := 1) (k := 0) (j := 2) (by decide)) (i3 c_190_47 rfl ?_))))))
        refine i80 (As := [.ref 58, .ref 2, .int (wI x1)]) (rest := []) c_190_48 mi_79 rfl rfl (Nat.le_of_ble_eq_true rfl) (Nat.le_of_ble_eq_true rfl) (lo (c := 79) (kd := 106) (n := 0) rfl (by decide)) (q_79 (a := a6) tw_2 p7 p8 p9 p10 p11 r1 ?_)
        show wi (d + 9) 190 51 [.ref 1, .int (wI x1)] [.int (wI (v_ck (ckI (σ 80) (r_sh a6 (σ 79 2)) 192) x1))] S (uc σ 81 (fg (r_sh a6 ((σ 79) 2)) ((σ 81)) 192)) τ Q
        exact i90 c_190_51 t
      · have t := iF t hc
        have ha5 : ¬ (0 ≤ (σ 79 2) ∧ (σ 79 2) < σ 2 8) := hc
        refine i1 c_190_33 ?_
        exact i90 c_190_34 t
    · have t := iF t hc
      have ha3 : ¬ (¬ σ 79 2 = -1) := hc
      refine i1 c_190_33 ?_
      exact i90 c_190_34 t
  · have t := iF t hc
    have ha2 : ¬ (0 ≤ x1 ∧ x1 ≤ 2) := hc
    refine i1 c_190_33 ?_
    exact i90 c_190_34 t
theorem q_190 {d : Nat} {S : zS} {σ τ : zI} {Q : zQ} {what : Int} {a : Int → Int} (p0 : RT σ 2 a) (p1 : BX S σ a) (p2 : Jv a) (p3 : jv_B a) (p4 : rg what) (t : ∀ (σ1 : zI), (∀ c, c ≠ 81 → σ1 c = σ c) → Q (some (.int (wI (if (0 ≤ what ∧ what ≤ 2) ∧ 0 ≤ σ 79 2 ∧ σ 79 2 < a 0 then v_ck (ckI (σ 80) (r_sh a (σ 79 2)) 192) what else -1)))) S σ1 τ) : wc (d + 9) 190 [.ref 1, .int (wI what)] S σ τ Q := by
  refine wc_of mi_190 rfl (u_190_0 ?_)
  have c0 : σ 2 8 = a 0 := (tS p0).1
  have no : ¬ ((0 ≤ what ∧ what ≤ 2) ∧ 0 ≤ σ 79 2 ∧ σ 79 2 < a 0) → Q (some (.int (wI (-1)))) S σ τ := fun h => by
    have t := t σ (fun _ _ => rfl)
    rw [if_neg h] at t
    exact t
  rw [c0]
  refine ⟨p4, ifI (fun e => ifI (fun e2 => ifI (fun e3 => ?_) (fun e3 => no (fun h => e3 h.2))) (fun e2 => no (fun h => by omega))) (fun e => no (fun h => e h.1))⟩
  refine ⟨a, e3, p1, p0, p2, p3, ?_⟩
  have t := t (uc σ 81 (fg (r_sh a (σ 79 2)) (σ 81) 192)) (fun c h => uc_n h)
  rw [if_pos ⟨e, e3⟩] at t
  exact t
-- method 177: MillTown.book(III)I
theorem c_177_0 : pg_cd 177 0 = (5, 1, 0, 0, 0) := by decide +kernel
theorem c_177_1 : pg_cd 177 1 = (45, 11, 12, 0, 0) := by decide +kernel
theorem c_177_4 : pg_cd 177 4 = (45, 8, 127, 4, 0) := by decide +kernel
theorem c_177_7 : pg_cd 177 7 = (3, 1, 0, 1, 0) := by decide +kernel
theorem c_177_8 : pg_cd 177 8 = (80, 53, 75, 0, 0) := by decide +kernel
theorem c_177_11 : pg_cd 177 11 = (36, 3, 0, 0, 11) := by decide +kernel
theorem c_177_14 : pg_cd 177 14 = (5, 1, 0, 0, 0) := by decide +kernel
theorem c_177_15 : pg_cd 177 15 = (3, 1, 0, 2, 0) := by decide +kernel
theorem c_177_16 : pg_cd 177 16 = (80, 176, 247, 0, 0) := by decide +kernel
theorem c_177_19 : pg_cd 177 19 = (36, 3, 0, 1, 5) := by decide +kernel
theorem c_177_22 : pg_cd 177 22 = (1, 1, 0, 0, (-1)) := by decide +kernel
theorem c_177_23 : pg_cd 177 23 = (90, 0, 0, 0, 0) := by decide +kernel
theorem c_177_24 : pg_cd 177 24 = (3, 1, 0, 3, 0) := by decide +kernel
theorem c_177_25 : pg_cd 177 25 = (36, 3, 0, 1, 13) := by decide +kernel
theorem c_177_28 : pg_cd 177 28 = (5, 1, 0, 0, 0) := by decide +kernel
theorem c_177_29 : pg_cd 177 29 = (45, 11, 38, 5, 0) := by decide +kernel
theorem c_177_32 : pg_cd 177 32 = (3, 1, 0, 2, 0) := by decide +kernel
theorem c_177_33 : pg_cd 177 33 = (3, 1, 0, 1, 0) := by decide +kernel
theorem c_177_34 : pg_cd 177 34 = (80, 3, 250, 0, 0) := by decide +kernel
theorem c_177_37 : pg_cd 177 37 = (90, 0, 0, 0, 0) := by decide +kernel
theorem c_177_38 : pg_cd 177 38 = (3, 1, 0, 3, 0) := by decide +kernel
theorem c_177_39 : pg_cd 177 39 = (1, 1, 0, 0, 1) := by decide +kernel
theorem c_177_40 : pg_cd 177 40 = (37, 3, 0, 1, 15) := by decide +kernel
theorem c_177_43 : pg_cd 177 43 = (5, 1, 0, 0, 0) := by decide +kernel
theorem c_177_44 : pg_cd 177 44 = (45, 11, 38, 5, 0) := by decide +kernel
theorem c_177_47 : pg_cd 177 47 = (3, 1, 0, 2, 0) := by decide +kernel
theorem c_177_48 : pg_cd 177 48 = (3, 1, 0, 1, 0) := by decide +kernel
theorem c_177_49 : pg_cd 177 49 = (80, 4, 255, 0, 0) := by decide +kernel
theorem c_177_52 : pg_cd 177 52 = (38, 3, 0, 0, 4) := by decide +kernel
theorem c_177_55 : pg_cd 177 55 = (1, 1, 0, 0, (-1)) := by decide +kernel
theorem c_177_56 : pg_cd 177 56 = (90, 0, 0, 0, 0) := by decide +kernel
theorem mi_177 : pg_mc 177 = 11 ∧ pg_na 177 = 3 ∧ pg_mx 177 = 4 := by decide +kernel
set_option maxRecDepth 20000 in
theorem u_177_0 {d : Nat} {S : zS} {σ τ : zI} {Q : zQ} {x1 : Int} {x2 : Int} {x3 : Int} (t : (rg x1) ∧ if 0 ≤ x1 ∧ x1 < (σ 11 2) then ((rg x2) ∧ if 0 ≤ x2 ∧ x2 < σ 2 8 then ((rg x3) ∧ if x3 = 0 then ((zB S) ∧ Q (some (.int (wI (eI S σ 4 x2 x1)))) S σ τ) else (if x3 = 1 then ((zB S) ∧ Q (some (.int (wI (eI S σ 5 x2 x1)))) S σ τ) else (Q (some (.int (wI (-1)))) S σ τ))) else (Q (some (.int (wI (-1)))) S σ τ)) else (Q (some (.int (wI (-1)))) S σ τ)) : wi (d + 2) 177 0 [.ref 1, .int (wI x1), .int (wI x2), .int (wI x3)] [] S σ τ Q := by
  obtain ⟨r1, t⟩ := t
  refine i5 c_177_0 rfl (i45 c_177_1 (lo (c := 1) (kd := 111) (n := 0) rfl (by decide)) (lro (c := 1) (k := 0) (j := 2) (by decide)) (i45 c_177_4 (lo (c := 2) (kd := 108) (n := 0) rfl (by decide)) (lro (c := 2) (k := 4) (j := 11) (by decide)) (i3 c_177_7 rfl (wi_ok (fun K2 => ?_)))))
  refine i80 (As := [.int (wI x1)]) (rest := []) c_177_8 mi_53 rfl rfl (Nat.le_of_ble_eq_true rfl) (Nat.le_of_ble_eq_true rfl) (lo (c := 11) (kd := 104) (n := 0) rfl (by decide)) (q_has (ow_homes tw_2) r1 ?_)
  show wi (d + 2) 177 11 [.ref 1, .int (wI x1), .int (wI x2), .int (wI x3)] [.int (wI (if 0 ≤ x1 ∧ x1 < σ 11 2 then 1 else 0))] S σ τ Q
  refine i36e c_177_11 rfl (fun hc => ?_) (fun hc => ?_)
  · have t := iT t hc
    have ha3 : 0 ≤ x1 ∧ x1 < (σ 11 2) := hc
    obtain ⟨r4, t⟩ := t
    refine i5 c_177_14 rfl (i3 c_177_15 rfl ?_)
    refine i80 (As := [.int (wI x2)]) (rest := []) c_177_16 mi_176 rfl rfl (Nat.le_of_ble_eq_true rfl) (Nat.le_of_ble_eq_true rfl) (lo (c := 1) (kd := 111) (n := 0) rfl (by decide)) (q_176 r4 ?_)
    show wi (d + 2) 177 19 [.ref 1, .int (wI x1), .int (wI x2), .int (wI x3)] [.int (wI (if 0 ≤ x2 ∧ x2 < σ 2 8 then 1 else 0))] S σ τ Q
    refine i36f c_177_19 rfl (fun hc => ?_) (fun hc => ?_)
    · have t := iT t hc
      have ha5 : 0 ≤ x2 ∧ x2 < σ 2 8 := hc
      obtain ⟨r6, t⟩ := t
      refine i3 c_177_24 rfl ?_
      refine i36 c_177_25 r6 rfl (fun hc => ?_) (fun hc => ?_)
      · have t := iF t hc
        have ha7 : ¬ (x3 = 0) := hc
        refine i3 c_177_38 rfl (i1 c_177_39 ?_)
        refine i37 c_177_40 r6 (by decide) rfl (fun hc => ?_) (fun hc => ?_)
        · have t := iF t hc
          have ha8 : ¬ (x3 = 1) := hc
          refine i1 c_177_55 ?_
          exact i90 c_177_56 t
        · have t := iT t (Decidable.not_not.mp hc)
          have ha8 : x3 = 1 := Decidable.not_not.mp hc
          obtain ⟨p9, t⟩ := t
          refine i5 c_177_43 rfl (i45 c_177_44 (lo (c := 1) (kd := 111) (n := 0) rfl (by decide)) (lro (c := 1) (k := 5) (j := 58) (by decide)) (i3 c_177_47 rfl (i3 c_177_48 rfl ?_)))
          refine i80 (As := [.int (wI x2), .int (wI x1)]) (rest := []) c_177_49 mi_4 rfl rfl (Nat.le_of_ble_eq_true rfl) (Nat.le_of_ble_eq_true rfl) (lo (c := 58) (kd := 100) (n := 0) rfl (by decide)) (q_4 r4 p9 r1 ?_)
          show wi (d + 2) 177 52 [.ref 1, .int (wI x1), .int (wI x2), .int (wI x3)] [.int (wI (eI S σ 5 x2 x1))] S σ τ Q
          refine i38 c_177_52 rfl ?_
          exact i90 c_177_56 t
      · have t := iT t (Decidable.not_not.mp hc)
        have ha7 : x3 = 0 := Decidable.not_not.mp hc
        obtain ⟨p10, t⟩ := t
        refine i5 c_177_28 rfl (i45 c_177_29 (lo (c := 1) (kd := 111) (n := 0) rfl (by decide)) (lro (c := 1) (k := 5) (j := 58) (by decide)) (i3 c_177_32 rfl (i3 c_177_33 rfl ?_)))
        refine i80 (As := [.int (wI x2), .int (wI x1)]) (rest := []) c_177_34 mi_3 rfl rfl (Nat.le_of_ble_eq_true rfl) (Nat.le_of_ble_eq_true rfl) (lo (c := 58) (kd := 100) (n := 0) rfl (by decide)) (q_3 r4 p10 r1 ?_)
        show wi (d + 2) 177 37 [.ref 1, .int (wI x1), .int (wI x2), .int (wI x3)] [.int (wI (eI S σ 4 x2 x1))] S σ τ Q
        exact i90 c_177_37 t
    · have t := iF t hc
      have ha5 : ¬ (0 ≤ x2 ∧ x2 < σ 2 8) := hc
      refine i1 c_177_22 ?_
      exact i90 c_177_23 t
  · have t := iF t hc
    have ha3 : ¬ (0 ≤ x1 ∧ x1 < (σ 11 2)) := hc
    refine i1 c_177_22 ?_
    exact i90 c_177_23 t
theorem q_177 {d : Nat} {S : zS} {σ τ : zI} {Q : zQ} {home : Int} {week : Int} {what : Int} {a : Int → Int} (p0 : RT σ 2 a) (p1 : BX S σ a) (p2 : jv_C a) (p3 : rg home) (p4 : rg week) (p5 : rg what) (t : Q (some (.int (wI (v_book a home week what)))) S σ τ) : wc (d + 2) 177 [.ref 1, .int (wI home), .int (wI week), .int (wI what)] S σ τ Q := by
  have hC := p2
  unfold jv_C at hC
  refine wc_of mi_177 rfl (u_177_0 ?_)
  have c0 : σ 2 8 = a 0 := (tS p0).1
  have c3 : σ 11 2 = a 3 := (tH p0).1
  unfold v_book at t
  rw [c0, c3]
  have hb : 0 ≤ week ∧ week < a 0 → 0 ≤ home ∧ home < a 3 → eI S σ 4 week home = a (22300 + 24 * week + home) ∧ eI S σ 5 week home = a (31900 + 24 * week + home) := fun h h2 => by
    obtain ⟨y, h3, h4, h5⟩ := p1.2 week h.1 h.2
    have := h5.2.2.1 home (by omega) (by omega)
    rw [eI_s h3 (by omega), eI_s h3 (by omega)]
    exact ⟨this.1, this.2.1⟩
  refine ⟨p3, ifI (fun e => ⟨p4, ifI (fun e2 => ⟨p5, ifI (fun e3 => ⟨p1.1, ?_⟩) (fun e3 => ifI (fun e4 => ⟨p1.1, ?_⟩) (fun e4 => ?_))⟩) (fun e2 => ?_)⟩) (fun e => ?_)⟩
  · rw [if_pos (by omega), if_pos e3] at t
    rw [(hb e2 e).1]; exact t
  · rw [if_pos (by omega), if_neg e3] at t
    rw [(hb e2 e).2]; exact t
  · rw [if_neg (by omega)] at t; exact t
  · rw [if_neg (by omega)] at t; exact t
  · rw [if_neg (by omega)] at t; exact t
-- method 193: MillTown.about(I)I
theorem c_193_0 : pg_cd 193 0 = (3, 1, 0, 1, 0) := by decide +kernel
theorem c_193_1 : pg_cd 193 1 = (42, 4, 79, 0, 0) := by decide +kernel
theorem c_193_80 : pg_cd 193 80 = (5, 1, 0, 0, 0) := by decide +kernel
theorem c_193_81 : pg_cd 193 81 = (45, 11, 12, 0, 0) := by decide +kernel
theorem c_193_84 : pg_cd 193 84 = (43, 8, 193, 8, 0) := by decide +kernel
theorem c_193_87 : pg_cd 193 87 = (90, 0, 0, 0, 0) := by decide +kernel
theorem c_193_88 : pg_cd 193 88 = (5, 1, 0, 0, 0) := by decide +kernel
theorem c_193_89 : pg_cd 193 89 = (45, 11, 12, 0, 0) := by decide +kernel
theorem c_193_92 : pg_cd 193 92 = (45, 8, 71, 2, 0) := by decide +kernel
theorem c_193_95 : pg_cd 193 95 = (43, 4, 199, 2, 0) := by decide +kernel
theorem c_193_98 : pg_cd 193 98 = (90, 0, 0, 0, 0) := by decide +kernel
theorem c_193_99 : pg_cd 193 99 = (5, 1, 0, 0, 0) := by decide +kernel
theorem c_193_100 : pg_cd 193 100 = (45, 11, 12, 0, 0) := by decide +kernel
theorem c_193_103 : pg_cd 193 103 = (45, 8, 121, 3, 0) := by decide +kernel
theorem c_193_106 : pg_cd 193 106 = (43, 4, 199, 2, 0) := by decide +kernel
theorem c_193_109 : pg_cd 193 109 = (90, 0, 0, 0, 0) := by decide +kernel
theorem c_193_110 : pg_cd 193 110 = (5, 1, 0, 0, 0) := by decide +kernel
theorem c_193_111 : pg_cd 193 111 = (45, 11, 12, 0, 0) := by decide +kernel
theorem c_193_114 : pg_cd 193 114 = (45, 8, 127, 4, 0) := by decide +kernel
theorem c_193_117 : pg_cd 193 117 = (43, 4, 199, 2, 0) := by decide +kernel
theorem c_193_120 : pg_cd 193 120 = (90, 0, 0, 0, 0) := by decide +kernel
theorem c_193_121 : pg_cd 193 121 = (5, 1, 0, 0, 0) := by decide +kernel
theorem c_193_122 : pg_cd 193 122 = (45, 11, 12, 0, 0) := by decide +kernel
theorem c_193_125 : pg_cd 193 125 = (45, 8, 136, 5, 0) := by decide +kernel
theorem c_193_128 : pg_cd 193 128 = (43, 4, 199, 2, 0) := by decide +kernel
theorem c_193_131 : pg_cd 193 131 = (90, 0, 0, 0, 0) := by decide +kernel
theorem c_193_132 : pg_cd 193 132 = (5, 1, 0, 0, 0) := by decide +kernel
theorem c_193_133 : pg_cd 193 133 = (45, 11, 12, 0, 0) := by decide +kernel
theorem c_193_136 : pg_cd 193 136 = (43, 8, 81, 9, 0) := by decide +kernel
theorem c_193_139 : pg_cd 193 139 = (90, 0, 0, 0, 0) := by decide +kernel
theorem c_193_140 : pg_cd 193 140 = (5, 1, 0, 0, 0) := by decide +kernel
theorem c_193_141 : pg_cd 193 141 = (45, 11, 12, 0, 0) := by decide +kernel
theorem c_193_144 : pg_cd 193 144 = (45, 8, 196, 7, 0) := by decide +kernel
theorem c_193_147 : pg_cd 193 147 = (43, 4, 199, 2, 0) := by decide +kernel
theorem c_193_150 : pg_cd 193 150 = (90, 0, 0, 0, 0) := by decide +kernel
theorem c_193_151 : pg_cd 193 151 = (5, 1, 0, 0, 0) := by decide +kernel
theorem c_193_152 : pg_cd 193 152 = (45, 11, 12, 0, 0) := by decide +kernel
theorem c_193_155 : pg_cd 193 155 = (45, 8, 244, 6, 0) := by decide +kernel
theorem c_193_158 : pg_cd 193 158 = (43, 4, 199, 2, 0) := by decide +kernel
theorem c_193_161 : pg_cd 193 161 = (90, 0, 0, 0, 0) := by decide +kernel
theorem c_193_162 : pg_cd 193 162 = (5, 1, 0, 0, 0) := by decide +kernel
theorem c_193_163 : pg_cd 193 163 = (45, 11, 12, 0, 0) := by decide +kernel
theorem c_193_166 : pg_cd 193 166 = (43, 8, 231, 13, 0) := by decide +kernel
theorem c_193_169 : pg_cd 193 169 = (90, 0, 0, 0, 0) := by decide +kernel
theorem c_193_170 : pg_cd 193 170 = (5, 1, 0, 0, 0) := by decide +kernel
theorem c_193_171 : pg_cd 193 171 = (45, 11, 12, 0, 0) := by decide +kernel
theorem c_193_174 : pg_cd 193 174 = (43, 8, 311, 10, 0) := by decide +kernel
theorem c_193_177 : pg_cd 193 177 = (90, 0, 0, 0, 0) := by decide +kernel
theorem c_193_178 : pg_cd 193 178 = (5, 1, 0, 0, 0) := by decide +kernel
theorem c_193_179 : pg_cd 193 179 = (43, 11, 164, 11, 0) := by decide +kernel
theorem c_193_182 : pg_cd 193 182 = (90, 0, 0, 0, 0) := by decide +kernel
theorem c_193_183 : pg_cd 193 183 = (5, 1, 0, 0, 0) := by decide +kernel
theorem c_193_184 : pg_cd 193 184 = (45, 11, 12, 0, 0) := by decide +kernel
theorem c_193_187 : pg_cd 193 187 = (43, 8, 234, 14, 0) := by decide +kernel
theorem c_193_190 : pg_cd 193 190 = (90, 0, 0, 0, 0) := by decide +kernel
theorem c_193_191 : pg_cd 193 191 = (5, 1, 0, 0, 0) := by decide +kernel
theorem c_193_192 : pg_cd 193 192 = (45, 11, 12, 0, 0) := by decide +kernel
theorem c_193_195 : pg_cd 193 195 = (43, 8, 237, 15, 0) := by decide +kernel
theorem c_193_198 : pg_cd 193 198 = (90, 0, 0, 0, 0) := by decide +kernel
theorem c_193_199 : pg_cd 193 199 = (5, 1, 0, 0, 0) := by decide +kernel
theorem c_193_200 : pg_cd 193 200 = (45, 11, 12, 0, 0) := by decide +kernel
theorem c_193_203 : pg_cd 193 203 = (43, 8, 225, 11, 0) := by decide +kernel
theorem c_193_206 : pg_cd 193 206 = (90, 0, 0, 0, 0) := by decide +kernel
theorem c_193_207 : pg_cd 193 207 = (5, 1, 0, 0, 0) := by decide +kernel
theorem c_193_208 : pg_cd 193 208 = (45, 11, 12, 0, 0) := by decide +kernel
theorem c_193_211 : pg_cd 193 211 = (43, 8, 228, 12, 0) := by decide +kernel
theorem c_193_214 : pg_cd 193 214 = (90, 0, 0, 0, 0) := by decide +kernel
theorem c_193_215 : pg_cd 193 215 = (5, 1, 0, 0, 0) := by decide +kernel
theorem c_193_216 : pg_cd 193 216 = (45, 11, 33, 4, 0) := by decide +kernel
theorem c_193_219 : pg_cd 193 219 = (5, 1, 0, 0, 0) := by decide +kernel
theorem c_193_220 : pg_cd 193 220 = (45, 11, 12, 0, 0) := by decide +kernel
theorem c_193_223 : pg_cd 193 223 = (43, 8, 81, 9, 0) := by decide +kernel
theorem c_193_226 : pg_cd 193 226 = (1, 1, 0, 0, 1) := by decide +kernel
theorem c_193_227 : pg_cd 193 227 = (11, 1, 0, 0, 0) := by decide +kernel
theorem c_193_228 : pg_cd 193 228 = (80, 11, 337, 0, 0) := by decide +kernel
theorem c_193_231 : pg_cd 193 231 = (90, 0, 0, 0, 0) := by decide +kernel
theorem c_193_232 : pg_cd 193 232 = (1, 1, 0, 0, (-1)) := by decide +kernel
theorem c_193_233 : pg_cd 193 233 = (90, 0, 0, 0, 0) := by decide +kernel
theorem mi_193 : pg_mc 193 = 11 ∧ pg_na 193 = 1 ∧ pg_mx 193 = 2 := by decide +kernel
theorem sw_4 : pg_sw 4 = (231, 0, 15, [79, 87, 98, 109, 120, 131, 139, 150, 161, 169, 177, 182, 190, 198, 206, 214]) := by decide +kernel
set_option maxRecDepth 20000 in
theorem u_193_0 {d : Nat} {S : zS} {σ τ : zI} {Q : zQ} {x1 : Int} (t : (rg x1) ∧ if x1 = 0 then (Q (some (.int (wI (σ 2 8)))) S σ τ) else (if x1 = 1 then (Q (some (.int (wI (σ 7 2)))) S σ τ) else (if x1 = 2 then (Q (some (.int (wI (σ 9 2)))) S σ τ) else (if x1 = 3 then (Q (some (.int (wI (σ 11 2)))) S σ τ) else (if x1 = 4 then (Q (some (.int (wI (σ 13 2)))) S σ τ) else (if x1 = 5 then (Q (some (.int (wI (σ 2 9)))) S σ τ) else (if x1 = 6 then (Q (some (.int (wI (σ 17 2)))) S σ τ) else (if x1 = 7 then (Q (some (.int (wI (σ 15 2)))) S σ τ) else (if x1 = 8 then (Q (some (.int (wI (σ 2 13)))) S σ τ) else (if x1 = 9 then (Q (some (.int (wI (σ 2 10)))) S σ τ) else (if x1 = 10 then (Q (some (.int (wI (σ 1 11)))) S σ τ) else (if x1 = 11 then (Q (some (.int (wI (σ 2 14)))) S σ τ) else (if x1 = 12 then (Q (some (.int (wI (σ 2 15)))) S σ τ) else (if x1 = 13 then (Q (some (.int (wI (σ 2 11)))) S σ τ) else (if x1 = 14 then (Q (some (.int (wI (σ 2 12)))) S σ τ) else (if x1 = 15 then (∃ a18 : Int → Int, (RX S σ a18) ∧ (rg ((σ 2 9) - 1)) ∧ (((σ 2 9) - 1) < a18 5) ∧ Q (some (.int (wI (if ((σ 2 9) - 1) < 0 then -1 else a18 (5500 + 840 * ((σ 2 9) - 1)))))) S σ τ) else (Q (some (.int (wI (-1)))) S σ τ))))))))))))))))) : wi (d + 2) 193 0 [.ref 1, .int (wI x1)] [] S σ τ Q := by
  obtain ⟨r1, t⟩ := t
  refine i3 c_193_0 rfl ?_
  by_cases e0 : x1 = 0
  · have t := iT t e0
    refine i42 (o := 79) c_193_1 sw_4 0 e0 (by decide) (by decide) rfl rfl ?_
    refine i5 c_193_80 rfl (i45 c_193_81 (lo (c := 1) (kd := 111) (n := 0) rfl (by decide)) (lro (c := 1) (k := 0) (j := 2) (by decide)) (wi_ok (fun K2 => ?_)))
    refine i43 (v := σ 2 8) c_193_84 (lo (c := 2) (kd := 108) (n := 0) rfl (by decide)) rfl ?_
    exact i90 c_193_87 t
  have t := iF t e0
  by_cases e1 : x1 = 1
  · have t := iT t e1
    refine i42 (o := 87) c_193_1 sw_4 1 e1 (by decide) (by decide) rfl rfl ?_
    refine i5 c_193_88 rfl (i45 c_193_89 (lo (c := 1) (kd := 111) (n := 0) rfl (by decide)) (lro (c := 1) (k := 0) (j := 2) (by decide)) (i45 c_193_92 (lo (c := 2) (kd := 108) (n := 0) rfl (by decide)) (lro (c := 2) (k := 2) (j := 7) (by decide)) (wi_ok (fun K3 => ?_))))
    refine i43 (v := σ 7 2) c_193_95 (lo (c := 7) (kd := 104) (n := 0) rfl (by decide)) rfl ?_
    exact i90 c_193_98 t
  have t := iF t e1
  by_cases e2 : x1 = 2
  · have t := iT t e2
    refine i42 (o := 98) c_193_1 sw_4 2 e2 (by decide) (by decide) rfl rfl ?_
    refine i5 c_193_99 rfl (i45 c_193_100 (lo (c := 1) (kd := 111) (n := 0) rfl (by decide)) (lro (c := 1) (k := 0) (j := 2) (by decide)) (i45 c_193_103 (lo (c := 2) (kd := 108) (n := 0) rfl (by decide)) (lro (c := 2) (k := 3) (j := 9) (by decide)) (wi_ok (fun K4 => ?_))))
    refine i43 (v := σ 9 2) c_193_106 (lo (c := 9) (kd := 104) (n := 0) rfl (by decide)) rfl ?_
    exact i90 c_193_109 t
  have t := iF t e2
  by_cases e3 : x1 = 3
  · have t := iT t e3
    refine i42 (o := 109) c_193_1 sw_4 3 e3 (by decide) (by decide) rfl rfl ?_
    refine i5 c_193_110 rfl (i45 c_193_111 (lo (c := 1) (kd := 111) (n := 0) rfl (by decide)) (lro (c := 1) (k := 0) (j := 2) (by decide)) (i45 c_193_114 (lo (c := 2) (kd := 108) (n := 0) rfl (by decide)) (lro (c := 2) (k := 4) (j := 11) (by decide)) (wi_ok (fun K5 => ?_))))
    refine i43 (v := σ 11 2) c_193_117 (lo (c := 11) (kd := 104) (n := 0) rfl (by decide)) rfl ?_
    exact i90 c_193_120 t
  have t := iF t e3
  by_cases e4 : x1 = 4
  · have t := iT t e4
    refine i42 (o := 120) c_193_1 sw_4 4 e4 (by decide) (by decide) rfl rfl ?_
    refine i5 c_193_121 rfl (i45 c_193_122 (lo (c := 1) (kd := 111) (n := 0) rfl (by decide)) (lro (c := 1) (k := 0) (j := 2) (by decide)) (i45 c_193_125 (lo (c := 2) (kd := 108) (n := 0) rfl (by decide)) (lro (c := 2) (k := 5) (j := 13) (by decide)) (wi_ok (fun K6 => ?_))))
    refine i43 (v := σ 13 2) c_193_128 (lo (c := 13) (kd := 104) (n := 0) rfl (by decide)) rfl ?_
    exact i90 c_193_131 t
  have t := iF t e4
  by_cases e5 : x1 = 5
  · have t := iT t e5
    refine i42 (o := 131) c_193_1 sw_4 5 e5 (by decide) (by decide) rfl rfl ?_
    refine i5 c_193_132 rfl (i45 c_193_133 (lo (c := 1) (kd := 111) (n := 0) rfl (by decide)) (lro (c := 1) (k := 0) (j := 2) (by decide)) (wi_ok (fun K7 => ?_)))
    refine i43 (v := σ 2 9) c_193_136 (lo (c := 2) (kd := 108) (n := 0) rfl (by decide)) rfl ?_
    exact i90 c_193_139 t
  have t := iF t e5
  by_cases e6 : x1 = 6
  · have t := iT t e6
    refine i42 (o := 139) c_193_1 sw_4 6 e6 (by decide) (by decide) rfl rfl ?_
    refine i5 c_193_140 rfl (i45 c_193_141 (lo (c := 1) (kd := 111) (n := 0) rfl (by decide)) (lro (c := 1) (k := 0) (j := 2) (by decide)) (i45 c_193_144 (lo (c := 2) (kd := 108) (n := 0) rfl (by decide)) (lro (c := 2) (k := 7) (j := 17) (by decide)) (wi_ok (fun K8 => ?_))))
    refine i43 (v := σ 17 2) c_193_147 (lo (c := 17) (kd := 104) (n := 0) rfl (by decide)) rfl ?_
    exact i90 c_193_150 t
  have t := iF t e6
  by_cases e7 : x1 = 7
  · have t := iT t e7
    refine i42 (o := 150) c_193_1 sw_4 7 e7 (by decide) (by decide) rfl rfl ?_
    refine i5 c_193_151 rfl (i45 c_193_152 (lo (c := 1) (kd := 111) (n := 0) rfl (by decide)) (lro (c := 1) (k := 0) (j := 2) (by decide)) (i45 c_193_155 (lo (c := 2) (kd := 108) (n := 0) rfl (by decide)) (lro (c := 2) (k := 6) (j := 15) (by decide)) (wi_ok (fun K9 => ?_))))
    refine i43 (v := σ 15 2) c_193_158 (lo (c := 15) (kd := 104) (n := 0) rfl (by decide)) rfl ?_
    exact i90 c_193_161 t
  have t := iF t e7
  by_cases e8 : x1 = 8
  · have t := iT t e8
    refine i42 (o := 161) c_193_1 sw_4 8 e8 (by decide) (by decide) rfl rfl ?_
    refine i5 c_193_162 rfl (i45 c_193_163 (lo (c := 1) (kd := 111) (n := 0) rfl (by decide)) (lro (c := 1) (k := 0) (j := 2) (by decide)) (wi_ok (fun K10 => ?_)))
    refine i43 (v := σ 2 13) c_193_166 (lo (c := 2) (kd := 108) (n := 0) rfl (by decide)) rfl ?_
    exact i90 c_193_169 t
  have t := iF t e8
  by_cases e9 : x1 = 9
  · have t := iT t e9
    refine i42 (o := 169) c_193_1 sw_4 9 e9 (by decide) (by decide) rfl rfl ?_
    refine i5 c_193_170 rfl (i45 c_193_171 (lo (c := 1) (kd := 111) (n := 0) rfl (by decide)) (lro (c := 1) (k := 0) (j := 2) (by decide)) (wi_ok (fun K11 => ?_)))
    refine i43 (v := σ 2 10) c_193_174 (lo (c := 2) (kd := 108) (n := 0) rfl (by decide)) rfl ?_
    exact i90 c_193_177 t
  have t := iF t e9
  by_cases e10 : x1 = 10
  · have t := iT t e10
    refine i42 (o := 177) c_193_1 sw_4 10 e10 (by decide) (by decide) rfl rfl ?_
    refine i5 c_193_178 rfl (wi_ok (fun K12 => ?_))
    refine i43 (v := σ 1 11) c_193_179 (lo (c := 1) (kd := 111) (n := 0) rfl (by decide)) rfl ?_
    exact i90 c_193_182 t
  have t := iF t e10
  by_cases e11 : x1 = 11
  · have t := iT t e11
    refine i42 (o := 182) c_193_1 sw_4 11 e11 (by decide) (by decide) rfl rfl ?_
    refine i5 c_193_183 rfl (i45 c_193_184 (lo (c := 1) (kd := 111) (n := 0) rfl (by decide)) (lro (c := 1) (k := 0) (j := 2) (by decide)) (wi_ok (fun K13 => ?_)))
    refine i43 (v := σ 2 14) c_193_187 (lo (c := 2) (kd := 108) (n := 0) rfl (by decide)) rfl ?_
    exact i90 c_193_190 t
  have t := iF t e11
  by_cases e12 : x1 = 12
  · have t := iT t e12
    refine i42 (o := 190) c_193_1 sw_4 12 e12 (by decide) (by decide) rfl rfl ?_
    refine i5 c_193_191 rfl (i45 c_193_192 (lo (c := 1) (kd := 111) (n := 0) rfl (by decide)) (lro (c := 1) (k := 0) (j := 2) (by decide)) (wi_ok (fun K14 => ?_)))
    refine i43 (v := σ 2 15) c_193_195 (lo (c := 2) (kd := 108) (n := 0) rfl (by decide)) rfl ?_
    exact i90 c_193_198 t
  have t := iF t e12
  by_cases e13 : x1 = 13
  · have t := iT t e13
    refine i42 (o := 198) c_193_1 sw_4 13 e13 (by decide) (by decide) rfl rfl ?_
    refine i5 c_193_199 rfl (i45 c_193_200 (lo (c := 1) (kd := 111) (n := 0) rfl (by decide)) (lro (c := 1) (k := 0) (j := 2) (by decide)) (wi_ok (fun K15 => ?_)))
    refine i43 (v := σ 2 11) c_193_203 (lo (c := 2) (kd := 108) (n := 0) rfl (by decide)) rfl ?_
    exact i90 c_193_206 t
  have t := iF t e13
  by_cases e14 : x1 = 14
  · have t := iT t e14
    refine i42 (o := 206) c_193_1 sw_4 14 e14 (by decide) (by decide) rfl rfl ?_
    refine i5 c_193_207 rfl (i45 c_193_208 (lo (c := 1) (kd := 111) (n := 0) rfl (by decide)) (lro (c := 1) (k := 0) (j := 2) (by decide)) (wi_ok (fun K16 => ?_)))
    refine i43 (v := σ 2 12) c_193_211 (lo (c := 2) (kd := 108) (n := 0) rfl (by decide)) rfl ?_
    exact i90 c_193_214 t
  have t := iF t e14
  by_cases e15 : x1 = 15
  · have t := iT t e15
    refine i42 (o := 214) c_193_1 sw_4 15 e15 (by decide) (by decide) rfl rfl ?_
    refine i5 c_193_215 rfl (i45 c_193_216 (lo (c := 1) (kd := 111) (n := 0) rfl (by decide)) (lro (c := 1) (k := 4) (j := 54) (by decide)) (i5 c_193_219 rfl (i45 c_193_220 (lo (c := 1) (kd := 111) (n := 0) rfl (by decide)) (lro (c := 1) (k := 0) (j := 2) (by decide)) (wi_ok (fun K17 => ?_)))))
    obtain ⟨a18, t⟩ := t
    obtain ⟨p19, t⟩ := t
    obtain ⟨r20, t⟩ := t
    obtain ⟨p21, t⟩ := t
    refine i43 (v := σ 2 9) c_193_223 (lo (c := 2) (kd := 108) (n := 0) rfl (by decide)) rfl (i1 c_193_226 (i11 c_193_227 ?_))
    refine i80 (As := [.int (wI ((σ 2 9) - 1))]) (rest := []) c_193_228 mi_11 rfl rfl (Nat.le_of_ble_eq_true rfl) (Nat.le_of_ble_eq_true rfl) (lo (c := 54) (kd := 101) (n := 0) rfl (by decide)) (q_11 (a := a18) p19 r20 p21 ?_)
    show wi (d + 2) 193 231 [.ref 1, .int (wI x1)] [.int (wI (if ((σ 2 9) - 1) < 0 then -1 else a18 (5500 + 840 * ((σ 2 9) - 1))))] S σ τ Q
    exact i90 c_193_231 t
  have t := iF t e15
  refine i42d c_193_1 sw_4 r1 (by omega) rfl ?_
  refine i1 c_193_232 ?_
  exact i90 c_193_233 t
theorem q_193 {d : Nat} {S : zS} {σ τ : zI} {Q : zQ} {what : Int} {a : Int → Int} (p0 : RT σ 2 a) (p1 : RX S σ a) (p2 : jv_C a) (p3 : rg what) (t : Q (some (.int (wI (v_about a (σ 1 11) what)))) S σ τ) : wc (d + 2) 193 [.ref 1, .int (wI what)] S σ τ Q := by
  have hC := p2
  unfold jv_C at hC
  have m := tl_2 p0
  have l := tl_S p0
  refine wc_of mi_193 rfl (u_193_0 ⟨p3, ?_⟩)
  unfold v_about at t
  refine ifI (fun e => ?_) (fun n0 => ?_)
  · rw [if_pos e] at t
    rw [l.1]; exact t
  refine ifI (fun e => ?_) (fun n1 => ?_)
  · rw [if_neg n0, if_pos e] at t
    rw [m.2.1]; exact t
  refine ifI (fun e => ?_) (fun n2 => ?_)
  · rw [if_neg n0, if_neg n1, if_pos e] at t
    rw [m.2.2.1]; exact t
  refine ifI (fun e => ?_) (fun n3 => ?_)
  · rw [if_neg n0, if_neg n1, if_neg n2, if_pos e] at t
    rw [m.2.2.2.1]; exact t
  refine ifI (fun e => ?_) (fun n4 => ?_)
  · rw [if_neg n0, if_neg n1, if_neg n2, if_neg n3, if_pos e] at t
    rw [m.2.2.2.2.1]; exact t
  refine ifI (fun e => ?_) (fun n5 => ?_)
  · rw [if_neg n0, if_neg n1, if_neg n2, if_neg n3, if_neg n4, if_pos e] at t
    rw [l.2.1]; exact t
  refine ifI (fun e => ?_) (fun n6 => ?_)
  · rw [if_neg n0, if_neg n1, if_neg n2, if_neg n3, if_neg n4, if_neg n5, if_pos e] at t
    rw [m.2.2.2.2.2.2]; exact t
  refine ifI (fun e => ?_) (fun n7 => ?_)
  · rw [if_neg n0, if_neg n1, if_neg n2, if_neg n3, if_neg n4, if_neg n5, if_neg n6, if_pos e] at t
    rw [m.2.2.2.2.2.1]; exact t
  refine ifI (fun e => ?_) (fun n8 => ?_)
  · rw [if_neg n0, if_neg n1, if_neg n2, if_neg n3, if_neg n4, if_neg n5, if_neg n6, if_neg n7, if_pos e] at t
    rw [l.2.2.2.2.2.1]; exact t
  refine ifI (fun e => ?_) (fun n9 => ?_)
  · rw [if_neg n0, if_neg n1, if_neg n2, if_neg n3, if_neg n4, if_neg n5, if_neg n6, if_neg n7, if_neg n8, if_pos e] at t
    rw [l.2.2.1]; exact t
  refine ifI (fun e => ?_) (fun n10 => ?_)
  · rw [if_neg n0, if_neg n1, if_neg n2, if_neg n3, if_neg n4, if_neg n5, if_neg n6, if_neg n7, if_neg n8, if_neg n9, if_pos e] at t
    exact t
  refine ifI (fun e => ?_) (fun n11 => ?_)
  · rw [if_neg n0, if_neg n1, if_neg n2, if_neg n3, if_neg n4, if_neg n5, if_neg n6, if_neg n7, if_neg n8, if_neg n9, if_neg n10, if_pos e] at t
    rw [l.2.2.2.2.2.2.1]; exact t
  refine ifI (fun e => ?_) (fun n12 => ?_)
  · rw [if_neg n0, if_neg n1, if_neg n2, if_neg n3, if_neg n4, if_neg n5, if_neg n6, if_neg n7, if_neg n8, if_neg n9, if_neg n10, if_neg n11, if_pos e] at t
    rw [l.2.2.2.2.2.2.2.1]; exact t
  refine ifI (fun e => ?_) (fun n13 => ?_)
  · rw [if_neg n0, if_neg n1, if_neg n2, if_neg n3, if_neg n4, if_neg n5, if_neg n6, if_neg n7, if_neg n8, if_neg n9, if_neg n10, if_neg n11, if_neg n12, if_pos e] at t
    rw [l.2.2.2.1]; exact t
  refine ifI (fun e => ?_) (fun n14 => ?_)
  · rw [if_neg n0, if_neg n1, if_neg n2, if_neg n3, if_neg n4, if_neg n5, if_neg n6, if_neg n7, if_neg n8, if_neg n9, if_neg n10, if_neg n11, if_neg n12, if_neg n13, if_pos e] at t
    rw [l.2.2.2.2.1]; exact t
  refine ifI (fun e => ?_) (fun n15 => ?_)
  · rw [if_neg n0, if_neg n1, if_neg n2, if_neg n3, if_neg n4, if_neg n5, if_neg n6, if_neg n7, if_neg n8, if_neg n9, if_neg n10, if_neg n11, if_neg n12, if_neg n13, if_neg n14, if_pos e] at t
    rw [l.2.1]
    refine ⟨a, p1, by omega, by omega, ?_⟩
    by_cases c : a 5 = 0
    · rw [if_pos c] at t
      rw [if_pos (by omega)]; exact t
    · rw [if_neg c] at t
      rw [if_neg (by omega)]; exact t
  · rw [if_neg n0, if_neg n1, if_neg n2, if_neg n3, if_neg n4, if_neg n5, if_neg n6, if_neg n7, if_neg n8, if_neg n9, if_neg n10, if_neg n11, if_neg n12, if_neg n13, if_neg n14, if_neg n15] at t
    exact t
