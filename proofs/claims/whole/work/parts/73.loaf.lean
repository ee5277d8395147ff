/-! ===== the class: loaves (segments printed by wip/whole, contracts own work) ===== -/
theorem sI_ad {f : Int → Int} {n : Int} (h : 0 ≤ n) : ∀ m, 0 ≤ m → sI f (n + m) = sI f n + sI (fun k => f (n + k)) m := by
  intro m m0
  obtain ⟨k, rfl⟩ := Int.eq_ofNat_of_zero_le m0
  induction k with
  | zero => show sI f (n + 0) = sI f n + 0; rw [Int.add_zero, Int.add_zero]
  | succ k ih =>
    have e : ((k + 1 : Nat) : Int) = (k : Int) + 1 := rfl
    rw [e, ← Int.add_assoc, sI_s (by omega), sI_s (by omega), ih (by omega), Int.add_assoc]
/-- a loaf's answer at a place of the books -/
def LV (a : Int → Int) (k l what v : Int) : Prop := (what = 0 ∧ v = k.tmod 24) ∨ (what = 1 ∧ v = k.tdiv 24) ∨ (2 ≤ what ∧ ∃ p, (if l < a (51100 + k) then WH a (k.tmod 24) (k.tdiv 24) (l * a (111900 + k.tdiv 24)) p else p = -1) ∧ v = if what = 2 ∨ p < 0 then p else if what = 3 ∨ a (84700 + 60 * k.tdiv 24 + p) - 1 < 0 then a (84700 + 60 * k.tdiv 24 + p) - 1 else a (108700 + 8 * k.tdiv 24 + (a (84700 + 60 * k.tdiv 24 + p) - 1)) - 1)
theorem LF_of {a : Int → Int} {i what v k : Int} (h0 : 0 ≤ k ∧ k < 24 * a 0) (h1 : sI (fun k => a (41500 + k)) k ≤ i) (h2 : i < sI (fun k => a (41500 + k)) (k + 1)) (h : LV a k (i - sI (fun k => a (41500 + k)) k) what v) : LF a i what v := ⟨k, h0, h1, h2, h⟩
theorem td_of {w h : Int} (h0 : 0 ≤ w) (h1 : 0 ≤ h ∧ h < 24) : (24 * w + h).tdiv 24 = w ∧ (24 * w + h).tmod 24 = h := by
  rw [Int.tdiv_eq_ediv_of_nonneg (by omega), Int.tmod_eq_emod_of_nonneg (by omega)]
  omega
-- method 139: MillTown$WeekBook.payerOf(LMillTown$Rows;II)I
theorem c_139_0 : pg_cd 139 0 = (3, 1, 0, 2, 0) := by decide +kernel
theorem c_139_1 : pg_cd 139 1 = (36, 3, 0, 2, 19) := by decide +kernel
theorem c_139_4 : pg_cd 139 4 = (3, 1, 0, 2, 0) := by decide +kernel
theorem c_139_5 : pg_cd 139 5 = (1, 2, 0, 0, 24) := by decide +kernel
theorem c_139_7 : pg_cd 139 7 = (37, 3, 0, 3, 13) := by decide +kernel
theorem c_139_10 : pg_cd 139 10 = (3, 1, 0, 3, 0) := by decide +kernel
theorem c_139_11 : pg_cd 139 11 = (5, 1, 0, 0, 0) := by decide +kernel
theorem c_139_12 : pg_cd 139 12 = (45, 10, 27, 5, 0) := by decide +kernel
theorem c_139_15 : pg_cd 139 15 = (3, 1, 0, 2, 0) := by decide +kernel
theorem c_139_16 : pg_cd 139 16 = (50, 1, 0, 0, 0) := by decide +kernel
theorem c_139_17 : pg_cd 139 17 = (37, 3, 0, 2, 5) := by decide +kernel
theorem c_139_20 : pg_cd 139 20 = (1, 1, 0, 0, (-1)) := by decide +kernel
theorem c_139_21 : pg_cd 139 21 = (90, 0, 0, 0, 0) := by decide +kernel
theorem c_139_22 : pg_cd 139 22 = (3, 1, 0, 3, 0) := by decide +kernel
theorem c_139_23 : pg_cd 139 23 = (5, 1, 0, 0, 0) := by decide +kernel
theorem c_139_24 : pg_cd 139 24 = (43, 10, 43, 8, 0) := by decide +kernel
theorem c_139_27 : pg_cd 139 27 = (12, 1, 0, 0, 0) := by decide +kernel
theorem c_139_28 : pg_cd 139 28 = (6, 2, 0, 4, 0) := by decide +kernel
theorem c_139_30 : pg_cd 139 30 = (1, 1, 0, 0, 0) := by decide +kernel
theorem c_139_31 : pg_cd 139 31 = (6, 2, 0, 5, 0) := by decide +kernel
theorem c_139_33 : pg_cd 139 33 = (3, 2, 0, 5, 0) := by decide +kernel
theorem c_139_35 : pg_cd 139 35 = (5, 1, 0, 1, 0) := by decide +kernel
theorem c_139_36 : pg_cd 139 36 = (43, 4, 46, 2, 0) := by decide +kernel
theorem c_139_39 : pg_cd 139 39 = (37, 3, 0, 3, 54) := by decide +kernel
theorem c_139_42 : pg_cd 139 42 = (3, 2, 0, 5, 0) := by decide +kernel
theorem c_139_44 : pg_cd 139 44 = (1, 2, 0, 0, 60) := by decide +kernel
theorem c_139_46 : pg_cd 139 46 = (37, 3, 0, 3, 47) := by decide +kernel
theorem c_139_49 : pg_cd 139 49 = (5, 1, 0, 1, 0) := by decide +kernel
theorem c_139_50 : pg_cd 139 50 = (3, 2, 0, 5, 0) := by decide +kernel
theorem c_139_52 : pg_cd 139 52 = (1, 1, 0, 0, 0) := by decide +kernel
theorem c_139_53 : pg_cd 139 53 = (80, 55, 51, 0, 0) := by decide +kernel
theorem c_139_56 : pg_cd 139 56 = (3, 1, 0, 2, 0) := by decide +kernel
theorem c_139_57 : pg_cd 139 57 = (37, 3, 0, 1, 30) := by decide +kernel
theorem c_139_60 : pg_cd 139 60 = (3, 2, 0, 4, 0) := by decide +kernel
theorem c_139_62 : pg_cd 139 62 = (5, 1, 0, 0, 0) := by decide +kernel
theorem c_139_63 : pg_cd 139 63 = (45, 10, 9, 0, 0) := by decide +kernel
theorem c_139_66 : pg_cd 139 66 = (3, 2, 0, 5, 0) := by decide +kernel
theorem c_139_68 : pg_cd 139 68 = (50, 1, 0, 0, 0) := by decide +kernel
theorem c_139_69 : pg_cd 139 69 = (37, 3, 0, 3, 6) := by decide +kernel
theorem c_139_72 : pg_cd 139 72 = (3, 2, 0, 5, 0) := by decide +kernel
theorem c_139_74 : pg_cd 139 74 = (90, 0, 0, 0, 0) := by decide +kernel
theorem c_139_75 : pg_cd 139 75 = (3, 2, 0, 4, 0) := by decide +kernel
theorem c_139_77 : pg_cd 139 77 = (5, 1, 0, 0, 0) := by decide +kernel
theorem c_139_78 : pg_cd 139 78 = (45, 10, 9, 0, 0) := by decide +kernel
theorem c_139_81 : pg_cd 139 81 = (3, 2, 0, 5, 0) := by decide +kernel
theorem c_139_83 : pg_cd 139 83 = (50, 1, 0, 0, 0) := by decide +kernel
theorem c_139_84 : pg_cd 139 84 = (11, 1, 0, 0, 0) := by decide +kernel
theorem c_139_85 : pg_cd 139 85 = (6, 2, 0, 4, 0) := by decide +kernel
theorem c_139_87 : pg_cd 139 87 = (9, 3, 0, 5, 1) := by decide +kernel
theorem c_139_90 : pg_cd 139 90 = (38, 3, 0, 0, (-57)) := by decide +kernel
theorem c_139_93 : pg_cd 139 93 = (1, 1, 0, 0, (-1)) := by decide +kernel
theorem c_139_94 : pg_cd 139 94 = (90, 0, 0, 0, 0) := by decide +kernel
theorem mi_139 : pg_mc 139 = 10 ∧ pg_na 139 = 3 ∧ pg_mx 139 = 6 := by decide +kernel
set_option maxRecDepth 20000 in
theorem u_139_0 {d : Nat} {S : zS} {σ τ : zI} {Q : zQ} {x0 : Nat} {x1 : Nat} {x2 : Int} {x3 : Int} (hx0 : oB S x0) (hx1 : tw x1) (t : (rg x2) ∧ if x2 < 0 then (Q (some (.int (wI (-1)))) S σ τ) else (if (24 : Int) ≤ x2 then (Q (some (.int (wI (-1)))) S σ τ) else ((0 ≤ x2 ∧ x2 < 24) ∧ (rg x3) ∧ if x3 < (σ (x0 + 6) x2) then (wi (d + 1) 139 33 [.ref x0, .ref (x1 + 11), .int (wI x2), .int (wI x3), .int (wI (x3 * (σ x0 8))), .int (wI 0)] [] S σ τ Q) else (Q (some (.int (wI (-1)))) S σ τ)))) : wi (d + 1) 139 0 [.ref x0, .ref (x1 + 11), .int (wI x2), .int (wI x3), .retAddr 0, .retAddr 0] [] S σ τ Q := by
  obtain ⟨r1, t⟩ := t
  refine i3 c_139_0 rfl ?_
  refine i36 c_139_1 r1 rfl (fun hc => ?_) (fun hc => ?_)
  · have t := iT t hc
    have ha2 : x2 < 0 := hc
    refine i1 c_139_20 ?_
    exact i90 c_139_21 t
  · have t := iF t hc
    have ha2 : ¬ (x2 < 0) := hc
    refine i3 c_139_4 rfl (i1 c_139_5 ?_)
    refine i37 c_139_7 r1 (by decide) rfl (fun hc => ?_) (fun hc => ?_)
    · have t := iT t hc
      have ha3 : (24 : Int) ≤ x2 := hc
      refine i1 c_139_20 ?_
      exact i90 c_139_21 t
    · have t := iF t hc
      have ha3 : ¬ ((24 : Int) ≤ x2) := hc
      obtain ⟨r4, t⟩ := t
      refine i3 c_139_10 rfl (i5 c_139_11 rfl (i45 c_139_12 (fun _ => oB_0 hx0) (fun _ => oB_r5 hx0) (i3 c_139_15 rfl (wi_ok (fun K5 => ?_)))))
      obtain ⟨r6, t⟩ := t
      refine i50 (v := σ (x0 + 6) x2) c_139_16 (fun _ => oB_6 hx0) (by decide) r4 rfl ?_
      refine i37 c_139_17 r6 (rge_ K5 rfl) rfl (fun hc => ?_) (fun hc => ?_)
      · have t := iT t hc
        have ha7 : x3 < (σ (x0 + 6) x2) := hc
        refine i3 c_139_22 rfl (i5 c_139_23 rfl (i43 (v := σ x0 8) c_139_24 (fun _ => oB_0 hx0) rfl (i12 c_139_27 (i6 (L' := [.ref x0, .ref (x1 + 11), .int (wI x2), .int (wI x3), .int (wI (x3 * (σ x0 8))), .retAddr 0]) c_139_28 rfl (i1 c_139_30 (i6 (L' := [.ref x0, .ref (x1 + 11), .int (wI x2), .int (wI x3), .int (wI (x3 * (σ x0 8))), .int (wI 0)]) c_139_31 rfl t))))))
      · have t := iF t hc
        have ha7 : ¬ (x3 < (σ (x0 + 6) x2)) := hc
        refine i1 c_139_20 ?_
        exact i90 c_139_21 t
set_option maxRecDepth 20000 in
theorem u_139_33 {d : Nat} {S : zS} {σ τ : zI} {Q : zQ} {x0 : Nat} {x1 : Nat} {x2 : Int} {x3 : Int} {x4 : Int} {x5 : Int} (hx0 : oB S x0) (hx1 : tw x1) (t : (rg x5) ∧ if (σ (x1 + 11) 2) ≤ x5 then (Q (some (.int (wI (-1)))) S σ τ) else (if (60 : Int) ≤ x5 then (Q (some (.int (wI (-1)))) S σ τ) else ((rg x2) ∧ if (rt_ (σ (x1 + 11) 2) (σ (x1 + 12)) 9 0 x5) = x2 then ((0 ≤ x5 ∧ x5 < 60) ∧ (rg x4) ∧ if (σ (x0 + 1) x5) ≤ x4 then (wi (d + 1) 139 33 [.ref x0, .ref (x1 + 11), .int (wI x2), .int (wI x3), .int (wI (x4 - (σ (x0 + 1) x5))), .int (wI (x5 + 1))] [] S σ τ Q) else (Q (some (.int (wI x5))) S σ τ)) else (wi (d + 1) 139 33 [.ref x0, .ref (x1 + 11), .int (wI x2), .int (wI x3), .int (wI x4), .int (wI (x5 + 1))] [] S σ τ Q)))) : wi (d + 1) 139 33 [.ref x0, .ref (x1 + 11), .int (wI x2), .int (wI x3), .int (wI x4), .int (wI x5)] [] S σ τ Q := by
  refine i3 c_139_33 rfl (i5 c_139_35 rfl (wi_ok (fun K1 => ?_)))
  obtain ⟨r2, t⟩ := t
  refine i43 (v := σ (x1 + 11) 2) c_139_36 (lo (lyt_11 hx1) (by have := tw_b hx1; omega)) rfl ?_
  refine i37 c_139_39 r2 (rge_ K1 rfl) rfl (fun hc => ?_) (fun hc => ?_)
  · have t := iT t hc
    have ha3 : (σ (x1 + 11) 2) ≤ x5 := hc
    refine i1 c_139_93 ?_
    exact i90 c_139_94 t
  · have t := iF t hc
    have ha3 : ¬ ((σ (x1 + 11) 2) ≤ x5) := hc
    refine i3 c_139_42 rfl (i1 c_139_44 ?_)
    refine i37 c_139_46 r2 (by decide) rfl (fun hc => ?_) (fun hc => ?_)
    · have t := iT t hc
      have ha4 : (60 : Int) ≤ x5 := hc
      refine i1 c_139_93 ?_
      exact i90 c_139_94 t
    · have t := iF t hc
      have ha4 : ¬ ((60 : Int) ≤ x5) := hc
      refine i5 c_139_49 rfl (i3 c_139_50 rfl (i1 c_139_52 ?_))
      refine i80 (As := [.int (wI x5), .int (wI 0)]) (rest := []) c_139_53 mi_55 rfl rfl (Nat.le_of_ble_eq_true rfl) (Nat.le_of_ble_eq_true rfl) (lo (lyt_11 hx1) (by have := tw_b hx1; omega)) (q_at (ow_persons hx1) r2 (by decide) ?_)
      show wi (d + 1) 139 56 [.ref x0, .ref (x1 + 11), .int (wI x2), .int (wI x3), .int (wI x4), .int (wI x5)] [.int (wI (rt_ (σ (x1 + 11) 2) (σ (x1 + 12)) 9 0 x5))] S σ τ Q
      obtain ⟨r5, t⟩ := t
      refine i3 c_139_56 rfl ?_
      refine i37 c_139_57 (rg_rt_ (fun k => kO_r K1 _ k) _ _ _ _) r5 rfl (fun hc => ?_) (fun hc => ?_)
      · have t := iF t hc
        have ha6 : ¬ ((rt_ (σ (x1 + 11) 2) (σ (x1 + 12)) 9 0 x5) = x2) := hc
        refine i9 (L' := [.ref x0, .ref (x1 + 11), .int (wI x2), .int (wI x3), .int (wI x4), .int (wI (x5 + 1))]) c_139_87 rfl rfl (i38 c_139_90 rfl t)
      · have t := iT t (Decidable.not_not.mp hc)
        have ha6 : (rt_ (σ (x1 + 11) 2) (σ (x1 + 12)) 9 0 x5) = x2 := Decidable.not_not.mp hc
        obtain ⟨r7, t⟩ := t
        obtain ⟨r8, t⟩ := t
        refine i3 c_139_60 rfl (i5 c_139_62 rfl (i45 c_139_63 (fun _ => oB_0 hx0) (fun _ => oB_r0 hx0) (i3 c_139_66 rfl (i50 (v := σ (x0 + 1) x5) c_139_68 (fun _ => oB_1 hx0) (by decide) r7 rfl ?_))))
        refine i37 c_139_69 r8 (rge_ K1 rfl) rfl (fun hc => ?_) (fun hc => ?_)
        · have t := iT t hc
          have ha9 : (σ (x0 + 1) x5) ≤ x4 := hc
          refine i3 c_139_75 rfl (i5 c_139_77 rfl (i45 c_139_78 (fun _ => oB_0 hx0) (fun _ => oB_r0 hx0) (i3 c_139_81 rfl (i50 (v := σ (x0 + 1) x5) c_139_83 (fun _ => oB_1 hx0) (by decide) r7 rfl (i11 c_139_84 (i6 (L' := [.ref x0, .ref (x1 + 11), .int (wI x2), .int (wI x3), .int (wI (x4 - (σ (x0 + 1) x5))), .int (wI x5)]) c_139_85 rfl (i9 (L' := [.ref x0, .ref (x1 + 11), .int (wI x2), .int (wI x3), .int (wI (x4 - (σ (x0 + 1) x5))), .int (wI (x5 + 1))]) c_139_87 rfl rfl (i38 c_139_90 rfl t))))))))
        · have t := iF t hc
          have ha9 : ¬ ((σ (x0 + 1) x5) ≤ x4) := hc
          refine i3 c_139_72 rfl ?_
          exact i90 c_139_74 t
theorem q_139 {d : Nat} {S : zS} {σ τ : zI} {Q : zQ} {y : Nat} {tn : Nat} {home : Int} {i : Int} {a : Int → Int} {w : Int} (hy : oB S y) (htn : tw tn) (p0 : BK σ y a w) (p1 : RT σ tn a) (p2 : jv_C a) (p3 : jv_B a) (p4 : 0 ≤ w ∧ w < a 0) (p5 : 0 ≤ home ∧ home < (24 : Int)) (p6 : 0 ≤ i ∧ i ≤ (240 : Int)) (t : ∀ (v : Int), (if i < a (51100 + 24 * w + home) then WH a home w (i * a (111900 + w)) v else v = -1) → -1 ≤ v ∧ v < 60 → Q (some (.int (wI v))) S σ τ) : wc (d + 1) 139 [.ref y, .ref (tn + 11), .int (wI home), .int (wI i)] S σ τ Q := by
  have hC := p2
  unfold jv_C at hC
  have q := p3.1 w p4.1 p4.2
  have hh := p0.2.2.1 home p5.1 p5.2
  refine wc_of mi_139 rfl (u_139_0 hy htn ⟨by omega, ?_⟩)
  rw [if_neg (by omega), if_neg (by omega), hh.2.2.1]
  refine ⟨by omega, by omega, ifI (fun e => ?_) (fun e => t (-1) (by rw [if_neg (by omega)]) (by omega))⟩
  rw [p0.2.2.2.2]
  have pb := q.2.2.1
  have lb : 0 ≤ i * a (111900 + w) ∧ i * a (111900 + w) ≤ 240 * 100000 := ⟨Int.mul_nonneg p6.1 (by omega), Int.mul_le_mul p6.2 pb.2 (by omega) (by omega)⟩
  simp only [if_pos e] at t
  generalize i * a (111900 + w) = coin at *
  have cn := cP p1
  have key : ∀ p, 0 ≤ p → p ≤ a 4 → ∀ s, s = coin - sI (hw_ a home w) p → 0 ≤ s → (∀ p', 0 ≤ p' → p' < p → a (3652 + 12 * p' + 0) = home → sI (hw_ a home w) (p' + 1) ≤ coin) → wi (d + 1) 139 33 [.ref y, .ref (tn + 11), .int (wI home), .int (wI i), .int (wI s), .int (wI p)] [] S σ τ Q := by
    refine lp_up (fun p h0 h1 ih => ?_)
    intro s hs s0 ha
    have b0 := hw_b (h := home) (n := p) p2 p3 p4 (by omega)
    refine u_139_33 hy htn ?_
    rw [cn]
    refine ⟨by omega, ifI (fun e => ?_) (fun e => ?_)⟩
    · have : p = a 4 := by omega
      subst this
      exact t (-1) (Or.inl ⟨rfl, ha⟩) (by omega)
    · rw [if_neg (by omega)]
      have vp := vP p1 (p := p) (k := 0) (by omega) (by omega)
      rw [cn] at vp
      rw [vp, (p0.1 p h0 (by omega)).1]
      have ih := ih (by omega)
      have b1 := hw_b (h := home) (n := p + 1) p2 p3 p4 (by omega)
      rw [sI_s h0] at ih b1
      refine ⟨by omega, ifI (fun c => ?_) (fun c => ?_)⟩
      · have e1 : hw_ a home w p = a (60700 + 60 * w + p) := if_pos c
        rw [e1] at ih b1
        refine ⟨by omega, by omega, ifI (fun c2 => ?_) (fun c2 => ?_)⟩
        · refine ih _ (by omega) (by omega) (fun p' h2 h3 h4 => ?_)
          by_cases c3 : p' = p
          · subst c3
            rw [sI_s h0, e1]; omega
          · exact ha p' h2 (by omega) h4
        · refine t p (Or.inr ⟨⟨by omega, by omega⟩, c, ?_, ha⟩) (by omega)
          rw [sI_s h0, e1]; omega
      · have e1 : hw_ a home w p = 0 := if_neg c
        rw [e1, Int.add_zero] at ih
        refine ih _ (by omega) (by omega) (fun p' h2 h3 h4 => ?_)
        by_cases c3 : p' = p
        · subst c3
          exact absurd h4 c
        · exact ha p' h2 (by omega) h4
  exact key 0 (by omega) (by omega) coin (by rw [sI_0]; omega) (by omega) (fun p' h2 h3 _ => by omega)
-- method 6: MillTown$Books.factIn(LMillTown$WeekBook;LMillTown$Rows;II)I
theorem c_6_0 : pg_cd 6 0 = (1, 1, 0, 0, 0) := by decide +kernel
theorem c_6_1 : pg_cd 6 1 = (6, 2, 0, 4, 0) := by decide +kernel
theorem c_6_3 : pg_cd 6 3 = (3, 1, 0, 2, 0) := by decide +kernel
theorem c_6_4 : pg_cd 6 4 = (6, 2, 0, 5, 0) := by decide +kernel
theorem c_6_6 : pg_cd 6 6 = (3, 2, 0, 4, 0) := by decide +kernel
theorem c_6_8 : pg_cd 6 8 = (1, 2, 0, 0, 23) := by decide +kernel
theorem c_6_10 : pg_cd 6 10 = (37, 3, 0, 3, 49) := by decide +kernel
theorem c_6_13 : pg_cd 6 13 = (3, 2, 0, 5, 0) := by decide +kernel
theorem c_6_15 : pg_cd 6 15 = (5, 1, 0, 0, 0) := by decide +kernel
theorem c_6_16 : pg_cd 6 16 = (45, 10, 49, 5, 0) := by decide +kernel
theorem c_6_19 : pg_cd 6 19 = (3, 2, 0, 4, 0) := by decide +kernel
theorem c_6_21 : pg_cd 6 21 = (50, 1, 0, 0, 0) := by decide +kernel
theorem c_6_22 : pg_cd 6 22 = (5, 1, 0, 0, 0) := by decide +kernel
theorem c_6_23 : pg_cd 6 23 = (45, 10, 52, 6, 0) := by decide +kernel
theorem c_6_26 : pg_cd 6 26 = (3, 2, 0, 4, 0) := by decide +kernel
theorem c_6_28 : pg_cd 6 28 = (50, 1, 0, 0, 0) := by decide +kernel
theorem c_6_29 : pg_cd 6 29 = (10, 1, 0, 0, 0) := by decide +kernel
theorem c_6_30 : pg_cd 6 30 = (37, 3, 0, 2, 29) := by decide +kernel
theorem c_6_33 : pg_cd 6 33 = (3, 2, 0, 5, 0) := by decide +kernel
theorem c_6_35 : pg_cd 6 35 = (5, 1, 0, 0, 0) := by decide +kernel
theorem c_6_36 : pg_cd 6 36 = (45, 10, 49, 5, 0) := by decide +kernel
theorem c_6_39 : pg_cd 6 39 = (3, 2, 0, 4, 0) := by decide +kernel
theorem c_6_41 : pg_cd 6 41 = (50, 1, 0, 0, 0) := by decide +kernel
theorem c_6_42 : pg_cd 6 42 = (5, 1, 0, 0, 0) := by decide +kernel
theorem c_6_43 : pg_cd 6 43 = (45, 10, 52, 6, 0) := by decide +kernel
theorem c_6_46 : pg_cd 6 46 = (3, 2, 0, 4, 0) := by decide +kernel
theorem c_6_48 : pg_cd 6 48 = (50, 1, 0, 0, 0) := by decide +kernel
theorem c_6_49 : pg_cd 6 49 = (10, 1, 0, 0, 0) := by decide +kernel
theorem c_6_50 : pg_cd 6 50 = (11, 1, 0, 0, 0) := by decide +kernel
theorem c_6_51 : pg_cd 6 51 = (6, 2, 0, 5, 0) := by decide +kernel
theorem c_6_53 : pg_cd 6 53 = (9, 3, 0, 4, 1) := by decide +kernel
theorem c_6_56 : pg_cd 6 56 = (38, 3, 0, 0, (-50)) := by decide +kernel
theorem c_6_59 : pg_cd 6 59 = (3, 1, 0, 3, 0) := by decide +kernel
theorem c_6_60 : pg_cd 6 60 = (36, 3, 0, 1, 6) := by decide +kernel
theorem c_6_63 : pg_cd 6 63 = (3, 2, 0, 4, 0) := by decide +kernel
theorem c_6_65 : pg_cd 6 65 = (90, 0, 0, 0, 0) := by decide +kernel
theorem c_6_66 : pg_cd 6 66 = (5, 1, 0, 0, 0) := by decide +kernel
theorem c_6_67 : pg_cd 6 67 = (5, 1, 0, 1, 0) := by decide +kernel
theorem c_6_68 : pg_cd 6 68 = (3, 2, 0, 4, 0) := by decide +kernel
theorem c_6_70 : pg_cd 6 70 = (3, 2, 0, 5, 0) := by decide +kernel
theorem c_6_72 : pg_cd 6 72 = (80, 139, 55, 0, 0) := by decide +kernel
theorem c_6_75 : pg_cd 6 75 = (6, 2, 0, 6, 0) := by decide +kernel
theorem c_6_77 : pg_cd 6 77 = (3, 1, 0, 3, 0) := by decide +kernel
theorem c_6_78 : pg_cd 6 78 = (1, 1, 0, 0, 2) := by decide +kernel
theorem c_6_79 : pg_cd 6 79 = (37, 3, 0, 0, 15) := by decide +kernel
theorem c_6_82 : pg_cd 6 82 = (3, 2, 0, 6, 0) := by decide +kernel
theorem c_6_84 : pg_cd 6 84 = (36, 3, 0, 2, 10) := by decide +kernel
theorem c_6_87 : pg_cd 6 87 = (3, 2, 0, 6, 0) := by decide +kernel
theorem c_6_89 : pg_cd 6 89 = (1, 2, 0, 0, 60) := by decide +kernel
theorem c_6_91 : pg_cd 6 91 = (37, 3, 0, 2, 6) := by decide +kernel
theorem c_6_94 : pg_cd 6 94 = (3, 2, 0, 6, 0) := by decide +kernel
theorem c_6_96 : pg_cd 6 96 = (90, 0, 0, 0, 0) := by decide +kernel
theorem c_6_97 : pg_cd 6 97 = (5, 1, 0, 0, 0) := by decide +kernel
theorem c_6_98 : pg_cd 6 98 = (45, 10, 59, 1, 0) := by decide +kernel
theorem c_6_101 : pg_cd 6 101 = (3, 2, 0, 6, 0) := by decide +kernel
theorem c_6_103 : pg_cd 6 103 = (50, 1, 0, 0, 0) := by decide +kernel
theorem c_6_104 : pg_cd 6 104 = (6, 2, 0, 7, 0) := by decide +kernel
theorem c_6_106 : pg_cd 6 106 = (3, 1, 0, 3, 0) := by decide +kernel
theorem c_6_107 : pg_cd 6 107 = (1, 1, 0, 0, 3) := by decide +kernel
theorem c_6_108 : pg_cd 6 108 = (37, 3, 0, 0, 15) := by decide +kernel
theorem c_6_111 : pg_cd 6 111 = (3, 2, 0, 7, 0) := by decide +kernel
theorem c_6_113 : pg_cd 6 113 = (36, 3, 0, 2, 10) := by decide +kernel
theorem c_6_116 : pg_cd 6 116 = (3, 2, 0, 7, 0) := by decide +kernel
theorem c_6_118 : pg_cd 6 118 = (1, 2, 0, 0, 8) := by decide +kernel
theorem c_6_120 : pg_cd 6 120 = (37, 3, 0, 2, 6) := by decide +kernel
theorem c_6_123 : pg_cd 6 123 = (3, 2, 0, 7, 0) := by decide +kernel
theorem c_6_125 : pg_cd 6 125 = (90, 0, 0, 0, 0) := by decide +kernel
theorem c_6_126 : pg_cd 6 126 = (5, 1, 0, 0, 0) := by decide +kernel
theorem c_6_127 : pg_cd 6 127 = (45, 10, 62, 2, 0) := by decide +kernel
theorem c_6_130 : pg_cd 6 130 = (3, 2, 0, 7, 0) := by decide +kernel
theorem c_6_132 : pg_cd 6 132 = (50, 1, 0, 0, 0) := by decide +kernel
theorem c_6_133 : pg_cd 6 133 = (90, 0, 0, 0, 0) := by decide +kernel
theorem mi_6 : pg_mc 6 = 0 ∧ pg_na 6 = 4 ∧ pg_mx 6 = 8 := by decide +kernel
set_option maxRecDepth 20000 in
theorem u_6_0 {d : Nat} {S : zS} {σ τ : zI} {Q : zQ} {x0 : Nat} {x1 : Nat} {x2 : Int} {x3 : Int} (hx0 : oB S x0) (hx1 : tw x1) (t : wi (d + 2) 6 6 [.ref x0, .ref (x1 + 11), .int (wI x2), .int (wI x3), .int (wI 0), .int (wI x2), .retAddr 0, .retAddr 0] [] S σ τ Q) : wi (d + 2) 6 0 [.ref x0, .ref (x1 + 11), .int (wI x2), .int (wI x3), .retAddr 0, .retAddr 0, .retAddr 0, .retAddr 0] [] S σ τ Q := by
  refine i1 c_6_0 (i6 (L' := [.ref x0, .ref (x1 + 11), .int (wI x2), .int (wI x3), .int (wI 0), .retAddr 0, .retAddr 0, .retAddr 0]) c_6_1 rfl (i3 c_6_3 rfl (i6 (L' := [.ref x0, .ref (x1 + 11), .int (wI x2), .int (wI x3), .int (wI 0), .int (wI x2), .retAddr 0, .retAddr 0]) c_6_4 rfl t)))
set_option maxRecDepth 20000 in
theorem u_6_6 {d : Nat} {S : zS} {σ τ : zI} {Q : zQ} {x0 : Nat} {x1 : Nat} {x2 : Int} {x3 : Int} {x4 : Int} {x5 : Int} {y6 : Value} {y7 : Value} (hx0 : oB S x0) (hx1 : tw x1) (t : (rg x4) ∧ if (23 : Int) ≤ x4 then (wi (d + 2) 6 59 [.ref x0, .ref (x1 + 11), .int (wI x2), .int (wI x3), .int (wI x4), .int (wI x5), y6, y7] [] S σ τ Q) else ((0 ≤ x4 ∧ x4 < 24) ∧ (rg x5) ∧ (rg ((σ (x0 + 6) x4) + (σ (x0 + 7) x4))) ∧ if x5 < ((σ (x0 + 6) x4) + (σ (x0 + 7) x4)) then (wi (d + 2) 6 59 [.ref x0, .ref (x1 + 11), .int (wI x2), .int (wI x3), .int (wI x4), .int (wI x5), y6, y7] [] S σ τ Q) else (wi (d + 2) 6 6 [.ref x0, .ref (x1 + 11), .int (wI x2), .int (wI x3), .int (wI (x4 + 1)), .int (wI (x5 - ((σ (x0 + 6) x4) + (σ (x0 + 7) x4)))), y6, y7] [] S σ τ Q))) : wi (d + 2) 6 6 [.ref x0, .ref (x1 + 11), .int (wI x2), .int (wI x3), .int (wI x4), .int (wI x5), y6, y7] [] S σ τ Q := by
  obtain ⟨r1, t⟩ := t
  refine i3 c_6_6 rfl (i1 c_6_8 ?_)
  refine i37 c_6_10 r1 (by decide) rfl (fun hc => ?_) (fun hc => ?_)
  · have t := iT t hc
    have ha2 : (23 : Int) ≤ x4 := hc
    exact t
  · have t := iF t hc
    have ha2 : ¬ ((23 : Int) ≤ x4) := hc
    obtain ⟨r3, t⟩ := t
    refine i3 c_6_13 rfl (i5 c_6_15 rfl (i45 c_6_16 (fun _ => oB_0 hx0) (fun _ => oB_r5 hx0) (i3 c_6_19 rfl (wi_ok (fun K4 => ?_)))))
    obtain ⟨r5, t⟩ := t
    obtain ⟨r6, t⟩ := t
    refine i50 (v := σ (x0 + 6) x4) c_6_21 (fun _ => oB_6 hx0) (by decide) r3 rfl (i5 c_6_22 rfl (i45 c_6_23 (fun _ => oB_0 hx0) (fun _ => oB_r6 hx0) (i3 c_6_26 rfl (i50 (v := σ (x0 + 7) x4) c_6_28 (fun _ => oB_7 hx0) (by decide) r3 rfl (i10 c_6_29 ?_)))))
    refine i37 c_6_30 r5 r6 rfl (fun hc => ?_) (fun hc => ?_)
    · have t := iT t hc
      have ha7 : x5 < ((σ (x0 + 6) x4) + (σ (x0 + 7) x4)) := hc
      exact t
    · have t := iF t hc
      have ha7 : ¬ (x5 < ((σ (x0 + 6) x4) + (σ (x0 + 7) x4))) := hc
      refine i3 c_6_33 rfl (i5 c_6_35 rfl (i45 c_6_36 (fun _ => oB_0 hx0) (fun _ => oB_r5 hx0) (i3 c_6_39 rfl (i50 (v := σ (x0 + 6) x4) c_6_41 (fun _ => oB_6 hx0) (by decide) r3 rfl (i5 c_6_42 rfl (i45 c_6_43 (fun _ => oB_0 hx0) (fun _ => oB_r6 hx0) (i3 c_6_46 rfl (i50 (v := σ (x0 + 7) x4) c_6_48 (fun _ => oB_7 hx0) (by decide) r3 rfl (i10 c_6_49 (i11 c_6_50 (i6 (L' := [.ref x0, .ref (x1 + 11), .int (wI x2), .int (wI x3), .int (wI x4), .int (wI (x5 - ((σ (x0 + 6) x4) + (σ (x0 + 7) x4)))), y6, y7]) c_6_51 rfl (i9 (L' := [.ref x0, .ref (x1 + 11), .int (wI x2), .int (wI x3), .int (wI (x4 + 1)), .int (wI (x5 - ((σ (x0 + 6) x4) + (σ (x0 + 7) x4)))), y6, y7]) c_6_53 rfl rfl (i38 c_6_56 rfl t)))))))))))))
set_option maxRecDepth 20000 in
theorem u_6_59 {d : Nat} {S : zS} {σ τ : zI} {Q : zQ} {x0 : Nat} {x1 : Nat} {x2 : Int} {x3 : Int} {x4 : Int} {x5 : Int} {y6 : Value} {y7 : Value} (hx0 : oB S x0) (hx1 : tw x1) (t : (rg x3) ∧ if x3 = 0 then (Q (some (.int (wI x4))) S σ τ) else (∃ a3 : Int → Int, ∃ w4 : Int, (BK σ x0 a3 w4) ∧ (RT σ x1 a3) ∧ (jv_C a3) ∧ (jv_B a3) ∧ (0 ≤ w4 ∧ w4 < a3 0) ∧ (0 ≤ x4 ∧ x4 < (24 : Int)) ∧ (0 ≤ x5 ∧ x5 ≤ (240 : Int)) ∧ ∀ (v12 : Int), (if x5 < a3 (51100 + 24 * w4 + x4) then WH a3 x4 w4 (x5 * a3 (111900 + w4)) v12 else v12 = -1) → -1 ≤ v12 ∧ v12 < 60 → if x3 = 2 then (wi (d + 2) 6 94 [.ref x0, .ref (x1 + 11), .int (wI x2), .int (wI x3), .int (wI x4), .int (wI x5), .int (wI v12), y7] [] S σ τ Q) else ((rg v12) ∧ if v12 < 0 then (wi (d + 2) 6 94 [.ref x0, .ref (x1 + 11), .int (wI x2), .int (wI x3), .int (wI x4), .int (wI x5), .int (wI v12), y7] [] S σ τ Q) else (if v12 < 60 then ((0 ≤ v12 ∧ v12 < 60) ∧ if x3 = 3 then (wi (d + 2) 6 123 [.ref x0, .ref (x1 + 11), .int (wI x2), .int (wI x3), .int (wI x4), .int (wI x5), .int (wI v12), .int (wI (σ (x0 + 2) v12))] [] S σ τ Q) else (if (σ (x0 + 2) v12) < 0 then (wi (d + 2) 6 123 [.ref x0, .ref (x1 + 11), .int (wI x2), .int (wI x3), .int (wI x4), .int (wI x5), .int (wI v12), .int (wI (σ (x0 + 2) v12))] [] S σ τ Q) else (if (σ (x0 + 2) v12) < 8 then ((0 ≤ σ (x0 + 2) v12 ∧ σ (x0 + 2) v12 < 8) ∧ Q (some (.int (wI (σ (x0 + 3) (σ (x0 + 2) v12))))) S σ τ) else (wi (d + 2) 6 123 [.ref x0, .ref (x1 + 11), .int (wI x2), .int (wI x3), .int (wI x4), .int (wI x5), .int (wI v12), .int (wI (σ (x0 + 2) v12))] [] S σ τ Q)))) else (wi (d + 2) 6 94 [.ref x0, .ref (x1 + 11), .int (wI x2), .int (wI x3), .int (wI x4), .int (wI x5), .int (wI v12), y7] [] S σ τ Q))))) : wi (d + 2) 6 59 [.ref x0, .ref (x1 + 11), .int (wI x2), .int (wI x3), .int (wI x4), .int (wI x5), y6, y7] [] S σ τ Q := by
  obtain ⟨r1, t⟩ := t
  refine i3 c_6_59 rfl ?_
  refine i36 c_6_60 r1 rfl (fun hc => ?_) (fun hc => ?_)
  · have t := iF t hc
    have ha2 : ¬ (x3 = 0) := hc
    obtain ⟨a3, t⟩ := t
    obtain ⟨w4, t⟩ := t
    obtain ⟨p5, t⟩ := t
    obtain ⟨p6, t⟩ := t
    obtain ⟨p7, t⟩ := t
    obtain ⟨p8, t⟩ := t
    obtain ⟨p9, t⟩ := t
    obtain ⟨p10, t⟩ := t
    obtain ⟨p11, t⟩ := t
    refine i5 c_6_66 rfl (i5 c_6_67 rfl (i3 c_6_68 rfl (i3 c_6_70 rfl ?_)))
    refine i80 (As := [.ref (x1 + 11), .int (wI x4), .int (wI x5)]) (rest := []) c_6_72 mi_139 rfl rfl (Nat.le_of_ble_eq_true rfl) (Nat.le_of_ble_eq_true rfl) (fun _ => oB_0 hx0) (q_139 (a := a3) (w := w4) hx0 hx1 p5 p6 p7 p8 p9 p10 p11 (fun v12 q13 q14 => ?_))
    have t := t v12 q13 q14
    show wi (d + 2) 6 75 [.ref x0, .ref (x1 + 11), .int (wI x2), .int (wI x3), .int (wI x4), .int (wI x5), y6, y7] [.int (wI v12)] S σ τ Q
    refine i6 (L' := [.ref x0, .ref (x1 + 11), .int (wI x2), .int (wI x3), .int (wI x4), .int (wI x5), .int (wI v12), y7]) c_6_75 rfl (i3 c_6_77 rfl (i1 c_6_78 ?_))
    refine i37 c_6_79 r1 (by decide) rfl (fun hc => ?_) (fun hc => ?_)
    · have t := iT t hc
      have ha15 : x3 = 2 := hc
      exact t
    · have t := iF t hc
      have ha15 : ¬ (x3 = 2) := hc
      obtain ⟨r16, t⟩ := t
      refine i3 c_6_82 rfl ?_
      refine i36 c_6_84 r16 rfl (fun hc => ?_) (fun hc => ?_)
      · have t := iT t hc
        have ha17 : v12 < 0 := hc
        exact t
      · have t := iF t hc
        have ha17 : ¬ (v12 < 0) := hc
        refine i3 c_6_87 rfl (i1 c_6_89 ?_)
        refine i37 c_6_91 r16 (by decide) rfl (fun hc => ?_) (fun hc => ?_)
        · have t := iT t hc
          have ha18 : v12 < 60 := hc
          obtain ⟨r19, t⟩ := t
          refine i5 c_6_97 rfl (i45 c_6_98 (fun _ => oB_0 hx0) (fun _ => oB_r1 hx0) (i3 c_6_101 rfl (wi_ok (fun K20 => ?_))))
          refine i50 (v := σ (x0 + 2) v12) c_6_103 (fun _ => oB_2 hx0) (by decide) r19 rfl (i6 (L' := [.ref x0, .ref (x1 + 11), .int (wI x2), .int (wI x3), .int (wI x4), .int (wI x5), .int (wI v12), .int (wI (σ (x0 + 2) v12))]) c_6_104 rfl (i3 c_6_106 rfl (i1 c_6_107 ?_)))
          refine i37 c_6_108 r1 (by decide) rfl (fun hc => ?_) (fun hc => ?_)
          · have t := iT t hc
            have ha21 : x3 = 3 := hc
            exact t
          · have t := iF t hc
            have ha21 : ¬ (x3 = 3) := hc
            refine i3 c_6_111 rfl ?_
            refine i36 c_6_113 (rge_ K20 rfl) rfl (fun hc => ?_) (fun hc => ?_)
            · have t := iT t hc
              have ha22 : (σ (x0 + 2) v12) < 0 := hc
              exact t
            · have t := iF t hc
              have ha22 : ¬ ((σ (x0 + 2) v12) < 0) := hc
              refine i3 c_6_116 rfl (i1 c_6_118 ?_)
              refine i37 c_6_120 (rge_ K20 rfl) (by decide) rfl (fun hc => ?_) (fun hc => ?_)
              · have t := iT t hc
                have ha23 : (σ (x0 + 2) v12) < 8 := hc
                obtain ⟨r24, t⟩ := t
                refine i5 c_6_126 rfl (i45 c_6_127 (fun _ => oB_0 hx0) (fun _ => oB_r2 hx0) (i3 c_6_130 rfl (i50 (v := σ (x0 + 3) (σ (x0 + 2) v12)) c_6_132 (fun _ => oB_3 hx0) (by decide) r24 rfl ?_)))
                exact i90 c_6_133 t
              · have t := iF t hc
                have ha23 : ¬ ((σ (x0 + 2) v12) < 8) := hc
                exact t
        · have t := iF t hc
          have ha18 : ¬ (v12 < 60) := hc
          exact t
  · have t := iT t (Decidable.not_not.mp hc)
    have ha2 : x3 = 0 := Decidable.not_not.mp hc
    refine i3 c_6_63 rfl ?_
    exact i90 c_6_65 t
set_option maxRecDepth 20000 in
theorem u_6_94 {d : Nat} {S : zS} {σ τ : zI} {Q : zQ} {x0 : Nat} {x1 : Nat} {x2 : Int} {x3 : Int} {x4 : Int} {x5 : Int} {x6 : Int} {y7 : Value} (hx0 : oB S x0) (hx1 : tw x1) (t : Q (some (.int (wI x6))) S σ τ) : wi (d + 2) 6 94 [.ref x0, .ref (x1 + 11), .int (wI x2), .int (wI x3), .int (wI x4), .int (wI x5), .int (wI x6), y7] [] S σ τ Q := by
  refine i3 c_6_94 rfl ?_
  exact i90 c_6_96 t
set_option maxRecDepth 20000 in
theorem u_6_123 {d : Nat} {S : zS} {σ τ : zI} {Q : zQ} {x0 : Nat} {x1 : Nat} {x2 : Int} {x3 : Int} {x4 : Int} {x5 : Int} {x6 : Int} {x7 : Int} (hx0 : oB S x0) (hx1 : tw x1) (t : Q (some (.int (wI x7))) S σ τ) : wi (d + 2) 6 123 [.ref x0, .ref (x1 + 11), .int (wI x2), .int (wI x3), .int (wI x4), .int (wI x5), .int (wI x6), .int (wI x7)] [] S σ τ Q := by
  refine i3 c_6_123 rfl ?_
  exact i90 c_6_125 t
theorem q_6 {d : Nat} {S : zS} {σ τ : zI} {Q : zQ} {y : Nat} {tn : Nat} {i : Int} {what : Int} {a : Int → Int} {w : Int} (hy : oB S y) (htn : tw tn) (p0 : BK σ y a w) (p1 : RT σ tn a) (p2 : jv_C a) (p3 : jv_B a) (p4 : 0 ≤ w ∧ w < a 0) (p5 : 0 ≤ i ∧ i < sI (fun h => a (41500 + 24 * w + h)) 24) (p6 : (0 ≤ what ∧ what ≤ 4) ∧ what ≠ (1 : Int)) (t : ∀ (v : Int) (h : Int), 0 ≤ h ∧ h < 24 → sI (fun h => a (41500 + 24 * w + h)) h ≤ i → i < sI (fun h => a (41500 + 24 * w + h)) (h + 1) → LV a (24 * w + h) (i - sI (fun h => a (41500 + 24 * w + h)) h) what v → Q (some (.int (wI v))) S σ τ) : wc (d + 2) 6 [.ref y, .ref (tn + 11), .int (wI i), .int (wI what)] S σ τ Q := by
  have hC := p2
  unfold jv_C at hC
  have q := p3.1 w p4.1 p4.2
  have s24 : sI (fun h => a (41500 + 24 * w + h)) 24 ≤ 240 * 24 := (sI_b (f := fun h => a (41500 + 24 * w + h)) (lo := 0) (hi := 240) (n := 24) (by omega) (fun p a0 a1 => by have := (q.2.2.2.1 p a0 a1).1; omega)).2
  refine wc_of mi_6 rfl (u_6_0 hy htn ?_)
  have key : ∀ n : Nat, n ≤ 24 → ∀ h, h = 24 - (n : Int) → sI (fun h => a (41500 + 24 * w + h)) h ≤ i → ∀ l, l = i - sI (fun h => a (41500 + 24 * w + h)) h → ∀ y6 y7, wi (d + 2) 6 6 [.ref y, .ref (tn + 11), .int (wI i), .int (wI what), .int (wI h), .int (wI l), y6, y7] [] S σ τ Q := by
    intro n
    induction n with
    | zero => intro _ h hh hs; rw [show h = 24 by omega] at hs; omega
    | succ n ih =>
      intro n1 h hh hs l hl y6 y7
      have ss := sI_s (f := fun h => a (41500 + 24 * w + h)) (n := h) (by omega)
      have hk := p0.2.2.1 h (by omega) (by omega)
      have jh := (q.2.2.2.1 h (by omega) (by omega)).1
      have s0 : 0 ≤ sI (fun h => a (41500 + 24 * w + h)) h := sI_p0 (by omega) (fun p a0 a1 => by have := (q.2.2.2.1 p a0 (by omega)).1; omega)
      have out : l < a (41500 + 24 * w + h) → ∀ z, wi (d + 2) 6 59 [.ref y, .ref (tn + 11), .int (wI i), .int (wI what), .int (wI h), .int (wI l), z, y7] [] S σ τ Q := fun hlt z => by
        have td := td_of (w := w) (h := h) p4.1 (by omega)
        have fin : ∀ v, LV a (24 * w + h) (i - sI (fun h => a (41500 + 24 * w + h)) h) what v → Q (some (.int (wI v))) S σ τ := fun v hv => t v h (by omega) hs (by omega) hv
        rw [← hl] at fin
        unfold LV at fin
        rw [td.1, td.2, ← Int.add_assoc] at fin
        refine u_6_59 hy htn ⟨by omega, ifI (fun e4 => fin _ (Or.inl ⟨e4, rfl⟩)) (fun e4 => ?_)⟩
        refine ⟨a, w, p0, p1, p2, p3, p4, by omega, by omega, fun v hv bv => ?_⟩
        have fin : ∀ z, (z = if what = 2 ∨ v < 0 then v else if what = 3 ∨ a (84700 + 60 * w + v) - 1 < 0 then a (84700 + 60 * w + v) - 1 else a (108700 + 8 * w + (a (84700 + 60 * w + v) - 1)) - 1) → Q (some (.int (wI z))) S σ τ := fun z hz => fin z (Or.inr (Or.inr ⟨by omega, v, hv, hz⟩))
        refine ifI (fun e5 => u_6_94 hy htn (fin _ (by rw [if_pos (by omega)]))) (fun e5 => ⟨by omega, ifI (fun e6 => u_6_94 hy htn (fin _ (by rw [if_pos (by omega)]))) (fun e6 => ?_)⟩)
        rw [if_pos bv.2]
        have ab := q.1 v (by omega) bv.2
        rw [(p0.1 v (by omega) bv.2).2]
        refine ⟨by omega, ifI (fun e7 => u_6_123 hy htn (fin _ (by rw [if_neg (by omega), if_pos (by omega)]))) (fun e7 => ifI (fun e8 => u_6_123 hy htn (fin _ (by rw [if_neg (by omega), if_pos (by omega)]))) (fun e8 => ?_))⟩
        rw [if_pos (by omega)]
        refine ⟨by omega, ?_⟩
        rw [p0.2.1 _ (by omega) (by omega)]
        exact fin _ (by rw [if_neg (by omega), if_neg (by omega)])
      refine u_6_6 hy htn ⟨by omega, ifI (fun e => ?_) (fun e => ?_)⟩
      · have e23 : h = 23 := by omega
        rw [e23] at ss
        refine out ?_ _
        rw [hl, e23]
        have : sI (fun h => a (41500 + 24 * w + h)) (23 + 1) = sI (fun h => a (41500 + 24 * w + h)) 24 := rfl
        omega
      · rw [hk.2.2.1, hk.2.2.2]
        refine ⟨by omega, by omega, by omega, ifI (fun e2 => out (by omega) _) (fun e2 => ?_)⟩
        exact ih (by omega) (h + 1) (by omega) (by omega) _ (by omega) _ _
  exact key 24 (by omega) 0 (by omega) (by rw [sI_0]; omega) i (by rw [sI_0]; omega) _ _
-- method 5: MillTown$Books.loafFact(LMillTown$Town;II)I
theorem c_5_0 : pg_cd 5 0 = (1, 1, 0, 0, 0) := by decide +kernel
theorem c_5_1 : pg_cd 5 1 = (6, 2, 0, 4, 0) := by decide +kernel
theorem c_5_3 : pg_cd 5 3 = (1, 1, 0, 0, 0) := by decide +kernel
theorem c_5_4 : pg_cd 5 4 = (6, 2, 0, 5, 0) := by decide +kernel
theorem c_5_6 : pg_cd 5 6 = (3, 2, 0, 5, 0) := by decide +kernel
theorem c_5_8 : pg_cd 5 8 = (5, 1, 0, 1, 0) := by decide +kernel
theorem c_5_9 : pg_cd 5 9 = (43, 8, 32, 8, 0) := by decide +kernel
theorem c_5_12 : pg_cd 5 12 = (37, 3, 0, 3, 79) := by decide +kernel
theorem c_5_15 : pg_cd 5 15 = (5, 1, 0, 0, 0) := by decide +kernel
theorem c_5_16 : pg_cd 5 16 = (3, 2, 0, 5, 0) := by decide +kernel
theorem c_5_18 : pg_cd 5 18 = (80, 1, 21, 0, 0) := by decide +kernel
theorem c_5_21 : pg_cd 5 21 = (8, 2, 0, 6, 0) := by decide +kernel
theorem c_5_23 : pg_cd 5 23 = (5, 2, 0, 6, 0) := by decide +kernel
theorem c_5_25 : pg_cd 5 25 = (40, 3, 0, 0, 7) := by decide +kernel
theorem c_5_28 : pg_cd 5 28 = (1, 1, 0, 0, 0) := by decide +kernel
theorem c_5_29 : pg_cd 5 29 = (38, 3, 0, 0, 8) := by decide +kernel
theorem c_5_32 : pg_cd 5 32 = (5, 2, 0, 6, 0) := by decide +kernel
theorem c_5_34 : pg_cd 5 34 = (43, 10, 38, 7, 0) := by decide +kernel
theorem c_5_37 : pg_cd 5 37 = (6, 2, 0, 7, 0) := by decide +kernel
theorem c_5_39 : pg_cd 5 39 = (5, 2, 0, 6, 0) := by decide +kernel
theorem c_5_41 : pg_cd 5 41 = (39, 3, 0, 0, 37) := by decide +kernel
theorem c_5_44 : pg_cd 5 44 = (3, 1, 0, 2, 0) := by decide +kernel
theorem c_5_45 : pg_cd 5 45 = (3, 2, 0, 4, 0) := by decide +kernel
theorem c_5_47 : pg_cd 5 47 = (11, 1, 0, 0, 0) := by decide +kernel
theorem c_5_48 : pg_cd 5 48 = (3, 2, 0, 7, 0) := by decide +kernel
theorem c_5_50 : pg_cd 5 50 = (37, 3, 0, 3, 28) := by decide +kernel
theorem c_5_53 : pg_cd 5 53 = (3, 1, 0, 3, 0) := by decide +kernel
theorem c_5_54 : pg_cd 5 54 = (1, 1, 0, 0, 1) := by decide +kernel
theorem c_5_55 : pg_cd 5 55 = (37, 3, 0, 1, 8) := by decide +kernel
theorem c_5_58 : pg_cd 5 58 = (3, 2, 0, 5, 0) := by decide +kernel
theorem c_5_60 : pg_cd 5 60 = (38, 3, 0, 0, 17) := by decide +kernel
theorem c_5_63 : pg_cd 5 63 = (5, 2, 0, 6, 0) := by decide +kernel
theorem c_5_65 : pg_cd 5 65 = (5, 1, 0, 1, 0) := by decide +kernel
theorem c_5_66 : pg_cd 5 66 = (45, 8, 41, 5, 0) := by decide +kernel
theorem c_5_69 : pg_cd 5 69 = (3, 1, 0, 2, 0) := by decide +kernel
theorem c_5_70 : pg_cd 5 70 = (3, 2, 0, 4, 0) := by decide +kernel
theorem c_5_72 : pg_cd 5 72 = (11, 1, 0, 0, 0) := by decide +kernel
theorem c_5_73 : pg_cd 5 73 = (3, 1, 0, 3, 0) := by decide +kernel
theorem c_5_74 : pg_cd 5 74 = (81, 6, 45, 0, 0) := by decide +kernel
theorem c_5_77 : pg_cd 5 77 = (90, 0, 0, 0, 0) := by decide +kernel
theorem c_5_78 : pg_cd 5 78 = (3, 2, 0, 4, 0) := by decide +kernel
theorem c_5_80 : pg_cd 5 80 = (3, 2, 0, 7, 0) := by decide +kernel
theorem c_5_82 : pg_cd 5 82 = (10, 1, 0, 0, 0) := by decide +kernel
theorem c_5_83 : pg_cd 5 83 = (6, 2, 0, 4, 0) := by decide +kernel
theorem c_5_85 : pg_cd 5 85 = (9, 3, 0, 5, 1) := by decide +kernel
theorem c_5_88 : pg_cd 5 88 = (38, 3, 0, 0, (-82)) := by decide +kernel
theorem c_5_91 : pg_cd 5 91 = (1, 1, 0, 0, (-1)) := by decide +kernel
theorem c_5_92 : pg_cd 5 92 = (90, 0, 0, 0, 0) := by decide +kernel
theorem mi_5 : pg_mc 5 = 0 ∧ pg_na 5 = 3 ∧ pg_mx 5 = 8 := by decide +kernel
set_option maxRecDepth 20000 in
theorem u_5_0 {d : Nat} {S : zS} {σ τ : zI} {Q : zQ} {x1 : Nat} {x2 : Int} {x3 : Int} (hx1 : tw x1) (t : wi (d + 3) 5 6 [.ref 58, .ref x1, .int (wI x2), .int (wI x3), .int (wI 0), .int (wI 0), .retAddr 0, .retAddr 0] [] S σ τ Q) : wi (d + 3) 5 0 [.ref 58, .ref x1, .int (wI x2), .int (wI x3), .retAddr 0, .retAddr 0, .retAddr 0, .retAddr 0] [] S σ τ Q := by
  refine i1 c_5_0 (i6 (L' := [.ref 58, .ref x1, .int (wI x2), .int (wI x3), .int (wI 0), .retAddr 0, .retAddr 0, .retAddr 0]) c_5_1 rfl (i1 c_5_3 (i6 (L' := [.ref 58, .ref x1, .int (wI x2), .int (wI x3), .int (wI 0), .int (wI 0), .retAddr 0, .retAddr 0]) c_5_4 rfl t)))
set_option maxRecDepth 20000 in
theorem u_5_6 {d : Nat} {S : zS} {σ τ : zI} {Q : zQ} {x1 : Nat} {x2 : Int} {x3 : Int} {x4 : Int} {x5 : Int} {y6 : Value} {y7 : Value} (hx1 : tw x1) (t : (rg x5) ∧ if (σ x1 8) ≤ x5 then (Q (some (.int (wI (-1)))) S σ τ) else ((0 ≤ x5 ∧ x5 ≤ 399) ∧ (S.2.2.2 59 x5.toNat ≠ none) ∧ (zB S) ∧ ∀ (j7 : Nat), oB S j7 → S.2.2.2 59 x5.toNat = some j7 → (rg (x2 - x4)) ∧ if (σ j7 7) ≤ (x2 - x4) then (wi (d + 3) 5 6 [.ref 58, .ref x1, .int (wI x2), .int (wI x3), .int (wI (x4 + (σ j7 7))), .int (wI (x5 + 1)), .ref j7, .int (wI (σ j7 7))] [] S σ τ Q) else ((rg x3) ∧ if x3 = 1 then (Q (some (.int (wI x5))) S σ τ) else (∃ a14 : Int → Int, ∃ w15 : Int, (BK σ j7 a14 w15) ∧ (RT σ x1 a14) ∧ (jv_C a14) ∧ (jv_B a14) ∧ (0 ≤ w15 ∧ w15 < a14 0) ∧ (0 ≤ (x2 - x4) ∧ (x2 - x4) < sI (fun h => a14 (41500 + 24 * w15 + h)) 24) ∧ ((0 ≤ x3 ∧ x3 ≤ 4) ∧ x3 ≠ (1 : Int)) ∧ ∀ (v23 : Int) (h24 : Int), 0 ≤ h24 ∧ h24 < 24 → sI (fun h24 => a14 (41500 + 24 * w15 + h24)) h24 ≤ (x2 - x4) → (x2 - x4) < sI (fun h24 => a14 (41500 + 24 * w15 + h24)) (h24 + 1) → LV a14 (24 * w15 + h24) ((x2 - x4) - sI (fun h24 => a14 (41500 + 24 * w15 + h24)) h24) x3 v23 → Q (some (.int (wI v23))) S σ τ)))) : wi (d + 3) 5 6 [.ref 58, .ref x1, .int (wI x2), .int (wI x3), .int (wI x4), .int (wI x5), y6, y7] [] S σ τ Q := by
  refine i3 c_5_6 rfl (i5 c_5_8 rfl (wi_ok (fun K1 => ?_)))
  obtain ⟨r2, t⟩ := t
  refine i43 (v := σ x1 8) c_5_9 (lo (lyt_0 hx1) (by have := tw_b hx1; omega)) rfl ?_
  refine i37 c_5_12 r2 (rge_ K1 rfl) rfl (fun hc => ?_) (fun hc => ?_)
  · have t := iT t hc
    have ha3 : (σ x1 8) ≤ x5 := hc
    refine i1 c_5_91 ?_
    exact i90 c_5_92 t
  · have t := iF t hc
    have ha3 : ¬ ((σ x1 8) ≤ x5) := hc
    obtain ⟨p4, t⟩ := t
    obtain ⟨p5, t⟩ := t
    obtain ⟨p6, t⟩ := t
    refine i5 c_5_15 rfl (i3 c_5_16 rfl ?_)
    refine i80 (As := [.int (wI x5)]) (rest := []) c_5_18 mi_1 rfl rfl (Nat.le_of_ble_eq_true rfl) (Nat.le_of_ble_eq_true rfl) (lo (c := 58) (kd := 100) (n := 0) rfl (by decide)) (q_1n p4 p5 p6 (fun j7 q8 q9 => ?_))
    have t := t j7 q8 q9
    have hj7 := q8
    show wi (d + 3) 5 21 [.ref 58, .ref x1, .int (wI x2), .int (wI x3), .int (wI x4), .int (wI x5), y6, y7] [.ref j7] S σ τ Q
    obtain ⟨r10, t⟩ := t
    refine i8 (L' := [.ref 58, .ref x1, .int (wI x2), .int (wI x3), .int (wI x4), .int (wI x5), .ref j7, y7]) c_5_21 rfl (i5 c_5_23 rfl (i40a c_5_25 rfl (i5 c_5_32 rfl (i43 (v := σ j7 7) c_5_34 (fun _ => oB_0 hj7) rfl (i6 (L' := [.ref 58, .ref x1, .int (wI x2), .int (wI x3), .int (wI x4), .int (wI x5), .ref j7, .int (wI (σ j7 7))]) c_5_37 rfl (i5 c_5_39 rfl (i39a c_5_41 (i3 c_5_44 rfl (i3 c_5_45 rfl (i11 c_5_47 (i3 c_5_48 rfl ?_)))))))))))
    refine i37 c_5_50 r10 (rge_ K1 rfl) rfl (fun hc => ?_) (fun hc => ?_)
    · have t := iT t hc
      have ha11 : (σ j7 7) ≤ (x2 - x4) := hc
      refine i3 c_5_78 rfl (i3 c_5_80 rfl (i10 c_5_82 (i6 (L' := [.ref 58, .ref x1, .int (wI x2), .int (wI x3), .int (wI (x4 + (σ j7 7))), .int (wI x5), .ref j7, .int (wI (σ j7 7))]) c_5_83 rfl (i9 (L' := [.ref 58, .ref x1, .int (wI x2), .int (wI x3), .int (wI (x4 + (σ j7 7))), .int (wI (x5 + 1)), .ref j7, .int (wI (σ j7 7))]) c_5_85 rfl rfl (i38 c_5_88 rfl t)))))
    · have t := iF t hc
      have ha11 : ¬ ((σ j7 7) ≤ (x2 - x4)) := hc
      obtain ⟨r12, t⟩ := t
      refine i3 c_5_53 rfl (i1 c_5_54 ?_)
      refine i37 c_5_55 r12 (by decide) rfl (fun hc => ?_) (fun hc => ?_)
      · have t := iF t hc
        have ha13 : ¬ (x3 = 1) := hc
        obtain ⟨a14, t⟩ := t
        obtain ⟨w15, t⟩ := t
        obtain ⟨p16, t⟩ := t
        obtain ⟨p17, t⟩ := t
        obtain ⟨p18, t⟩ := t
        obtain ⟨p19, t⟩ := t
        obtain ⟨p20, t⟩ := t
        obtain ⟨p21, t⟩ := t
        obtain ⟨p22, t⟩ := t
        refine i5 c_5_63 rfl (i5 c_5_65 rfl (i45 c_5_66 (lo (lyt_0 hx1) (by have := tw_b hx1; omega)) (lro (lrt_5 hx1)) (i3 c_5_69 rfl (i3 c_5_70 rfl (i11 c_5_72 (i3 c_5_73 rfl ?_))))))
        refine i81 (As := [.ref j7, .ref (x1 + 11), .int (wI (x2 - x4)), .int (wI x3)]) (rest := []) c_5_74 mi_6 rfl rfl (Nat.le_of_ble_eq_true rfl) (Nat.le_of_ble_eq_true rfl) (q_6 (a := a14) (w := w15) hj7 hx1 p16 p17 p18 p19 p20 p21 p22 (fun v23 h24 q25 q26 q27 q28 => ?_))
        have t := t v23 h24 q25 q26 q27 q28
        show wi (d + 3) 5 77 [.ref 58, .ref x1, .int (wI x2), .int (wI x3), .int (wI x4), .int (wI x5), .ref j7, .int (wI (σ j7 7))] [.int (wI v23)] S σ τ Q
        exact i90 c_5_77 t
      · have t := iT t (Decidable.not_not.mp hc)
        have ha13 : x3 = 1 := Decidable.not_not.mp hc
        refine i3 c_5_58 rfl (i38 c_5_60 rfl ?_)
        exact i90 c_5_77 t
theorem factW {f : Int → Int} {n i : Int} (h0 : 0 ≤ n) (h1 : 0 ≤ i) (h2 : i < sI f n) : ∃ h, 0 ≤ h ∧ h < n ∧ sI f h ≤ i ∧ i < sI f (h + 1) := by
  obtain ⟨k, rfl⟩ := Int.eq_ofNat_of_zero_le h0
  induction k with
  | zero => rw [show ((0 : Nat) : Int) = 0 from rfl, sI_0] at h2; omega
  | succ k ih =>
    by_cases c : i < sI f (k : Int)
    · obtain ⟨h, a0, a1, a2, a3⟩ := ih (by omega) c
      exact ⟨h, a0, by omega, a2, a3⟩
    · exact ⟨k, by omega, by omega, by omega, h2⟩
theorem q_5 {d : Nat} {S : zS} {σ τ : zI} {Q : zQ} {tn : Nat} {i : Int} {what : Int} {a : Int → Int} (htn : tw tn) (p0 : BX S σ a) (p1 : RT σ tn a) (p2 : jv_C a) (p3 : jv_B a) (p4 : 0 ≤ i ∧ i < a 15) (p5 : 0 ≤ what ∧ what ≤ (4 : Int)) (p6 : rg i) (t : ∀ (v : Int), LF a i what v → Q (some (.int (wI v))) S σ τ) : wc (d + 3) 5 [.ref 58, .ref tn, .int (wI i), .int (wI what)] S σ τ Q := by
  have hC := p2
  unfold jv_C at hC
  have c0 : σ tn 8 = a 0 := (tS p1).1
  refine wc_of mi_5 rfl (u_5_0 htn ?_)
  have nn : ∀ p, 0 ≤ p → p < 24 * a 0 → 0 ≤ a (41500 + p) := fun p p0 q1 => by have := bt_b p2 p3 ⟨p0, q1⟩; omega
  have key : ∀ w, 0 ≤ w → w ≤ a 0 → sI (fun k => a (41500 + k)) (24 * w) ≤ i → ∀ s, s = sI (fun k => a (41500 + k)) (24 * w) → ∀ y6 y7, wi (d + 3) 5 6 [.ref 58, .ref tn, .int (wI i), .int (wI what), .int (wI s), .int (wI w), y6, y7] [] S σ τ Q := by
    refine lp_up (fun w h0 h1 ih => ?_)
    intro hs s he y6 y7
    refine u_5_6 htn ?_
    rw [c0]
    refine ⟨by omega, ifI (fun e => ?_) (fun e => ?_)⟩
    · have := p3.2
      rw [show w = a 0 by omega] at hs
      omega
    · obtain ⟨y, hy, ho, hb⟩ := p0.2 w h0 (by omega)
      refine ⟨by omega, (by rw [hy]; intro h; cases h), p0.1, fun j hj hj2 => ?_⟩
      rw [hy] at hj2
      cases hj2
      have s0 : 0 ≤ sI (fun k => a (41500 + k)) (24 * w) := sI_p0 (by omega) (fun p a0 a1 => nn p a0 (by omega))
      have sa := sI_ad (f := fun k => a (41500 + k)) (n := 24 * w) (by omega) 24 (by omega)
      have se : sI (fun k => a (41500 + (24 * w + k))) 24 = sI (fun h => a (41500 + 24 * w + h)) 24 := sI_c (fun p _ _ => by rw [← Int.add_assoc])
      rw [hb.2.2.2.1]
      try dsimp only at sa
      rw [se] at sa
      refine ⟨by omega, ifI (fun e2 => ?_) (fun e2 => ?_)⟩
      · refine ih (by omega) (by rw [show 24 * (w + 1) = 24 * w + 24 by omega]; omega) _ ?_ _ _
        rw [show 24 * (w + 1) = 24 * w + 24 by omega, sa, he]
      · have fin : ∀ v h, 0 ≤ h ∧ h < 24 → sI (fun h => a (41500 + 24 * w + h)) h ≤ i - s → i - s < sI (fun h => a (41500 + 24 * w + h)) (h + 1) → LV a (24 * w + h) (i - s - sI (fun h => a (41500 + 24 * w + h)) h) what v → Q (some (.int (wI v))) S σ τ := fun v h b h2 h3 h4 => by
          have sa := sI_ad (f := fun k => a (41500 + k)) (n := 24 * w) (by omega) h b.1
          have sa1 := sI_ad (f := fun k => a (41500 + k)) (n := 24 * w) (by omega) (h + 1) (by omega)
          have se : ∀ n, sI (fun k => a (41500 + (24 * w + k))) n = sI (fun h => a (41500 + 24 * w + h)) n := fun n => sI_c (fun p _ _ => by rw [← Int.add_assoc])
          try dsimp only at sa sa1
          rw [se] at sa sa1
          refine t v (LF_of (k := 24 * w + h) (by omega) (by omega) (by rw [Int.add_assoc]; omega) ?_)
          rw [sa, show i - (sI (fun k => a (41500 + k)) (24 * w) + sI (fun h => a (41500 + 24 * w + h)) h) = i - s - sI (fun h => a (41500 + 24 * w + h)) h by omega]
          exact h4
        refine ⟨by omega, ifI (fun e3 => ?_) (fun e3 => ?_)⟩
        · have := factW (f := fun h => a (41500 + 24 * w + h)) (n := 24) (i := i - s) (by omega) (by omega) (by omega)
          obtain ⟨h, b0, b1, b2, b3⟩ := this
          refine fin w h ⟨b0, b1⟩ b2 b3 (Or.inr (Or.inl ⟨e3, ?_⟩))
          rw [(td_of h0 ⟨b0, b1⟩).1]
        · exact ⟨a, w, hb, p1, p2, p3, ⟨h0, by omega⟩, by omega, ⟨p5, e3⟩, fin⟩
  exact key 0 (by omega) (by omega) (by show (0 : Int) ≤ i; omega) 0 rfl _ _
