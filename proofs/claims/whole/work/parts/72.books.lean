/-! ===== the class: its books, THE SHEET, loaves (segments printed by wip/whole, contracts own work) ===== -/
/-- the rows of objects hold what they should, each once -/
def zB (S : zS) : Prop := (∀ k j, k < 400 → S.2.2.2 59 k = some j → oB S j) ∧ ∀ k k' j, k < 400 → k' < 400 → S.2.2.2 59 k = some j → S.2.2.2 59 k' = some j → k = k'
/-- the book at y shows the week w of a -/
def BK (σ : zI) (y : Nat) (a : Int → Int) (w : Int) : Prop := (∀ p, 0 ≤ p → p < 60 → σ (y + 1) p = a (60700 + 60 * w + p) ∧ σ (y + 2) p = a (84700 + 60 * w + p) - 1) ∧ (∀ m, 0 ≤ m → m < 8 → σ (y + 3) m = a (108700 + 8 * w + m) - 1) ∧ (∀ h, 0 ≤ h → h < 24 → σ (y + 4) h = a (22300 + 24 * w + h) ∧ σ (y + 5) h = a (31900 + 24 * w + h) ∧ σ (y + 6) h = a (51100 + 24 * w + h) ∧ σ (y + 7) h = a (41500 + 24 * w + h) - a (51100 + 24 * w + h)) ∧ σ y 7 = sI (fun h => a (41500 + 24 * w + h)) 24 ∧ σ y 8 = a (111900 + w)
def BX (S : zS) (σ : zI) (a : Int → Int) : Prop := zB S ∧ ∀ w, 0 ≤ w → w < a 0 → ∃ y, S.2.2.2 59 w.toNat = some y ∧ oB S y ∧ BK σ y a w
/-- a number of a week's book -/
def eI (S : zS) (σ : zI) (k : Nat) (week home : Int) : Int := if (0 ≤ week ∧ week ≤ 399) ∧ (0 ≤ home ∧ home < 24) then (match S.2.2.2 59 week.toNat with | none => 0 | some y => σ (y + k) home) else 0
theorem eI_n {S : zS} {σ : zI} {k : Nat} {week home : Int} (h : ¬ ((0 ≤ week ∧ week ≤ 399) ∧ (0 ≤ home ∧ home < 24))) : eI S σ k week home = 0 := if_neg h
theorem eI_0 {S : zS} {σ : zI} {k : Nat} {week home : Int} (h : S.2.2.2 59 week.toNat = none) : eI S σ k week home = 0 := by
  unfold eI
  rw [h]
  split <;> rfl
theorem eI_s {S : zS} {σ : zI} {k y : Nat} {week home : Int} (h : S.2.2.2 59 week.toNat = some y) (h1 : (0 ≤ week ∧ week ≤ 399) ∧ (0 ≤ home ∧ home < 24)) : eI S σ k week home = σ (y + k) home := by
  unfold eI
  rw [if_pos h1, h]
-- method 1: MillTown$Books.of(I)LMillTown$WeekBook;
theorem c_1_0 : pg_cd 1 0 = (3, 1, 0, 1, 0) := by decide +kernel
theorem c_1_1 : pg_cd 1 1 = (36, 3, 0, 2, 19) := by decide +kernel
theorem c_1_4 : pg_cd 1 4 = (3, 1, 0, 1, 0) := by decide +kernel
theorem c_1_5 : pg_cd 1 5 = (1, 3, 0, 0, 400) := by decide +kernel
theorem c_1_8 : pg_cd 1 8 = (37, 3, 0, 3, 12) := by decide +kernel
theorem c_1_11 : pg_cd 1 11 = (5, 1, 0, 0, 0) := by decide +kernel
theorem c_1_12 : pg_cd 1 12 = (45, 0, 11, 0, 0) := by decide +kernel
theorem c_1_15 : pg_cd 1 15 = (3, 1, 0, 1, 0) := by decide +kernel
theorem c_1_16 : pg_cd 1 16 = (53, 10, 0, 0, 0) := by decide +kernel
theorem c_1_17 : pg_cd 1 17 = (38, 3, 0, 0, 4) := by decide +kernel
theorem c_1_20 : pg_cd 1 20 = (41, 1, 0, 0, 0) := by decide +kernel
theorem c_1_21 : pg_cd 1 21 = (93, 0, 0, 0, 0) := by decide +kernel
theorem mi_1 : pg_mc 1 = 0 ∧ pg_na 1 = 1 ∧ pg_mx 1 = 2 := by decide +kernel
set_option maxRecDepth 20000 in
theorem u_1_0 {d : Nat} {S : zS} {σ τ : zI} {Q : zQ} {x1 : Int} (t : (rg x1) ∧ if x1 < 0 then (Q (some (.null)) S σ τ) else (if (400 : Int) ≤ x1 then (Q (some (.null)) S σ τ) else ((0 ≤ x1 ∧ x1 < 400) ∧ ((S.2.2.2 59 (x1).toNat = none → Q (some (.null)) S σ τ) ∧ ∀ j5 : Nat, S.2.2.2 59 (x1).toNat = some j5 → oB S j5 ∧ Q (some (.ref j5)) S σ τ)))) : wi (d + 0) 1 0 [.ref 58, .int (wI x1)] [] S σ τ Q := by
  obtain ⟨r1, t⟩ := t
  refine i3 c_1_0 rfl ?_
  refine i36 c_1_1 r1 rfl (fun hc => ?_) (fun hc => ?_)
  · have t := iT t hc
    have ha2 : x1 < 0 := hc
    refine i41 c_1_20 ?_
    exact i93n c_1_21 t
  · have t := iF t hc
    have ha2 : ¬ (x1 < 0) := hc
    refine i3 c_1_4 rfl (i1 c_1_5 ?_)
    refine i37 c_1_8 r1 (by decide) rfl (fun hc => ?_) (fun hc => ?_)
    · have t := iT t hc
      have ha3 : (400 : Int) ≤ x1 := hc
      refine i41 c_1_20 ?_
      exact i93n c_1_21 t
    · have t := iF t hc
      have ha3 : ¬ ((400 : Int) ≤ x1) := hc
      obtain ⟨r4, t⟩ := t
      refine i5 c_1_11 rfl (i45 c_1_12 (lo (c := 58) (kd := 100) (n := 0) rfl (by decide)) (lro (c := 58) (k := 0) (j := 59) (by decide)) (i3 c_1_15 rfl ?_))
      refine i53 c_1_16 (lo (c := 59) (kd := 13) (n := 400) rfl (by decide)) (by decide) r4 (fun hr => ?_) (fun j5 hr => ?_)
      · have t := t.1 hr
        refine i38 c_1_17 rfl ?_
        exact i93n c_1_21 t
      · obtain ⟨hj5, t⟩ := t.2 _ hr
        refine i38 c_1_17 rfl ?_
        exact i93a c_1_21 t
theorem q_1 {d : Nat} {S : zS} {σ τ : zI} {Q : zQ} {week : Int} (p0 : rg week) (p1 : zB S) (t1 : week < 0 ∨ 399 < week ∨ S.2.2.2 59 week.toNat = none → Q (some .null) S σ τ) (t2 : ∀ j : Nat, oB S j → 0 ≤ week ∧ week ≤ 399 → S.2.2.2 59 week.toNat = some j → Q (some (.ref j)) S σ τ) : wc (d + 0) 1 [.ref 58, .int (wI week)] S σ τ Q := by
  refine wc_of mi_1 rfl (u_1_0 ⟨p0, ?_⟩)
  refine ifI (fun e => t1 (Or.inl e)) (fun e => ifI (fun e2 => t1 (Or.inr (Or.inl (by omega)))) (fun e2 => ?_))
  refine ⟨by omega, fun h => t1 (Or.inr (Or.inr h)), fun j h => ?_⟩
  have hj := p1.1 week.toNat j (by omega) h
  exact ⟨hj, t2 j hj (by omega) h⟩
theorem q_1n {d : Nat} {S : zS} {σ τ : zI} {Q : zQ} {week : Int} (p0 : 0 ≤ week ∧ week ≤ 399) (p1 : S.2.2.2 59 week.toNat ≠ none) (p2 : zB S) (t : ∀ (j : Nat), oB S j → S.2.2.2 59 week.toNat = some j → Q (some (.ref j)) S σ τ) : wc (d + 0) 1 [.ref 58, .int (wI week)] S σ τ Q := by
  refine q_1 (by omega) p2 (fun h => ?_) (fun j hj _ h => t j hj h)
  rcases h with h | h | h
  · omega
  · omega
  · exact absurd h p1
-- method 3: MillTown$Books.earnedIn(II)I
theorem c_3_0 : pg_cd 3 0 = (5, 1, 0, 0, 0) := by decide +kernel
theorem c_3_1 : pg_cd 3 1 = (3, 1, 0, 1, 0) := by decide +kernel
theorem c_3_2 : pg_cd 3 2 = (80, 1, 21, 0, 0) := by decide +kernel
theorem c_3_5 : pg_cd 3 5 = (8, 1, 0, 3, 0) := by decide +kernel
theorem c_3_6 : pg_cd 3 6 = (5, 1, 0, 3, 0) := by decide +kernel
theorem c_3_7 : pg_cd 3 7 = (39, 3, 0, 0, 13) := by decide +kernel
theorem c_3_10 : pg_cd 3 10 = (3, 1, 0, 2, 0) := by decide +kernel
theorem c_3_11 : pg_cd 3 11 = (36, 3, 0, 2, 9) := by decide +kernel
theorem c_3_14 : pg_cd 3 14 = (3, 1, 0, 2, 0) := by decide +kernel
theorem c_3_15 : pg_cd 3 15 = (1, 2, 0, 0, 24) := by decide +kernel
theorem c_3_17 : pg_cd 3 17 = (37, 3, 0, 2, 7) := by decide +kernel
theorem c_3_20 : pg_cd 3 20 = (1, 1, 0, 0, 0) := by decide +kernel
theorem c_3_21 : pg_cd 3 21 = (38, 3, 0, 0, 9) := by decide +kernel
theorem c_3_24 : pg_cd 3 24 = (5, 1, 0, 3, 0) := by decide +kernel
theorem c_3_25 : pg_cd 3 25 = (45, 10, 25, 3, 0) := by decide +kernel
theorem c_3_28 : pg_cd 3 28 = (3, 1, 0, 2, 0) := by decide +kernel
theorem c_3_29 : pg_cd 3 29 = (50, 1, 0, 0, 0) := by decide +kernel
theorem c_3_30 : pg_cd 3 30 = (90, 0, 0, 0, 0) := by decide +kernel
theorem mi_3 : pg_mc 3 = 0 ∧ pg_na 3 = 2 ∧ pg_mx 3 = 4 := by decide +kernel
set_option maxRecDepth 20000 in
theorem u_3_0 {d : Nat} {S : zS} {σ τ : zI} {Q : zQ} {x1 : Int} {x2 : Int} (t : (rg x1) ∧ (zB S) ∧ ((x1 < 0 ∨ 399 < x1 ∨ S.2.2.2 59 x1.toNat = none → Q (some (.int (wI 0))) S σ τ) ∧ ∀ j3 : Nat, oB S j3 → 0 ≤ x1 ∧ x1 ≤ 399 → S.2.2.2 59 x1.toNat = some j3 → (rg x2) ∧ if x2 < 0 then (Q (some (.int (wI 0))) S σ τ) else (if x2 < 24 then ((0 ≤ x2 ∧ x2 < 24) ∧ Q (some (.int (wI (σ (j3 + 4) x2)))) S σ τ) else (Q (some (.int (wI 0))) S σ τ)))) : wi (d + 1) 3 0 [.ref 58, .int (wI x1), .int (wI x2), .retAddr 0] [] S σ τ Q := by
  obtain ⟨r1, t⟩ := t
  obtain ⟨p2, t⟩ := t
  refine i5 c_3_0 rfl (i3 c_3_1 rfl ?_)
  refine i80 (As := [.int (wI x1)]) (rest := []) c_3_2 mi_1 rfl rfl (Nat.le_of_ble_eq_true rfl) (Nat.le_of_ble_eq_true rfl) (lo (c := 58) (kd := 100) (n := 0) rfl (by decide)) (q_1 r1 p2 (fun hn4 => ?_) (fun j3 q5 q6 q7 => ?_))
  · have t := t.1 hn4
    show wi (d + 1) 3 5 [.ref 58, .int (wI x1), .int (wI x2), .retAddr 0] [.null] S σ τ Q
    refine i8n (L' := [.ref 58, .int (wI x1), .int (wI x2), .null]) c_3_5 rfl (i5n c_3_6 rfl (i39n c_3_7 rfl (i1 c_3_20 (i38 c_3_21 rfl ?_))))
    exact i90 c_3_30 t
  · have t := t.2 j3 q5 q6 q7
    have hj3 := q5
    show wi (d + 1) 3 5 [.ref 58, .int (wI x1), .int (wI x2), .retAddr 0] [.ref j3] S σ τ Q
    obtain ⟨r8, t⟩ := t
    refine i8 (L' := [.ref 58, .int (wI x1), .int (wI x2), .ref j3]) c_3_5 rfl (i5 c_3_6 rfl (i39a c_3_7 (i3 c_3_10 rfl ?_)))
    refine i36 c_3_11 r8 rfl (fun hc => ?_) (fun hc => ?_)
    · have t := iT t hc
      have ha9 : x2 < 0 := hc
      refine i1 c_3_20 (i38 c_3_21 rfl ?_)
      exact i90 c_3_30 t
    · have t := iF t hc
      have ha9 : ¬ (x2 < 0) := hc
      refine i3 c_3_14 rfl (i1 c_3_15 ?_)
      refine i37 c_3_17 r8 (by decide) rfl (fun hc => ?_) (fun hc => ?_)
      · have t := iT t hc
        have ha10 : x2 < 24 := hc
        obtain ⟨r11, t⟩ := t
        refine i5 c_3_24 rfl (i45 c_3_25 (fun _ => oB_0 hj3) (fun _ => oB_r3 hj3) (i3 c_3_28 rfl (wi_ok (fun K12 => ?_))))
        refine i50 (v := σ (j3 + 4) x2) c_3_29 (fun _ => oB_4 hj3) (by decide) r11 rfl ?_
        exact i90 c_3_30 t
      · have t := iF t hc
        have ha10 : ¬ (x2 < 24) := hc
        refine i1 c_3_20 (i38 c_3_21 rfl ?_)
        exact i90 c_3_30 t
theorem q_3 {d : Nat} {S : zS} {σ τ : zI} {Q : zQ} {week : Int} {home : Int} (p0 : rg week) (p1 : zB S) (p2 : rg home) (t : Q (some (.int (wI (eI S σ 4 week home)))) S σ τ) : wc (d + 1) 3 [.ref 58, .int (wI week), .int (wI home)] S σ τ Q := by
  refine wc_of mi_3 rfl (u_3_0 ⟨p0, p1, fun h => ?_, fun j hj h1 h2 => ⟨p2, ?_⟩⟩)
  · have e : eI S σ 4 week home = 0 := by
      rcases h with h | h | h
      · exact eI_n (by omega)
      · exact eI_n (by omega)
      · exact eI_0 h
    rw [e] at t; exact t
  · refine ifI (fun e => ?_) (fun e => ifI (fun e2 => ?_) (fun e2 => ?_))
    · rw [eI_n (by omega)] at t; exact t
    · rw [eI_s h2 (by omega)] at t; exact ⟨by omega, t⟩
    · rw [eI_n (by omega)] at t; exact t
-- method 4: MillTown$Books.hungerIn(II)I
theorem c_4_0 : pg_cd 4 0 = (5, 1, 0, 0, 0) := by decide +kernel
theorem c_4_1 : pg_cd 4 1 = (3, 1, 0, 1, 0) := by decide +kernel
theorem c_4_2 : pg_cd 4 2 = (80, 1, 21, 0, 0) := by decide +kernel
theorem c_4_5 : pg_cd 4 5 = (8, 1, 0, 3, 0) := by decide +kernel
theorem c_4_6 : pg_cd 4 6 = (5, 1, 0, 3, 0) := by decide +kernel
theorem c_4_7 : pg_cd 4 7 = (39, 3, 0, 0, 13) := by decide +kernel
theorem c_4_10 : pg_cd 4 10 = (3, 1, 0, 2, 0) := by decide +kernel
theorem c_4_11 : pg_cd 4 11 = (36, 3, 0, 2, 9) := by decide +kernel
theorem c_4_14 : pg_cd 4 14 = (3, 1, 0, 2, 0) := by decide +kernel
theorem c_4_15 : pg_cd 4 15 = (1, 2, 0, 0, 24) := by decide +kernel
theorem c_4_17 : pg_cd 4 17 = (37, 3, 0, 2, 7) := by decide +kernel
theorem c_4_20 : pg_cd 4 20 = (1, 1, 0, 0, 0) := by decide +kernel
theorem c_4_21 : pg_cd 4 21 = (38, 3, 0, 0, 9) := by decide +kernel
theorem c_4_24 : pg_cd 4 24 = (5, 1, 0, 3, 0) := by decide +kernel
theorem c_4_25 : pg_cd 4 25 = (45, 10, 29, 4, 0) := by decide +kernel
theorem c_4_28 : pg_cd 4 28 = (3, 1, 0, 2, 0) := by decide +kernel
theorem c_4_29 : pg_cd 4 29 = (50, 1, 0, 0, 0) := by decide +kernel
theorem c_4_30 : pg_cd 4 30 = (90, 0, 0, 0, 0) := by decide +kernel
theorem mi_4 : pg_mc 4 = 0 ∧ pg_na 4 = 2 ∧ pg_mx 4 = 4 := by decide +kernel
set_option maxRecDepth 20000 in
theorem u_4_0 {d : Nat} {S : zS} {σ τ : zI} {Q : zQ} {x1 : Int} {x2 : Int} (t : (rg x1) ∧ (zB S) ∧ ((x1 < 0 ∨ 399 < x1 ∨ S.2.2.2 59 x1.toNat = none → Q (some (.int (wI 0))) S σ τ) ∧ ∀ j3 : Nat, oB S j3 → 0 ≤ x1 ∧ x1 ≤ 399 → S.2.2.2 59 x1.toNat = some j3 → (rg x2) ∧ if x2 < 0 then (Q (some (.int (wI 0))) S σ τ) else (if x2 < 24 then ((0 ≤ x2 ∧ x2 < 24) ∧ Q (some (.int (wI (σ (j3 + 5) x2)))) S σ τ) else (Q (some (.int (wI 0))) S σ τ)))) : wi (d + 1) 4 0 [.ref 58, .int (wI x1), .int (wI x2), .retAddr 0] [] S σ τ Q := by
  obtain ⟨r1, t⟩ := t
  obtain ⟨p2, t⟩ := t
  refine i5 c_4_0 rfl (i3 c_4_1 rfl ?_)
  refine i80 (As := [.int (wI x1)]) (rest := []) c_4_2 mi_1 rfl rfl (Nat.le_of_ble_eq_true rfl) (Nat.le_of_ble_eq_true rfl) (lo (c := 58) (kd := 100) (n := 0) rfl (by decide)) (q_1 r1 p2 (fun hn4 => ?_) (fun j3 q5 q6 q7 => ?_))
  · have t := t.1 hn4
    show wi (d + 1) 4 5 [.ref 58, .int (wI x1), .int (wI x2), .retAddr 0] [.null] S σ τ Q
    refine i8n (L' := [.ref 58, .int (wI x1), .int (wI x2), .null]) c_4_5 rfl (i5n c_4_6 rfl (i39n c_4_7 rfl (i1 c_4_20 (i38 c_4_21 rfl ?_))))
    exact i90 c_4_30 t
  · have t := t.2 j3 q5 q6 q7
    have hj3 := q5
    show wi (d + 1) 4 5 [.ref 58, .int (wI x1), .int (wI x2), .retAddr 0] [.ref j3] S σ τ Q
    obtain ⟨r8, t⟩ := t
    refine i8 (L' := [.ref 58, .int (wI x1), .int (wI x2), .ref j3]) c_4_5 rfl (i5 c_4_6 rfl (i39a c_4_7 (i3 c_4_10 rfl ?_)))
    refine i36 c_4_11 r8 rfl (fun hc => ?_) (fun hc => ?_)
    · have t := iT t hc
      have ha9 : x2 < 0 := hc
      refine i1 c_4_20 (i38 c_4_21 rfl ?_)
      exact i90 c_4_30 t
    · have t := iF t hc
      have ha9 : ¬ (x2 < 0) := hc
      refine i3 c_4_14 rfl (i1 c_4_15 ?_)
      refine i37 c_4_17 r8 (by decide) rfl (fun hc => ?_) (fun hc => ?_)
      · have t := iT t hc
        have ha10 : x2 < 24 := hc
        obtain ⟨r11, t⟩ := t
        refine i5 c_4_24 rfl (i45 c_4_25 (fun _ => oB_0 hj3) (fun _ => oB_r4 hj3) (i3 c_4_28 rfl (wi_ok (fun K12 => ?_))))
        refine i50 (v := σ (j3 + 5) x2) c_4_29 (fun _ => oB_5 hj3) (by decide) r11 rfl ?_
        exact i90 c_4_30 t
      · have t := iF t hc
        have ha10 : ¬ (x2 < 24) := hc
        refine i1 c_4_20 (i38 c_4_21 rfl ?_)
        exact i90 c_4_30 t
theorem q_4 {d : Nat} {S : zS} {σ τ : zI} {Q : zQ} {week : Int} {home : Int} (p0 : rg week) (p1 : zB S) (p2 : rg home) (t : Q (some (.int (wI (eI S σ 5 week home)))) S σ τ) : wc (d + 1) 4 [.ref 58, .int (wI week), .int (wI home)] S σ τ Q := by
  refine wc_of mi_4 rfl (u_4_0 ⟨p0, p1, fun h => ?_, fun j hj h1 h2 => ⟨p2, ?_⟩⟩)
  · have e : eI S σ 5 week home = 0 := by
      rcases h with h | h | h
      · exact eI_n (by omega)
      · exact eI_n (by omega)
      · exact eI_0 h
    rw [e] at t; exact t
  · refine ifI (fun e => ?_) (fun e => ifI (fun e2 => ?_) (fun e2 => ?_))
    · rw [eI_n (by omega)] at t; exact t
    · rw [eI_s h2 (by omega)] at t; exact ⟨by omega, t⟩
    · rw [eI_n (by omega)] at t; exact t
-- method 74: MillTown$Sheet.placeOf(II)I
theorem c_74_0 : pg_cd 74 0 = (3, 1, 0, 0, 0) := by decide +kernel
theorem c_74_1 : pg_cd 74 1 = (36, 3, 0, 2, 19) := by decide +kernel
theorem c_74_4 : pg_cd 74 4 = (3, 1, 0, 0, 0) := by decide +kernel
theorem c_74_5 : pg_cd 74 5 = (1, 2, 0, 0, 8) := by decide +kernel
theorem c_74_7 : pg_cd 74 7 = (37, 3, 0, 3, 13) := by decide +kernel
theorem c_74_10 : pg_cd 74 10 = (3, 1, 0, 1, 0) := by decide +kernel
theorem c_74_11 : pg_cd 74 11 = (36, 3, 0, 2, 9) := by decide +kernel
theorem c_74_14 : pg_cd 74 14 = (3, 1, 0, 1, 0) := by decide +kernel
theorem c_74_15 : pg_cd 74 15 = (1, 2, 0, 0, 24) := by decide +kernel
theorem c_74_17 : pg_cd 74 17 = (37, 3, 0, 2, 7) := by decide +kernel
theorem c_74_20 : pg_cd 74 20 = (1, 1, 0, 0, (-1)) := by decide +kernel
theorem c_74_21 : pg_cd 74 21 = (38, 3, 0, 0, 9) := by decide +kernel
theorem c_74_24 : pg_cd 74 24 = (3, 1, 0, 0, 0) := by decide +kernel
theorem c_74_25 : pg_cd 74 25 = (1, 2, 0, 0, 24) := by decide +kernel
theorem c_74_27 : pg_cd 74 27 = (12, 1, 0, 0, 0) := by decide +kernel
theorem c_74_28 : pg_cd 74 28 = (3, 1, 0, 1, 0) := by decide +kernel
theorem c_74_29 : pg_cd 74 29 = (10, 1, 0, 0, 0) := by decide +kernel
theorem c_74_30 : pg_cd 74 30 = (90, 0, 0, 0, 0) := by decide +kernel
theorem mi_74 : pg_mc 74 = 6 ∧ pg_na 74 = 2 ∧ pg_mx 74 = 2 := by decide +kernel
set_option maxRecDepth 20000 in
theorem u_74_0 {d : Nat} {S : zS} {σ τ : zI} {Q : zQ} {x0 : Int} {x1 : Int} (t : (rg x0) ∧ if x0 < 0 then (Q (some (.int (wI (-1)))) S σ τ) else (if (8 : Int) ≤ x0 then (Q (some (.int (wI (-1)))) S σ τ) else ((rg x1) ∧ if x1 < 0 then (Q (some (.int (wI (-1)))) S σ τ) else (if x1 < 24 then (Q (some (.int (wI ((x0 * 24) + x1)))) S σ τ) else (Q (some (.int (wI (-1)))) S σ τ))))) : wi (d + 0) 74 0 [.int (wI x0), .int (wI x1)] [] S σ τ Q := by
  obtain ⟨r1, t⟩ := t
  refine i3 c_74_0 rfl ?_
  refine i36 c_74_1 r1 rfl (fun hc => ?_) (fun hc => ?_)
  · have t := iT t hc
    have ha2 : x0 < 0 := hc
    refine i1 c_74_20 (i38 c_74_21 rfl ?_)
    exact i90 c_74_30 t
  · have t := iF t hc
    have ha2 : ¬ (x0 < 0) := hc
    refine i3 c_74_4 rfl (i1 c_74_5 ?_)
    refine i37 c_74_7 r1 (by decide) rfl (fun hc => ?_) (fun hc => ?_)
    · have t := iT t hc
      have ha3 : (8 : Int) ≤ x0 := hc
      refine i1 c_74_20 (i38 c_74_21 rfl ?_)
      exact i90 c_74_30 t
    · have t := iF t hc
      have ha3 : ¬ ((8 : Int) ≤ x0) := hc
      obtain ⟨r4, t⟩ := t
      refine i3 c_74_10 rfl ?_
      refine i36 c_74_11 r4 rfl (fun hc => ?_) (fun hc => ?_)
      · have t := iT t hc
        have ha5 : x1 < 0 := hc
        refine i1 c_74_20 (i38 c_74_21 rfl ?_)
        exact i90 c_74_30 t
      · have t := iF t hc
        have ha5 : ¬ (x1 < 0) := hc
        refine i3 c_74_14 rfl (i1 c_74_15 ?_)
        refine i37 c_74_17 r4 (by decide) rfl (fun hc => ?_) (fun hc => ?_)
        · have t := iT t hc
          have ha6 : x1 < 24 := hc
          refine i3 c_74_24 rfl (i1 c_74_25 (i12 c_74_27 (i3 c_74_28 rfl (i10 c_74_29 ?_))))
          exact i90 c_74_30 t
        · have t := iF t hc
          have ha6 : ¬ (x1 < 24) := hc
          refine i1 c_74_20 (i38 c_74_21 rfl ?_)
          exact i90 c_74_30 t
theorem q_74 {d : Nat} {S : zS} {σ τ : zI} {Q : zQ} {mill : Int} {home : Int} (p0 : rg mill) (p1 : rg home) (t : ∀ (v : Int), v = (if (0 ≤ mill ∧ mill ≤ 7) ∧ (0 ≤ home ∧ home ≤ 23) then mill * 24 + home else -1) → Q (some (.int (wI v))) S σ τ) : wc (d + 0) 74 [.int (wI mill), .int (wI home)] S σ τ Q := by
  refine wc_of mi_74 rfl (u_74_0 ⟨p0, ?_⟩)
  have t := t _ rfl
  repeat' (first | (rw [if_pos (by omega)] at t; exact t) | (rw [if_neg (by omega)] at t; exact t) | refine ⟨by omega, ?_⟩ | refine ifI (fun _ => ?_) (fun _ => ?_))
def r_inBn (a : Int → Int) (m h w n : Int) : Int := sI (fun p => if a (3652 + 12 * p + 0) = h then (if a (84700 + 60 * w + p) = m + 1 then a (60700 + 60 * w + p) else 0) else 0) n
def PL (a : Int → Int) (w n : Int) (g : Int → Int) : Int → Int := fg (fun k => zw (r_inBn a (k.tdiv 24) (k.tmod 24) w n)) g 192
theorem PL_0 (a : Int → Int) (w : Int) (g : Int → Int) : PL a w 0 g = fl_ g 0 192 0 := by
  funext k
  unfold PL fg fl_
  rfl
theorem PL_e (a : Int → Int) (w : Int) (g : Int → Int) : PL a w (a 4) g = fg (r_sh a w) g 192 := rfl
theorem PL_s {a : Int → Int} {w n : Int} {g : Int → Int} (n0 : 0 ≤ n) (b : 0 ≤ a (3652 + 12 * n + 0) ∧ a (3652 + 12 * n + 0) < 24) (b2 : 0 ≤ a (84700 + 60 * w + n) ∧ a (84700 + 60 * w + n) ≤ 8) : PL a w (n + 1) g = if a (84700 + 60 * w + n) = 0 then PL a w n g else u1 (PL a w n g) ((a (84700 + 60 * w + n) - 1) * 24 + a (3652 + 12 * n + 0)) (zw (PL a w n g ((a (84700 + 60 * w + n) - 1) * 24 + a (3652 + 12 * n + 0)) + a (60700 + 60 * w + n))) := by
  funext k
  by_cases hk : 0 ≤ k ∧ k < 192
  · have q := td24 hk
    have e1 : PL a w (n + 1) g k = zw (r_inBn a (k.tdiv 24) (k.tmod 24) w (n + 1)) := fg_i hk
    have e0 : PL a w n g k = zw (r_inBn a (k.tdiv 24) (k.tmod 24) w n) := fg_i hk
    have e2 : r_inBn a (k.tdiv 24) (k.tmod 24) w (n + 1) = r_inBn a (k.tdiv 24) (k.tmod 24) w n + (if a (3652 + 12 * n + 0) = k.tmod 24 then (if a (84700 + 60 * w + n) = k.tdiv 24 + 1 then a (60700 + 60 * w + n) else 0) else 0) := sI_s n0
    rw [e1, e2]
    by_cases c : a (84700 + 60 * w + n) = 0
    · rw [if_pos c, e0]
      congr 1
      split
      · rw [if_neg (by omega), Int.add_zero]
      · rw [Int.add_zero]
    · rw [if_neg c]
      by_cases c2 : k = (a (84700 + 60 * w + n) - 1) * 24 + a (3652 + 12 * n + 0)
      · rw [← c2, u1_s, e0, zw_add, if_pos (by omega), if_pos (by omega)]
      · rw [u1_n c2, e0]
        congr 1
        split
        · rw [if_neg (by omega), Int.add_zero]
        · rw [Int.add_zero]
  · have e1 : PL a w (n + 1) g k = g k := if_neg hk
    have e0 : PL a w n g k = g k := if_neg hk
    rw [e1]
    by_cases c : a (84700 + 60 * w + n) = 0
    · rw [if_pos c, e0]
    · rw [if_neg c, u1_n (by omega), e0]
theorem BK_f {σ σ' : zI} {y : Nat} {a : Int → Int} {w : Int} (h : BK σ y a w) (f : ∀ c, y ≤ c → c ≤ y + 7 → σ' c = σ c) : BK σ' y a w := by
  unfold BK at *
  rw [f y (by omega) (by omega), f (y + 1) (by omega) (by omega), f (y + 2) (by omega) (by omega), f (y + 3) (by omega) (by omega), f (y + 4) (by omega) (by omega), f (y + 5) (by omega) (by omega), f (y + 6) (by omega) (by omega), f (y + 7) (by omega) (by omega)]
  exact h
-- method 7: MillTown$Books.sumWages(LMillTown$Town;I[I)V
theorem c_7_0 : pg_cd 7 0 = (5, 1, 0, 3, 0) := by decide +kernel
theorem c_7_1 : pg_cd 7 1 = (1, 1, 0, 0, 0) := by decide +kernel
theorem c_7_2 : pg_cd 7 2 = (81, 329, 65, 0, 0) := by decide +kernel
theorem c_7_5 : pg_cd 7 5 = (5, 1, 0, 0, 0) := by decide +kernel
theorem c_7_6 : pg_cd 7 6 = (3, 1, 0, 2, 0) := by decide +kernel
theorem c_7_7 : pg_cd 7 7 = (80, 1, 21, 0, 0) := by decide +kernel
theorem c_7_10 : pg_cd 7 10 = (8, 2, 0, 4, 0) := by decide +kernel
theorem c_7_12 : pg_cd 7 12 = (1, 1, 0, 0, 0) := by decide +kernel
theorem c_7_13 : pg_cd 7 13 = (6, 2, 0, 5, 0) := by decide +kernel
theorem c_7_15 : pg_cd 7 15 = (5, 2, 0, 4, 0) := by decide +kernel
theorem c_7_17 : pg_cd 7 17 = (39, 3, 0, 0, 78) := by decide +kernel
theorem c_7_20 : pg_cd 7 20 = (3, 2, 0, 5, 0) := by decide +kernel
theorem c_7_22 : pg_cd 7 22 = (5, 1, 0, 1, 0) := by decide +kernel
theorem c_7_23 : pg_cd 7 23 = (45, 8, 41, 5, 0) := by decide +kernel
theorem c_7_26 : pg_cd 7 26 = (43, 4, 71, 2, 0) := by decide +kernel
theorem c_7_29 : pg_cd 7 29 = (37, 3, 0, 3, 66) := by decide +kernel
theorem c_7_32 : pg_cd 7 32 = (3, 2, 0, 5, 0) := by decide +kernel
theorem c_7_34 : pg_cd 7 34 = (1, 2, 0, 0, 60) := by decide +kernel
theorem c_7_36 : pg_cd 7 36 = (37, 3, 0, 3, 59) := by decide +kernel
theorem c_7_39 : pg_cd 7 39 = (5, 2, 0, 4, 0) := by decide +kernel
theorem c_7_41 : pg_cd 7 41 = (45, 10, 59, 1, 0) := by decide +kernel
theorem c_7_44 : pg_cd 7 44 = (3, 2, 0, 5, 0) := by decide +kernel
theorem c_7_46 : pg_cd 7 46 = (50, 1, 0, 0, 0) := by decide +kernel
theorem c_7_47 : pg_cd 7 47 = (5, 1, 0, 1, 0) := by decide +kernel
theorem c_7_48 : pg_cd 7 48 = (45, 8, 41, 5, 0) := by decide +kernel
theorem c_7_51 : pg_cd 7 51 = (3, 2, 0, 5, 0) := by decide +kernel
theorem c_7_53 : pg_cd 7 53 = (1, 1, 0, 0, 0) := by decide +kernel
theorem c_7_54 : pg_cd 7 54 = (80, 55, 76, 0, 0) := by decide +kernel
theorem c_7_57 : pg_cd 7 57 = (81, 74, 80, 0, 0) := by decide +kernel
theorem c_7_60 : pg_cd 7 60 = (6, 2, 0, 6, 0) := by decide +kernel
theorem c_7_62 : pg_cd 7 62 = (3, 2, 0, 6, 0) := by decide +kernel
theorem c_7_64 : pg_cd 7 64 = (36, 3, 0, 2, 25) := by decide +kernel
theorem c_7_67 : pg_cd 7 67 = (3, 2, 0, 6, 0) := by decide +kernel
theorem c_7_69 : pg_cd 7 69 = (5, 1, 0, 3, 0) := by decide +kernel
theorem c_7_70 : pg_cd 7 70 = (58, 0, 0, 0, 0) := by decide +kernel
theorem c_7_71 : pg_cd 7 71 = (37, 3, 0, 3, 18) := by decide +kernel
theorem c_7_74 : pg_cd 7 74 = (5, 1, 0, 3, 0) := by decide +kernel
theorem c_7_75 : pg_cd 7 75 = (3, 2, 0, 6, 0) := by decide +kernel
theorem c_7_77 : pg_cd 7 77 = (34, 1, 0, 0, 0) := by decide +kernel
theorem c_7_78 : pg_cd 7 78 = (50, 1, 0, 0, 0) := by decide +kernel
theorem c_7_79 : pg_cd 7 79 = (5, 2, 0, 4, 0) := by decide +kernel
theorem c_7_81 : pg_cd 7 81 = (45, 10, 85, 0, 0) := by decide +kernel
theorem c_7_84 : pg_cd 7 84 = (3, 2, 0, 5, 0) := by decide +kernel
theorem c_7_86 : pg_cd 7 86 = (50, 1, 0, 0, 0) := by decide +kernel
theorem c_7_87 : pg_cd 7 87 = (10, 1, 0, 0, 0) := by decide +kernel
theorem c_7_88 : pg_cd 7 88 = (54, 1, 0, 0, 0) := by decide +kernel
theorem c_7_89 : pg_cd 7 89 = (9, 3, 0, 5, 1) := by decide +kernel
theorem c_7_92 : pg_cd 7 92 = (38, 3, 0, 0, (-77)) := by decide +kernel
theorem c_7_95 : pg_cd 7 95 = (94, 0, 0, 0, 0) := by decide +kernel
theorem mi_7 : pg_mc 7 = 0 ∧ pg_na 7 = 3 ∧ pg_mx 7 = 7 := by decide +kernel
set_option maxRecDepth 20000 in
theorem u_7_0 {d : Nat} {S : zS} {σ τ : zI} {Q : zQ} {x1 : Nat} {x2 : Int} {x3 : Nat} (hx1 : tw x1) (hx3 : (∀ σ τ, kO S σ τ → oK S x3 0 192) ∧ isR x3 = false) (t : (0 ≤ x2 ∧ x2 ≤ 399) ∧ (S.2.2.2 59 x2.toNat ≠ none) ∧ (zB S) ∧ ∀ (j4 : Nat), oB S j4 → S.2.2.2 59 x2.toNat = some j4 → wi (d + 2) 7 15 [.ref 58, .ref x1, .int (wI x2), .ref x3, .ref j4, .int (wI 0), .retAddr 0] [] S (uc σ x3 (fl_ ((σ x3)) 0 192 0)) τ Q) : wi (d + 2) 7 0 [.ref 58, .ref x1, .int (wI x2), .ref x3, .retAddr 0, .retAddr 0, .retAddr 0] [] S σ τ Q := by
  refine i5 c_7_0 rfl (i1 c_7_1 ?_)
  refine i81 (As := [.ref x3, .int (wI 0)]) (rest := []) c_7_2 mi_329 rfl rfl (Nat.le_of_ble_eq_true rfl) (Nat.le_of_ble_eq_true rfl) (q_329 hx3 (by decide) (by decide) ?_)
  show wi (d + 2) 7 5 [.ref 58, .ref x1, .int (wI x2), .ref x3, .retAddr 0, .retAddr 0, .retAddr 0] [] S (uc σ x3 (fl_ ((σ x3)) 0 192 0)) τ Q
  obtain ⟨p1, t⟩ := t
  obtain ⟨p2, t⟩ := t
  obtain ⟨p3, t⟩ := t
  refine i5 c_7_5 rfl (i3 c_7_6 rfl ?_)
  refine i80 (As := [.int (wI x2)]) (rest := []) c_7_7 mi_1 rfl rfl (Nat.le_of_ble_eq_true rfl) (Nat.le_of_ble_eq_true rfl) (lo (c := 58) (kd := 100) (n := 0) rfl (by decide)) (q_1n p1 p2 p3 (fun j4 q5 q6 => ?_))
  have t := t j4 q5 q6
  have hj4 := q5
  show wi (d + 2) 7 10 [.ref 58, .ref x1, .int (wI x2), .ref x3, .retAddr 0, .retAddr 0, .retAddr 0] [.ref j4] S (uc σ x3 (fl_ ((σ x3)) 0 192 0)) τ Q
  refine i8 (L' := [.ref 58, .ref x1, .int (wI x2), .ref x3, .ref j4, .retAddr 0, .retAddr 0]) c_7_10 rfl (i1 c_7_12 (i6 (L' := [.ref 58, .ref x1, .int (wI x2), .ref x3, .ref j4, .int (wI 0), .retAddr 0]) c_7_13 rfl t))
set_option maxRecDepth 20000 in
theorem u_7_15 {d : Nat} {S : zS} {σ τ : zI} {Q : zQ} {x1 : Nat} {x2 : Int} {x3 : Nat} {x4 : Nat} {x5 : Int} {y6 : Value} (hx1 : tw x1) (hx3 : (∀ σ τ, kO S σ τ → oK S x3 0 192) ∧ isR x3 = false) (hx4 : oB S x4) (t : (rg x5) ∧ if (σ (x1 + 11) 2) ≤ x5 then (Q none S σ τ) else (if (60 : Int) ≤ x5 then (Q none S σ τ) else ((0 ≤ x5 ∧ x5 < 60) ∧ ∀ (v6 : Int), v6 = (if (0 ≤ (σ (x4 + 2) x5) ∧ (σ (x4 + 2) x5) ≤ 7) ∧ (0 ≤ (rt_ (σ (x1 + 11) 2) (σ (x1 + 12)) 9 0 x5) ∧ (rt_ (σ (x1 + 11) 2) (σ (x1 + 12)) 9 0 x5) ≤ 23) then (σ (x4 + 2) x5) * 24 + (rt_ (σ (x1 + 11) 2) (σ (x1 + 12)) 9 0 x5) else -1) → (rg v6) ∧ if v6 < 0 then (wi (d + 2) 7 15 [.ref 58, .ref x1, .int (wI x2), .ref x3, .ref x4, .int (wI (x5 + 1)), .int (wI v6)] [] S σ τ Q) else (if (192 : Int) ≤ v6 then (wi (d + 2) 7 15 [.ref 58, .ref x1, .int (wI x2), .ref x3, .ref x4, .int (wI (x5 + 1)), .int (wI v6)] [] S σ τ Q) else ((0 ≤ v6 ∧ v6 < 192) ∧ ∃ w12 : Int, wI w12 = wI ((σ x3 v6) + (σ (x4 + 1) x5)) ∧ rg w12 ∧ wi (d + 2) 7 15 [.ref 58, .ref x1, .int (wI x2), .ref x3, .ref x4, .int (wI (x5 + 1)), .int (wI v6)] [] S (uc σ x3 (u1 (σ x3) v6 w12)) τ Q))))) : wi (d + 2) 7 15 [.ref 58, .ref x1, .int (wI x2), .ref x3, .ref x4, .int (wI x5), y6] [] S σ τ Q := by
  refine i5 c_7_15 rfl (i39a c_7_17 (i3 c_7_20 rfl (i5 c_7_22 rfl (i45 c_7_23 (lo (lyt_0 hx1) (by have := tw_b hx1; omega)) (lro (lrt_5 hx1)) (wi_ok (fun K1 => ?_))))))
  obtain ⟨r2, t⟩ := t
  refine i43 (v := σ (x1 + 11) 2) c_7_26 (lo (lyt_11 hx1) (by have := tw_b hx1; omega)) rfl ?_
  refine i37 c_7_29 r2 (rge_ K1 rfl) rfl (fun hc => ?_) (fun hc => ?_)
  · have t := iT t hc
    have ha3 : (σ (x1 + 11) 2) ≤ x5 := hc
    exact i94 c_7_95 t
  · have t := iF t hc
    have ha3 : ¬ ((σ (x1 + 11) 2) ≤ x5) := hc
    refine i3 c_7_32 rfl (i1 c_7_34 ?_)
    refine i37 c_7_36 r2 (by decide) rfl (fun hc => ?_) (fun hc => ?_)
    · have t := iT t hc
      have ha4 : (60 : Int) ≤ x5 := hc
      exact i94 c_7_95 t
    · have t := iF t hc
      have ha4 : ¬ ((60 : Int) ≤ x5) := hc
      obtain ⟨r5, t⟩ := t
      refine i5 c_7_39 rfl (i45 c_7_41 (fun _ => oB_0 hx4) (fun _ => oB_r1 hx4) (i3 c_7_44 rfl (i50 (v := σ (x4 + 2) x5) c_7_46 (fun _ => oB_2 hx4) (by decide) r5 rfl (i5 c_7_47 rfl (i45 c_7_48 (lo (lyt_0 hx1) (by have := tw_b hx1; omega)) (lro (lrt_5 hx1)) (i3 c_7_51 rfl (i1 c_7_53 ?_)))))))
      refine i80 (As := [.int (wI x5), .int (wI 0)]) (rest := [.int (wI (σ (x4 + 2) x5))]) c_7_54 mi_55 rfl rfl (Nat.le_of_ble_eq_true rfl) (Nat.le_of_ble_eq_true rfl) (lo (lyt_11 hx1) (by have := tw_b hx1; omega)) (q_at (ow_persons hx1) r2 (by decide) ?_)
      show wi (d + 2) 7 57 [.ref 58, .ref x1, .int (wI x2), .ref x3, .ref x4, .int (wI x5), y6] [.int (wI (rt_ (σ (x1 + 11) 2) (σ (x1 + 12)) 9 0 x5)), .int (wI (σ (x4 + 2) x5))] S σ τ Q
      refine i81 (As := [.int (wI (σ (x4 + 2) x5)), .int (wI (rt_ (σ (x1 + 11) 2) (σ (x1 + 12)) 9 0 x5))]) (rest := []) c_7_57 mi_74 rfl rfl (Nat.le_of_ble_eq_true rfl) (Nat.le_of_ble_eq_true rfl) (q_74 (rge_ K1 rfl) (rg_rt_ (fun k => kO_r K1 _ k) _ _ _ _) (fun v6 q7 => ?_))
      have t := t v6 q7
      show wi (d + 2) 7 60 [.ref 58, .ref x1, .int (wI x2), .ref x3, .ref x4, .int (wI x5), y6] [.int (wI v6)] S σ τ Q
      obtain ⟨r8, t⟩ := t
      refine i6 (L' := [.ref 58, .ref x1, .int (wI x2), .ref x3, .ref x4, .int (wI x5), .int (wI v6)]) c_7_60 rfl (i3 c_7_62 rfl ?_)
      refine i36 c_7_64 r8 rfl (fun hc => ?_) (fun hc => ?_)
      · have t := iT t hc
        have ha9 : v6 < 0 := hc
        refine i9 (L' := [.ref 58, .ref x1, .int (wI x2), .ref x3, .ref x4, .int (wI (x5 + 1)), .int (wI v6)]) c_7_89 rfl rfl (i38 c_7_92 rfl t)
      · have t := iF t hc
        have ha9 : ¬ (v6 < 0) := hc
        refine i3 c_7_67 rfl (i5 c_7_69 rfl (i58 (v := 192) c_7_70 (hx3.1 _ _) rfl ?_))
        refine i37 c_7_71 r8 (by decide) rfl (fun hc => ?_) (fun hc => ?_)
        · have t := iT t hc
          have ha10 : (192 : Int) ≤ v6 := hc
          refine i9 (L' := [.ref 58, .ref x1, .int (wI x2), .ref x3, .ref x4, .int (wI (x5 + 1)), .int (wI v6)]) c_7_89 rfl rfl (i38 c_7_92 rfl t)
        · have t := iF t hc
          have ha10 : ¬ ((192 : Int) ≤ v6) := hc
          obtain ⟨r11, t⟩ := t
          obtain ⟨w12, e13, r14, t⟩ := t
          refine i5 c_7_74 rfl (i3 c_7_75 rfl (i34a c_7_77 (i50 (v := σ x3 v6) c_7_78 (hx3.1 _ _) (by decide) r11 rfl (i5 c_7_79 rfl (i45 c_7_81 (fun _ => oB_0 hx4) (fun _ => oB_r0 hx4) (i3 c_7_84 rfl (i50 (v := σ (x4 + 1) x5) c_7_86 (fun _ => oB_1 hx4) (by decide) r5 rfl (i10 c_7_87 (i54 (σ1 := uc σ x3 (u1 (σ x3) v6 w12)) c_7_88 (hx3.1 _ _) (by decide) r11 hx3.2 e13 r14 (wr_ rfl rfl) (i9 (L' := [.ref 58, .ref x1, .int (wI x2), .ref x3, .ref x4, .int (wI (x5 + 1)), .int (wI v6)]) c_7_89 rfl rfl (i38 c_7_92 rfl t)))))))))))
theorem q_7 {d : Nat} {S : zS} {σ τ : zI} {Q : zQ} {tn : Nat} {week : Int} {pl : Nat} {a : Int → Int} (htn : tw tn) (hpl : (∀ σ τ, kO S σ τ → oK S pl 0 192) ∧ isR pl = false) (p0 : 0 ≤ week ∧ week < a 0) (p1 : BX S σ a) (p2 : RT σ tn a) (p3 : Jv a) (p4 : jv_B a) (p5 : pl = 80 ∨ pl = 81) (t : Q none S (uc σ pl (fg (r_sh a week) (σ pl) 192)) τ) : wc (d + 2) 7 [.ref 58, .ref tn, .int (wI week), .ref pl] S σ τ Q := by
  have hC := jC p3
  have hP := jP p3
  unfold jv_C at hC
  obtain ⟨y, hy, ho, hb⟩ := p1.2 week p0.1 p0.2
  have tb := tw_b htn
  have yb := oB_b ho
  have jb := p4.1 week p0.1 p0.2
  refine wc_of mi_7 rfl (u_7_0 htn hpl ⟨by omega, (by rw [hy]; intro h; cases h), p1.1, fun j hj hj2 => ?_⟩)
  rw [hy] at hj2
  cases hj2
  have key : ∀ p, 0 ≤ p → p ≤ a 4 → ∀ y6, wi (d + 2) 7 15 [.ref 58, .ref tn, .int (wI week), .ref pl, .ref y, .int (wI p), y6] [] S (uc σ pl (PL a week p (σ pl))) τ Q := by
    refine lp_up (fun p h0 h1 ih => ?_)
    intro y6
    have rt := RT_σ (σ' := uc σ pl (PL a week p (σ pl))) (fun c c0 c1 => uc_n (by omega)) p2
    have bk := BK_f (σ' := uc σ pl (PL a week p (σ pl))) hb (fun c c0 c1 => uc_n (by omega))
    have cn := cP rt
    refine u_7_15 htn hpl hj ?_
    rw [cn]
    refine ⟨by omega, ifI (fun e => ?_) (fun e => ?_)⟩
    · have : p = a 4 := by omega
      subst this
      exact t
    · rw [if_neg (by omega)]
      have ih := ih (by omega)
      have vp := vP rt (p := p) (k := 0) (by omega) (by omega)
      rw [cn] at vp
      rw [vp, (bk.1 p h0 (by omega)).1, (bk.1 p h0 (by omega)).2]
      have hp := (hP p h0 (by omega)).1
      have ab := jb.1 p h0 (by omega)
      rw [PL_s h0 (by omega) (by omega)] at ih
      refine ⟨by omega, fun v hv => ?_⟩
      by_cases c : a (84700 + 60 * week + p) = 0
      · rw [if_pos c] at ih
        rw [if_neg (by omega)] at hv
        refine ⟨by omega, ?_⟩
        rw [if_pos (by omega)]
        exact ih _
      · rw [if_neg c] at ih
        rw [if_pos (by omega)] at hv
        refine ⟨by omega, ?_⟩
        rw [if_neg (by omega), if_neg (by omega)]
        refine ⟨by omega, zw (uc σ pl (PL a week p (σ pl)) pl v + a (60700 + 60 * week + p)), wI_zw _, rg_zw _, ?_⟩
        rw [uc_s, uc_uc, hv]
        exact ih _
  have := key 0 (by omega) (by omega) (.retAddr 0)
  rw [PL_0] at this
  exact this
-- method 75: MillTown$Sheet.isTaken()Z
theorem c_75_0 : pg_cd 75 0 = (5, 1, 0, 0, 0) := by decide +kernel
theorem c_75_1 : pg_cd 75 1 = (43, 6, 18, 2, 0) := by decide +kernel
theorem c_75_4 : pg_cd 75 4 = (1, 1, 0, 0, (-1)) := by decide +kernel
theorem c_75_5 : pg_cd 75 5 = (37, 3, 0, 0, 7) := by decide +kernel
theorem c_75_8 : pg_cd 75 8 = (1, 1, 0, 0, 1) := by decide +kernel
theorem c_75_9 : pg_cd 75 9 = (38, 3, 0, 0, 4) := by decide +kernel
theorem c_75_12 : pg_cd 75 12 = (1, 1, 0, 0, 0) := by decide +kernel
theorem c_75_13 : pg_cd 75 13 = (91, 0, 0, 0, 0) := by decide +kernel
theorem mi_75 : pg_mc 75 = 6 ∧ pg_na 75 = 0 ∧ pg_mx 75 = 1 := by decide +kernel
set_option maxRecDepth 20000 in
theorem u_75_0 {d : Nat} {S : zS} {σ τ : zI} {Q : zQ} (t : if (σ 79 2) = (-1) then (Q (some (.int (wI 0))) S σ τ) else (Q (some (.int (wI 1))) S σ τ)) : wi (d + 0) 75 0 [.ref 79] [] S σ τ Q := by
  refine i5 c_75_0 rfl (wi_ok (fun K1 => ?_))
  refine i43 (v := σ 79 2) c_75_1 (lo (c := 79) (kd := 106) (n := 0) rfl (by decide)) rfl (i1 c_75_4 ?_)
  refine i37 c_75_5 (rge_ K1 rfl) (by decide) rfl (fun hc => ?_) (fun hc => ?_)
  · have t := iT t hc
    have ha2 : (σ 79 2) = (-1) := hc
    refine i1 c_75_12 ?_
    exact i91 c_75_13 (by decide) t
  · have t := iF t hc
    have ha2 : ¬ ((σ 79 2) = (-1)) := hc
    refine i1 c_75_8 (i38 c_75_9 rfl ?_)
    exact i91 c_75_13 (by decide) t
theorem q_75 {d : Nat} {S : zS} {σ τ : zI} {Q : zQ} (t : Q (some (.int (wI (if ¬ σ 79 2 = -1 then 1 else 0)))) S σ τ) : wc (d + 0) 75 [.ref 79] S σ τ Q := by
  refine wc_of mi_75 rfl (u_75_0 (ifI (fun e => ?_) (fun e => ?_)))
  · rw [if_neg (by simp [e])] at t; exact t
  · rw [if_pos e] at t; exact t
-- method 76: MillTown$Sheet.take(LMillTown$Books;LMillTown$Town;I)V
theorem c_76_0 : pg_cd 76 0 = (5, 1, 0, 0, 0) := by decide +kernel
theorem c_76_1 : pg_cd 76 1 = (3, 1, 0, 3, 0) := by decide +kernel
theorem c_76_2 : pg_cd 76 2 = (46, 6, 18, 2, 0) := by decide +kernel
theorem c_76_5 : pg_cd 76 5 = (5, 1, 0, 1, 0) := by decide +kernel
theorem c_76_6 : pg_cd 76 6 = (5, 1, 0, 2, 0) := by decide +kernel
theorem c_76_7 : pg_cd 76 7 = (3, 1, 0, 3, 0) := by decide +kernel
theorem c_76_8 : pg_cd 76 8 = (5, 1, 0, 0, 0) := by decide +kernel
theorem c_76_9 : pg_cd 76 9 = (45, 6, 9, 0, 0) := by decide +kernel
theorem c_76_12 : pg_cd 76 12 = (80, 7, 22, 0, 0) := by decide +kernel
theorem c_76_15 : pg_cd 76 15 = (94, 0, 0, 0, 0) := by decide +kernel
theorem mi_76 : pg_mc 76 = 6 ∧ pg_na 76 = 3 ∧ pg_mx 76 = 4 := by decide +kernel
set_option maxRecDepth 20000 in
theorem u_76_0 {d : Nat} {S : zS} {σ τ : zI} {Q : zQ} {x2 : Nat} {x3 : Int} (hx2 : tw x2) (t : ∃ w1 : Int, wI w1 = wI x3 ∧ rg w1 ∧ ∃ a4 : Int → Int, (0 ≤ x3 ∧ x3 < a4 0) ∧ (BX S (uc σ 79 (u1 (σ 79) 2 w1)) a4) ∧ (RT (uc σ 79 (u1 (σ 79) 2 w1)) x2 a4) ∧ (Jv a4) ∧ (jv_B a4) ∧ (80 = 80 ∨ 80 = 81) ∧ Q none S (uc (uc σ 79 (u1 (σ 79) 2 w1)) 80 (fg (r_sh a4 x3) ((σ 80)) 192)) τ) : wi (d + 3) 76 0 [.ref 79, .ref 58, .ref x2, .int (wI x3)] [] S σ τ Q := by
  obtain ⟨w1, e2, r3, t⟩ := t
  obtain ⟨a4, t⟩ := t
  obtain ⟨p5, t⟩ := t
  obtain ⟨p6, t⟩ := t
  obtain ⟨p7, t⟩ := t
  obtain ⟨p8, t⟩ := t
  obtain ⟨p9, t⟩ := t
  obtain ⟨p10, t⟩ := t
  refine i5 c_76_0 rfl (i3 c_76_1 rfl (i46 (σ1 := uc σ 79 (u1 (σ 79) 2 w1)) c_76_2 (lo (c := 79) (kd := 106) (n := 0) rfl (by decide)) (by decide) e2 r3 (wr_ rfl rfl) (i5 c_76_5 rfl (i5 c_76_6 rfl (i3 c_76_7 rfl (i5 c_76_8 rfl (i45 c_76_9 (lo (c := 79) (kd := 106) (n := 0) rfl (by decide)) (lro (c := 79) (k := 0) (j := 80) (by decide)) ?_)))))))
  refine i80 (As := [.ref x2, .int (wI x3), .ref 80]) (rest := []) c_76_12 mi_7 rfl rfl (Nat.le_of_ble_eq_true rfl) (Nat.le_of_ble_eq_true rfl) (lo (c := 58) (kd := 100) (n := 0) rfl (by decide)) (q_7 (a := a4) hx2 ⟨fun _ _ => (lo (c := 80) (kd := 0) (n := 192) rfl (by decide)), (by decide)⟩ p5 p6 p7 p8 p9 p10 ?_)
  show wi (d + 3) 76 15 [.ref 79, .ref 58, .ref x2, .int (wI x3)] [] S (uc (uc σ 79 (u1 (σ 79) 2 w1)) 80 (fg (r_sh a4 x3) ((uc σ 79 (u1 (σ 79) 2 w1)) 80) 192)) τ Q
  refine wi_s (σ1 := uc (uc σ 79 (u1 (σ 79) 2 w1)) 80 (fg (r_sh a4 x3) ((σ 80)) 192)) (by simp only [(show (uc σ 79 (u1 (σ 79) 2 w1)) 80 = σ 80 from (uc_ns rfl (by decide)))]) ?_
  exact i94 c_76_15 t
theorem q_76 {d : Nat} {S : zS} {σ τ : zI} {Q : zQ} {tn : Nat} {of_ : Int} {a : Int → Int} (htn : tw tn) (p0 : 0 ≤ of_ ∧ of_ < a 0) (p1 : BX S σ a) (p2 : RT σ tn a) (p3 : Jv a) (p4 : jv_B a) (t : Q none S (uc (uc σ 79 (u1 (σ 79) 2 of_)) 80 (fg (r_sh a of_) (σ 80) 192)) τ) : wc (d + 3) 76 [.ref 79, .ref 58, .ref tn, .int (wI of_)] S σ τ Q := by
  have hC := jC p3
  unfold jv_C at hC
  have tb := tw_b htn
  refine wc_of mi_76 rfl (u_76_0 htn ⟨_, rfl, by omega, a, p0, ⟨p1.1, fun w w0 w1 => ?_⟩, RT_σ (fun c c0 c1 => uc_n (by omega)) p2, p3, p4, Or.inl rfl, t⟩)
  obtain ⟨y, h1, h2, h3⟩ := p1.2 w w0 w1
  have := oB_b h2
  exact ⟨y, h1, h2, BK_f h3 (fun c c0 c1 => uc_n (by omega))⟩
-- method 77: MillTown$Sheet.at(II)I
theorem c_77_0 : pg_cd 77 0 = (3, 1, 0, 1, 0) := by decide +kernel
theorem c_77_1 : pg_cd 77 1 = (3, 1, 0, 2, 0) := by decide +kernel
theorem c_77_2 : pg_cd 77 2 = (81, 74, 28, 0, 0) := by decide +kernel
theorem c_77_5 : pg_cd 77 5 = (6, 1, 0, 3, 0) := by decide +kernel
theorem c_77_6 : pg_cd 77 6 = (3, 1, 0, 3, 0) := by decide +kernel
theorem c_77_7 : pg_cd 77 7 = (36, 3, 0, 2, 12) := by decide +kernel
theorem c_77_10 : pg_cd 77 10 = (3, 1, 0, 3, 0) := by decide +kernel
theorem c_77_11 : pg_cd 77 11 = (5, 1, 0, 0, 0) := by decide +kernel
theorem c_77_12 : pg_cd 77 12 = (45, 6, 9, 0, 0) := by decide +kernel
theorem c_77_15 : pg_cd 77 15 = (58, 0, 0, 0, 0) := by decide +kernel
theorem c_77_16 : pg_cd 77 16 = (37, 3, 0, 2, 7) := by decide +kernel
theorem c_77_19 : pg_cd 77 19 = (1, 1, 0, 0, (-1)) := by decide +kernel
theorem c_77_20 : pg_cd 77 20 = (38, 3, 0, 0, 9) := by decide +kernel
theorem c_77_23 : pg_cd 77 23 = (5, 1, 0, 0, 0) := by decide +kernel
theorem c_77_24 : pg_cd 77 24 = (45, 6, 9, 0, 0) := by decide +kernel
theorem c_77_27 : pg_cd 77 27 = (3, 1, 0, 3, 0) := by decide +kernel
theorem c_77_28 : pg_cd 77 28 = (50, 1, 0, 0, 0) := by decide +kernel
theorem c_77_29 : pg_cd 77 29 = (90, 0, 0, 0, 0) := by decide +kernel
theorem mi_77 : pg_mc 77 = 6 ∧ pg_na 77 = 2 ∧ pg_mx 77 = 4 := by decide +kernel
set_option maxRecDepth 20000 in
theorem u_77_0 {d : Nat} {S : zS} {σ τ : zI} {Q : zQ} {x1 : Int} {x2 : Int} (t : (rg x1) ∧ (rg x2) ∧ ∀ (v3 : Int), v3 = (if (0 ≤ x1 ∧ x1 ≤ 7) ∧ (0 ≤ x2 ∧ x2 ≤ 23) then x1 * 24 + x2 else -1) → (rg v3) ∧ if v3 < 0 then (Q (some (.int (wI (-1)))) S σ τ) else (if v3 < 192 then ((0 ≤ v3 ∧ v3 < 192) ∧ Q (some (.int (wI (σ 80 v3)))) S σ τ) else (Q (some (.int (wI (-1)))) S σ τ))) : wi (d + 1) 77 0 [.ref 79, .int (wI x1), .int (wI x2), .retAddr 0] [] S σ τ Q := by
  obtain ⟨r1, t⟩ := t
  obtain ⟨r2, t⟩ := t
  refine i3 c_77_0 rfl (i3 c_77_1 rfl ?_)
  refine i81 (As := [.int (wI x1), .int (wI x2)]) (rest := []) c_77_2 mi_74 rfl rfl (Nat.le_of_ble_eq_true rfl) (Nat.le_of_ble_eq_true rfl) (q_74 r1 r2 (fun v3 q4 => ?_))
  have t := t v3 q4
  show wi (d + 1) 77 5 [.ref 79, .int (wI x1), .int (wI x2), .retAddr 0] [.int (wI v3)] S σ τ Q
  obtain ⟨r5, t⟩ := t
  refine i6 (L' := [.ref 79, .int (wI x1), .int (wI x2), .int (wI v3)]) c_77_5 rfl (i3 c_77_6 rfl ?_)
  refine i36 c_77_7 r5 rfl (fun hc => ?_) (fun hc => ?_)
  · have t := iT t hc
    have ha6 : v3 < 0 := hc
    refine i1 c_77_19 (i38 c_77_20 rfl ?_)
    exact i90 c_77_29 t
  · have t := iF t hc
    have ha6 : ¬ (v3 < 0) := hc
    refine i3 c_77_10 rfl (i5 c_77_11 rfl (i45 c_77_12 (lo (c := 79) (kd := 106) (n := 0) rfl (by decide)) (lro (c := 79) (k := 0) (j := 80) (by decide)) (i58 (v := 192) c_77_15 (lo (c := 80) (kd := 0) (n := 192) rfl (by decide)) rfl ?_)))
    refine i37 c_77_16 r5 (by decide) rfl (fun hc => ?_) (fun hc => ?_)
    · have t := iT t hc
      have ha7 : v3 < 192 := hc
      obtain ⟨r8, t⟩ := t
      refine i5 c_77_23 rfl (i45 c_77_24 (lo (c := 79) (kd := 106) (n := 0) rfl (by decide)) (lro (c := 79) (k := 0) (j := 80) (by decide)) (i3 c_77_27 rfl (wi_ok (fun K9 => ?_))))
      refine i50 (v := σ 80 v3) c_77_28 (lo (c := 80) (kd := 0) (n := 192) rfl (by decide)) (by decide) r8 rfl ?_
      exact i90 c_77_29 t
    · have t := iF t hc
      have ha7 : ¬ (v3 < 192) := hc
      refine i1 c_77_19 (i38 c_77_20 rfl ?_)
      exact i90 c_77_29 t
theorem q_77 {d : Nat} {S : zS} {σ τ : zI} {Q : zQ} {mill : Int} {home : Int} (p0 : rg mill) (p1 : rg home) (t : Q (some (.int (wI (if (0 ≤ mill ∧ mill ≤ 7) ∧ (0 ≤ home ∧ home ≤ 23) then σ 80 (mill * 24 + home) else -1)))) S σ τ) : wc (d + 1) 77 [.ref 79, .int (wI mill), .int (wI home)] S σ τ Q := by
  refine wc_of mi_77 rfl (u_77_0 ⟨p0, p1, fun v hv => ?_⟩)
  by_cases c : (0 ≤ mill ∧ mill ≤ 7) ∧ (0 ≤ home ∧ home ≤ 23)
  · rw [if_pos c] at hv t
    refine ⟨by omega, ?_⟩
    rw [if_neg (by omega), if_pos (by omega), hv]
    exact ⟨by omega, t⟩
  · rw [if_neg c] at hv t
    refine ⟨by omega, ?_⟩
    rw [if_pos (by omega)]
    exact t
-- method 78: MillTown$Sheet.change(III)Z
theorem c_78_0 : pg_cd 78 0 = (3, 1, 0, 1, 0) := by decide +kernel
theorem c_78_1 : pg_cd 78 1 = (3, 1, 0, 2, 0) := by decide +kernel
theorem c_78_2 : pg_cd 78 2 = (81, 74, 28, 0, 0) := by decide +kernel
theorem c_78_5 : pg_cd 78 5 = (6, 2, 0, 4, 0) := by decide +kernel
theorem c_78_7 : pg_cd 78 7 = (3, 2, 0, 4, 0) := by decide +kernel
theorem c_78_9 : pg_cd 78 9 = (36, 3, 0, 2, 13) := by decide +kernel
theorem c_78_12 : pg_cd 78 12 = (3, 2, 0, 4, 0) := by decide +kernel
theorem c_78_14 : pg_cd 78 14 = (5, 1, 0, 0, 0) := by decide +kernel
theorem c_78_15 : pg_cd 78 15 = (45, 6, 9, 0, 0) := by decide +kernel
theorem c_78_18 : pg_cd 78 18 = (58, 0, 0, 0, 0) := by decide +kernel
theorem c_78_19 : pg_cd 78 19 = (37, 3, 0, 2, 5) := by decide +kernel
theorem c_78_22 : pg_cd 78 22 = (1, 1, 0, 0, 0) := by decide +kernel
theorem c_78_23 : pg_cd 78 23 = (91, 0, 0, 0, 0) := by decide +kernel
theorem c_78_24 : pg_cd 78 24 = (5, 1, 0, 0, 0) := by decide +kernel
theorem c_78_25 : pg_cd 78 25 = (45, 6, 9, 0, 0) := by decide +kernel
theorem c_78_28 : pg_cd 78 28 = (3, 2, 0, 4, 0) := by decide +kernel
theorem c_78_30 : pg_cd 78 30 = (34, 1, 0, 0, 0) := by decide +kernel
theorem c_78_31 : pg_cd 78 31 = (50, 1, 0, 0, 0) := by decide +kernel
theorem c_78_32 : pg_cd 78 32 = (3, 1, 0, 3, 0) := by decide +kernel
theorem c_78_33 : pg_cd 78 33 = (15, 1, 0, 0, 0) := by decide +kernel
theorem c_78_34 : pg_cd 78 34 = (54, 1, 0, 0, 0) := by decide +kernel
theorem c_78_35 : pg_cd 78 35 = (1, 1, 0, 0, 1) := by decide +kernel
theorem c_78_36 : pg_cd 78 36 = (91, 0, 0, 0, 0) := by decide +kernel
theorem mi_78 : pg_mc 78 = 6 ∧ pg_na 78 = 3 ∧ pg_mx 78 = 5 := by decide +kernel
set_option maxRecDepth 20000 in
theorem u_78_0 {d : Nat} {S : zS} {σ τ : zI} {Q : zQ} {x1 : Int} {x2 : Int} {x3 : Int} (t : (rg x1) ∧ (rg x2) ∧ ∀ (v3 : Int), v3 = (if (0 ≤ x1 ∧ x1 ≤ 7) ∧ (0 ≤ x2 ∧ x2 ≤ 23) then x1 * 24 + x2 else -1) → (rg v3) ∧ if v3 < 0 then (Q (some (.int (wI 0))) S σ τ) else (if v3 < 192 then ((0 ≤ v3 ∧ v3 < 192) ∧ Q (some (.int (wI 1))) S (uc σ 80 (u1 (σ 80) v3 (zxor (σ 80 v3) x3))) τ) else (Q (some (.int (wI 0))) S σ τ))) : wi (d + 1) 78 0 [.ref 79, .int (wI x1), .int (wI x2), .int (wI x3), .retAddr 0] [] S σ τ Q := by
  obtain ⟨r1, t⟩ := t
  obtain ⟨r2, t⟩ := t
  refine i3 c_78_0 rfl (i3 c_78_1 rfl ?_)
  refine i81 (As := [.int (wI x1), .int (wI x2)]) (rest := []) c_78_2 mi_74 rfl rfl (Nat.le_of_ble_eq_true rfl) (Nat.le_of_ble_eq_true rfl) (q_74 r1 r2 (fun v3 q4 => ?_))
  have t := t v3 q4
  show wi (d + 1) 78 5 [.ref 79, .int (wI x1), .int (wI x2), .int (wI x3), .retAddr 0] [.int (wI v3)] S σ τ Q
  obtain ⟨r5, t⟩ := t
  refine i6 (L' := [.ref 79, .int (wI x1), .int (wI x2), .int (wI x3), .int (wI v3)]) c_78_5 rfl (i3 c_78_7 rfl ?_)
  refine i36 c_78_9 r5 rfl (fun hc => ?_) (fun hc => ?_)
  · have t := iT t hc
    have ha6 : v3 < 0 := hc
    refine i1 c_78_22 ?_
    exact i91 c_78_23 (by decide) t
  · have t := iF t hc
    have ha6 : ¬ (v3 < 0) := hc
    refine i3 c_78_12 rfl (i5 c_78_14 rfl (i45 c_78_15 (lo (c := 79) (kd := 106) (n := 0) rfl (by decide)) (lro (c := 79) (k := 0) (j := 80) (by decide)) (i58 (v := 192) c_78_18 (lo (c := 80) (kd := 0) (n := 192) rfl (by decide)) rfl ?_)))
    refine i37 c_78_19 r5 (by decide) rfl (fun hc => ?_) (fun hc => ?_)
    · have t := iT t hc
      have ha7 : v3 < 192 := hc
      obtain ⟨r8, t⟩ := t
      refine i5 c_78_24 rfl (i45 c_78_25 (lo (c := 79) (kd := 106) (n := 0) rfl (by decide)) (lro (c := 79) (k := 0) (j := 80) (by decide)) (i3 c_78_28 rfl (i34a c_78_30 (wi_ok (fun K9 => ?_)))))
      refine i50 (v := σ 80 v3) c_78_31 (lo (c := 80) (kd := 0) (n := 192) rfl (by decide)) (by decide) r8 rfl (i3 c_78_32 rfl (i15 c_78_33 (i54 (σ1 := uc σ 80 (u1 (σ 80) v3 (zxor (σ 80 v3) x3))) c_78_34 (lo (c := 80) (kd := 0) (n := 192) rfl (by decide)) (by decide) r8 (by decide) rfl (rg_toInt _) (wr_ rfl rfl) (i1 c_78_35 ?_))))
      exact i91 c_78_36 (by decide) t
    · have t := iF t hc
      have ha7 : ¬ (v3 < 192) := hc
      refine i1 c_78_22 ?_
      exact i91 c_78_23 (by decide) t
theorem q_78 {d : Nat} {S : zS} {σ τ : zI} {Q : zQ} {mill : Int} {home : Int} {mask : Int} (p0 : rg mill) (p1 : rg home) (t : Q (some (.int (wI (if (0 ≤ mill ∧ mill ≤ 7) ∧ (0 ≤ home ∧ home ≤ 23) then 1 else 0)))) S (uc σ 80 (if (0 ≤ mill ∧ mill ≤ 7) ∧ (0 ≤ home ∧ home ≤ 23) then u1 (σ 80) (mill * 24 + home) (zxor (σ 80 (mill * 24 + home)) mask) else σ 80)) τ) : wc (d + 1) 78 [.ref 79, .int (wI mill), .int (wI home), .int (wI mask)] S σ τ Q := by
  refine wc_of mi_78 rfl (u_78_0 ⟨p0, p1, fun v hv => ?_⟩)
  by_cases c : (0 ≤ mill ∧ mill ≤ 7) ∧ (0 ≤ home ∧ home ≤ 23)
  · rw [if_pos c] at hv
    rw [if_pos c, if_pos c] at t
    refine ⟨by omega, ?_⟩
    rw [if_neg (by omega), if_pos (by omega), hv]
    exact ⟨by omega, t⟩
  · rw [if_neg c] at hv
    rw [if_neg c, if_neg c, uc_id] at t
    refine ⟨by omega, ?_⟩
    rw [if_pos (by omega)]
    exact t
-- method 79: MillTown$Sheet.compare(LMillTown$Books;LMillTown$Town;I)I
theorem c_79_0 : pg_cd 79 0 = (5, 1, 0, 1, 0) := by decide +kernel
theorem c_79_1 : pg_cd 79 1 = (5, 1, 0, 2, 0) := by decide +kernel
theorem c_79_2 : pg_cd 79 2 = (5, 1, 0, 0, 0) := by decide +kernel
theorem c_79_3 : pg_cd 79 3 = (43, 6, 18, 2, 0) := by decide +kernel
theorem c_79_6 : pg_cd 79 6 = (5, 1, 0, 0, 0) := by decide +kernel
theorem c_79_7 : pg_cd 79 7 = (45, 6, 15, 1, 0) := by decide +kernel
theorem c_79_10 : pg_cd 79 10 = (80, 7, 22, 0, 0) := by decide +kernel
theorem c_79_13 : pg_cd 79 13 = (1, 1, 0, 0, 0) := by decide +kernel
theorem c_79_14 : pg_cd 79 14 = (6, 2, 0, 4, 0) := by decide +kernel
theorem c_79_16 : pg_cd 79 16 = (1, 1, 0, 0, (-1)) := by decide +kernel
theorem c_79_17 : pg_cd 79 17 = (6, 2, 0, 5, 0) := by decide +kernel
theorem c_79_19 : pg_cd 79 19 = (1, 1, 0, 0, 0) := by decide +kernel
theorem c_79_20 : pg_cd 79 20 = (6, 2, 0, 6, 0) := by decide +kernel
theorem c_79_22 : pg_cd 79 22 = (3, 2, 0, 6, 0) := by decide +kernel
theorem c_79_24 : pg_cd 79 24 = (5, 1, 0, 0, 0) := by decide +kernel
theorem c_79_25 : pg_cd 79 25 = (45, 6, 9, 0, 0) := by decide +kernel
theorem c_79_28 : pg_cd 79 28 = (58, 0, 0, 0, 0) := by decide +kernel
theorem c_79_29 : pg_cd 79 29 = (37, 3, 0, 3, 43) := by decide +kernel
theorem c_79_32 : pg_cd 79 32 = (3, 2, 0, 6, 0) := by decide +kernel
theorem c_79_34 : pg_cd 79 34 = (5, 1, 0, 0, 0) := by decide +kernel
theorem c_79_35 : pg_cd 79 35 = (45, 6, 15, 1, 0) := by decide +kernel
theorem c_79_38 : pg_cd 79 38 = (58, 0, 0, 0, 0) := by decide +kernel
theorem c_79_39 : pg_cd 79 39 = (37, 3, 0, 3, 33) := by decide +kernel
theorem c_79_42 : pg_cd 79 42 = (5, 1, 0, 0, 0) := by decide +kernel
theorem c_79_43 : pg_cd 79 43 = (45, 6, 9, 0, 0) := by decide +kernel
theorem c_79_46 : pg_cd 79 46 = (3, 2, 0, 6, 0) := by decide +kernel
theorem c_79_48 : pg_cd 79 48 = (50, 1, 0, 0, 0) := by decide +kernel
theorem c_79_49 : pg_cd 79 49 = (5, 1, 0, 0, 0) := by decide +kernel
theorem c_79_50 : pg_cd 79 50 = (45, 6, 15, 1, 0) := by decide +kernel
theorem c_79_53 : pg_cd 79 53 = (3, 2, 0, 6, 0) := by decide +kernel
theorem c_79_55 : pg_cd 79 55 = (50, 1, 0, 0, 0) := by decide +kernel
theorem c_79_56 : pg_cd 79 56 = (37, 3, 0, 0, 10) := by decide +kernel
theorem c_79_59 : pg_cd 79 59 = (9, 3, 0, 4, 1) := by decide +kernel
theorem c_79_62 : pg_cd 79 62 = (3, 2, 0, 6, 0) := by decide +kernel
theorem c_79_64 : pg_cd 79 64 = (6, 2, 0, 5, 0) := by decide +kernel
theorem c_79_66 : pg_cd 79 66 = (9, 3, 0, 6, 1) := by decide +kernel
theorem c_79_69 : pg_cd 79 69 = (38, 3, 0, 0, (-47)) := by decide +kernel
theorem c_79_72 : pg_cd 79 72 = (3, 1, 0, 3, 0) := by decide +kernel
theorem c_79_73 : pg_cd 79 73 = (36, 3, 0, 1, 10) := by decide +kernel
theorem c_79_76 : pg_cd 79 76 = (3, 2, 0, 4, 0) := by decide +kernel
theorem c_79_78 : pg_cd 79 78 = (1, 1, 0, 0, 2) := by decide +kernel
theorem c_79_79 : pg_cd 79 79 = (74, 0, 32, 0, 0) := by decide +kernel
theorem c_79_82 : pg_cd 79 82 = (90, 0, 0, 0, 0) := by decide +kernel
theorem c_79_83 : pg_cd 79 83 = (3, 2, 0, 4, 0) := by decide +kernel
theorem c_79_85 : pg_cd 79 85 = (1, 1, 0, 0, 1) := by decide +kernel
theorem c_79_86 : pg_cd 79 86 = (37, 3, 0, 0, 5) := by decide +kernel
theorem c_79_89 : pg_cd 79 89 = (1, 1, 0, 0, (-1)) := by decide +kernel
theorem c_79_90 : pg_cd 79 90 = (90, 0, 0, 0, 0) := by decide +kernel
theorem c_79_91 : pg_cd 79 91 = (3, 1, 0, 3, 0) := by decide +kernel
theorem c_79_92 : pg_cd 79 92 = (1, 1, 0, 0, 1) := by decide +kernel
theorem c_79_93 : pg_cd 79 93 = (37, 3, 0, 1, 11) := by decide +kernel
theorem c_79_96 : pg_cd 79 96 = (3, 2, 0, 5, 0) := by decide +kernel
theorem c_79_98 : pg_cd 79 98 = (1, 2, 0, 0, 24) := by decide +kernel
theorem c_79_100 : pg_cd 79 100 = (16, 1, 0, 0, 0) := by decide +kernel
theorem c_79_101 : pg_cd 79 101 = (38, 3, 0, 0, 8) := by decide +kernel
theorem c_79_104 : pg_cd 79 104 = (3, 2, 0, 5, 0) := by decide +kernel
theorem c_79_106 : pg_cd 79 106 = (1, 2, 0, 0, 24) := by decide +kernel
theorem c_79_108 : pg_cd 79 108 = (17, 1, 0, 0, 0) := by decide +kernel
theorem c_79_109 : pg_cd 79 109 = (90, 0, 0, 0, 0) := by decide +kernel
theorem mi_79 : pg_mc 79 = 6 ∧ pg_na 79 = 3 ∧ pg_mx 79 = 7 := by decide +kernel
set_option maxRecDepth 20000 in
theorem u_79_0 {d : Nat} {S : zS} {σ τ : zI} {Q : zQ} {x2 : Nat} {x3 : Int} (hx2 : tw x2) (t : ∃ a2 : Int → Int, (0 ≤ (σ 79 2) ∧ (σ 79 2) < a2 0) ∧ (BX S σ a2) ∧ (RT σ x2 a2) ∧ (Jv a2) ∧ (jv_B a2) ∧ (81 = 80 ∨ 81 = 81) ∧ wi (d + 8) 79 22 [.ref 79, .ref 58, .ref x2, .int (wI x3), .int (wI 0), .int (wI (-1)), .int (wI 0)] [] S (uc σ 81 (fg (r_sh a2 (σ 79 2)) ((σ 81)) 192)) τ Q) : wi (d + 8) 79 0 [.ref 79, .ref 58, .ref x2, .int (wI x3), .retAddr 0, .retAddr 0, .retAddr 0] [] S σ τ Q := by
  refine i5 c_79_0 rfl (i5 c_79_1 rfl (i5 c_79_2 rfl (wi_ok (fun K1 => ?_))))
  obtain ⟨a2, t⟩ := t
  obtain ⟨p3, t⟩ := t
  obtain ⟨p4, t⟩ := t
  obtain ⟨p5, t⟩ := t
  obtain ⟨p6, t⟩ := t
  obtain ⟨p7, t⟩ := t
  obtain ⟨p8, t⟩ := t
  refine i43 (v := σ 79 2) c_79_3 (lo (c := 79) (kd := 106) (n := 0) rfl (by decide)) rfl (i5 c_79_6 rfl (i45 c_79_7 (lo (c := 79) (kd := 106) (n := 0) rfl (by decide)) (lro (c := 79) (k := 1) (j := 81) (by decide)) ?_))
  refine i80 (As := [.ref x2, .int (wI (σ 79 2)), .ref 81]) (rest := []) c_79_10 mi_7 rfl rfl (Nat.le_of_ble_eq_true rfl) (Nat.le_of_ble_eq_true rfl) (lo (c := 58) (kd := 100) (n := 0) rfl (by decide)) (q_7 (a := a2) hx2 ⟨fun _ _ => (lo (c := 81) (kd := 0) (n := 192) rfl (by decide)), (by decide)⟩ p3 p4 p5 p6 p7 p8 ?_)
  show wi (d + 8) 79 13 [.ref 79, .ref 58, .ref x2, .int (wI x3), .retAddr 0, .retAddr 0, .retAddr 0] [] S (uc σ 81 (fg (r_sh a2 (σ 79 2)) ((σ 81)) 192)) τ Q
  refine i1 c_79_13 (i6 (L' := [.ref 79, .ref 58, .ref x2, .int (wI x3), .int (wI 0), .retAddr 0, .retAddr 0]) c_79_14 rfl (i1 c_79_16 (i6 (L' := [.ref 79, .ref 58, .ref x2, .int (wI x3), .int (wI 0), .int (wI (-1)), .retAddr 0]) c_79_17 rfl (i1 c_79_19 (i6 (L' := [.ref 79, .ref 58, .ref x2, .int (wI x3), .int (wI 0), .int (wI (-1)), .int (wI 0)]) c_79_20 rfl t)))))
set_option maxRecDepth 20000 in
theorem u_79_22 {d : Nat} {S : zS} {σ τ : zI} {Q : zQ} {x2 : Nat} {x3 : Int} {x4 : Int} {x5 : Int} {x6 : Int} (hx2 : tw x2) (t : (rg x6) ∧ if (192 : Int) ≤ x6 then ((rg x3) ∧ if x3 = 0 then ((rg x4) ∧ Q (some (.int (wI (min x4 2)))) S σ τ) else ((rg x4) ∧ if x4 = 1 then (if x3 = 1 then ((rg x5) ∧ Q (some (.int (wI (Int.tdiv x5 24)))) S σ τ) else ((rg x5) ∧ Q (some (.int (wI (Int.tmod x5 24)))) S σ τ)) else (Q (some (.int (wI (-1)))) S σ τ))) else ((0 ≤ x6 ∧ x6 < 192) ∧ if (σ 80 x6) = (σ 81 x6) then (wi (d + 8) 79 22 [.ref 79, .ref 58, .ref x2, .int (wI x3), .int (wI x4), .int (wI x5), .int (wI (x6 + 1))] [] S σ τ Q) else (wi (d + 8) 79 22 [.ref 79, .ref 58, .ref x2, .int (wI x3), .int (wI (x4 + 1)), .int (wI x6), .int (wI (x6 + 1))] [] S σ τ Q))) : wi (d + 8) 79 22 [.ref 79, .ref 58, .ref x2, .int (wI x3), .int (wI x4), .int (wI x5), .int (wI x6)] [] S σ τ Q := by
  obtain ⟨r1, t⟩ := t
  refine i3 c_79_22 rfl (i5 c_79_24 rfl (i45 c_79_25 (lo (c := 79) (kd := 106) (n := 0) rfl (by decide)) (lro (c := 79) (k := 0) (j := 80) (by decide)) (i58 (v := 192) c_79_28 (lo (c := 80) (kd := 0) (n := 192) rfl (by decide)) rfl ?_)))
  refine i37 c_79_29 r1 (by decide) rfl (fun hc => ?_) (fun hc => ?_)
  · have t := iT t hc
    have ha2 : (192 : Int) ≤ x6 := hc
    obtain ⟨r3, t⟩ := t
    refine i3 c_79_72 rfl ?_
    refine i36 c_79_73 r3 rfl (fun hc => ?_) (fun hc => ?_)
    · have t := iF t hc
      have ha4 : ¬ (x3 = 0) := hc
      obtain ⟨r5, t⟩ := t
      refine i3 c_79_83 rfl (i1 c_79_85 ?_)
      refine i37 c_79_86 r5 (by decide) rfl (fun hc => ?_) (fun hc => ?_)
      · have t := iT t hc
        have ha6 : x4 = 1 := hc
        refine i3 c_79_91 rfl (i1 c_79_92 ?_)
        refine i37 c_79_93 r3 (by decide) rfl (fun hc => ?_) (fun hc => ?_)
        · have t := iF t hc
          have ha7 : ¬ (x3 = 1) := hc
          obtain ⟨r8, t⟩ := t
          refine i3 c_79_104 rfl (i1 c_79_106 (i17 c_79_108 r8 (by decide) (by decide) ?_))
          exact i90 c_79_109 t
        · have t := iT t (Decidable.not_not.mp hc)
          have ha7 : x3 = 1 := Decidable.not_not.mp hc
          obtain ⟨r9, t⟩ := t
          refine i3 c_79_96 rfl (i1 c_79_98 (i16 c_79_100 r9 (by decide) (by decide) (i38 c_79_101 rfl ?_)))
          exact i90 c_79_109 t
      · have t := iF t hc
        have ha6 : ¬ (x4 = 1) := hc
        refine i1 c_79_89 ?_
        exact i90 c_79_90 t
    · have t := iT t (Decidable.not_not.mp hc)
      have ha4 : x3 = 0 := Decidable.not_not.mp hc
      obtain ⟨r10, t⟩ := t
      refine i3 c_79_76 rfl (i1 c_79_78 (i74 c_79_79 (Nat.le_of_ble_eq_true rfl) (by omega) r10 (by decide) ?_))
      exact i90 c_79_82 t
  · have t := iF t hc
    have ha2 : ¬ ((192 : Int) ≤ x6) := hc
    refine i3 c_79_32 rfl (i5 c_79_34 rfl (i45 c_79_35 (lo (c := 79) (kd := 106) (n := 0) rfl (by decide)) (lro (c := 79) (k := 1) (j := 81) (by decide)) (i58 (v := 192) c_79_38 (lo (c := 81) (kd := 0) (n := 192) rfl (by decide)) rfl ?_)))
    refine i37 c_79_39 r1 (by decide) rfl (fun hc => absurd hc (show ¬ ((192 : Int) ≤ x6) by omega)) (fun _ => ?_)
    obtain ⟨r12, t⟩ := t
    refine i5 c_79_42 rfl (i45 c_79_43 (lo (c := 79) (kd := 106) (n := 0) rfl (by decide)) (lro (c := 79) (k := 0) (j := 80) (by decide)) (i3 c_79_46 rfl (wi_ok (fun K13 => ?_))))
    refine i50 (v := σ 80 x6) c_79_48 (lo (c := 80) (kd := 0) (n := 192) rfl (by decide)) (by decide) r12 rfl (i5 c_79_49 rfl (i45 c_79_50 (lo (c := 79) (kd := 106) (n := 0) rfl (by decide)) (lro (c := 79) (k := 1) (j := 81) (by decide)) (i3 c_79_53 rfl (i50 (v := σ 81 x6) c_79_55 (lo (c := 81) (kd := 0) (n := 192) rfl (by decide)) (by decide) r12 rfl ?_))))
    refine i37 c_79_56 (rge_ K13 rfl) (rge_ K13 rfl) rfl (fun hc => ?_) (fun hc => ?_)
    · have t := iT t hc
      have ha14 : (σ 80 x6) = (σ 81 x6) := hc
      refine i9 (L' := [.ref 79, .ref 58, .ref x2, .int (wI x3), .int (wI x4), .int (wI x5), .int (wI (x6 + 1))]) c_79_66 rfl rfl (i38 c_79_69 rfl t)
    · have t := iF t hc
      have ha14 : ¬ ((σ 80 x6) = (σ 81 x6)) := hc
      refine i9 (L' := [.ref 79, .ref 58, .ref x2, .int (wI x3), .int (wI (x4 + 1)), .int (wI x5), .int (wI x6)]) c_79_59 rfl rfl (i3 c_79_62 rfl (i6 (L' := [.ref 79, .ref 58, .ref x2, .int (wI x3), .int (wI (x4 + 1)), .int (wI x6), .int (wI x6)]) c_79_64 rfl (i9 (L' := [.ref 79, .ref 58, .ref x2, .int (wI x3), .int (wI (x4 + 1)), .int (wI x6), .int (wI (x6 + 1))]) c_79_66 rfl rfl (i38 c_79_69 rfl t))))
theorem q_79 {d : Nat} {S : zS} {σ τ : zI} {Q : zQ} {tn : Nat} {what : Int} {a : Int → Int} (htn : tw tn) (p0 : 0 ≤ σ 79 2 ∧ σ 79 2 < a 0) (p1 : BX S σ a) (p2 : RT σ tn a) (p3 : Jv a) (p4 : jv_B a) (p5 : rg what) (t : Q (some (.int (wI (v_ck (ckI (σ 80) (r_sh a (σ 79 2)) 192) what)))) S (uc σ 81 (fg (r_sh a (σ 79 2)) (σ 81) 192)) τ) : wc (d + 8) 79 [.ref 79, .ref 58, .ref tn, .int (wI what)] S σ τ Q := by
  have hC := jC p3
  unfold jv_C at hC
  have tb := tw_b htn
  refine wc_of mi_79 rfl (u_79_0 htn ⟨a, p0, p1, p2, p3, p4, Or.inr rfl, ?_⟩)
  have e80 : uc σ 81 (fg (r_sh a (σ 79 2)) (σ 81) 192) 80 = σ 80 := uc_n (by decide)
  have key : ∀ k, 0 ≤ k → k ≤ 192 → ∀ n at_, ckI (σ 80) (r_sh a (σ 79 2)) k = (n, at_) → wi (d + 8) 79 22 [.ref 79, .ref 58, .ref tn, .int (wI what), .int (wI n), .int (wI at_), .int (wI k)] [] S (uc σ 81 (fg (r_sh a (σ 79 2)) (σ 81) 192)) τ Q := by
    refine lp_up (fun k k0 k1 ih => ?_)
    intro n at_ hn
    have cb := ckI_b (σ 80) (r_sh a (σ 79 2)) k0
    rw [hn] at cb
    dsimp only at cb
    refine u_79_22 htn ⟨by omega, ?_⟩
    rw [e80, uc_s]
    refine ifI (fun e4 => ?_) (fun e4 => ?_)
    · have : k = 192 := by omega
      subst this
      rw [hn] at t
      unfold v_ck at t
      dsimp only at t
      refine ⟨p5, ifI (fun e5 => ?_) (fun e5 => ?_)⟩
      · rw [if_pos e5] at t
        refine ⟨by omega, ?_⟩
        rw [show min n 2 = if n ≤ 2 then n else 2 by split <;> omega]
        exact t
      · rw [if_neg e5] at t
        refine ⟨by omega, ifI (fun e6 => ?_) (fun e6 => ?_)⟩
        · rw [if_pos e6] at t
          refine ifI (fun e7 => ?_) (fun e7 => ?_)
          · rw [if_pos e7] at t; exact ⟨by omega, t⟩
          · rw [if_neg e7] at t; exact ⟨by omega, t⟩
        · rw [if_neg e6] at t; exact t
    · have ih := ih (by omega)
      rw [ckI_s k0, hn] at ih
      rw [fg_i ⟨k0, by omega⟩]
      refine ⟨by omega, ifI (fun e5 => ?_) (fun e5 => ?_)⟩
      · rw [if_pos e5] at ih; exact ih _ _ rfl
      · rw [if_neg e5] at ih; exact ih _ _ rfl
  exact key 0 (by omega) (by omega) 0 (-1) rfl
