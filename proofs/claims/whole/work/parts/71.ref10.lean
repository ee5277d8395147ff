/-! ===== the reference: whose a loaf is (segments printed by wip/whole, contracts own work) ===== -/
/-- what holds of the books -/
def jv_B (a : Int → Int) : Prop := (∀ w, 0 ≤ w → w < a 0 → (∀ p, 0 ≤ p → p < 60 → 0 ≤ a (60700 + 60 * w + p) ∧ 0 ≤ a (84700 + 60 * w + p) ∧ a (84700 + 60 * w + p) ≤ 8) ∧ sI (fun p => a (60700 + 60 * w + p)) 60 ≤ 500000000 ∧ (1 ≤ a (111900 + w) ∧ a (111900 + w) ≤ 100000) ∧ (∀ h, 0 ≤ h → h < 24 → (0 ≤ a (51100 + 24 * w + h) ∧ a (51100 + 24 * w + h) ≤ a (41500 + 24 * w + h) ∧ a (41500 + 24 * w + h) ≤ 240) ∧ (0 ≤ a (31900 + 24 * w + h) ∧ a (31900 + 24 * w + h) ≤ 240) ∧ 0 ≤ a (22300 + 24 * w + h) ∧ a (22300 + 24 * w + h) ≤ 500000000) ∧ ∀ m, 0 ≤ m → m < 8 → 0 ≤ a (108700 + 8 * w + m) ∧ a (108700 + 8 * w + m) ≤ 80) ∧ a 15 = sI (fun k => a (41500 + k)) (24 * a 0)
theorem sI_le {f g : Int → Int} {n : Int} (h0 : 0 ≤ n) (h : ∀ p, 0 ≤ p → p < n → f p ≤ g p) : sI f n ≤ sI g n := by
  have key : ∀ m, 0 ≤ m → m ≤ n → sI f m ≤ sI g m := by
    intro m m0
    obtain ⟨k, rfl⟩ := Int.eq_ofNat_of_zero_le m0
    induction k with
    | zero => intro _; exact Int.le_refl _
    | succ k ih =>
      intro hk
      have e : ((k + 1 : Nat) : Int) = (k : Int) + 1 := rfl
      rw [e, sI_s (by omega), sI_s (by omega)]
      have := ih (by omega) (by omega)
      have := h k (by omega) (by omega)
      omega
  exact key n h0 (Int.le_refl _)
theorem sI_mono {f : Int → Int} {n m : Int} (h0 : 0 ≤ n) (h1 : n ≤ m) (h : ∀ p, 0 ≤ p → p < m → 0 ≤ f p) : sI f n ≤ sI f m := by
  have key : ∀ k : Nat, n + k ≤ m → sI f n ≤ sI f (n + k) := by
    intro k
    induction k with
    | zero => intro _; rw [show n + ((0 : Nat) : Int) = n by omega]; exact Int.le_refl _
    | succ k ih =>
      intro hk
      rw [show n + ((k + 1 : Nat) : Int) = (n + k) + 1 by omega, sI_s (by omega)]
      have := ih (by omega)
      have := h (n + k) (by omega) (by omega)
      omega
  have := key (m - n).toNat (by omega)
  rw [show n + ((m - n).toNat : Int) = m by omega] at this
  exact this
theorem sI_nn {f : Int → Int} {n : Int} (h0 : 0 ≤ n) (h : ∀ p, 0 ≤ p → p < n → 0 ≤ f p) : 0 ≤ sI f n := by
  have := sI_mono (f := f) (n := 0) (Int.le_refl _) h0 h
  rw [sI_0] at this
  exact this
/-- the WAGES of a HOME's PERSON -/
def hw_ (a : Int → Int) (h w p : Int) : Int := if a (3652 + 12 * p + 0) = h then a (60700 + 60 * w + p) else 0
def WH (a : Int → Int) (h w coin v : Int) : Prop := (v = -1 ∧ ∀ p, 0 ≤ p → p < a 4 → a (3652 + 12 * p + 0) = h → sI (hw_ a h w) (p + 1) ≤ coin) ∨ ((0 ≤ v ∧ v < a 4) ∧ a (3652 + 12 * v + 0) = h ∧ coin < sI (hw_ a h w) (v + 1) ∧ ∀ p, 0 ≤ p → p < v → a (3652 + 12 * p + 0) = h → sI (hw_ a h w) (p + 1) ≤ coin)
theorem WH_u {a : Int → Int} {h w coin v v' : Int} (q : WH a h w coin v) (q' : WH a h w coin v') : v = v' := by
  rcases q with q | q <;> rcases q' with q' | q'
  · rw [q.1, q'.1]
  · have := q.2 v' q'.1.1 q'.1.2 q'.2.1
    omega
  · have := q'.2 v q.1.1 q.1.2 q.2.1
    omega
  · rcases Int.lt_trichotomy v v' with c | c | c
    · have := q'.2.2.2 v q.1.1 c q.2.1
      omega
    · exact c
    · have := q.2.2.2 v' q'.1.1 c q'.2.1
      omega
theorem hw_b {a : Int → Int} {h w n : Int} (jc : jv_C a) (j : jv_B a) (w0 : 0 ≤ w ∧ w < a 0) (n0 : 0 ≤ n ∧ n ≤ a 4) : 0 ≤ sI (hw_ a h w) n ∧ sI (hw_ a h w) n ≤ 500000000 := by
  unfold jv_C at jc
  have q := j.1 w w0.1 w0.2
  refine ⟨sI_nn n0.1 (fun p p0 p1 => ?_), ?_⟩
  · have := q.1 p p0 (by omega)
    unfold hw_
    split <;> omega
  · have h1 : sI (hw_ a h w) n ≤ sI (fun p => a (60700 + 60 * w + p)) n := sI_le n0.1 (fun p p0 p1 => by
      have := q.1 p p0 (by omega)
      unfold hw_
      split <;> omega)
    have h2 : sI (fun p => a (60700 + 60 * w + p)) n ≤ sI (fun p => a (60700 + 60 * w + p)) 60 := sI_mono n0.1 (by omega) (fun p p0 p1 => (q.1 p p0 p1).1)
    have := q.2.1
    omega
-- method 316: MillTownModel.whose(III)I
theorem c_316_0 : pg_cd 316 0 = (1, 1, 0, 0, 0) := by decide +kernel
theorem c_316_1 : pg_cd 316 1 = (6, 2, 0, 4, 0) := by decide +kernel
theorem c_316_3 : pg_cd 316 3 = (1, 1, 0, 0, 0) := by decide +kernel
theorem c_316_4 : pg_cd 316 4 = (6, 2, 0, 5, 0) := by decide +kernel
theorem c_316_6 : pg_cd 316 6 = (3, 2, 0, 5, 0) := by decide +kernel
theorem c_316_8 : pg_cd 316 8 = (5, 1, 0, 0, 0) := by decide +kernel
theorem c_316_9 : pg_cd 316 9 = (45, 12, 8, 0, 0) := by decide +kernel
theorem c_316_12 : pg_cd 316 12 = (1, 1, 0, 0, 4) := by decide +kernel
theorem c_316_13 : pg_cd 316 13 = (50, 1, 0, 0, 0) := by decide +kernel
theorem c_316_14 : pg_cd 316 14 = (37, 3, 0, 3, 53) := by decide +kernel
theorem c_316_17 : pg_cd 316 17 = (5, 1, 0, 0, 0) := by decide +kernel
theorem c_316_18 : pg_cd 316 18 = (3, 2, 0, 5, 0) := by decide +kernel
theorem c_316_20 : pg_cd 316 20 = (1, 1, 0, 0, 0) := by decide +kernel
theorem c_316_21 : pg_cd 316 21 = (80, 199, 102, 0, 0) := by decide +kernel
theorem c_316_24 : pg_cd 316 24 = (3, 1, 0, 1, 0) := by decide +kernel
theorem c_316_25 : pg_cd 316 25 = (37, 3, 0, 0, 6) := by decide +kernel
theorem c_316_28 : pg_cd 316 28 = (38, 3, 0, 0, 33) := by decide +kernel
theorem c_316_31 : pg_cd 316 31 = (3, 2, 0, 4, 0) := by decide +kernel
theorem c_316_33 : pg_cd 316 33 = (5, 1, 0, 0, 0) := by decide +kernel
theorem c_316_34 : pg_cd 316 34 = (45, 12, 8, 0, 0) := by decide +kernel
theorem c_316_37 : pg_cd 316 37 = (1, 3, 399, 0, 60700) := by decide +kernel
theorem c_316_40 : pg_cd 316 40 = (1, 2, 0, 0, 60) := by decide +kernel
theorem c_316_42 : pg_cd 316 42 = (3, 1, 0, 2, 0) := by decide +kernel
theorem c_316_43 : pg_cd 316 43 = (12, 1, 0, 0, 0) := by decide +kernel
theorem c_316_44 : pg_cd 316 44 = (10, 1, 0, 0, 0) := by decide +kernel
theorem c_316_45 : pg_cd 316 45 = (3, 2, 0, 5, 0) := by decide +kernel
theorem c_316_47 : pg_cd 316 47 = (10, 1, 0, 0, 0) := by decide +kernel
theorem c_316_48 : pg_cd 316 48 = (50, 1, 0, 0, 0) := by decide +kernel
theorem c_316_49 : pg_cd 316 49 = (10, 1, 0, 0, 0) := by decide +kernel
theorem c_316_50 : pg_cd 316 50 = (6, 2, 0, 4, 0) := by decide +kernel
theorem c_316_52 : pg_cd 316 52 = (3, 1, 0, 3, 0) := by decide +kernel
theorem c_316_53 : pg_cd 316 53 = (3, 2, 0, 4, 0) := by decide +kernel
theorem c_316_55 : pg_cd 316 55 = (37, 3, 0, 3, 6) := by decide +kernel
theorem c_316_58 : pg_cd 316 58 = (3, 2, 0, 5, 0) := by decide +kernel
theorem c_316_60 : pg_cd 316 60 = (90, 0, 0, 0, 0) := by decide +kernel
theorem c_316_61 : pg_cd 316 61 = (9, 3, 0, 5, 1) := by decide +kernel
theorem c_316_64 : pg_cd 316 64 = (38, 3, 0, 0, (-58)) := by decide +kernel
theorem c_316_67 : pg_cd 316 67 = (1, 1, 0, 0, (-1)) := by decide +kernel
theorem c_316_68 : pg_cd 316 68 = (90, 0, 0, 0, 0) := by decide +kernel
theorem mi_316 : pg_mc 316 = 12 ∧ pg_na 316 = 3 ∧ pg_mx 316 = 6 := by decide +kernel
set_option maxRecDepth 20000 in
theorem u_316_0 {d : Nat} {S : zS} {σ τ : zI} {Q : zQ} {x1 : Int} {x2 : Int} {x3 : Int} (t : wi (d + 1) 316 6 [.ref 83, .int (wI x1), .int (wI x2), .int (wI x3), .int (wI 0), .int (wI 0)] [] S σ τ Q) : wi (d + 1) 316 0 [.ref 83, .int (wI x1), .int (wI x2), .int (wI x3), .retAddr 0, .retAddr 0] [] S σ τ Q := by
  refine i1 c_316_0 (i6 (L' := [.ref 83, .int (wI x1), .int (wI x2), .int (wI x3), .int (wI 0), .retAddr 0]) c_316_1 rfl (i1 c_316_3 (i6 (L' := [.ref 83, .int (wI x1), .int (wI x2), .int (wI x3), .int (wI 0), .int (wI 0)]) c_316_4 rfl t)))
set_option maxRecDepth 20000 in
theorem u_316_6 {d : Nat} {S : zS} {σ τ : zI} {Q : zQ} {x1 : Int} {x2 : Int} {x3 : Int} {x4 : Int} {x5 : Int} (t : (rg x5) ∧ if (σ 84 4) ≤ x5 then (Q (some (.int (wI (-1)))) S σ τ) else ((0 ≤ 3652 + 12 * x5 + 0 ∧ 3652 + 12 * x5 + 0 < 112300) ∧ (rg x1) ∧ if (σ 84 (3652 + 12 * x5 + 0)) = x1 then ((0 ≤ (60700 + (60 * x2)) + x5 ∧ (60700 + (60 * x2)) + x5 < 112300) ∧ (rg x3) ∧ (rg (x4 + (σ 84 ((60700 + (60 * x2)) + x5)))) ∧ if (x4 + (σ 84 ((60700 + (60 * x2)) + x5))) ≤ x3 then (wi (d + 1) 316 6 [.ref 83, .int (wI x1), .int (wI x2), .int (wI x3), .int (wI (x4 + (σ 84 ((60700 + (60 * x2)) + x5)))), .int (wI (x5 + 1))] [] S σ τ Q) else (Q (some (.int (wI x5))) S σ τ)) else (wi (d + 1) 316 6 [.ref 83, .int (wI x1), .int (wI x2), .int (wI x3), .int (wI x4), .int (wI (x5 + 1))] [] S σ τ Q))) : wi (d + 1) 316 6 [.ref 83, .int (wI x1), .int (wI x2), .int (wI x3), .int (wI x4), .int (wI x5)] [] S σ τ Q := by
  refine i3 c_316_6 rfl (i5 c_316_8 rfl (i45 c_316_9 (lo (c := 83) (kd := 112) (n := 0) rfl (by decide)) (lro (c := 83) (k := 0) (j := 84) (by decide)) (i1 c_316_12 (wi_ok (fun K1 => ?_)))))
  obtain ⟨r2, t⟩ := t
  refine i50 (v := σ 84 4) c_316_13 (lo (c := 84) (kd := 0) (n := 112300) rfl (by decide)) (by decide) (by decide) rfl ?_
  refine i37 c_316_14 r2 (rge_ K1 rfl) rfl (fun hc => ?_) (fun hc => ?_)
  · have t := iT t hc
    have ha3 : (σ 84 4) ≤ x5 := hc
    refine i1 c_316_67 ?_
    exact i90 c_316_68 t
  · have t := iF t hc
    have ha3 : ¬ ((σ 84 4) ≤ x5) := hc
    obtain ⟨p4, t⟩ := t
    refine i5 c_316_17 rfl (i3 c_316_18 rfl (i1 c_316_20 ?_))
    refine i80 (As := [.int (wI x5), .int (wI 0)]) (rest := []) c_316_21 mi_199 rfl rfl (Nat.le_of_ble_eq_true rfl) (Nat.le_of_ble_eq_true rfl) (lo (c := 83) (kd := 112) (n := 0) rfl (by decide)) (q_199 p4 ?_)
    show wi (d + 1) 316 24 [.ref 83, .int (wI x1), .int (wI x2), .int (wI x3), .int (wI x4), .int (wI x5)] [.int (wI (σ 84 (3652 + 12 * x5 + 0)))] S σ τ Q
    obtain ⟨r5, t⟩ := t
    refine i3 c_316_24 rfl ?_
    refine i37 c_316_25 (rge_ K1 rfl) r5 rfl (fun hc => ?_) (fun hc => ?_)
    · have t := iT t hc
      have ha6 : (σ 84 (3652 + 12 * x5 + 0)) = x1 := hc
      obtain ⟨r7, t⟩ := t
      obtain ⟨r8, t⟩ := t
      obtain ⟨r9, t⟩ := t
      refine i3 c_316_31 rfl (i5 c_316_33 rfl (i45 c_316_34 (lo (c := 83) (kd := 112) (n := 0) rfl (by decide)) (lro (c := 83) (k := 0) (j := 84) (by decide)) (i1 c_316_37 (i1 c_316_40 (i3 c_316_42 rfl (i12 c_316_43 (i10 c_316_44 (i3 c_316_45 rfl (i10 c_316_47 (i50 (v := σ 84 ((60700 + (60 * x2)) + x5)) c_316_48 (lo (c := 84) (kd := 0) (n := 112300) rfl (by decide)) (by decide) r7 rfl (i10 c_316_49 (i6 (L' := [.ref 83, .int (wI x1), .int (wI x2), .int (wI x3), .int (wI (x4 + (σ 84 ((60700 + (60 * x2)) + x5)))), .int (wI x5)]) c_316_50 rfl (i3 c_316_52 rfl (i3 c_316_53 rfl ?_))))))))))))))
      refine i37 c_316_55 r8 r9 rfl (fun hc => ?_) (fun hc => ?_)
      · have t := iT t hc
        have ha10 : (x4 + (σ 84 ((60700 + (60 * x2)) + x5))) ≤ x3 := hc
        refine i9 (L' := [.ref 83, .int (wI x1), .int (wI x2), .int (wI x3), .int (wI (x4 + (σ 84 ((60700 + (60 * x2)) + x5)))), .int (wI (x5 + 1))]) c_316_61 rfl rfl (i38 c_316_64 rfl t)
      · have t := iF t hc
        have ha10 : ¬ ((x4 + (σ 84 ((60700 + (60 * x2)) + x5))) ≤ x3) := hc
        refine i3 c_316_58 rfl ?_
        exact i90 c_316_60 t
    · have t := iF t hc
      have ha6 : ¬ ((σ 84 (3652 + 12 * x5 + 0)) = x1) := hc
      refine i38 c_316_28 rfl (i9 (L' := [.ref 83, .int (wI x1), .int (wI x2), .int (wI x3), .int (wI x4), .int (wI (x5 + 1))]) c_316_61 rfl rfl (i38 c_316_64 rfl t))
theorem q_316 {d : Nat} {S : zS} {σ τ : zI} {Q : zQ} {h : Int} {w : Int} {coin : Int} (p0 : rg h) (p1 : 0 ≤ w ∧ w < σ 84 0) (p2 : rg coin) (p3 : jv_C (σ 84)) (p4 : jv_B (σ 84)) (t : ∀ (v : Int), WH (σ 84) h w coin v → -1 ≤ v ∧ v < 60 → Q (some (.int (wI v))) S σ τ) : wc (d + 1) 316 [.ref 83, .int (wI h), .int (wI w), .int (wI coin)] S σ τ Q := by
  have hC := p3
  unfold jv_C at hC
  have q := p4.1 w p1.1 p1.2
  refine wc_of mi_316 rfl (u_316_0 ?_)
  have key : ∀ p, 0 ≤ p → p ≤ σ 84 4 → ∀ s, s = sI (hw_ (σ 84) h w) p → (∀ p', 0 ≤ p' → p' < p → σ 84 (3652 + 12 * p' + 0) = h → sI (hw_ (σ 84) h w) (p' + 1) ≤ coin) → wi (d + 1) 316 6 [.ref 83, .int (wI h), .int (wI w), .int (wI coin), .int (wI s), .int (wI p)] [] S σ τ Q := by
    refine lp_up (fun p h0 h1 ih => ?_)
    intro s hs ha
    refine u_316_6 ⟨by omega, ifI (fun e => ?_) (fun e => ?_)⟩
    · have : p = σ 84 4 := by omega
      subst this
      exact t (-1) (Or.inl ⟨rfl, ha⟩) (by omega)
    · have ih := ih (by omega)
      have b1 := hw_b (h := h) (n := p + 1) p3 p4 p1 (by omega)
      rw [sI_s h0, ← hs] at ih b1
      refine ⟨by omega, p0, ifI (fun c => ?_) (fun c => ?_)⟩
      · have e1 : hw_ (σ 84) h w p = σ 84 (60700 + 60 * w + p) := if_pos c
        rw [e1] at ih b1
        refine ⟨by omega, p2, by omega, ifI (fun c2 => ?_) (fun c2 => ?_)⟩
        · refine ih _ rfl (fun p' h2 h3 h4 => ?_)
          by_cases c3 : p' = p
          · subst c3
            rw [sI_s h0, ← hs, e1]; exact c2
          · exact ha p' h2 (by omega) h4
        · refine t p (Or.inr ⟨⟨by omega, by omega⟩, c, ?_, ha⟩) (by omega)
          rw [sI_s h0, ← hs, e1]; omega
      · have e1 : hw_ (σ 84) h w p = 0 := if_neg c
        rw [e1, Int.add_zero] at ih
        refine ih _ rfl (fun p' h2 h3 h4 => ?_)
        by_cases c3 : p' = p
        · subst c3
          exact absurd h4 c
        · exact ha p' h2 (by omega) h4
  exact key 0 (by omega) (by omega) 0 rfl (fun p' h2 h3 _ => by omega)
/-- what a loaf's answer is: k is the place in the books where it was bought -/
def LF (a : Int → Int) (i what v : Int) : Prop := ∃ k, (0 ≤ k ∧ k < 24 * a 0) ∧ sI (fun k => a (41500 + k)) k ≤ i ∧ i < sI (fun k => a (41500 + k)) (k + 1) ∧ ((what = 0 ∧ v = k.tmod 24) ∨ (what = 1 ∧ v = k.tdiv 24) ∨ (2 ≤ what ∧ ∃ p, (if i - sI (fun k => a (41500 + k)) k < a (51100 + k) then WH a (k.tmod 24) (k.tdiv 24) ((i - sI (fun k => a (41500 + k)) k) * a (111900 + k.tdiv 24)) p else p = -1) ∧ v = if what = 2 ∨ p < 0 then p else if what = 3 ∨ a (84700 + 60 * k.tdiv 24 + p) - 1 < 0 then a (84700 + 60 * k.tdiv 24 + p) - 1 else a (108700 + 8 * k.tdiv 24 + (a (84700 + 60 * k.tdiv 24 + p) - 1)) - 1))
theorem bt_b {a : Int → Int} (jc : jv_C a) (j : jv_B a) {k : Int} (h : 0 ≤ k ∧ k < 24 * a 0) : (0 ≤ k.tdiv 24 ∧ k.tdiv 24 < a 0) ∧ (0 ≤ k.tmod 24 ∧ k.tmod 24 ≤ 23) ∧ k = 24 * k.tdiv 24 + k.tmod 24 ∧ (0 ≤ a (51100 + k) ∧ a (51100 + k) ≤ a (41500 + k) ∧ a (41500 + k) ≤ 240) := by
  unfold jv_C at jc
  have e : (0 ≤ k.tdiv 24 ∧ k.tdiv 24 < a 0) ∧ (0 ≤ k.tmod 24 ∧ k.tmod 24 ≤ 23) ∧ k = 24 * k.tdiv 24 + k.tmod 24 := by
    rw [Int.tdiv_eq_ediv_of_nonneg h.1, Int.tmod_eq_emod_of_nonneg h.1]
    omega
  have q := ((j.1 _ e.1.1 e.1.2).2.2.2.1 _ e.2.1.1 (by omega)).1
  have e1 : 51100 + 24 * k.tdiv 24 + k.tmod 24 = 51100 + k := by omega
  have e2 : 41500 + 24 * k.tdiv 24 + k.tmod 24 = 41500 + k := by omega
  rw [e1, e2] at q
  exact ⟨e.1, e.2.1, e.2.2, q⟩
theorem LF_u {a : Int → Int} (jc : jv_C a) (j : jv_B a) {i what v v' : Int} (q : LF a i what v) (q' : LF a i what v') : v = v' := by
  obtain ⟨k, k0, k1, k2, k3⟩ := q
  obtain ⟨l, l0, l1, l2, l3⟩ := q'
  have nn : ∀ p, 0 ≤ p → p < 24 * a 0 → 0 ≤ a (41500 + p) := fun p p0 p1 => by have := bt_b jc j ⟨p0, p1⟩; omega
  have e : k = l := by
    rcases Int.lt_trichotomy k l with c | c | c
    · have := sI_mono (f := fun k => a (41500 + k)) (n := k + 1) (m := l) (by omega) (by omega) (fun p p0 p1 => nn p p0 (by omega))
      omega
    · exact c
    · have := sI_mono (f := fun k => a (41500 + k)) (n := l + 1) (m := k) (by omega) (by omega) (fun p p0 p1 => nn p p0 (by omega))
      omega
  subst e
  rcases k3 with ⟨c, e⟩ | ⟨c, e⟩ | ⟨c, p, e1, e2⟩ <;> rcases l3 with ⟨c', e'⟩ | ⟨c', e'⟩ | ⟨c', p', e1', e2'⟩
  all_goals first | omega | skip
  by_cases h : i - sI (fun k => a (41500 + k)) k < a (51100 + k)
  · rw [if_pos h] at e1 e1'
    have := WH_u e1 e1'
    subst this
    rw [e2, e2']
  · rw [if_neg h] at e1 e1'
    subst e1
    subst e1'
    rw [e2, e2']
