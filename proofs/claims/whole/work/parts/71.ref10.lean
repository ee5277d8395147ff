/-! ===== the reference: whose a loaf is (segments printed by wip/whole, contracts own work) ===== -/
/-- what holds of the books -/
def jv_B (a : Int → Int) : Prop := (∀ w, 0 ≤ w → w < a 0 → (∀ p, 0 ≤ p → p < 60 → 0 ≤ a (60700 + 60 * w + p) ∧ 0 ≤ a (84700 + 60 * w + p) ∧ a (84700 + 60 * w + p) ≤ 8) ∧ sI (fun p => a (60700 + 60 * w + p)) 60 ≤ 500000000 ∧ (1 ≤ a (111900 + w) ∧ a (111900 + w) ≤ 100000) ∧ (∀ h, 0 ≤ h → h < 24 → (0 ≤ a (51100 + 24 * w + h) ∧ a (51100 + 24 * w + h) ≤ a (41500 + 24 * w + h) ∧ a (41500 + 24 * w + h) ≤ 240) ∧ (0 ≤ a (31900 + 24 * w + h) ∧ a (31900 + 24 * w + h) ≤ 240) ∧ 0 ≤ a (22300 + 24 * w + h) ∧ a (22300 + 24 * w + h) ≤ 500000000) ∧ ∀ m, 0 ≤ m → m < 8 → 0 ≤ a (108700 + 8 * w + m) ∧ a (108700 + 8 * w + m) ≤ 80) ∧ a 15 = sI (fun k => a (41500 + k)) (24 * a 0)
theorem sI_le {f g : Int → Int} {n : Int} (h0 : 0 ≤ n) (h : ∀ p, 0 ≤ p → p < n → f p ≤ g p) : sI f n ≤ sI g n := by
  have key : ∀ m, 0 ≤ m → m ≤ n → sI f m ≤ sI g m := by
    intro m m0
    obtain ⟨k, rfl⟩ := Int.eq_ofNat_of_zero_le m0
    induction k with
    | zero => intro _; exact Int.le_refl _
    | succ k ih =>
      intro hk
      have e : ((k + 1 : Nat) : Int) = (k : Int) + 1 := rfl
      rw [e, sI_s (by omega), sI_s (by omega)]
      have := ih (by omega) (by omega)
      have := h k (by omega) (by omega)
      omega
  exact key n h0 (Int.le_refl _)
theorem sI_mono {f : Int → Int} {n m : Int} (h0 : 0 ≤ n) (h1 : n ≤ m) (h : ∀ p, 0 ≤ p → p < m → 0 ≤ f p) : sI f n ≤ sI f m := by
  have key : ∀ k : Nat, n + k ≤ m → sI f n ≤ sI f (n + k) := by
    intro k
    induction k with
    | zero => intro _; rw [show n + ((0 : Nat) : Int) = n by omega]; exact Int.le_refl _
    | succ k ih =>
      intro hk
      rw [show n + ((k + 1 : Nat) : Int) = (n + k) + 1 by omega, sI_s (by omega)]
      have := ih (by omega)
      have := h (n + k) (by omega) (by omega)
      omega
  have := key (m - n).toNat (by omega)
  rw [show n + ((m - n).toNat : Int) = m by omega] at this
  exact this
theorem sI_p0 {f : Int → Int} {n : Int} (h0 : 0 ≤ n) (h : ∀ p, 0 ≤ p → p < n → 0 ≤ f p) : 0 ≤ sI f n := by
  have := sI_mono (f := f) (n := 0) (Int.le_refl _) h0 h
  rw [sI_0] at this
  exact this
/-- the WAGES of a HOME's PERSON -/
def hw_ (a : Int → Int) (h w p : Int) : Int := if a (3652 + 12 * p + 0) = h then a (60700 + 60 * w + p) else 0
def WH (a : Int → Int) (h w coin v : Int) : Prop := (v = -1 ∧ ∀ p, 0 ≤ p → p < a 4 → a (3652 + 12 * p + 0) = h → sI (hw_ a h w) (p + 1) ≤ coin) ∨ ((0 ≤ v ∧ v < a 4) ∧ a (3652 + 12 * v + 0) = h ∧ coin < sI (hw_ a h w) (v + 1) ∧ ∀ p, 0 ≤ p → p < v → a (3652 + 12 * p + 0) = h → sI (hw_ a h w) (p + 1) ≤ coin)
theorem WH_u {a : Int → Int} {h w coin v v' : Int} (q : WH a h w coin v) (q' : WH a h w coin v') : v = v' := by
  rcases q with q | q <;> rcases q' with q' | q'
  · rw [q.1, q'.1]
  · have := q.2 v' q'.1.1 q'.1.2 q'.2.1
    omega
  · have := q'.2 v q.1.1 q.1.2 q.2.1
    omega
  · rcases Int.lt_trichotomy v v' with c | c | c
    · have := q'.2.2.2 v q.1.1 c q.2.1
      omega
    · exact c
    · have := q.2.2.2 v' q'.1.1 c q'.2.1
      omega
theorem hw_b {a : Int → Int} {h w n : Int} (jc : jv_C a) (j : jv_B a) (w0 : 0 ≤ w ∧ w < a 0) (n0 : 0 ≤ n ∧ n ≤ a 4) : 0 ≤ sI (hw_ a h w) n ∧ sI (hw_ a h w) n ≤ 500000000 := by
  unfold jv_C at jc
  have q := j.1 w w0.1 w0.2
  refine ⟨sI_p0 n0.1 (fun p p0 p1 => ?_), ?_⟩
  · have := q.1 p p0 (by omega)
    unfold hw_
    split <;> omega
  · have h1 : sI (hw_ a h w) n ≤ sI (fun p => a (60700 + 60 * w + p)) n := sI_le n0.1 (fun p p0 p1 => by
      have := q.1 p p0 (by omega)
      unfold hw_
      split <;> omega)
    have h2 : sI (fun p => a (60700 + 60 * w + p)) n ≤ sI (fun p => a (60700 + 60 * w + p)) 60 := sI_mono n0.1 (by omega) (fun p p0 p1 => (q.1 p p0 p1).1)
    have := q.2.1
    omega
-- method 316: MillTownModel.whose(III)I
theorem c_316_0 : pg_cd 316 0 = (1, 1, 0, 0, 0) := by decide +kernel
theorem c_316_1 : pg_cd 316 1 = (6, 2, 0, 4, 0) := by decide +kernel
theorem c_316_3 : pg_cd 316 3 = (1, 1, 0, 0, 0) := by decide +kernel
theorem c_316_4 : pg_cd 316 4 = (6, 2, 0, 5, 0) := by decide +kernel
theorem c_316_6 : pg_cd 316 6 = (3, 2, 0, 5, 0) := by decide +kernel
theorem c_316_8 : pg_cd 316 8 = (5, 1, 0, 0, 0) := by decide +kernel
theorem c_316_9 : pg_cd 316 9 = (45, 12, 8, 0, 0) := by decide +kernel
theorem c_316_12 : pg_cd 316 12 = (1, 1, 0, 0, 4) := by decide +kernel
theorem c_316_13 : pg_cd 316 13 = (50, 1, 0, 0, 0) := by decide +kernel
theorem c_316_14 : pg_cd 316 14 = (37, 3, 0, 3, 53) := by decide +kernel
theorem c_316_17 : pg_cd 316 17 = (5, 1, 0, 0, 0) := by decide +kernel
theorem c_316_18 : pg_cd 316 18 = (3, 2, 0, 5, 0) := by decide +kernel
theorem c_316_20 : pg_cd 316 20 = (1, 1, 0, 0, 0) := by decide +kernel
theorem c_316_21 : pg_cd 316 21 = (80, 199, 102, 0, 0) := by decide +kernel
theorem c_316_24 : pg_cd 316 24 = (3, 1, 0, 1, 0) := by decide +kernel
theorem c_316_25 : pg_cd 316 25 = (37, 3, 0, 0, 6) := by decide +kernel
theorem c_316_28 : pg_cd 316 28 = (38, 3, 0, 0, 33) := by decide +kernel
theorem c_316_31 : pg_cd 316 31 = (3, 2, 0, 4, 0) := by decide +kernel
theorem c_316_33 : pg_cd 316 33 = (5, 1, 0, 0, 0) := by decide +kernel
theorem c_316_34 : pg_cd 316 34 = (45, 12, 8, 0, 0) := by decide +kernel
theorem c_316_37 : pg_cd 316 37 = (1, 3, 399, 0, 60700) := by decide +kernel
theorem c_316_40 : pg_cd 316 40 = (1, 2, 0, 0, 60) := by decide +kernel
theorem c_316_42 : pg_cd 316 42 = (3, 1, 0, 2, 0) := by decide +kernel
theorem c_316_43 : pg_cd 316 43 = (12, 1, 0, 0, 0) := by decide +kernel
theorem c_316_44 : pg_cd 316 44 = (10, 1, 0, 0, 0) := by decide +kernel
theorem c_316_45 : pg_cd 316 45 = (3, 2, 0, 5, 0) := by decide +kernel
theorem c_316_47 : pg_cd 316 47 = (10, 1, 0, 0, 0) := by decide +kernel
theorem c_316_48 : pg_cd 316 48 = (50, 1, 0, 0, 0) := by decide +kernel
theorem c_316_49 : pg_cd 316 49 = (10, 1, 0, 0, 0) := by decide +kernel
theorem c_316_50 : pg_cd 316 50 = (6, 2, 0, 4, 0) := by decide +kernel
theorem c_316_52 : pg_cd 316 52 = (3, 1, 0, 3, 0) := by decide +kernel
theorem c_316_53 : pg_cd 316 53 = (3, 2, 0, 4, 0) := by decide +kernel
theorem c_316_55 : pg_cd 316 55 = (37, 3, 0, 3, 6) := by decide +kernel
theorem c_316_58 : pg_cd 316 58 = (3, 2, 0, 5, 0) := by decide +kernel
theorem c_316_60 : pg_cd 316 60 = (90, 0, 0, 0, 0) := by decide +kernel
theorem c_316_61 : pg_cd 316 61 = (9, 3, 0, 5, 1) := by decide +kernel
theorem c_316_64 : pg_cd 316 64 = (38, 3, 0, 0, (-58)) := by decide +kernel
theorem c_316_67 : pg_cd 316 67 = (1, 1, 0, 0, (-1)) := by decide +kernel
theorem c_316_68 : pg_cd 316 68 = (90, 0, 0, 0, 0) := by decide +kernel
theorem mi_316 : pg_mc 316 = 12 ∧ pg_na 316 = 3 ∧ pg_mx 316 = 6 := by decide +kernel
set_option maxRecDepth 20000 in
theorem u_316_0 {d : Nat} {S : zS} {σ τ : zI} {Q : zQ} {x1 : Int} {x2 : Int} {x3 : Int} (t : wi (d + 1) 316 6 [.ref 83, .int (wI x1), .int (wI x2), .int (wI x3), .int (wI 0), .int (wI 0)] [] S σ τ Q) : wi (d + 1) 316 0 [.ref 83, .int (wI x1), .int (wI x2), .int (wI x3), .retAddr 0, .retAddr 0] [] S σ τ Q := by
  refine i1 c_316_0 (i6 (L' := [.ref 83, .int (wI x1), .int (wI x2), .int (wI x3), .int (wI 0), .retAddr 0]) c_316_1 rfl (i1 c_316_3 (i6 (L' := [.ref 83, .int (wI x1), .int (wI x2), .int (wI x3), .int (wI 0), .int (wI 0)]) c_316_4 rfl t)))
set_option maxRecDepth 20000 in
theorem u_316_6 {d : Nat} {S : zS} {σ τ : zI} {Q : zQ} {x1 : Int} {x2 : Int} {x3 : Int} {x4 : Int} {x5 : Int} (t : (rg x5) ∧ if (σ 84 4) ≤ x5 then (Q (some (.int (wI (-1)))) S σ τ) else ((0 ≤ 3652 + 12 * x5 + 0 ∧ 3652 + 12 * x5 + 0 < 112300) ∧ (rg x1) ∧ if (σ 84 (3652 + 12 * x5 + 0)) = x1 then ((0 ≤ (60700 + (60 * x2)) + x5 ∧ (60700 + (60 * x2)) + x5 < 112300) ∧ (rg x3) ∧ (rg (x4 + (σ 84 ((60700 + (60 * x2)) + x5)))) ∧ if (x4 + (σ 84 ((60700 + (60 * x2)) + x5))) ≤ x3 then (wi (d + 1) 316 6 [.ref 83, .int (wI x1), .int (wI x2), .int (wI x3), .int (wI (x4 + (σ 84 ((60700 + (60 * x2)) + x5)))), .int (wI (x5 + 1))] [] S σ τ Q) else (Q (some (.int (wI x5))) S σ τ)) else (wi (d + 1) 316 6 [.ref 83, .int (wI x1), .int (wI x2), .int (wI x3), .int (wI x4), .int (wI (x5 + 1))] [] S σ τ Q))) : wi (d + 1) 316 6 [.ref 83, .int (wI x1), .int (wI x2), .int (wI x3), .int (wI x4), .int (wI x5)] [] S σ τ Q := by
  refine i3 c_316_6 rfl (i5 c_316_8 rfl (i45 c_316_9 (lo (c := 83) (kd := 112) (n := 0) rfl (by decide)) (lro (c := 83) (k := 0) (j := 84) (by decide)) (i1 c_316_12 (wi_ok (fun K1 => ?_)))))
  obtain ⟨r2, t⟩ := t
  refine i50 (v := σ 84 4) c_316_13 (lo (c := 84) (kd := 0) (n := 112300) rfl (by decide)) (by decide) (by decide) rfl ?_
  refine i37 c_316_14 r2 (rge_ K1 rfl) rfl (fun hc => ?_) (fun hc => ?_)
  · have t := iT t hc
    have ha3 : (σ 84 4) ≤ x5 := hc
    refine i1 c_316_67 ?_
    exact i90 c_316_68 t
  · have t := iF t hc
    have ha3 : ¬ ((σ 84 4) ≤ x5) := hc
    obtain ⟨p4, t⟩ := t
    refine i5 c_316_17 rfl (i3 c_316_18 rfl (i1 c_316_20 ?_))
    refine i80 (As := [.int (wI x5), .int (wI 0)]) (rest := []) c_316_21 mi_199 rfl rfl (Nat.le_of_ble_eq_true rfl) (Nat.le_of_ble_eq_true rfl) (lo (c := 83) (kd := 112) (n := 0) rfl (by decide)) (q_199 p4 ?_)
    show wi (d + 1) 316 24 [.ref 83, .int (wI x1), .int (wI x2), .int (wI x3), .int (wI x4), .int (wI x5)] [.int (wI (σ 84 (3652 + 12 * x5 + 0)))] S σ τ Q
    obtain ⟨r5, t⟩ := t
    refine i3 c_316_24 rfl ?_
    refine i37 c_316_25 (rge_ K1 rfl) r5 rfl (fun hc => ?_) (fun hc => ?_)
    · have t := iT t hc
      have ha6 : (σ 84 (3652 + 12 * x5 + 0)) = x1 := hc
      obtain ⟨r7, t⟩ := t
      obtain ⟨r8, t⟩ := t
      obtain ⟨r9, t⟩ := t
      refine i3 c_316_31 rfl (i5 c_316_33 rfl (i45 c_316_34 (lo (c := 83) (kd := 112) (n := 0) rfl (by decide)) (lro (c := 83) (k := 0) (j := 84) (by decide)) (i1 c_316_37 (i1 c_316_40 (i3 c_316_42 rfl (i12 c_316_43 (i10 c_316_44 (i3 c_316_45 rfl (i10 c_316_47 (i50 (v := σ 84 ((60700 + (60 * x2)) + x5)) c_316_48 (lo (c := 84) (kd := 0) (n := 112300) rfl (by decide)) (by decide) r7 rfl (i10 c_316_49 (i6 (L' := [.ref 83, .int (wI x1), .int (wI x2), .int (wI x3), .int (wI (x4 + (σ 84 ((60700 + (60 * x2)) + x5)))), .int (wI x5)]) c_316_50 rfl (i3 c_316_52 rfl (i3 c_316_53 rfl ?_))))))))))))))
      refine i37 c_316_55 r8 r9 rfl (fun hc => ?_) (fun hc => ?_)
      · have t := iT t hc
        have ha10 : (x4 + (σ 84 ((60700 + (60 * x2)) + x5))) ≤ x3 := hc
        refine i9 (L' := [.ref 83, .int (wI x1), .int (wI x2), .int (wI x3), .int (wI (x4 + (σ 84 ((60700 + (60 * x2)) + x5)))), .int (wI (x5 + 1))]) c_316_61 rfl rfl (i38 c_316_64 rfl t)
      · have t := iF t hc
        have ha10 : ¬ ((x4 + (σ 84 ((60700 + (60 * x2)) + x5))) ≤ x3) := hc
        refine i3 c_316_58 rfl ?_
        exact i90 c_316_60 t
    · have t := iF t hc
      have ha6 : ¬ ((σ 84 (3652 + 12 * x5 + 0)) = x1) := hc
      refine i38 c_316_28 rfl (i9 (L' := [.ref 83, .int (wI x1), .int (wI x2), .int (wI x3), .int (wI x4), .int (wI (x5 + 1))]) c_316_61 rfl rfl (i38 c_316_64 rfl t))
theorem q_316 {d : Nat} {S : zS} {σ τ : zI} {Q : zQ} {h : Int} {w : Int} {coin : Int} (p0 : rg h) (p1 : 0 ≤ w ∧ w < σ 84 0) (p2 : rg coin) (p3 : jv_C (σ 84)) (p4 : jv_B (σ 84)) (t : ∀ (v : Int), WH (σ 84) h w coin v → -1 ≤ v ∧ v < 60 → Q (some (.int (wI v))) S σ τ) : wc (d + 1) 316 [.ref 83, .int (wI h), .int (wI w), .int (wI coin)] S σ τ Q := by
  have hC := p3
  unfold jv_C at hC
  have q := p4.1 w p1.1 p1.2
  refine wc_of mi_316 rfl (u_316_0 ?_)
  have key : ∀ p, 0 ≤ p → p ≤ σ 84 4 → ∀ s, s = sI (hw_ (σ 84) h w) p → (∀ p', 0 ≤ p' → p' < p → σ 84 (3652 + 12 * p' + 0) = h → sI (hw_ (σ 84) h w) (p' + 1) ≤ coin) → wi (d + 1) 316 6 [.ref 83, .int (wI h), .int (wI w), .int (wI coin), .int (wI s), .int (wI p)] [] S σ τ Q := by
    refine lp_up (fun p h0 h1 ih => ?_)
    intro s hs ha
    refine u_316_6 ⟨by omega, ifI (fun e => ?_) (fun e => ?_)⟩
    · have : p = σ 84 4 := by omega
      subst this
      exact t (-1) (Or.inl ⟨rfl, ha⟩) (by omega)
    · have ih := ih (by omega)
      have b1 := hw_b (h := h) (n := p + 1) p3 p4 p1 (by omega)
      rw [sI_s h0, ← hs] at ih b1
      refine ⟨by omega, p0, ifI (fun c => ?_) (fun c => ?_)⟩
      · have e1 : hw_ (σ 84) h w p = σ 84 (60700 + 60 * w + p) := if_pos c
        rw [e1] at ih b1
        refine ⟨by omega, p2, by omega, ifI (fun c2 => ?_) (fun c2 => ?_)⟩
        · refine ih _ rfl (fun p' h2 h3 h4 => ?_)
          by_cases c3 : p' = p
          · subst c3
            rw [sI_s h0, ← hs, e1]; exact c2
          · exact ha p' h2 (by omega) h4
        · refine t p (Or.inr ⟨⟨by omega, by omega⟩, c, ?_, ha⟩) (by omega)
          rw [sI_s h0, ← hs, e1]; omega
      · have e1 : hw_ (σ 84) h w p = 0 := if_neg c
        rw [e1, Int.add_zero] at ih
        refine ih _ rfl (fun p' h2 h3 h4 => ?_)
        by_cases c3 : p' = p
        · subst c3
          exact absurd h4 c
        · exact ha p' h2 (by omega) h4
  exact key 0 (by omega) (by omega) 0 rfl (fun p' h2 h3 _ => by omega)
/-- what a loaf's answer is: k is the place in the books where it was bought -/
def LF (a : Int → Int) (i what v : Int) : Prop := ∃ k, (0 ≤ k ∧ k < 24 * a 0) ∧ sI (fun k => a (41500 + k)) k ≤ i ∧ i < sI (fun k => a (41500 + k)) (k + 1) ∧ ((what = 0 ∧ v = k.tmod 24) ∨ (what = 1 ∧ v = k.tdiv 24) ∨ (2 ≤ what ∧ ∃ p, (if i - sI (fun k => a (41500 + k)) k < a (51100 + k) then WH a (k.tmod 24) (k.tdiv 24) ((i - sI (fun k => a (41500 + k)) k) * a (111900 + k.tdiv 24)) p else p = -1) ∧ v = if what = 2 ∨ p < 0 then p else if what = 3 ∨ a (84700 + 60 * k.tdiv 24 + p) - 1 < 0 then a (84700 + 60 * k.tdiv 24 + p) - 1 else a (108700 + 8 * k.tdiv 24 + (a (84700 + 60 * k.tdiv 24 + p) - 1)) - 1))
theorem bt_b {a : Int → Int} (jc : jv_C a) (j : jv_B a) {k : Int} (h : 0 ≤ k ∧ k < 24 * a 0) : (0 ≤ k.tdiv 24 ∧ k.tdiv 24 < a 0) ∧ (0 ≤ k.tmod 24 ∧ k.tmod 24 ≤ 23) ∧ k = 24 * k.tdiv 24 + k.tmod 24 ∧ (0 ≤ a (51100 + k) ∧ a (51100 + k) ≤ a (41500 + k) ∧ a (41500 + k) ≤ 240) := by
  unfold jv_C at jc
  have e : (0 ≤ k.tdiv 24 ∧ k.tdiv 24 < a 0) ∧ (0 ≤ k.tmod 24 ∧ k.tmod 24 ≤ 23) ∧ k = 24 * k.tdiv 24 + k.tmod 24 := by
    rw [Int.tdiv_eq_ediv_of_nonneg h.1, Int.tmod_eq_emod_of_nonneg h.1]
    omega
  have q := ((j.1 _ e.1.1 e.1.2).2.2.2.1 _ e.2.1.1 (by omega)).1
  have e1 : 51100 + 24 * k.tdiv 24 + k.tmod 24 = 51100 + k := by omega
  have e2 : 41500 + 24 * k.tdiv 24 + k.tmod 24 = 41500 + k := by omega
  rw [e1, e2] at q
  exact ⟨e.1, e.2.1, e.2.2, q⟩
theorem LF_u {a : Int → Int} (jc : jv_C a) (j : jv_B a) {i what v v' : Int} (q : LF a i what v) (q' : LF a i what v') : v = v' := by
  obtain ⟨k, k0, k1, k2, k3⟩ := q
  obtain ⟨l, l0, l1, l2, l3⟩ := q'
  have nn : ∀ p, 0 ≤ p → p < 24 * a 0 → 0 ≤ a (41500 + p) := fun p p0 p1 => by have := bt_b jc j ⟨p0, p1⟩; omega
  have e : k = l := by
    rcases Int.lt_trichotomy k l with c | c | c
    · have := sI_mono (f := fun k => a (41500 + k)) (n := k + 1) (m := l) (by omega) (by omega) (fun p p0 p1 => nn p p0 (by omega))
      omega
    · exact c
    · have := sI_mono (f := fun k => a (41500 + k)) (n := l + 1) (m := k) (by omega) (by omega) (fun p p0 p1 => nn p p0 (by omega))
      omega
  subst e
  rcases k3 with ⟨c, e⟩ | ⟨c, e⟩ | ⟨c, p, e1, e2⟩ <;> rcases l3 with ⟨c', e'⟩ | ⟨c', e'⟩ | ⟨c', p', e1', e2'⟩
  all_goals first | omega | skip
  by_cases h : i - sI (fun k => a (41500 + k)) k < a (51100 + k)
  · rw [if_pos h] at e1 e1'
    have := WH_u e1 e1'
    subst this
    rw [e2, e2']
  · rw [if_neg h] at e1 e1'
    subst e1
    subst e1'
    rw [e2, e2']
-- method 317: MillTownModel.loaf(II)I
theorem c_317_0 : pg_cd 317 0 = (3, 1, 0, 1, 0) := by decide +kernel
theorem c_317_1 : pg_cd 317 1 = (1, 1, 0, 0, 0) := by decide +kernel
theorem c_317_2 : pg_cd 317 2 = (5, 1, 0, 0, 0) := by decide +kernel
theorem c_317_3 : pg_cd 317 3 = (45, 12, 8, 0, 0) := by decide +kernel
theorem c_317_6 : pg_cd 317 6 = (1, 2, 0, 0, 15) := by decide +kernel
theorem c_317_8 : pg_cd 317 8 = (50, 1, 0, 0, 0) := by decide +kernel
theorem c_317_9 : pg_cd 317 9 = (1, 1, 0, 0, 1) := by decide +kernel
theorem c_317_10 : pg_cd 317 10 = (11, 1, 0, 0, 0) := by decide +kernel
theorem c_317_11 : pg_cd 317 11 = (81, 196, 76, 0, 0) := by decide +kernel
theorem c_317_14 : pg_cd 317 14 = (36, 3, 0, 0, 12) := by decide +kernel
theorem c_317_17 : pg_cd 317 17 = (3, 1, 0, 2, 0) := by decide +kernel
theorem c_317_18 : pg_cd 317 18 = (1, 1, 0, 0, 0) := by decide +kernel
theorem c_317_19 : pg_cd 317 19 = (1, 1, 0, 0, 4) := by decide +kernel
theorem c_317_20 : pg_cd 317 20 = (81, 196, 76, 0, 0) := by decide +kernel
theorem c_317_23 : pg_cd 317 23 = (36, 3, 0, 1, 5) := by decide +kernel
theorem c_317_26 : pg_cd 317 26 = (1, 1, 0, 0, (-1)) := by decide +kernel
theorem c_317_27 : pg_cd 317 27 = (90, 0, 0, 0, 0) := by decide +kernel
theorem c_317_28 : pg_cd 317 28 = (3, 1, 0, 1, 0) := by decide +kernel
theorem c_317_29 : pg_cd 317 29 = (6, 1, 0, 3, 0) := by decide +kernel
theorem c_317_30 : pg_cd 317 30 = (1, 1, 0, 0, 0) := by decide +kernel
theorem c_317_31 : pg_cd 317 31 = (6, 2, 0, 4, 0) := by decide +kernel
theorem c_317_33 : pg_cd 317 33 = (3, 1, 0, 3, 0) := by decide +kernel
theorem c_317_34 : pg_cd 317 34 = (5, 1, 0, 0, 0) := by decide +kernel
theorem c_317_35 : pg_cd 317 35 = (45, 12, 8, 0, 0) := by decide +kernel
theorem c_317_38 : pg_cd 317 38 = (1, 3, 382, 0, 41500) := by decide +kernel
theorem c_317_41 : pg_cd 317 41 = (3, 2, 0, 4, 0) := by decide +kernel
theorem c_317_43 : pg_cd 317 43 = (10, 1, 0, 0, 0) := by decide +kernel
theorem c_317_44 : pg_cd 317 44 = (50, 1, 0, 0, 0) := by decide +kernel
theorem c_317_45 : pg_cd 317 45 = (37, 3, 0, 2, 23) := by decide +kernel
theorem c_317_48 : pg_cd 317 48 = (3, 1, 0, 3, 0) := by decide +kernel
theorem c_317_49 : pg_cd 317 49 = (5, 1, 0, 0, 0) := by decide +kernel
theorem c_317_50 : pg_cd 317 50 = (45, 12, 8, 0, 0) := by decide +kernel
theorem c_317_53 : pg_cd 317 53 = (1, 3, 382, 0, 41500) := by decide +kernel
theorem c_317_56 : pg_cd 317 56 = (3, 2, 0, 4, 0) := by decide +kernel
theorem c_317_58 : pg_cd 317 58 = (10, 1, 0, 0, 0) := by decide +kernel
theorem c_317_59 : pg_cd 317 59 = (50, 1, 0, 0, 0) := by decide +kernel
theorem c_317_60 : pg_cd 317 60 = (11, 1, 0, 0, 0) := by decide +kernel
theorem c_317_61 : pg_cd 317 61 = (6, 1, 0, 3, 0) := by decide +kernel
theorem c_317_62 : pg_cd 317 62 = (9, 3, 0, 4, 1) := by decide +kernel
theorem c_317_65 : pg_cd 317 65 = (38, 3, 0, 0, (-32)) := by decide +kernel
theorem c_317_68 : pg_cd 317 68 = (3, 2, 0, 4, 0) := by decide +kernel
theorem c_317_70 : pg_cd 317 70 = (1, 2, 0, 0, 24) := by decide +kernel
theorem c_317_72 : pg_cd 317 72 = (16, 1, 0, 0, 0) := by decide +kernel
theorem c_317_73 : pg_cd 317 73 = (6, 2, 0, 5, 0) := by decide +kernel
theorem c_317_75 : pg_cd 317 75 = (3, 2, 0, 4, 0) := by decide +kernel
theorem c_317_77 : pg_cd 317 77 = (1, 2, 0, 0, 24) := by decide +kernel
theorem c_317_79 : pg_cd 317 79 = (17, 1, 0, 0, 0) := by decide +kernel
theorem c_317_80 : pg_cd 317 80 = (6, 2, 0, 6, 0) := by decide +kernel
theorem c_317_82 : pg_cd 317 82 = (3, 1, 0, 2, 0) := by decide +kernel
theorem c_317_83 : pg_cd 317 83 = (36, 3, 0, 1, 6) := by decide +kernel
theorem c_317_86 : pg_cd 317 86 = (3, 2, 0, 6, 0) := by decide +kernel
theorem c_317_88 : pg_cd 317 88 = (90, 0, 0, 0, 0) := by decide +kernel
theorem c_317_89 : pg_cd 317 89 = (3, 1, 0, 2, 0) := by decide +kernel
theorem c_317_90 : pg_cd 317 90 = (1, 1, 0, 0, 1) := by decide +kernel
theorem c_317_91 : pg_cd 317 91 = (37, 3, 0, 1, 6) := by decide +kernel
theorem c_317_94 : pg_cd 317 94 = (3, 2, 0, 5, 0) := by decide +kernel
theorem c_317_96 : pg_cd 317 96 = (90, 0, 0, 0, 0) := by decide +kernel
theorem c_317_97 : pg_cd 317 97 = (3, 1, 0, 3, 0) := by decide +kernel
theorem c_317_98 : pg_cd 317 98 = (5, 1, 0, 0, 0) := by decide +kernel
theorem c_317_99 : pg_cd 317 99 = (45, 12, 8, 0, 0) := by decide +kernel
theorem c_317_102 : pg_cd 317 102 = (1, 3, 376, 0, 51100) := by decide +kernel
theorem c_317_105 : pg_cd 317 105 = (3, 2, 0, 4, 0) := by decide +kernel
theorem c_317_107 : pg_cd 317 107 = (10, 1, 0, 0, 0) := by decide +kernel
theorem c_317_108 : pg_cd 317 108 = (50, 1, 0, 0, 0) := by decide +kernel
theorem c_317_109 : pg_cd 317 109 = (37, 3, 0, 3, 27) := by decide +kernel
theorem c_317_112 : pg_cd 317 112 = (5, 1, 0, 0, 0) := by decide +kernel
theorem c_317_113 : pg_cd 317 113 = (3, 2, 0, 6, 0) := by decide +kernel
theorem c_317_115 : pg_cd 317 115 = (3, 2, 0, 5, 0) := by decide +kernel
theorem c_317_117 : pg_cd 317 117 = (3, 1, 0, 3, 0) := by decide +kernel
theorem c_317_118 : pg_cd 317 118 = (5, 1, 0, 0, 0) := by decide +kernel
theorem c_317_119 : pg_cd 317 119 = (45, 12, 8, 0, 0) := by decide +kernel
theorem c_317_122 : pg_cd 317 122 = (1, 3, 383, 0, 111900) := by decide +kernel
theorem c_317_125 : pg_cd 317 125 = (3, 2, 0, 5, 0) := by decide +kernel
theorem c_317_127 : pg_cd 317 127 = (10, 1, 0, 0, 0) := by decide +kernel
theorem c_317_128 : pg_cd 317 128 = (50, 1, 0, 0, 0) := by decide +kernel
theorem c_317_129 : pg_cd 317 129 = (12, 1, 0, 0, 0) := by decide +kernel
theorem c_317_130 : pg_cd 317 130 = (80, 316, 445, 0, 0) := by decide +kernel
theorem c_317_133 : pg_cd 317 133 = (38, 3, 0, 0, 4) := by decide +kernel
theorem c_317_136 : pg_cd 317 136 = (1, 1, 0, 0, (-1)) := by decide +kernel
theorem c_317_137 : pg_cd 317 137 = (6, 2, 0, 7, 0) := by decide +kernel
theorem c_317_139 : pg_cd 317 139 = (3, 1, 0, 2, 0) := by decide +kernel
theorem c_317_140 : pg_cd 317 140 = (1, 1, 0, 0, 2) := by decide +kernel
theorem c_317_141 : pg_cd 317 141 = (37, 3, 0, 0, 8) := by decide +kernel
theorem c_317_144 : pg_cd 317 144 = (3, 2, 0, 7, 0) := by decide +kernel
theorem c_317_146 : pg_cd 317 146 = (36, 3, 0, 3, 6) := by decide +kernel
theorem c_317_149 : pg_cd 317 149 = (3, 2, 0, 7, 0) := by decide +kernel
theorem c_317_151 : pg_cd 317 151 = (90, 0, 0, 0, 0) := by decide +kernel
theorem c_317_152 : pg_cd 317 152 = (5, 1, 0, 0, 0) := by decide +kernel
theorem c_317_153 : pg_cd 317 153 = (45, 12, 8, 0, 0) := by decide +kernel
theorem c_317_156 : pg_cd 317 156 = (1, 3, 400, 0, 84700) := by decide +kernel
theorem c_317_159 : pg_cd 317 159 = (1, 2, 0, 0, 60) := by decide +kernel
theorem c_317_161 : pg_cd 317 161 = (3, 2, 0, 5, 0) := by decide +kernel
theorem c_317_163 : pg_cd 317 163 = (12, 1, 0, 0, 0) := by decide +kernel
theorem c_317_164 : pg_cd 317 164 = (10, 1, 0, 0, 0) := by decide +kernel
theorem c_317_165 : pg_cd 317 165 = (3, 2, 0, 7, 0) := by decide +kernel
theorem c_317_167 : pg_cd 317 167 = (10, 1, 0, 0, 0) := by decide +kernel
theorem c_317_168 : pg_cd 317 168 = (50, 1, 0, 0, 0) := by decide +kernel
theorem c_317_169 : pg_cd 317 169 = (1, 1, 0, 0, 1) := by decide +kernel
theorem c_317_170 : pg_cd 317 170 = (11, 1, 0, 0, 0) := by decide +kernel
theorem c_317_171 : pg_cd 317 171 = (6, 2, 0, 8, 0) := by decide +kernel
theorem c_317_173 : pg_cd 317 173 = (3, 1, 0, 2, 0) := by decide +kernel
theorem c_317_174 : pg_cd 317 174 = (1, 1, 0, 0, 3) := by decide +kernel
theorem c_317_175 : pg_cd 317 175 = (37, 3, 0, 0, 8) := by decide +kernel
theorem c_317_178 : pg_cd 317 178 = (3, 2, 0, 8, 0) := by decide +kernel
theorem c_317_180 : pg_cd 317 180 = (36, 3, 0, 3, 8) := by decide +kernel
theorem c_317_183 : pg_cd 317 183 = (3, 2, 0, 8, 0) := by decide +kernel
theorem c_317_185 : pg_cd 317 185 = (38, 3, 0, 0, 22) := by decide +kernel
theorem c_317_188 : pg_cd 317 188 = (5, 1, 0, 0, 0) := by decide +kernel
theorem c_317_189 : pg_cd 317 189 = (45, 12, 8, 0, 0) := by decide +kernel
theorem c_317_192 : pg_cd 317 192 = (1, 3, 401, 0, 108700) := by decide +kernel
theorem c_317_195 : pg_cd 317 195 = (1, 2, 0, 0, 8) := by decide +kernel
theorem c_317_197 : pg_cd 317 197 = (3, 2, 0, 5, 0) := by decide +kernel
theorem c_317_199 : pg_cd 317 199 = (12, 1, 0, 0, 0) := by decide +kernel
theorem c_317_200 : pg_cd 317 200 = (10, 1, 0, 0, 0) := by decide +kernel
theorem c_317_201 : pg_cd 317 201 = (3, 2, 0, 8, 0) := by decide +kernel
theorem c_317_203 : pg_cd 317 203 = (10, 1, 0, 0, 0) := by decide +kernel
theorem c_317_204 : pg_cd 317 204 = (50, 1, 0, 0, 0) := by decide +kernel
theorem c_317_205 : pg_cd 317 205 = (1, 1, 0, 0, 1) := by decide +kernel
theorem c_317_206 : pg_cd 317 206 = (11, 1, 0, 0, 0) := by decide +kernel
theorem c_317_207 : pg_cd 317 207 = (90, 0, 0, 0, 0) := by decide +kernel
theorem mi_317 : pg_mc 317 = 12 ∧ pg_na 317 = 2 ∧ pg_mx 317 = 9 := by decide +kernel
set_option maxRecDepth 20000 in
theorem u_317_0 {d : Nat} {S : zS} {σ τ : zI} {Q : zQ} {x1 : Int} {x2 : Int} (t : (rg x1) ∧ (rg ((σ 84 15) - 1)) ∧ if 0 ≤ x1 ∧ x1 ≤ ((σ 84 15) - 1) then ((rg x2) ∧ if 0 ≤ x2 ∧ x2 ≤ 4 then (wi (d + 2) 317 33 [.ref 83, .int (wI x1), .int (wI x2), .int (wI x1), .int (wI 0), .retAddr 0, .retAddr 0, .retAddr 0, .retAddr 0] [] S σ τ Q) else (Q (some (.int (wI (-1)))) S σ τ)) else (Q (some (.int (wI (-1)))) S σ τ)) : wi (d + 2) 317 0 [.ref 83, .int (wI x1), .int (wI x2), .retAddr 0, .retAddr 0, .retAddr 0, .retAddr 0, .retAddr 0, .retAddr 0] [] S σ τ Q := by
  refine i3 c_317_0 rfl (i1 c_317_1 (i5 c_317_2 rfl (i45 c_317_3 (lo (c := 83) (kd := 112) (n := 0) rfl (by decide)) (lro (c := 83) (k := 0) (j := 84) (by decide)) (i1 c_317_6 (wi_ok (fun K1 => ?_))))))
  obtain ⟨r2, t⟩ := t
  obtain ⟨r3, t⟩ := t
  refine i50 (v := σ 84 15) c_317_8 (lo (c := 84) (kd := 0) (n := 112300) rfl (by decide)) (by decide) (by decide) rfl (i1 c_317_9 (i11 c_317_10 ?_))
  refine i81 (As := [.int (wI x1), .int (wI 0), .int (wI ((σ 84 15) - 1))]) (rest := []) c_317_11 mi_196 rfl rfl (Nat.le_of_ble_eq_true rfl) (Nat.le_of_ble_eq_true rfl) (q_196 r2 (by decide) r3 ?_)
  show wi (d + 2) 317 14 [.ref 83, .int (wI x1), .int (wI x2), .retAddr 0, .retAddr 0, .retAddr 0, .retAddr 0, .retAddr 0, .retAddr 0] [.int (wI (if 0 ≤ x1 ∧ x1 ≤ ((σ 84 15) - 1) then 1 else 0))] S σ τ Q
  refine i36e c_317_14 rfl (fun hc => ?_) (fun hc => ?_)
  · have t := iT t hc
    have ha4 : 0 ≤ x1 ∧ x1 ≤ ((σ 84 15) - 1) := hc
    obtain ⟨r5, t⟩ := t
    refine i3 c_317_17 rfl (i1 c_317_18 (i1 c_317_19 ?_))
    refine i81 (As := [.int (wI x2), .int (wI 0), .int (wI 4)]) (rest := []) c_317_20 mi_196 rfl rfl (Nat.le_of_ble_eq_true rfl) (Nat.le_of_ble_eq_true rfl) (q_196 r5 (by decide) (by decide) ?_)
    show wi (d + 2) 317 23 [.ref 83, .int (wI x1), .int (wI x2), .retAddr 0, .retAddr 0, .retAddr 0, .retAddr 0, .retAddr 0, .retAddr 0] [.int (wI (if 0 ≤ x2 ∧ x2 ≤ 4 then 1 else 0))] S σ τ Q
    refine i36f c_317_23 rfl (fun hc => ?_) (fun hc => ?_)
    · have t := iT t hc
      have ha6 : 0 ≤ x2 ∧ x2 ≤ 4 := hc
      refine i3 c_317_28 rfl (i6 (L' := [.ref 83, .int (wI x1), .int (wI x2), .int (wI x1), .retAddr 0, .retAddr 0, .retAddr 0, .retAddr 0, .retAddr 0]) c_317_29 rfl (i1 c_317_30 (i6 (L' := [.ref 83, .int (wI x1), .int (wI x2), .int (wI x1), .int (wI 0), .retAddr 0, .retAddr 0, .retAddr 0, .retAddr 0]) c_317_31 rfl t)))
    · have t := iF t hc
      have ha6 : ¬ (0 ≤ x2 ∧ x2 ≤ 4) := hc
      refine i1 c_317_26 ?_
      exact i90 c_317_27 t
  · have t := iF t hc
    have ha4 : ¬ (0 ≤ x1 ∧ x1 ≤ ((σ 84 15) - 1)) := hc
    refine i1 c_317_26 ?_
    exact i90 c_317_27 t
set_option maxRecDepth 20000 in
theorem u_317_33 {d : Nat} {S : zS} {σ τ : zI} {Q : zQ} {x1 : Int} {x2 : Int} {x3 : Int} {x4 : Int} {y5 : Value} {y6 : Value} {y7 : Value} {y8 : Value} (t : (0 ≤ 41500 + x4 ∧ 41500 + x4 < 112300) ∧ (rg x3) ∧ if x3 < (σ 84 (41500 + x4)) then ((rg x4) ∧ (rg x2) ∧ if x2 = 0 then (Q (some (.int (wI (Int.tmod x4 24)))) S σ τ) else (if x2 = 1 then (Q (some (.int (wI (Int.tdiv x4 24)))) S σ τ) else ((0 ≤ 51100 + x4 ∧ 51100 + x4 < 112300) ∧ if (σ 84 (51100 + x4)) ≤ x3 then (if x2 = 2 then (Q (some (.int (wI (-1)))) S σ τ) else (Q (some (.int (wI (-1)))) S σ τ)) else ((0 ≤ 111900 + (Int.tdiv x4 24) ∧ 111900 + (Int.tdiv x4 24) < 112300) ∧ (rg (Int.tmod x4 24)) ∧ (0 ≤ (Int.tdiv x4 24) ∧ (Int.tdiv x4 24) < σ 84 0) ∧ (rg (x3 * (σ 84 (111900 + (Int.tdiv x4 24))))) ∧ (jv_C (σ 84)) ∧ (jv_B (σ 84)) ∧ ∀ (v18 : Int), WH (σ 84) (Int.tmod x4 24) (Int.tdiv x4 24) (x3 * (σ 84 (111900 + (Int.tdiv x4 24)))) v18 → -1 ≤ v18 ∧ v18 < 60 → if x2 = 2 then (Q (some (.int (wI v18))) S σ τ) else ((rg v18) ∧ if (0 : Int) ≤ v18 then ((0 ≤ (84700 + (60 * (Int.tdiv x4 24))) + v18 ∧ (84700 + (60 * (Int.tdiv x4 24))) + v18 < 112300) ∧ if x2 = 3 then (Q (some (.int (wI ((σ 84 ((84700 + (60 * (Int.tdiv x4 24))) + v18)) - 1)))) S σ τ) else ((rg ((σ 84 ((84700 + (60 * (Int.tdiv x4 24))) + v18)) - 1)) ∧ if (0 : Int) ≤ ((σ 84 ((84700 + (60 * (Int.tdiv x4 24))) + v18)) - 1) then ((0 ≤ (108700 + (8 * (Int.tdiv x4 24))) + ((σ 84 ((84700 + (60 * (Int.tdiv x4 24))) + v18)) - 1) ∧ (108700 + (8 * (Int.tdiv x4 24))) + ((σ 84 ((84700 + (60 * (Int.tdiv x4 24))) + v18)) - 1) < 112300) ∧ Q (some (.int (wI ((σ 84 ((108700 + (8 * (Int.tdiv x4 24))) + ((σ 84 ((84700 + (60 * (Int.tdiv x4 24))) + v18)) - 1))) - 1)))) S σ τ) else (Q (some (.int (wI ((σ 84 ((84700 + (60 * (Int.tdiv x4 24))) + v18)) - 1)))) S σ τ))) else (Q (some (.int (wI v18))) S σ τ)))))) else (wi (d + 2) 317 33 [.ref 83, .int (wI x1), .int (wI x2), .int (wI (x3 - (σ 84 (41500 + x4)))), .int (wI (x4 + 1)), y5, y6, y7, y8] [] S σ τ Q)) : wi (d + 2) 317 33 [.ref 83, .int (wI x1), .int (wI x2), .int (wI x3), .int (wI x4), y5, y6, y7, y8] [] S σ τ Q := by
  obtain ⟨r1, t⟩ := t
  refine i3 c_317_33 rfl (i5 c_317_34 rfl (i45 c_317_35 (lo (c := 83) (kd := 112) (n := 0) rfl (by decide)) (lro (c := 83) (k := 0) (j := 84) (by decide)) (i1 c_317_38 (i3 c_317_41 rfl (i10 c_317_43 (wi_ok (fun K2 => ?_)))))))
  obtain ⟨r3, t⟩ := t
  refine i50 (v := σ 84 (41500 + x4)) c_317_44 (lo (c := 84) (kd := 0) (n := 112300) rfl (by decide)) (by decide) r1 rfl ?_
  refine i37 c_317_45 r3 (rge_ K2 rfl) rfl (fun hc => ?_) (fun hc => ?_)
  · have t := iT t hc
    have ha4 : x3 < (σ 84 (41500 + x4)) := hc
    obtain ⟨r5, t⟩ := t
    obtain ⟨r6, t⟩ := t
    refine i3 c_317_68 rfl (i1 c_317_70 (i16 c_317_72 r5 (by decide) (by decide) (i6 (L' := [.ref 83, .int (wI x1), .int (wI x2), .int (wI x3), .int (wI x4), .int (wI (Int.tdiv x4 24)), y6, y7, y8]) c_317_73 rfl (i3 c_317_75 rfl (i1 c_317_77 (i17 c_317_79 r5 (by decide) (by decide) (i6 (L' := [.ref 83, .int (wI x1), .int (wI x2), .int (wI x3), .int (wI x4), .int (wI (Int.tdiv x4 24)), .int (wI (Int.tmod x4 24)), y7, y8]) c_317_80 rfl (i3 c_317_82 rfl ?_))))))))
    refine i36 c_317_83 r6 rfl (fun hc => ?_) (fun hc => ?_)
    · have t := iF t hc
      have ha7 : ¬ (x2 = 0) := hc
      refine i3 c_317_89 rfl (i1 c_317_90 ?_)
      refine i37 c_317_91 r6 (by decide) rfl (fun hc => ?_) (fun hc => ?_)
      · have t := iF t hc
        have ha8 : ¬ (x2 = 1) := hc
        obtain ⟨r9, t⟩ := t
        refine i3 c_317_97 rfl (i5 c_317_98 rfl (i45 c_317_99 (lo (c := 83) (kd := 112) (n := 0) rfl (by decide)) (lro (c := 83) (k := 0) (j := 84) (by decide)) (i1 c_317_102 (i3 c_317_105 rfl (i10 c_317_107 (i50 (v := σ 84 (51100 + x4)) c_317_108 (lo (c := 84) (kd := 0) (n := 112300) rfl (by decide)) (by decide) r9 rfl ?_))))))
        refine i37 c_317_109 r3 (rge_ K2 rfl) rfl (fun hc => ?_) (fun hc => ?_)
        · have t := iT t hc
          have ha10 : (σ 84 (51100 + x4)) ≤ x3 := hc
          refine i1 c_317_136 (i6 (L' := [.ref 83, .int (wI x1), .int (wI x2), .int (wI x3), .int (wI x4), .int (wI (Int.tdiv x4 24)), .int (wI (Int.tmod x4 24)), .int (wI (-1)), y8]) c_317_137 rfl (i3 c_317_139 rfl (i1 c_317_140 ?_)))
          refine i37 c_317_141 r6 (by decide) rfl (fun hc => ?_) (fun hc => ?_)
          · have t := iT t hc
            have ha11 : x2 = 2 := hc
            refine i3 c_317_149 rfl ?_
            exact i90 c_317_151 t
          · have t := iF t hc
            have ha11 : ¬ (x2 = 2) := hc
            refine i3 c_317_144 rfl (i36k (pc1 := 149) c_317_146 (by decide) (i3 c_317_149 rfl ?_))
            exact i90 c_317_151 t
        · have t := iF t hc
          have ha10 : ¬ ((σ 84 (51100 + x4)) ≤ x3) := hc
          obtain ⟨r12, t⟩ := t
          obtain ⟨r13, t⟩ := t
          obtain ⟨p14, t⟩ := t
          obtain ⟨r15, t⟩ := t
          obtain ⟨p16, t⟩ := t
          obtain ⟨p17, t⟩ := t
          refine i5 c_317_112 rfl (i3 c_317_113 rfl (i3 c_317_115 rfl (i3 c_317_117 rfl (i5 c_317_118 rfl (i45 c_317_119 (lo (c := 83) (kd := 112) (n := 0) rfl (by decide)) (lro (c := 83) (k := 0) (j := 84) (by decide)) (i1 c_317_122 (i3 c_317_125 rfl (i10 c_317_127 (i50 (v := σ 84 (111900 + (Int.tdiv x4 24))) c_317_128 (lo (c := 84) (kd := 0) (n := 112300) rfl (by decide)) (by decide) r12 rfl (i12 c_317_129 ?_))))))))))
          refine i80 (As := [.int (wI (Int.tmod x4 24)), .int (wI (Int.tdiv x4 24)), .int (wI (x3 * (σ 84 (111900 + (Int.tdiv x4 24)))))]) (rest := []) c_317_130 mi_316 rfl rfl (Nat.le_of_ble_eq_true rfl) (Nat.le_of_ble_eq_true rfl) (lo (c := 83) (kd := 112) (n := 0) rfl (by decide)) (q_316 r13 p14 r15 p16 p17 (fun v18 q19 q20 => ?_))
          have t := t v18 q19 q20
          show wi (d + 2) 317 133 [.ref 83, .int (wI x1), .int (wI x2), .int (wI x3), .int (wI x4), .int (wI (Int.tdiv x4 24)), .int (wI (Int.tmod x4 24)), y7, y8] [.int (wI v18)] S σ τ Q
          refine i38 c_317_133 rfl (i6 (L' := [.ref 83, .int (wI x1), .int (wI x2), .int (wI x3), .int (wI x4), .int (wI (Int.tdiv x4 24)), .int (wI (Int.tmod x4 24)), .int (wI v18), y8]) c_317_137 rfl (i3 c_317_139 rfl (i1 c_317_140 ?_)))
          refine i37 c_317_141 r6 (by decide) rfl (fun hc => ?_) (fun hc => ?_)
          · have t := iT t hc
            have ha21 : x2 = 2 := hc
            refine i3 c_317_149 rfl ?_
            exact i90 c_317_151 t
          · have t := iF t hc
            have ha21 : ¬ (x2 = 2) := hc
            obtain ⟨r22, t⟩ := t
            refine i3 c_317_144 rfl ?_
            refine i36 c_317_146 r22 rfl (fun hc => ?_) (fun hc => ?_)
            · have t := iT t hc
              have ha23 : (0 : Int) ≤ v18 := hc
              obtain ⟨r24, t⟩ := t
              refine i5 c_317_152 rfl (i45 c_317_153 (lo (c := 83) (kd := 112) (n := 0) rfl (by decide)) (lro (c := 83) (k := 0) (j := 84) (by decide)) (i1 c_317_156 (i1 c_317_159 (i3 c_317_161 rfl (i12 c_317_163 (i10 c_317_164 (i3 c_317_165 rfl (i10 c_317_167 (i50 (v := σ 84 ((84700 + (60 * (Int.tdiv x4 24))) + v18)) c_317_168 (lo (c := 84) (kd := 0) (n := 112300) rfl (by decide)) (by decide) r24 rfl (i1 c_317_169 (i11 c_317_170 (i6 (L' := [.ref 83, .int (wI x1), .int (wI x2), .int (wI x3), .int (wI x4), .int (wI (Int.tdiv x4 24)), .int (wI (Int.tmod x4 24)), .int (wI v18), .int (wI ((σ 84 ((84700 + (60 * (Int.tdiv x4 24))) + v18)) - 1))]) c_317_171 rfl (i3 c_317_173 rfl (i1 c_317_174 ?_))))))))))))))
              refine i37 c_317_175 r6 (by decide) rfl (fun hc => ?_) (fun hc => ?_)
              · have t := iT t hc
                have ha25 : x2 = 3 := hc
                refine i3 c_317_183 rfl (i38 c_317_185 rfl ?_)
                exact i90 c_317_207 t
              · have t := iF t hc
                have ha25 : ¬ (x2 = 3) := hc
                obtain ⟨r26, t⟩ := t
                refine i3 c_317_178 rfl ?_
                refine i36 c_317_180 r26 rfl (fun hc => ?_) (fun hc => ?_)
                · have t := iT t hc
                  have ha27 : (0 : Int) ≤ ((σ 84 ((84700 + (60 * (Int.tdiv x4 24))) + v18)) - 1) := hc
                  obtain ⟨r28, t⟩ := t
                  refine i5 c_317_188 rfl (i45 c_317_189 (lo (c := 83) (kd := 112) (n := 0) rfl (by decide)) (lro (c := 83) (k := 0) (j := 84) (by decide)) (i1 c_317_192 (i1 c_317_195 (i3 c_317_197 rfl (i12 c_317_199 (i10 c_317_200 (i3 c_317_201 rfl (i10 c_317_203 (i50 (v := σ 84 ((108700 + (8 * (Int.tdiv x4 24))) + ((σ 84 ((84700 + (60 * (Int.tdiv x4 24))) + v18)) - 1))) c_317_204 (lo (c := 84) (kd := 0) (n := 112300) rfl (by decide)) (by decide) r28 rfl (i1 c_317_205 (i11 c_317_206 ?_)))))))))))
                  exact i90 c_317_207 t
                · have t := iF t hc
                  have ha27 : ¬ ((0 : Int) ≤ ((σ 84 ((84700 + (60 * (Int.tdiv x4 24))) + v18)) - 1)) := hc
                  refine i3 c_317_183 rfl (i38 c_317_185 rfl ?_)
                  exact i90 c_317_207 t
            · have t := iF t hc
              have ha23 : ¬ ((0 : Int) ≤ v18) := hc
              refine i3 c_317_149 rfl ?_
              exact i90 c_317_151 t
      · have t := iT t (Decidable.not_not.mp hc)
        have ha8 : x2 = 1 := Decidable.not_not.mp hc
        refine i3 c_317_94 rfl ?_
        exact i90 c_317_96 t
    · have t := iT t (Decidable.not_not.mp hc)
      have ha7 : x2 = 0 := Decidable.not_not.mp hc
      refine i3 c_317_86 rfl ?_
      exact i90 c_317_88 t
  · have t := iF t hc
    have ha4 : ¬ (x3 < (σ 84 (41500 + x4))) := hc
    refine i3 c_317_48 rfl (i5 c_317_49 rfl (i45 c_317_50 (lo (c := 83) (kd := 112) (n := 0) rfl (by decide)) (lro (c := 83) (k := 0) (j := 84) (by decide)) (i1 c_317_53 (i3 c_317_56 rfl (i10 c_317_58 (i50 (v := σ 84 (41500 + x4)) c_317_59 (lo (c := 84) (kd := 0) (n := 112300) rfl (by decide)) (by decide) r1 rfl (i11 c_317_60 (i6 (L' := [.ref 83, .int (wI x1), .int (wI x2), .int (wI (x3 - (σ 84 (41500 + x4)))), .int (wI x4), y5, y6, y7, y8]) c_317_61 rfl (i9 (L' := [.ref 83, .int (wI x1), .int (wI x2), .int (wI (x3 - (σ 84 (41500 + x4)))), .int (wI (x4 + 1)), y5, y6, y7, y8]) c_317_62 rfl rfl (i38 c_317_65 rfl t))))))))))
theorem q_317 {d : Nat} {S : zS} {σ τ : zI} {Q : zQ} {i : Int} {what : Int} (p0 : rg i) (p1 : rg what) (p2 : jv_C (σ 84)) (p3 : jv_B (σ 84)) (t : ∀ (v : Int), ((0 ≤ i ∧ i < σ 84 15) ∧ (0 ≤ what ∧ what ≤ 4) → LF (σ 84) i what v) → (¬ ((0 ≤ i ∧ i < σ 84 15) ∧ (0 ≤ what ∧ what ≤ 4)) → v = -1) → Q (some (.int (wI v))) S σ τ) : wc (d + 2) 317 [.ref 83, .int (wI i), .int (wI what)] S σ τ Q := by
  have hC := p2
  unfold jv_C at hC
  refine wc_ok fun K => ?_
  have k15 := kO_r K 84 15
  have nn : ∀ p, 0 ≤ p → p < 24 * σ 84 0 → 0 ≤ σ 84 (41500 + p) := fun p p0 p1 => by have := bt_b p2 p3 ⟨p0, p1⟩; omega
  have l15 : 0 ≤ σ 84 15 := by rw [p3.2]; exact sI_p0 (by omega) nn
  refine wc_of mi_317 rfl (u_317_0 ⟨p0, by omega, ?_⟩)
  refine ifI (fun e1 => ⟨p1, ifI (fun e2 => ?_) (fun e2 => ?_)⟩) (fun e1 => ?_)
  · have fin : ∀ v, LF (σ 84) i what v → Q (some (.int (wI v))) S σ τ := fun v h => t v (fun _ => h) (fun h => by omega)
    have key : ∀ n : Nat, ∀ k, 0 ≤ k → k + n = 24 * σ 84 0 → sI (fun k => σ 84 (41500 + k)) k ≤ i → ∀ l, l = i - sI (fun k => σ 84 (41500 + k)) k → ∀ y5 y6 y7 y8, wi (d + 2) 317 33 [.ref 83, .int (wI i), .int (wI what), .int (wI l), .int (wI k), y5, y6, y7, y8] [] S σ τ Q := by
      intro n
      induction n with
      | zero =>
        intro k k0 k1 k2
        have := p3.2
        rw [show k = 24 * σ 84 0 by omega] at k2
        omega
      | succ n ih =>
        intro k k0 k1 k2 l hl y5 y6 y7 y8
        have b := bt_b p2 p3 (k := k) (by omega)
        have ss := sI_s (f := fun k => σ 84 (41500 + k)) k0
        have s0 : 0 ≤ sI (fun k => σ 84 (41500 + k)) k := sI_p0 k0 (fun p q0 q1 => nn p q0 (by omega))
        refine u_317_33 ⟨by omega, by omega, ifI (fun e3 => ?_) (fun e3 => ?_)⟩
        · have fin : ∀ v, ((what = 0 ∧ v = k.tmod 24) ∨ (what = 1 ∧ v = k.tdiv 24) ∨ (2 ≤ what ∧ ∃ p, (if l < σ 84 (51100 + k) then WH (σ 84) (k.tmod 24) (k.tdiv 24) (l * σ 84 (111900 + k.tdiv 24)) p else p = -1) ∧ v = if what = 2 ∨ p < 0 then p else if what = 3 ∨ σ 84 (84700 + 60 * k.tdiv 24 + p) - 1 < 0 then σ 84 (84700 + 60 * k.tdiv 24 + p) - 1 else σ 84 (108700 + 8 * k.tdiv 24 + (σ 84 (84700 + 60 * k.tdiv 24 + p) - 1)) - 1)) → Q (some (.int (wI v))) S σ τ := fun v h => fin v ⟨k, ⟨by omega, by omega⟩, k2, by omega, by rw [hl] at h; exact h⟩
          have jb := p3.1 _ b.1.1 b.1.2
          refine ⟨by omega, p1, ifI (fun e4 => fin _ (Or.inl ⟨e4, rfl⟩)) (fun e4 => ifI (fun e5 => fin _ (Or.inr (Or.inl ⟨e5, rfl⟩))) (fun e5 => ⟨by omega, ifI (fun e6 => ?_) (fun e6 => ?_)⟩))⟩
          · have := fin (-1) (Or.inr (Or.inr ⟨by omega, -1, by rw [if_neg (by omega)], by rw [if_pos (by omega)]⟩))
            exact ifI (fun _ => this) (fun _ => this)
          · have pb := jb.2.2.1
            have l0 : 0 ≤ l ∧ l ≤ 240 := by omega
            have lb : 0 ≤ l * σ 84 (111900 + k.tdiv 24) ∧ l * σ 84 (111900 + k.tdiv 24) ≤ 240 * 100000 := ⟨Int.mul_nonneg l0.1 (by omega), Int.mul_le_mul l0.2 pb.2 (by omega) (by omega)⟩
            refine ⟨by omega, by omega, b.1, by omega, p2, p3, ?_⟩
            intro p hp bp
            have fin : ∀ v, (v = if what = 2 ∨ p < 0 then p else if what = 3 ∨ σ 84 (84700 + 60 * k.tdiv 24 + p) - 1 < 0 then σ 84 (84700 + 60 * k.tdiv 24 + p) - 1 else σ 84 (108700 + 8 * k.tdiv 24 + (σ 84 (84700 + 60 * k.tdiv 24 + p) - 1)) - 1) → Q (some (.int (wI v))) S σ τ := fun v h => fin v (Or.inr (Or.inr ⟨by omega, p, by rw [if_pos (by omega)]; exact hp, h⟩))
            refine ifI (fun e7 => fin _ (by rw [if_pos (by omega)])) (fun e7 => ⟨by omega, ifI (fun e8 => ?_) (fun e8 => fin _ (by rw [if_pos (by omega)]))⟩)
            have ab := jb.1 p e8 bp.2
            refine ⟨by omega, ifI (fun e9 => fin _ (by rw [if_neg (by omega), if_pos (by omega)])) (fun e9 => ⟨by omega, ifI (fun e10 => ?_) (fun e10 => fin _ (by rw [if_neg (by omega), if_pos (by omega)]))⟩)⟩
            exact ⟨by omega, fin _ (by rw [if_neg (by omega), if_neg (by omega)])⟩
        · exact ih (k + 1) (by omega) (by omega) (by omega) _ (by omega) _ _ _ _
    exact key (24 * σ 84 0).toNat 0 (by omega) (by omega) (by rw [sI_0]; omega) i (by rw [sI_0]; omega) _ _ _ _
  · exact t (-1) (fun h => by omega) (fun _ => rfl)
  · exact t (-1) (fun h => by omega) (fun _ => rfl)
