/-! ===== tables: filling, adding, copying (segments printed by wip/whole, contracts own work) ===== -/
def fl_ (f : Int → Int) (lo hi v : Int) : Int → Int := fun k => if lo ≤ k ∧ k < hi then v else f k
theorem fl_s {f : Int → Int} {lo k v : Int} (h : lo ≤ k) : u1 (fl_ f lo k v) k v = fl_ f lo (k + 1) v := by
  funext j
  unfold u1 fl_
  by_cases q : j = k
  · subst q; rw [if_pos rfl, if_pos (by omega)]
  · rw [if_neg q]
    by_cases q2 : lo ≤ j ∧ j < k
    · rw [if_pos q2, if_pos (by omega)]
    · rw [if_neg q2, if_neg (by omega)]
theorem fl_0 (f : Int → Int) (lo v : Int) : fl_ f lo lo v = f := by
  funext j
  unfold fl_
  rw [if_neg (by omega)]
theorem wi_t {d M pc : Nat} {L st : List Value} {S : zS} {σ τ τ1 : zI} {Q : zQ} (h : τ = τ1) (t : wi d M pc L st S σ τ1 Q) : wi d M pc L st S σ τ Q := by subst h; exact t
-- method 327: java/util/Arrays.rangeCheck(III)V
theorem c_327_0 : pg_cd 327 0 = (3, 1, 0, 1, 0) := by decide +kernel
theorem c_327_1 : pg_cd 327 1 = (3, 1, 0, 2, 0) := by decide +kernel
theorem c_327_2 : pg_cd 327 2 = (37, 3, 0, 5, 44) := by decide +kernel
theorem c_327_5 : pg_cd 327 5 = (0, 0, 0, 0, 0) := by decide +kernel
theorem c_327_46 : pg_cd 327 46 = (3, 1, 0, 1, 0) := by decide +kernel
theorem c_327_47 : pg_cd 327 47 = (36, 3, 0, 3, 12) := by decide +kernel
theorem c_327_50 : pg_cd 327 50 = (0, 0, 0, 0, 0) := by decide +kernel
theorem c_327_59 : pg_cd 327 59 = (3, 1, 0, 2, 0) := by decide +kernel
theorem c_327_60 : pg_cd 327 60 = (3, 1, 0, 0, 0) := by decide +kernel
theorem c_327_61 : pg_cd 327 61 = (37, 3, 0, 5, 12) := by decide +kernel
theorem c_327_64 : pg_cd 327 64 = (0, 0, 0, 0, 0) := by decide +kernel
theorem c_327_73 : pg_cd 327 73 = (94, 0, 0, 0, 0) := by decide +kernel
theorem mi_327 : pg_mc 327 = 13 ∧ pg_na 327 = 3 ∧ pg_mx 327 = 3 := by decide +kernel
set_option maxRecDepth 20000 in
theorem u_327_0 {d : Nat} {S : zS} {σ τ : zI} {Q : zQ} {x0 : Int} {x1 : Int} {x2 : Int} (t : (rg x1) ∧ (rg x2) ∧ if x1 ≤ x2 then (if (0 : Int) ≤ x1 then ((rg x0) ∧ if x2 ≤ x0 then (Q none S σ τ) else (False)) else (False)) else (False)) : wi (d + 0) 327 0 [.int (wI x0), .int (wI x1), .int (wI x2)] [] S σ τ Q := by
  obtain ⟨r1, t⟩ := t
  obtain ⟨r2, t⟩ := t
  refine i3 c_327_0 rfl (i3 c_327_1 rfl ?_)
  refine i37 c_327_2 r1 r2 rfl (fun hc => ?_) (fun hc => ?_)
  · have t := iT t hc
    have ha3 : x1 ≤ x2 := hc
    refine i3 c_327_46 rfl ?_
    refine i36 c_327_47 r1 rfl (fun hc => ?_) (fun hc => ?_)
    · have t := iT t hc
      have ha4 : (0 : Int) ≤ x1 := hc
      obtain ⟨r5, t⟩ := t
      refine i3 c_327_59 rfl (i3 c_327_60 rfl ?_)
      refine i37 c_327_61 r2 r5 rfl (fun hc => ?_) (fun hc => ?_)
      · have t := iT t hc
        have ha6 : x2 ≤ x0 := hc
        exact i94 c_327_73 t
      · have t := iF t hc
        have ha6 : ¬ (x2 ≤ x0) := hc
        exact t.elim
    · have t := iF t hc
      have ha4 : ¬ ((0 : Int) ≤ x1) := hc
      exact t.elim
  · have t := iF t hc
    have ha3 : ¬ (x1 ≤ x2) := hc
    exact t.elim
theorem q_327 {d : Nat} {S : zS} {σ τ : zI} {Q : zQ} {len : Int} {lo : Int} {hi : Int} (p0 : rg len) (p1 : rg lo) (p2 : rg hi) (p3 : 0 ≤ lo ∧ lo ≤ hi ∧ hi ≤ len) (t : Q none S σ τ) : wc (d + 0) 327 [.int (wI len), .int (wI lo), .int (wI hi)] S σ τ Q := by
  refine wc_of mi_327 rfl (u_327_0 ⟨p1, p2, ?_⟩)
  rw [if_pos (by omega), if_pos (by omega)]
  refine ⟨p0, ?_⟩
  rw [if_pos (by omega)]
  exact t
-- method 330: java/util/Arrays.fill([IIII)V
theorem c_330_0 : pg_cd 330 0 = (5, 1, 0, 0, 0) := by decide +kernel
theorem c_330_1 : pg_cd 330 1 = (58, 0, 0, 0, 0) := by decide +kernel
theorem c_330_2 : pg_cd 330 2 = (3, 1, 0, 1, 0) := by decide +kernel
theorem c_330_3 : pg_cd 330 3 = (3, 1, 0, 2, 0) := by decide +kernel
theorem c_330_4 : pg_cd 330 4 = (81, 327, 13, 0, 0) := by decide +kernel
theorem c_330_7 : pg_cd 330 7 = (3, 1, 0, 1, 0) := by decide +kernel
theorem c_330_8 : pg_cd 330 8 = (6, 2, 0, 4, 0) := by decide +kernel
theorem c_330_10 : pg_cd 330 10 = (3, 2, 0, 4, 0) := by decide +kernel
theorem c_330_12 : pg_cd 330 12 = (3, 1, 0, 2, 0) := by decide +kernel
theorem c_330_13 : pg_cd 330 13 = (37, 3, 0, 3, 14) := by decide +kernel
theorem c_330_16 : pg_cd 330 16 = (5, 1, 0, 0, 0) := by decide +kernel
theorem c_330_17 : pg_cd 330 17 = (3, 2, 0, 4, 0) := by decide +kernel
theorem c_330_19 : pg_cd 330 19 = (3, 1, 0, 3, 0) := by decide +kernel
theorem c_330_20 : pg_cd 330 20 = (54, 1, 0, 0, 0) := by decide +kernel
theorem c_330_21 : pg_cd 330 21 = (9, 3, 0, 4, 1) := by decide +kernel
theorem c_330_24 : pg_cd 330 24 = (38, 3, 0, 0, (-14)) := by decide +kernel
theorem c_330_27 : pg_cd 330 27 = (94, 0, 0, 0, 0) := by decide +kernel
theorem mi_330 : pg_mc 330 = 13 ∧ pg_na 330 = 4 ∧ pg_mx 330 = 5 := by decide +kernel
set_option maxRecDepth 20000 in
theorem u_330_0 {d : Nat} {S : zS} {σ τ : zI} {Q : zQ} {nx0 : Nat} {x0 : Nat} {x1 : Int} {x2 : Int} {x3 : Int} (hx0 : (∀ σ τ, kO S σ τ → oK S x0 0 nx0) ∧ isR x0 = false) (hnx0 : nx0 < 2147483648) (t : (rg x1) ∧ (rg x2) ∧ (0 ≤ x1 ∧ x1 ≤ x2 ∧ x2 ≤ nx0) ∧ wi (d + 1) 330 10 [.ref x0, .int (wI x1), .int (wI x2), .int (wI x3), .int (wI x1)] [] S σ τ Q) : wi (d + 1) 330 0 [.ref x0, .int (wI x1), .int (wI x2), .int (wI x3), .retAddr 0] [] S σ τ Q := by
  obtain ⟨r1, t⟩ := t
  obtain ⟨r2, t⟩ := t
  obtain ⟨p3, t⟩ := t
  refine i5 c_330_0 rfl (i58 (v := nx0) c_330_1 (hx0.1 _ _) rfl (i3 c_330_2 rfl (i3 c_330_3 rfl ?_)))
  refine i81 (As := [.int (wI nx0), .int (wI x1), .int (wI x2)]) (rest := []) c_330_4 mi_327 rfl rfl (Nat.le_of_ble_eq_true rfl) (Nat.le_of_ble_eq_true rfl) (q_327 (by omega) r1 r2 p3 ?_)
  show wi (d + 1) 330 7 [.ref x0, .int (wI x1), .int (wI x2), .int (wI x3), .retAddr 0] [] S σ τ Q
  refine i3 c_330_7 rfl (i6 (L' := [.ref x0, .int (wI x1), .int (wI x2), .int (wI x3), .int (wI x1)]) c_330_8 rfl t)
set_option maxRecDepth 20000 in
theorem u_330_10 {d : Nat} {S : zS} {σ τ : zI} {Q : zQ} {nx0 : Nat} {x0 : Nat} {x1 : Int} {x2 : Int} {x3 : Int} {x4 : Int} (hx0 : (∀ σ τ, kO S σ τ → oK S x0 0 nx0) ∧ isR x0 = false) (hnx0 : nx0 < 2147483648) (t : (rg x4) ∧ (rg x2) ∧ if x2 ≤ x4 then (Q none S σ τ) else ((0 ≤ x4 ∧ x4 < nx0) ∧ ∃ w5 : Int, wI w5 = wI x3 ∧ rg w5 ∧ wi (d + 1) 330 10 [.ref x0, .int (wI x1), .int (wI x2), .int (wI x3), .int (wI (x4 + 1))] [] S (uc σ x0 (u1 (σ x0) x4 w5)) τ Q)) : wi (d + 1) 330 10 [.ref x0, .int (wI x1), .int (wI x2), .int (wI x3), .int (wI x4)] [] S σ τ Q := by
  obtain ⟨r1, t⟩ := t
  obtain ⟨r2, t⟩ := t
  refine i3 c_330_10 rfl (i3 c_330_12 rfl ?_)
  refine i37 c_330_13 r1 r2 rfl (fun hc => ?_) (fun hc => ?_)
  · have t := iT t hc
    have ha3 : x2 ≤ x4 := hc
    exact i94 c_330_27 t
  · have t := iF t hc
    have ha3 : ¬ (x2 ≤ x4) := hc
    obtain ⟨r4, t⟩ := t
    obtain ⟨w5, e6, r7, t⟩ := t
    refine i5 c_330_16 rfl (i3 c_330_17 rfl (i3 c_330_19 rfl (i54 (σ1 := uc σ x0 (u1 (σ x0) x4 w5)) c_330_20 (hx0.1 _ _) hnx0 r4 hx0.2 e6 r7 (wr_ rfl rfl) (i9 (L' := [.ref x0, .int (wI x1), .int (wI x2), .int (wI x3), .int (wI (x4 + 1))]) c_330_21 rfl rfl (i38 c_330_24 rfl t)))))
theorem q_330 {d : Nat} {S : zS} {σ τ : zI} {Q : zQ} {arr : Nat} {n_arr : Nat} {lo : Int} {hi : Int} {v : Int} (harr : (∀ σ τ, kO S σ τ → oK S arr 0 n_arr) ∧ isR arr = false) (hnarr : n_arr < 2147483648) (p0 : rg v) (p1 : (0 ≤ lo ∧ lo ≤ hi ∧ hi ≤ n_arr)) (t : Q none S (uc σ arr (fl_ (σ arr) lo hi v)) τ) : wc (d + 1) 330 [.ref arr, .int (wI lo), .int (wI hi), .int (wI v)] S σ τ Q := by
  refine wc_of mi_330 rfl (u_330_0 harr hnarr ⟨by omega, by omega, p1, ?_⟩)
  have key : ∀ k, 0 ≤ k → k ≤ hi - lo → wi (d + 1) 330 10 [.ref arr, .int (wI lo), .int (wI hi), .int (wI v), .int (wI (lo + k))] [] S (uc σ arr (fl_ (σ arr) lo (lo + k) v)) τ Q := by
    refine lp_up (fun k h0 h1 ih => ?_)
    refine u_330_10 harr hnarr ⟨by omega, by omega, ?_⟩
    by_cases c : hi ≤ lo + k
    · have : k = hi - lo := by omega
      subst this
      rw [if_pos (by omega), show lo + (hi - lo) = hi by omega]
      exact t
    · rw [if_neg c]
      refine ⟨by omega, _, rfl, p0, ?_⟩
      rw [uc_uc, uc_s, fl_s (by omega), Int.add_assoc]
      exact ih (by omega)
  have := key 0 (by omega) (by omega)
  rw [Int.add_zero, fl_0, uc_id] at this
  exact this
-- method 329: java/util/Arrays.fill([II)V
theorem c_329_0 : pg_cd 329 0 = (1, 1, 0, 0, 0) := by decide +kernel
theorem c_329_1 : pg_cd 329 1 = (6, 1, 0, 2, 0) := by decide +kernel
theorem c_329_2 : pg_cd 329 2 = (5, 1, 0, 0, 0) := by decide +kernel
theorem c_329_3 : pg_cd 329 3 = (58, 0, 0, 0, 0) := by decide +kernel
theorem c_329_4 : pg_cd 329 4 = (6, 1, 0, 3, 0) := by decide +kernel
theorem c_329_5 : pg_cd 329 5 = (3, 1, 0, 2, 0) := by decide +kernel
theorem c_329_6 : pg_cd 329 6 = (3, 1, 0, 3, 0) := by decide +kernel
theorem c_329_7 : pg_cd 329 7 = (37, 3, 0, 3, 13) := by decide +kernel
theorem c_329_10 : pg_cd 329 10 = (5, 1, 0, 0, 0) := by decide +kernel
theorem c_329_11 : pg_cd 329 11 = (3, 1, 0, 2, 0) := by decide +kernel
theorem c_329_12 : pg_cd 329 12 = (3, 1, 0, 1, 0) := by decide +kernel
theorem c_329_13 : pg_cd 329 13 = (54, 1, 0, 0, 0) := by decide +kernel
theorem c_329_14 : pg_cd 329 14 = (9, 3, 0, 2, 1) := by decide +kernel
theorem c_329_17 : pg_cd 329 17 = (38, 3, 0, 0, (-12)) := by decide +kernel
theorem c_329_20 : pg_cd 329 20 = (94, 0, 0, 0, 0) := by decide +kernel
theorem mi_329 : pg_mc 329 = 13 ∧ pg_na 329 = 2 ∧ pg_mx 329 = 4 := by decide +kernel
set_option maxRecDepth 20000 in
theorem u_329_0 {d : Nat} {S : zS} {σ τ : zI} {Q : zQ} {nx0 : Nat} {x0 : Nat} {x1 : Int} (hx0 : (∀ σ τ, kO S σ τ → oK S x0 0 nx0) ∧ isR x0 = false) (hnx0 : nx0 < 2147483648) (t : wi (d + 0) 329 5 [.ref x0, .int (wI x1), .int (wI 0), .int (wI nx0)] [] S σ τ Q) : wi (d + 0) 329 0 [.ref x0, .int (wI x1), .retAddr 0, .retAddr 0] [] S σ τ Q := by
  refine i1 c_329_0 (i6 (L' := [.ref x0, .int (wI x1), .int (wI 0), .retAddr 0]) c_329_1 rfl (i5 c_329_2 rfl (i58 (v := nx0) c_329_3 (hx0.1 _ _) rfl (i6 (L' := [.ref x0, .int (wI x1), .int (wI 0), .int (wI nx0)]) c_329_4 rfl t))))
set_option maxRecDepth 20000 in
theorem u_329_5 {d : Nat} {S : zS} {σ τ : zI} {Q : zQ} {nx0 : Nat} {x0 : Nat} {x1 : Int} {x2 : Int} {x3 : Int} (hx0 : (∀ σ τ, kO S σ τ → oK S x0 0 nx0) ∧ isR x0 = false) (hnx0 : nx0 < 2147483648) (t : (rg x2) ∧ (rg x3) ∧ if x3 ≤ x2 then (Q none S σ τ) else ((0 ≤ x2 ∧ x2 < nx0) ∧ ∃ w5 : Int, wI w5 = wI x1 ∧ rg w5 ∧ wi (d + 0) 329 5 [.ref x0, .int (wI x1), .int (wI (x2 + 1)), .int (wI x3)] [] S (uc σ x0 (u1 (σ x0) x2 w5)) τ Q)) : wi (d + 0) 329 5 [.ref x0, .int (wI x1), .int (wI x2), .int (wI x3)] [] S σ τ Q := by
  obtain ⟨r1, t⟩ := t
  obtain ⟨r2, t⟩ := t
  refine i3 c_329_5 rfl (i3 c_329_6 rfl ?_)
  refine i37 c_329_7 r1 r2 rfl (fun hc => ?_) (fun hc => ?_)
  · have t := iT t hc
    have ha3 : x3 ≤ x2 := hc
    exact i94 c_329_20 t
  · have t := iF t hc
    have ha3 : ¬ (x3 ≤ x2) := hc
    obtain ⟨r4, t⟩ := t
    obtain ⟨w5, e6, r7, t⟩ := t
    refine i5 c_329_10 rfl (i3 c_329_11 rfl (i3 c_329_12 rfl (i54 (σ1 := uc σ x0 (u1 (σ x0) x2 w5)) c_329_13 (hx0.1 _ _) hnx0 r4 hx0.2 e6 r7 (wr_ rfl rfl) (i9 (L' := [.ref x0, .int (wI x1), .int (wI (x2 + 1)), .int (wI x3)]) c_329_14 rfl rfl (i38 c_329_17 rfl t)))))
theorem q_329 {d : Nat} {S : zS} {σ τ : zI} {Q : zQ} {arr : Nat} {n_arr : Nat} {v : Int} (harr : (∀ σ τ, kO S σ τ → oK S arr 0 n_arr) ∧ isR arr = false) (hnarr : n_arr < 2147483648) (p0 : rg v) (t : Q none S (uc σ arr (fl_ (σ arr) 0 n_arr v)) τ) : wc (d + 0) 329 [.ref arr, .int (wI v)] S σ τ Q := by
  refine wc_of mi_329 rfl (u_329_0 harr hnarr ?_)
  have key : ∀ k : Int, 0 ≤ k → k ≤ n_arr → wi (d + 0) 329 5 [.ref arr, .int (wI v), .int (wI k), .int (wI n_arr)] [] S (uc σ arr (fl_ (σ arr) 0 k v)) τ Q := by
    refine lp_up (fun k h0 h1 ih => ?_)
    refine u_329_5 harr hnarr ⟨by omega, by omega, ?_⟩
    by_cases c : n_arr ≤ k
    · have : k = n_arr := by omega
      subst this
      rw [if_pos (by omega)]
      exact t
    · rw [if_neg c]
      refine ⟨by omega, _, rfl, p0, ?_⟩
      rw [uc_uc, uc_s, fl_s h0]
      exact ih (by omega)
  have := key 0 (by omega) (by omega)
  rw [fl_0, uc_id] at this
  exact this
-- method 328: java/util/Arrays.fill([JJ)V
theorem c_328_0 : pg_cd 328 0 = (1, 1, 0, 0, 0) := by decide +kernel
theorem c_328_1 : pg_cd 328 1 = (6, 1, 0, 3, 0) := by decide +kernel
theorem c_328_2 : pg_cd 328 2 = (5, 1, 0, 0, 0) := by decide +kernel
theorem c_328_3 : pg_cd 328 3 = (58, 1, 0, 0, 0) := by decide +kernel
theorem c_328_4 : pg_cd 328 4 = (6, 2, 0, 4, 0) := by decide +kernel
theorem c_328_6 : pg_cd 328 6 = (3, 1, 0, 3, 0) := by decide +kernel
theorem c_328_7 : pg_cd 328 7 = (3, 2, 0, 4, 0) := by decide +kernel
theorem c_328_9 : pg_cd 328 9 = (37, 3, 0, 3, 13) := by decide +kernel
theorem c_328_12 : pg_cd 328 12 = (5, 1, 0, 0, 0) := by decide +kernel
theorem c_328_13 : pg_cd 328 13 = (3, 1, 0, 3, 0) := by decide +kernel
theorem c_328_14 : pg_cd 328 14 = (4, 1, 0, 1, 0) := by decide +kernel
theorem c_328_15 : pg_cd 328 15 = (56, 1, 0, 0, 0) := by decide +kernel
theorem c_328_16 : pg_cd 328 16 = (9, 3, 0, 3, 1) := by decide +kernel
theorem c_328_19 : pg_cd 328 19 = (38, 3, 0, 0, (-13)) := by decide +kernel
theorem c_328_22 : pg_cd 328 22 = (94, 0, 0, 0, 0) := by decide +kernel
theorem mi_328 : pg_mc 328 = 13 ∧ pg_na 328 = 2 ∧ pg_mx 328 = 5 := by decide +kernel
set_option maxRecDepth 20000 in
theorem u_328_0 {d : Nat} {S : zS} {σ τ : zI} {Q : zQ} {nx0 : Nat} {x0 : Nat} {x1 : Int} (hx0 : (∀ σ τ, kO S σ τ → oK S x0 1 nx0) ∧ isR x0 = false) (hnx0 : nx0 < 2147483648) (t : wi (d + 0) 328 6 [.ref x0, .long (wJ x1), .retAddr 0, .int (wI 0), .int (wI nx0)] [] S σ τ Q) : wi (d + 0) 328 0 [.ref x0, .long (wJ x1), .retAddr 0, .retAddr 0, .retAddr 0] [] S σ τ Q := by
  refine i1 c_328_0 (i6 (L' := [.ref x0, .long (wJ x1), .retAddr 0, .int (wI 0), .retAddr 0]) c_328_1 rfl (i5 c_328_2 rfl (i58 (v := nx0) c_328_3 (hx0.1 _ _) rfl (i6 (L' := [.ref x0, .long (wJ x1), .retAddr 0, .int (wI 0), .int (wI nx0)]) c_328_4 rfl t))))
set_option maxRecDepth 20000 in
theorem u_328_6 {d : Nat} {S : zS} {σ τ : zI} {Q : zQ} {nx0 : Nat} {x0 : Nat} {x1 : Int} {x3 : Int} {x4 : Int} (hx0 : (∀ σ τ, kO S σ τ → oK S x0 1 nx0) ∧ isR x0 = false) (hnx0 : nx0 < 2147483648) (t : (rg x3) ∧ (rg x4) ∧ if x4 ≤ x3 then (Q none S σ τ) else ((0 ≤ x3 ∧ x3 < nx0) ∧ ∃ w5 : Int, wJ w5 = wJ x1 ∧ rj w5 ∧ wi (d + 0) 328 6 [.ref x0, .long (wJ x1), .retAddr 0, .int (wI (x3 + 1)), .int (wI x4)] [] S σ (uc τ x0 (u1 (τ x0) x3 w5)) Q)) : wi (d + 0) 328 6 [.ref x0, .long (wJ x1), .retAddr 0, .int (wI x3), .int (wI x4)] [] S σ τ Q := by
  obtain ⟨r1, t⟩ := t
  obtain ⟨r2, t⟩ := t
  refine i3 c_328_6 rfl (i3 c_328_7 rfl ?_)
  refine i37 c_328_9 r1 r2 rfl (fun hc => ?_) (fun hc => ?_)
  · have t := iT t hc
    have ha3 : x4 ≤ x3 := hc
    exact i94 c_328_22 t
  · have t := iF t hc
    have ha3 : ¬ (x4 ≤ x3) := hc
    obtain ⟨r4, t⟩ := t
    obtain ⟨w5, e6, r7, t⟩ := t
    refine i5 c_328_12 rfl (i3 c_328_13 rfl (i4 c_328_14 rfl (i56 (τ1 := uc τ x0 (u1 (τ x0) x3 w5)) c_328_15 (hx0.1 _ _) hnx0 r4 e6 r7 (wr_ rfl rfl) (i9 (L' := [.ref x0, .long (wJ x1), .retAddr 0, .int (wI (x3 + 1)), .int (wI x4)]) c_328_16 rfl rfl (i38 c_328_19 rfl t)))))
theorem q_328 {d : Nat} {S : zS} {σ τ : zI} {Q : zQ} {arr : Nat} {n_arr : Nat} {v : Int} (harr : (∀ σ τ, kO S σ τ → oK S arr 1 n_arr) ∧ isR arr = false) (hnarr : n_arr < 2147483648) (p0 : rj v) (t : Q none S σ (uc τ arr (fl_ (τ arr) 0 n_arr v))) : wc (d + 0) 328 [.ref arr, .long (wJ v)] S σ τ Q := by
  refine wc_of mi_328 rfl (u_328_0 harr hnarr ?_)
  have key : ∀ k : Int, 0 ≤ k → k ≤ n_arr → wi (d + 0) 328 6 [.ref arr, .long (wJ v), .retAddr 0, .int (wI k), .int (wI n_arr)] [] S σ (uc τ arr (fl_ (τ arr) 0 k v)) Q := by
    refine lp_up (fun k h0 h1 ih => ?_)
    refine u_328_6 harr hnarr ⟨by omega, by omega, ?_⟩
    by_cases c : n_arr ≤ k
    · have : k = n_arr := by omega
      subst this
      rw [if_pos (by omega)]
      exact t
    · rw [if_neg c]
      refine ⟨by omega, _, rfl, p0, ?_⟩
      rw [uc_uc, uc_s, fl_s h0]
      exact ih (by omega)
  have := key 0 (by omega) (by omega)
  rw [fl_0, uc_id] at this
  exact this
theorem rt_n {cnt : Int} {f : Int → Int} {w : Nat} {k row : Int} (h : ¬ (0 ≤ row ∧ row < cnt)) : rt_ cnt f w k row = -1 := by unfold rt_; rw [if_neg h]
theorem rt_p {cnt : Int} {f : Int → Int} {w : Nat} {k row : Int} (h : 0 ≤ row ∧ row < cnt) : rt_ cnt f w k row = f (row * w + k) := by unfold rt_; rw [if_pos h]
-- method 54: MillTown$Rows.add()I
theorem c_54_0 : pg_cd 54 0 = (5, 1, 0, 0, 0) := by decide +kernel
theorem c_54_1 : pg_cd 54 1 = (43, 4, 19, 2, 0) := by decide +kernel
theorem c_54_4 : pg_cd 54 4 = (5, 1, 0, 0, 0) := by decide +kernel
theorem c_54_5 : pg_cd 54 5 = (43, 4, 9, 0, 0) := by decide +kernel
theorem c_54_8 : pg_cd 54 8 = (12, 1, 0, 0, 0) := by decide +kernel
theorem c_54_9 : pg_cd 54 9 = (6, 1, 0, 1, 0) := by decide +kernel
theorem c_54_10 : pg_cd 54 10 = (3, 1, 0, 1, 0) := by decide +kernel
theorem c_54_11 : pg_cd 54 11 = (5, 1, 0, 0, 0) := by decide +kernel
theorem c_54_12 : pg_cd 54 12 = (43, 4, 9, 0, 0) := by decide +kernel
theorem c_54_15 : pg_cd 54 15 = (10, 1, 0, 0, 0) := by decide +kernel
theorem c_54_16 : pg_cd 54 16 = (5, 1, 0, 0, 0) := by decide +kernel
theorem c_54_17 : pg_cd 54 17 = (45, 4, 15, 1, 0) := by decide +kernel
theorem c_54_20 : pg_cd 54 20 = (58, 0, 0, 0, 0) := by decide +kernel
theorem c_54_21 : pg_cd 54 21 = (37, 3, 0, 5, 5) := by decide +kernel
theorem c_54_24 : pg_cd 54 24 = (1, 1, 0, 0, (-1)) := by decide +kernel
theorem c_54_25 : pg_cd 54 25 = (90, 0, 0, 0, 0) := by decide +kernel
theorem c_54_26 : pg_cd 54 26 = (5, 1, 0, 0, 0) := by decide +kernel
theorem c_54_27 : pg_cd 54 27 = (45, 4, 15, 1, 0) := by decide +kernel
theorem c_54_30 : pg_cd 54 30 = (3, 1, 0, 1, 0) := by decide +kernel
theorem c_54_31 : pg_cd 54 31 = (3, 1, 0, 1, 0) := by decide +kernel
theorem c_54_32 : pg_cd 54 32 = (5, 1, 0, 0, 0) := by decide +kernel
theorem c_54_33 : pg_cd 54 33 = (43, 4, 9, 0, 0) := by decide +kernel
theorem c_54_36 : pg_cd 54 36 = (10, 1, 0, 0, 0) := by decide +kernel
theorem c_54_37 : pg_cd 54 37 = (1, 1, 0, 0, 0) := by decide +kernel
theorem c_54_38 : pg_cd 54 38 = (81, 330, 22, 0, 0) := by decide +kernel
theorem c_54_41 : pg_cd 54 41 = (5, 1, 0, 0, 0) := by decide +kernel
theorem c_54_42 : pg_cd 54 42 = (33, 1, 0, 0, 0) := by decide +kernel
theorem c_54_43 : pg_cd 54 43 = (43, 4, 19, 2, 0) := by decide +kernel
theorem c_54_46 : pg_cd 54 46 = (1, 1, 0, 0, 1) := by decide +kernel
theorem c_54_47 : pg_cd 54 47 = (10, 1, 0, 0, 0) := by decide +kernel
theorem c_54_48 : pg_cd 54 48 = (46, 4, 19, 2, 0) := by decide +kernel
theorem c_54_51 : pg_cd 54 51 = (5, 1, 0, 0, 0) := by decide +kernel
theorem c_54_52 : pg_cd 54 52 = (43, 4, 19, 2, 0) := by decide +kernel
theorem c_54_55 : pg_cd 54 55 = (1, 1, 0, 0, 1) := by decide +kernel
theorem c_54_56 : pg_cd 54 56 = (11, 1, 0, 0, 0) := by decide +kernel
theorem c_54_57 : pg_cd 54 57 = (90, 0, 0, 0, 0) := by decide +kernel
theorem mi_54 : pg_mc 54 = 4 ∧ pg_na 54 = 0 ∧ pg_mx 54 = 2 := by decide +kernel
set_option maxRecDepth 20000 in
theorem u_54_0 {d : Nat} {S : zS} {σ τ : zI} {Q : zQ} {x0 : Nat} {wx0 : Nat} {nx0 : Nat} (hx0 : oW S σ x0 wx0 nx0) (t : (rg (((σ x0 2) * (σ x0 0)) + (σ x0 0))) ∧ if (((σ x0 2) * (σ x0 0)) + (σ x0 0)) ≤ nx0 then ((0 ≤ ((σ x0 2) * (σ x0 0)) ∧ ((σ x0 2) * (σ x0 0)) ≤ (((σ x0 2) * (σ x0 0)) + (σ x0 0)) ∧ (((σ x0 2) * (σ x0 0)) + (σ x0 0)) ≤ nx0) ∧ ∃ w6 : Int, wI w6 = wI ((σ x0 2) + 1) ∧ rg w6 ∧ (0 ≤ w6 ∧ w6 * wx0 ≤ nx0) ∧ Q (some (.int (wI (w6 - 1)))) S (uc (uc σ (x0 + 1) (fl_ ((σ (x0 + 1))) ((σ x0 2) * (σ x0 0)) (((σ x0 2) * (σ x0 0)) + (σ x0 0)) 0)) x0 (u1 (σ x0) 2 w6)) τ) else (Q (some (.int (wI (-1)))) S σ τ)) : wi (d + 2) 54 0 [.ref x0, .retAddr 0] [] S σ τ Q := by
  refine i5 c_54_0 rfl (wi_ok (fun K1 => ?_))
  obtain ⟨r2, t⟩ := t
  refine i43 (v := σ x0 2) c_54_1 (fun _ => hx0.1) rfl (i5 c_54_4 rfl (i43 (v := σ x0 0) c_54_5 (fun _ => hx0.1) rfl (i12 c_54_8 (i6 (L' := [.ref x0, .int (wI ((σ x0 2) * (σ x0 0)))]) c_54_9 rfl (i3 c_54_10 rfl (i5 c_54_11 rfl (i43 (v := σ x0 0) c_54_12 (fun _ => hx0.1) rfl (i10 c_54_15 (i5 c_54_16 rfl (i45 c_54_17 (fun _ => hx0.1) (fun _ => hx0.2.1) (i58 (v := nx0) c_54_20 (fun _ => hx0.2.2.1) rfl ?_)))))))))))
  refine i37 c_54_21 r2 (by have := hx0.2.2.2.2.2.2.2.1; omega) rfl (fun hc => ?_) (fun hc => ?_)
  · have t := iT t hc
    have ha3 : (((σ x0 2) * (σ x0 0)) + (σ x0 0)) ≤ nx0 := hc
    obtain ⟨p4, t⟩ := t
    refine i5 c_54_26 rfl (i45 c_54_27 (fun _ => hx0.1) (fun _ => hx0.2.1) (i3 c_54_30 rfl (i3 c_54_31 rfl (i5 c_54_32 rfl (i43 (v := σ x0 0) c_54_33 (fun _ => hx0.1) rfl (i10 c_54_36 (i1 c_54_37 ?_)))))))
    refine i81 (As := [.ref (x0 + 1), .int (wI ((σ x0 2) * (σ x0 0))), .int (wI (((σ x0 2) * (σ x0 0)) + (σ x0 0))), .int (wI 0)]) (rest := []) c_54_38 mi_330 rfl rfl (Nat.le_of_ble_eq_true rfl) (Nat.le_of_ble_eq_true rfl) (q_330 ⟨fun _ _ => (fun _ => hx0.2.2.1), hx0.2.2.2.2.2.2.2.2.1⟩ (by have := hx0.2.2.2.2.2.2.2.1; omega) (by decide) p4 ?_)
    show wi (d + 2) 54 41 [.ref x0, .int (wI ((σ x0 2) * (σ x0 0)))] [] S (uc σ (x0 + 1) (fl_ ((σ (x0 + 1))) ((σ x0 2) * (σ x0 0)) (((σ x0 2) * (σ x0 0)) + (σ x0 0)) 0)) τ Q
    refine i5 c_54_41 rfl (i33a c_54_42 (wi_ok (fun K5 => ?_)))
    obtain ⟨w6, e7, r8, t⟩ := t
    obtain ⟨b9, t⟩ := t
    refine i43 (v := σ x0 2) c_54_43 (fun _ => hx0.1) (congrFun (uc_ns rfl (by omega)) _) (i1 c_54_46 (i10 c_54_47 (i46c (σ1 := uc (uc σ (x0 + 1) (fl_ ((σ (x0 + 1))) ((σ x0 2) * (σ x0 0)) (((σ x0 2) * (σ x0 0)) + (σ x0 0)) 0)) x0 (u1 (σ x0) 2 w6)) c_54_48 (fun _ => hx0.1) hx0 e7 b9 (wr_ (uc_ns rfl (by omega)) rfl) (i5 c_54_51 rfl (wi_ok (fun K10 => ?_))))))
    refine i43 (v := w6) c_54_52 (fun _ => hx0.1) ((congrFun (uc_s _ _ _) _).trans (u1_s _ _ _)) (i1 c_54_55 (i11 c_54_56 ?_))
    exact i90 c_54_57 t
  · have t := iF t hc
    have ha3 : ¬ ((((σ x0 2) * (σ x0 0)) + (σ x0 0)) ≤ nx0) := hc
    refine i1 c_54_24 ?_
    exact i90 c_54_25 t
theorem q_add {d : Nat} {S : zS} {σ τ : zI} {Q : zQ} {r w n : Nat} (hR : kO S σ τ → oW S σ r w n) (hc : σ r 2 * w + w ≤ n) (t : Q (some (.int (wI (σ r 2)))) S (uc (uc σ (r + 1) (fl_ (σ (r + 1)) (σ r 2 * w) (σ r 2 * w + w) 0)) r (u1 (σ r) 2 (σ r 2 + 1))) τ) : wc (d + 2) 54 [.ref r] S σ τ Q := by
  refine wc_ok fun K => ?_
  have hr := hR K
  obtain ⟨h1, h2, h3, hw, h5, h6, h7, h8, h9, -⟩ := id hr
  have a2 : 0 ≤ σ r 2 * w := Int.mul_nonneg h6 (by omega)
  have a3 : σ r 2 * 1 ≤ σ r 2 * w := Int.mul_le_mul_of_nonneg_left (by omega) h6
  refine wc_of mi_54 rfl (u_54_0 hr ?_)
  rw [hw]
  refine ⟨by omega, ?_⟩
  rw [if_pos hc]
  refine ⟨by omega, _, rfl, by omega, ⟨by omega, by rw [Int.add_mul]; omega⟩, ?_⟩
  rw [show σ r 2 + 1 - 1 = σ r 2 by omega]
  exact t
theorem q_addN {d : Nat} {S : zS} {σ τ : zI} {Q : zQ} {r w n : Nat} (hR : kO S σ τ → oW S σ r w n) (hc : ¬ σ r 2 * w + w ≤ n) (t : Q (some (.int (wI (-1)))) S σ τ) : wc (d + 2) 54 [.ref r] S σ τ Q := by
  refine wc_ok fun K => ?_
  have hr := hR K
  obtain ⟨h1, h2, h3, hw, h5, h6, h7, h8, h9, -⟩ := id hr
  have hw2 : w ≤ 1000 := hr.2.2.2.2.2.2.2.2.2.2
  have a2 : 0 ≤ σ r 2 * w := Int.mul_nonneg h6 (by omega)
  refine wc_of mi_54 rfl (u_54_0 hr ?_)
  rw [hw]
  refine ⟨by omega, ?_⟩
  rw [if_neg hc]
  exact t
-- method 58: MillTown$Rows.total(I)I
theorem c_58_0 : pg_cd 58 0 = (1, 1, 0, 0, 0) := by decide +kernel
theorem c_58_1 : pg_cd 58 1 = (6, 1, 0, 2, 0) := by decide +kernel
theorem c_58_2 : pg_cd 58 2 = (1, 1, 0, 0, 0) := by decide +kernel
theorem c_58_3 : pg_cd 58 3 = (6, 1, 0, 3, 0) := by decide +kernel
theorem c_58_4 : pg_cd 58 4 = (3, 1, 0, 3, 0) := by decide +kernel
theorem c_58_5 : pg_cd 58 5 = (5, 1, 0, 0, 0) := by decide +kernel
theorem c_58_6 : pg_cd 58 6 = (43, 4, 19, 2, 0) := by decide +kernel
theorem c_58_9 : pg_cd 58 9 = (37, 3, 0, 3, 18) := by decide +kernel
theorem c_58_12 : pg_cd 58 12 = (3, 1, 0, 2, 0) := by decide +kernel
theorem c_58_13 : pg_cd 58 13 = (5, 1, 0, 0, 0) := by decide +kernel
theorem c_58_14 : pg_cd 58 14 = (3, 1, 0, 3, 0) := by decide +kernel
theorem c_58_15 : pg_cd 58 15 = (3, 1, 0, 1, 0) := by decide +kernel
theorem c_58_16 : pg_cd 58 16 = (80, 55, 28, 0, 0) := by decide +kernel
theorem c_58_19 : pg_cd 58 19 = (10, 1, 0, 0, 0) := by decide +kernel
theorem c_58_20 : pg_cd 58 20 = (6, 1, 0, 2, 0) := by decide +kernel
theorem c_58_21 : pg_cd 58 21 = (9, 3, 0, 3, 1) := by decide +kernel
theorem c_58_24 : pg_cd 58 24 = (38, 3, 0, 0, (-20)) := by decide +kernel
theorem c_58_27 : pg_cd 58 27 = (3, 1, 0, 2, 0) := by decide +kernel
theorem c_58_28 : pg_cd 58 28 = (90, 0, 0, 0, 0) := by decide +kernel
theorem mi_58 : pg_mc 58 = 4 ∧ pg_na 58 = 1 ∧ pg_mx 58 = 4 := by decide +kernel
set_option maxRecDepth 20000 in
theorem u_58_0 {d : Nat} {S : zS} {σ τ : zI} {Q : zQ} {x0 : Nat} {wx0 : Nat} {nx0 : Nat} {x1 : Int} (hx0 : oW S σ x0 wx0 nx0) (t : wi (d + 1) 58 4 [.ref x0, .int (wI x1), .int (wI 0), .int (wI 0)] [] S σ τ Q) : wi (d + 1) 58 0 [.ref x0, .int (wI x1), .retAddr 0, .retAddr 0] [] S σ τ Q := by
  refine i1 c_58_0 (i6 (L' := [.ref x0, .int (wI x1), .int (wI 0), .retAddr 0]) c_58_1 rfl (i1 c_58_2 (i6 (L' := [.ref x0, .int (wI x1), .int (wI 0), .int (wI 0)]) c_58_3 rfl t)))
set_option maxRecDepth 20000 in
theorem u_58_4 {d : Nat} {S : zS} {σ τ : zI} {Q : zQ} {x0 : Nat} {wx0 : Nat} {nx0 : Nat} {x1 : Int} {x2 : Int} {x3 : Int} (hx0 : oW S σ x0 wx0 nx0) (t : (rg x3) ∧ if (σ x0 2) ≤ x3 then (Q (some (.int (wI x2))) S σ τ) else ((0 ≤ x1 ∧ x1 < wx0 ∧ x1 < 1000) ∧ wi (d + 1) 58 4 [.ref x0, .int (wI x1), .int (wI (x2 + (rt_ (σ x0 2) (σ (x0 + 1)) wx0 x1 x3))), .int (wI (x3 + 1))] [] S σ τ Q)) : wi (d + 1) 58 4 [.ref x0, .int (wI x1), .int (wI x2), .int (wI x3)] [] S σ τ Q := by
  refine i3 c_58_4 rfl (i5 c_58_5 rfl (wi_ok (fun K1 => ?_)))
  obtain ⟨r2, t⟩ := t
  refine i43 (v := σ x0 2) c_58_6 (fun _ => hx0.1) rfl ?_
  refine i37 c_58_9 r2 (rge_ K1 rfl) rfl (fun hc => ?_) (fun hc => ?_)
  · have t := iT t hc
    have ha3 : (σ x0 2) ≤ x3 := hc
    refine i3 c_58_27 rfl ?_
    exact i90 c_58_28 t
  · have t := iF t hc
    have ha3 : ¬ ((σ x0 2) ≤ x3) := hc
    obtain ⟨k4, t⟩ := t
    refine i3 c_58_12 rfl (i5 c_58_13 rfl (i3 c_58_14 rfl (i3 c_58_15 rfl ?_)))
    refine i80 (As := [.int (wI x3), .int (wI x1)]) (rest := [.int (wI x2)]) c_58_16 mi_55 rfl rfl (Nat.le_of_ble_eq_true rfl) (Nat.le_of_ble_eq_true rfl) (fun _ => hx0.1) (q_at (fun _ => hx0) r2 k4 ?_)
    show wi (d + 1) 58 19 [.ref x0, .int (wI x1), .int (wI x2), .int (wI x3)] [.int (wI (rt_ (σ x0 2) (σ (x0 + 1)) wx0 x1 x3)), .int (wI x2)] S σ τ Q
    refine i10 c_58_19 (i6 (L' := [.ref x0, .int (wI x1), .int (wI (x2 + (rt_ (σ x0 2) (σ (x0 + 1)) wx0 x1 x3))), .int (wI x3)]) c_58_20 rfl (i9 (L' := [.ref x0, .int (wI x1), .int (wI (x2 + (rt_ (σ x0 2) (σ (x0 + 1)) wx0 x1 x3))), .int (wI (x3 + 1))]) c_58_21 rfl rfl (i38 c_58_24 rfl t)))
theorem q_58 {d : Nat} {S : zS} {σ τ : zI} {Q : zQ} {r : Nat} {w_r : Nat} {n_r : Nat} {k : Int} (hr : kO S σ τ → oW S σ r w_r n_r) (p0 : 0 ≤ k ∧ k < w_r ∧ k < 1000) (t : Q (some (.int (wI (sI (fun row => σ (r + 1) (row * w_r + k)) (σ r 2))))) S σ τ) : wc (d + 1) 58 [.ref r, .int (wI k)] S σ τ Q := by
  refine wc_ok fun K => ?_
  have hr' := hr K
  have hc := hr'.2.2.2.2.2.1
  have hcr := kO_r K r 2
  refine wc_of mi_58 rfl (u_58_0 hr' ?_)
  have key : ∀ p, 0 ≤ p → p ≤ σ r 2 → ∀ s, s = sI (fun row => σ (r + 1) (row * w_r + k)) p → wi (d + 1) 58 4 [.ref r, .int (wI k), .int (wI s), .int (wI p)] [] S σ τ Q := by
    refine lp_up (fun p h0 h1 ih => ?_)
    intro s hs
    refine u_58_4 hr' ⟨by omega, ?_⟩
    by_cases c : σ r 2 ≤ p
    · have : p = σ r 2 := by omega
      subst this
      rw [if_pos (by omega), hs]
      exact t
    · have ih := ih (by omega)
      rw [sI_s h0, ← hs] at ih
      rw [if_neg c, rt_p ⟨h0, by omega⟩]
      exact ⟨p0, ih _ rfl⟩
  exact key 0 (by omega) (by omega) 0 rfl
/-- a column filled, in the rows below n -/
def fc_ (f : Int → Int) (w : Nat) (k v n : Int) : Int → Int := fI (fun row g => u1 g (row * w + k) v) n f
-- method 59: MillTown$Rows.fillColumn(II)V
theorem c_59_0 : pg_cd 59 0 = (1, 1, 0, 0, 0) := by decide +kernel
theorem c_59_1 : pg_cd 59 1 = (6, 1, 0, 3, 0) := by decide +kernel
theorem c_59_2 : pg_cd 59 2 = (3, 1, 0, 3, 0) := by decide +kernel
theorem c_59_3 : pg_cd 59 3 = (5, 1, 0, 0, 0) := by decide +kernel
theorem c_59_4 : pg_cd 59 4 = (43, 4, 19, 2, 0) := by decide +kernel
theorem c_59_7 : pg_cd 59 7 = (37, 3, 0, 3, 16) := by decide +kernel
theorem c_59_10 : pg_cd 59 10 = (5, 1, 0, 0, 0) := by decide +kernel
theorem c_59_11 : pg_cd 59 11 = (3, 1, 0, 3, 0) := by decide +kernel
theorem c_59_12 : pg_cd 59 12 = (3, 1, 0, 1, 0) := by decide +kernel
theorem c_59_13 : pg_cd 59 13 = (3, 1, 0, 2, 0) := by decide +kernel
theorem c_59_14 : pg_cd 59 14 = (80, 56, 32, 0, 0) := by decide +kernel
theorem c_59_17 : pg_cd 59 17 = (9, 3, 0, 3, 1) := by decide +kernel
theorem c_59_20 : pg_cd 59 20 = (38, 3, 0, 0, (-18)) := by decide +kernel
theorem c_59_23 : pg_cd 59 23 = (94, 0, 0, 0, 0) := by decide +kernel
theorem mi_59 : pg_mc 59 = 4 ∧ pg_na 59 = 2 ∧ pg_mx 59 = 4 := by decide +kernel
set_option maxRecDepth 20000 in
theorem u_59_0 {d : Nat} {S : zS} {σ τ : zI} {Q : zQ} {x0 : Nat} {wx0 : Nat} {nx0 : Nat} {x1 : Int} {x2 : Int} (hx0 : oW S σ x0 wx0 nx0) (t : wi (d + 1) 59 2 [.ref x0, .int (wI x1), .int (wI x2), .int (wI 0)] [] S σ τ Q) : wi (d + 1) 59 0 [.ref x0, .int (wI x1), .int (wI x2), .retAddr 0] [] S σ τ Q := by
  refine i1 c_59_0 (i6 (L' := [.ref x0, .int (wI x1), .int (wI x2), .int (wI 0)]) c_59_1 rfl t)
set_option maxRecDepth 20000 in
theorem u_59_2 {d : Nat} {S : zS} {σ τ : zI} {Q : zQ} {x0 : Nat} {wx0 : Nat} {nx0 : Nat} {x1 : Int} {x2 : Int} {x3 : Int} (hx0 : oW S σ x0 wx0 nx0) (t : (rg x3) ∧ if (σ x0 2) ≤ x3 then (Q none S σ τ) else ((0 ≤ x1 ∧ x1 < wx0 ∧ x1 < 1000) ∧ (0 ≤ x3 ∧ x3 < (σ x0 2)) ∧ ∃ w6 : Int, wI w6 = wI x2 ∧ rg w6 ∧ wi (d + 1) 59 2 [.ref x0, .int (wI x1), .int (wI x2), .int (wI (x3 + 1))] [] S (uc σ (x0 + 1) (u1 (σ (x0 + 1)) (x3 * wx0 + x1) w6)) τ Q)) : wi (d + 1) 59 2 [.ref x0, .int (wI x1), .int (wI x2), .int (wI x3)] [] S σ τ Q := by
  refine i3 c_59_2 rfl (i5 c_59_3 rfl (wi_ok (fun K1 => ?_)))
  obtain ⟨r2, t⟩ := t
  refine i43 (v := σ x0 2) c_59_4 (fun _ => hx0.1) rfl ?_
  refine i37 c_59_7 r2 (rge_ K1 rfl) rfl (fun hc => ?_) (fun hc => ?_)
  · have t := iT t hc
    have ha3 : (σ x0 2) ≤ x3 := hc
    exact i94 c_59_23 t
  · have t := iF t hc
    have ha3 : ¬ ((σ x0 2) ≤ x3) := hc
    obtain ⟨k4, t⟩ := t
    obtain ⟨b5, t⟩ := t
    obtain ⟨w6, e7, r8, t⟩ := t
    refine i5 c_59_10 rfl (i3 c_59_11 rfl (i3 c_59_12 rfl (i3 c_59_13 rfl ?_)))
    refine i80 (As := [.int (wI x3), .int (wI x1), .int (wI x2)]) (rest := []) c_59_14 mi_56 rfl rfl (Nat.le_of_ble_eq_true rfl) (Nat.le_of_ble_eq_true rfl) (fun _ => hx0.1) (q_put (v2 := w6) (fun _ => hx0) r2 b5 k4 e7 r8 ?_)
    show wi (d + 1) 59 17 [.ref x0, .int (wI x1), .int (wI x2), .int (wI x3)] [] S (uc σ (x0 + 1) (u1 (σ (x0 + 1)) (x3 * wx0 + x1) w6)) τ Q
    refine i9 (L' := [.ref x0, .int (wI x1), .int (wI x2), .int (wI (x3 + 1))]) c_59_17 rfl rfl (i38 c_59_20 rfl t)
theorem q_59 {d : Nat} {S : zS} {σ τ : zI} {Q : zQ} {r : Nat} {w_r : Nat} {n_r : Nat} {k : Int} {v : Int} (hr : kO S σ τ → oW S σ r w_r n_r) (p0 : 0 ≤ k ∧ k < w_r ∧ k < 1000) (p1 : rg v) (t : Q none S (uc σ (r + 1) (fc_ (σ (r + 1)) w_r k v (σ r 2))) τ) : wc (d + 1) 59 [.ref r, .int (wI k), .int (wI v)] S σ τ Q := by
  refine wc_ok fun K => ?_
  have hr' := hr K
  have hc := hr'.2.2.2.2.2.1
  have hcr := kO_r K r 2
  unfold fc_ at t
  refine wc_of mi_59 rfl (u_59_0 hr' ?_)
  have key : ∀ p, 0 ≤ p → p ≤ σ r 2 → wi (d + 1) 59 2 [.ref r, .int (wI k), .int (wI v), .int (wI p)] [] S (uc σ (r + 1) (fI (fun row g => u1 g (row * w_r + k) v) p (σ (r + 1)))) τ Q := by
    refine lp_up (fun p h0 h1 ih => ?_)
    refine u_59_2 (oWl hr' (by omega)) ⟨by omega, ?_⟩
    rw [uc_n (show r ≠ r + 1 by omega), uc_s]
    by_cases c : σ r 2 ≤ p
    · have : p = σ r 2 := by omega
      subst this
      rw [if_pos (by omega)]
      exact t
    · have ih := ih (by omega)
      rw [fI_s h0] at ih
      rw [if_neg c]
      refine ⟨p0, by omega, _, rfl, p1, ?_⟩
      rw [uc_uc]
      exact ih
  have := key 0 (by omega) (by omega)
  rw [fI_0, uc_id] at this
  exact this
def cpF (cnt : Int) (w : Nat) (f g : Int → Int) : Int → Int := fun k => if 0 ≤ k ∧ k < cnt * w then f k else g k
-- method 60: MillTown$Rows.copyFrom(LMillTown$Rows;)V
theorem c_60_0 : pg_cd 60 0 = (5, 1, 0, 1, 0) := by decide +kernel
theorem c_60_1 : pg_cd 60 1 = (43, 4, 19, 2, 0) := by decide +kernel
theorem c_60_4 : pg_cd 60 4 = (5, 1, 0, 1, 0) := by decide +kernel
theorem c_60_5 : pg_cd 60 5 = (43, 4, 9, 0, 0) := by decide +kernel
theorem c_60_8 : pg_cd 60 8 = (12, 1, 0, 0, 0) := by decide +kernel
theorem c_60_9 : pg_cd 60 9 = (5, 1, 0, 0, 0) := by decide +kernel
theorem c_60_10 : pg_cd 60 10 = (45, 4, 15, 1, 0) := by decide +kernel
theorem c_60_13 : pg_cd 60 13 = (58, 0, 0, 0, 0) := by decide +kernel
theorem c_60_14 : pg_cd 60 14 = (74, 0, 36, 0, 0) := by decide +kernel
theorem c_60_17 : pg_cd 60 17 = (6, 1, 0, 2, 0) := by decide +kernel
theorem c_60_18 : pg_cd 60 18 = (5, 1, 0, 1, 0) := by decide +kernel
theorem c_60_19 : pg_cd 60 19 = (45, 4, 15, 1, 0) := by decide +kernel
theorem c_60_22 : pg_cd 60 22 = (1, 1, 0, 0, 0) := by decide +kernel
theorem c_60_23 : pg_cd 60 23 = (5, 1, 0, 0, 0) := by decide +kernel
theorem c_60_24 : pg_cd 60 24 = (45, 4, 15, 1, 0) := by decide +kernel
theorem c_60_27 : pg_cd 60 27 = (1, 1, 0, 0, 0) := by decide +kernel
theorem c_60_28 : pg_cd 60 28 = (3, 1, 0, 2, 0) := by decide +kernel
theorem c_60_29 : pg_cd 60 29 = (62, 0, 41, 0, 0) := by decide +kernel
theorem c_60_32 : pg_cd 60 32 = (5, 1, 0, 0, 0) := by decide +kernel
theorem c_60_33 : pg_cd 60 33 = (5, 1, 0, 1, 0) := by decide +kernel
theorem c_60_34 : pg_cd 60 34 = (43, 4, 19, 2, 0) := by decide +kernel
theorem c_60_37 : pg_cd 60 37 = (46, 4, 19, 2, 0) := by decide +kernel
theorem c_60_40 : pg_cd 60 40 = (94, 0, 0, 0, 0) := by decide +kernel
theorem mi_60 : pg_mc 60 = 4 ∧ pg_na 60 = 1 ∧ pg_mx 60 = 3 := by decide +kernel
set_option maxRecDepth 20000 in
theorem u_60_0 {d : Nat} {S : zS} {σ τ : zI} {Q : zQ} {x0 : Nat} {wx0 : Nat} {nx0 : Nat} {x1 : Nat} {wx1 : Nat} {nx1 : Nat} (hx0 : oW S σ x0 wx0 nx0) (hx1 : oW S σ x1 wx1 nx1) (hd : x0 + 2 ≤ x1 ∨ x1 + 2 ≤ x0) (t : (rg ((σ x1 2) * (σ x1 0))) ∧ ((0 : Int) ≤ 0 ∧ (0 : Int) ≤ 0 ∧ (0 : Int) ≤ min ((σ x1 2) * (σ x1 0)) nx0 ∧ 0 + (min ((σ x1 2) * (σ x1 0)) nx0) ≤ nx1 ∧ 0 + (min ((σ x1 2) * (σ x1 0)) nx0) ≤ nx0) ∧ (0 ≤ σ x1 2 ∧ (σ x1 2) * wx0 ≤ nx0) ∧ Q none S (uc (uc σ (x0 + 1) (fun k => if 0 ≤ k ∧ k < 0 + (min ((σ x1 2) * (σ x1 0)) nx0) then σ (x1 + 1) (0 + (k - 0)) else σ (x0 + 1) k)) x0 (u1 (σ x0) 2 (σ x1 2))) τ) : wi (d + 7) 60 0 [.ref x0, .ref x1, .retAddr 0] [] S σ τ Q := by
  refine i5 c_60_0 rfl (wi_ok (fun K1 => ?_))
  obtain ⟨r2, t⟩ := t
  obtain ⟨b3, t⟩ := t
  refine i43 (v := σ x1 2) c_60_1 (fun _ => hx1.1) rfl (i5 c_60_4 rfl (i43 (v := σ x1 0) c_60_5 (fun _ => hx1.1) rfl (i12 c_60_8 (i5 c_60_9 rfl (i45 c_60_10 (fun _ => hx0.1) (fun _ => hx0.2.1) (i58 (v := nx0) c_60_13 (fun _ => hx0.2.2.1) rfl (i74 c_60_14 (Nat.le_of_ble_eq_true rfl) (by omega) r2 (by have := hx0.2.2.2.2.2.2.2.1; omega) (i6 (L' := [.ref x0, .ref x1, .int (wI (min ((σ x1 2) * (σ x1 0)) nx0))]) c_60_17 rfl (i5 c_60_18 rfl (i45 c_60_19 (fun _ => hx1.1) (fun _ => hx1.2.1) (i1 c_60_22 (i5 c_60_23 rfl (i45 c_60_24 (fun _ => hx0.1) (fun _ => hx0.2.1) (i1 c_60_27 (i3 c_60_28 rfl (i62 (σ1 := uc σ (x0 + 1) (fun k => if 0 ≤ k ∧ k < 0 + (min ((σ x1 2) * (σ x1 0)) nx0) then σ (x1 + 1) (0 + (k - 0)) else σ (x0 + 1) k)) c_60_29 (Nat.le_of_ble_eq_true rfl) (fun _ => hx1.2.2.1) (fun _ => hx0.2.2.1) (by have := hx1.2.2.2.2.2.2.2.1; omega) (by have := hx0.2.2.2.2.2.2.2.1; omega) b3 hx0.2.2.2.2.2.2.2.2.1 rfl (i5 c_60_32 rfl (i5 c_60_33 rfl (wi_ok (fun K4 => ?_))))))))))))))))))))
  obtain ⟨b5, t⟩ := t
  refine i43 (v := σ x1 2) c_60_34 (fun _ => hx1.1) (congrFun (uc_ns rfl (by omega)) _) (i46c (σ1 := uc (uc σ (x0 + 1) (fun k => if 0 ≤ k ∧ k < 0 + (min ((σ x1 2) * (σ x1 0)) nx0) then σ (x1 + 1) (0 + (k - 0)) else σ (x0 + 1) k)) x0 (u1 (σ x0) 2 (σ x1 2))) c_60_37 (fun _ => hx0.1) hx0 rfl b5 (wr_ (uc_ns rfl (by omega)) rfl) ?_)
  exact i94 c_60_40 t
theorem q_60 {d : Nat} {S : zS} {σ τ : zI} {Q : zQ} {r : Nat} {w_r : Nat} {n_r : Nat} {o : Nat} {w_o : Nat} {n_o : Nat} (hr : kO S σ τ → oW S σ r w_r n_r) (ho : kO S σ τ → oW S σ o w_o n_o) (p0 : r + 2 ≤ o ∨ o + 2 ≤ r) (p1 : w_r = w_o ∧ n_r = n_o) (t : Q none S (uc (uc σ (r + 1) (cpF (σ o 2) w_r (σ (o + 1)) (σ (r + 1)))) r (u1 (σ r) 2 (σ o 2))) τ) : wc (d + 7) 60 [.ref r, .ref o] S σ τ Q := by
  refine wc_ok fun K => ?_
  have hr' := hr K
  have ho' := ho K
  obtain ⟨h1, h2, h3, hw, h5, h6, h7, h8, h9, -⟩ := id ho'
  have hcr := kO_r K o 2
  have a2 : 0 ≤ σ o 2 * w_o := Int.mul_nonneg h6 (by omega)
  refine wc_of mi_60 rfl (u_60_0 hr' ho' p0 ?_)
  obtain ⟨e1, e2⟩ := p1
  subst e1 e2
  have hm : min (σ o 2 * σ o 0) (n_r : Int) = σ o 2 * w_r := by rw [hw]; omega
  rw [hm]
  rw [hw]
  refine ⟨by omega, by omega, ?_⟩
  have ef : (fun k => if (0 : Int) ≤ k ∧ k < 0 + σ o 2 * (w_r : Int) then σ (o + 1) (0 + (k - 0)) else σ (r + 1) k) = fun k => if 0 ≤ k ∧ k < σ o 2 * (w_r : Int) then σ (o + 1) k else σ (r + 1) k := by
    funext k
    simp only [Int.zero_add, Int.sub_zero]
  rw [ef]
  exact ⟨⟨h6, h7⟩, t⟩
