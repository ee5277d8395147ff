/-! ===== both side by side: tellers and askings (segments printed by wip/whole, contracts own work) ===== -/
/-- the class at t shows a, which is sound -/
def MX (S : zS) (σ : zI) (t : Nat) (a : Int → Int) (j : Int) : Prop := RT σ t a ∧ RX S σ a ∧ BX S σ a ∧ WP a ∧ PB a ≤ 536240000 + 100000 * j ∧ a 6 ≤ 60
/-- class and reference behind j calls -/
def REL (S : zS) (σ : zI) (j : Int) : Prop := (MX S σ 2 (σ 84) j ∧ MX S σ 19 (σ 85) j ∧ σ 85 0 ≤ σ 84 0 ∧ σ 85 5 ≤ σ 84 5) ∧ (σ 82 = σ 87 ∧ σ 1 11 = σ 83 4 ∧ TB (σ 87) (σ 83 4)) ∧ (σ 63 5 = σ 83 5 ∧ σ 63 6 = σ 83 6) ∧ (σ 79 2 = σ 83 42 ∧ -1 ≤ σ 83 42 ∧ σ 80 = σ 99) ∧ zT S ∧ (∀ k j, k < 20 → S.2.2.2 55 k = some j → σ (j + 1) 0 = 8) ∧ RO S
/-- one call of both -/
def PairC (S : zS) (σ τ : zI) (j : Int) (Mc Mr : Nat) (As : List Value) : Prop := wc 59 Mc (.ref 1 :: As) S σ τ (fun r1 S1 σ1 τ1 => ∃ x : Int, r1 = some (.int (wI x)) ∧ (σ1 0 = σ 0 ∧ S1.2.2.1 0 = S.2.2.1 0) ∧ wc 59 Mr (.ref 83 :: As) S1 σ1 τ1 (fun r2 S2 σ2 _ => r2 = some (.int (wI x)) ∧ REL S2 σ2 (j + 1) ∧ σ2 0 = σ 0 ∧ S2.2.2.1 0 = S.2.2.1 0))
section RLS
variable {S : zS} {σ σ1 σ2 τ : zI} {j : Int} {a a' : Int → Int} {t : Nat}
theorem TX_cells {x : Nat} {n : Int} (o : oT S x) (f : ∀ c, 100 ≤ c → c < S.1 → σ2 c = σ c) (h : TX σ x a n) : TX σ2 x a n := by
  have b := oT_b o
  have l := (oT_3 o).2.1
  exact TX_f h (fun c c0 c1 => f c (by omega) (by omega))
theorem RX_cells (f : ∀ c, 100 ≤ c → c < S.1 → σ2 c = σ c) (h : RX S σ a) : RX S σ2 a := ⟨h.1, fun n n0 n1 => by
  obtain ⟨x, h1, h2, h3⟩ := h.2 n n0 n1
  exact ⟨x, h1, h2, TX_cells h2 f h3⟩⟩
theorem BX_cells (f : ∀ c, 100 ≤ c → c < S.1 → σ2 c = σ c) (h : BX S σ a) : BX S σ2 a := ⟨h.1, fun w w0 w1 => by
  obtain ⟨y, h1, h2, h3⟩ := h.2 w w0 w1
  have b := oB_b h2
  have l := (oB_7 h2).2.1
  exact ⟨y, h1, h2, BK_f h3 (fun c c0 c1 => f c (by omega) (by omega))⟩⟩
theorem MX_cells (f : ∀ c, 100 ≤ c → c < S.1 → σ2 c = σ c) (ft : ∀ c, t ≤ c → c ≤ t + 16 → σ2 c = σ c) (h : MX S σ t a j) : MX S σ2 t a j := ⟨RT_σ ft h.1, RX_cells f h.2.1, BX_cells f h.2.2.1, h.2.2.2⟩
theorem MX_j {k : Int} (h : MX S σ t a j) (hk : j ≤ k) : MX S σ t a k := by
  obtain ⟨h1, h2, h3, h4, h5, h6⟩ := h
  exact ⟨h1, h2, h3, h4, by omega, h6⟩
/-- nothing of it is other -/
theorem REL_g (R : REL S σ j) (f : ∀ c, (1 ≤ c ∧ c ≤ 35) ∨ c = 79 ∨ c = 80 ∨ c = 82 ∨ c = 84 ∨ c = 85 ∨ c = 87 ∨ 99 ≤ c → σ2 c = σ c) (f63 : σ2 63 5 = σ 63 5 ∧ σ2 63 6 = σ 63 6) (f83 : ∀ k, k = 4 ∨ k = 5 ∨ k = 6 ∨ k = 42 → σ2 83 k = σ 83 k) : REL S σ2 (j + 1) := by
  obtain ⟨⟨m1, m2, m3, m4⟩, ⟨t1, t2, t3⟩, ⟨e1, e2⟩, ⟨s1, s2, s3⟩, z1, z2, z3⟩ := R
  have e84 : σ2 84 = σ 84 := f 84 (by omega)
  have e85 : σ2 85 = σ 85 := f 85 (by omega)
  unfold REL
  rw [e84, e85, f 82 (by omega), f 87 (by omega), f 1 (by omega), f 79 (by omega), f 80 (by omega), f 99 (by omega), f83 4 (by omega), f83 5 (by omega), f83 6 (by omega), f83 42 (by omega), f63.1, f63.2]
  refine ⟨⟨MX_j (MX_cells (fun c c0 _ => f c (by omega)) (fun c c0 c1 => f c (by omega)) m1) (by omega), MX_j (MX_cells (fun c c0 _ => f c (by omega)) (fun c c0 c1 => f c (by omega)) m2) (by omega), m3, m4⟩, ⟨t1, t2, t3⟩, ⟨e1, e2⟩, ⟨s1, s2, s3⟩, z1, fun k i hk hi => ?_, z3⟩
  have o := oT_b (z1.1 k i hk hi)
  rw [f (i + 1) (by omega)]
  exact z2 k i hk hi
/-- a teller of both -/
theorem REL_t (R : REL S σ j) (f2 : F2 σ σ1) (rt : RT σ1 2 a') (w : WP a' ∧ PB a' ≤ PB (σ 84) + 100000) (e : eT (σ 84) a') (h6 : a' 6 ≤ 60) : REL S (uc σ1 84 a') (j + 1) := by
  obtain ⟨⟨m1, m2, m3, m4⟩, ⟨t1, t2, t3⟩, ⟨e1, e2⟩, ⟨s1, s2, s3⟩, z1, z2, z3⟩ := R
  obtain ⟨a1, a2, a3, a4, a5, a6⟩ := m1
  have hc := jC a4.1
  have f : ∀ c, (c < 2 ∨ 18 < c) → c ≠ 84 → uc σ1 84 a' c = σ c := fun c h1 h2 => by rw [uc_n h2]; exact f2 c h1
  have r2 : ∀ c, 2 ≤ c → c ≤ 2 + 16 → uc σ1 84 a' c = σ1 c := fun c h1 h2 => uc_n (by omega)
  have e0 := e 0 (by omega)
  have e5 := e 5 (by omega)
  unfold REL
  rw [uc_s, f 85 (by omega) (by omega), f 82 (by omega) (by omega), f 87 (by omega) (by omega), f 1 (by omega) (by omega), f 79 (by omega) (by omega), f 80 (by omega) (by omega), f 99 (by omega) (by omega), f 83 (by omega) (by omega), f 63 (by omega) (by omega)]
  refine ⟨⟨⟨RT_σ r2 rt, RX_x e a4.2.1 (RX_cells (fun c c0 _ => f c (by omega) (by omega)) a2), BX_x e hc (BX_cells (fun c c0 _ => f c (by omega) (by omega)) a3), w.1, by omega, h6⟩, MX_j (MX_cells (fun c c0 _ => f c (by omega) (by omega)) (fun c c0 c1 => f c (by omega) (by omega)) m2) (by omega), by omega, by omega⟩, ⟨t1, t2, t3⟩, ⟨e1, e2⟩, ⟨s1, s2, s3⟩, z1, fun k i hk hi => ?_, z3⟩
  have o := oT_b (z1.1 k i hk hi)
  rw [f (i + 1) (by omega) (by omega)]
  exact z2 k i hk hi
theorem REL_1 (R : REL S σ j) : MX S σ 2 (σ 84) j := R.1.1
end RLS
theorem pr_kind {S : zS} {σ τ : zI} {j : Int} {v1 v2 v3 v4 v5 v6 : Int} (R : REL S σ j) (hj : 0 ≤ j ∧ j ≤ 511) (r_v1 : rg v1) (r_v2 : rg v2) (r_v3 : rg v3) (r_v4 : rg v4) (r_v5 : rg v5) (r_v6 : rg v6) : PairC S σ τ j 145 206 [.int (wI v1), .int (wI v2), .int (wI v3), .int (wI v4), .int (wI v5), .int (wI v6)] := by
  obtain ⟨m1, m2, m3, m4, m5, m6⟩ := REL_1 R
  have hc := jC m4.1
  unfold jv_C at hc
  have ww := w_kind (a := σ 84) (k := v1) (picks := v2) (width := v3) (yarn := v4) (hard := v5) (extras := v6) m4
  refine q_145 (a := σ 84) m1 m4.1 m4.2.2.2.2.2 r_v1 r_v2 r_v3 r_v4 r_v5 r_v6 (fun σ1 rt f2 => ?_)
  have e84 : σ1 84 = σ 84 := f2 84 (by omega)
  refine ⟨_, rfl, ⟨f2 0 (by omega), rfl⟩, ?_⟩
  refine q_206 r_v1 r_v2 r_v3 r_v4 r_v5 r_v6 ?_
  rw [e84]
  exact ⟨rfl, REL_t R f2 rt ⟨ww.1.1, by have := ww.1.2; omega⟩ ww.2.1 (by have := ww.2.2; omega), by rw [uc_n (by decide)]; exact f2 0 (by omega), rfl⟩

theorem pr_price {S : zS} {σ τ : zI} {j : Int} {v1 v2 v3 : Int} (R : REL S σ j) (hj : 0 ≤ j ∧ j ≤ 511) (r_v1 : rg v1) (r_v2 : rg v2) (r_v3 : rg v3) : PairC S σ τ j 146 207 [.int (wI v1), .int (wI v2), .int (wI v3)] := by
  obtain ⟨m1, m2, m3, m4, m5, m6⟩ := REL_1 R
  have hc := jC m4.1
  unfold jv_C at hc
  have ww := w_price (a := σ 84) (what := v1) (week := v2) (v := v3) m4
  refine q_146 (a := σ 84) m1 m4.1 m4.2.2.2.2.2 r_v1 r_v2 r_v3 (fun σ1 rt f2 => ?_)
  have e84 : σ1 84 = σ 84 := f2 84 (by omega)
  refine ⟨_, rfl, ⟨f2 0 (by omega), rfl⟩, ?_⟩
  refine q_207 r_v1 r_v2 r_v3 ?_
  rw [e84]
  exact ⟨rfl, REL_t R f2 rt ⟨ww.1.1, by have := ww.1.2; omega⟩ ww.2.1 (by have := ww.2.2; omega), by rw [uc_n (by decide)]; exact f2 0 (by omega), rfl⟩

theorem pr_mean {S : zS} {σ τ : zI} {j : Int} {v1 v2 : Int} (R : REL S σ j) (hj : 0 ≤ j ∧ j ≤ 511) (r_v1 : rg v1) (r_v2 : rg v2) : PairC S σ τ j 147 208 [.int (wI v1), .int (wI v2)] := by
  obtain ⟨m1, m2, m3, m4, m5, m6⟩ := REL_1 R
  have hc := jC m4.1
  unfold jv_C at hc
  have ww := w_mean (a := σ 84) (what := v1) (v := v2) m4
  refine q_147 (a := σ 84) m1 m4.1 m4.2.2.2.2.2 r_v1 r_v2 (fun σ1 rt f2 => ?_)
  have e84 : σ1 84 = σ 84 := f2 84 (by omega)
  refine ⟨_, rfl, ⟨f2 0 (by omega), rfl⟩, ?_⟩
  refine q_208 r_v1 r_v2 ?_
  rw [e84]
  exact ⟨rfl, REL_t R f2 rt ⟨ww.1.1, by have := ww.1.2; omega⟩ ww.2.1 (by have := ww.2.2; omega), by rw [uc_n (by decide)]; exact f2 0 (by omega), rfl⟩

theorem pr_mill {S : zS} {σ τ : zI} {j : Int} {v1 v2 v3 v4 : Int} (R : REL S σ j) (hj : 0 ≤ j ∧ j ≤ 511) (r_v1 : rg v1) (r_v2 : rg v2) (r_v3 : rg v3) (r_v4 : rg v4) : PairC S σ τ j 149 211 [.int (wI v1), .int (wI v2), .int (wI v3), .int (wI v4)] := by
  obtain ⟨m1, m2, m3, m4, m5, m6⟩ := REL_1 R
  have hc := jC m4.1
  unfold jv_C at hc
  have ww := w_mill (a := σ 84) (looms := v1) (speed := v2) (coins := v3) (least := v4) m4
  refine q_149 (a := σ 84) m1 m4.1 m4.2.2.2.2.2 r_v1 r_v2 r_v3 r_v4 (fun σ1 rt f2 => ?_)
  have e84 : σ1 84 = σ 84 := f2 84 (by omega)
  refine ⟨_, rfl, ⟨f2 0 (by omega), rfl⟩, ?_⟩
  refine q_211 r_v1 r_v2 r_v3 r_v4 (by rw [e84]; omega) ?_
  rw [e84]
  exact ⟨rfl, REL_t R f2 rt ⟨ww.1.1, by have := ww.1.2; omega⟩ ww.2.1 (by have := ww.2.2; omega), by rw [uc_n (by decide)]; exact f2 0 (by omega), rfl⟩

theorem pr_shop {S : zS} {σ τ : zI} {j : Int} {v1 v2 v3 : Int} (R : REL S σ j) (hj : 0 ≤ j ∧ j ≤ 511) (r_v1 : rg v1) (r_v2 : rg v2) (r_v3 : rg v3) : PairC S σ τ j 150 212 [.int (wI v1), .int (wI v2), .int (wI v3)] := by
  obtain ⟨m1, m2, m3, m4, m5, m6⟩ := REL_1 R
  have hc := jC m4.1
  unfold jv_C at hc
  have ww := w_shop (a := σ 84) (coins := v1) (trust := v2) (rent := v3) m4
  refine q_150 (a := σ 84) m1 m4.1 m4.2.2.2.2.2 r_v1 r_v2 r_v3 (fun σ1 rt f2 => ?_)
  have e84 : σ1 84 = σ 84 := f2 84 (by omega)
  refine ⟨_, rfl, ⟨f2 0 (by omega), rfl⟩, ?_⟩
  refine q_212 r_v1 r_v2 r_v3 (by rw [e84]; omega) ?_
  rw [e84]
  exact ⟨rfl, REL_t R f2 rt ⟨ww.1.1, by have := ww.1.2; omega⟩ ww.2.1 (by have := ww.2.2; omega), by rw [uc_n (by decide)]; exact f2 0 (by omega), rfl⟩

theorem pr_home {S : zS} {σ τ : zI} {j : Int} {v1 v2 : Int} (R : REL S σ j) (hj : 0 ≤ j ∧ j ≤ 511) (r_v1 : rg v1) (r_v2 : rg v2) : PairC S σ τ j 151 213 [.int (wI v1), .int (wI v2)] := by
  obtain ⟨m1, m2, m3, m4, m5, m6⟩ := REL_1 R
  have hc := jC m4.1
  unfold jv_C at hc
  have ww := w_home (a := σ 84) (shop := v1) (coins := v2) m4
  refine q_151 (a := σ 84) m1 m4.1 m4.2.2.2.2.2 r_v1 r_v2 (fun σ1 rt f2 => ?_)
  have e84 : σ1 84 = σ 84 := f2 84 (by omega)
  refine ⟨_, rfl, ⟨f2 0 (by omega), rfl⟩, ?_⟩
  refine q_213 r_v1 r_v2 (by rw [e84]; omega) (by rw [e84]; omega) ?_
  rw [e84]
  exact ⟨rfl, REL_t R f2 rt ⟨ww.1.1, by have := ww.1.2; omega⟩ ww.2.1 (by have := ww.2.2; omega), by rw [uc_n (by decide)]; exact f2 0 (by omega), rfl⟩

theorem pr_person {S : zS} {σ τ : zI} {j : Int} {v1 v2 v3 : Int} (R : REL S σ j) (hj : 0 ≤ j ∧ j ≤ 511) (r_v1 : rg v1) (r_v2 : rg v2) (r_v3 : rg v3) : PairC S σ τ j 152 214 [.int (wI v1), .int (wI v2), .int (wI v3)] := by
  obtain ⟨m1, m2, m3, m4, m5, m6⟩ := REL_1 R
  have hc := jC m4.1
  unfold jv_C at hc
  have ww := w_person (a := σ 84) (home := v1) (age := v2) (skill := v3) m4
  refine q_152 (a := σ 84) m1 m4.1 m4.2.2.2.2.2 r_v1 r_v2 r_v3 (fun σ1 rt f2 => ?_)
  have e84 : σ1 84 = σ 84 := f2 84 (by omega)
  refine ⟨_, rfl, ⟨f2 0 (by omega), rfl⟩, ?_⟩
  refine q_214 r_v1 r_v2 r_v3 (by rw [e84]; omega) (by rw [e84]; omega) ?_
  rw [e84]
  exact ⟨rfl, REL_t R f2 rt ⟨ww.1.1, by have := ww.1.2; omega⟩ ww.2.1 (by have := ww.2.2; omega), by rw [uc_n (by decide)]; exact f2 0 (by omega), rfl⟩

theorem pr_work {S : zS} {σ τ : zI} {j : Int} {v1 v2 v3 v4 : Int} (R : REL S σ j) (hj : 0 ≤ j ∧ j ≤ 511) (r_v1 : rg v1) (r_v2 : rg v2) (r_v3 : rg v3) (r_v4 : rg v4) : PairC S σ τ j 153 218 [.int (wI v1), .int (wI v2), .int (wI v3), .int (wI v4)] := by
  obtain ⟨m1, m2, m3, m4, m5, m6⟩ := REL_1 R
  have hc := jC m4.1
  unfold jv_C at hc
  have ww := w_work (a := σ 84) (p := v1) (s := v2) (w := v3) (n := v4) m4
  refine q_153 (a := σ 84) m1 m4.1 m4.2.2.2.2.2 r_v1 r_v2 r_v3 r_v4 (fun σ1 rt f2 => ?_)
  have e84 : σ1 84 = σ 84 := f2 84 (by omega)
  refine ⟨_, rfl, ⟨f2 0 (by omega), rfl⟩, ?_⟩
  refine q_218 r_v1 r_v2 r_v3 r_v4 (by rw [e84]; exact m4.1) ?_
  rw [e84]
  exact ⟨rfl, REL_t R f2 rt ⟨ww.1.1, by have := ww.1.2; omega⟩ ww.2.1 (by have := ww.2.2; omega), by rw [uc_n (by decide)]; exact f2 0 (by omega), rfl⟩

theorem pr_order {S : zS} {σ τ : zI} {j : Int} {v1 v2 v3 v4 v5 : Int} (R : REL S σ j) (hj : 0 ≤ j ∧ j ≤ 511) (r_v1 : rg v1) (r_v2 : rg v2) (r_v3 : rg v3) (r_v4 : rg v4) (r_v5 : rg v5) : PairC S σ τ j 166 221 [.int (wI v1), .int (wI v2), .int (wI v3), .int (wI v4), .int (wI v5)] := by
  obtain ⟨m1, m2, m3, m4, m5, m6⟩ := REL_1 R
  have hc := jC m4.1
  unfold jv_C at hc
  have ww := w_order (a := σ 84) (kind := v1) (pieces := v2) (price := v3) (from_ := v4) (to := v5) m4
  refine q_166 (a := σ 84) m1 m4.1 m4.2.2.2.2.2 r_v1 r_v2 r_v3 r_v4 r_v5 (fun σ1 rt f2 => ?_)
  have e84 : σ1 84 = σ 84 := f2 84 (by omega)
  refine ⟨_, rfl, ⟨f2 0 (by omega), rfl⟩, ?_⟩
  refine q_221 r_v1 r_v2 r_v3 r_v4 r_v5 (by rw [e84]; omega) ?_
  rw [e84]
  exact ⟨rfl, REL_t R f2 rt ⟨ww.1.1, by have := ww.1.2; omega⟩ ww.2.1 (by have := ww.2.2; omega), by rw [uc_n (by decide)]; exact f2 0 (by omega), rfl⟩

theorem pr_terms {S : zS} {σ τ : zI} {j : Int} {v1 v2 : Int} (R : REL S σ j) (hj : 0 ≤ j ∧ j ≤ 511) (r_v1 : rg v1) (r_v2 : rg v2) : PairC S σ τ j 167 222 [.int (wI v1), .int (wI v2)] := by
  obtain ⟨m1, m2, m3, m4, m5, m6⟩ := REL_1 R
  have hc := jC m4.1
  unfold jv_C at hc
  have ww := w_terms (a := σ 84) (rail := v1) (dear := v2) m4
  refine q_167 (a := σ 84) m1 m4.1 m4.2.2.2.2.2 r_v1 r_v2 (fun σ1 rt f2 => ?_)
  have e84 : σ1 84 = σ 84 := f2 84 (by omega)
  refine ⟨_, rfl, ⟨f2 0 (by omega), rfl⟩, ?_⟩
  refine q_222 r_v1 r_v2 ?_
  rw [e84]
  exact ⟨rfl, REL_t R f2 rt ⟨ww.1.1, by have := ww.1.2; omega⟩ ww.2.1 (by have := ww.2.2; omega), by rw [uc_n (by decide)]; exact f2 0 (by omega), rfl⟩

theorem pr_fund {S : zS} {σ τ : zI} {j : Int} {v1 v2 v3 : Int} (R : REL S σ j) (hj : 0 ≤ j ∧ j ≤ 511) (r_v1 : rg v1) (r_v2 : rg v2) (r_v3 : rg v3) : PairC S σ τ j 168 223 [.int (wI v1), .int (wI v2), .int (wI v3)] := by
  obtain ⟨m1, m2, m3, m4, m5, m6⟩ := REL_1 R
  have hc := jC m4.1
  unfold jv_C at hc
  have ww := w_fund (a := σ 84) (more := v1) (levy := v2) (relief := v3) m4 (by omega)
  refine q_168 (a := σ 84) m1 m4.1 m4.2.2.2.2.2 r_v1 r_v2 r_v3 (fun σ1 rt f2 => ?_)
  have e84 : σ1 84 = σ 84 := f2 84 (by omega)
  refine ⟨_, rfl, ⟨f2 0 (by omega), rfl⟩, ?_⟩
  refine q_223 r_v1 r_v2 r_v3 ?_
  rw [e84]
  exact ⟨rfl, REL_t R f2 rt ⟨ww.1.1, by have := ww.1.2; omega⟩ ww.2.1 (by have := ww.2.2; omega), by rw [uc_n (by decide)]; exact f2 0 (by omega), rfl⟩

theorem pr_offer {S : zS} {σ τ : zI} {j : Int} {v1 v2 : Int} (R : REL S σ j) (hj : 0 ≤ j ∧ j ≤ 511) (r_v1 : rg v1) (r_v2 : rg v2) : PairC S σ τ j 180 305 [.int (wI v1), .int (wI v2)] := by
  obtain ⟨m1, m2, m3, m4, m5, m6⟩ := REL_1 R
  have hc := jC m4.1
  unfold jv_C at hc
  have ww := w_offer (a := σ 84) (side := v1) (v := v2) m4
  refine q_180 (a := σ 84) m1 m4.1 m4.2.2.2.2.2 r_v1 r_v2 (fun σ1 rt f2 => ?_)
  have e84 : σ1 84 = σ 84 := f2 84 (by omega)
  refine ⟨_, rfl, ⟨f2 0 (by omega), rfl⟩, ?_⟩
  refine q_305 r_v1 r_v2 ?_
  rw [e84]
  exact ⟨rfl, REL_t R f2 rt ⟨ww.1.1, by have := ww.1.2; omega⟩ ww.2.1 (by have := ww.2.2; omega), by rw [uc_n (by decide)]; exact f2 0 (by omega), rfl⟩

theorem pr_wish {S : zS} {σ τ : zI} {j : Int} {v1 v2 : Int} (R : REL S σ j) (hj : 0 ≤ j ∧ j ≤ 511) (r_v1 : rg v1) (r_v2 : rg v2) : PairC S σ τ j 182 307 [.int (wI v1), .int (wI v2)] := by
  obtain ⟨m1, m2, m3, m4, m5, m6⟩ := REL_1 R
  have hc := jC m4.1
  unfold jv_C at hc
  have ww := w_wish (a := σ 84) (kind := v1) (v := v2) m4
  refine q_182 (a := σ 84) m1 m4.1 m4.2.2.2.2.2 r_v1 r_v2 (fun σ1 rt f2 => ?_)
  have e84 : σ1 84 = σ 84 := f2 84 (by omega)
  refine ⟨_, rfl, ⟨f2 0 (by omega), rfl⟩, ?_⟩
  refine q_307 r_v1 r_v2 ?_
  rw [e84]
  exact ⟨rfl, REL_t R f2 rt ⟨ww.1.1, by have := ww.1.2; omega⟩ ww.2.1 (by have := ww.2.2; omega), by rw [uc_n (by decide)]; exact f2 0 (by omega), rfl⟩

theorem pr_meet {S : zS} {σ τ : zI} {j : Int}  (R : REL S σ j) (hj : 0 ≤ j ∧ j ≤ 511)  : PairC S σ τ j 181 306 [] := by
  obtain ⟨m1, m2, m3, m4, m5, m6⟩ := REL_1 R
  have hc := jC m4.1
  unfold jv_C at hc
  have ww := w_meet (a := σ 84)  m4
  refine q_181 (a := σ 84) m1 m4.1 m4.2.2.2.2.2  (fun σ1 rt f2 => ?_)
  have e84 : σ1 84 = σ 84 := f2 84 (by omega)
  refine ⟨_, rfl, ⟨f2 0 (by omega), rfl⟩, ?_⟩
  refine q_306 (by rw [e84]; exact jS m4.1) ?_
  rw [e84]
  exact ⟨rfl, REL_t R f2 rt ⟨ww.1.1, by have := ww.1.2; omega⟩ ww.2.1 (by have := ww.2.2; omega), by rw [uc_n (by decide)]; exact f2 0 (by omega), rfl⟩

theorem pr_force {S : zS} {σ τ : zI} {j : Int} {v1 v2 v3 v4 : Int} (R : REL S σ j) (hj : 0 ≤ j ∧ j ≤ 511) (r_v1 : rg v1) (r_v2 : rg v2) (r_v3 : rg v3) (r_v4 : rg v4) : PairC S σ τ j 161 219 [.int (wI v1), .int (wI v2), .int (wI v3), .int (wI v4)] := by
  obtain ⟨m1, m2, m3, m4, m5, m6⟩ := REL_1 R
  have hc := jC m4.1
  unfold jv_C at hc
  have ww := w_force (a := σ 84) (text := v1) (mill := v2) (from_ := v3) (to := v4) m4 m6
  refine q_161 (a := σ 84) m1 m4.1 m4.2.2.2.2.2 m6 r_v1 r_v2 r_v3 r_v4 (fun σ1 rt f2 => ?_)
  have e84 : σ1 84 = σ 84 := f2 84 (by omega)
  refine ⟨_, rfl, ⟨f2 0 (by omega), rfl⟩, ?_⟩
  refine q_219 r_v1 r_v2 r_v3 r_v4 (by rw [e84]; omega) (by rw [e84]; omega) (by rw [e84]; omega) ?_
  rw [e84]
  exact ⟨rfl, REL_t R f2 rt ⟨ww.1.1, by have := ww.1.2; omega⟩ ww.2.1 (by have := ww.2.2; omega), by rw [uc_n (by decide)]; exact f2 0 (by omega), rfl⟩

theorem pr_strike {S : zS} {σ τ : zI} {j : Int} {v1 v2 : Int} (R : REL S σ j) (hj : 0 ≤ j ∧ j ≤ 511) (r_v1 : rg v1) (hon : v2 = 0 ∨ v2 = 1) : PairC S σ τ j 169 224 [.int (wI v1), .int (wI v2)] := by
  obtain ⟨m1, m2, m3, m4, m5, m6⟩ := REL_1 R
  have hc := jC m4.1
  unfold jv_C at hc
  have ww := w_strike (a := σ 84) (mill := v1) (on := v2) m4 hon
  refine q_169 (a := σ 84) m1 m4.1 m4.2.2.2.2.2 r_v1 hon (fun σ1 rt f2 => ?_)
  have e84 : σ1 84 = σ 84 := f2 84 (by omega)
  refine ⟨_, rfl, ⟨f2 0 (by omega), rfl⟩, ?_⟩
  refine q_224 r_v1 (by omega) (by rw [e84]; omega) hon ?_
  rw [e84]
  exact ⟨rfl, REL_t R f2 rt ⟨ww.1.1, by have := ww.1.2; omega⟩ ww.2.1 (by have := ww.2.2; omega), by rw [uc_n (by decide)]; exact f2 0 (by omega), rfl⟩
theorem pr_priceOf {S : zS} {σ τ : zI} {j : Int} {v1 v2 : Int} (R : REL S σ j) (r_v1 : rg v1) (r_v2 : rg v2) : PairC S σ τ j 148 210 [.int (wI v1), .int (wI v2)] := by
  obtain ⟨m1, m2, m3, m4, m5, m6⟩ := REL_1 R
  have hc := jC m4.1
  have hc' := hc
  unfold jv_C at hc
  exact q_148 (a := σ 84) m1 r_v1 r_v2 ⟨_, rfl, ⟨rfl, rfl⟩, q_210 r_v1 r_v2 ⟨rfl, REL_g R (fun _ _ => rfl) ⟨rfl, rfl⟩ (fun _ _ => rfl), rfl, rfl⟩⟩

theorem pr_hours {S : zS} {σ τ : zI} {j : Int} {v1 v2 v3 v4 : Int} (R : REL S σ j) (r_v1 : rg v1) (r_v2 : rg v2) (r_v3 : rg v3) (r_v4 : rg v4) : PairC S σ τ j 165 277 [.int (wI v1), .int (wI v2), .int (wI v3), .int (wI v4)] := by
  obtain ⟨m1, m2, m3, m4, m5, m6⟩ := REL_1 R
  have hc := jC m4.1
  have hc' := hc
  unfold jv_C at hc
  exact q_165 (a := σ 84) m1 m2 (Jl_of m4.1) m4.2.1 r_v1 r_v2 r_v3 r_v4 ⟨_, rfl, ⟨rfl, rfl⟩, q_277 (Jl_of m4.1) m4.2.1 r_v1 r_v2 r_v3 r_v4 ⟨rfl, REL_g R (fun _ _ => rfl) ⟨rfl, rfl⟩ (fun _ _ => rfl), rfl, rfl⟩⟩

theorem pr_millOf {S : zS} {σ τ : zI} {j : Int} {v1 v2 : Int} (R : REL S σ j) (r_v1 : rg v1) (r_v2 : rg v2) : PairC S σ τ j 171 295 [.int (wI v1), .int (wI v2)] := by
  obtain ⟨m1, m2, m3, m4, m5, m6⟩ := REL_1 R
  have hc := jC m4.1
  have hc' := hc
  unfold jv_C at hc
  exact q_171 (a := σ 84) m1 m4.1 r_v1 r_v2 ⟨_, rfl, ⟨rfl, rfl⟩, q_295 r_v1 r_v2 m4.1 ⟨rfl, REL_g R (fun _ _ => rfl) ⟨rfl, rfl⟩ (fun _ _ => rfl), rfl, rfl⟩⟩

theorem pr_homeOf {S : zS} {σ τ : zI} {j : Int} {v1 v2 : Int} (R : REL S σ j) (r_v1 : rg v1) (r_v2 : rg v2) : PairC S σ τ j 172 297 [.int (wI v1), .int (wI v2)] := by
  obtain ⟨m1, m2, m3, m4, m5, m6⟩ := REL_1 R
  have hc := jC m4.1
  have hc' := hc
  unfold jv_C at hc
  exact q_172 (a := σ 84) m1 m4.1 r_v1 r_v2 ⟨_, rfl, ⟨rfl, rfl⟩, q_297 r_v1 r_v2 m4.1 ⟨rfl, REL_g R (fun _ _ => rfl) ⟨rfl, rfl⟩ (fun _ _ => rfl), rfl, rfl⟩⟩

theorem pr_personOf {S : zS} {σ τ : zI} {j : Int} {v1 v2 : Int} (R : REL S σ j) (r_v1 : rg v1) (r_v2 : rg v2) : PairC S σ τ j 173 298 [.int (wI v1), .int (wI v2)] := by
  obtain ⟨m1, m2, m3, m4, m5, m6⟩ := REL_1 R
  have hc := jC m4.1
  have hc' := hc
  unfold jv_C at hc
  exact q_173 (a := σ 84) m1 m4.1 r_v1 r_v2 ⟨_, rfl, ⟨rfl, rfl⟩, q_298 r_v1 r_v2 (by omega) ⟨rfl, REL_g R (fun _ _ => rfl) ⟨rfl, rfl⟩ (fun _ _ => rfl), rfl, rfl⟩⟩

theorem pr_shopOf {S : zS} {σ τ : zI} {j : Int} {v1 v2 : Int} (R : REL S σ j) (r_v1 : rg v1) (r_v2 : rg v2) : PairC S σ τ j 174 299 [.int (wI v1), .int (wI v2)] := by
  obtain ⟨m1, m2, m3, m4, m5, m6⟩ := REL_1 R
  have hc := jC m4.1
  have hc' := hc
  unfold jv_C at hc
  exact q_174 (a := σ 84) m1 m4.1 r_v1 r_v2 ⟨_, rfl, ⟨rfl, rfl⟩, q_299 r_v1 r_v2 m4.1 ⟨rfl, REL_g R (fun _ _ => rfl) ⟨rfl, rfl⟩ (fun _ _ => rfl), rfl, rfl⟩⟩

theorem pr_orderOf {S : zS} {σ τ : zI} {j : Int} {v1 v2 : Int} (R : REL S σ j) (r_v1 : rg v1) (r_v2 : rg v2) : PairC S σ τ j 175 300 [.int (wI v1), .int (wI v2)] := by
  obtain ⟨m1, m2, m3, m4, m5, m6⟩ := REL_1 R
  have hc := jC m4.1
  have hc' := hc
  unfold jv_C at hc
  exact q_175 (a := σ 84) m1 m4.1 r_v1 r_v2 ⟨_, rfl, ⟨rfl, rfl⟩, q_300 r_v1 r_v2 (by omega) ⟨rfl, REL_g R (fun _ _ => rfl) ⟨rfl, rfl⟩ (fun _ _ => rfl), rfl, rfl⟩⟩

theorem pr_book {S : zS} {σ τ : zI} {j : Int} {v1 v2 v3 : Int} (R : REL S σ j) (r_v1 : rg v1) (r_v2 : rg v2) (r_v3 : rg v3) : PairC S σ τ j 177 301 [.int (wI v1), .int (wI v2), .int (wI v3)] := by
  obtain ⟨m1, m2, m3, m4, m5, m6⟩ := REL_1 R
  have hc := jC m4.1
  have hc' := hc
  unfold jv_C at hc
  exact q_177 (a := σ 84) m1 m3 hc' r_v1 r_v2 r_v3 ⟨_, rfl, ⟨rfl, rfl⟩, q_301 r_v1 r_v2 r_v3 m4.1 ⟨rfl, REL_g R (fun _ _ => rfl) ⟨rfl, rfl⟩ (fun _ _ => rfl), rfl, rfl⟩⟩

theorem pr_proof {S : zS} {σ τ : zI} {j : Int} {v1 v2 : Int} (R : REL S σ j) (r_v1 : rg v1) (r_v2 : rg v2) : PairC S σ τ j 184 311 [.int (wI v1), .int (wI v2)] := by
  obtain ⟨m1, m2, m3, m4, m5, m6⟩ := REL_1 R
  have hc := jC m4.1
  have hc' := hc
  unfold jv_C at hc
  exact q_184 (a := σ 84) m1 (jK m4.1) r_v1 r_v2 ⟨_, rfl, ⟨rfl, rfl⟩, q_311 r_v1 r_v2 ⟨rfl, REL_g R (fun _ _ => rfl) ⟨rfl, rfl⟩ (fun _ _ => rfl), rfl, rfl⟩⟩
section PRM
variable {S : zS} {σ τ : zI} {j v1 v2 v3 v4 v5 : Int}
theorem pr_fault (R : REL S σ j) (r_v1 : rg v1) : PairC S σ τ j 160 260 [.int (wI v1)] := by
  obtain ⟨e1, e2⟩ := R.2.2.1
  refine q_160 r_v1 ⟨_, rfl, ⟨rfl, rfl⟩, q_260 r_v1 ?_⟩
  rw [← e1, ← e2]
  exact ⟨rfl, REL_g R (fun _ _ => rfl) ⟨rfl, rfl⟩ (fun _ _ => rfl), rfl, rfl⟩
theorem pr_about (R : REL S σ j) (r_v1 : rg v1) : PairC S σ τ j 193 326 [.int (wI v1)] := by
  obtain ⟨m1, m2, m3, m4, m5, m6⟩ := REL_1 R
  have hc := jC m4.1
  have hc' := hc
  unfold jv_C at hc
  have e := R.2.1.2.1
  refine q_193 (a := σ 84) m1 m2 hc' r_v1 ⟨_, rfl, ⟨rfl, rfl⟩, q_326 r_v1 (by omega) ?_⟩
  rw [← e]
  exact ⟨rfl, REL_g R (fun _ _ => rfl) ⟨rfl, rfl⟩ (fun _ _ => rfl), rfl, rfl⟩
theorem pr_onSheet (R : REL S σ j) (r_v1 : rg v1) (r_v2 : rg v2) : PairC S σ τ j 188 321 [.int (wI v1), .int (wI v2)] := by
  obtain ⟨s1, s2, s3⟩ := R.2.2.2.1
  refine q_188 r_v1 r_v2 ⟨_, rfl, ⟨rfl, rfl⟩, q_321 r_v1 r_v2 ⟨?_, REL_g R (fun _ _ => rfl) ⟨rfl, rfl⟩ (fun _ _ => rfl), rfl, rfl⟩⟩
  have e : (if ((0 ≤ v1 ∧ v1 ≤ 7) ∧ (0 ≤ v2 ∧ v2 ≤ 23)) ∧ 0 ≤ σ 83 42 then σ 99 (24 * v1 + v2) else -1) = (if ((0 ≤ v1 ∧ v1 ≤ 7) ∧ (0 ≤ v2 ∧ v2 ≤ 23)) ∧ ¬ σ 79 2 = -1 then σ 80 (v1 * 24 + v2) else -1) := by
    rw [s3, show v1 * 24 + v2 = 24 * v1 + v2 by omega]
    by_cases c : ((0 ≤ v1 ∧ v1 ≤ 7) ∧ (0 ≤ v2 ∧ v2 ≤ 23)) ∧ 0 ≤ σ 83 42
    · rw [if_pos c, if_pos ⟨c.1, by omega⟩]
    · rw [if_neg c, if_neg (fun z => c ⟨z.1, by omega⟩)]
  rw [e]
theorem pr_pay (R : REL S σ j) (r_v1 : rg v1) (r_v2 : rg v2) (r_v3 : rg v3) (r_v4 : rg v4) : PairC S σ τ j 163 273 [.int (wI v1), .int (wI v2), .int (wI v3), .int (wI v4)] := by
  obtain ⟨m1, m2, m3, m4, m5, m6⟩ := REL_1 R
  refine q_163 (a := σ 84) m1 m2 (Jl_of m4.1) m4.2.1 m4.2.2.1 r_v1 r_v2 r_v3 r_v4 (fun σ1 τ1 f => ⟨_, rfl, ⟨f.1 0 (by decide), rfl⟩, ?_⟩)
  have e84 : σ1 84 = σ 84 := f.1 84 (by decide)
  refine q_273 (by rw [e84]; exact Jl_of m4.1) (by rw [e84]; exact m4.2.1) (by rw [e84]; exact m4.2.2.1) r_v1 r_v2 r_v3 r_v4 (fun σ2 τ2 g => ?_)
  rw [e84]
  exact ⟨rfl, REL_g R (fun c hc => by rw [g.1 c (by omega) (by omega) (by omega), f.1 c (by omega)]) ⟨by rw [g.1 63 (by decide) (by decide) (by decide), f.1 63 (by decide)], by rw [g.1 63 (by decide) (by decide) (by decide), f.1 63 (by decide)]⟩ (fun k hk => by rw [g.2.1 k (by omega), f.1 83 (by decide)]), by rw [g.1 0 (by decide) (by decide) (by decide), f.1 0 (by decide)], rfl⟩
theorem pr_why (R : REL S σ j) (r_v1 : rg v1) (r_v2 : rg v2) (r_v3 : rg v3) (r_v4 : rg v4) (r_v5 : rg v5) : PairC S σ τ j 164 274 [.int (wI v1), .int (wI v2), .int (wI v3), .int (wI v4), .int (wI v5)] := by
  obtain ⟨m1, m2, m3, m4, m5, m6⟩ := REL_1 R
  refine q_164 (a := σ 84) m1 m2 (Jl_of m4.1) m4.2.1 m4.2.2.1 r_v1 r_v2 r_v3 r_v4 r_v5 (fun σ1 τ1 f => ⟨_, rfl, ⟨f.1 0 (by decide), rfl⟩, ?_⟩)
  have e84 : σ1 84 = σ 84 := f.1 84 (by decide)
  refine q_274 (by rw [e84]; exact Jl_of m4.1) (by rw [e84]; exact m4.2.1) (by rw [e84]; exact m4.2.2.1) r_v1 r_v2 r_v3 r_v4 r_v5 (fun σ2 τ2 g => ?_)
  rw [e84]
  exact ⟨rfl, REL_g R (fun c hc => by rw [g.1 c (by omega) (by omega) (by omega), f.1 c (by omega)]) ⟨by rw [g.1 63 (by decide) (by decide) (by decide), f.1 63 (by decide)], by rw [g.1 63 (by decide) (by decide) (by decide), f.1 63 (by decide)]⟩ (fun k hk => by rw [g.2.1 k (by omega), f.1 83 (by decide)]), by rw [g.1 0 (by decide) (by decide) (by decide), f.1 0 (by decide)], rfl⟩
theorem pr_made (R : REL S σ j) (r_v1 : rg v1) (r_v2 : rg v2) (r_v3 : rg v3) (r_v4 : rg v4) : PairC S σ τ j 183 310 [.int (wI v1), .int (wI v2), .int (wI v3), .int (wI v4)] := by
  obtain ⟨m1, m2, m3, m4, m5, m6⟩ := REL_1 R
  refine q_183 (a := σ 84) m1 (jK m4.1) r_v1 r_v2 r_v3 r_v4 (fun v σ1 f h1 h2 => ⟨_, rfl, ⟨f 0 (by decide) (by decide), rfl⟩, ?_⟩)
  have e84 : σ1 84 = σ 84 := f 84 (by decide) (by decide)
  refine q_310 r_v1 r_v2 r_v3 r_v4 (by rw [e84]; exact jK m4.1) (fun v' g1 g2 => ?_)
  rw [e84] at g1 g2
  have e : v' = v := by
    by_cases c : k_md (σ 84) v1 v2 v3 v4
    · exact MD_u (g1 c) (h1 c)
    · rw [g2 c, h2 c]
  rw [e]
  exact ⟨rfl, REL_g R (fun c hc => f c (by omega) (by omega)) ⟨by rw [f 63 (by decide) (by decide)], by rw [f 63 (by decide) (by decide)]⟩ (fun k _ => by rw [f 83 (by decide) (by decide)]), f 0 (by decide) (by decide), rfl⟩
theorem pr_shared (R : REL S σ j) (r_v1 : rg v1) (r_v2 : rg v2) : PairC S σ τ j 185 315 [.int (wI v1), .int (wI v2)] := by
  obtain ⟨m1, m2, m3, m4, m5, m6⟩ := REL_1 R
  have hc := jC m4.1
  unfold jv_C at hc
  refine q_185 (a := σ 84) m1 m2 m4.1 m4.2.1 m4.2.2.1 r_v1 r_v2 (fun v σ1 τ1 f h1 h2 => ⟨_, rfl, ⟨f.1 0 (by decide) (by decide) (by decide) (by decide) (by decide) (by decide) (by decide), rfl⟩, ?_⟩)
  have e84 : σ1 84 = σ 84 := f.1 84 (by decide) (by decide) (by decide) (by decide) (by decide) (by decide) (by decide)
  refine q_315 (by rw [e84]; exact m4.1) (by rw [e84]; exact m4.2.1) (by rw [e84]; exact m4.2.2.1) r_v1 r_v2 (fun v' σ2 τ2 g g1 g2 => ?_)
  rw [e84] at g1 g2
  have e : v' = v := by
    by_cases c : (0 ≤ v1 ∧ v1 ≤ 100000) ∧ σ 84 0 < 400 ∧ (v2 = -1 ∨ v2 = -2 ∨ 0 ≤ v2 ∧ v2 < σ 84 1)
    · exact SV_u (by omega) c.1.1 (g1 c) (h1 c)
    · rw [g2 c, h2 c]
  rw [e]
  have ff : ∀ c, c ≠ 54 → c ≠ 67 → c ≠ 69 → c ≠ 72 → c ≠ 73 → c ≠ 74 → c ≠ 75 → c ≠ 83 → c ≠ 91 → c ≠ 92 → c ≠ 95 → c ≠ 98 → σ2 c = σ c := fun c h1 h2 h3 h4 h5 h6 h7 h8 h9 h10 h11 h12 => by rw [g.1 c h8 h9 h10 h11 h12, f.1 c h1 h2 h3 h4 h5 h6 h7]
  have f63 : σ2 63 = σ 63 := ff 63 (by decide) (by decide) (by decide) (by decide) (by decide) (by decide) (by decide) (by decide) (by decide) (by decide) (by decide) (by decide)
  exact ⟨rfl, REL_g R (fun c hc => ff c (by omega) (by omega) (by omega) (by omega) (by omega) (by omega) (by omega) (by omega) (by omega) (by omega) (by omega) (by omega)) ⟨by rw [f63], by rw [f63]⟩ (fun k hk => by rw [g.2 k (by omega), f.1 83 (by decide) (by decide) (by decide) (by decide) (by decide) (by decide) (by decide)]), ff 0 (by decide) (by decide) (by decide) (by decide) (by decide) (by decide) (by decide) (by decide) (by decide) (by decide) (by decide) (by decide), rfl⟩
theorem pr_loaf (R : REL S σ j) (r_v1 : rg v1) (r_v2 : rg v2) : PairC S σ τ j 186 317 [.int (wI v1), .int (wI v2)] := by
  obtain ⟨m1, m2, m3, m4, m5, m6⟩ := REL_1 R
  have hc := jC m4.1
  refine q_186 (a := σ 84) m1 m3 hc m4.2.2.2.2.1 r_v1 r_v2 (fun v h1 h2 => ⟨_, rfl, ⟨rfl, rfl⟩, q_317 r_v1 r_v2 hc m4.2.2.2.2.1 (fun v' g1 g2 => ?_)⟩)
  have e : v' = v := by
    by_cases c : (0 ≤ v1 ∧ v1 < σ 84 15) ∧ (0 ≤ v2 ∧ v2 ≤ 4)
    · exact LF_u hc m4.2.2.2.2.1 (g1 c) (h1 c)
    · rw [g2 c, h2 c]
  rw [e]
  exact ⟨rfl, REL_g R (fun _ _ => rfl) ⟨rfl, rfl⟩ (fun _ _ => rfl), rfl, rfl⟩
theorem pr_check (R : REL S σ j) (r_v1 : rg v1) : PairC S σ τ j 190 323 [.int (wI v1)] := by
  obtain ⟨m1, m2, m3, m4, m5, m6⟩ := REL_1 R
  obtain ⟨s1, s2, s3⟩ := R.2.2.2.1
  have hc := jC m4.1
  refine q_190 (a := σ 84) m1 m3 m4.1 m4.2.2.2.2.1 r_v1 (fun σ1 f => ⟨_, rfl, ⟨f 0 (by decide), rfl⟩, ?_⟩)
  have e84 : σ1 84 = σ 84 := f 84 (by decide)
  refine q_323 r_v1 (by rw [e84]; exact hc) ?_
  rw [e84, f 83 (by decide), f 99 (by decide), s1, s3]
  exact ⟨rfl, REL_g R (fun c hc => f c (by omega)) ⟨by rw [f 63 (by decide)], by rw [f 63 (by decide)]⟩ (fun k _ => by rw [f 83 (by decide)]), f 0 (by decide), rfl⟩
end PRM
