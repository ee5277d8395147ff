/-! ===== a WEEK of the class, whole (segments printed by wip/whole, contracts own work) ===== -/
section END
variable {S : zS} {σ σ1 : zI} {a : Int → Int} {t y : Nat}
/-- a book of another WEEK -/
theorem BK_w (h : WP a) (h0 : a 0 ≤ 399) {w : Int} (hw : 0 ≤ w ∧ w < a 0) (q : BK σ y a w) : BK σ y (r_week a) w := by
  have hC := jC h.1
  unfold jv_C at hC
  obtain ⟨q1, q2, q3, q4, q5⟩ := q
  have b : ∀ f x, 0 ≤ x → x < 24 → wkF f → r_week a (f + 24 * w + x) = a (f + 24 * w + x) := fun f x x0 x1 hf => rW_b h h0 (by omega)
  refine ⟨fun p p0 p1 => ?_, fun m m0 m1 => ?_, fun x x0 x1 => ?_, ?_, ?_⟩
  · rw [rW_w h h0 (by omega), rW_w h h0 (by omega), wk_ab_W (by omega) (by omega) (by omega) ⟨p0, p1⟩, wk_ab_A (by omega) (by omega) (by omega) ⟨p0, p1⟩, if_neg (by omega), if_neg (by omega)]
    exact q1 p p0 p1
  · rw [rW_w h h0 (by omega), wk_ab_R (by omega) (by omega) (by omega) (by omega) ⟨m0, m1⟩, if_neg (by omega)]
    exact q2 m m0 m1
  · rw [b 22300 x x0 x1 (by omega), b 31900 x x0 x1 (by omega), b 51100 x x0 x1 (by omega), b 41500 x x0 x1 (by omega)]
    exact q3 x x0 x1
  · rw [q4]
    exact sI_c (fun x x0 x1 => (b 41500 x x0 x1 (by omega)).symm)
  · rw [rW_w h h0 (by omega), wk_ab_L (by omega) (by omega) (by omega) (by omega), if_neg (by omega)]
    exact q5
/-- the book of this WEEK -/
theorem BK_n (h : WP a) (h0 : a 0 ≤ 399) (bw : (∀ p, 0 ≤ p → p < 60 → σ (y + 1) p = (if p < a 4 then wk_W2 a p else 0) ∧ σ (y + 2) p = (if p < a 4 then a (3652 + 12 * p + 4) else -1)) ∧ (∀ m, 0 ≤ m → m < 8 → σ (y + 3) m = if m < a 1 then wk_by a m else -1) ∧ ∀ x, 0 ≤ x → x < 24 → σ (y + 4) x = wk_E a x (a 4)) (k5 : ∀ x, 0 ≤ x → x < 24 → σ (y + 5) x = A6 a (31900 + 24 * a 0 + x) ∧ σ (y + 6) x = A6 a (51100 + 24 * a 0 + x) ∧ σ (y + 7) x = A6 a (41500 + 24 * a 0 + x) - A6 a (51100 + 24 * a 0 + x)) (y7 : σ y 7 = sI (fun x => A6 a (41500 + 24 * a 0 + x)) 24) (y8 : σ y 8 = wk_lf a) : BK σ y (r_week a) (a 0) := by
  have hC := jC h.1
  unfold jv_C at hC
  have z := h.2.2.2.2.2
  refine ⟨fun p p0 p1 => ?_, fun m m0 m1 => ?_, fun x x0 x1 => ?_, ?_, ?_⟩
  · have zp := fun (g : a 4 ≤ p) => z.2.2.2.2.2.1 (a 0) p (by omega) (by omega) p0 p1 (Or.inr g)
    rw [rW_w h h0 (by omega), rW_w h h0 (by omega), wk_ab_W (by omega) (by omega) (by omega) ⟨p0, p1⟩, wk_ab_A (by omega) (by omega) (by omega) ⟨p0, p1⟩]
    have q := bw.1 p p0 p1
    by_cases g : p < a 4
    · rw [if_pos g, if_pos g] at q
      rw [if_pos ⟨rfl, g⟩, if_pos ⟨rfl, g⟩]
      exact ⟨q.1, by rw [q.2]; omega⟩
    · rw [if_neg g, if_neg g] at q
      have zz := zp (by omega)
      rw [if_neg (fun q => g q.2), if_neg (fun q => g q.2), zz.1, zz.2]
      exact ⟨q.1, by rw [q.2]; omega⟩
  · have q := bw.2.1 m m0 m1
    rw [rW_w h h0 (by omega), wk_ab_R (by omega) (by omega) (by omega) (by omega) ⟨m0, m1⟩, q]
    by_cases g : m < a 1
    · rw [if_pos g, if_pos ⟨rfl, g⟩]; omega
    · have zz := z.2.2.2.2.2.2 (a 0) m (by omega) (by omega) m0 m1 (Or.inr (by omega))
      rw [if_neg g, if_neg (fun q => g q.2), zz]; omega
  · have v := rW_bh h h0 ⟨x0, x1⟩
    rw [v.1, (v.2.2 31900 (by omega)).1, (v.2.2 51100 (by omega)).1, (v.2.2 41500 (by omega)).1]
    exact ⟨bw.2.2 x x0 x1, k5 x x0 x1⟩
  · rw [y7]
    exact sI_c (fun x x0 x1 => ((rW_bh h h0 ⟨x0, x1⟩).2.2 41500 (by omega)).1.symm)
  · rw [y8, rW_w h h0 (by omega), wk_ab_L (by omega) (by omega) (by omega) (by omega), if_pos rfl]
theorem rT_M_w (h : WP a) (h0 : a 0 ≤ 399) {TK : Int → Int} (q : cT_M σ t a (MI3 a (a 1)) TK) : rT_M σ t (r_week a) := by
  have hC := jC h.1
  unfold jv_C at hC
  have c := rW_c h h0
  refine ⟨by rw [c.1]; exact q.1, fun m m0 m1 => ?_⟩
  rw [c.1] at m1
  have x := (q.2 m m0 m1).1
  have e : ∀ c, 0 ≤ c → c < 16 → r_week a (3300 + 16 * m + c) = MI3 a (a 1) m c := fun c c0 c1 => rW_m h h0 (by omega) ⟨c0, c1⟩
  rw [e 0 (by omega) (by omega), e 2 (by omega) (by omega), e 4 (by omega) (by omega), e 5 (by omega) (by omega), e 6 (by omega) (by omega), e 7 (by omega) (by omega), e 8 (by omega) (by omega), e 9 (by omega) (by omega), e 10 (by omega) (by omega), e 1 (by omega) (by omega), e 3 (by omega) (by omega)]
  exact ⟨x 0 0 (by omega), x 2 2 (by omega), x 3 4 (by omega), x 4 5 (by omega), x 5 6 (by omega), x 6 7 (by omega), x 7 8 (by omega), x 8 9 (by omega), x 9 10 (by omega), x 10 1 (by omega), x 11 3 (by omega)⟩
theorem rT_O_w (h : WP a) (h0 : a 0 ≤ 399) (q : cT_O σ t a (OD3 a (a 1))) : rT_O σ t (r_week a) := by
  have hC := jC h.1
  unfold jv_C at hC
  have c := rW_c h h0
  refine ⟨by rw [c.2.2.2.2.2.2]; exact q.1, fun o o0 o1 => ?_⟩
  rw [c.2.2.2.2.2.2] at o1
  have e : ∀ c, 0 ≤ c → c < 8 → r_week a (4372 + 8 * o + c) = OD3 a (a 1) o c := fun c c0 c1 => rW_o h h0 (by omega) ⟨c0, c1⟩
  have e0 := e 0 (by omega) (by omega)
  rw [Int.add_zero] at e0
  rw [e0, e 1 (by omega) (by omega), e 2 (by omega) (by omega), e 3 (by omega) (by omega), e 4 (by omega) (by omega)]
  exact ⟨q.2 o 0 o0 o1 (by omega) (by omega), q.2 o 1 o0 o1 (by omega) (by omega), q.2 o 2 o0 o1 (by omega) (by omega), q.2 o 3 o0 o1 (by omega) (by omega), q.2 o 4 o0 o1 (by omega) (by omega)⟩
theorem rT_Q_w (h : WP a) (h0 : a 0 ≤ 399) (q : rT_Q σ t (A7 a)) : rT_Q σ t (r_week a) := by
  have hC := jC h.1
  unfold jv_C at hC
  have c := rW_c h h0
  have c7 := A7_c h h0
  refine ⟨by rw [c.2.1, ← c7.2.2.1]; exact q.1, fun s s0 s1 => ?_⟩
  rw [c.2.1] at s1
  have y := q.2 s s0 (by omega)
  have e : ∀ k, 0 < k → k < 3460 → r_week a k = A7 a k := fun k k0 k1 => by rw [rW_k (by omega), A8_k h h0 (by omega)]
  have eD : r_debts (r_week a) s = r_debts (A7 a) s := by
    unfold r_debts
    refine sI_e (by rw [c.2.2.1, c7.2.2.2.1]) (fun x x0 x1 => ?_)
    rw [c.2.2.1] at x1
    rw [rW_k (k := 3460 + 8 * x + 0) (by omega), rW_k (k := 3460 + 8 * x + 2) (by omega), A8_h h h0 (by omega), A8_h h h0 (by omega)]
  rw [eD, e (3428 + 8 * s) (by omega) (by omega), e (3428 + 8 * s + 1) (by omega) (by omega), e (3428 + 8 * s + 2) (by omega) (by omega), e (3428 + 8 * s + 3) (by omega) (by omega)]
  exact y
theorem rT_P_w (h : WP a) (h0 : a 0 ≤ 399) (q : rT_P σ t (A8 a)) : rT_P σ t (r_week a) := by
  have hC := jC h.1
  unfold jv_C at hC
  have c := rW_c h h0
  have e4 : A8 a 4 = a 4 := by rw [← c.2.2.2.1, rW_k (by omega)]
  refine ⟨by rw [c.2.2.2.1, ← e4]; exact q.1, fun p p0 p1 k k0 k1 => ?_⟩
  rw [c.2.2.2.1] at p1
  rw [rW_k (by omega)]
  exact q.2 p p0 (by omega) k k0 k1
theorem rT_H_w (h : WP a) (h0 : a 0 ≤ 399) (n9 : σ (t + 9) 2 = a 3) (q : ∀ x, 0 ≤ x → x < a 3 → σ (t + 10) (x * 8 + 0) = A6 a (3460 + 8 * x + 1) ∧ σ (t + 10) (x * 8 + 1) = A6 a (3460 + 8 * x + 2) ∧ σ (t + 10) (x * 8 + 2) = A8 a (3460 + 8 * x + 3) ∧ σ (t + 10) (x * 8 + 3) = r_need a x ∧ σ (t + 10) (x * 8 + 4) = r_pers a x ∧ σ (t + 10) (x * 8 + 5) = A6 a (22300 + 24 * a 0 + x) ∧ σ (t + 10) (x * 8 + 6) = A6 a (31900 + 24 * a 0 + x) ∧ σ (t + 10) (x * 8 + 7) = A6 a (3460 + 8 * x + 0)) : rT_H σ t (r_week a) := by
  have hC := jC h.1
  unfold jv_C at hC
  have c := rW_c h h0
  refine ⟨by rw [c.2.2.1]; exact n9, fun x x0 x1 => ?_⟩
  rw [c.2.2.1] at x1
  have v := rW_bh h h0 (x := x) (by omega)
  have nd := rW_need h h0 x
  have lt : ∀ f, wkF f → r_late (r_week a) f x = A6 a (f + 24 * a 0 + x) := fun f hf => by
    unfold r_late
    rw [rW_0, if_neg (by omega), show a 0 + 1 - 1 = a 0 by omega]
    exact (v.2.2 f hf).1
  have e : ∀ k, 3460 ≤ k ∧ k < 3652 ∧ (k - 3460) % 8 ≠ 3 → r_week a k = A6 a k := fun k hk => by rw [rW_k (by omega), A8_h h h0 hk, A7_k h h0 (by omega)]
  rw [nd.1, nd.2, lt 22300 (by omega), lt 31900 (by omega), e (3460 + 8 * x + 0) (by omega), e (3460 + 8 * x + 1) (by omega), e (3460 + 8 * x + 2) (by omega), rW_k (k := 3460 + 8 * x + 3) (by omega)]
  exact q x x0 x1
end END
theorem q_109 {d : Nat} {S : zS} {σ τ : zI} {Q : zQ} {tn : Nat} {a : Int → Int} (htn : tw tn) (p0 : RT σ tn a) (p1 : RX S σ a) (p2 : BX S σ a) (p3 : WP a) (p4 : a 0 ≤ 399) (t : ∀ S1 σ1 τ1 y, OP S S1 (a 0) y → RT σ1 tn (r_week a) → RX S1 σ1 (r_week a) → BX S1 σ1 (r_week a) → PW S σ σ1 tn y → TW a σ σ1 → Q none S1 σ1 τ1) : wc (d + 14) 109 [.ref 53, .ref tn] S σ τ Q := by
  refine wc_ok fun K => ?_
  have s100 := K.1.1
  have tb := tw_b htn
  obtain ⟨hJ, hT, hE, hU, hB, hZ⟩ := id p3
  have hC := jC hJ
  unfold jv_C at hC
  have c0 : σ tn 8 = a 0 := (tS p0).1
  refine wc_of mi_109 rfl (u_109_0 htn ?_)
  rw [c0]
  refine q_2 (by omega) p2.1 (fun S1 σ1 τ1 y op f fτ cb => ?_)
  show wi (d + 14) 109 11 [.ref 53, .ref tn, .retAddr 0] [.ref y] S1 σ1 τ1 Q
  have ob := op.2.1
  have yb := oB_b ob
  have zb1 := zB_op p2.1 op s100 (by omega)
  have f0 : ∀ c, c < 100 → σ1 c = σ c := fun c hc => f c (by omega) (by omega)
  have R0 : RT σ1 tn a := RT_σ (fun c h1 h2 => f0 c (by omega)) p0
  have X0 : RX S1 σ1 a := RX_op p1 op s100 f
  refine u_109_11 htn ob ⟨a, R0, hJ, p4, fun σ2 bc => ?_⟩
  have f2 := bc.2.2.2.2
  have C0 : CB0 σ2 tn a := ⟨bc.1, fun p q0 q1 => by
    rw [f2 (tn + 12) (by omega) (by omega) (by omega) (by omega) (by omega) (by omega)]
    exact (tP R0).2 p q0 q1 8 (by omega) (by omega)⟩
  have X2 : RX S1 σ2 a := RX_f X0 (fun c hc => f2 c (by omega) (by omega) (by omega) (by omega) (by omega) (by omega))
  refine ⟨a, C0, X2, hJ, hT, hE, p4, bc.2.2.2.1, fun σ3 τ3 f3 f3k py => ?_⟩
  have X3 : RX S1 σ3 a := RX_f X2 (fun c hc => f3 c (by omega) (by omega))
  have C3 : CB0 σ3 tn a := ⟨CS_f (fun c hc => f3 c (by omega) (by omega)) C0.1, fun p q0 q1 => by rw [f3 (tn + 12) (by omega) (by omega)]; exact C0.2 p q0 q1⟩
  refine ⟨a, C3, X3, hJ, hT, p4, fun p q0 q1 => by rw [f3 60 (by decide) (by decide)]; exact (bc.2.2.1 p q0 q1).1, fun σ4 f4 hh => ?_⟩
  have C4 : CB0 σ4 tn a := ⟨CS_f (fun c hc => f4 c (by omega)) C3.1, fun p q0 q1 => by rw [f4 (tn + 12) (by omega)]; exact C3.2 p q0 q1⟩
  have ct4 : σ4 53 5 = wk_ct a := by rw [f4 53 (by decide), f3 53 (by decide) (by decide)]; exact bc.2.1.1
  have py4 : PYk σ4 a := fun o m o0 o1 m0 m1 h1 h2 => by rw [f4 62 (by decide)]; exact py o m o0 o1 m0 m1 h1 h2
  refine ⟨a, CT1_0 C4, hJ, hT, p4, ct4, py4, hh, fun σ5 f5 T5 => ?_⟩
  have ct5 : σ5 53 5 = wk_ct a := by rw [f5 53 (by omega) (by omega) (by omega)]; exact ct4
  have py5 : PYk σ5 a := fun o m o0 o1 m0 m1 h1 h2 => by rw [f5 62 (by omega) (by omega) (by omega)]; exact py4 o m o0 o1 m0 m1 h1 h2
  refine ⟨a, CTq_0 T5, hJ, hT, p4, ct5, py5, fun p q0 q1 => by rw [f5 60 (by omega) (by omega) (by omega)]; exact hh p q0 q1, fun p q0 q1 => by rw [f5 61 (by omega) (by omega) (by omega), f4 61 (by decide), f3 61 (by decide) (by decide)]; exact (bc.2.2.1 p q0 q1).2, fun σ6 f6 T6 w6 => ?_⟩
  refine ⟨a, T6, hJ, hT, p4, w6, fun σ7 f7 k7 t9 t8 T7 => ?_⟩
  refine ⟨a, T7, hJ, hT, p4, hU, fun p q0 q1 => by rw [f7 61 (by decide) (by omega) (by omega)]; exact w6 p q0 q1, fun σ8 f8 k8 g13 w8 => ?_⟩
  have CP8 : cT_P σ8 tn a (PE2 a (a 1)) := cP_f (f8 _ (by omega) (by omega)) (f8 _ (by omega) (by omega)) T7.2.1
  have CM8 : cT_M σ8 tn a (MI3 a (a 1)) (TKq a (a 4)) := cM_f (f8 _ (by omega) (by omega)) (f8 _ (by omega) (by omega)) T7.2.2.1
  have CO8 : cT_O σ8 tn a (OD3 a (a 1)) := cO_f (f8 _ (by omega) (by omega)) (f8 _ (by omega) (by omega)) T7.2.2.2
  -- all that did not change up to here
  have F8 : ∀ c, c < 53 ∨ 62 < c ∨ c = 55 ∨ c = 56 ∨ c = 57 ∨ c = 58 ∨ c = 59 → c ≠ tn → c ≠ tn + 6 → c ≠ tn + 12 → c ≠ tn + 14 → σ8 c = σ1 c := fun c h1 h2 h3 h4 h5 => by
    rw [f8 c (by omega) h2, f7 c (by omega) h3 h5, f6 c (by omega) h3 h4, f5 c h3 h4 h5, f4 c (by omega), f3 c (by omega) (by omega), f2 c (by omega) (by omega) (by omega) (by omega) h3 h5]
  have cb8 : CB σ8 y := CB_f cb (fun c h1 h2 => F8 c (by omega) (by omega) (by omega) (by omega) (by omega))
  refine ⟨a, ⟨CP8, CM8⟩, hJ, hT, p4, cb8, w8, fun σ9 f9 pe bw => ?_⟩
  have F9 : ∀ c, c < 53 ∨ 62 < c ∨ c = 55 ∨ c = 56 ∨ c = 57 ∨ c = 58 ∨ c = 59 → c ≠ tn → c ≠ tn + 6 → c ≠ tn + 12 → c ≠ tn + 14 → c < y + 1 ∨ y + 4 < c → σ9 c = σ1 c := fun c h1 h2 h3 h4 h5 h6 => by
    rw [f9 c h4 (by omega) (by omega) (by omega) (by omega), F8 c h1 h2 h3 h4 h5]
  have k9 : ∀ k, k ≠ 13 → σ9 tn k = σ1 tn k := fun k hk => by
    rw [f9 tn (by omega) (by omega) (by omega) (by omega) (by omega), k8 k hk, f7 tn (by omega) (by omega) (by omega), f6 tn (by omega) (by omega) (by omega), f5 tn (by omega) (by omega) (by omega), f4 tn (by omega), f3 tn (by omega) (by omega), f2 tn (by omega) (by omega) (by omega) (by omega) (by omega) (by omega)]
  have g9 : σ9 tn 13 = wk_F2 a (a 4) := by rw [f9 tn (by omega) (by omega) (by omega) (by omega) (by omega)]; exact g13
  have c5 := A5_c (a := a) (by omega)
  have e5 : ∀ k, 3428 ≤ k → k < 3652 → A5 a k = a k := fun k k0 k1 => A5_k (by omega) (by omega) (by omega)
  have Q0 := tQ R0
  have H0 := tH R0
  have W0 := tW R0
  have CH9 : CH σ9 tn (A5 a) := by
    refine ⟨by rw [k9 8 (by omega), c5.1]; exact (tS R0).1, gQ (F9 _ (by omega) (by omega) (by omega) (by omega) (by omega) (by omega)) (F9 _ (by omega) (by omega) (by omega) (by omega) (by omega) (by omega)) c5.2.2.1 c5.2.2.2.1 (fun k k0 k1 => e5 k (by omega) (by omega)) (fun k k0 k1 => e5 k (by omega) (by omega)) Q0, by rw [F9 (tn + 9) (by omega) (by omega) (by omega) (by omega) (by omega) (by omega), c5.2.2.2.1]; exact H0.1, fun x x0 x1 => ?_⟩
    rw [c5.2.2.2.1] at x1
    have q := H0.2 x x0 x1
    rw [F9 (tn + 10) (by omega) (by omega) (by omega) (by omega) (by omega) (by omega), e5 (3460 + 8 * x + 1) (by omega) (by omega), e5 (3460 + 8 * x + 2) (by omega) (by omega), e5 (3460 + 8 * x + 3) (by omega) (by omega), e5 (3460 + 8 * x + 0) (by omega) (by omega), A5_need (by omega) (by omega)]
    exact ⟨q.1, q.2.1, q.2.2.1, q.2.2.2.1, q.2.2.2.2.2.2.2⟩
  have bo : ∀ w, 0 ≤ w → w < a 0 → ∃ y', S1.2.2.2 59 w.toNat = some y' ∧ oB S1 y' ∧ BK σ1 y' a w ∧ (y + 8 ≤ y' ∨ y' + 8 ≤ y) := fun w w0 w1 => by
    obtain ⟨y', q1, q2, q3⟩ := p2.2 w w0 w1
    have q1' : S1.2.2.2 59 w.toNat = some y' := by rw [op.2.2.2.2.1 59 w.toNat (by omega) (by omega)]; exact q1
    have q2' := oB_op op q2
    have ne : y ≠ y' := fun e => by
      have := zb1.2 (a 0).toNat w.toNat y (by omega) (by omega) op.1 (by rw [e]; exact q1')
      omega
    have dj := oB_dj ob q2' ne
    have l := (oB_7 q2).2.1
    exact ⟨y', q1', q2', BK_f q3 (fun c h1 h2 => f c (by omega) (by omega)), dj⟩
  have hz : ∀ x, 0 ≤ x → x < 24 → A5 a 3 ≤ x ∨ A5 a (3460 + 8 * x + 3) ≠ 0 → hg_e (A5 a) x (A5 a 4) = 0 := fun x x0 x1 g => by
    rw [c5.2.2.2.1, e5 _ (by omega) (by omega)] at g
    rw [c5.2.2.2.2.1, hg_e5 p3 p4 (by omega)]
    exact wk_E_0 p3 (by omega)
  refine ⟨A5 a, wk_lf a, a, CH9, WP_H p3 p4, ⟨?_, by rw [c5.1]; rfl⟩, ⟨fun x x0 x1 => ?_, bw.2.2.2⟩, hz, ⟨zb1, by rw [c5.1]; exact op.1⟩, fun w w0 w1 => ?_, ?_, A5_z p3 p4, fun σ10 σ11 ki kb e10 => ?_⟩
  · exact gW (F9 _ (by omega) (by omega) (by omega) (by omega) (by omega) (by omega)) (F9 _ (by omega) (by omega) (by omega) (by omega) (by omega) (by omega)) (fun _ _ _ => rfl) (fun _ _ _ => rfl) W0
  · have q := bw.2.2.1 x x0 x1
    rw [c5.2.2.2.2.1, hg_e5 p3 p4 (by omega)]
    exact q
  · rw [c5.1] at w1
    obtain ⟨y', q1, q2, q3, q4⟩ := bo w w0 w1
    have b' := oB_b q2
    refine ⟨y', q1, fun x x0 x1 => ?_⟩
    rw [F9 (y' + 4) (by omega) (by omega) (by omega) (by omega) (by omega) (by omega), A5_k (by omega) (by omega) (by omega)]
    exact (q3.2.2.1 x x0 x1).1
  · rw [k9 10 (by omega), c5.2.2.2.2.2.2.2.2]; exact (tS R0).2.2.1
  have e6 : r_hgs (A5 a) (wk_lf a) (A5 a 3) = A6 a := by rw [c5.2.2.2.1]; rfl
  rw [e6] at ki kb e10
  obtain ⟨⟨fk, k53, s6, s7⟩, ⟨ch0, chQ, ch9, chH⟩, k5, ⟨y7, y8⟩, cl⟩ := ki
  rw [c5.1, c5.2.2.2.1] at s6 s7
  rw [c5.1] at y7
  have k5' : ∀ x, 0 ≤ x → x < 24 → σ11 (y + 5) x = A6 a (31900 + 24 * a 0 + x) ∧ σ11 (y + 6) x = A6 a (51100 + 24 * a 0 + x) ∧ σ11 (y + 7) x = A6 a (41500 + 24 * a 0 + x) - A6 a (51100 + 24 * a 0 + x) := fun x x0 x1 => by
    have := k5 x x0 x1
    rw [c5.1] at this
    exact this
  have cl' : ∀ x, 0 ≤ x → x < a 3 → σ11 (tn + 10) (x * 8 + 4) = σ9 (tn + 10) (x * 8 + 4) ∧ σ11 (tn + 10) (x * 8 + 5) = A6 a (22300 + 24 * a 0 + x) ∧ σ11 (tn + 10) (x * 8 + 6) = A6 a (31900 + 24 * a 0 + x) := fun x x0 x1 => by
    have := cl x x0 (by rw [c5.2.2.2.1]; exact x1)
    rw [c5.1, c5.2.2.2.1] at this
    exact ⟨this.1, this.2 x1⟩
  have c6 := A6_c p3 p4
  have c7 := A7_c p3 p4
  have f10 : ∀ c, c ≠ tn → σ10 c = σ11 c := fun c hc => by rw [e10, uc_n hc]
  have hi := (HI_I (WP_H p3 p4) (A5 a 3) (by omega) (Int.le_refl _)).1
  rw [e6] at hi
  refine ⟨A6 a, gQ (f10 _ (by omega)) (f10 _ (by omega)) rfl rfl (fun _ _ _ => rfl) (fun _ _ _ => rfl) chQ, by omega, fun s s0 s1 => ?_, fun σ12 f12 q12 => ?_⟩
  · have x := hi.2.2.2.1 s s0 s1
    have d0 : 0 ≤ r_debts (A6 a) s := sI_p0 (by omega) (fun x x0 x1 => by
      have := (hi.2.2.1 x x0 x1).2.2.2
      try dsimp only
      split <;> omega)
    have e2 : A6 a (3428 + 8 * s + 2) = a (3428 + 8 * s + 2) := by rw [A6_k p3 p4 (by omega), e5 _ (by omega) (by omega)]
    have e3 : A6 a (3428 + 8 * s + 3) = a (3428 + 8 * s + 3) := by rw [A6_k p3 p4 (by omega), e5 _ (by omega) (by omega)]
    have jq := jQ hJ s s0 (by omega)
    rw [e2, e3]
    exact ⟨by omega, jq.2.1, jq.2.2⟩
  have q12' : rT_Q σ12 tn (A7 a) := by rw [c6.2.2.1] at q12; exact q12
  have F12 : ∀ c, c ≠ 53 → c ≠ tn → c ≠ tn + 8 → c ≠ tn + 10 → c ≠ y → c ≠ y + 5 → c ≠ y + 6 → c ≠ y + 7 → σ12 c = σ9 c := fun c h1 h2 h3 h4 h5 h6 h7 h8 => by
    rw [f12 c h3, f10 c h2, fk c h1 h3 h4 h5 h6 h7 h8]
  have t12 : ∀ k, k ≠ 10 → σ12 tn k = σ9 tn k := fun k hk => by
    rw [f12 tn (by omega), e10, uc_s, u1_n hk, fk tn (by omega) (by omega) (by omega) (by omega) (by omega) (by omega) (by omega)]
  have t12' : σ12 tn 10 = A6 a 15 := by rw [f12 tn (by omega), e10, uc_s, u1_s]
  have h10 : σ12 (tn + 10) = σ11 (tn + 10) := by rw [f12 _ (by omega), f10 _ (by omega)]
  have hrow := fun x x0 (x1 : x < a 3) => chH x x0 (by omega)
  refine ⟨A7 a, ⟨by rw [t12 8 (by omega), k9 8 (by omega), c7.1]; exact (tS R0).1, by omega, by omega⟩, ⟨by rw [F12 (tn + 9) (by omega) (by omega) (by omega) (by omega) (by omega) (by omega) (by omega) (by omega), F9 (tn + 9) (by omega) (by omega) (by omega) (by omega) (by omega) (by omega), c7.2.2.2.1]; exact H0.1, by omega, by omega⟩, fun x x0 x1 => ?_, ⟨⟨?_, fun p q0 q1 k k0 k1 => ?_⟩, by omega, by omega⟩, zb1, fun w x w0 w1 x0 x1 => ?_, fun x x0 x1 => ?_, fun σ13 f13 q13 gk gn => ?_⟩
  · rw [c7.2.2.2.1] at x1
    have v := (A7_h p3 p4).1 x x0 x1
    have jh := (jH hJ x x0 x1).2.2.2
    have e6g : A6 a (3460 + 8 * x + 3) = a (3460 + 8 * x + 3) := by rw [A6_k p3 p4 (by omega), e5 _ (by omega) (by omega)]
    rw [h10, (hrow x x0 x1).2.2.1, v.2.2.2, e6g]
    exact ⟨rfl, jh.1, jh.2⟩
  · rw [F12 (tn + 11) (by omega) (by omega) (by omega) (by omega) (by omega) (by omega) (by omega) (by omega), F9 (tn + 11) (by omega) (by omega) (by omega) (by omega) (by omega) (by omega), c7.2.2.2.2]
    exact (tP R0).1
  · rw [c7.2.2.2.2] at q1
    rw [F12 (tn + 12) (by omega) (by omega) (by omega) (by omega) (by omega) (by omega) (by omega) (by omega), pe p k q0 q1 k0 k1, A7_p p3 p4 (by omega) (by omega)]
    unfold PE4
    by_cases e8 : k = 8
    · rw [if_pos e8, if_pos ⟨e8, q1⟩]
    · rw [if_neg e8, if_neg (fun z => e8 z.1)]
      exact CP8.2 p k q0 q1 k0 (by omega)
  · rw [c7.1] at w1
    obtain ⟨y', q1, q2, q3, q4⟩ := bo w w0 w1
    have b' := oB_b q2
    have e7 : A7 a (31900 + 24 * w + x) = a (31900 + 24 * w + x) := by rw [A7_k p3 p4 (by omega), A6_k p3 p4 (by omega), A5_k (by omega) (by omega) (by omega)]
    have hu := ((hB.1 w w0 w1).2.2.2.1 x x0 x1).2.1
    rw [e7]
    refine ⟨?_, hu.1, hu.2⟩
    unfold eI
    rw [if_pos (by omega), q1]
    show σ12 (y' + 5) x = _
    rw [F12 (y' + 5) (by omega) (by omega) (by omega) (by omega) (by omega) (by omega) (by omega) (by omega), F9 (y' + 5) (by omega) (by omega) (by omega) (by omega) (by omega) (by omega)]
    exact (q3.2.2.1 x x0 x1).2.1
  · have v := rW_bh p3 p4 (x := x) ⟨x0, x1⟩
    have v1 := (v.2.2 31900 (by omega)).1
    have v2 := v.2.1.2.1
    rw [v1] at v2
    rw [f12 (y + 5) (by omega), f10 (y + 5) (by omega), (k5' x x0 x1).1, c7.1, A7_k p3 p4 (by omega)]
    exact ⟨rfl, v2⟩
  rw [c7.1, c7.2.2.2.1] at q13 gn
  rw [c7.2.2.2.1] at gk
  have t13 : σ13 tn = σ12 tn := f13 _ (by omega) (by omega)
  have e8 : r_week a 8 = wk_F2 a (a 4) := by
    rw [rW_5 p3 p4 (by omega)]
    unfold A5
    rw [As_k (by omega)]
    exact wk_ab_8 (by omega)
  obtain ⟨σF, hF⟩ : ∃ σF, σF = uc σ13 tn (u1 (σ13 tn) 8 (a 0 + 1)) := ⟨_, rfl⟩
  have FF : ∀ c, c ≠ 53 → c ≠ tn → c ≠ tn + 8 → c ≠ tn + 10 → c ≠ tn + 12 → c ≠ y → c ≠ y + 5 → c ≠ y + 6 → c ≠ y + 7 → σF c = σ9 c := fun c h1 h2 h3 h4 h5 h6 h7 h8 h9 => by
    rw [hF, uc_n h2, f13 c h4 h5, F12 c h1 h2 h3 h4 h6 h7 h8 h9]
  have F1 : ∀ c, c < 53 ∨ 62 < c ∨ c = 55 ∨ c = 56 ∨ c = 57 ∨ c = 58 ∨ c = 59 → c ≠ tn → c ≠ tn + 6 → c ≠ tn + 8 → c ≠ tn + 10 → c ≠ tn + 12 → c ≠ tn + 14 → c < y ∨ y + 7 < c → σF c = σ1 c := fun c h1 h2 h3 h4 h5 h6 h7 h8 => by
    rw [FF c (by omega) h2 h4 h5 h6 (by omega) (by omega) (by omega) (by omega), F9 c h1 h2 h3 h6 h7 (by omega)]
  have F13 : ∀ c, c ≠ tn → σF c = σ13 c := fun c hc => by rw [hF, uc_n hc]
  have tF_ : σF tn = u1 (σ13 tn) 8 (a 0 + 1) := by rw [hF, uc_s]
  have tk : ∀ k, k ≠ 8 → k ≠ 10 → k ≠ 13 → σF tn k = σ1 tn k := fun k h1 h2 h3 => by rw [tF_, u1_n h1, t13, t12 k h2, k9 k h3]
  have RF : RT σF tn (r_week a) := by
    refine ⟨?_, gK (F1 _ (by omega) (by omega) (by omega) (by omega) (by omega) (by omega) (by omega) (by omega)) (F1 _ (by omega) (by omega) (by omega) (by omega) (by omega) (by omega) (by omega) (by omega)) (fun k k0 k1 => rW_a p3 p4 (by omega)) (tK R0), gW (F1 _ (by omega) (by omega) (by omega) (by omega) (by omega) (by omega) (by omega) (by omega)) (F1 _ (by omega) (by omega) (by omega) (by omega) (by omega) (by omega) (by omega) (by omega)) (fun k k0 k1 => rW_a p3 p4 (by omega)) (fun k k0 k1 => rW_a p3 p4 (by omega)) (tW R0), rT_M_w p3 p4 (cM_f (σ := σ8) ?_ ?_ CM8), rT_Q_w p3 p4 (gQ (σ := σ12) ?_ ?_ rfl rfl (fun _ _ _ => rfl) (fun _ _ _ => rfl) q12'), rT_H_w p3 p4 ?_ (fun x x0 x1 => ?_), rT_P_w p3 p4 ⟨?_, fun p q0 q1 k k0 k1 => ?_⟩, rT_O_w p3 p4 (cO_f (σ := σ8) ?_ ?_ CO8), gF (F1 _ (by omega) (by omega) (by omega) (by omega) (by omega) (by omega) (by omega) (by omega)) (F1 _ (by omega) (by omega) (by omega) (by omega) (by omega) (by omega) (by omega) (by omega)) (rW_a p3 p4 (by omega)) (fun k k0 k1 => rW_a p3 p4 (by omega)) (tF R0)⟩
    · have S0 := tS R0
      unfold rT_S at *
      refine ⟨by rw [tF_, u1_s, rW_0], by rw [tk 9 (by omega) (by omega) (by omega), rW_a p3 p4 (by omega)]; exact S0.2.1, by rw [tF_, u1_n (by omega), t13, t12', rW_k (by omega), A8_k p3 p4 (by omega), A7_k p3 p4 (by omega)], ?_, ?_, by rw [tF_, u1_n (by omega), t13, t12 13 (by omega), g9, e8], ?_, ?_, ?_, ?_⟩
      · rw [tk 11 (by omega) (by omega) (by omega), rW_a p3 p4 (by omega)]; exact S0.2.2.2.1
      · rw [tk 12 (by omega) (by omega) (by omega), rW_a p3 p4 (by omega)]; exact S0.2.2.2.2.1
      · rw [tk 14 (by omega) (by omega) (by omega), rW_a p3 p4 (by omega)]; exact S0.2.2.2.2.2.2.1
      · rw [tk 15 (by omega) (by omega) (by omega), rW_a p3 p4 (by omega)]; exact S0.2.2.2.2.2.2.2.1
      · rw [tk 16 (by omega) (by omega) (by omega), rW_a p3 p4 (by omega)]; exact S0.2.2.2.2.2.2.2.2.1
      · rw [tk 17 (by omega) (by omega) (by omega), rW_a p3 p4 (by omega)]; exact S0.2.2.2.2.2.2.2.2.2
    · rw [FF (tn + 5) (by omega) (by omega) (by omega) (by omega) (by omega) (by omega) (by omega) (by omega) (by omega), f9 (tn + 5) (by omega) (by omega) (by omega) (by omega) (by omega)]
    · rw [FF (tn + 6) (by omega) (by omega) (by omega) (by omega) (by omega) (by omega) (by omega) (by omega) (by omega), f9 (tn + 6) (by omega) (by omega) (by omega) (by omega) (by omega)]
    · rw [F13 _ (by omega), f13 _ (by omega) (by omega)]
    · rw [F13 _ (by omega), f13 _ (by omega) (by omega)]
    · rw [F1 (tn + 9) (by omega) (by omega) (by omega) (by omega) (by omega) (by omega) (by omega) (by omega)]; exact H0.1
    · have nd : r_need (A6 a) x = r_need a x := by
        rw [(gNeed (a := A5 a) (a' := A6 a) (by rw [c6.2.2.2.2, c5.2.2.2.2.1]) (fun k k0 k1 => A6_k p3 p4 (by omega)) x).1]
        exact A5_need (by omega) (by omega) x
      have g : ∀ c, c ≠ 2 → 0 ≤ c → c ≤ 7 → σF (tn + 10) (x * 8 + c) = σ11 (tn + 10) (x * 8 + c) := fun c h1 h2 h3 => by
        rw [F13 _ (by omega), gk _ (fun h _ _ => by omega), h10]
      have r := hrow x x0 x1
      have l := cl' x x0 x1
      rw [g 0 (by omega) (by omega) (by omega), g 1 (by omega) (by omega) (by omega), g 3 (by omega) (by omega) (by omega), g 4 (by omega) (by omega) (by omega), g 5 (by omega) (by omega) (by omega), g 6 (by omega) (by omega) (by omega), g 7 (by omega) (by omega) (by omega), F13 _ (by omega), ← nd]
      refine ⟨r.1, r.2.1, gn x x0 x1, r.2.2.2.1, ?_, l.2.1, l.2.2, r.2.2.2.2⟩
      rw [l.1, F9 (tn + 10) (by omega) (by omega) (by omega) (by omega) (by omega) (by omega)]
      exact (H0.2 x x0 x1).2.2.2.2.1
    · rw [F13 _ (by omega)]; exact q13.1
    · rw [F13 _ (by omega)]; exact q13.2 p q0 q1 k k0 k1
    · rw [FF (tn + 13) (by omega) (by omega) (by omega) (by omega) (by omega) (by omega) (by omega) (by omega) (by omega), f9 (tn + 13) (by omega) (by omega) (by omega) (by omega) (by omega)]
    · rw [FF (tn + 14) (by omega) (by omega) (by omega) (by omega) (by omega) (by omega) (by omega) (by omega) (by omega), f9 (tn + 14) (by omega) (by omega) (by omega) (by omega) (by omega)]
  have fy : ∀ c, c = y ∨ c = y + 5 ∨ c = y + 6 ∨ c = y + 7 → σF c = σ11 c := fun c hc => by
    rw [F13 c (by omega), f13 c (by omega) (by omega), f12 c (by omega), f10 c (by omega)]
  have f53 : σF 53 = σ11 53 := by rw [F13 53 (by omega), f13 53 (by omega) (by omega), f12 53 (by omega), f10 53 (by omega)]
  have e53 : ∀ k, k ≠ 5 → σ6 53 k = σ 53 k := fun k hk => by
    rw [f6 53 (by omega) (by omega) (by omega), f5 53 (by omega) (by omega) (by omega), f4 53 (by omega), f3 53 (by omega) (by omega), bc.2.1.2 k hk, f0 53 (by omega)]
  have e97 : ∀ k, σ9 53 k = σ7 53 k := fun k => by
    rw [f9 53 (by omega) (by omega) (by omega) (by omega) (by omega), f8 53 (by omega) (by omega)]
  refine ⟨a 0 + 1, by rw [t13, t12 8 (by omega), k9 8 (by omega), (tS R0).1], by omega, ?_⟩
  rw [← hF]
  refine t S1 σF τ3 y op RF (RX_e (eL_w p3 p4) hT (RX_fy X0 ob (fun c h1 h2 h3 => F1 c (by omega) (by omega) (by omega) (by omega) (by omega) (by omega) (by omega) h3))) ⟨zb1, fun w w0 w1 => ?_⟩ ⟨fun c h1 h2 h3 h4 => ?_, fun k hk => ?_⟩ ⟨?_, ?_, ?_, ?_⟩
  · rw [rW_0] at w1
    by_cases e : w = a 0
    · subst e
      refine ⟨y, op.1, ob, BK_n p3 p4 ⟨fun p q0 q1 => ?_, fun m m0 m1 => ?_, fun x x0 x1 => ?_⟩ (fun x x0 x1 => ?_) ?_ ?_⟩
      · rw [FF (y + 1) (by omega) (by omega) (by omega) (by omega) (by omega) (by omega) (by omega) (by omega) (by omega), FF (y + 2) (by omega) (by omega) (by omega) (by omega) (by omega) (by omega) (by omega) (by omega) (by omega)]
        exact bw.1 p q0 q1
      · rw [FF (y + 3) (by omega) (by omega) (by omega) (by omega) (by omega) (by omega) (by omega) (by omega) (by omega)]
        exact bw.2.1 m m0 m1
      · rw [FF (y + 4) (by omega) (by omega) (by omega) (by omega) (by omega) (by omega) (by omega) (by omega) (by omega)]
        exact (bw.2.2.1 x x0 x1).1
      · rw [fy (y + 5) (by omega), fy (y + 6) (by omega), fy (y + 7) (by omega)]
        exact k5' x x0 x1
      · rw [fy y (by omega)]; exact y7
      · rw [fy y (by omega)]; exact y8
    · obtain ⟨y', q1, q2, q3, q4⟩ := bo w w0 (by omega)
      have b' := oB_b q2
      exact ⟨y', q1, q2, BK_w p3 p4 ⟨w0, by omega⟩ (BK_f q3 (fun c h1 h2 => F1 c (by omega) (by omega) (by omega) (by omega) (by omega) (by omega) (by omega) (by omega)))⟩
  · rw [F1 c h3 (by omega) (by omega) (by omega) (by omega) (by omega) (by omega) h2]; exact f c h1 h2
  · rw [FF 54 (by decide) (by omega) (by omega) (by omega) (by omega) (by omega) (by omega) (by omega) (by omega), f9 54 (by omega) (by omega) (by omega) (by omega) (by omega), f8 54 (by decide) (by omega), f7 54 (by decide) (by omega) (by omega), f6 54 (by decide) (by omega) (by omega), f5 54 (by omega) (by omega) (by omega), f4 54 (by decide), f3k k hk, f2 54 (by decide) (by decide) (by decide) (by decide) (by omega) (by omega), f0 54 (by decide)]
  · rw [f53, s6, e97, k7 6 (by omega) (by omega), e53 6 (by omega)]
    congr 2
    exact sI_c (fun x x0 x1 => ((rW_bh p3 p4 (x := x) ⟨x0, by omega⟩).2.2 22300 (by omega)).1.symm)
  · rw [f53, s7, e97, k7 7 (by omega) (by omega), e53 7 (by omega)]
    congr 2
    exact sI_c (fun x x0 x1 => ((rW_bh p3 p4 (x := x) ⟨x0, by omega⟩).2.2 31900 (by omega)).1.symm)
  · rw [f53, k53 8 (by omega) (by omega), e97, t8, e53 8 (by omega)]
  · rw [f53, k53 9 (by omega) (by omega), e97, t9, e53 9 (by omega)]
