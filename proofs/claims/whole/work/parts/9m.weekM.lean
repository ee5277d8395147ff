/-! ===== a WEEK: the books, and that COINS stay small (segments printed by wip/whole, contracts own work) ===== -/
section WKB
variable {a : Int → Int}
theorem wk_ab_W {w p : Int} (h0 : 0 ≤ a 0 ∧ a 0 ≤ 399) (h4 : a 4 ≤ 60) (hw : 0 ≤ w ∧ w < 400) (hp : 0 ≤ p ∧ p < 60) : wk_ab a (a 4) (a 1) (60700 + 60 * w + p) = if w = a 0 ∧ p < a 4 then wk_W2 a p else a (60700 + 60 * w + p) := by
  unfold wk_ab
  by_cases c : w = a 0 ∧ p < a 4
  · obtain ⟨c1, c2⟩ := c
    subst c1
    rw [if_pos (by omega), if_pos ⟨rfl, c2⟩, show 60700 + 60 * a 0 + p - (60700 + 60 * a 0) = p by omega]
  · rw [if_neg (by omega), if_neg (by omega), if_neg (by omega), if_neg c, u1_n (by omega)]
    exact u1_n (by omega)
theorem wk_ab_A {w p : Int} (h0 : 0 ≤ a 0 ∧ a 0 ≤ 399) (h4 : a 4 ≤ 60) (hw : 0 ≤ w ∧ w < 400) (hp : 0 ≤ p ∧ p < 60) : wk_ab a (a 4) (a 1) (84700 + 60 * w + p) = if w = a 0 ∧ p < a 4 then a (3652 + 12 * p + 4) + 1 else a (84700 + 60 * w + p) := by
  unfold wk_ab
  by_cases c : w = a 0 ∧ p < a 4
  · obtain ⟨c1, c2⟩ := c
    subst c1
    rw [if_neg (by omega), if_pos (by omega), if_pos ⟨rfl, c2⟩, show 84700 + 60 * a 0 + p - (84700 + 60 * a 0) = p by omega]
  · rw [if_neg (by omega), if_neg (by omega), if_neg (by omega), if_neg c, u1_n (by omega)]
    exact u1_n (by omega)
theorem wk_ab_R {w m : Int} (h0 : 0 ≤ a 0 ∧ a 0 ≤ 399) (h4 : a 4 ≤ 60) (h1 : a 1 ≤ 8) (hw : 0 ≤ w ∧ w < 400) (hm : 0 ≤ m ∧ m < 8) : wk_ab a (a 4) (a 1) (108700 + 8 * w + m) = if w = a 0 ∧ m < a 1 then wk_by a m + 1 else a (108700 + 8 * w + m) := by
  unfold wk_ab
  by_cases c : w = a 0 ∧ m < a 1
  · obtain ⟨c1, c2⟩ := c
    subst c1
    rw [if_neg (by omega), if_neg (by omega), if_pos (by omega), if_pos ⟨rfl, c2⟩, show 108700 + 8 * a 0 + m - (108700 + 8 * a 0) = m by omega]
  · rw [if_neg (by omega), if_neg (by omega), if_neg (by omega), if_neg c, u1_n (by omega)]
    exact u1_n (by omega)
theorem wk_ab_L {w : Int} (h0 : 0 ≤ a 0 ∧ a 0 ≤ 399) (h4 : a 4 ≤ 60) (h1 : a 1 ≤ 8) (hw : 0 ≤ w ∧ w < 400) : wk_ab a (a 4) (a 1) (111900 + w) = if w = a 0 then wk_lf a else a (111900 + w) := by
  unfold wk_ab
  rw [if_neg (by omega), if_neg (by omega), if_neg (by omega), u1_n (by omega)]
  unfold wk_a0
  by_cases c : w = a 0
  · subst c
    rw [if_pos rfl, u1_s]
  · rw [if_neg c, u1_n (by omega)]
/-- one who does not work gets nothing -/
theorem wk_W2_0 (hJ : Jv a) {p : Int} (hp : 0 ≤ p ∧ p < a 4) (s0 : a (3652 + 12 * p + 3) = 0) : wk_W2 a p = 0 := by
  have q := jP hJ p hp.1 hp.2
  have hS := jS hJ
  unfold jv_S at hS
  have m : a (3652 + 12 * p + 4) = -1 := (q.2.2.2.2.2.2.2.2.1 s0).1
  have v0 : wk_v a p = 0 := by
    unfold wk_v wk_vx
    rw [if_neg (fun z => by have := z.1; omega)]
  have o0 : wk_o a p = 0 := by
    unfold wk_o
    rw [v0, if_neg (by omega)]
  have e0 : wk_Wf a p = 0 := by
    unfold wk_Wf
    rw [sI_c (g := fun _ => 0) (fun x x0 x1 => ?_), sI_z]
    have qx := jP hJ x x0 x1
    unfold wk_e
    have e1 : (if x = p then wk_o a x else 0) = 0 := by
      by_cases c : x = p
      · rw [if_pos c, c]; exact o0
      · rw [if_neg c]
    have e2 : ¬ (a (3652 + 12 * x + 3) = 2 ∧ a (3652 + 12 * x + 6) = p) := fun z => by
      have t := (qx.2.2.2.2.2.2.2.2.2.2.2.1 z.1).2.2.1
      rw [z.2] at t
      omega
    rw [e1, if_neg e2]
    rfl
  have l0 : wk_lv a p = 0 := by
    unfold wk_lv
    rw [e0]
    split <;> omega
  unfold wk_W2
  rw [if_neg (fun z => by have := z.1.1; omega), l0]
theorem hg_e5 (h : WP a) (h0 : a 0 ≤ 399) {x n : Int} (hn : n ≤ a 4) : hg_e (A5 a) x n = wk_E a x n := by
  have hC := jC h.1
  unfold jv_C at hC
  unfold hg_e wk_E
  refine sI_c (fun p p0 p1 => ?_)
  have e8 : A5 a (3652 + 12 * p + 8) = wk_W2 a p := by
    rw [A5_p (by omega) (by omega)]; unfold PE4; rw [if_pos (by omega)]
  have e00 : A5 a (3652 + 12 * p + 0) = a (3652 + 12 * p + 0) := by
    rw [A5_p (by omega) (by omega)]; exact PE4_a (by omega) (by omega) (by omega) (by omega)
  rw [e00, e8]
/-- a HOME that is GONE earns nothing -/
theorem wk_E_0 (h : WP a) {x : Int} (g : x < 0 ∨ a 3 ≤ x ∨ a (3460 + 8 * x + 3) ≠ 0) : wk_E a x (a 4) = 0 := by
  unfold wk_E
  rw [sI_c (g := fun _ => 0) (fun p p0 p1 => ?_), sI_z]
  have q := jP h.1 p p0 p1
  by_cases c : a (3652 + 12 * p + 0) = x
  · rw [if_pos c]
    have hx := jH h.1 _ q.1.1 q.1.2
    rw [c] at q hx
    exact wk_W2_0 h.1 ⟨p0, p1⟩ (q.2.2.2.2.2.2.2.2.2.2.2.2.2.2 (by omega))
  · rw [if_neg c]
theorem A5_z (h : WP a) (h0 : a 0 ≤ 399) : ∀ x f, 0 ≤ x → x < 24 → wkF f → A5 a (f + 24 * A5 a 0 + x) = 0 := by
  have hC := jC h.1
  unfold jv_C at hC
  intro x f x0 x1 hf
  have c := A5_c (a := a) (by omega)
  have z := h.2.2.2.2.2.2.2.2.2.1 (a 0) x (by omega) (by omega) x0 x1 (Or.inl (Int.le_refl _))
  rw [c.1, A5_k (by omega) (by omega) (by omega)]
  rcases hf with rfl | rfl | rfl | rfl
  · exact z.1
  · exact z.2.1
  · exact z.2.2.1
  · exact z.2.2.2
theorem KB_6 (h : WP a) (h0 : a 0 ≤ 399) : KB (A5 a) (A6 a) (a 3) := by
  have hC := jC h.1
  unfold jv_C at hC
  have c := A5_c (a := a) (by omega)
  have H := WP_H h h0
  have z := A5_z h h0
  have key : ∀ n : Nat, (n : Int) ≤ a 3 → KB (A5 a) (r_hgs (A5 a) (wk_lf a) n) n := by
    intro n
    induction n with
    | zero =>
      intro _
      refine ⟨fun x f x0 _ x1 hf => z x f x0 x1 hf, fun x x0 x1 => by omega, ?_⟩
      show A5 a 15 = A5 a 15 + sI (fun x => A5 a (41500 + 24 * A5 a 0 + x)) 24
      rw [sI_c (g := fun _ => 0) (fun p q0 q1 => z p 41500 q0 q1 (by omega)), sI_z, Int.add_zero]
    | succ n ih =>
      intro hn
      rw [show ((n + 1 : Nat) : Int) = (n : Int) + 1 by omega]
      refine (KB_s H ⟨by omega, by omega⟩ (fun g => ?_) (ih (by omega))).1
      have e3 : A5 a (3460 + 8 * (n : Int) + 3) = a (3460 + 8 * (n : Int) + 3) := A5_k (by omega) (by omega) (by omega)
      rw [e3] at g
      rw [hg_e5 h h0 (by omega), c.2.2.2.2.1]
      exact wk_E_0 h (Or.inr (Or.inr g))
  have := key (a 3).toNat (by omega)
  rw [Int.toNat_of_nonneg (by omega)] at this
  exact this
/-- what is bought, and what lacks -/
theorem hgs_bk {b : Int → Int} {L : Int} (H : HI b L 0) (z : ∀ x f, 0 ≤ x → x < 24 → wkF f → b (f + 24 * b 0 + x) = 0) : ∀ n, 0 ≤ n → n ≤ b 3 → ∀ x, 0 ≤ x → x < 24 → (0 ≤ r_hgs b L n (51100 + 24 * b 0 + x) ∧ r_hgs b L n (51100 + 24 * b 0 + x) ≤ r_hgs b L n (41500 + 24 * b 0 + x) ∧ r_hgs b L n (41500 + 24 * b 0 + x) ≤ 240) ∧ 0 ≤ r_hgs b L n (31900 + 24 * b 0 + x) ∧ r_hgs b L n (31900 + 24 * b 0 + x) ≤ 240 := by
  have key : ∀ n : Nat, (n : Int) ≤ b 3 → ∀ x, 0 ≤ x → x < 24 → (0 ≤ r_hgs b L n (51100 + 24 * b 0 + x) ∧ r_hgs b L n (51100 + 24 * b 0 + x) ≤ r_hgs b L n (41500 + 24 * b 0 + x) ∧ r_hgs b L n (41500 + 24 * b 0 + x) ≤ 240) ∧ 0 ≤ r_hgs b L n (31900 + 24 * b 0 + x) ∧ r_hgs b L n (31900 + 24 * b 0 + x) ≤ 240 := by
    intro n
    induction n with
    | zero =>
      intro _ x x0 x1
      rw [show ((0 : Nat) : Int) = 0 from rfl, r_hgs_0, z x 51100 x0 x1 (by omega), z x 41500 x0 x1 (by omega), z x 31900 x0 x1 (by omega)]
      omega
    | succ n ih =>
      intro hn x x0 x1
      have ih := ih (by omega) x x0 x1
      obtain ⟨I1, i0, i1, i2, i3, i4⟩ := HI_I H n (by omega) (by omega)
      rw [show ((n + 1 : Nat) : Int) = (n : Int) + 1 by omega, r_hgs_s (by omega)]
      split
      · have hp := HI_HP I1 (n := n) ⟨by omega, by omega⟩
        have hb := HP_b hp
        have cl := hg_cells hp
        rw [i0] at cl
        have dN : hg_N (r_hgs b L n) L n = hg_n (r_hgs b L n) L n + hg_k (r_hgs b L n) L n := rfl
        by_cases e : x = (n : Int)
        · rw [e, cl.2.1, cl.2.2.1, cl.2.2.2]
          omega
        · have ot : ∀ f, wkF f → r_hg (r_hgs b L n) L n (f + 24 * b 0 + x) = r_hgs b L n (f + 24 * b 0 + x) := fun f hf => by
            have := hg_oth hp (x := x) (f := f) ⟨x0, x1, e⟩ hf
            rw [i0] at this; exact this
          rw [ot 51100 (by omega), ot 41500 (by omega), ot 31900 (by omega)]
          exact ih
      · exact ih
  intro n n0 n1
  have := key n.toNat (by omega)
  rw [Int.toNat_of_nonneg n0] at this
  exact this
/-- the book of this WEEK by HOMES -/
theorem rW_bh (h : WP a) (h0 : a 0 ≤ 399) {x : Int} (hx : 0 ≤ x ∧ x < 24) : r_week a (22300 + 24 * a 0 + x) = wk_E a x (a 4) ∧ ((0 ≤ r_week a (51100 + 24 * a 0 + x) ∧ r_week a (51100 + 24 * a 0 + x) ≤ r_week a (41500 + 24 * a 0 + x) ∧ r_week a (41500 + 24 * a 0 + x) ≤ 240) ∧ 0 ≤ r_week a (31900 + 24 * a 0 + x) ∧ r_week a (31900 + 24 * a 0 + x) ≤ 240) ∧ ∀ f, wkF f → r_week a (f + 24 * a 0 + x) = A6 a (f + 24 * a 0 + x) ∧ (a 3 ≤ x → r_week a (f + 24 * a 0 + x) = 0) := by
  have hC := jC h.1
  unfold jv_C at hC
  have c := A5_c (a := a) (by omega)
  have e : ∀ f, wkF f → r_week a (f + 24 * a 0 + x) = A6 a (f + 24 * a 0 + x) := fun f hf => by
    rw [rW_k (by omega), A8_k h h0 (by omega), A7_k h h0 (by omega)]
  have K := KB_6 h h0
  have bk := hgs_bk (WP_H h h0) (A5_z h h0) (a 3) (by omega) (by omega) x hx.1 hx.2
  unfold KB at K
  rw [c.1] at K bk
  refine ⟨?_, ?_, fun f hf => ⟨e f hf, fun g => by rw [e f hf]; exact K.1 x f hx.1 g hx.2 hf⟩⟩
  · rw [e 22300 (by omega)]
    by_cases g : x < a 3
    · rw [K.2.1 x hx.1 g, hg_e5 h h0 (by omega), c.2.2.2.2.1]
    · rw [K.1 x 22300 hx.1 (by omega) hx.2 (by omega), wk_E_0 h (Or.inr (Or.inl (by omega)))]
  · rw [e 51100 (by omega), e 41500 (by omega), e 31900 (by omega)]
    exact bk
theorem rW_15 (h : WP a) (h0 : a 0 ≤ 399) : r_week a 15 = a 15 + sI (fun x => r_week a (41500 + 24 * a 0 + x)) 24 := by
  have hC := jC h.1
  unfold jv_C at hC
  have c := A5_c (a := a) (by omega)
  have K := (KB_6 h h0).2.2
  rw [c.1, c.2.2.2.2.2.2.2.2] at K
  rw [rW_k (by omega), A8_k h h0 (by omega), A7_k h h0 (by omega), K]
  congr 1
  exact sI_c (fun x x0 x1 => ((rW_bh h h0 ⟨x0, x1⟩).2.2 41500 (by omega)).1.symm)
theorem PE4_out {p c : Int} (hp : a 4 ≤ p) : PE4 a p c = a (3652 + 12 * p + c) := by
  unfold PE4 PE2 PE1 PE0
  rw [if_neg (fun z => absurd z.2 (by omega)), if_neg (fun z => absurd z.2.1 (by omega)), if_neg (fun z => absurd z.2.1 (by omega)), if_neg (fun z => absurd z.2 (by omega))]
theorem jZ_w (h : WP a) (h0 : a 0 ≤ 399) : jv_Z (r_week a) := by
  have hC := jC h.1
  unfold jv_C at hC
  have c := rW_c h h0
  have c7 := A7_c h h0
  have z := h.2.2.2.2.2
  obtain ⟨z1, z2, z3, z4, z5, z6, z7⟩ := z
  unfold jv_Z
  rw [c.1, c.2.1, c.2.2.1, c.2.2.2.1, rW_0]
  refine ⟨fun m k m0 m1 k0 k1 => ?_, fun s s0 s1 => ?_, fun x x0 x1 => ⟨?_, ?_⟩, fun p p0 p1 => ?_, fun w x w0 w1 x0 x1 hw => ?_, fun w p w0 w1 p0 p1 hw => ?_, fun w m w0 w1 m0 m1 hw => ?_⟩
  · rw [rW_m h h0 (by omega) (by omega), MI3_a m0]; exact z1 m k m0 m1 k0 k1
  · rw [rW_k (by omega), A8_k h h0 (by omega), (A7_s h h0 (s := s) (by omega)).2.1, if_neg (fun q => absurd q.1 (by omega))]
    exact z2 s s0 s1
  · rw [rW_k (by omega), A8_h h h0 (by omega), (A7_h h h0).2 x 2 x0 x1 (by omega) (by omega)]
    exact (z3 x x0 x1).1
  · have e : A8 a (3460 + 8 * x + 3) = A7 a (3460 + 8 * x + 3) := by
      unfold A8
      exact lvs_h (by omega) (by omega) (a 3) (by omega) (by omega) _ (by omega) (by omega) (by omega)
    rw [rW_k (by omega), e, (A7_h h h0).2 x 3 x0 x1 (by omega) (by omega)]
    exact (z3 x x0 x1).2
  · have e : ∀ c, 0 ≤ c → c < 12 → r_week a (3652 + 12 * p + c) = a (3652 + 12 * p + c) := fun c c0 c1 => by
      have e8 : A8 a (3652 + 12 * p + c) = A7 a (3652 + 12 * p + c) := by
        unfold A8
        exact lvs_p (by omega) (by omega) (a 3) (by omega) (by omega) _ (by omega)
      rw [rW_k (by omega), e8, A7_p h h0 (by omega) (by omega), PE4_out p0]
    rw [e 3 (by omega) (by omega), e 5 (by omega) (by omega), e 7 (by omega) (by omega), e 8 (by omega) (by omega)]
    exact z4 p p0 p1
  · by_cases e : w = a 0
    · subst e
      have g : a 3 ≤ x := by omega
      have v := (rW_bh h h0 ⟨x0, x1⟩).2.2
      exact ⟨(v 22300 (by omega)).2 g, (v 31900 (by omega)).2 g, (v 41500 (by omega)).2 g, (v 51100 (by omega)).2 g⟩
    · rw [rW_b h h0 (k := 22300 + 24 * w + x) (by omega), rW_b h h0 (k := 31900 + 24 * w + x) (by omega), rW_b h h0 (k := 41500 + 24 * w + x) (by omega), rW_b h h0 (k := 51100 + 24 * w + x) (by omega)]
      exact z5 w x w0 w1 x0 x1 (by omega)
  · rw [rW_w h h0 (by omega), rW_w h h0 (by omega), wk_ab_W (by omega) (by omega) ⟨w0, w1⟩ ⟨p0, p1⟩, wk_ab_A (by omega) (by omega) ⟨w0, w1⟩ ⟨p0, p1⟩, if_neg (by omega), if_neg (by omega)]
    exact z6 w p w0 w1 p0 p1 (by omega)
  · rw [rW_w h h0 (by omega), wk_ab_R (by omega) (by omega) (by omega) ⟨w0, w1⟩ ⟨m0, m1⟩, if_neg (by omega)]
    exact z7 w m w0 w1 m0 m1 (by omega)
theorem jB_w (h : WP a) (h0 : a 0 ≤ 399) : jv_B (r_week a) := by
  have hC := jC h.1
  unfold jv_C at hC
  have hB := h.2.2.2.2.1
  have z := h.2.2.2.2.2
  have lf := wk_lf_b h.1 h0
  unfold jv_B
  rw [rW_0]
  refine ⟨fun w w0 w1 => ?_, ?_⟩
  · have L : r_week a (111900 + w) = if w = a 0 then wk_lf a else a (111900 + w) := by
      rw [rW_w h h0 (by omega)]; exact wk_ab_L (by omega) (by omega) (by omega) ⟨w0, by omega⟩
    have W : ∀ p, 0 ≤ p → p < 60 → r_week a (60700 + 60 * w + p) = if w = a 0 ∧ p < a 4 then wk_W2 a p else a (60700 + 60 * w + p) := fun p p0 p1 => by
      rw [rW_w h h0 (by omega)]; exact wk_ab_W (by omega) (by omega) ⟨w0, by omega⟩ ⟨p0, p1⟩
    have T : ∀ p, 0 ≤ p → p < 60 → r_week a (84700 + 60 * w + p) = if w = a 0 ∧ p < a 4 then a (3652 + 12 * p + 4) + 1 else a (84700 + 60 * w + p) := fun p p0 p1 => by
      rw [rW_w h h0 (by omega)]; exact wk_ab_A (by omega) (by omega) ⟨w0, by omega⟩ ⟨p0, p1⟩
    have R : ∀ m, 0 ≤ m → m < 8 → r_week a (108700 + 8 * w + m) = if w = a 0 ∧ m < a 1 then wk_by a m + 1 else a (108700 + 8 * w + m) := fun m m0 m1 => by
      rw [rW_w h h0 (by omega)]; exact wk_ab_R (by omega) (by omega) (by omega) ⟨w0, by omega⟩ ⟨m0, m1⟩
    by_cases e : w = a 0
    · subst e
      have zW := fun p p0 p1 (g : a 4 ≤ p) => z.2.2.2.2.2.1 (a 0) p (by omega) (by omega) p0 p1 (Or.inr g)
      refine ⟨fun p p0 p1 => ?_, ?_, by rw [L, if_pos rfl]; exact lf, fun x x0 x1 => ?_, fun m m0 m1 => ?_⟩
      · rw [W p p0 p1, T p p0 p1]
        by_cases g : p < a 4
        · have q := jP h.1 p p0 g
          rw [if_pos ⟨rfl, g⟩, if_pos ⟨rfl, g⟩]
          exact ⟨(wk_W2_b h.1 h.2.1 h0 p).1, by omega, by omega⟩
        · have := zW p p0 p1 (by omega)
          rw [if_neg (fun q => g q.2), if_neg (fun q => g q.2)]
          omega
      · have e1 : sI (fun p => r_week a (60700 + 60 * a 0 + p)) 60 = sI (wk_W2 a) (a 4) := by
          have ad := sI_ad (f := fun p => r_week a (60700 + 60 * a 0 + p)) (n := a 4) (by omega) (60 - a 4) (by omega)
          rw [show a 4 + (60 - a 4) = 60 by omega] at ad
          rw [ad, sI_c (g := wk_W2 a) (fun p p0 p1 => by rw [W p p0 (by omega), if_pos ⟨rfl, p1⟩]), sI_c (f := fun k => r_week a (60700 + 60 * a 0 + (a 4 + k))) (g := fun _ => 0) (fun p p0 p1 => by rw [W (a 4 + p) (by omega) (by omega), if_neg (by omega)]; exact (zW _ (by omega) (by omega) (by omega)).1), sI_z, Int.add_zero]
        rw [e1]
        have := wk_W2_s h.1 h.2.1 h0
        omega
      · have v := rW_bh h h0 ⟨x0, x1⟩
        have eb := wk_E_b h.1 h.2.1 h0 (h := x) (n := a 4) (by omega)
        refine ⟨v.2.1.1, v.2.1.2, ?_⟩
        rw [v.1]; omega
      · rw [R m m0 m1]
        by_cases g : m < a 1
        · rw [if_pos ⟨rfl, g⟩]
          by_cases d : wk_D a m
          · have := (wk_by_b h.1 h.2.1 h0 ⟨m0, g⟩ d).1; omega
          · have : wk_by a m = -1 := if_neg d
            omega
        · have := z.2.2.2.2.2.2 (a 0) m (by omega) (by omega) m0 m1 (Or.inr (by omega))
          rw [if_neg (fun q => g q.2), this]; omega
    · have q := hB.1 w w0 (by omega)
      rw [L, if_neg e]
      refine ⟨fun p p0 p1 => ?_, ?_, q.2.2.1, fun x x0 x1 => ?_, fun m m0 m1 => ?_⟩
      · rw [W p p0 p1, T p p0 p1, if_neg (fun q => e q.1), if_neg (fun q => e q.1)]
        exact q.1 p p0 p1
      · rw [sI_c (g := fun p => a (60700 + 60 * w + p)) (fun p p0 p1 => by rw [W p p0 p1, if_neg (fun q => e q.1)])]
        exact q.2.1
      · rw [rW_b h h0 (k := 22300 + 24 * w + x) (by omega), rW_b h h0 (k := 31900 + 24 * w + x) (by omega), rW_b h h0 (k := 41500 + 24 * w + x) (by omega), rW_b h h0 (k := 51100 + 24 * w + x) (by omega)]
        exact q.2.2.2.1 x x0 x1
      · rw [R m m0 m1, if_neg (fun q => e q.1)]
        exact q.2.2.2.2 m m0 m1
  · rw [rW_15 h h0, hB.2]
    have ad := sI_ad (f := fun k => r_week a (41500 + k)) (n := 24 * a 0) (by omega) 24 (by omega)
    rw [show 24 * (a 0 + 1) = 24 * a 0 + 24 by omega, ad]
    congr 1
    · refine sI_c (fun k k0 k1 => ?_)
      rw [rW_b h h0 (k := 41500 + k) (by omega)]
    · refine sI_c (fun k k0 k1 => ?_)
      rw [show 41500 + (24 * a 0 + k) = 41500 + 24 * a 0 + k by omega]
/-- SHOPS behind a WEEK -/
theorem jU_s (h : WP a) (h0 : a 0 ≤ 399) : ∀ s, 0 ≤ s → s < r_week a 2 → -1000 ≤ r_week a (3428 + 8 * s) ∧ r_week a (3428 + 8 * s) + r_debts (r_week a) s ≤ 100000 ∧ (r_week a (3428 + 8 * s + 3) = 0 → 0 ≤ r_week a (3428 + 8 * s)) := by
  have hC := jC h.1
  unfold jv_C at hC
  have c := rW_c h h0
  have c6 := A6_c h h0
  have H := WP_H h h0
  have c5 := A5_c (a := a) (by omega)
  have i := (HI_I H (a 3) (by omega) (by omega)).1.2.2.2.1
  intro s s0 s1
  rw [c.2.1] at s1
  have y := i s s0 (by rw [show r_hgs (A5 a) (wk_lf a) (a 3) = A6 a from rfl, c6.2.2.1]; exact s1)
  rw [show r_hgs (A5 a) (wk_lf a) (a 3) = A6 a from rfl] at y
  have q := jQ h.1 s s0 s1
  have v := A7_s h h0 (s := s) (by omega)
  have e3 : A6 a (3428 + 8 * s + 3) = a (3428 + 8 * s + 3) := by
    rw [A6_k h h0 (by omega), A5_k (by omega) (by omega) (by omega)]
  have eD : r_debts (r_week a) s = r_debts (A6 a) s := by
    unfold r_debts
    refine sI_e (by rw [c.2.2.1, c6.2.2.2.1]) (fun x x0 x1 => ?_)
    rw [c.2.2.1] at x1
    rw [rW_k (k := 3460 + 8 * x + 0) (by omega), rW_k (k := 3460 + 8 * x + 2) (by omega), A8_h h h0 (by omega), A8_h h h0 (by omega), A7_k h h0 (by omega), A7_k h h0 (by omega)]
  rw [eD, rW_k (k := 3428 + 8 * s) (by omega), rW_k (k := 3428 + 8 * s + 3) (by omega), A8_k h h0 (by omega), A8_k h h0 (by omega), v.2.1, v.2.2]
  rw [e3] at y
  by_cases f : a (3428 + 8 * s + 3) = 1
  · rw [if_neg (fun z => z.2 f), if_neg (fun z => z.2.1 f)]
    exact ⟨y.1, y.2.1, fun z => by omega⟩
  · have f0 : a (3428 + 8 * s + 3) = 0 := by omega
    have y0 := y.2.2.1 f0
    rw [if_pos ⟨s1, f⟩]
    by_cases g : A6 a (3428 + 8 * s) - a (3428 + 8 * s + 2) < 0
    · rw [if_pos ⟨s1, f, g⟩]; omega
    · rw [if_neg (fun z => g z.2.2)]; omega
end WKB
