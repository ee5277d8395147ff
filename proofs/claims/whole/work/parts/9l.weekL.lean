/-! ===== a WEEK: what always holds still holds (segments printed by wip/whole, contracts own work) ===== -/
section WKJ
variable {a : Int → Int}
theorem MI3_a {m c : Int} (hm : a 1 ≤ m) : MI3 a (a 1) m c = a (3300 + 16 * m + c) := by
  unfold MI3 MI2 MI1 MI0
  rw [if_neg (fun z => absurd z.1.1 (by omega)), if_neg (fun z => absurd z.1.1 (by omega)), if_neg (fun z => absurd z.1 (by omega)), if_neg (fun z => absurd z.1 (by omega))]
theorem MI3_D {m : Int} (hm : m < a 1) (h : wk_D a m) : MI3 a (a 1) m 2 = wk_c3 a m ∧ MI3 a (a 1) m 4 = (wk_s a m (a 4)).2.1 ∧ MI3 a (a 1) m 5 = wk_cl a m ∧ MI3 a (a 1) m 10 = wk_tx a m - (wk_s a m (a 4)).2.2 := by
  unfold MI3 MI2
  refine ⟨?_, ?_, ?_, ?_⟩
  · rw [if_pos ⟨⟨hm, h⟩, Or.inl rfl⟩, if_pos rfl]
  · rw [if_neg (fun z => absurd z.2 (by omega)), if_pos ⟨⟨hm, h⟩, Or.inr (Or.inl rfl)⟩, if_neg (by omega), if_pos rfl]
  · rw [if_pos ⟨⟨hm, h⟩, Or.inr rfl⟩, if_neg (by omega)]
  · rw [if_neg (fun z => absurd z.2 (by omega)), if_pos ⟨⟨hm, h⟩, Or.inr (Or.inr rfl)⟩, if_neg (by omega), if_neg (by omega)]
theorem MI3_N {m : Int} (hm : m < a 1) (h : ¬ wk_D a m) : MI3 a (a 1) m 2 = a (3300 + 16 * m + 2) ∧ MI3 a (a 1) m 4 = a (3300 + 16 * m + 4) ∧ MI3 a (a 1) m 5 = a (3300 + 16 * m + 5) ∧ MI3 a (a 1) m 10 = 0 := by
  unfold MI3 MI2 MI1 MI0
  refine ⟨?_, ?_, ?_, ?_⟩
  · rw [if_neg (fun z => h z.1.2), if_neg (fun z => h z.1.2), if_neg (by omega), if_neg (by omega)]
  · rw [if_neg (fun z => h z.1.2), if_neg (fun z => h z.1.2), if_neg (by omega), if_neg (by omega)]
  · rw [if_neg (fun z => h z.1.2), if_neg (fun z => h z.1.2), if_neg (by omega), if_neg (by omega)]
  · rw [if_neg (fun z => h z.1.2), if_neg (fun z => h z.1.2), if_neg (by omega), if_pos ⟨hm, by omega⟩, if_neg (by omega)]
theorem wk_md_e {m : Int} (hm : m < a 1) : MI3 a (a 1) m 10 = wk_md a m := by
  unfold wk_md
  by_cases h : wk_D a m
  · rw [if_pos h, (MI3_D hm h).2.2.2]
  · rw [if_neg h, (MI3_N hm h).2.2.2]
theorem jM_w (h : WP a) (h0 : a 0 ≤ 399) : ∀ m, 0 ≤ m → m < a 1 → (0 ≤ MI3 a (a 1) m 0 ∧ MI3 a (a 1) m 0 ≤ 60) ∧ (50 ≤ MI3 a (a 1) m 1 ∧ MI3 a (a 1) m 1 ≤ 200) ∧ (-1000 ≤ MI3 a (a 1) m 3 ∧ MI3 a (a 1) m 3 ≤ 1000) ∧ (0 ≤ MI3 a (a 1) m 4 ∧ MI3 a (a 1) m 4 ≤ 30000) ∧ (0 ≤ MI3 a (a 1) m 5 ∧ MI3 a (a 1) m 5 ≤ 1) ∧ (0 ≤ MI3 a (a 1) m 6 ∧ MI3 a (a 1) m 6 ≤ 1) ∧ (-1 ≤ MI3 a (a 1) m 7 ∧ MI3 a (a 1) m 7 ≤ 5) ∧ (0 ≤ MI3 a (a 1) m 8 ∧ MI3 a (a 1) m 8 ≤ 2) ∧ (-1 ≤ MI3 a (a 1) m 9 ∧ MI3 a (a 1) m 9 < a 7) ∧ (0 ≤ MI3 a (a 1) m 10 ∧ MI3 a (a 1) m 10 ≤ 500) ∧ (MI3 a (a 1) m 5 = 0 → 0 ≤ MI3 a (a 1) m 2) := by
  intro m m0 m1
  have hC := jC h.1
  unfold jv_C at hC
  have q := jM h.1 m m0 m1
  have md := wk_md_b h.1 h.2.1 h0 ⟨m0, m1⟩
  have s : ∀ c, c = 0 ∨ c = 1 ∨ c = 3 ∨ c = 6 → MI3 a (a 1) m c = a (3300 + 16 * m + c) := fun c hc => sM_3 m c m0 (by omega) hc
  rw [s 0 (by omega), s 1 (by omega), s 3 (by omega), s 6 (by omega), wk_md_e m1, MI3_k m1 (c := 7) (by omega), MI3_k m1 (c := 8) (by omega), MI3_k m1 (c := 9) (by omega), if_pos rfl, if_neg (by omega), if_pos rfl, if_neg (by omega), if_neg (by omega), if_pos rfl]
  by_cases hD : wk_D a m
  · have D := MI3_D m1 hD
    have sb := wk_s_b h.1 h.2.1 h0 ⟨m0, m1⟩ hD (a 4) (by omega) (by omega)
    have kb := wk_by_b h.1 h.2.1 h0 ⟨m0, m1⟩ hD
    have ht := wk_ht_D hD
    rw [D.1, D.2.1, D.2.2.1]
    have cl : (0 ≤ wk_cl a m ∧ wk_cl a m ≤ 1) ∧ (wk_cl a m = 0 → 0 ≤ wk_c3 a m) := by
      unfold wk_cl
      by_cases c : wk_c3 a m < 0
      · rw [if_pos ⟨hD, c⟩]; omega
      · rw [if_neg (fun z => c z.2)]; omega
    exact ⟨q.1, q.2.1, q.2.2.1, sb.2.1, cl.1, q.2.2.2.2.2.1, by omega, by omega, by omega, by omega, cl.2⟩
  · have N := MI3_N m1 hD
    have ht := wk_ht_N hD
    have by1 : wk_by a m = -1 := if_neg hD
    have ls : -1 ≤ wk_ls a m ∧ wk_ls a m ≤ 5 := by
      unfold wk_ls
      by_cases hO : wk_O a m
      · rw [if_pos hO]
        have := wk_ok_b h.1 h.2.1 h0 ⟨m0, m1⟩ hO
        omega
      · rw [if_neg hO]; omega
    rw [N.1, N.2.1, N.2.2.1]
    exact ⟨q.1, q.2.1, q.2.2.1, q.2.2.2.1, q.2.2.2.2.1, q.2.2.2.2.2.1, ls, by omega, by omega, by omega, q.2.2.2.2.2.2.2.2.2.2⟩
/-- REST behind a WEEK's WORK -/
theorem PE2_r (h : WP a) (h0 : a 0 ≤ 399) {p : Int} (hp : 0 ≤ p ∧ p < a 4) : (0 ≤ PE2 a (a 1) p 7 ∧ PE2 a (a 1) p 7 ≤ 228000) ∧ (a (3652 + 12 * p + 3) = 0 ∨ 3 ≤ a (3652 + 12 * p + 3) → PE2 a (a 1) p 7 = 0) := by
  have q := jP h.1 p hp.1 hp.2
  have b2 := wk_r2_b h.1 h.2.1 h0 hp
  have b1 := wk_r1_b h.1 hp
  refine ⟨?_, fun x => ?_⟩
  · unfold PE2 PE1 PE0
    split
    · exact b2
    · rw [if_neg (by omega)]; exact q.2.2.2.2.2.2.2.1
  · have e1 : wk_r1 a p = a (3652 + 12 * p + 7) := by
      unfold wk_r1 wk_rx
      rw [if_neg (fun z => by have := z.1.2; omega)]
    have e2 : wk_r2 a p = wk_r1 a p := by
      unfold wk_r2 wk_ry
      rw [if_neg (fun z => by have := z.1.2; omega)]
    have e3 : a (3652 + 12 * p + 7) = 0 := q.2.2.2.2.2.2.2.2.2.2.2.2.2.1 x
    unfold PE2 PE1 PE0
    split
    · rw [e2, e1]; exact e3
    · rw [if_neg (by omega)]; exact e3
/-- ORDERS behind a WEEK -/
theorem OD3_b (h : WP a) (h0 : a 0 ≤ 399) {o : Int} (ho : 0 ≤ o ∧ o < a 7) : OD3 a (a 1) o 0 = a (4372 + 8 * o) ∧ (0 ≤ OD3 a (a 1) o 1 ∧ OD3 a (a 1) o 1 ≤ 500) ∧ OD3 a (a 1) o 1 = a (4372 + 8 * o + 1) - wk_lw a (a 1) o ∧ ∀ c, 2 ≤ c → c ≤ 4 → OD3 a (a 1) o c = a (4372 + 8 * o + c) := by
  have hC := jC h.1
  unfold jv_C at hC
  have q := (jO h.1).1 o ho.1 ho.2
  have lw := wk_lw_b h.1 h.2.1 h0 (a 1) (by omega) (by omega) o ho.1 ho.2
  have T := wk_T_b h.1 h.2.1 h0 (a 1) (by omega) (by omega) o ho.1 ho.2
  have e1 : OD3 a (a 1) o 1 = a (4372 + 8 * o + 1) - wk_lw a (a 1) o := by
    unfold OD3
    rw [if_pos ⟨rfl, ho.2⟩]
  refine ⟨?_, by rw [e1]; omega, e1, fun c c0 c1 => ?_⟩
  · unfold OD3 OD1
    rw [if_neg (by omega), if_neg (by omega), Int.add_zero]
  · unfold OD3 OD1
    rw [if_neg (by omega), if_neg (by omega)]
theorem A7_h (h : WP a) (h0 : a 0 ≤ 399) : (∀ x, 0 ≤ x → x < a 3 → A7 a (3460 + 8 * x + 0) = a (3460 + 8 * x + 0) ∧ 0 ≤ A7 a (3460 + 8 * x + 1) ∧ 0 ≤ A7 a (3460 + 8 * x + 2) ∧ A7 a (3460 + 8 * x + 3) = a (3460 + 8 * x + 3)) ∧ ∀ x c, a 3 ≤ x → x < 24 → 0 ≤ c → c < 8 → A7 a (3460 + 8 * x + c) = a (3460 + 8 * x + c) := by
  have hC := jC h.1
  unfold jv_C at hC
  have c5 := A5_c (a := a) (by omega)
  have H := WP_H h h0
  have i := (HI_I H (a 3) (by omega) (by omega)).1.2.2.1
  have e5 : ∀ k, 3428 ≤ k → k < 3652 → A5 a k = a k := fun k k0 k1 => A5_k (by omega) (by omega) (by omega)
  have c6 := A6_c h h0
  refine ⟨fun x x0 x1 => ?_, fun x c x0 x1 k0 k1 => ?_⟩
  · rw [A7_k h h0 (by omega), A7_k h h0 (by omega), A7_k h h0 (by omega), A7_k h h0 (by omega), A6_k h h0 (k := 3460 + 8 * x + 0) (by omega), A6_k h h0 (k := 3460 + 8 * x + 3) (by omega), e5 _ (by omega) (by omega), e5 _ (by omega) (by omega)]
    have := i x x0 (by rw [show r_hgs (A5 a) (wk_lf a) (a 3) = A6 a from rfl, c6.2.2.2.1]; exact x1)
    exact ⟨rfl, this.2.1, this.2.2.2, rfl⟩
  · rw [A7_k h h0 (by omega)]
    unfold A6
    rw [hgs_h H (a 3) (by omega) (by omega) _ (by omega) (by omega)]
    exact e5 _ (by omega) (by omega)
theorem A7_a (h : WP a) (h0 : a 0 ≤ 399) {k : Int} (hk : (0 ≤ k ∧ k < 3300 ∧ k ≠ 15 ∧ k ≠ 8) ∨ (5012 ≤ k ∧ k < 22300)) : A7 a k = a k := by
  have hC := jC h.1
  unfold jv_C at hC
  rw [A7_k h h0 (by omega), A6_k h h0 (by omega), A5_k (by omega) (by omega) (by omega)]
theorem A7_s (h : WP a) (h0 : a 0 ≤ 399) {s : Int} (hs : 0 ≤ s ∧ s < 4) : (∀ c, c = 1 ∨ c = 2 → A7 a (3428 + 8 * s + c) = a (3428 + 8 * s + c)) ∧ A7 a (3428 + 8 * s + 3) = (if s < a 2 ∧ a (3428 + 8 * s + 3) ≠ 1 ∧ A6 a (3428 + 8 * s) - a (3428 + 8 * s + 2) < 0 then 1 else a (3428 + 8 * s + 3)) ∧ A7 a (3428 + 8 * s) = (if s < a 2 ∧ a (3428 + 8 * s + 3) ≠ 1 then A6 a (3428 + 8 * s) - a (3428 + 8 * s + 2) else A6 a (3428 + 8 * s)) := by
  have hC := jC h.1
  unfold jv_C at hC
  have c6 := A6_c h h0
  have e6 : ∀ c, 1 ≤ c → c < 8 → A6 a (3428 + 8 * s + c) = a (3428 + 8 * s + c) := fun c c0 c1 => by
    rw [A6_k h h0 (by omega), A5_k (by omega) (by omega) (by omega)]
  have v := rts_v (b := A6 a) (by omega) (a 2) (by omega) (by omega) s hs.1 hs.2
  rw [e6 3 (by omega) (by omega), e6 2 (by omega) (by omega)] at v
  refine ⟨fun c hc => ?_, v.2.1, v.1⟩
  have := v.2.2 c (by omega)
  rw [e6 c (by omega) (by omega)] at this
  exact this
/-- all but GONE is in order when RENTS are paid -/
theorem JG_7 (h : WP a) (h0 : a 0 ≤ 399) : JG (A7 a) := by
  have hJ := h.1
  have hC := jC hJ
  unfold jv_C at hC
  have n : ∀ k, k < 3460 ∨ 3652 ≤ k → ng (A7 a) k = A7 a k := fun k hk => ng_k (by omega)
  have e : ∀ k, (0 ≤ k ∧ k < 3300 ∧ k ≠ 15 ∧ k ≠ 8) ∨ (5012 ≤ k ∧ k < 22300) → ng (A7 a) k = a k := fun k hk => by rw [n k (by omega)]; exact A7_a h h0 hk
  have em : ∀ m c, 0 ≤ m → m < 8 → 0 ≤ c → c < 16 → ng (A7 a) (3300 + 16 * m + c) = MI3 a (a 1) m c := fun m c m0 m1 c0 c1 => by
    rw [n _ (by omega), A7_k h h0 (by omega), A6_k h h0 (by omega)]; exact As_m ⟨m0, m1⟩ ⟨c0, c1⟩
  have eo : ∀ m c, 0 ≤ m → m < 80 → 0 ≤ c → c < 8 → ng (A7 a) (4372 + 8 * m + c) = OD3 a (a 1) m c := fun m c m0 m1 c0 c1 => by
    rw [n _ (by omega), A7_k h h0 (by omega), A6_k h h0 (by omega)]; exact As_o ⟨m0, m1⟩ ⟨c0, c1⟩
  have ep : ∀ p c, 0 ≤ p → p < 60 → 0 ≤ c → c < 12 → ng (A7 a) (3652 + 12 * p + c) = PE4 a p c := fun p c p0 p1 c0 c1 => by
    rw [n _ (by omega)]; exact A7_p h h0 ⟨p0, p1⟩ ⟨c0, c1⟩
  have pa : ∀ p c, 0 ≤ p → p < 60 → 0 ≤ c → c < 12 → c ≠ 7 → c ≠ 8 → ng (A7 a) (3652 + 12 * p + c) = a (3652 + 12 * p + c) := fun p c p0 p1 c0 c1 c7 c8 => by
    rw [ep p c p0 p1 c0 c1]; exact PE4_a ⟨p0, p1⟩ ⟨c0, c1⟩ c7 c8
  have e1 := e 1 (by omega)
  have e2 := e 2 (by omega)
  have e3 := e 3 (by omega)
  have e4 := e 4 (by omega)
  have e7 := e 7 (by omega)
  refine ⟨?_, ?_, hK (fun k k0 k1 => e k (by omega)) (jK hJ), hW (fun k k0 k1 => e k (by omega)) (fun k k0 k1 => e k (by omega)) (jW hJ), ?_, ?_, ?_, ?_, ⟨?_, ?_⟩, hF (by rw [e 5 (by omega)]; omega) (e 6 (by omega)) (fun k k0 k1 => e k (by omega)) (jF hJ)⟩
  · unfold jv_C
    rw [e 0 (by omega), e1, e2, e3, e4, e 5 (by omega), e 6 (by omega), e7]
    exact hC
  · have hS := jS hJ
    unfold jv_S at *
    rw [e 9 (by omega), e 10 (by omega), e 11 (by omega), e 12 (by omega), e 13 (by omega), e 14 (by omega)]
    exact hS
  · intro m m0 m1
    rw [e1] at m1
    rw [e7, em m 0 m0 (by omega) (by omega) (by omega), em m 1 m0 (by omega) (by omega) (by omega), em m 2 m0 (by omega) (by omega) (by omega), em m 3 m0 (by omega) (by omega) (by omega), em m 4 m0 (by omega) (by omega) (by omega), em m 5 m0 (by omega) (by omega) (by omega), em m 6 m0 (by omega) (by omega) (by omega), em m 7 m0 (by omega) (by omega) (by omega), em m 8 m0 (by omega) (by omega) (by omega), em m 9 m0 (by omega) (by omega) (by omega), em m 10 m0 (by omega) (by omega) (by omega)]
    exact jM_w h h0 m m0 m1
  · intro s s0 s1
    rw [e2] at s1
    have q := jQ hJ s s0 s1
    have v := A7_s h h0 (s := s) (by omega)
    rw [n (3428 + 8 * s + 1) (by omega), n (3428 + 8 * s + 2) (by omega), n (3428 + 8 * s + 3) (by omega), v.1 1 (by omega), v.1 2 (by omega), v.2.1]
    refine ⟨q.1, q.2.1, ?_⟩
    split <;> omega
  · intro x x0 x1
    rw [e3] at x1
    have q := jH hJ x x0 x1
    have v := (A7_h h h0).1 x x0 x1
    rw [e2, ng_k (k := 3460 + 8 * x + 0) (by omega), ng_k (k := 3460 + 8 * x + 1) (by omega), ng_k (k := 3460 + 8 * x + 2) (by omega), ng_g (by omega), v.1]
    exact ⟨q.1, v.2.1, v.2.2.1, by omega⟩
  · intro p p0 p1
    rw [e4] at p1
    have r := PE2_r h h0 ⟨p0, p1⟩
    have p7 : ng (A7 a) (3652 + 12 * p + 7) = PE2 a (a 1) p 7 := by
      rw [ep p 7 p0 (by omega) (by omega) (by omega)]
      unfold PE4
      rw [if_neg (by omega)]
    obtain ⟨b1, b2, b3, b4, b5, b6, b7, b8, b9, b10, b11, b12, b13, b14, b15⟩ := jP hJ p p0 p1
    rw [e1, e3, e4, p7, pa p 0 p0 (by omega) (by omega) (by omega) (by omega) (by omega), pa p 1 p0 (by omega) (by omega) (by omega) (by omega) (by omega), pa p 2 p0 (by omega) (by omega) (by omega) (by omega) (by omega), pa p 3 p0 (by omega) (by omega) (by omega) (by omega) (by omega), pa p 4 p0 (by omega) (by omega) (by omega) (by omega) (by omega), pa p 5 p0 (by omega) (by omega) (by omega) (by omega) (by omega), pa p 6 p0 (by omega) (by omega) (by omega) (by omega) (by omega)]
    refine ⟨b1, b2, b3, b4, b5, b6, b7, r.1, b9, b10, b11, fun x => ?_, b13, r.2, fun x => ?_⟩
    · have b12 := b12 x
      rw [pa (a (3652 + 12 * p + 6)) 3 (by omega) (by omega) (by omega) (by omega) (by omega) (by omega), pa (a (3652 + 12 * p + 6)) 4 (by omega) (by omega) (by omega) (by omega) (by omega) (by omega)]
      exact b12
    · rw [ng_g (by omega)] at x
      omega
  · intro o o0 o1
    rw [e7] at o1
    have q := (jO hJ).1 o o0 o1
    have v := OD3_b h h0 ⟨o0, o1⟩
    have v0 : ng (A7 a) (4372 + 8 * o) = a (4372 + 8 * o) := by
      have := eo o 0 o0 (by omega) (by omega) (by omega)
      rw [Int.add_zero] at this
      rw [this]; exact v.1
    rw [v0, eo o 1 o0 (by omega) (by omega) (by omega), eo o 2 o0 (by omega) (by omega) (by omega), eo o 3 o0 (by omega) (by omega) (by omega), eo o 4 o0 (by omega) (by omega) (by omega), v.2.2.2 2 (by omega) (by omega), v.2.2.2 3 (by omega) (by omega), v.2.2.2 4 (by omega) (by omega)]
    exact ⟨q.1, v.2.1, q.2.2.1, q.2.2.2.1, q.2.2.2.2⟩
  · intro k k0 k1
    have q := (jO hJ).2 k k0 k1
    rw [e (20 + 8 * k + 7) (by omega), e7]
    have v0 : ∀ o, 0 ≤ o → o < a 7 → ng (A7 a) (4372 + 8 * o) = a (4372 + 8 * o) := fun o o0 o1 => by
      have := eo o 0 o0 (by omega) (by omega) (by omega)
      rw [Int.add_zero] at this
      rw [this]; exact (OD3_b h h0 ⟨o0, o1⟩).1
    constructor
    · intro x
      obtain ⟨o, o0, o1, o2⟩ := q.mp x
      exact ⟨o, o0, o1, by rw [v0 o o0 o1]; exact o2⟩
    · rintro ⟨o, o0, o1, o2⟩
      rw [v0 o o0 o1] at o2
      exact q.mpr ⟨o, o0, o1, o2⟩
/-- HOMES that are GONE, and who ends WORK -/
theorem JG_8 (h : WP a) (h0 : a 0 ≤ 399) : JG (A8 a) ∧ (∀ q, 0 ≤ q → q < a 4 → A8 a (3460 + 8 * a (3652 + 12 * q + 0) + 3) = 1 → A8 a (3652 + 12 * q + 3) = 0) ∧ ∀ x, 0 ≤ x → x < a 3 → 0 ≤ A8 a (3460 + 8 * x + 3) ∧ A8 a (3460 + 8 * x + 3) ≤ 1 := by
  have hC := jC h.1
  unfold jv_C at hC
  have c := A7_c h h0
  have v := (A7_h h h0).1
  have p0_ : ∀ q, 0 ≤ q → q < a 4 → A7 a (3652 + 12 * q + 0) = a (3652 + 12 * q + 0) := fun q q0 q1 => by rw [A7_p h h0 (by omega) (by omega)]; exact PE4_a (by omega) (by omega) (by omega) (by omega)
  have p3_ : ∀ q, 0 ≤ q → q < a 4 → A7 a (3652 + 12 * q + 3) = a (3652 + 12 * q + 3) := fun q q0 q1 => by rw [A7_p h h0 (by omega) (by omega)]; exact PE4_a (by omega) (by omega) (by omega) (by omega)
  have J := lvs_J (b := A7 a) (w := a 0) (JG_7 h h0) (by omega) (by omega) (fun q q0 q1 => by
    have x := jP h.1 q q0 (by omega)
    rw [p0_ q q0 (by omega), p3_ q q0 (by omega), (v _ x.1.1 x.1.2).2.2.2]
    exact ⟨by omega, x.2.2.2.2.2.2.2.2.2.2.2.2.2.2⟩) (a 3) (by omega) (by omega)
  refine ⟨J.1, fun q q0 q1 e => ?_, fun x x0 x1 => ?_⟩
  · have := J.2 q q0 (by omega)
    rw [p0_ q q0 q1] at this
    exact this e
  · unfold A8
    refine lvs_g (by omega) (by omega) (fun y y0 y1 => ?_) (a 3) (by omega) (by omega) x x0 (by omega)
    have := jH h.1 y y0 (by omega)
    rw [(v y y0 (by omega)).2.2.2]
    omega
theorem Jv_w (h : WP a) (h0 : a 0 ≤ 399) : Jv (r_week a) := by
  have hC := jC h.1
  unfold jv_C at hC
  obtain ⟨J, J2, J3⟩ := JG_8 h h0
  have hCJ := jC J
  unfold jv_C at hCJ
  have n : ∀ k, k ≠ 0 → (k < 3460 ∨ 3652 ≤ k ∨ (k - 3460) % 8 ≠ 3) → r_week a k = ng (A8 a) k := fun k k0 hk => by rw [rW_k k0, ng_k hk]
  have c := rW_c h h0
  have n1 := n 1 (by omega) (by omega)
  have n3 := n 3 (by omega) (by omega)
  have n4 := n 4 (by omega) (by omega)
  have n7 := n 7 (by omega) (by omega)
  refine ⟨?_, ?_, hK (fun k k0 k1 => n k (by omega) (by omega)) (jK J), hW (fun k k0 k1 => n k (by omega) (by omega)) (fun k k0 k1 => n k (by omega) (by omega)) (jW J), hM n1 (by omega) (fun k k0 k1 => n k (by omega) (by omega)) (jM J), hQ (n 2 (by omega) (by omega)) (fun k k0 k1 => n k (by omega) (by omega)) (jQ J), ?_, ?_, hO n7 (fun k k0 k1 => n k (by omega) (by omega)) (fun k k0 k1 => n k (by omega) (by omega)) (jO J), hF (by rw [n 5 (by omega) (by omega)]; omega) (n 6 (by omega) (by omega)) (fun k k0 k1 => n k (by omega) (by omega)) (jF J)⟩
  · unfold jv_C
    rw [rW_0, c.1, c.2.1, c.2.2.1, c.2.2.2.1, c.2.2.2.2.1, c.2.2.2.2.2.1, c.2.2.2.2.2.2]
    omega
  · have hS := jS J
    unfold jv_S at *
    rw [n 9 (by omega) (by omega), n 10 (by omega) (by omega), n 11 (by omega) (by omega), n 12 (by omega) (by omega), n 13 (by omega) (by omega), n 14 (by omega) (by omega)]
    exact hS
  · intro x x0 x1
    rw [c.2.2.1] at x1
    have q := jH J x x0 (by omega)
    rw [n 2 (by omega) (by omega), n (3460 + 8 * x + 0) (by omega) (by omega), n (3460 + 8 * x + 1) (by omega) (by omega), n (3460 + 8 * x + 2) (by omega) (by omega), rW_k (k := 3460 + 8 * x + 3) (by omega)]
    exact ⟨q.1, q.2.1, q.2.2.1, J3 x x0 x1⟩
  · intro p p0 p1
    rw [c.2.2.2.1] at p1
    have e : ∀ k, 3652 ≤ k → r_week a k = ng (A8 a) k := fun k hk => n k (by omega) (by omega)
    obtain ⟨b1, b2, b3, b4, b5, b6, b7, b8, b9, b10, b11, b12, b13, b14, b15⟩ := jP J p p0 (by omega)
    rw [n1, n3, n4, e (3652 + 12 * p + 0) (by omega), e (3652 + 12 * p + 1) (by omega), e (3652 + 12 * p + 2) (by omega), e (3652 + 12 * p + 3) (by omega), e (3652 + 12 * p + 4) (by omega), e (3652 + 12 * p + 5) (by omega), e (3652 + 12 * p + 6) (by omega), e (3652 + 12 * p + 7) (by omega)]
    refine ⟨b1, b2, b3, b4, b5, b6, b7, b8, b9, b10, b11, fun x => ?_, b13, b14, fun x => ?_⟩
    · have b12 := b12 x
      rw [e (3652 + 12 * ng (A8 a) (3652 + 12 * p + 6) + 3) (by omega), e (3652 + 12 * ng (A8 a) (3652 + 12 * p + 6) + 4) (by omega)]
      exact b12
    · have e0 : ng (A8 a) (3652 + 12 * p + 0) = a (3652 + 12 * p + 0) := by
        rw [← e _ (by omega), rW_p h h0 (by omega) (by omega)]
        exact PE4_a (by omega) (by omega) (by omega) (by omega)
      rw [e0, rW_k (by have := (jP h.1 p p0 p1).1; omega)] at x
      rw [ng_k (by omega)]
      exact J2 p p0 p1 x
theorem eL_w (h : WP a) (h0 : a 0 ≤ 399) : eL a (r_week a) := fun k hk => rW_a h h0 (by omega)
end WKJ
