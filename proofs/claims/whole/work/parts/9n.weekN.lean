/-! ===== a WEEK: the COINS that there can be (segments printed by wip/whole, contracts own work) ===== -/
theorem sI_sub (f g : Int → Int) (n : Int) : sI (fun p => f p - g p) n = sI f n - sI g n := by
  have e := sI_add (fun p => f p - g p) g n
  have e2 : sI (fun p => f p - g p + g p) n = sI f n := sI_c (fun p _ _ => by omega)
  rw [e2] at e
  omega
theorem sI_mul (c : Int) (f : Int → Int) (n : Int) : sI (fun p => c * f p) n = c * sI f n := by
  have key : ∀ m : Nat, sN (fun p => c * f p) m = c * sN f m := by
    intro m
    induction m with
    | zero => show 0 = c * 0; omega
    | succ m ih => show sN (fun p => c * f p) m + c * f m = c * (sN f m + f m); rw [ih, Int.mul_add]
  exact key _
section WKP
variable {a : Int → Int}
/-- COINS of HOMES and FUND, and what can still come to them -/
def PT (a : Int → Int) : Int := a 8 + sI (fun x => a (3460 + 8 * x + 1)) (a 3) + 11000 * sI (fun o => a (4372 + 8 * o + 1)) (a 7) + 5500000 * (80 - a 7) + 240000 * (400 - a 0)
theorem nx_s {m : Int} (hD : wk_D a m) : ∀ n, 0 ≤ n → sI (wk_nx a m) n = wk_tx a m - (wk_s a m n).2.2 := by
  have key : ∀ n : Nat, sI (wk_nx a m) (n : Int) = wk_tx a m - (wk_s a m (n : Int)).2.2 := by
    intro n
    induction n with
    | zero =>
      rw [show ((0 : Nat) : Int) = 0 from rfl, sI_0, wk_s_0]
      show (0 : Int) = wk_tx a m - wk_tx a m
      omega
    | succ n ih =>
      rw [show ((n + 1 : Nat) : Int) = (n : Int) + 1 by omega, sI_s (by omega), wk_s_s (by omega), ih]
      by_cases c : wk_wv a m (n : Int)
      · have e1 : wk_nx a m (n : Int) = wk_N1 a m n (wk_s a m n) := if_pos ⟨c, hD⟩
        have e2 : (wk_S1 a m (n : Int) (wk_s a m n)).2.2 = (wk_s a m n).2.2 - wk_N1 a m n (wk_s a m n) := rfl
        rw [if_pos c, e1, e2]; omega
      · have e1 : wk_nx a m (n : Int) = 0 := if_neg (fun z => c z.1)
        rw [if_neg c, e1]; omega
  intro n n0
  have := key n.toNat
  rw [Int.toNat_of_nonneg n0] at this
  exact this
theorem md_nx (h4 : 0 ≤ a 4) (m : Int) : wk_md a m = sI (wk_nx a m) (a 4) := by
  unfold wk_md
  by_cases hD : wk_D a m
  · rw [if_pos hD, nx_s hD _ h4]
  · rw [if_neg hD, sI_c (f := wk_nx a m) (g := fun _ => 0) (fun p _ _ => if_neg (fun z => hD z.2)), sI_z]
theorem lw_sum (hJ : Jv a) (hT : jv_T a) (h0 : a 0 ≤ 399) : sI (fun o => wk_lw a (a 1) o) (a 7) = sI (wk_md a) (a 1) := by
  have hC := jC hJ
  unfold jv_C at hC
  have e1 : sI (fun o => wk_lw a (a 1) o) (a 7) = sI (fun o => sI (fun m => if wk_by a m = o then wk_md a m else 0) (a 1)) (a 7) := rfl
  rw [e1, sI_sw (fun o m => if wk_by a m = o then wk_md a m else 0)]
  refine sI_c (fun m m0 m1 => ?_)
  by_cases hD : wk_D a m
  · have b := (wk_by_b hJ hT h0 ⟨m0, m1⟩ hD).1
    rw [sI_c (g := fun o => if o = wk_by a m then wk_md a m else 0) (fun o _ _ => by
      by_cases q : wk_by a m = o
      · rw [if_pos q, if_pos q.symm]
      · rw [if_neg q, if_neg (fun z => q z.symm)]), sI_one b]
  · have e0 : wk_md a m = 0 := if_neg hD
    rw [e0, sI_c (g := fun _ => 0) (fun o _ _ => by split <;> rfl), sI_z]
theorem Wf_le (hJ : Jv a) (hT : jv_T a) (h0 : a 0 ≤ 399) : sI (wk_Wf a) (a 4) ≤ 240000 + 11000 * sI (wk_md a) (a 1) := by
  have hC := jC hJ
  unfold jv_C at hC
  have nn : ∀ p, 0 ≤ p → p < a 4 → 0 ≤ (if 0 ≤ a (3652 + 12 * p + 4) then wk_nx a (a (3652 + 12 * p + 4)) p else 0) := fun p p0 p1 => by
    have q := jP hJ p p0 p1
    split
    · exact (wk_nx_b hJ hT h0 (by omega) ⟨p0, p1⟩).1
    · omega
  have e1 : sI (wk_v a) (a 4) ≤ sI (fun p => 4000 + 11000 * (if 0 ≤ a (3652 + 12 * p + 4) then wk_nx a (a (3652 + 12 * p + 4)) p else 0)) (a 4) := sI_le (by omega) (fun p p0 p1 => by
    have q := jP hJ p p0 p1
    have n := nn p p0 p1
    try dsimp only
    unfold wk_v wk_vx
    by_cases c : 0 ≤ a (3652 + 12 * p + 4) ∧ wk_D a (a (3652 + 12 * p + 4))
    · rw [if_pos c]
      by_cases s : 3 ≤ a (3652 + 12 * p + 3)
      · rw [if_pos s]
        have hn := wk_hn_b (Jl_of hJ) hT p
        have := m2 hn.1 hn.2 q.2.2.2.2.2.1.1 q.2.2.2.2.2.1.2
        omega
      · rw [if_neg s]
        rw [if_pos c.1] at n ⊢
        have pm := (wk_by_b hJ hT h0 ⟨c.1, by omega⟩ c.2).2.2.2.1
        have e : wk_np a p = wk_nx a (a (3652 + 12 * p + 4)) p := rfl
        have e2 : wk_pm a (a (3652 + 12 * p + 4)) = wk_py a (a (3652 + 12 * p + 4)) (wk_by a (a (3652 + 12 * p + 4))) := rfl
        have := Int.mul_le_mul_of_nonneg_left pm.2 n
        rw [e, e2]; omega
    · rw [if_neg c]; omega)
  rw [sI_add (fun _ => 4000) (fun p => 11000 * (if 0 ≤ a (3652 + 12 * p + 4) then wk_nx a (a (3652 + 12 * p + 4)) p else 0)), sI_mul] at e1
  have e2 := sI_b (f := fun _ => (4000 : Int)) (n := a 4) (lo := 0) (hi := 4000) (by omega) (fun p p0 p1 => by omega)
  have e3 : sI (fun p => if 0 ≤ a (3652 + 12 * p + 4) then wk_nx a (a (3652 + 12 * p + 4)) p else 0) (a 4) = sI (wk_md a) (a 1) := by
    have f1 : sI (fun p => if 0 ≤ a (3652 + 12 * p + 4) then wk_nx a (a (3652 + 12 * p + 4)) p else 0) (a 4) = sI (fun p => sI (fun m => wk_nx a m p) (a 1)) (a 4) := sI_c (fun p p0 p1 => by
      have q := jP hJ p p0 p1
      have z : ∀ m, m ≠ a (3652 + 12 * p + 4) → wk_nx a m p = 0 := fun m hm => if_neg (fun z => hm z.1.1.symm)
      try dsimp only
      by_cases c : 0 ≤ a (3652 + 12 * p + 4)
      · rw [if_pos c, sI_c (f := fun m => wk_nx a m p) (g := fun m => if m = a (3652 + 12 * p + 4) then wk_nx a (a (3652 + 12 * p + 4)) p else 0) (fun m _ _ => by
          by_cases e : m = a (3652 + 12 * p + 4)
          · rw [if_pos e, e]
          · rw [if_neg e]; exact z m e), sI_one ⟨c, by omega⟩]
      · rw [if_neg c, sI_c (f := fun m => wk_nx a m p) (g := fun _ => 0) (fun m m0 _ => z m (by omega)), sI_z])
    rw [f1, sI_sw (fun p m => wk_nx a m p)]
    exact sI_c (fun m _ _ => (md_nx (by omega) m).symm)
  rw [e3] at e1
  rw [wk_Wsum hJ]
  omega
theorem F2_sum : ∀ n, 0 ≤ n → sI (wk_W2 a) n + wk_F2 a n = sI (wk_lv a) n + wk_F1 a (a 4) := by
  have key : ∀ n : Nat, sI (wk_W2 a) (n : Int) + wk_F2 a n = sI (wk_lv a) n + wk_F1 a (a 4) := by
    intro n
    induction n with
    | zero => rfl
    | succ n ih =>
      rw [show ((n + 1 : Nat) : Int) = (n : Int) + 1 by omega, sI_s (by omega), sI_s (by omega), wk_F2_s (by omega)]
      by_cases c : wk_sk a (n : Int) ∧ a 10 ≤ wk_F2 a n
      · have e : wk_W2 a (n : Int) = wk_lv a n + a 10 := if_pos c
        rw [if_pos c, e]; omega
      · have e : wk_W2 a (n : Int) = wk_lv a n := if_neg c
        rw [if_neg c, e]; omega
  intro n n0
  have := key n.toNat
  rw [Int.toNat_of_nonneg n0] at this
  exact this
theorem F1_sum : ∀ n, 0 ≤ n → sI (wk_lv a) n + wk_F1 a n = sI (wk_Wf a) n + a 8 := by
  have key : ∀ n : Nat, sI (wk_lv a) (n : Int) + sI (fun p => if a 9 ≤ wk_Wf a p then a 9 else 0) (n : Int) = sI (wk_Wf a) n := by
    intro n
    induction n with
    | zero => rfl
    | succ n ih =>
      rw [show ((n + 1 : Nat) : Int) = (n : Int) + 1 by omega, sI_s (by omega), sI_s (by omega), sI_s (by omega)]
      by_cases c : a 9 ≤ wk_Wf a (n : Int)
      · have e : wk_lv a (n : Int) = wk_Wf a n - a 9 := if_pos c
        rw [if_pos c, e]; omega
      · have e : wk_lv a (n : Int) = wk_Wf a n := if_neg c
        rw [if_neg c, e]; omega
  intro n n0
  have := key n.toNat
  rw [Int.toNat_of_nonneg n0] at this
  unfold wk_F1
  omega
theorem hgs_P {b : Int → Int} {L : Int} (H : HI b L 0) : ∀ n, 0 ≤ n → n ≤ b 3 → ∀ x, 0 ≤ x → x < b 3 → r_hgs b L n (3460 + 8 * x + 1) ≤ b (3460 + 8 * x + 1) + (if x < n then hg_e b x (b 4) else 0) := by
  have key : ∀ n : Nat, (n : Int) ≤ b 3 → ∀ x, 0 ≤ x → x < b 3 → r_hgs b L n (3460 + 8 * x + 1) ≤ b (3460 + 8 * x + 1) + (if x < (n : Int) then hg_e b x (b 4) else 0) := by
    intro n
    induction n with
    | zero =>
      intro _ x x0 x1
      rw [show ((0 : Nat) : Int) = 0 from rfl, r_hgs_0, if_neg (by omega)]; omega
    | succ n ih =>
      intro hn x x0 x1
      have i := ih (by omega) x x0 x1
      obtain ⟨I1, i0, i1, i2, i3, i4⟩ := HI_I H n (by omega) (by omega)
      have e0 : 0 ≤ hg_e b x (b 4) := sI_p0 H.1.2.2.2.1.1 (fun p p0 p1 => by
        have := H.2.1.1 p p0 p1
        try dsimp only
        split <;> omega)
      rw [show ((n + 1 : Nat) : Int) = (n : Int) + 1 by omega, r_hgs_s (by omega)]
      by_cases e : x = (n : Int)
      · subst e
        rw [if_neg (by omega)] at i
        rw [if_pos (show (n : Int) < (n : Int) + 1 by omega)]
        split
        · have hp := HI_HP I1 (n := n) ⟨by omega, by omega⟩
          have hb := HP_b hp
          have rP : r_hg (r_hgs b L n) L n (3460 + 8 * (n : Int) + 1) = hg_P2 (r_hgs b L n) L n - hg_bk (r_hgs b L n) L n := hG_rP (hgp_of hp)
          have dP : hg_P1 (r_hgs b L n) n = r_hgs b L n (3460 + 8 * (n : Int) + 1) + hg_e (r_hgs b L n) n (r_hgs b L n 4) := rfl
          have ee := hgs_e H (n := n) (by omega) (by omega) n
          rw [i4, ee] at dP
          rw [rP]; omega
        · omega
      · have l : x < (n : Int) + 1 ↔ x < (n : Int) := by omega
        rw [show (if x < (n : Int) + 1 then hg_e b x (b 4) else 0) = (if x < (n : Int) then hg_e b x (b 4) else 0) from by
          by_cases c : x < (n : Int)
          · rw [if_pos c, if_pos (by omega)]
          · rw [if_neg c, if_neg (by omega)]]
        split
        · have hp := HI_HP I1 (n := n) ⟨by omega, by omega⟩
          have h0 := hp.1.1
          have hs := hp.2.2.1.1
          have h3 := H.1.2.2.1
          rw [r_hg_k hp (by omega)]; exact i
        · exact i
  intro n n0 n1
  have := key n.toNat (by omega)
  rw [Int.toNat_of_nonneg n0] at this
  exact this
theorem E_sum (hJ : Jv a) : sI (fun x => wk_E a x (a 4)) (a 3) = sI (wk_W2 a) (a 4) := by
  have e1 : sI (fun x => wk_E a x (a 4)) (a 3) = sI (fun x => sI (fun p => if a (3652 + 12 * p + 0) = x then wk_W2 a p else 0) (a 4)) (a 3) := rfl
  rw [e1, sI_sw (fun x p => if a (3652 + 12 * p + 0) = x then wk_W2 a p else 0)]
  refine sI_c (fun p p0 p1 => ?_)
  have q := (jP hJ p p0 p1).1
  rw [sI_c (g := fun x => if x = a (3652 + 12 * p + 0) then wk_W2 a p else 0) (fun x _ _ => by
    by_cases q : a (3652 + 12 * p + 0) = x
    · rw [if_pos q, if_pos q.symm]
    · rw [if_neg q, if_neg (fun z => q z.symm)]), sI_one q]
theorem PU_le (h : WP a) (h0 : a 0 ≤ 399) : sI (fun x => r_week a (3460 + 8 * x + 1)) (a 3) ≤ sI (fun x => a (3460 + 8 * x + 1)) (a 3) + sI (wk_W2 a) (a 4) := by
  have hC := jC h.1
  unfold jv_C at hC
  have c5 := A5_c (a := a) (by omega)
  rw [← E_sum h.1, ← sI_add]
  refine sI_le (by omega) (fun x x0 x1 => ?_)
  try dsimp only
  have i := hgs_P (WP_H h h0) (a 3) (by omega) (by omega) x x0 (by omega)
  rw [if_pos x1, c5.2.2.2.2.1, hg_e5 h h0 (by omega), A5_k (k := 3460 + 8 * x + 1) (by omega) (by omega) (by omega)] at i
  rw [rW_k (by omega), A8_h h h0 (by omega), A7_k h h0 (by omega)]
  exact i
theorem PT_w (h : WP a) (h0 : a 0 ≤ 399) : PT (r_week a) ≤ PT a := by
  have hC := jC h.1
  unfold jv_C at hC
  have c := rW_c h h0
  have p1 := PU_le h h0
  have p2 := F2_sum (a := a) (a 4) (by omega)
  have p3 := F1_sum (a := a) (a 4) (by omega)
  have p4 := Wf_le h.1 h.2.1 h0
  have p5 := lw_sum h.1 h.2.1 h0
  have e8 : r_week a 8 = wk_F2 a (a 4) := by
    rw [rW_5 h h0 (by omega)]
    unfold A5
    rw [As_k (by omega)]
    exact wk_ab_8 (by omega)
  have eo : sI (fun o => r_week a (4372 + 8 * o + 1)) (a 7) = sI (fun o => a (4372 + 8 * o + 1)) (a 7) - sI (fun o => wk_lw a (a 1) o) (a 7) := by
    rw [← sI_sub]
    refine sI_c (fun o o0 o1 => ?_)
    try dsimp only
    rw [rW_o h h0 (by omega) (by omega), (OD3_b h h0 ⟨o0, o1⟩).2.2.1]
  unfold PT
  rw [rW_0, c.2.2.1, c.2.2.2.2.2.2, e8, eo, p5]
  omega
/-- what always holds still holds when COINS are small -/
theorem WP_w (h : WP a) (h0 : a 0 ≤ 399) (hP : PT a ≤ 600000000) : WP (r_week a) := by
  have hC := jC h.1
  unfold jv_C at hC
  have J := Jv_w h h0
  have c := rW_c h h0
  have pt := PT_w h h0
  have jc := jC J
  unfold jv_C at jc
  have U := h.2.2.2.1
  have e8 : r_week a 8 = wk_F2 a (a 4) := by
    rw [rW_5 h h0 (by omega)]
    unfold A5
    rw [As_k (by omega)]
    exact wk_ab_8 (by omega)
  have f2 := wk_F2_b h.1 U.1.1 (a 4) (by omega) (by omega)
  have n1 : ∀ x, 0 ≤ x → x < r_week a 3 → 0 ≤ r_week a (3460 + 8 * x + 1) := fun x x0 x1 => (jH J x x0 x1).2.1
  have s1 := sI_p0 (f := fun x => r_week a (3460 + 8 * x + 1)) (n := r_week a 3) (by omega) n1
  have s2 := sI_p0 (f := fun o => r_week a (4372 + 8 * o + 1)) (n := r_week a 7) (by omega) (fun o o0 o1 => ((jO J).1 o o0 o1).2.1.1)
  unfold PT at pt hP
  refine ⟨J, jT_c (eL_w h h0) (jC h.1) h.2.1, jE_c (eL_w h h0) (jC h.1) h.2.1 h.2.2.1, ⟨by omega, fun x x0 x1 => ?_, jU_s h h0⟩, jB_w h h0, jZ_w h h0⟩
  have := sI_g1 (f := fun x => r_week a (3460 + 8 * x + 1)) (n := r_week a 3) (c := x) ⟨x0, x1⟩ n1
  try dsimp only at this
  omega
end WKP
