/-! ===== a WEEK: what it leaves, number by number (segments printed by wip/whole, contracts own work) ===== -/
/-- what always holds when a WEEK begins -/
def WP (a : Int → Int) : Prop := Jv a ∧ jv_T a ∧ jv_E a ∧ jv_U a ∧ jv_B a ∧ jv_Z a
section WKV
variable {a : Int → Int}
theorem WP_H (h : WP a) (h0 : a 0 ≤ 399) : HI (A5 a) (wk_lf a) 0 := HI_0 h.1 h.2.1 h0 h.2.2.2.1 h.2.2.2.2.1
theorem A6_c (h : WP a) (h0 : a 0 ≤ 399) : A6 a 0 = a 0 ∧ A6 a 1 = a 1 ∧ A6 a 2 = a 2 ∧ A6 a 3 = a 3 ∧ A6 a 4 = a 4 := by
  have hC := jC h.1
  unfold jv_C at hC
  have c := A5_c (a := a) (by omega)
  have i := (HI_I (WP_H h h0) (a 3) (by omega) (by omega)).2
  unfold A6
  exact ⟨i.1.trans c.1, i.2.1.trans c.2.1, i.2.2.1.trans c.2.2.1, i.2.2.2.1.trans c.2.2.2.1, i.2.2.2.2.trans c.2.2.2.2.1⟩
theorem A6_k (h : WP a) (h0 : a 0 ≤ 399) {k : Int} (hk : hgo (a 0) k) : A6 a k = A5 a k := by
  have hC := jC h.1
  unfold jv_C at hC
  have c := A5_c (a := a) (by omega)
  unfold A6
  exact hgs_k (WP_H h h0) (a 3) (by omega) (by omega) k (by rw [c.1]; exact hk)
theorem A7_k (h : WP a) (h0 : a 0 ≤ 399) {k : Int} (hk : k < 3428 ∨ 3460 ≤ k) : A7 a k = A6 a k := by
  have hC := jC h.1
  unfold jv_C at hC
  have c := A6_c h h0
  unfold A7
  exact rts_c (by omega) (a 2) (by omega) (by omega) k (by omega)
theorem A7_c (h : WP a) (h0 : a 0 ≤ 399) : A7 a 0 = a 0 ∧ A7 a 1 = a 1 ∧ A7 a 2 = a 2 ∧ A7 a 3 = a 3 ∧ A7 a 4 = a 4 := by
  have c := A6_c h h0
  have e : ∀ k, k < 3428 → A7 a k = A6 a k := fun k hk => A7_k h h0 (by omega)
  rw [e 0 (by omega), e 1 (by omega), e 2 (by omega), e 3 (by omega), e 4 (by omega)]
  exact c
theorem A8_k (h : WP a) (h0 : a 0 ≤ 399) {k : Int} (hk : k < 3460 ∨ 4372 ≤ k) : A8 a k = A7 a k := by
  have hC := jC h.1
  unfold jv_C at hC
  have c := A7_c h h0
  unfold A8
  exact lvs_c (by omega) (by omega) (a 3) (by omega) (by omega) k (by omega)
theorem A8_h (h : WP a) (h0 : a 0 ≤ 399) {k : Int} (hk : 3460 ≤ k ∧ k < 3652 ∧ (k - 3460) % 8 ≠ 3) : A8 a k = A7 a k := by
  have hC := jC h.1
  unfold jv_C at hC
  have c := A7_c h h0
  unfold A8
  exact lvs_h (by omega) (by omega) (a 3) (by omega) (by omega) k hk.1 hk.2.1 (Or.inl hk.2.2)
theorem rW_k {k : Int} (hk : k ≠ 0) : r_week a k = A8 a k := u1_n hk
theorem rW_0 : r_week a 0 = a 0 + 1 := u1_s _ _ _
/-- what is as when WAGES were written -/
theorem rW_5 (h : WP a) (h0 : a 0 ≤ 399) {k : Int} (hk : (0 < k ∧ k < 3428 ∧ k ≠ 15) ∨ (4372 ≤ k ∧ k < 22300) ∨ 60700 ≤ k) : r_week a k = A5 a k := by
  have hC := jC h.1
  unfold jv_C at hC
  rw [rW_k (by omega), A8_k h h0 (by omega), A7_k h h0 (by omega), A6_k h h0 (by omega)]
/-- what is as before -/
theorem rW_a (h : WP a) (h0 : a 0 ≤ 399) {k : Int} (hk : (0 < k ∧ k < 3300 ∧ k ≠ 15 ∧ k ≠ 8) ∨ (5012 ≤ k ∧ k < 22300)) : r_week a k = a k := by
  have hC := jC h.1
  unfold jv_C at hC
  rw [rW_5 h h0 (by omega), A5_k (by omega) (by omega) (by omega)]
theorem rW_c (h : WP a) (h0 : a 0 ≤ 399) : r_week a 1 = a 1 ∧ r_week a 2 = a 2 ∧ r_week a 3 = a 3 ∧ r_week a 4 = a 4 ∧ r_week a 5 = a 5 ∧ r_week a 6 = a 6 ∧ r_week a 7 = a 7 :=
  ⟨rW_a h h0 (by omega), rW_a h h0 (by omega), rW_a h h0 (by omega), rW_a h h0 (by omega), rW_a h h0 (by omega), rW_a h h0 (by omega), rW_a h h0 (by omega)⟩
/-- books of other WEEKS, by HOMES -/
theorem rW_b (h : WP a) (h0 : a 0 ≤ 399) {k : Int} (hk : 22300 ≤ k ∧ k < 60700 ∧ ¬ (22300 + 24 * a 0 ≤ k ∧ k < 22300 + 24 * a 0 + 24) ∧ ¬ (31900 + 24 * a 0 ≤ k ∧ k < 31900 + 24 * a 0 + 24) ∧ ¬ (41500 + 24 * a 0 ≤ k ∧ k < 41500 + 24 * a 0 + 24) ∧ ¬ (51100 + 24 * a 0 ≤ k ∧ k < 51100 + 24 * a 0 + 24)) : r_week a k = a k := by
  have hC := jC h.1
  unfold jv_C at hC
  rw [rW_k (by omega), A8_k h h0 (by omega), A7_k h h0 (by omega), A6_k h h0 (by omega), A5_k (by omega) (by omega) (by omega)]
/-- books by PERSONS and MILLS -/
theorem rW_w (h : WP a) (h0 : a 0 ≤ 399) {k : Int} (hk : 60700 ≤ k) : r_week a k = wk_ab a (a 4) (a 1) k := by
  rw [rW_5 h h0 (by omega)]
  exact As_k (by omega)
theorem rW_m (h : WP a) (h0 : a 0 ≤ 399) {m c : Int} (hm : 0 ≤ m ∧ m < 8) (hc : 0 ≤ c ∧ c < 16) : r_week a (3300 + 16 * m + c) = MI3 a (a 1) m c := by
  rw [rW_5 h h0 (by omega)]
  exact As_m hm hc
theorem rW_o (h : WP a) (h0 : a 0 ≤ 399) {m c : Int} (hm : 0 ≤ m ∧ m < 80) (hc : 0 ≤ c ∧ c < 8) : r_week a (4372 + 8 * m + c) = OD3 a (a 1) m c := by
  rw [rW_5 h h0 (by omega)]
  exact As_o hm hc
/-- PERSONS' numbers that no end of WORK changes -/
theorem ewP_cc {b : Int → Int} {h : Int} (h4 : 0 ≤ b 4) : ∀ n, 0 ≤ n → n ≤ b 4 → ∀ q c, 0 ≤ c ∧ c ≤ 2 ∨ 8 ≤ c ∧ c ≤ 11 → fI (r_ewP h) n b (3652 + 12 * q + c) = b (3652 + 12 * q + c) := by
  have key : ∀ n : Nat, (n : Int) ≤ b 4 → ∀ q c, 0 ≤ c ∧ c ≤ 2 ∨ 8 ≤ c ∧ c ≤ 11 → fI (r_ewP h) n b (3652 + 12 * q + c) = b (3652 + 12 * q + c) := by
    intro n
    induction n with
    | zero => intro _ q c _; rfl
    | succ n ih =>
      intro hn q c hc
      rw [show ((n + 1 : Nat) : Int) = (n : Int) + 1 by omega, fI_s (by omega)]
      have i := ih (by omega) q c hc
      have i4 := ewP_c (b := b) (h := h) h4 n (by omega) (by omega) 4 (by omega)
      show (if fI (r_ewP h) (n : Int) b (3652 + 12 * (n : Int) + 0) = h then r_endW (fI (r_ewP h) (n : Int) b) n else fI (r_ewP h) (n : Int) b) (3652 + 12 * q + c) = _
      split
      · rw [r_endW_c (by omega) hc]; exact i
      · exact i
  intro n n0 n1
  have := key n.toNat (by omega)
  rw [Int.toNat_of_nonneg n0] at this
  exact this
theorem lvs_cc {b : Int → Int} {w : Int} (h3 : b 3 ≤ 24) (h4 : 0 ≤ b 4 ∧ b 4 ≤ 60) : ∀ n, 0 ≤ n → n ≤ b 3 → ∀ q c, 0 ≤ q → 0 ≤ c ∧ c ≤ 2 ∨ 8 ≤ c ∧ c ≤ 11 → r_lvs b w n (3652 + 12 * q + c) = b (3652 + 12 * q + c) := by
  have key : ∀ n : Nat, (n : Int) ≤ b 3 → ∀ q c, 0 ≤ q → 0 ≤ c ∧ c ≤ 2 ∨ 8 ≤ c ∧ c ≤ 11 → r_lvs b w n (3652 + 12 * q + c) = b (3652 + 12 * q + c) := by
    intro n
    induction n with
    | zero => intro _ q c _ _; rfl
    | succ n ih =>
      intro hn q c hq hc
      rw [show ((n + 1 : Nat) : Int) = (n : Int) + 1 by omega, r_lvs_s (by omega)]
      have i := ih (by omega) q c hq hc
      have i4 := lvs_c (b := b) (w := w) h3 h4 n (by omega) (by omega) 4 (by omega)
      split
      · exact i
      · split
        · have e4 : u1 (r_lvs b w n) (3460 + 8 * (n : Int) + 3) 1 4 = r_lvs b w n 4 := u1_n (by omega)
          rw [← e4, ewP_cc (by omega) _ (by omega) (by omega) q c hc, u1_n (by omega)]
          exact i
        · exact i
  intro n n0 n1
  have := key n.toNat (by omega)
  rw [Int.toNat_of_nonneg n0] at this
  exact this
/-- rows of PERSONS that are not there -/
theorem lvs_p {b : Int → Int} {w : Int} (h3 : b 3 ≤ 24) (h4 : 0 ≤ b 4 ∧ b 4 ≤ 60) : ∀ n, 0 ≤ n → n ≤ b 3 → ∀ k, 3652 + 12 * b 4 ≤ k → r_lvs b w n k = b k := by
  have key : ∀ n : Nat, (n : Int) ≤ b 3 → ∀ k, 3652 + 12 * b 4 ≤ k → r_lvs b w n k = b k := by
    intro n
    induction n with
    | zero => intro _ k _; rfl
    | succ n ih =>
      intro hn k hk
      rw [show ((n + 1 : Nat) : Int) = (n : Int) + 1 by omega, r_lvs_s (by omega)]
      have i := ih (by omega) k hk
      have i4 := lvs_c (b := b) (w := w) h3 h4 n (by omega) (by omega) 4 (by omega)
      split
      · exact i
      · split
        · have e4 : u1 (r_lvs b w n) (3460 + 8 * (n : Int) + 3) 1 4 = r_lvs b w n 4 := u1_n (by omega)
          rw [← e4, ewP_c (by omega) _ (by omega) (by omega) k (by omega), u1_n (by omega)]
          exact i
        · exact i
  intro n n0 n1
  have := key n.toNat (by omega)
  rw [Int.toNat_of_nonneg n0] at this
  exact this
theorem A7_p (h : WP a) (h0 : a 0 ≤ 399) {p c : Int} (hp : 0 ≤ p ∧ p < 60) (hc : 0 ≤ c ∧ c < 12) : A7 a (3652 + 12 * p + c) = PE4 a p c := by
  have hC := jC h.1
  unfold jv_C at hC
  rw [A7_k h h0 (by omega), A6_k h h0 (by omega)]
  exact A5_p hp hc
theorem rW_p (h : WP a) (h0 : a 0 ≤ 399) {p c : Int} (hp : 0 ≤ p ∧ p < 60) (hc : 0 ≤ c ∧ c ≤ 2 ∨ 8 ≤ c ∧ c ≤ 11) : r_week a (3652 + 12 * p + c) = PE4 a p c := by
  have hC := jC h.1
  unfold jv_C at hC
  have c7 := A7_c h h0
  rw [rW_k (by omega), ← A7_p h h0 hp (c := c) (by omega)]
  unfold A8
  exact lvs_cc (by omega) (by omega) (a 3) (by omega) (by omega) p c hp.1 hc
theorem PE4_a {p c : Int} (hp : 0 ≤ p ∧ p < 60) (hc : 0 ≤ c ∧ c < 12) (h7 : c ≠ 7) (h8 : c ≠ 8) : PE4 a p c = a (3652 + 12 * p + c) := sP_4 p c hp.1 hp.2 hc.1 hc.2 h7 h8
theorem rW_need (h : WP a) (h0 : a 0 ≤ 399) (x : Int) : r_need (r_week a) x = r_need a x ∧ r_pers (r_week a) x = r_pers a x := by
  have hC := jC h.1
  unfold jv_C at hC
  have c := rW_c h h0
  have e : ∀ p c, 0 ≤ p → p < a 4 → 0 ≤ c → c ≤ 2 → r_week a (3652 + 12 * p + c) = a (3652 + 12 * p + c) := fun p c p0 p1 c0 c1 => by
    rw [rW_p h h0 (by omega) (by omega), PE4_a (by omega) (by omega) (by omega) (by omega)]
  constructor
  · unfold r_need
    refine sI_e (c.2.2.2.1) (fun p p0 p1 => ?_)
    rw [e p 0 p0 (by omega) (by omega) (by omega), e p 1 p0 (by omega) (by omega) (by omega)]
  · unfold r_pers
    refine sI_e (c.2.2.2.1) (fun p p0 p1 => ?_)
    rw [e p 0 p0 (by omega) (by omega) (by omega)]
/-- SHOPS when RENTS are paid -/
theorem rts_v {b : Int → Int} (h2 : 0 ≤ b 2 ∧ b 2 ≤ 4) : ∀ n, 0 ≤ n → n ≤ b 2 → ∀ s, 0 ≤ s → s < 4 → r_rts b n (3428 + 8 * s) = (if s < n ∧ b (3428 + 8 * s + 3) ≠ 1 then b (3428 + 8 * s) - b (3428 + 8 * s + 2) else b (3428 + 8 * s)) ∧ r_rts b n (3428 + 8 * s + 3) = (if s < n ∧ b (3428 + 8 * s + 3) ≠ 1 ∧ b (3428 + 8 * s) - b (3428 + 8 * s + 2) < 0 then 1 else b (3428 + 8 * s + 3)) ∧ (∀ c, c = 1 ∨ c = 2 ∨ 4 ≤ c ∧ c ≤ 7 → r_rts b n (3428 + 8 * s + c) = b (3428 + 8 * s + c)) := by
  have key : ∀ n : Nat, (n : Int) ≤ b 2 → ∀ s, 0 ≤ s → s < 4 → r_rts b n (3428 + 8 * s) = (if s < (n : Int) ∧ b (3428 + 8 * s + 3) ≠ 1 then b (3428 + 8 * s) - b (3428 + 8 * s + 2) else b (3428 + 8 * s)) ∧ r_rts b n (3428 + 8 * s + 3) = (if s < (n : Int) ∧ b (3428 + 8 * s + 3) ≠ 1 ∧ b (3428 + 8 * s) - b (3428 + 8 * s + 2) < 0 then 1 else b (3428 + 8 * s + 3)) ∧ (∀ c, c = 1 ∨ c = 2 ∨ 4 ≤ c ∧ c ≤ 7 → r_rts b n (3428 + 8 * s + c) = b (3428 + 8 * s + c)) := by
    intro n
    induction n with
    | zero =>
      intro _ s s0 s1
      rw [if_neg (by omega), if_neg (by omega)]
      exact ⟨rfl, rfl, fun _ _ => rfl⟩
    | succ n ih =>
      intro hn s s0 s1
      obtain ⟨i1, i2, i3⟩ := ih (by omega) s s0 s1
      have i := rts_c (b := b) (by omega) n (by omega) (by omega)
      have r1 : r_rts b ((n : Int) + 1) = if b (3428 + 8 * (n : Int) + 3) = 1 then r_rts b n else if 0 ≤ b (3428 + 8 * (n : Int)) - b (3428 + 8 * (n : Int) + 2) then u1 (r_rts b n) (3428 + 8 * (n : Int)) (b (3428 + 8 * (n : Int)) - b (3428 + 8 * (n : Int) + 2)) else u1 (u1 (r_rts b n) (3428 + 8 * (n : Int)) (b (3428 + 8 * (n : Int)) - b (3428 + 8 * (n : Int) + 2))) (3428 + 8 * (n : Int) + 3) 1 := by
        rw [r_rts_s (by omega)]
        unfold r_rt1
        rw [i (3428 + 8 * (n : Int)) (by omega), i (3428 + 8 * (n : Int) + 2) (by omega), i (3428 + 8 * (n : Int) + 3) (by omega)]
      rw [show ((n + 1 : Nat) : Int) = (n : Int) + 1 by omega, r1]
      by_cases e : s = n
      · subst e
        have j0 := i (3428 + 8 * (n : Int)) (by omega)
        have j3 := i (3428 + 8 * (n : Int) + 3) (by omega)
        by_cases f1 : b (3428 + 8 * (n : Int) + 3) = 1
        · rw [if_pos f1, if_neg (fun z => z.2 f1), if_neg (fun z => z.2.1 f1)]
          exact ⟨j0, j3, i3⟩
        · rw [if_neg f1]
          by_cases f2 : 0 ≤ b (3428 + 8 * (n : Int)) - b (3428 + 8 * (n : Int) + 2)
          · rw [if_pos f2, u1_s, u1_n (by omega), if_pos ⟨by omega, f1⟩, if_neg (fun z => by have := z.2.2; omega)]
            exact ⟨rfl, j3, fun c hc => by rw [u1_n (by omega)]; exact i3 c hc⟩
          · rw [if_neg f2, u1_n (by omega), u1_s, u1_s, if_pos ⟨by omega, f1⟩, if_pos ⟨by omega, f1, by omega⟩]
            exact ⟨rfl, rfl, fun c hc => by rw [u1_n (by omega), u1_n (by omega)]; exact i3 c hc⟩
      · have l : s < (n : Int) + 1 ↔ s < (n : Int) := by omega
        simp only [l]
        split
        · exact ⟨i1, i2, i3⟩
        · split
          · rw [u1_n (by omega), u1_n (by omega)]
            exact ⟨i1, i2, fun c hc => by rw [u1_n (by omega)]; exact i3 c hc⟩
          · rw [u1_n (by omega), u1_n (by omega), u1_n (by omega), u1_n (by omega)]
            exact ⟨i1, i2, fun c hc => by rw [u1_n (by omega), u1_n (by omega)]; exact i3 c hc⟩
  intro n n0 n1
  have := key n.toNat (by omega)
  rw [Int.toNat_of_nonneg n0] at this
  exact this
/-- rows of HOMES that have not bought yet -/
theorem hgs_h {b : Int → Int} {L : Int} (H : HI b L 0) : ∀ n, 0 ≤ n → n ≤ b 3 → ∀ k, 3460 + 8 * n ≤ k → k < 3652 → r_hgs b L n k = b k := by
  have key : ∀ n : Nat, (n : Int) ≤ b 3 → ∀ k, 3460 + 8 * (n : Int) ≤ k → k < 3652 → r_hgs b L n k = b k := by
    intro n
    induction n with
    | zero => intro _ k _ _; rfl
    | succ n ih =>
      intro hn k hk k1
      have hi := HI_I H n (by omega) (by omega)
      rw [show ((n + 1 : Nat) : Int) = (n : Int) + 1 by omega, r_hgs_s (by omega)]
      have i := ih (by omega) k (by omega) k1
      split
      · have hp := HI_HP hi.1 (n := n) ⟨by omega, by omega⟩
        have h0 := hp.1.1
        have hs := hp.2.2.1.1
        rw [r_hg_k hp (by omega)]; exact i
      · exact i
  intro n n0 n1
  have := key n.toNat (by omega)
  rw [Int.toNat_of_nonneg n0] at this
  exact this
/-- GONE stands apart -/
def ng (b : Int → Int) : Int → Int := fun k => if (3460 ≤ k ∧ k < 3652) ∧ (k - 3460) % 8 = 3 then 0 else b k
theorem ng_k {b : Int → Int} {k : Int} (h : k < 3460 ∨ 3652 ≤ k ∨ (k - 3460) % 8 ≠ 3) : ng b k = b k := if_neg (by omega)
theorem ng_g {b : Int → Int} {h : Int} (hh : 0 ≤ h ∧ h < 24) : ng b (3460 + 8 * h + 3) = 0 := if_pos (by omega)
theorem ng_u {b : Int → Int} {k v : Int} (h : k < 3460 ∨ 3652 ≤ k) : ng (u1 b k v) = u1 (ng b) k v := by
  funext j
  by_cases e : j = k
  · subst e; rw [u1_s, ng_k (by omega), u1_s]
  · rw [u1_n e]; unfold ng; rw [u1_n e]
theorem ng_ug {b : Int → Int} {n v : Int} (h : 0 ≤ n ∧ n < 24) : ng (u1 b (3460 + 8 * n + 3) v) = ng b := by
  funext j
  unfold ng
  by_cases e : j = 3460 + 8 * n + 3
  · subst e; rw [if_pos (by omega), if_pos (by omega)]
  · rw [u1_n e]
theorem ng_end1 {b : Int → Int} {p : Int} (hp : 0 ≤ p) : r_end1 (ng b) p = ng (r_end1 b p) := by
  unfold r_end1
  rw [ng_u (by omega), ng_u (by omega), ng_u (by omega), ng_u (by omega), ng_u (by omega)]
theorem ng_endL {b : Int → Int} {p q : Int} (hq : 0 ≤ q) : r_endL p q (ng b) = ng (r_endL p q b) := by
  unfold r_endL
  rw [ng_k (k := 3652 + 12 * q + 3) (by omega), ng_k (k := 3652 + 12 * q + 6) (by omega), ng_end1 hq]
  by_cases c : b (3652 + 12 * q + 3) = 2
  · by_cases d : b (3652 + 12 * q + 6) = p
    · rw [if_pos c, if_pos c, if_pos d, if_pos d]
    · rw [if_pos c, if_pos c, if_neg d, if_neg d]
  · rw [if_neg c, if_neg c]
theorem ng_fI {b : Int → Int} {p : Int} : ∀ n, 0 ≤ n → fI (r_endL p) n (ng b) = ng (fI (r_endL p) n b) := by
  have key : ∀ n : Nat, fI (r_endL p) (n : Int) (ng b) = ng (fI (r_endL p) (n : Int) b) := by
    intro n
    induction n with
    | zero => rfl
    | succ n ih => rw [show ((n + 1 : Nat) : Int) = (n : Int) + 1 by omega, fI_s (by omega), fI_s (by omega), ih, ng_endL (by omega)]
  intro n n0
  have := key n.toNat
  rw [Int.toNat_of_nonneg n0] at this
  exact this
theorem ng_endW {b : Int → Int} {p : Int} (hp : 0 ≤ p) (h4 : 0 ≤ b 4) : r_endW (ng b) p = ng (r_endW b p) := by
  unfold r_endW
  rw [ng_k (k := 3652 + 12 * p + 3) (by omega), ng_k (k := 4) (by omega), ng_fI _ h4]
  by_cases c : b (3652 + 12 * p + 3) = 1
  · rw [if_pos c, if_pos c, ng_end1 hp]
  · rw [if_neg c, if_neg c, ng_end1 hp]
/-- only PERSONS' rows are other -/
theorem jv_onP {a b : Int → Int} (h : Jv a) (n : ∀ k, k < 3652 ∨ 3652 + 12 * a 4 ≤ k → b k = a k) (hp : jv_P b) : Jv b := by
  have hc := jC h
  unfold jv_C at hc
  exact ⟨hC (fun k _ _ => n k (by omega)) (jC h), hS (fun k _ _ => n k (by omega)) (jS h), hK (fun k _ _ => n k (by omega)) (jK h), hW (fun k _ _ => n k (by omega)) (fun k _ _ => n k (by omega)) (jW h), hM (n 1 (by omega)) (by rw [n 7 (by omega)]; omega) (fun k _ _ => n k (by omega)) (jM h), hQ (n 2 (by omega)) (fun k _ _ => n k (by omega)) (jQ h), hH (by rw [n 2 (by omega)]; omega) (n 3 (by omega)) (fun k _ _ => n k (by omega)) (jH h), hp, hO (n 7 (by omega)) (fun k _ _ => n k (by omega)) (fun k _ _ => n k (by omega)) (jO h), hF (by rw [n 5 (by omega)]; omega) (n 6 (by omega)) (fun k _ _ => n k (by omega)) (jF h)⟩
abbrev JG (b : Int → Int) : Prop := Jv (ng b)
theorem JG_e {b : Int → Int} {p : Int} (h : JG b) (hp : 0 ≤ p ∧ p < b 4) : JG (r_endW b p) := by
  have e4 : ng b 4 = b 4 := ng_k (by omega)
  have := jv_onP h (fun k hk => r_endW_n (p := p) (by omega) hk) (jp_endW h (by omega))
  rw [ng_endW hp.1 (by omega)] at this
  exact this
theorem JG_g {b : Int → Int} {n v : Int} (h : JG b) (hn : 0 ≤ n ∧ n < 24) : JG (u1 b (3460 + 8 * n + 3) v) := by
  unfold JG
  rw [ng_ug hn]; exact h
/-- while the PERSONS of a HOME end their WORK -/
theorem ewP_J {b : Int → Int} {h : Int} (J : JG b) (h4 : 0 ≤ b 4) : ∀ n, 0 ≤ n → n ≤ b 4 → JG (fI (r_ewP h) n b) ∧ (∀ q, 0 ≤ q → q < b 4 → b (3652 + 12 * q + 3) = 0 → fI (r_ewP h) n b (3652 + 12 * q + 3) = 0) ∧ ∀ q, 0 ≤ q → q < n → b (3652 + 12 * q + 0) = h → fI (r_ewP h) n b (3652 + 12 * q + 3) = 0 := by
  have key : ∀ n : Nat, (n : Int) ≤ b 4 → JG (fI (r_ewP h) n b) ∧ (∀ q, 0 ≤ q → q < b 4 → b (3652 + 12 * q + 3) = 0 → fI (r_ewP h) n b (3652 + 12 * q + 3) = 0) ∧ ∀ q, 0 ≤ q → q < (n : Int) → b (3652 + 12 * q + 0) = h → fI (r_ewP h) n b (3652 + 12 * q + 3) = 0 := by
    intro n
    induction n with
    | zero => intro _; exact ⟨J, fun q _ _ e => e, fun q q0 q1 => by omega⟩
    | succ n ih =>
      intro hn
      obtain ⟨i1, i2, i3⟩ := ih (by omega)
      have i4 := ewP_c (b := b) (h := h) h4 n (by omega) (by omega) 4 (by omega)
      have ic := ewP_cc (b := b) (h := h) h4 n (by omega) (by omega) n 0 (by omega)
      rw [show ((n + 1 : Nat) : Int) = (n : Int) + 1 by omega, fI_s (by omega)]
      by_cases c : b (3652 + 12 * (n : Int) + 0) = h
      · have es : r_ewP h n (fI (r_ewP h) n b) = r_endW (fI (r_ewP h) n b) n := if_pos (by rw [ic]; exact c)
        rw [es]
        have row : ∀ q, 0 ≤ q → q < b 4 → r_endW (fI (r_ewP h) n b) n (3652 + 12 * q + 3) = if q = (n : Int) ∨ (fI (r_ewP h) n b (3652 + 12 * (n : Int) + 3) = 1 ∧ un_ (fI (r_ewP h) n b) n q) then r_end1 (fI (r_ewP h) n b) q (3652 + 12 * q + 3) else fI (r_ewP h) n b (3652 + 12 * q + 3) := fun q q0 q1 => r_endW_row ⟨q0, by omega⟩ (by omega)
        refine ⟨JG_e i1 ⟨by omega, by omega⟩, fun q q0 q1 e => ?_, fun q q0 q1 e => ?_⟩
        · rw [row q q0 q1]
          split
          · exact (r_end1_v _ q).1
          · exact i2 q q0 q1 e
        · rw [row q q0 (by omega)]
          split
          · exact (r_end1_v _ q).1
          · next x =>
            have x' : q ≠ (n : Int) := fun z => x (Or.inl z)
            exact i3 q q0 (by omega) e
      · have es : r_ewP h n (fI (r_ewP h) n b) = fI (r_ewP h) n b := if_neg (by rw [ic]; exact c)
        rw [es]
        refine ⟨i1, i2, fun q q0 q1 e => ?_⟩
        by_cases x : q = (n : Int)
        · rw [x] at e; exact absurd e c
        · exact i3 q q0 (by omega) e
  intro n n0 n1
  have := key n.toNat (by omega)
  rw [Int.toNat_of_nonneg n0] at this
  exact this
theorem lvs_J {b : Int → Int} {w : Int} (J : JG b) (h3 : b 3 ≤ 24) (h4 : 0 ≤ b 4 ∧ b 4 ≤ 60) (hP : ∀ q, 0 ≤ q → q < b 4 → (0 ≤ b (3652 + 12 * q + 0) ∧ b (3652 + 12 * q + 0) < b 3) ∧ (b (3460 + 8 * b (3652 + 12 * q + 0) + 3) = 1 → b (3652 + 12 * q + 3) = 0)) : ∀ n, 0 ≤ n → n ≤ b 3 → JG (r_lvs b w n) ∧ ∀ q, 0 ≤ q → q < b 4 → r_lvs b w n (3460 + 8 * b (3652 + 12 * q + 0) + 3) = 1 → r_lvs b w n (3652 + 12 * q + 3) = 0 := by
  have key : ∀ n : Nat, (n : Int) ≤ b 3 → JG (r_lvs b w n) ∧ ∀ q, 0 ≤ q → q < b 4 → r_lvs b w n (3460 + 8 * b (3652 + 12 * q + 0) + 3) = 1 → r_lvs b w n (3652 + 12 * q + 3) = 0 := by
    intro n
    induction n with
    | zero => intro _; exact ⟨J, fun q q0 q1 => (hP q q0 q1).2⟩
    | succ n ih =>
      intro hn
      obtain ⟨i1, i2⟩ := ih (by omega)
      have i4 := lvs_c (b := b) (w := w) h3 h4 n (by omega) (by omega) 4 (by omega)
      have icc := lvs_cc (b := b) (w := w) h3 h4 n (by omega) (by omega)
      rw [show ((n + 1 : Nat) : Int) = (n : Int) + 1 by omega, r_lvs_s (by omega)]
      split
      · exact ⟨i1, i2⟩
      · split
        · have e4 : u1 (r_lvs b w n) (3460 + 8 * (n : Int) + 3) 1 4 = b 4 := by rw [u1_n (by omega)]; exact i4
          have J' := ewP_J (h := (n : Int)) (JG_g (v := 1) i1 (n := (n : Int)) ⟨by omega, by omega⟩) (by omega) (b 4) (by omega) (by omega)
          rw [i4]
          refine ⟨J'.1, fun q q0 q1 e => ?_⟩
          have hq := hP q q0 q1
          rw [ewP_c (by omega) _ (by omega) (by omega) _ (by omega)] at e
          by_cases x : b (3652 + 12 * q + 0) = (n : Int)
          · refine J'.2.2 q q0 q1 ?_
            rw [u1_n (by omega), icc q 0 q0 (by omega)]; exact x
          · rw [u1_n (by omega)] at e
            refine J'.2.1 q q0 (by omega) ?_
            rw [u1_n (by omega)]; exact i2 q q0 q1 e
        · exact ⟨i1, i2⟩
  intro n n0 n1
  have := key n.toNat (by omega)
  rw [Int.toNat_of_nonneg n0] at this
  exact this
end WKV
