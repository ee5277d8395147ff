/-! ===== what always holds of the reference's numbers (own work) ===== -/
def jv_C (a : Int → Int) : Prop := (0 ≤ a 0 ∧ a 0 ≤ 400) ∧ (0 ≤ a 1 ∧ a 1 ≤ 8) ∧ (0 ≤ a 2 ∧ a 2 ≤ 4) ∧ (0 ≤ a 3 ∧ a 3 ≤ 24) ∧ (0 ≤ a 4 ∧ a 4 ≤ 60) ∧ (0 ≤ a 5 ∧ a 5 ≤ 20) ∧ (0 ≤ a 6 ∧ a 6 ≤ 61) ∧ (0 ≤ a 7 ∧ a 7 ≤ 80)
def jv_S (a : Int → Int) : Prop := (0 ≤ a 9 ∧ a 9 ≤ 50) ∧ (0 ≤ a 10 ∧ a 10 ≤ 500) ∧ (0 ≤ a 11 ∧ a 11 ≤ 1000) ∧ (1 ≤ a 12 ∧ a 12 ≤ 100000) ∧ (-1 ≤ a 13 ∧ a 13 ≤ 1000) ∧ (-1 ≤ a 14 ∧ a 14 ≤ 1000)
def jv_K (a : Int → Int) : Prop := ∀ k, 0 ≤ k → k ≤ 5 → (10 ≤ a (20 + 8 * k + 1) ∧ a (20 + 8 * k + 1) ≤ 200) ∧ (20 ≤ a (20 + 8 * k + 2) ∧ a (20 + 8 * k + 2) ≤ 60) ∧ (1 ≤ a (20 + 8 * k + 3) ∧ a (20 + 8 * k + 3) ≤ 50) ∧ (0 ≤ a (20 + 8 * k + 4) ∧ a (20 + 8 * k + 4) ≤ 9) ∧ (0 ≤ a (20 + 8 * k + 5) ∧ a (20 + 8 * k + 5) ≤ 1073741823) ∧ (-1 ≤ a (20 + 8 * k + 6) ∧ a (20 + 8 * k + 6) ≤ 10000) ∧ (0 ≤ a (20 + 8 * k + 7) ∧ a (20 + 8 * k + 7) ≤ 1)
def jv_W (a : Int → Int) : Prop := (∀ i w, 0 ≤ i → i ≤ 7 → 0 ≤ w → w ≤ 399 → -1 ≤ a (100 + 400 * i + w) ∧ a (100 + 400 * i + w) ≤ 100000) ∧ ∀ i, 0 ≤ i → i ≤ 7 → 1 ≤ a (70 + i) ∧ a (70 + i) ≤ 100000
def jv_M (a : Int → Int) : Prop := ∀ m, 0 ≤ m → m < a 1 → (0 ≤ a (3300 + 16 * m + 0) ∧ a (3300 + 16 * m + 0) ≤ 60) ∧ (50 ≤ a (3300 + 16 * m + 1) ∧ a (3300 + 16 * m + 1) ≤ 200) ∧ (-1000 ≤ a (3300 + 16 * m + 3) ∧ a (3300 + 16 * m + 3) ≤ 1000) ∧ (0 ≤ a (3300 + 16 * m + 4) ∧ a (3300 + 16 * m + 4) ≤ 30000) ∧ (0 ≤ a (3300 + 16 * m + 5) ∧ a (3300 + 16 * m + 5) ≤ 1) ∧ (0 ≤ a (3300 + 16 * m + 6) ∧ a (3300 + 16 * m + 6) ≤ 1) ∧ (-1 ≤ a (3300 + 16 * m + 7) ∧ a (3300 + 16 * m + 7) ≤ 5) ∧ (0 ≤ a (3300 + 16 * m + 8) ∧ a (3300 + 16 * m + 8) ≤ 2) ∧ (-1 ≤ a (3300 + 16 * m + 9) ∧ a (3300 + 16 * m + 9) < a 7) ∧ (0 ≤ a (3300 + 16 * m + 10) ∧ a (3300 + 16 * m + 10) ≤ 500) ∧ (a (3300 + 16 * m + 5) = 0 → 0 ≤ a (3300 + 16 * m + 2))
def jv_Q (a : Int → Int) : Prop := ∀ s, 0 ≤ s → s < a 2 → (0 ≤ a (3428 + 8 * s + 1) ∧ a (3428 + 8 * s + 1) ≤ 400) ∧ (0 ≤ a (3428 + 8 * s + 2) ∧ a (3428 + 8 * s + 2) ≤ 1000) ∧ (0 ≤ a (3428 + 8 * s + 3) ∧ a (3428 + 8 * s + 3) ≤ 1)
def jv_H (a : Int → Int) : Prop := ∀ h, 0 ≤ h → h < a 3 → (0 ≤ a (3460 + 8 * h + 0) ∧ a (3460 + 8 * h + 0) < a 2) ∧ 0 ≤ a (3460 + 8 * h + 1) ∧ 0 ≤ a (3460 + 8 * h + 2) ∧ (0 ≤ a (3460 + 8 * h + 3) ∧ a (3460 + 8 * h + 3) ≤ 1)
def jv_P (a : Int → Int) : Prop := ∀ p, 0 ≤ p → p < a 4 → (0 ≤ a (3652 + 12 * p + 0) ∧ a (3652 + 12 * p + 0) < a 3) ∧ (5 ≤ a (3652 + 12 * p + 1) ∧ a (3652 + 12 * p + 1) ≤ 80) ∧ (1 ≤ a (3652 + 12 * p + 2) ∧ a (3652 + 12 * p + 2) ≤ 10) ∧ (0 ≤ a (3652 + 12 * p + 3) ∧ a (3652 + 12 * p + 3) ≤ 4) ∧ (-1 ≤ a (3652 + 12 * p + 4) ∧ a (3652 + 12 * p + 4) < a 1) ∧ (0 ≤ a (3652 + 12 * p + 5) ∧ a (3652 + 12 * p + 5) ≤ 50) ∧ (-1 ≤ a (3652 + 12 * p + 6) ∧ a (3652 + 12 * p + 6) < a 4) ∧ (0 ≤ a (3652 + 12 * p + 7) ∧ a (3652 + 12 * p + 7) ≤ 228000) ∧ (a (3652 + 12 * p + 3) = 0 → a (3652 + 12 * p + 4) = -1 ∧ a (3652 + 12 * p + 5) = 0) ∧ (a (3652 + 12 * p + 3) ≠ 0 → 0 ≤ a (3652 + 12 * p + 4) ∧ 1 ≤ a (3652 + 12 * p + 5)) ∧ (a (3652 + 12 * p + 3) = 1 → a (3652 + 12 * p + 5) ≤ 6) ∧ (a (3652 + 12 * p + 3) = 2 → a (3652 + 12 * p + 5) ≤ 2 ∧ 0 ≤ a (3652 + 12 * p + 6) ∧ a (3652 + 12 * a (3652 + 12 * p + 6) + 3) = 1 ∧ a (3652 + 12 * a (3652 + 12 * p + 6) + 4) = a (3652 + 12 * p + 4)) ∧ (a (3652 + 12 * p + 3) ≠ 2 → a (3652 + 12 * p + 6) = -1) ∧ (a (3652 + 12 * p + 3) = 0 ∨ 3 ≤ a (3652 + 12 * p + 3) → a (3652 + 12 * p + 7) = 0) ∧ (a (3460 + 8 * a (3652 + 12 * p + 0) + 3) = 1 → a (3652 + 12 * p + 3) = 0)
def jv_O (a : Int → Int) : Prop := (∀ o, 0 ≤ o → o < a 7 → (0 ≤ a (4372 + 8 * o) ∧ a (4372 + 8 * o) ≤ 5) ∧ (0 ≤ a (4372 + 8 * o + 1) ∧ a (4372 + 8 * o + 1) ≤ 500) ∧ (1 ≤ a (4372 + 8 * o + 2) ∧ a (4372 + 8 * o + 2) ≤ 10000) ∧ (0 ≤ a (4372 + 8 * o + 3) ∧ a (4372 + 8 * o + 3) ≤ 399) ∧ (0 ≤ a (4372 + 8 * o + 4) ∧ a (4372 + 8 * o + 4) ≤ 399)) ∧ ∀ k, 0 ≤ k → k ≤ 5 → (a (20 + 8 * k + 7) = 1 ↔ ∃ o, 0 ≤ o ∧ o < a 7 ∧ a (4372 + 8 * o) = k)
def jv_F (a : Int → Int) : Prop := ∀ f, 0 ≤ f → f < a 6 → (0 ≤ a (5012 + 8 * f) ∧ a (5012 + 8 * f) < a 5) ∧ (-1 ≤ a (5012 + 8 * f + 1) ∧ a (5012 + 8 * f + 1) ≤ 7) ∧ (0 ≤ a (5012 + 8 * f + 2) ∧ a (5012 + 8 * f + 2) ≤ 399) ∧ (0 ≤ a (5012 + 8 * f + 3) ∧ a (5012 + 8 * f + 3) ≤ 399) ∧ (0 ≤ a (5012 + 8 * f + 4) ∧ a (5012 + 8 * f + 4) ≤ 399)
def Jv (a : Int → Int) : Prop := jv_C a ∧ jv_S a ∧ jv_K a ∧ jv_W a ∧ jv_M a ∧ jv_Q a ∧ jv_H a ∧ jv_P a ∧ jv_O a ∧ jv_F a
theorem jC {a : Int → Int} (h : Jv a) : jv_C a := h.1
theorem jS {a : Int → Int} (h : Jv a) : jv_S a := h.2.1
theorem jK {a : Int → Int} (h : Jv a) : jv_K a := h.2.2.1
theorem jW {a : Int → Int} (h : Jv a) : jv_W a := h.2.2.2.1
theorem jM {a : Int → Int} (h : Jv a) : jv_M a := h.2.2.2.2.1
theorem jQ {a : Int → Int} (h : Jv a) : jv_Q a := h.2.2.2.2.2.1
theorem jH {a : Int → Int} (h : Jv a) : jv_H a := h.2.2.2.2.2.2.1
theorem jP {a : Int → Int} (h : Jv a) : jv_P a := h.2.2.2.2.2.2.2.1
theorem jO {a : Int → Int} (h : Jv a) : jv_O a := h.2.2.2.2.2.2.2.2.1
theorem jF {a : Int → Int} (h : Jv a) : jv_F a := h.2.2.2.2.2.2.2.2.2
/-! pure pictures of the reference's readers -/
/-- PRICE: looks at the weeks below n, the latest first -/
def r_prN (a : Int → Int) (what : Int) : Nat → Int
  | 0 => a (70 + what)
  | n + 1 => if a (100 + 400 * what + n) = -1 then r_prN a what n else if a (100 + 400 * what + n) = 0 then a (70 + what) else a (100 + 400 * what + n)
def r_pr (a : Int → Int) (what w : Int) : Int := r_prN a what (w + 1).toNat
theorem r_pr_m (a : Int → Int) (what : Int) : r_pr a what (-1) = a (70 + what) := rfl
theorem r_pr_s {a : Int → Int} {what w : Int} (h : 0 ≤ w) : r_pr a what w = if a (100 + 400 * what + w) = -1 then r_pr a what (w - 1) else if a (100 + 400 * what + w) = 0 then a (70 + what) else a (100 + 400 * what + w) := by
  unfold r_pr
  have e1 : (w + 1).toNat = w.toNat + 1 := by omega
  have e2 : (w - 1 + 1).toNat = w.toNat := by omega
  rw [e1, e2]
  show (if a (100 + 400 * what + (w.toNat : Int)) = -1 then _ else _) = _
  rw [Int.toNat_of_nonneg h]
theorem r_pr_b {a : Int → Int} (hW : jv_W a) {what w : Int} (h0 : 0 ≤ what ∧ what ≤ 7) (h1 : -1 ≤ w ∧ w ≤ 399) : 1 ≤ r_pr a what w ∧ r_pr a what w ≤ 100000 := by
  have key : ∀ w, -1 ≤ w → w ≤ 399 → 1 ≤ r_pr a what w ∧ r_pr a what w ≤ 100000 := by
    refine lp_dn (fun p hp ih => ?_)
    intro h2
    by_cases c : p = -1
    · subst c; rw [r_pr_m]; exact hW.2 _ h0.1 h0.2
    · have := hW.1 what p h0.1 h0.2 (by omega) h2
      have m := hW.2 what h0.1 h0.2
      rw [r_pr_s (by omega)]
      split
      · exact ih (by omega) (by omega)
      · split
        · exact m
        · omega
  exact key w h1.1 h1.2
def r_had (a : Int → Int) (m but : Int) : Int := sI (fun p => if p = but then 0 else if a (3652 + 12 * p + 4) = m then (if 1 ≤ a (3652 + 12 * p + 3) ∧ a (3652 + 12 * p + 3) ≤ 2 then a (3652 + 12 * p + 5) else 0) else 0) (a 4)
def r_end1 (a : Int → Int) (p : Int) : Int → Int := u1 (u1 (u1 (u1 (u1 a (3652 + 12 * p + 3) 0) (3652 + 12 * p + 4) (-1)) (3652 + 12 * p + 5) 0) (3652 + 12 * p + 6) (-1)) (3652 + 12 * p + 7) 0
def r_endL (p q : Int) (b : Int → Int) : Int → Int := if b (3652 + 12 * q + 3) = 2 then (if b (3652 + 12 * q + 6) = p then r_end1 b q else b) else b
def r_endW (a : Int → Int) (p : Int) : Int → Int := r_end1 (if a (3652 + 12 * p + 3) = 1 then fI (r_endL p) (a 4) a else a) p
theorem r_end1_n {a : Int → Int} {p k : Int} (h : k < 3652 + 12 * p + 3 ∨ 3652 + 12 * p + 7 < k) : r_end1 a p k = a k := by
  unfold r_end1
  rw [u1_n (by omega), u1_n (by omega), u1_n (by omega), u1_n (by omega), u1_n (by omega)]
theorem r_endL_n {a : Int → Int} {p n k : Int} (h0 : 0 ≤ n) (h : k < 3652 ∨ 3652 + 12 * n ≤ k) : fI (r_endL p) n a k = a k := by
  have key : ∀ m : Nat, ∀ k : Int, k < 3652 ∨ 3652 + 12 * (m : Int) ≤ k → fN (r_endL p) m a k = a k := by
    intro m
    induction m with
    | zero => intro k _; rfl
    | succ m ih =>
      intro k hk
      show r_endL p (m : Int) (fN (r_endL p) m a) k = a k
      have e := ih k (by omega)
      unfold r_endL
      split
      · split
        · rw [r_end1_n (by omega)]; exact e
        · exact e
      · exact e
  unfold fI
  exact key n.toNat k (by omega)
def r_need (a : Int → Int) (h : Int) : Int := sI (fun p => if a (3652 + 12 * p + 0) = h then (if 13 ≤ a (3652 + 12 * p + 1) then 4 else 2) else 0) (a 4)
def r_pers (a : Int → Int) (h : Int) : Int := sI (fun p => if a (3652 + 12 * p + 0) = h then 1 else 0) (a 4)
def r_late (a : Int → Int) (f h : Int) : Int := if a 0 = 0 then 0 else a (f + 24 * (a 0 - 1) + h)
def r_debts (a : Int → Int) (s : Int) : Int := sI (fun h => if a (3460 + 8 * h + 0) = s then a (3460 + 8 * h + 2) else 0) (a 3)
