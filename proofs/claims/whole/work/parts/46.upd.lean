/-! ===== writes of one place, in a town and in the reference (segments printed by wip/whole, contracts own work) ===== -/
def fM (F b : Int → Int) : Prop := ∀ x, 0 ≤ x → x < b 1 → F (x * 13 + 0) = b (3300 + 16 * x + 0) ∧ F (x * 13 + 2) = b (3300 + 16 * x + 2) ∧ F (x * 13 + 3) = b (3300 + 16 * x + 4) ∧ F (x * 13 + 4) = b (3300 + 16 * x + 5) ∧ F (x * 13 + 5) = b (3300 + 16 * x + 6) ∧ F (x * 13 + 6) = b (3300 + 16 * x + 7) ∧ F (x * 13 + 7) = b (3300 + 16 * x + 8) ∧ F (x * 13 + 8) = b (3300 + 16 * x + 9) ∧ F (x * 13 + 9) = b (3300 + 16 * x + 10) ∧ F (x * 13 + 10) = b (3300 + 16 * x + 1) ∧ F (x * 13 + 11) = b (3300 + 16 * x + 3)
theorem fM_of {σ : zI} {t : Nat} {a : Int → Int} (h : rT_M σ t a) : fM (σ (t + 6)) a := h.2
theorem fM_u0 {F b : Int → Int} {m v : Int} (h : fM F b) (hm : 0 ≤ m ∧ m < b 1) : fM (u1 F (m * 13 + 0) v) (u1 b (3300 + 16 * m + 0) v) := by
  intro x x0 x1
  rw [u1_n (by omega)] at x1
  obtain ⟨q0, q1, q2, q3, q4, q5, q6, q7, q8, q9, q10⟩ := h x x0 x1
  by_cases e : x = m
  · subst e
    refine ⟨?_, ?_, ?_, ?_, ?_, ?_, ?_, ?_, ?_, ?_, ?_⟩ <;> first | rw [u1_s, u1_s] | (rw [u1_n (by omega), u1_n (by omega)]; assumption)
  · refine ⟨?_, ?_, ?_, ?_, ?_, ?_, ?_, ?_, ?_, ?_, ?_⟩ <;> (rw [u1_n (by omega), u1_n (by omega)]; assumption)
theorem fM_u2 {F b : Int → Int} {m v : Int} (h : fM F b) (hm : 0 ≤ m ∧ m < b 1) : fM (u1 F (m * 13 + 2) v) (u1 b (3300 + 16 * m + 2) v) := by
  intro x x0 x1
  rw [u1_n (by omega)] at x1
  obtain ⟨q0, q1, q2, q3, q4, q5, q6, q7, q8, q9, q10⟩ := h x x0 x1
  by_cases e : x = m
  · subst e
    refine ⟨?_, ?_, ?_, ?_, ?_, ?_, ?_, ?_, ?_, ?_, ?_⟩ <;> first | rw [u1_s, u1_s] | (rw [u1_n (by omega), u1_n (by omega)]; assumption)
  · refine ⟨?_, ?_, ?_, ?_, ?_, ?_, ?_, ?_, ?_, ?_, ?_⟩ <;> (rw [u1_n (by omega), u1_n (by omega)]; assumption)
theorem fM_u3 {F b : Int → Int} {m v : Int} (h : fM F b) (hm : 0 ≤ m ∧ m < b 1) : fM (u1 F (m * 13 + 3) v) (u1 b (3300 + 16 * m + 4) v) := by
  intro x x0 x1
  rw [u1_n (by omega)] at x1
  obtain ⟨q0, q1, q2, q3, q4, q5, q6, q7, q8, q9, q10⟩ := h x x0 x1
  by_cases e : x = m
  · subst e
    refine ⟨?_, ?_, ?_, ?_, ?_, ?_, ?_, ?_, ?_, ?_, ?_⟩ <;> first | rw [u1_s, u1_s] | (rw [u1_n (by omega), u1_n (by omega)]; assumption)
  · refine ⟨?_, ?_, ?_, ?_, ?_, ?_, ?_, ?_, ?_, ?_, ?_⟩ <;> (rw [u1_n (by omega), u1_n (by omega)]; assumption)
theorem fM_u4 {F b : Int → Int} {m v : Int} (h : fM F b) (hm : 0 ≤ m ∧ m < b 1) : fM (u1 F (m * 13 + 4) v) (u1 b (3300 + 16 * m + 5) v) := by
  intro x x0 x1
  rw [u1_n (by omega)] at x1
  obtain ⟨q0, q1, q2, q3, q4, q5, q6, q7, q8, q9, q10⟩ := h x x0 x1
  by_cases e : x = m
  · subst e
    refine ⟨?_, ?_, ?_, ?_, ?_, ?_, ?_, ?_, ?_, ?_, ?_⟩ <;> first | rw [u1_s, u1_s] | (rw [u1_n (by omega), u1_n (by omega)]; assumption)
  · refine ⟨?_, ?_, ?_, ?_, ?_, ?_, ?_, ?_, ?_, ?_, ?_⟩ <;> (rw [u1_n (by omega), u1_n (by omega)]; assumption)
theorem fM_u5 {F b : Int → Int} {m v : Int} (h : fM F b) (hm : 0 ≤ m ∧ m < b 1) : fM (u1 F (m * 13 + 5) v) (u1 b (3300 + 16 * m + 6) v) := by
  intro x x0 x1
  rw [u1_n (by omega)] at x1
  obtain ⟨q0, q1, q2, q3, q4, q5, q6, q7, q8, q9, q10⟩ := h x x0 x1
  by_cases e : x = m
  · subst e
    refine ⟨?_, ?_, ?_, ?_, ?_, ?_, ?_, ?_, ?_, ?_, ?_⟩ <;> first | rw [u1_s, u1_s] | (rw [u1_n (by omega), u1_n (by omega)]; assumption)
  · refine ⟨?_, ?_, ?_, ?_, ?_, ?_, ?_, ?_, ?_, ?_, ?_⟩ <;> (rw [u1_n (by omega), u1_n (by omega)]; assumption)
theorem fM_u6 {F b : Int → Int} {m v : Int} (h : fM F b) (hm : 0 ≤ m ∧ m < b 1) : fM (u1 F (m * 13 + 6) v) (u1 b (3300 + 16 * m + 7) v) := by
  intro x x0 x1
  rw [u1_n (by omega)] at x1
  obtain ⟨q0, q1, q2, q3, q4, q5, q6, q7, q8, q9, q10⟩ := h x x0 x1
  by_cases e : x = m
  · subst e
    refine ⟨?_, ?_, ?_, ?_, ?_, ?_, ?_, ?_, ?_, ?_, ?_⟩ <;> first | rw [u1_s, u1_s] | (rw [u1_n (by omega), u1_n (by omega)]; assumption)
  · refine ⟨?_, ?_, ?_, ?_, ?_, ?_, ?_, ?_, ?_, ?_, ?_⟩ <;> (rw [u1_n (by omega), u1_n (by omega)]; assumption)
theorem fM_u7 {F b : Int → Int} {m v : Int} (h : fM F b) (hm : 0 ≤ m ∧ m < b 1) : fM (u1 F (m * 13 + 7) v) (u1 b (3300 + 16 * m + 8) v) := by
  intro x x0 x1
  rw [u1_n (by omega)] at x1
  obtain ⟨q0, q1, q2, q3, q4, q5, q6, q7, q8, q9, q10⟩ := h x x0 x1
  by_cases e : x = m
  · subst e
    refine ⟨?_, ?_, ?_, ?_, ?_, ?_, ?_, ?_, ?_, ?_, ?_⟩ <;> first | rw [u1_s, u1_s] | (rw [u1_n (by omega), u1_n (by omega)]; assumption)
  · refine ⟨?_, ?_, ?_, ?_, ?_, ?_, ?_, ?_, ?_, ?_, ?_⟩ <;> (rw [u1_n (by omega), u1_n (by omega)]; assumption)
theorem fM_u8 {F b : Int → Int} {m v : Int} (h : fM F b) (hm : 0 ≤ m ∧ m < b 1) : fM (u1 F (m * 13 + 8) v) (u1 b (3300 + 16 * m + 9) v) := by
  intro x x0 x1
  rw [u1_n (by omega)] at x1
  obtain ⟨q0, q1, q2, q3, q4, q5, q6, q7, q8, q9, q10⟩ := h x x0 x1
  by_cases e : x = m
  · subst e
    refine ⟨?_, ?_, ?_, ?_, ?_, ?_, ?_, ?_, ?_, ?_, ?_⟩ <;> first | rw [u1_s, u1_s] | (rw [u1_n (by omega), u1_n (by omega)]; assumption)
  · refine ⟨?_, ?_, ?_, ?_, ?_, ?_, ?_, ?_, ?_, ?_, ?_⟩ <;> (rw [u1_n (by omega), u1_n (by omega)]; assumption)
theorem fM_u9 {F b : Int → Int} {m v : Int} (h : fM F b) (hm : 0 ≤ m ∧ m < b 1) : fM (u1 F (m * 13 + 9) v) (u1 b (3300 + 16 * m + 10) v) := by
  intro x x0 x1
  rw [u1_n (by omega)] at x1
  obtain ⟨q0, q1, q2, q3, q4, q5, q6, q7, q8, q9, q10⟩ := h x x0 x1
  by_cases e : x = m
  · subst e
    refine ⟨?_, ?_, ?_, ?_, ?_, ?_, ?_, ?_, ?_, ?_, ?_⟩ <;> first | rw [u1_s, u1_s] | (rw [u1_n (by omega), u1_n (by omega)]; assumption)
  · refine ⟨?_, ?_, ?_, ?_, ?_, ?_, ?_, ?_, ?_, ?_, ?_⟩ <;> (rw [u1_n (by omega), u1_n (by omega)]; assumption)
theorem fM_u10 {F b : Int → Int} {m v : Int} (h : fM F b) (hm : 0 ≤ m ∧ m < b 1) : fM (u1 F (m * 13 + 10) v) (u1 b (3300 + 16 * m + 1) v) := by
  intro x x0 x1
  rw [u1_n (by omega)] at x1
  obtain ⟨q0, q1, q2, q3, q4, q5, q6, q7, q8, q9, q10⟩ := h x x0 x1
  by_cases e : x = m
  · subst e
    refine ⟨?_, ?_, ?_, ?_, ?_, ?_, ?_, ?_, ?_, ?_, ?_⟩ <;> first | rw [u1_s, u1_s] | (rw [u1_n (by omega), u1_n (by omega)]; assumption)
  · refine ⟨?_, ?_, ?_, ?_, ?_, ?_, ?_, ?_, ?_, ?_, ?_⟩ <;> (rw [u1_n (by omega), u1_n (by omega)]; assumption)
theorem fM_u11 {F b : Int → Int} {m v : Int} (h : fM F b) (hm : 0 ≤ m ∧ m < b 1) : fM (u1 F (m * 13 + 11) v) (u1 b (3300 + 16 * m + 3) v) := by
  intro x x0 x1
  rw [u1_n (by omega)] at x1
  obtain ⟨q0, q1, q2, q3, q4, q5, q6, q7, q8, q9, q10⟩ := h x x0 x1
  by_cases e : x = m
  · subst e
    refine ⟨?_, ?_, ?_, ?_, ?_, ?_, ?_, ?_, ?_, ?_, ?_⟩ <;> first | rw [u1_s, u1_s] | (rw [u1_n (by omega), u1_n (by omega)]; assumption)
  · refine ⟨?_, ?_, ?_, ?_, ?_, ?_, ?_, ?_, ?_, ?_, ?_⟩ <;> (rw [u1_n (by omega), u1_n (by omega)]; assumption)
theorem fM_u12 {F b : Int → Int} {m v : Int} (h : fM F b) (hm : 0 ≤ m) : fM (u1 F (m * 13 + 12) v) b := by
  intro x x0 x1
  obtain ⟨q0, q1, q2, q3, q4, q5, q6, q7, q8, q9, q10⟩ := h x x0 x1
  refine ⟨?_, ?_, ?_, ?_, ?_, ?_, ?_, ?_, ?_, ?_, ?_⟩ <;> (rw [u1_n (by omega)]; assumption)
theorem fM_n {F b b' : Int → Int} (h : fM F b) (hc : b' 1 = b 1) (hb : ∀ k, 3300 ≤ k → k < 3300 + 16 * b 1 → b' k = b k) : fM F b' := by
  intro x x0 x1
  rw [hc] at x1
  have := h x x0 x1
  simp (disch := omega) only [hb]
  exact this
def fO (F b : Int → Int) : Prop := ∀ x, 0 ≤ x → x < b 7 → F (x * 6 + 0) = b (4372 + 8 * x ) ∧ F (x * 6 + 1) = b (4372 + 8 * x + 1) ∧ F (x * 6 + 2) = b (4372 + 8 * x + 2) ∧ F (x * 6 + 3) = b (4372 + 8 * x + 3) ∧ F (x * 6 + 4) = b (4372 + 8 * x + 4)
theorem fO_of {σ : zI} {t : Nat} {a : Int → Int} (h : rT_O σ t a) : fO (σ (t + 14)) a := h.2
theorem fO_u0 {F b : Int → Int} {m v : Int} (h : fO F b) (hm : 0 ≤ m ∧ m < b 7) : fO (u1 F (m * 6 + 0) v) (u1 b (4372 + 8 * m ) v) := by
  intro x x0 x1
  rw [u1_n (by omega)] at x1
  obtain ⟨q0, q1, q2, q3, q4⟩ := h x x0 x1
  by_cases e : x = m
  · subst e
    refine ⟨?_, ?_, ?_, ?_, ?_⟩ <;> first | rw [u1_s, u1_s] | (rw [u1_n (by omega), u1_n (by omega)]; assumption)
  · refine ⟨?_, ?_, ?_, ?_, ?_⟩ <;> (rw [u1_n (by omega), u1_n (by omega)]; assumption)
theorem fO_u1 {F b : Int → Int} {m v : Int} (h : fO F b) (hm : 0 ≤ m ∧ m < b 7) : fO (u1 F (m * 6 + 1) v) (u1 b (4372 + 8 * m + 1) v) := by
  intro x x0 x1
  rw [u1_n (by omega)] at x1
  obtain ⟨q0, q1, q2, q3, q4⟩ := h x x0 x1
  by_cases e : x = m
  · subst e
    refine ⟨?_, ?_, ?_, ?_, ?_⟩ <;> first | rw [u1_s, u1_s] | (rw [u1_n (by omega), u1_n (by omega)]; assumption)
  · refine ⟨?_, ?_, ?_, ?_, ?_⟩ <;> (rw [u1_n (by omega), u1_n (by omega)]; assumption)
theorem fO_u2 {F b : Int → Int} {m v : Int} (h : fO F b) (hm : 0 ≤ m ∧ m < b 7) : fO (u1 F (m * 6 + 2) v) (u1 b (4372 + 8 * m + 2) v) := by
  intro x x0 x1
  rw [u1_n (by omega)] at x1
  obtain ⟨q0, q1, q2, q3, q4⟩ := h x x0 x1
  by_cases e : x = m
  · subst e
    refine ⟨?_, ?_, ?_, ?_, ?_⟩ <;> first | rw [u1_s, u1_s] | (rw [u1_n (by omega), u1_n (by omega)]; assumption)
  · refine ⟨?_, ?_, ?_, ?_, ?_⟩ <;> (rw [u1_n (by omega), u1_n (by omega)]; assumption)
theorem fO_u3 {F b : Int → Int} {m v : Int} (h : fO F b) (hm : 0 ≤ m ∧ m < b 7) : fO (u1 F (m * 6 + 3) v) (u1 b (4372 + 8 * m + 3) v) := by
  intro x x0 x1
  rw [u1_n (by omega)] at x1
  obtain ⟨q0, q1, q2, q3, q4⟩ := h x x0 x1
  by_cases e : x = m
  · subst e
    refine ⟨?_, ?_, ?_, ?_, ?_⟩ <;> first | rw [u1_s, u1_s] | (rw [u1_n (by omega), u1_n (by omega)]; assumption)
  · refine ⟨?_, ?_, ?_, ?_, ?_⟩ <;> (rw [u1_n (by omega), u1_n (by omega)]; assumption)
theorem fO_u4 {F b : Int → Int} {m v : Int} (h : fO F b) (hm : 0 ≤ m ∧ m < b 7) : fO (u1 F (m * 6 + 4) v) (u1 b (4372 + 8 * m + 4) v) := by
  intro x x0 x1
  rw [u1_n (by omega)] at x1
  obtain ⟨q0, q1, q2, q3, q4⟩ := h x x0 x1
  by_cases e : x = m
  · subst e
    refine ⟨?_, ?_, ?_, ?_, ?_⟩ <;> first | rw [u1_s, u1_s] | (rw [u1_n (by omega), u1_n (by omega)]; assumption)
  · refine ⟨?_, ?_, ?_, ?_, ?_⟩ <;> (rw [u1_n (by omega), u1_n (by omega)]; assumption)
theorem fO_u5 {F b : Int → Int} {m v : Int} (h : fO F b) (hm : 0 ≤ m) : fO (u1 F (m * 6 + 5) v) b := by
  intro x x0 x1
  obtain ⟨q0, q1, q2, q3, q4⟩ := h x x0 x1
  refine ⟨?_, ?_, ?_, ?_, ?_⟩ <;> (rw [u1_n (by omega)]; assumption)
theorem fO_n {F b b' : Int → Int} (h : fO F b) (hc : b' 7 = b 7) (hb : ∀ k, 4372 ≤ k → k < 4372 + 8 * b 7 → b' k = b k) : fO F b' := by
  intro x x0 x1
  rw [hc] at x1
  have := h x x0 x1
  simp (disch := omega) only [hb]
  exact this
def fF (F b : Int → Int) : Prop := ∀ x, 0 ≤ x → x < b 6 → F (x * 5 + 0) = b (5012 + 8 * x ) ∧ F (x * 5 + 1) = b (5012 + 8 * x + 1) ∧ F (x * 5 + 2) = b (5012 + 8 * x + 2) ∧ F (x * 5 + 3) = b (5012 + 8 * x + 3) ∧ F (x * 5 + 4) = b (5012 + 8 * x + 4)
theorem fF_of {σ : zI} {t : Nat} {a : Int → Int} (h : rT_F σ t a) : fF (σ (t + 16)) a := h.2
theorem fF_u0 {F b : Int → Int} {m v : Int} (h : fF F b) (hm : 0 ≤ m ∧ m < b 6) : fF (u1 F (m * 5 + 0) v) (u1 b (5012 + 8 * m ) v) := by
  intro x x0 x1
  rw [u1_n (by omega)] at x1
  obtain ⟨q0, q1, q2, q3, q4⟩ := h x x0 x1
  by_cases e : x = m
  · subst e
    refine ⟨?_, ?_, ?_, ?_, ?_⟩ <;> first | rw [u1_s, u1_s] | (rw [u1_n (by omega), u1_n (by omega)]; assumption)
  · refine ⟨?_, ?_, ?_, ?_, ?_⟩ <;> (rw [u1_n (by omega), u1_n (by omega)]; assumption)
theorem fF_u1 {F b : Int → Int} {m v : Int} (h : fF F b) (hm : 0 ≤ m ∧ m < b 6) : fF (u1 F (m * 5 + 1) v) (u1 b (5012 + 8 * m + 1) v) := by
  intro x x0 x1
  rw [u1_n (by omega)] at x1
  obtain ⟨q0, q1, q2, q3, q4⟩ := h x x0 x1
  by_cases e : x = m
  · subst e
    refine ⟨?_, ?_, ?_, ?_, ?_⟩ <;> first | rw [u1_s, u1_s] | (rw [u1_n (by omega), u1_n (by omega)]; assumption)
  · refine ⟨?_, ?_, ?_, ?_, ?_⟩ <;> (rw [u1_n (by omega), u1_n (by omega)]; assumption)
theorem fF_u2 {F b : Int → Int} {m v : Int} (h : fF F b) (hm : 0 ≤ m ∧ m < b 6) : fF (u1 F (m * 5 + 2) v) (u1 b (5012 + 8 * m + 2) v) := by
  intro x x0 x1
  rw [u1_n (by omega)] at x1
  obtain ⟨q0, q1, q2, q3, q4⟩ := h x x0 x1
  by_cases e : x = m
  · subst e
    refine ⟨?_, ?_, ?_, ?_, ?_⟩ <;> first | rw [u1_s, u1_s] | (rw [u1_n (by omega), u1_n (by omega)]; assumption)
  · refine ⟨?_, ?_, ?_, ?_, ?_⟩ <;> (rw [u1_n (by omega), u1_n (by omega)]; assumption)
theorem fF_u3 {F b : Int → Int} {m v : Int} (h : fF F b) (hm : 0 ≤ m ∧ m < b 6) : fF (u1 F (m * 5 + 3) v) (u1 b (5012 + 8 * m + 3) v) := by
  intro x x0 x1
  rw [u1_n (by omega)] at x1
  obtain ⟨q0, q1, q2, q3, q4⟩ := h x x0 x1
  by_cases e : x = m
  · subst e
    refine ⟨?_, ?_, ?_, ?_, ?_⟩ <;> first | rw [u1_s, u1_s] | (rw [u1_n (by omega), u1_n (by omega)]; assumption)
  · refine ⟨?_, ?_, ?_, ?_, ?_⟩ <;> (rw [u1_n (by omega), u1_n (by omega)]; assumption)
theorem fF_u4 {F b : Int → Int} {m v : Int} (h : fF F b) (hm : 0 ≤ m ∧ m < b 6) : fF (u1 F (m * 5 + 4) v) (u1 b (5012 + 8 * m + 4) v) := by
  intro x x0 x1
  rw [u1_n (by omega)] at x1
  obtain ⟨q0, q1, q2, q3, q4⟩ := h x x0 x1
  by_cases e : x = m
  · subst e
    refine ⟨?_, ?_, ?_, ?_, ?_⟩ <;> first | rw [u1_s, u1_s] | (rw [u1_n (by omega), u1_n (by omega)]; assumption)
  · refine ⟨?_, ?_, ?_, ?_, ?_⟩ <;> (rw [u1_n (by omega), u1_n (by omega)]; assumption)
theorem fF_n {F b b' : Int → Int} (h : fF F b) (hc : b' 6 = b 6) (hb : ∀ k, 5012 ≤ k → k < 5012 + 8 * b 6 → b' k = b k) : fF F b' := by
  intro x x0 x1
  rw [hc] at x1
  have := h x x0 x1
  simp (disch := omega) only [hb]
  exact this
def fP (F b : Int → Int) : Prop := ∀ p, 0 ≤ p → p < b 4 → ∀ k, 0 ≤ k → k ≤ 8 → F (p * 9 + k) = b (3652 + 12 * p + k)
theorem fP_of {σ : zI} {t : Nat} {a : Int → Int} (h : rT_P σ t a) : fP (σ (t + 12)) a := h.2
theorem fP_u {F b : Int → Int} {m k v : Int} (h : fP F b) (hm : 0 ≤ m ∧ m < b 4) (hk : 0 ≤ k ∧ k ≤ 8) : fP (u1 F (m * 9 + k) v) (u1 b (3652 + 12 * m + k) v) := by
  intro x x0 x1 j j0 j1
  rw [u1_n (by omega)] at x1
  have q := h x x0 x1 j j0 j1
  by_cases e : x = m ∧ j = k
  · obtain ⟨rfl, rfl⟩ := e
    rw [u1_s, u1_s]
  · rw [u1_n (by omega), u1_n (by omega)]
    exact q
theorem fP_n {F b b' : Int → Int} (h : fP F b) (hc : b' 4 = b 4) (hb : ∀ k, 3652 ≤ k → k < 3652 + 12 * b 4 → b' k = b k) : fP F b' := by
  intro x x0 x1 j j0 j1
  rw [hc] at x1
  rw [hb _ (by omega) (by omega)]
  exact h x x0 x1 j j0 j1
theorem fP_end1 {F b : Int → Int} {p : Int} (h : fP F b) (hp : 0 ≤ p ∧ p < b 4) : fP (u1 (u1 (u1 (u1 (u1 F (p * 9 + 3) 0) (p * 9 + 4) (-1)) (p * 9 + 5) 0) (p * 9 + 6) (-1)) (p * 9 + 7) 0) (r_end1 b p) := by
  unfold r_end1
  refine fP_u (fP_u (fP_u (fP_u (fP_u h hp (by omega)) ?_ (by omega)) ?_ (by omega)) ?_ (by omega)) ?_ (by omega)
  all_goals (simp (disch := omega) only [u1_n]; exact hp)
/-- a mills' table is written -/
theorem RT_M {σ : zI} {t : Nat} {a b : Int → Int} {F : Int → Int} (h : RT σ t a) (hF : fM F b) (hb : ∀ k, k < 3300 ∨ 3428 ≤ k → b k = a k) (q : (0 ≤ a 0 ∧ a 0 ≤ 400) ∧ a 3 ≤ 24) : RT (uc σ (t + 6) F) t b :=
  ⟨gS (uc_n (by omega)) (fun k _ _ => hb k (by omega)) (tS h), gK (uc_n (by omega)) (uc_n (by omega)) (fun k _ _ => hb k (by omega)) (tK h), gW (uc_n (by omega)) (uc_n (by omega)) (fun k _ _ => hb k (by omega)) (fun k _ _ => hb k (by omega)) (tW h), ⟨by rw [uc_n (by omega), hb 1 (by omega)]; exact (tM h).1, by rw [uc_s]; exact hF⟩, gQ (uc_n (by omega)) (uc_n (by omega)) (hb 2 (by omega)) (hb 3 (by omega)) (fun k _ _ => hb k (by omega)) (fun k _ _ => hb k (by omega)) (tQ h), gH (uc_n (by omega)) (uc_n (by omega)) (hb 0 (by omega)) (hb 3 (by omega)) (hb 4 (by omega)) (fun k _ _ => hb k (by omega)) (fun k _ _ => hb k (by omega)) (fun k _ _ => hb k (by omega)) q (tH h), gP (uc_n (by omega)) (uc_n (by omega)) (hb 4 (by omega)) (fun k _ _ => hb k (by omega)) (tP h), gO (uc_n (by omega)) (uc_n (by omega)) (hb 7 (by omega)) (fun k _ _ => hb k (by omega)) (tO h), gF (uc_n (by omega)) (uc_n (by omega)) (hb 6 (by omega)) (fun k _ _ => hb k (by omega)) (tF h)⟩
theorem RT_O {σ : zI} {t : Nat} {a b : Int → Int} {F : Int → Int} (h : RT σ t a) (hF : fO F b) (hb : ∀ k, k < 4372 ∨ 5012 ≤ k → b k = a k) (q : (0 ≤ a 0 ∧ a 0 ≤ 400) ∧ (a 1 ≤ 8 ∧ a 2 ≤ 4) ∧ a 3 ≤ 24 ∧ a 4 ≤ 60) : RT (uc σ (t + 14) F) t b :=
  ⟨gS (uc_n (by omega)) (fun k _ _ => hb k (by omega)) (tS h), gK (uc_n (by omega)) (uc_n (by omega)) (fun k _ _ => hb k (by omega)) (tK h), gW (uc_n (by omega)) (uc_n (by omega)) (fun k _ _ => hb k (by omega)) (fun k _ _ => hb k (by omega)) (tW h), gM (uc_n (by omega)) (uc_n (by omega)) (hb 1 (by omega)) (fun k _ _ => hb k (by omega)) (tM h), gQ (uc_n (by omega)) (uc_n (by omega)) (hb 2 (by omega)) (hb 3 (by omega)) (fun k _ _ => hb k (by omega)) (fun k _ _ => hb k (by omega)) (tQ h), gH (uc_n (by omega)) (uc_n (by omega)) (hb 0 (by omega)) (hb 3 (by omega)) (hb 4 (by omega)) (fun k _ _ => hb k (by omega)) (fun k _ _ => hb k (by omega)) (fun k _ _ => hb k (by omega)) ⟨q.1, q.2.2.1⟩ (tH h), gP (uc_n (by omega)) (uc_n (by omega)) (hb 4 (by omega)) (fun k _ _ => hb k (by omega)) (tP h), ⟨by rw [uc_n (by omega), hb 7 (by omega)]; exact (tO h).1, by rw [uc_s]; exact hF⟩, gF (uc_n (by omega)) (uc_n (by omega)) (hb 6 (by omega)) (fun k _ _ => hb k (by omega)) (tF h)⟩
/-- a persons' table is written, but no HOME and no AGE -/
theorem RT_P {σ : zI} {t : Nat} {a b : Int → Int} {F : Int → Int} (h : RT σ t a) (hF : fP F b) (hb : ∀ k, k < 3652 ∨ 4372 ≤ k → b k = a k) (hn : ∀ p, 0 ≤ p → p < a 4 → b (3652 + 12 * p + 0) = a (3652 + 12 * p + 0) ∧ b (3652 + 12 * p + 1) = a (3652 + 12 * p + 1)) (q : (0 ≤ a 0 ∧ a 0 ≤ 400) ∧ (a 1 ≤ 8 ∧ a 2 ≤ 4) ∧ a 3 ≤ 24) : RT (uc σ (t + 12) F) t b := by
  have c4 := hb 4 (by omega)
  refine ⟨gS (uc_n (by omega)) (fun k _ _ => hb k (by omega)) (tS h), gK (uc_n (by omega)) (uc_n (by omega)) (fun k _ _ => hb k (by omega)) (tK h), gW (uc_n (by omega)) (uc_n (by omega)) (fun k _ _ => hb k (by omega)) (fun k _ _ => hb k (by omega)) (tW h), gM (uc_n (by omega)) (uc_n (by omega)) (hb 1 (by omega)) (fun k _ _ => hb k (by omega)) (tM h), gQ (uc_n (by omega)) (uc_n (by omega)) (hb 2 (by omega)) (hb 3 (by omega)) (fun k _ _ => hb k (by omega)) (fun k _ _ => hb k (by omega)) (tQ h), ⟨by rw [uc_n (by omega), hb 3 (by omega)]; exact (tH h).1, fun x x0 x1 => ?_⟩, ⟨by rw [uc_n (by omega), c4]; exact (tP h).1, by rw [uc_s]; exact hF⟩, gO (uc_n (by omega)) (uc_n (by omega)) (hb 7 (by omega)) (fun k _ _ => hb k (by omega)) (tO h), gF (uc_n (by omega)) (uc_n (by omega)) (hb 6 (by omega)) (fun k _ _ => hb k (by omega)) (tF h)⟩
  rw [hb 3 (by omega)] at x1
  have hq := (tH h).2 x x0 x1
  have e1 : r_need b x = r_need a x := by
    unfold r_need
    refine sI_e c4 (fun p p0 p1 => ?_)
    rw [(hn p p0 (by omega)).1, (hn p p0 (by omega)).2]
  have e2 : r_pers b x = r_pers a x := by
    unfold r_pers
    refine sI_e c4 (fun p p0 p1 => ?_)
    rw [(hn p p0 (by omega)).1]
  have l : ∀ f, f = 22300 ∨ f = 31900 → r_late b f x = r_late a f x := by
    intro f hf
    unfold r_late
    rw [hb 0 (by omega)]
    split
    · rfl
    · exact hb _ (by omega)
  rw [uc_n (by omega), e1, e2, l _ (Or.inl rfl), l _ (Or.inr rfl)]
  simp (disch := omega) only [hb]
  exact hq
