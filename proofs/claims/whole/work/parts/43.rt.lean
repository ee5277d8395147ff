/-! ===== a town of the class shows the reference's numbers (own work) ===== -/
def rT_S (σ : zI) (t : Nat) (a : Int → Int) : Prop := σ t 8 = a 0 ∧ σ t 9 = a 5 ∧ σ t 10 = a 15 ∧ σ t 11 = a 11 ∧ σ t 12 = a 12 ∧ σ t 13 = a 8 ∧ σ t 14 = a 9 ∧ σ t 15 = a 10 ∧ σ t 16 = a 13 ∧ σ t 17 = a 14
def rT_K (σ : zI) (t : Nat) (a : Int → Int) : Prop := σ (t + 1) 2 = 6 ∧ ∀ k, 0 ≤ k → k ≤ 5 → σ (t + 2) (k * 6 + 0) = a (20 + 8 * k + 1) ∧ σ (t + 2) (k * 6 + 1) = a (20 + 8 * k + 2) ∧ σ (t + 2) (k * 6 + 2) = a (20 + 8 * k + 3) ∧ σ (t + 2) (k * 6 + 3) = a (20 + 8 * k + 4) ∧ σ (t + 2) (k * 6 + 4) = a (20 + 8 * k + 5) ∧ σ (t + 2) (k * 6 + 5) = a (20 + 8 * k + 6)
def rT_W (σ : zI) (t : Nat) (a : Int → Int) : Prop := σ (t + 3) 2 = 8 ∧ ∀ i, 0 ≤ i → i ≤ 7 → (∀ w, 0 ≤ w → w ≤ 399 → σ (t + 4) (i * 401 + w) = a (100 + 400 * i + w)) ∧ σ (t + 4) (i * 401 + 400) = a (70 + i)
def rT_M (σ : zI) (t : Nat) (a : Int → Int) : Prop := σ (t + 5) 2 = a 1 ∧ ∀ m, 0 ≤ m → m < a 1 → σ (t + 6) (m * 13 + 0) = a (3300 + 16 * m + 0) ∧ σ (t + 6) (m * 13 + 2) = a (3300 + 16 * m + 2) ∧ σ (t + 6) (m * 13 + 3) = a (3300 + 16 * m + 4) ∧ σ (t + 6) (m * 13 + 4) = a (3300 + 16 * m + 5) ∧ σ (t + 6) (m * 13 + 5) = a (3300 + 16 * m + 6) ∧ σ (t + 6) (m * 13 + 6) = a (3300 + 16 * m + 7) ∧ σ (t + 6) (m * 13 + 7) = a (3300 + 16 * m + 8) ∧ σ (t + 6) (m * 13 + 8) = a (3300 + 16 * m + 9) ∧ σ (t + 6) (m * 13 + 9) = a (3300 + 16 * m + 10) ∧ σ (t + 6) (m * 13 + 10) = a (3300 + 16 * m + 1) ∧ σ (t + 6) (m * 13 + 11) = a (3300 + 16 * m + 3)
def rT_Q (σ : zI) (t : Nat) (a : Int → Int) : Prop := σ (t + 7) 2 = a 2 ∧ ∀ s, 0 ≤ s → s < a 2 → σ (t + 8) (s * 5 + 0) = a (3428 + 8 * s) ∧ σ (t + 8) (s * 5 + 1) = r_debts a s ∧ σ (t + 8) (s * 5 + 2) = a (3428 + 8 * s + 3) ∧ σ (t + 8) (s * 5 + 3) = a (3428 + 8 * s + 1) ∧ σ (t + 8) (s * 5 + 4) = a (3428 + 8 * s + 2)
def rT_H (σ : zI) (t : Nat) (a : Int → Int) : Prop := σ (t + 9) 2 = a 3 ∧ ∀ h, 0 ≤ h → h < a 3 → σ (t + 10) (h * 8 + 0) = a (3460 + 8 * h + 1) ∧ σ (t + 10) (h * 8 + 1) = a (3460 + 8 * h + 2) ∧ σ (t + 10) (h * 8 + 2) = a (3460 + 8 * h + 3) ∧ σ (t + 10) (h * 8 + 3) = r_need a h ∧ σ (t + 10) (h * 8 + 4) = r_pers a h ∧ σ (t + 10) (h * 8 + 5) = r_late a 22300 h ∧ σ (t + 10) (h * 8 + 6) = r_late a 31900 h ∧ σ (t + 10) (h * 8 + 7) = a (3460 + 8 * h + 0)
def rT_P (σ : zI) (t : Nat) (a : Int → Int) : Prop := σ (t + 11) 2 = a 4 ∧ ∀ p, 0 ≤ p → p < a 4 → ∀ k, 0 ≤ k → k ≤ 8 → σ (t + 12) (p * 9 + k) = a (3652 + 12 * p + k)
def rT_O (σ : zI) (t : Nat) (a : Int → Int) : Prop := σ (t + 13) 2 = a 7 ∧ ∀ o, 0 ≤ o → o < a 7 → σ (t + 14) (o * 6 + 0) = a (4372 + 8 * o) ∧ σ (t + 14) (o * 6 + 1) = a (4372 + 8 * o + 1) ∧ σ (t + 14) (o * 6 + 2) = a (4372 + 8 * o + 2) ∧ σ (t + 14) (o * 6 + 3) = a (4372 + 8 * o + 3) ∧ σ (t + 14) (o * 6 + 4) = a (4372 + 8 * o + 4)
def rT_F (σ : zI) (t : Nat) (a : Int → Int) : Prop := σ (t + 15) 2 = a 6 ∧ ∀ f, 0 ≤ f → f < a 6 → σ (t + 16) (f * 5 + 0) = a (5012 + 8 * f) ∧ σ (t + 16) (f * 5 + 1) = a (5012 + 8 * f + 1) ∧ σ (t + 16) (f * 5 + 2) = a (5012 + 8 * f + 2) ∧ σ (t + 16) (f * 5 + 3) = a (5012 + 8 * f + 3) ∧ σ (t + 16) (f * 5 + 4) = a (5012 + 8 * f + 4)
def RT (σ : zI) (t : Nat) (a : Int → Int) : Prop := rT_S σ t a ∧ rT_K σ t a ∧ rT_W σ t a ∧ rT_M σ t a ∧ rT_Q σ t a ∧ rT_H σ t a ∧ rT_P σ t a ∧ rT_O σ t a ∧ rT_F σ t a
/-- the same cells show the same -/
theorem RT_σ {σ σ' : zI} {t : Nat} {a : Int → Int} (h : ∀ c, t ≤ c → c ≤ t + 16 → σ' c = σ c) (q : RT σ t a) : RT σ' t a := by
  unfold RT rT_S rT_K rT_W rT_M rT_Q rT_H rT_P rT_O rT_F at *
  simp only [h t (by omega) (by omega), h (t + 1) (by omega) (by omega), h (t + 2) (by omega) (by omega), h (t + 3) (by omega) (by omega), h (t + 4) (by omega) (by omega), h (t + 5) (by omega) (by omega), h (t + 6) (by omega) (by omega), h (t + 7) (by omega) (by omega), h (t + 8) (by omega) (by omega), h (t + 9) (by omega) (by omega), h (t + 10) (by omega) (by omega), h (t + 11) (by omega) (by omega), h (t + 12) (by omega) (by omega), h (t + 13) (by omega) (by omega), h (t + 14) (by omega) (by omega), h (t + 15) (by omega) (by omega), h (t + 16) (by omega) (by omega)]
  exact q
/-! numbers that agree in a region show the same there -/
theorem sI_e {f g : Int → Int} {n m : Int} (hn : n = m) (h : ∀ p, 0 ≤ p → p < n → f p = g p) : sI f n = sI g m := by subst hn; exact sI_c h
section CG
variable {σ σ' : zI} {t : Nat} {a a' : Int → Int}
theorem gS (e : σ' t = σ t) (h : ∀ k, 0 ≤ k → k ≤ 15 → a' k = a k) (q : rT_S σ t a) : rT_S σ' t a' := by
  unfold rT_S at *
  rw [e]
  simp (disch := omega) only [h]
  exact q
theorem gK (e1 : σ' (t + 1) = σ (t + 1)) (e2 : σ' (t + 2) = σ (t + 2)) (h : ∀ k, 20 ≤ k → k < 68 → a' k = a k) (q : rT_K σ t a) : rT_K σ' t a' := by
  refine ⟨by rw [e1]; exact q.1, fun k h0 h1 => ?_⟩
  have := q.2 k h0 h1
  rw [e2]
  simp (disch := omega) only [h]
  exact this
theorem gW (e1 : σ' (t + 3) = σ (t + 3)) (e2 : σ' (t + 4) = σ (t + 4)) (h1 : ∀ k, 70 ≤ k → k < 78 → a' k = a k) (h2 : ∀ k, 100 ≤ k → k < 3300 → a' k = a k) (q : rT_W σ t a) : rT_W σ' t a' := by
  refine ⟨by rw [e1]; exact q.1, fun i i0 i1 => ⟨fun w w0 w1 => ?_, ?_⟩⟩
  · rw [e2, h2 _ (by omega) (by omega)]; exact (q.2 i i0 i1).1 w w0 w1
  · rw [e2, h1 _ (by omega) (by omega)]; exact (q.2 i i0 i1).2
theorem gM (e1 : σ' (t + 5) = σ (t + 5)) (e2 : σ' (t + 6) = σ (t + 6)) (c : a' 1 = a 1) (h : ∀ k, 3300 ≤ k → k < 3300 + 16 * a 1 → a' k = a k) (q : rT_M σ t a) : rT_M σ' t a' := by
  refine ⟨by rw [e1, c]; exact q.1, fun m h0 h1 => ?_⟩
  rw [c] at h1
  have := q.2 m h0 h1
  rw [e2]
  simp (disch := omega) only [h]
  exact this
theorem gD (c3 : a' 3 = a 3) (hh : ∀ k, 3460 ≤ k → k < 3460 + 8 * a 3 → a' k = a k) (s : Int) : r_debts a' s = r_debts a s := by
  unfold r_debts
  refine sI_e c3 (fun p p0 p1 => ?_)
  rw [c3] at p1
  simp (disch := omega) only [hh]
theorem gQ (e1 : σ' (t + 7) = σ (t + 7)) (e2 : σ' (t + 8) = σ (t + 8)) (c : a' 2 = a 2) (c3 : a' 3 = a 3) (h : ∀ k, 3428 ≤ k → k < 3428 + 8 * a 2 → a' k = a k) (hh : ∀ k, 3460 ≤ k → k < 3460 + 8 * a 3 → a' k = a k) (q : rT_Q σ t a) : rT_Q σ' t a' := by
  refine ⟨by rw [e1, c]; exact q.1, fun s h0 h1 => ?_⟩
  rw [c] at h1
  have hq := q.2 s h0 h1
  rw [gD c3 hh, e2]
  simp (disch := omega) only [h]
  exact hq
theorem gNeed (c : a' 4 = a 4) (h : ∀ k, 3652 ≤ k → k < 3652 + 12 * a 4 → a' k = a k) (x : Int) : r_need a' x = r_need a x ∧ r_pers a' x = r_pers a x := by
  constructor
  · unfold r_need
    refine sI_e c (fun p p0 p1 => ?_)
    rw [c] at p1
    simp (disch := omega) only [h]
  · unfold r_pers
    refine sI_e c (fun p p0 p1 => ?_)
    rw [c] at p1
    simp (disch := omega) only [h]
theorem gH (e1 : σ' (t + 9) = σ (t + 9)) (e2 : σ' (t + 10) = σ (t + 10)) (c0 : a' 0 = a 0) (c : a' 3 = a 3) (c4 : a' 4 = a 4) (h : ∀ k, 3460 ≤ k → k < 3460 + 8 * a 3 → a' k = a k) (hp : ∀ k, 3652 ≤ k → k < 3652 + 12 * a 4 → a' k = a k) (hb : ∀ k, 22300 ≤ k → k < 41500 → a' k = a k) (b : (0 ≤ a 0 ∧ a 0 ≤ 400) ∧ a 3 ≤ 24) (q : rT_H σ t a) : rT_H σ' t a' := by
  refine ⟨by rw [e1, c]; exact q.1, fun x h0 h1 => ?_⟩
  rw [c] at h1
  have hq := q.2 x h0 h1
  have l : ∀ f, f = 22300 ∨ f = 31900 → r_late a' f x = r_late a f x := by
    intro f hf
    unfold r_late
    rw [c0]
    split
    · rfl
    · exact hb _ (by omega) (by omega)
  rw [e2, (gNeed c4 hp x).1, (gNeed c4 hp x).2, l _ (Or.inl rfl), l _ (Or.inr rfl)]
  simp (disch := omega) only [h]
  exact hq
theorem gP (e1 : σ' (t + 11) = σ (t + 11)) (e2 : σ' (t + 12) = σ (t + 12)) (c : a' 4 = a 4) (h : ∀ k, 3652 ≤ k → k < 3652 + 12 * a 4 → a' k = a k) (q : rT_P σ t a) : rT_P σ' t a' := by
  refine ⟨by rw [e1, c]; exact q.1, fun p h0 h1 k k0 k1 => ?_⟩
  rw [c] at h1
  rw [e2, h _ (by omega) (by omega)]
  exact q.2 p h0 h1 k k0 k1
theorem gO (e1 : σ' (t + 13) = σ (t + 13)) (e2 : σ' (t + 14) = σ (t + 14)) (c : a' 7 = a 7) (h : ∀ k, 4372 ≤ k → k < 4372 + 8 * a 7 → a' k = a k) (q : rT_O σ t a) : rT_O σ' t a' := by
  refine ⟨by rw [e1, c]; exact q.1, fun m h0 h1 => ?_⟩
  rw [c] at h1
  have := q.2 m h0 h1
  rw [e2]
  simp (disch := omega) only [h]
  exact this
theorem gF (e1 : σ' (t + 15) = σ (t + 15)) (e2 : σ' (t + 16) = σ (t + 16)) (c : a' 6 = a 6) (h : ∀ k, 5012 ≤ k → k < 5012 + 8 * a 6 → a' k = a k) (q : rT_F σ t a) : rT_F σ' t a' := by
  refine ⟨by rw [e1, c]; exact q.1, fun m h0 h1 => ?_⟩
  rw [c] at h1
  have := q.2 m h0 h1
  rw [e2]
  simp (disch := omega) only [h]
  exact this
end CG
section TJ
variable {σ : zI} {t : Nat} {a : Int → Int}
theorem tS (h : RT σ t a) : rT_S σ t a := h.1
theorem tK (h : RT σ t a) : rT_K σ t a := h.2.1
theorem tW (h : RT σ t a) : rT_W σ t a := h.2.2.1
theorem tM (h : RT σ t a) : rT_M σ t a := h.2.2.2.1
theorem tQ (h : RT σ t a) : rT_Q σ t a := h.2.2.2.2.1
theorem tH (h : RT σ t a) : rT_H σ t a := h.2.2.2.2.2.1
theorem tP (h : RT σ t a) : rT_P σ t a := h.2.2.2.2.2.2.1
theorem tO (h : RT σ t a) : rT_O σ t a := h.2.2.2.2.2.2.2.1
theorem tF (h : RT σ t a) : rT_F σ t a := h.2.2.2.2.2.2.2.2
end TJ
/-! the same for what always holds -/
section CJ
variable {a a' : Int → Int}
theorem hC (h : ∀ k, 0 ≤ k → k ≤ 15 → a' k = a k) (q : jv_C a) : jv_C a' := by
  unfold jv_C at *
  simp (disch := omega) only [h]
  exact q
theorem hS (h : ∀ k, 0 ≤ k → k ≤ 15 → a' k = a k) (q : jv_S a) : jv_S a' := by
  unfold jv_S at *
  simp (disch := omega) only [h]
  exact q
theorem hK (h : ∀ k, 20 ≤ k → k < 68 → a' k = a k) (q : jv_K a) : jv_K a' := by
  intro k h0 h1
  have := q k h0 h1
  simp (disch := omega) only [h]
  exact this
theorem hW (h1 : ∀ k, 70 ≤ k → k < 78 → a' k = a k) (h2 : ∀ k, 100 ≤ k → k < 3300 → a' k = a k) (q : jv_W a) : jv_W a' := by
  refine ⟨fun i w i0 i1 w0 w1 => ?_, fun i i0 i1 => ?_⟩
  · rw [h2 _ (by omega) (by omega)]; exact q.1 i w i0 i1 w0 w1
  · rw [h1 _ (by omega) (by omega)]; exact q.2 i i0 i1
theorem hM (c : a' 1 = a 1) (c7 : a 7 ≤ a' 7) (h : ∀ k, 3300 ≤ k → k < 3300 + 16 * a 1 → a' k = a k) (q : jv_M a) : jv_M a' := by
  intro m h0 h1
  rw [c] at h1
  have := q m h0 h1
  simp (disch := omega) only [h]
  obtain ⟨b1, b2, b3, b4, b5, b6, b7, b8, b9, b10, b11⟩ := this
  exact ⟨b1, b2, b3, b4, b5, b6, b7, b8, ⟨b9.1, by omega⟩, b10, b11⟩
theorem hQ (c : a' 2 = a 2) (h : ∀ k, 3428 ≤ k → k < 3428 + 8 * a 2 → a' k = a k) (q : jv_Q a) : jv_Q a' := by
  intro m h0 h1
  rw [c] at h1
  have := q m h0 h1
  simp (disch := omega) only [h]
  exact this
theorem hH (c2 : a 2 ≤ a' 2) (c : a' 3 = a 3) (h : ∀ k, 3460 ≤ k → k < 3460 + 8 * a 3 → a' k = a k) (q : jv_H a) : jv_H a' := by
  intro m h0 h1
  rw [c] at h1
  have := q m h0 h1
  simp (disch := omega) only [h]
  omega
theorem hP (c1 : a 1 ≤ a' 1) (c3 : a 3 ≤ a' 3) (c : a' 4 = a 4) (h : ∀ k, 3652 ≤ k → k < 3652 + 12 * a 4 → a' k = a k) (hh : ∀ k, 3460 ≤ k → k < 3460 + 8 * a 3 → a' k = a k) (q : jv_P a) : jv_P a' := by
  intro m h0 h1
  rw [c] at h1
  have := q m h0 h1
  obtain ⟨b1, b2, b3, b4, b5, b6, b7, b8, b9, b10, b11, b12, b13, b14, b15⟩ := this
  simp (disch := omega) only [h, c]
  refine ⟨by omega, b2, b3, b4, by omega, b6, b7, b8, b9, b10, b11, fun q2 => ?_, b13, b14, fun q2 => b15 ?_⟩
  · have b12 := b12 q2
    rw [h _ (by omega) (by omega), h _ (by omega) (by omega)]
    exact b12
  · rw [hh _ (by omega) (by omega)] at q2
    exact q2
theorem hO (c : a' 7 = a 7) (h : ∀ k, 4372 ≤ k → k < 4372 + 8 * a 7 → a' k = a k) (hk : ∀ k, 20 ≤ k → k < 68 → a' k = a k) (q : jv_O a) : jv_O a' := by
  refine ⟨fun o h0 h1 => ?_, fun k k0 k1 => ?_⟩
  · rw [c] at h1
    have := q.1 o h0 h1
    simp (disch := omega) only [h]
    exact this
  · rw [hk _ (by omega) (by omega), q.2 k k0 k1, c]
    constructor
    · rintro ⟨o, o0, o1, o2⟩
      exact ⟨o, o0, o1, by rw [h _ (by omega) (by omega)]; exact o2⟩
    · rintro ⟨o, o0, o1, o2⟩
      rw [h _ (by omega) (by omega)] at o2
      exact ⟨o, o0, o1, o2⟩
theorem hF (c5 : a 5 ≤ a' 5) (c : a' 6 = a 6) (h : ∀ k, 5012 ≤ k → k < 5012 + 8 * a 6 → a' k = a k) (q : jv_F a) : jv_F a' := by
  intro m h0 h1
  rw [c] at h1
  have := q m h0 h1
  simp (disch := omega) only [h]
  omega
end CJ
