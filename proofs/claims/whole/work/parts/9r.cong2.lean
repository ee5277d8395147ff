/-! ===== what is told keeps what always holds (segments printed by wip/whole, contracts own work) ===== -/
/-- the same clock, TEXTS, books -/
def eT (a a' : Int → Int) : Prop := ∀ k, k = 0 ∨ k = 5 ∨ k = 15 ∨ 5500 ≤ k ∧ k < 112300 → a' k = a k
/-- and the same COINS -/
def eV (a a' : Int → Int) : Prop := ∀ k, k = 0 ∨ k = 2 ∨ k = 3 ∨ k = 5 ∨ k = 7 ∨ k = 8 ∨ k = 15 ∨ 3428 ≤ k ∧ k < 3652 ∨ 4372 ≤ k ∧ k < 5012 ∨ 5500 ≤ k ∧ k < 112300 → a' k = a k
/-- all the same -/
def eA (a a' : Int → Int) : Prop := ∀ k, 0 ≤ k → k < 112300 → a' k = a k
theorem eV_T {a a' : Int → Int} (e : eV a a') : eT a a' := fun k hk => e k (by omega)
theorem eA_V {a a' : Int → Int} (e : eA a a') : eV a a' := fun k hk => e k (by omega) (by omega)
theorem eA_L {a a' : Int → Int} (e : eA a a') : eL a a' := fun k hk => e k (by omega) (by omega)
theorem eA_r {a : Int → Int} : eA a a := fun _ _ _ => rfl
theorem eA_s {a a' : Int → Int} (e : eA a a') : eA a' a := fun k k0 k1 => (e k k0 k1).symm
theorem eA_t {a a' b : Int → Int} (e : eA a a') (f : eA a' b) : eA a b := fun k k0 k1 => (f k k0 k1).trans (e k k0 k1)
theorem eA_c (f g : Int → Int) : eA f (cpA f g) := fun k k0 k1 => if_pos ⟨k0, k1⟩
section XX
variable {a a' : Int → Int}
theorem jT_x (e : eT a a') (hC : jv_C a) (hT : jv_T a) : jv_T a' := by
  unfold jv_C at hC
  intro n n0 n1
  rw [e 5 (by omega)] at n1
  have q := hT n n0 n1
  rw [e (5500 + 840 * n) (by omega)]
  refine ⟨q.1, fun c c0 c1 => ?_⟩
  have q2 := q.2 c c0 c1
  have q1 := q.1
  rw [e (5500 + 840 * n + 1 + 8 * c) (by omega), e (5500 + 840 * n + 1 + 8 * c + 1) (by omega), e (5500 + 840 * n + 1 + 8 * c + 2) (by omega), e (5500 + 840 * n + 1 + 8 * c + 3) (by omega)]
  exact q2

theorem wzN_x (e : eT a a') {text : Int} (ht : 0 ≤ text ∧ text < 20) : ∀ (n : Nat) (i m b m1 b1 : Int), 0 ≤ i → i + n ≤ 320 → wzN a (5500 + 840 * text + 200) n i m b m1 b1 → wzN a' (5500 + 840 * text + 200) n i m b m1 b1
  | 0, _, _, _, _, _, _, _, w => w
  | n + 1, i, m, b, m1, b1, h0, h1, w => by
    obtain ⟨w1, w2⟩ := w
    unfold wzN
    rw [e (5500 + 840 * text + 200 + 2 * i) (by omega), e (5500 + 840 * text + 200 + 2 * i + 1) (by omega)]
    exact ⟨w1, wzN_x e ht n (i + 1) _ _ m1 b1 (by omega) (by omega) w2⟩

theorem jE_x (e : eT a a') (hC : jv_C a) (hT : jv_T a) (hE : jv_E a) : jv_E a' := by
  unfold jv_C at hC
  intro n n0 n1 c c0 c1
  rw [e 5 (by omega)] at n1
  have q := (hT n n0 n1).1
  rw [e (5500 + 840 * n) (by omega)] at c1
  have w := hE n n0 n1 c c0 c1
  rw [e (5500 + 840 * n + 1 + 8 * c) (by omega), e (5500 + 840 * n + 1 + 8 * c + 4) (by omega), e (5500 + 840 * n + 1 + 8 * c + 5) (by omega), e (5500 + 840 * n + 1 + 8 * c + 6) (by omega), e (5500 + 840 * n + 1 + 8 * c + 7) (by omega)]
  refine ⟨fun h => ?_, fun h => ?_⟩
  · have w := w.1 h
    exact ⟨w.1, wzN_x e (by omega) _ _ _ _ _ _ w.1.1 (by omega) w.2⟩
  · have w := w.2 h
    exact ⟨w.1, wzN_x e (by omega) _ _ _ _ _ _ w.1.1 (by omega) w.2⟩

theorem TX_x {σ : zI} {x : Nat} {a a' : Int → Int} {n : Int} (e : eT a a') (hn : 0 ≤ n ∧ n < 20) (h24 : 0 ≤ a (5500 + 840 * n) ∧ a (5500 + 840 * n) ≤ 24) (h : TX σ x a n) : TX σ x a' n := by
  obtain ⟨h1, h2, h3, h4, h5, h6, h7⟩ := h
  have e0 := e (5500 + 840 * n) (by omega)
  refine ⟨h1, by rw [e0]; exact h2, fun c c0 c1 => ?_, fun s s0 s1 => ?_, h5, fun i i0 i1 => ?_, fun c c0 c1 => ?_⟩
  · rw [e0] at c1
    have q := h3 c c0 c1
    unfold TC at *
    rw [e (5500 + 840 * n + 1 + 8 * c) (by omega), e (5500 + 840 * n + 1 + 8 * c + 1) (by omega), e (5500 + 840 * n + 1 + 8 * c + 2) (by omega), e (5500 + 840 * n + 1 + 8 * c + 3) (by omega), e (5500 + 840 * n + 1 + 8 * c + 4) (by omega), e (5500 + 840 * n + 1 + 8 * c + 5) (by omega), e (5500 + 840 * n + 1 + 8 * c + 6) (by omega), e (5500 + 840 * n + 1 + 8 * c + 7) (by omega)]
    exact q
  · rw [h4 s s0 s1, e0]
    constructor
    · intro q c c0 c1; rw [e (5500 + 840 * n + 1 + 8 * c) (by omega)]; exact q c c0 c1
    · intro q c c0 c1; have := q c c0 c1; rw [e (5500 + 840 * n + 1 + 8 * c) (by omega)] at this; exact this
  · rw [e (5500 + 840 * n + 200 + 2 * i) (by omega), e (5500 + 840 * n + 200 + 2 * i + 1) (by omega)]
    exact h6 i i0 i1
  · rw [e0] at c1
    rw [e (5500 + 840 * n + 1 + 8 * c) (by omega), e (5500 + 840 * n + 1 + 8 * c + 7) (by omega)]
    exact h7 c c0 c1

theorem RX_x {S : zS} {σ : zI} {a a' : Int → Int} (e : eT a a') (hT : jv_T a) (h : RX S σ a) : RX S σ a' := by
  refine ⟨by rw [e 5 (by omega)]; exact h.1, fun n n0 n1 => ?_⟩
  rw [e 5 (by omega)] at n1
  obtain ⟨x, x1, x2, x3⟩ := h.2 n n0 n1
  have := h.1
  exact ⟨x, x1, x2, TX_x e (by omega) (hT n n0 n1).1 x3⟩

theorem jU_v (e : eV a a') (hC : jv_C a) (h : jv_U a) : jv_U a' := by
  unfold jv_C at hC
  refine ⟨by rw [e 8 (by omega)]; exact h.1, fun x x0 x1 => ?_, fun s s0 s1 => ?_⟩
  · rw [e 3 (by omega)] at x1
    rw [e (3460 + 8 * x + 1) (by omega)]; exact h.2.1 x x0 x1
  · rw [e 2 (by omega)] at s1
    rw [e (3428 + 8 * s) (by omega), e (3428 + 8 * s + 3) (by omega), gD (e 3 (by omega)) (fun k k0 k1 => e k (by omega)) s]
    exact h.2.2 s s0 s1
theorem jB_x (e : eT a a') (hC : jv_C a) (h : jv_B a) : jv_B a' := by
  unfold jv_C at hC
  unfold jv_B
  rw [e 0 (by omega), e 15 (by omega)]
  refine ⟨fun w w0 w1 => ?_, ?_⟩
  · have q := h.1 w w0 w1
    refine ⟨fun p p0 p1 => ?_, ?_, ?_, fun x x0 x1 => ?_, fun m m0 m1 => ?_⟩
    · rw [e (60700 + 60 * w + p) (by omega), e (84700 + 60 * w + p) (by omega)]; exact q.1 p p0 p1
    · rw [sI_c (g := fun p => a (60700 + 60 * w + p)) (fun p p0 p1 => e _ (by omega))]; exact q.2.1
    · rw [e (111900 + w) (by omega)]; exact q.2.2.1
    · rw [e (22300 + 24 * w + x) (by omega), e (31900 + 24 * w + x) (by omega), e (41500 + 24 * w + x) (by omega), e (51100 + 24 * w + x) (by omega)]
      exact q.2.2.2.1 x x0 x1
    · rw [e (108700 + 8 * w + m) (by omega)]; exact q.2.2.2.2 m m0 m1
  · rw [h.2]
    exact sI_c (fun k k0 k1 => (e _ (by omega)).symm)
theorem BX_x {S : zS} {σ : zI} (e : eT a a') (hC : jv_C a) (h : BX S σ a) : BX S σ a' := by
  unfold jv_C at hC
  refine ⟨h.1, fun w w0 w1 => ?_⟩
  rw [e 0 (by omega)] at w1
  obtain ⟨y, q1, q2, k1, k2, k3, k4, k5⟩ := h.2 w w0 w1
  refine ⟨y, q1, q2, fun p p0 p1 => ?_, fun m m0 m1 => ?_, fun x x0 x1 => ?_, ?_, ?_⟩
  · rw [e (60700 + 60 * w + p) (by omega), e (84700 + 60 * w + p) (by omega)]; exact k1 p p0 p1
  · rw [e (108700 + 8 * w + m) (by omega)]; exact k2 m m0 m1
  · rw [e (22300 + 24 * w + x) (by omega), e (31900 + 24 * w + x) (by omega), e (41500 + 24 * w + x) (by omega), e (51100 + 24 * w + x) (by omega)]
    exact k3 x x0 x1
  · rw [k4]
    exact sI_c (fun x x0 x1 => (e _ (by omega)).symm)
  · rw [e (111900 + w) (by omega)]; exact k5
/-- COINS that there can be, with HOMES to come -/
def PB (a : Int → Int) : Int := PT a + 10000 * (24 - a 3)
theorem PB_v (e : eV a a') (hC : jv_C a) : PB a' = PB a := by
  unfold jv_C at hC
  unfold PB PT
  rw [e 8 (by omega), e 3 (by omega), e 7 (by omega), e 0 (by omega), sI_c (f := fun x => a' (3460 + 8 * x + 1)) (g := fun x => a (3460 + 8 * x + 1)) (fun x x0 x1 => e _ (by omega)), sI_c (f := fun x => a' (4372 + 8 * x + 1)) (g := fun x => a (4372 + 8 * x + 1)) (fun x x0 x1 => e _ (by omega))]
theorem WP_v (h : WP a) (J : Jv a' ∧ jv_Z a') (e : eV a a') : WP a' ∧ PB a' = PB a := by
  obtain ⟨h1, h2, h3, h4, h5, h6⟩ := h
  exact ⟨⟨J.1, jT_x (eV_T e) (jC h1) h2, jE_x (eV_T e) (jC h1) h2 h3, jU_v e (jC h1) h4, jB_x (eV_T e) (jC h1) h5, J.2⟩, PB_v e (jC h1)⟩
theorem Jv_A (e : eA a a') (h : Jv a) (z : jv_Z a) : Jv a' ∧ jv_Z a' := by
  have hc := jC h
  unfold jv_C at hc
  have n : ∀ k, 0 ≤ k → k < 112300 → a' k = a k := e
  refine ⟨⟨hC (fun k _ _ => n k (by omega) (by omega)) (jC h), hS (fun k _ _ => n k (by omega) (by omega)) (jS h), hK (fun k _ _ => n k (by omega) (by omega)) (jK h), hW (fun k _ _ => n k (by omega) (by omega)) (fun k _ _ => n k (by omega) (by omega)) (jW h), hM (n 1 (by omega) (by omega)) (by rw [n 7 (by omega) (by omega)]; omega) (fun k _ _ => n k (by omega) (by omega)) (jM h), hQ (n 2 (by omega) (by omega)) (fun k _ _ => n k (by omega) (by omega)) (jQ h), hH (by rw [n 2 (by omega) (by omega)]; omega) (n 3 (by omega) (by omega)) (fun k _ _ => n k (by omega) (by omega)) (jH h), hP (by rw [n 1 (by omega) (by omega)]; omega) (by rw [n 3 (by omega) (by omega)]; omega) (n 4 (by omega) (by omega)) (fun k _ _ => n k (by omega) (by omega)) (fun k _ _ => n k (by omega) (by omega)) (jP h), hO (n 7 (by omega) (by omega)) (fun k _ _ => n k (by omega) (by omega)) (fun k _ _ => n k (by omega) (by omega)) (jO h), hF (by rw [n 5 (by omega) (by omega)]; omega) (n 6 (by omega) (by omega)) (fun k _ _ => n k (by omega) (by omega)) (jF h)⟩, ?_⟩
  exact hZ (n1 := a 1) (n2 := a 2) (n3 := a 3) (n4 := a 4) z (n 0 (by omega) (by omega)) (n 1 (by omega) (by omega)) (n 2 (by omega) (by omega)) (n 3 (by omega) (by omega)) (n 4 (by omega) (by omega)) (by omega) (by omega) (by omega) (by omega) (fun k _ _ => n k (by omega) (by omega)) (fun k _ _ => n k (by omega) (by omega)) (fun k _ _ => n k (by omega) (by omega)) (fun k _ _ => n k (by omega) (by omega)) (fun k _ _ => n k (by omega) (by omega))
theorem WP_A (e : eA a a') (h : WP a) : WP a' ∧ PB a' = PB a := WP_v h (Jv_A e h.1 h.2.2.2.2.2) (eA_V e)
theorem RT_A {σ : zI} {t : Nat} (e : eA a a') (hC : jv_C a) (h : RT σ t a) : RT σ t a' := by
  unfold jv_C at hC
  have n : ∀ k, 0 ≤ k → k < 112300 → a' k = a k := e
  exact ⟨gS rfl (fun k _ _ => n k (by omega) (by omega)) (tS h), gK rfl rfl (fun k _ _ => n k (by omega) (by omega)) (tK h), gW rfl rfl (fun k _ _ => n k (by omega) (by omega)) (fun k _ _ => n k (by omega) (by omega)) (tW h), gM rfl rfl (n 1 (by omega) (by omega)) (fun k _ _ => n k (by omega) (by omega)) (tM h), gQ rfl rfl (n 2 (by omega) (by omega)) (n 3 (by omega) (by omega)) (fun k _ _ => n k (by omega) (by omega)) (fun k _ _ => n k (by omega) (by omega)) (tQ h), gH rfl rfl (n 0 (by omega) (by omega)) (n 3 (by omega) (by omega)) (n 4 (by omega) (by omega)) (fun k _ _ => n k (by omega) (by omega)) (fun k _ _ => n k (by omega) (by omega)) (fun k _ _ => n k (by omega) (by omega)) (by omega) (tH h), gP rfl rfl (n 4 (by omega) (by omega)) (fun k _ _ => n k (by omega) (by omega)) (tP h), gO rfl rfl (n 7 (by omega) (by omega)) (fun k _ _ => n k (by omega) (by omega)) (tO h), gF rfl rfl (n 6 (by omega) (by omega)) (fun k _ _ => n k (by omega) (by omega)) (tF h)⟩
theorem w_kind {k picks width yarn hard extras : Int} (h : WP a) : (WP (r_kind a k picks width yarn hard extras) ∧ PB (r_kind a k picks width yarn hard extras) = PB a) ∧ eT a (r_kind a k picks width yarn hard extras) ∧ r_kind a k picks width yarn hard extras 6 = a 6 := by
  have hc := jC h.1
  unfold jv_C at hc
  have e : eV a (r_kind a k picks width yarn hard extras) ∧ r_kind a k picks width yarn hard extras 6 = a 6 := by
    unfold r_kind
    by_cases hk : k_kind a k picks width yarn hard extras
    · rw [if_pos hk]
      simp only [k_kind] at hk
      exact ⟨fun k _ => by simp (disch := omega) only [u1_n], by simp (disch := omega) only [u1_n]⟩
    · rw [if_neg hk]
      exact ⟨fun _ _ => rfl, rfl⟩
  exact ⟨WP_v h (j_kind h.1 h.2.2.2.2.2) e.1, eV_T e.1, e.2⟩
theorem w_price {what week v : Int} (h : WP a) : (WP (r_price a what week v) ∧ PB (r_price a what week v) = PB a) ∧ eT a (r_price a what week v) ∧ r_price a what week v 6 = a 6 := by
  have hc := jC h.1
  unfold jv_C at hc
  have e : eV a (r_price a what week v) ∧ r_price a what week v 6 = a 6 := by
    unfold r_price
    by_cases hk : k_price a what week v
    · rw [if_pos hk]
      simp only [k_price] at hk
      exact ⟨fun k _ => by simp (disch := omega) only [u1_n], by simp (disch := omega) only [u1_n]⟩
    · rw [if_neg hk]
      exact ⟨fun _ _ => rfl, rfl⟩
  exact ⟨WP_v h (j_price h.1 h.2.2.2.2.2) e.1, eV_T e.1, e.2⟩
theorem w_mean {what v : Int} (h : WP a) : (WP (r_mean a what v) ∧ PB (r_mean a what v) = PB a) ∧ eT a (r_mean a what v) ∧ r_mean a what v 6 = a 6 := by
  have hc := jC h.1
  unfold jv_C at hc
  have e : eV a (r_mean a what v) ∧ r_mean a what v 6 = a 6 := by
    unfold r_mean
    by_cases hk : k_mean a what v
    · rw [if_pos hk]
      simp only [k_mean] at hk
      exact ⟨fun k _ => by simp (disch := omega) only [u1_n], by simp (disch := omega) only [u1_n]⟩
    · rw [if_neg hk]
      exact ⟨fun _ _ => rfl, rfl⟩
  exact ⟨WP_v h (j_mean h.1 h.2.2.2.2.2) e.1, eV_T e.1, e.2⟩
theorem w_mill {looms speed coins least : Int} (h : WP a) : (WP (r_mill a looms speed coins least) ∧ PB (r_mill a looms speed coins least) = PB a) ∧ eT a (r_mill a looms speed coins least) ∧ r_mill a looms speed coins least 6 = a 6 := by
  have hc := jC h.1
  unfold jv_C at hc
  have e : eV a (r_mill a looms speed coins least) ∧ r_mill a looms speed coins least 6 = a 6 := by
    unfold r_mill
    by_cases hk : k_mill a looms speed coins least
    · rw [if_pos hk]
      simp only [k_mill] at hk
      exact ⟨fun k _ => by simp (disch := omega) only [u1_n], by simp (disch := omega) only [u1_n]⟩
    · rw [if_neg hk]
      exact ⟨fun _ _ => rfl, rfl⟩
  exact ⟨WP_v h (j_mill h.1 h.2.2.2.2.2) e.1, eV_T e.1, e.2⟩
theorem w_person {home age skill : Int} (h : WP a) : (WP (r_person a home age skill) ∧ PB (r_person a home age skill) = PB a) ∧ eT a (r_person a home age skill) ∧ r_person a home age skill 6 = a 6 := by
  have hc := jC h.1
  unfold jv_C at hc
  have e : eV a (r_person a home age skill) ∧ r_person a home age skill 6 = a 6 := by
    unfold r_person
    by_cases hk : k_person a home age skill
    · rw [if_pos hk]
      simp only [k_person] at hk
      exact ⟨fun k _ => by simp (disch := omega) only [u1_n], by simp (disch := omega) only [u1_n]⟩
    · rw [if_neg hk]
      exact ⟨fun _ _ => rfl, rfl⟩
  exact ⟨WP_v h (j_person h.1 h.2.2.2.2.2) e.1, eV_T e.1, e.2⟩
theorem w_terms {rail dear : Int} (h : WP a) : (WP (r_terms a rail dear) ∧ PB (r_terms a rail dear) = PB a) ∧ eT a (r_terms a rail dear) ∧ r_terms a rail dear 6 = a 6 := by
  have hc := jC h.1
  unfold jv_C at hc
  have e : eV a (r_terms a rail dear) ∧ r_terms a rail dear 6 = a 6 := by
    unfold r_terms
    by_cases hk : k_terms a rail dear
    · rw [if_pos hk]
      simp only [k_terms] at hk
      exact ⟨fun k _ => by simp (disch := omega) only [u1_n], by simp (disch := omega) only [u1_n]⟩
    · rw [if_neg hk]
      exact ⟨fun _ _ => rfl, rfl⟩
  exact ⟨WP_v h (j_terms h.1 h.2.2.2.2.2) e.1, eV_T e.1, e.2⟩
theorem w_offer {side v : Int} (h : WP a) : (WP (r_offer a side v) ∧ PB (r_offer a side v) = PB a) ∧ eT a (r_offer a side v) ∧ r_offer a side v 6 = a 6 := by
  have hc := jC h.1
  unfold jv_C at hc
  have e : eV a (r_offer a side v) ∧ r_offer a side v 6 = a 6 := by
    unfold r_offer
    by_cases hk : k_offer a side v
    · rw [if_pos hk]
      simp only [k_offer] at hk
      exact ⟨fun k _ => by simp (disch := omega) only [u1_n], by simp (disch := omega) only [u1_n]⟩
    · rw [if_neg hk]
      exact ⟨fun _ _ => rfl, rfl⟩
  exact ⟨WP_v h (j_offer h.1 h.2.2.2.2.2) e.1, eV_T e.1, e.2⟩
theorem w_wish {kind v : Int} (h : WP a) : (WP (r_wish a kind v) ∧ PB (r_wish a kind v) = PB a) ∧ eT a (r_wish a kind v) ∧ r_wish a kind v 6 = a 6 := by
  have hc := jC h.1
  unfold jv_C at hc
  have e : eV a (r_wish a kind v) ∧ r_wish a kind v 6 = a 6 := by
    unfold r_wish
    by_cases hk : k_wish a kind v
    · rw [if_pos hk]
      simp only [k_wish] at hk
      exact ⟨fun k _ => by simp (disch := omega) only [u1_n], by simp (disch := omega) only [u1_n]⟩
    · rw [if_neg hk]
      exact ⟨fun _ _ => rfl, rfl⟩
  exact ⟨WP_v h (j_wish h.1 h.2.2.2.2.2) e.1, eV_T e.1, e.2⟩
theorem w_strike {mill on : Int} (h : WP a) (ho : on = 0 ∨ on = 1) : (WP (r_strike a mill on) ∧ PB (r_strike a mill on) = PB a) ∧ eT a (r_strike a mill on) ∧ r_strike a mill on 6 = a 6 := by
  have hc := jC h.1
  unfold jv_C at hc
  have e : eV a (r_strike a mill on) ∧ r_strike a mill on 6 = a 6 := by
    unfold r_strike
    by_cases hk : k_strike a mill on
    · rw [if_pos hk]
      simp only [k_strike] at hk
      exact ⟨fun k _ => by simp (disch := omega) only [u1_n], by simp (disch := omega) only [u1_n]⟩
    · rw [if_neg hk]
      exact ⟨fun _ _ => rfl, rfl⟩
  exact ⟨WP_v h (j_strike h.1 h.2.2.2.2.2 ho) e.1, eV_T e.1, e.2⟩
theorem w_meet (h : WP a) : (WP (r_meet a) ∧ PB (r_meet a) = PB a) ∧ eT a (r_meet a) ∧ r_meet a 6 = a 6 := by
  have hc := jC h.1
  unfold jv_C at hc
  have e : eV a (r_meet a) ∧ r_meet a 6 = a 6 := by
    unfold r_meet
    by_cases hk : k_meet a
    · rw [if_pos hk]
      simp only [k_meet] at hk
      exact ⟨fun k _ => by simp (disch := omega) only [u1_n], by simp (disch := omega) only [u1_n]⟩
    · rw [if_neg hk]
      exact ⟨fun _ _ => rfl, rfl⟩
  exact ⟨WP_v h (j_meet h.1 h.2.2.2.2.2) e.1, eV_T e.1, e.2⟩
theorem w_work {p s w n : Int} (h : WP a) : (WP (r_work a p s w n) ∧ PB (r_work a p s w n) = PB a) ∧ eT a (r_work a p s w n) ∧ r_work a p s w n 6 = a 6 := by
  have hc := jC h.1
  unfold jv_C at hc
  have e : ∀ k, k < 3652 ∨ 4372 ≤ k → r_work a p s w n k = a k := fun k hk2 => by
    unfold r_work
    by_cases hk : k_work a p s w n
    · have hp := hk.1
      rw [if_pos hk]
      split
      · exact r_endW_n hp (by omega)
      · rw [u1_n (by omega), u1_n (by omega), u1_n (by omega), u1_n (by omega)]
        exact r_endW_n hp (by omega)
    · rw [if_neg hk]
  exact ⟨WP_v h (j_work h.1 h.2.2.2.2.2) (fun k hk => e k (by omega)), fun k hk => e k (by omega), e 6 (by omega)⟩
theorem w_put {text mill from_ to : Int} (h : WP a) (h6 : a 6 ≤ 60) (ht : 0 ≤ text ∧ text < a 5) (hm : -1 ≤ mill ∧ mill ≤ 7) (hf : 0 ≤ from_ ∧ from_ ≤ 399) (ho : 0 ≤ to ∧ to ≤ 399) (h0 : a 0 ≤ 399) : (WP (r_put a text mill from_ to) ∧ PB (r_put a text mill from_ to) = PB a) ∧ eT a (r_put a text mill from_ to) := by
  have hc := jC h.1
  unfold jv_C at hc
  have e : eV a (r_put a text mill from_ to) := by
    unfold r_put
    exact fun k _ => by simp (disch := omega) only [u1_n]
  exact ⟨WP_v h (j_put h.1 h.2.2.2.2.2 h6 ht hm hf ho h0) e, eV_T e⟩
theorem w_force {text mill from_ to : Int} (h : WP a) (h6 : a 6 ≤ 60) : (WP (r_force a text mill from_ to) ∧ PB (r_force a text mill from_ to) = PB a) ∧ eT a (r_force a text mill from_ to) ∧ r_force a text mill from_ to 6 ≤ 60 := by
  have hc := jC h.1
  unfold jv_C at hc
  unfold r_force
  by_cases hk : k_force a text mill from_ to
  · rw [if_pos hk]
    simp only [k_force] at hk
    have w := w_put (text := text) (mill := mill) (from_ := from_) (to := to) h h6 (by omega) (by omega) (by omega) (by omega) (by omega)
    refine ⟨w.1, w.2, ?_⟩
    unfold r_put
    rw [u1_s]; omega
  · rw [if_neg hk]
    exact ⟨⟨h, rfl⟩, fun _ _ => rfl, h6⟩
theorem jU_w (e : ∀ k, k = 2 ∨ k = 3 ∨ k = 8 ∨ 3428 ≤ k ∧ k < 3652 → a' k = a k) (hC : jv_C a) (h : jv_U a) : jv_U a' := by
  unfold jv_C at hC
  refine ⟨by rw [e 8 (by omega)]; exact h.1, fun x x0 x1 => ?_, fun s s0 s1 => ?_⟩
  · rw [e 3 (by omega)] at x1
    rw [e (3460 + 8 * x + 1) (by omega)]; exact h.2.1 x x0 x1
  · rw [e 2 (by omega)] at s1
    rw [e (3428 + 8 * s) (by omega), e (3428 + 8 * s + 3) (by omega), gD (e 3 (by omega)) (fun k k0 k1 => e k (by omega)) s]
    exact h.2.2 s s0 s1
theorem PB_8 (h : Jv a) : a 8 ≤ PB a := by
  have hc := jC h
  unfold jv_C at hc
  have s1 := sI_p0 (f := fun x => a (3460 + 8 * x + 1)) (n := a 3) (by omega) (fun x x0 x1 => (jH h x x0 x1).2.1)
  have s2 := sI_p0 (f := fun o => a (4372 + 8 * o + 1)) (n := a 7) (by omega) (fun o o0 o1 => ((jO h).1 o o0 o1).2.1.1)
  unfold PB PT
  omega
theorem w_fund {more levy relief : Int} (h : WP a) (hP : PB a ≤ 599000000) : (WP (r_fund a more levy relief) ∧ PB (r_fund a more levy relief) ≤ PB a + 100000) ∧ eT a (r_fund a more levy relief) ∧ r_fund a more levy relief 6 = a 6 := by
  have hc := jC h.1
  unfold jv_C at hc
  have J := j_fund (more := more) (levy := levy) (relief := relief) h.1 h.2.2.2.2.2
  have U := h.2.2.2.1
  have p8 := PB_8 h.1
  unfold r_fund at J ⊢
  by_cases hk : k_fund more levy relief
  · rw [if_pos hk] at J ⊢
    simp only [k_fund] at hk
    have z : zw (a 8 + more) = a 8 + more := zw_of ⟨by have := U.1.1; omega, by omega⟩
    rw [z] at J ⊢
    have e : ∀ k, k ≠ 8 → k ≠ 9 → k ≠ 10 → u1 (u1 (u1 a 8 (a 8 + more)) 9 levy) 10 relief k = a k := fun k h1 h2 h3 => by rw [u1_n h3, u1_n h2, u1_n h1]
    have e8 : u1 (u1 (u1 a 8 (a 8 + more)) 9 levy) 10 relief 8 = a 8 + more := by rw [u1_n (by omega), u1_n (by omega), u1_s]
    have t : eT a (u1 (u1 (u1 a 8 (a 8 + more)) 9 levy) 10 relief) := fun k hk => e k (by omega) (by omega) (by omega)
    refine ⟨⟨⟨J.1, jT_x t (jC h.1) h.2.1, jE_x t (jC h.1) h.2.1 h.2.2.1, ⟨by rw [e8]; have := U.1.1; omega, fun x x0 x1 => ?_, fun s s0 s1 => ?_⟩, jB_x t (jC h.1) h.2.2.2.2.1, J.2⟩, ?_⟩, t, e 6 (by omega) (by omega) (by omega)⟩
    · rw [e 3 (by omega) (by omega) (by omega)] at x1
      rw [e (3460 + 8 * x + 1) (by omega) (by omega) (by omega)]; exact U.2.1 x x0 x1
    · rw [e 2 (by omega) (by omega) (by omega)] at s1
      rw [e (3428 + 8 * s) (by omega) (by omega) (by omega), e (3428 + 8 * s + 3) (by omega) (by omega) (by omega), gD (e 3 (by omega) (by omega) (by omega)) (fun k k0 k1 => e k (by omega) (by omega) (by omega)) s]
      exact U.2.2 s s0 s1
    · unfold PB PT
      rw [e8, e 3 (by omega) (by omega) (by omega), e 7 (by omega) (by omega) (by omega), e 0 (by omega) (by omega) (by omega), sI_c (f := fun x => u1 (u1 (u1 a 8 (a 8 + more)) 9 levy) 10 relief (3460 + 8 * x + 1)) (g := fun x => a (3460 + 8 * x + 1)) (fun x x0 x1 => e _ (by omega) (by omega) (by omega)), sI_c (f := fun x => u1 (u1 (u1 a 8 (a 8 + more)) 9 levy) 10 relief (4372 + 8 * x + 1)) (g := fun x => a (4372 + 8 * x + 1)) (fun x x0 x1 => e _ (by omega) (by omega) (by omega))]
      omega
  · rw [if_neg hk] at J ⊢
    exact ⟨⟨h, by omega⟩, fun _ _ => rfl, rfl⟩
theorem w_order {kind pieces price from_ to : Int} (h : WP a) : (WP (r_order a kind pieces price from_ to) ∧ PB (r_order a kind pieces price from_ to) ≤ PB a) ∧ eT a (r_order a kind pieces price from_ to) ∧ r_order a kind pieces price from_ to 6 = a 6 := by
  have hc := jC h.1
  unfold jv_C at hc
  have J := j_order (kind := kind) (pieces := pieces) (price := price) (from_ := from_) (to := to) h.1 h.2.2.2.2.2
  unfold r_order at J ⊢
  by_cases hk : k_order a kind pieces price from_ to
  · rw [if_pos hk] at J ⊢
    simp only [k_order] at hk
    obtain ⟨b, hb⟩ : ∃ b, b = u1 (u1 (u1 (u1 (u1 (u1 (u1 a (4372 + 8 * a 7) (kind)) (4372 + 8 * a 7 + 1) (pieces)) (4372 + 8 * a 7 + 2) (price)) (4372 + 8 * a 7 + 3) (from_)) (4372 + 8 * a 7 + 4) (to)) (20 + 8 * kind + 7) (1)) (7) (a 7 + 1) := ⟨_, rfl⟩
    rw [← hb] at J ⊢
    have e : ∀ k, k ≠ 7 → k < 20 ∨ 68 ≤ k → k < 4372 + 8 * a 7 ∨ 4372 + 8 * a 7 + 4 < k → b k = a k := fun k h1 h2 h3 => by rw [hb]; simp (disch := omega) only [u1_n]
    have e7 : b 7 = a 7 + 1 := by rw [hb, u1_s]
    have e1 : b (4372 + 8 * a 7 + 1) = pieces := by rw [hb]; simp (disch := omega) only [u1_n, u1_s]
    have t : eT a b := fun k hk2 => e k (by omega) (by omega) (by omega)
    refine ⟨⟨⟨J.1, jT_x t (jC h.1) h.2.1, jE_x t (jC h.1) h.2.1 h.2.2.1, jU_w (fun k hk2 => e k (by omega) (by omega) (by omega)) (jC h.1) h.2.2.2.1, jB_x t (jC h.1) h.2.2.2.2.1, J.2⟩, ?_⟩, t, e 6 (by omega) (by omega) (by omega)⟩
    unfold PB PT
    rw [e7, e 8 (by omega) (by omega) (by omega), e 3 (by omega) (by omega) (by omega), e 0 (by omega) (by omega) (by omega), sI_s (by omega), sI_c (f := fun x => b (3460 + 8 * x + 1)) (g := fun x => a (3460 + 8 * x + 1)) (fun x x0 x1 => e _ (by omega) (by omega) (by omega)), sI_c (f := fun x => b (4372 + 8 * x + 1)) (g := fun x => a (4372 + 8 * x + 1)) (fun x x0 x1 => e _ (by omega) (by omega) (by omega)), e1]
    omega
  · rw [if_neg hk] at J ⊢
    exact ⟨⟨h, by omega⟩, fun _ _ => rfl, rfl⟩
theorem w_home {shop coins : Int} (h : WP a) : (WP (r_home a shop coins) ∧ PB (r_home a shop coins) ≤ PB a) ∧ eT a (r_home a shop coins) ∧ r_home a shop coins 6 = a 6 := by
  have hc := jC h.1
  unfold jv_C at hc
  have J := j_home (shop := shop) (coins := coins) h.1 h.2.2.2.2.2
  have U := h.2.2.2.1
  have z := h.2.2.2.2.2.2.2.1
  unfold r_home at J ⊢
  by_cases hk : k_home a shop coins
  · rw [if_pos hk] at J ⊢
    simp only [k_home] at hk
    obtain ⟨b, hb⟩ : ∃ b, b = u1 (u1 (u1 a (3460 + 8 * a 3 + 0) (shop)) (3460 + 8 * a 3 + 1) (coins)) (3) (a 3 + 1) := ⟨_, rfl⟩
    rw [← hb] at J ⊢
    have e : ∀ k, k ≠ 3 → k < 3460 + 8 * a 3 ∨ 3460 + 8 * a 3 + 1 < k → b k = a k := fun k h1 h3 => by rw [hb]; simp (disch := omega) only [u1_n]
    have e3 : b 3 = a 3 + 1 := by rw [hb, u1_s]
    have e1 : b (3460 + 8 * a 3 + 1) = coins := by rw [hb]; simp (disch := omega) only [u1_n, u1_s]
    have t : eT a b := fun k hk2 => e k (by omega) (by omega)
    have d : ∀ s, r_debts b s = r_debts a s := fun s => by
      have z2 := (z (a 3) (by omega) (by omega)).1
      unfold r_debts
      rw [e3, sI_s (by omega), e (3460 + 8 * a 3 + 2) (by omega) (by omega), z2, sI_c (g := fun x => if a (3460 + 8 * x + 0) = s then a (3460 + 8 * x + 2) else 0) (fun x x0 x1 => by rw [e (3460 + 8 * x + 0) (by omega) (by omega), e (3460 + 8 * x + 2) (by omega) (by omega)])]
      split <;> omega
    refine ⟨⟨⟨J.1, jT_x t (jC h.1) h.2.1, jE_x t (jC h.1) h.2.1 h.2.2.1, ⟨by rw [e 8 (by omega) (by omega)]; exact U.1, fun x x0 x1 => ?_, fun s s0 s1 => ?_⟩, jB_x t (jC h.1) h.2.2.2.2.1, J.2⟩, ?_⟩, t, e 6 (by omega) (by omega)⟩
    · rw [e3] at x1
      by_cases ex : x = a 3
      · subst ex; rw [e1]; omega
      · rw [e (3460 + 8 * x + 1) (by omega) (by omega)]; exact U.2.1 x x0 (by omega)
    · rw [e 2 (by omega) (by omega)] at s1
      rw [e (3428 + 8 * s) (by omega) (by omega), e (3428 + 8 * s + 3) (by omega) (by omega), d s]
      exact U.2.2 s s0 s1
    · unfold PB PT
      rw [e3, e 8 (by omega) (by omega), e 7 (by omega) (by omega), e 0 (by omega) (by omega), sI_s (by omega), sI_c (f := fun x => b (3460 + 8 * x + 1)) (g := fun x => a (3460 + 8 * x + 1)) (fun x x0 x1 => e _ (by omega) (by omega)), sI_c (f := fun x => b (4372 + 8 * x + 1)) (g := fun x => a (4372 + 8 * x + 1)) (fun x x0 x1 => e _ (by omega) (by omega)), e1]
      omega
  · rw [if_neg hk] at J ⊢
    exact ⟨⟨h, by omega⟩, fun _ _ => rfl, rfl⟩
theorem w_shop {coins trust rent : Int} (h : WP a) : (WP (r_shop a coins trust rent) ∧ PB (r_shop a coins trust rent) = PB a) ∧ eT a (r_shop a coins trust rent) ∧ r_shop a coins trust rent 6 = a 6 := by
  have hc := jC h.1
  unfold jv_C at hc
  have J := j_shop (coins := coins) (trust := trust) (rent := rent) h.1 h.2.2.2.2.2
  have U := h.2.2.2.1
  have z := h.2.2.2.2.2.2.1
  unfold r_shop at J ⊢
  by_cases hk : k_shop a coins trust rent
  · rw [if_pos hk] at J ⊢
    simp only [k_shop] at hk
    obtain ⟨b, hb⟩ : ∃ b, b = u1 (u1 (u1 (u1 a (3428 + 8 * a 2) (coins)) (3428 + 8 * a 2 + 1) (trust)) (3428 + 8 * a 2 + 2) (rent)) (2) (a 2 + 1) := ⟨_, rfl⟩
    rw [← hb] at J ⊢
    have e : ∀ k, k ≠ 2 → k < 3428 + 8 * a 2 ∨ 3428 + 8 * a 2 + 2 < k → b k = a k := fun k h1 h3 => by rw [hb]; simp (disch := omega) only [u1_n]
    have e2 : b 2 = a 2 + 1 := by rw [hb, u1_s]
    have e1 : b (3428 + 8 * a 2) = coins := by rw [hb]; simp (disch := omega) only [u1_n, u1_s]
    have t : eT a b := fun k hk2 => e k (by omega) (by omega)
    have d : ∀ s, r_debts b s = r_debts a s := fun s => gD (e 3 (by omega) (by omega)) (fun k k0 k1 => e k (by omega) (by omega)) s
    refine ⟨⟨⟨J.1, jT_x t (jC h.1) h.2.1, jE_x t (jC h.1) h.2.1 h.2.2.1, ⟨by rw [e 8 (by omega) (by omega)]; exact U.1, fun x x0 x1 => ?_, fun s s0 s1 => ?_⟩, jB_x t (jC h.1) h.2.2.2.2.1, J.2⟩, ?_⟩, t, e 6 (by omega) (by omega)⟩
    · rw [e 3 (by omega) (by omega)] at x1
      rw [e (3460 + 8 * x + 1) (by omega) (by omega)]; exact U.2.1 x x0 x1
    · rw [e2] at s1
      rw [d s]
      by_cases es : s = a 2
      · subst es
        have d0 : r_debts a (a 2) = 0 := by
          unfold r_debts
          rw [sI_c (g := fun _ => 0) (fun x x0 x1 => if_neg (fun q => by have := (jH h.1 x x0 x1).1.2; omega)), sI_z]
        rw [e1, d0]; omega
      · rw [e (3428 + 8 * s) (by omega) (by omega), e (3428 + 8 * s + 3) (by omega) (by omega)]
        exact U.2.2 s s0 (by omega)
    · unfold PB PT
      rw [e 3 (by omega) (by omega), e 8 (by omega) (by omega), e 7 (by omega) (by omega), e 0 (by omega) (by omega), sI_c (f := fun x => b (3460 + 8 * x + 1)) (g := fun x => a (3460 + 8 * x + 1)) (fun x x0 x1 => e _ (by omega) (by omega)), sI_c (f := fun x => b (4372 + 8 * x + 1)) (g := fun x => a (4372 + 8 * x + 1)) (fun x x0 x1 => e _ (by omega) (by omega))]
  · rw [if_neg hk] at J ⊢
    exact ⟨⟨h, rfl⟩, fun _ _ => rfl, rfl⟩
theorem w_wks {n : Int} (h : WP a) (hP : PB a ≤ 600000000) (h6 : a 6 ≤ 60) : (WP (r_wks a n) ∧ PB (r_wks a n) ≤ PB a) ∧ a 0 ≤ r_wks a n 0 ∧ r_wks a n 5 = a 5 ∧ r_wks a n 6 = a 6 := by
  have hc := jC h.1
  unfold jv_C at hc
  have pt : PT a ≤ 600000000 := by unfold PB at hP; omega
  unfold r_wks
  by_cases hk : k_wks a n
  · rw [if_pos hk]
    have w := WP_ws h pt n (by omega) hk.2
    have e3 : ∀ m : Nat, a 0 + (m : Int) ≤ 400 → r_ws a m 3 = a 3 := by
      intro m
      induction m with
      | zero => intro _; rfl
      | succ m ih =>
        intro hm
        have i := WP_ws h pt m (by omega) (by omega)
        rw [show ((m + 1 : Nat) : Int) = (m : Int) + 1 by omega, r_ws_s (by omega), (rW_c i.1 (by omega)).2.2.1]
        exact ih (by omega)
    have e3 := e3 n.toNat (by omega)
    rw [Int.toNat_of_nonneg (by omega)] at e3
    refine ⟨⟨w.1, ?_⟩, by omega, w.2.2.2 5 (by omega), w.2.2.2 6 (by omega)⟩
    unfold PB
    rw [e3]; omega
  · rw [if_neg hk]
    exact ⟨⟨h, by omega⟩, by omega, rfl, rfl⟩
end XX
