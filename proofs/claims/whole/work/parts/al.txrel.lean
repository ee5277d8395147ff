/-! ===== a TEXT told: what stays and what is new (segments printed by wip/whole, contracts own work) ===== -/
/-- all the same but the TEXTS to come -/
def eN (a a' : Int → Int) : Prop := ∀ k, 0 ≤ k → k < 112300 → k ≠ 5 → (k < 5500 + 840 * a 5 ∨ 22300 ≤ k) → a' k = a k
/-- a TEXT more, of that code -/
def nT (a a' : Int → Int) (L : List (Int × Int)) : Prop := a' 5 = a 5 + 1 ∧ (0 ≤ a' (5500 + 840 * a 5) ∧ a' (5500 + 840 * a 5) ≤ 24) ∧ (∀ c, 0 ≤ c → c < a' (5500 + 840 * a 5) → JC a' (5500 + 840 * a 5 + 1 + 8 * c) L) ∧ WRL a' (5500 + 840 * a 5 + 200) 0 L ∧ (L.length : Int) ≤ 300
section WNX
variable {a a' : Int → Int}
theorem wn_J (e : eN a a') (h : WP a) (h5 : a 5 ≤ a' 5 ∧ a' 5 ≤ 20) : (Jv a' ∧ jv_Z a') ∧ jv_U a' ∧ jv_B a' ∧ PB a' = PB a := by
  obtain ⟨h1, h2, h3, h4, h5', h6⟩ := h
  have hc := jC h1
  have hc' := hc
  unfold jv_C at hc
  have n : ∀ k, 0 ≤ k → k < 5500 → k ≠ 5 → a' k = a k := fun k k0 k1 k2 => e k k0 (by omega) k2 (by omega)
  have n2 : ∀ k, 22300 ≤ k → k < 112300 → a' k = a k := fun k k0 k1 => e k (by omega) k1 (by omega) (by omega)
  have n0 := n 0 (by omega) (by omega) (by omega)
  have n1 := n 1 (by omega) (by omega) (by omega)
  have n_2 := n 2 (by omega) (by omega) (by omega)
  have n3 := n 3 (by omega) (by omega) (by omega)
  have n4 := n 4 (by omega) (by omega) (by omega)
  have n6 := n 6 (by omega) (by omega) (by omega)
  have n7 := n 7 (by omega) (by omega) (by omega)
  refine ⟨⟨⟨?_, ?_, hK (fun k _ _ => n k (by omega) (by omega) (by omega)) (jK h1), hW (fun k _ _ => n k (by omega) (by omega) (by omega)) (fun k _ _ => n k (by omega) (by omega) (by omega)) (jW h1), hM n1 (by omega) (fun k _ _ => n k (by omega) (by omega) (by omega)) (jM h1), hQ n_2 (fun k _ _ => n k (by omega) (by omega) (by omega)) (jQ h1), hH (by omega) n3 (fun k _ _ => n k (by omega) (by omega) (by omega)) (jH h1), hP (by omega) (by omega) n4 (fun k _ _ => n k (by omega) (by omega) (by omega)) (fun k _ _ => n k (by omega) (by omega) (by omega)) (jP h1), hO n7 (fun k _ _ => n k (by omega) (by omega) (by omega)) (fun k _ _ => n k (by omega) (by omega) (by omega)) (jO h1), hF (by omega) n6 (fun k _ _ => n k (by omega) (by omega) (by omega)) (jF h1)⟩, ?_⟩, ?_, ?_, ?_⟩
  · unfold jv_C
    rw [n0, n1, n_2, n3, n4, n6, n7]
    omega
  · have q := jS h1
    unfold jv_S at q ⊢
    rw [n 9 (by omega) (by omega) (by omega), n 10 (by omega) (by omega) (by omega), n 11 (by omega) (by omega) (by omega), n 12 (by omega) (by omega) (by omega), n 13 (by omega) (by omega) (by omega), n 14 (by omega) (by omega) (by omega)]
    exact q
  · exact hZ (n1 := a 1) (n2 := a 2) (n3 := a 3) (n4 := a 4) h6 n0 n1 n_2 n3 n4 (by omega) (by omega) (by omega) (by omega) (fun k _ _ => n k (by omega) (by omega) (by omega)) (fun k _ _ => n k (by omega) (by omega) (by omega)) (fun k _ _ => n k (by omega) (by omega) (by omega)) (fun k _ _ => n k (by omega) (by omega) (by omega)) (fun k _ _ => n2 k (by omega) (by omega))
  · exact jU_w (fun k hk => n k (by omega) (by omega) (by omega)) hc' h4
  · unfold jv_B
    rw [n0, n 15 (by omega) (by omega) (by omega)]
    refine ⟨fun w w0 w1 => ?_, ?_⟩
    · have q := h5'.1 w w0 w1
      refine ⟨fun p p0 p1 => ?_, ?_, ?_, fun x x0 x1 => ?_, fun m m0 m1 => ?_⟩
      · rw [n2 (60700 + 60 * w + p) (by omega) (by omega), n2 (84700 + 60 * w + p) (by omega) (by omega)]; exact q.1 p p0 p1
      · rw [sI_c (g := fun p => a (60700 + 60 * w + p)) (fun p p0 p1 => n2 _ (by omega) (by omega))]; exact q.2.1
      · rw [n2 (111900 + w) (by omega) (by omega)]; exact q.2.2.1
      · rw [n2 (22300 + 24 * w + x) (by omega) (by omega), n2 (31900 + 24 * w + x) (by omega) (by omega), n2 (41500 + 24 * w + x) (by omega) (by omega), n2 (51100 + 24 * w + x) (by omega) (by omega)]
        exact q.2.2.2.1 x x0 x1
      · rw [n2 (108700 + 8 * w + m) (by omega) (by omega)]; exact q.2.2.2.2 m m0 m1
    · rw [h5'.2]
      exact sI_c (fun k k0 k1 => (n2 _ (by omega) (by omega)).symm)
  · unfold PB PT
    rw [n 8 (by omega) (by omega) (by omega), n3, n7, n0, sI_c (f := fun x => a' (3460 + 8 * x + 1)) (g := fun x => a (3460 + 8 * x + 1)) (fun x x0 x1 => n _ (by omega) (by omega) (by omega)), sI_c (f := fun x => a' (4372 + 8 * x + 1)) (g := fun x => a (4372 + 8 * x + 1)) (fun x x0 x1 => n _ (by omega) (by omega) (by omega))]
theorem wn_RT {σ σ' : zI} {t : Nat} (e : eN a a') (hC : jv_C a) (h : RT σ t a) (f : ∀ c, t < c → c ≤ t + 16 → σ' c = σ c) (ft : ∀ k, k ≠ 9 → σ' t k = σ t k) (h9 : σ' t 9 = a' 5) : RT σ' t a' := by
  unfold jv_C at hC
  have n : ∀ k, 0 ≤ k → k < 5500 → k ≠ 5 → a' k = a k := fun k k0 k1 k2 => e k k0 (by omega) k2 (by omega)
  have n2 : ∀ k, 22300 ≤ k → k < 112300 → a' k = a k := fun k k0 k1 => e k (by omega) k1 (by omega) (by omega)
  have f' : ∀ j, 1 ≤ j → j ≤ 16 → σ' (t + j) = σ (t + j) := fun j j0 j1 => f _ (by omega) (by omega)
  refine ⟨?_, gK (f' 1 (by omega) (by omega)) (f' 2 (by omega) (by omega)) (fun k _ _ => n k (by omega) (by omega) (by omega)) (tK h), gW (f' 3 (by omega) (by omega)) (f' 4 (by omega) (by omega)) (fun k _ _ => n k (by omega) (by omega) (by omega)) (fun k _ _ => n k (by omega) (by omega) (by omega)) (tW h), gM (f' 5 (by omega) (by omega)) (f' 6 (by omega) (by omega)) (n 1 (by omega) (by omega) (by omega)) (fun k _ _ => n k (by omega) (by omega) (by omega)) (tM h), gQ (f' 7 (by omega) (by omega)) (f' 8 (by omega) (by omega)) (n 2 (by omega) (by omega) (by omega)) (n 3 (by omega) (by omega) (by omega)) (fun k _ _ => n k (by omega) (by omega) (by omega)) (fun k _ _ => n k (by omega) (by omega) (by omega)) (tQ h), gH (f' 9 (by omega) (by omega)) (f' 10 (by omega) (by omega)) (n 0 (by omega) (by omega) (by omega)) (n 3 (by omega) (by omega) (by omega)) (n 4 (by omega) (by omega) (by omega)) (fun k _ _ => n k (by omega) (by omega) (by omega)) (fun k _ _ => n k (by omega) (by omega) (by omega)) (fun k _ _ => n2 k (by omega) (by omega)) (by omega) (tH h), gP (f' 11 (by omega) (by omega)) (f' 12 (by omega) (by omega)) (n 4 (by omega) (by omega) (by omega)) (fun k _ _ => n k (by omega) (by omega) (by omega)) (tP h), gO (f' 13 (by omega) (by omega)) (f' 14 (by omega) (by omega)) (n 7 (by omega) (by omega) (by omega)) (fun k _ _ => n k (by omega) (by omega) (by omega)) (tO h), gF (f' 15 (by omega) (by omega)) (f' 16 (by omega) (by omega)) (n 6 (by omega) (by omega) (by omega)) (fun k _ _ => n k (by omega) (by omega) (by omega)) (tF h)⟩
  have q := tS h
  unfold rT_S at q ⊢
  rw [ft 8 (by omega), ft 10 (by omega), ft 11 (by omega), ft 12 (by omega), ft 13 (by omega), ft 14 (by omega), ft 15 (by omega), ft 16 (by omega), ft 17 (by omega), n 0 (by omega) (by omega) (by omega), n 15 (by omega) (by omega) (by omega), n 11 (by omega) (by omega) (by omega), n 12 (by omega) (by omega) (by omega), n 8 (by omega) (by omega) (by omega), n 9 (by omega) (by omega) (by omega), n 10 (by omega) (by omega) (by omega), n 13 (by omega) (by omega) (by omega), n 14 (by omega) (by omega) (by omega)]
  exact ⟨q.1, h9, q.2.2⟩
theorem wzN_e {B : Int} : ∀ (n : Nat) (i m b m1 b1 : Int), (∀ k, B + 2 * i ≤ k → k < B + 2 * (i + n) → a' k = a k) → wzN a B n i m b m1 b1 → wzN a' B n i m b m1 b1
  | 0, _, _, _, _, _, _, w => w
  | n + 1, i, m, b, m1, b1, e, w => by
    obtain ⟨w1, w2⟩ := w
    unfold wzN
    rw [e (B + 2 * i) (by omega) (by omega), e (B + 2 * i + 1) (by omega) (by omega)]
    exact ⟨w1, wzN_e n (i + 1) _ _ m1 b1 (fun k k0 k1 => e k (by omega) (by omega)) w2⟩
theorem WRL_s {B : Int} : ∀ (L M : List (Int × Int)) (i : Int), WRL a B i (L ++ M) → WRL a B i L ∧ WRL a B (i + L.length) M
  | [], M, i, h => by
    refine ⟨trivial, ?_⟩
    have : i + (([] : List (Int × Int)).length : Int) = i := by rw [List.length_nil]; omega
    rw [this]
    exact h
  | y :: t, M, i, h => by
    have q := WRL_s t M (i + 1) h.2
    refine ⟨⟨h.1, q.1⟩, ?_⟩
    have hl : ((y :: t).length : Int) = (t.length : Int) + 1 := by rw [List.length_cons]; omega
    rw [hl, show i + ((t.length : Int) + 1) = i + 1 + t.length by omega]
    exact q.2
theorem wzN_i {B : Int} : ∀ (M : List (Int × Int)) (i m b m1 b1 : Int), WRL a B i M → wzL M m b m1 b1 → wzN a B M.length i m b m1 b1
  | [], _, _, _, _, _, _, w => w
  | y :: t, i, m, b, m1, b1, h, w => by
    obtain ⟨⟨h1, h2⟩, h3⟩ := h
    show wzN a B (t.length + 1) i m b m1 b1
    unfold wzN
    rw [h1, h2]
    exact ⟨w.1, wzN_i t (i + 1) _ _ m1 b1 h3 w.2⟩
theorem SG_N {B i j m b : Int} {L : List (Int × Int)} (w : WRL a B 0 L) (s : SG L i j m b) : (0 ≤ i ∧ i ≤ j ∧ j ≤ L.length) ∧ wzN a B (j - i).toNat i 0 0 m b := by
  obtain ⟨L0, M, L1, e, h1, h2, h3⟩ := s
  subst e
  have q := WRL_s L0 M 0 (WRL_s (L0 ++ M) L1 0 w).1
  have l1 := len_a (L0 ++ M) L1
  have l2 := len_a L0 M
  refine ⟨by omega, ?_⟩
  rw [show (j - i).toNat = M.length by omega]
  have q2 := q.2
  rw [show (0 : Int) + (L0.length : Int) = i by omega] at q2
  exact wzN_i M i 0 0 m b q2 h3
theorem CW_WR {f : Int → Int} {B : Int} : ∀ (L : List (Int × Int)) (i : Int), CWL f i L → WRL a B i L → ∀ k, i ≤ k → k < i + L.length → f k = stE (a (B + 2 * k)) (a (B + 2 * k + 1))
  | [], i, _, _, k, k0, k1 => by
    rw [List.length_nil] at k1
    omega
  | y :: t, i, h, g, k, k0, k1 => by
    have hl : ((y :: t).length : Int) = (t.length : Int) + 1 := by rw [List.length_cons]; omega
    by_cases e : k = i
    · subst e
      rw [h.1, g.1.1, g.1.2]
    · exact CW_WR t (i + 1) h.2 g.2 k (by omega) (by omega)
theorem wn_T {L : List (Int × Int)} (e : eN a a') (hC : jv_C a) (hT : jv_T a) (hE : jv_E a) (h : a' 5 = a 5 ∨ nT a a' L) : jv_T a' ∧ jv_E a' := by
  unfold jv_C at hC
  have n5 : ∀ n, n < a' 5 → n < a 5 ∨ (n = a 5 ∧ nT a a' L) := fun n h1 => by
    rcases h with h | h
    · left; omega
    · have := h.1
      by_cases z : n < a 5
      · exact Or.inl z
      · exact Or.inr ⟨by omega, h⟩
  constructor
  · intro n n0 n1
    rcases n5 n n1 with l | ⟨rfl, q⟩
    · have q := hT n n0 l
      rw [e (5500 + 840 * n) (by omega) (by omega) (by omega) (by omega)]
      refine ⟨q.1, fun c c0 c1 => ?_⟩
      have q2 := q.2 c c0 c1
      have q1 := q.1
      rw [e (5500 + 840 * n + 1 + 8 * c) (by omega) (by omega) (by omega) (by omega), e (5500 + 840 * n + 1 + 8 * c + 1) (by omega) (by omega) (by omega) (by omega), e (5500 + 840 * n + 1 + 8 * c + 2) (by omega) (by omega) (by omega) (by omega), e (5500 + 840 * n + 1 + 8 * c + 3) (by omega) (by omega) (by omega) (by omega)]
      exact q2
    · refine ⟨q.2.1, fun c c0 c1 => ?_⟩
      obtain ⟨j1, j2, j3, j4, j5, _, _⟩ := q.2.2.1 c c0 c1
      exact ⟨j1, j2, j3, j4, j5⟩
  · intro n n0 n1 c c0 c1
    rcases n5 n n1 with l | ⟨rfl, q⟩
    · have q := (hT n n0 l).1
      rw [e (5500 + 840 * n) (by omega) (by omega) (by omega) (by omega)] at c1
      have w := hE n n0 l c c0 c1
      rw [e (5500 + 840 * n + 1 + 8 * c) (by omega) (by omega) (by omega) (by omega), e (5500 + 840 * n + 1 + 8 * c + 4) (by omega) (by omega) (by omega) (by omega), e (5500 + 840 * n + 1 + 8 * c + 5) (by omega) (by omega) (by omega) (by omega), e (5500 + 840 * n + 1 + 8 * c + 6) (by omega) (by omega) (by omega) (by omega), e (5500 + 840 * n + 1 + 8 * c + 7) (by omega) (by omega) (by omega) (by omega)]
      refine ⟨fun h => ?_, fun h => ?_⟩
      · have w := w.1 h
        exact ⟨w.1, wzN_e _ _ _ _ _ _ (fun k k0 k1 => e k (by omega) (by omega) (by omega) (by omega)) w.2⟩
      · have w := w.2 h
        exact ⟨w.1, wzN_e _ _ _ _ _ _ (fun k k0 k1 => e k (by omega) (by omega) (by omega) (by omega)) w.2⟩
    · obtain ⟨_, _, _, _, _, j6, j7⟩ := q.2.2.1 c c0 c1
      have w := q.2.2.2.1
      have l := q.2.2.2.2
      refine ⟨fun h => ?_, fun h => ?_⟩
      · have s := SG_N w (j6 h)
        exact ⟨by omega, s.2⟩
      · have s := SG_N w (j7 h)
        exact ⟨by omega, s.2⟩
theorem wn_TX {σ : zI} {x : Nat} {n : Int} (e : eN a a') (hn : 0 ≤ n ∧ n < a 5) (hc : a 5 ≤ 20) (h24 : 0 ≤ a (5500 + 840 * n) ∧ a (5500 + 840 * n) ≤ 24) (h : TX σ x a n) : TX σ x a' n := by
  obtain ⟨h1, h2, h3, h4, h5, h6, h7⟩ := h
  have e' : ∀ k, 5500 + 840 * n ≤ k → k < 5500 + 840 * n + 840 → a' k = a k := fun k k0 k1 => e k (by omega) (by omega) (by omega) (by omega)
  have e0 := e' (5500 + 840 * n) (by omega) (by omega)
  refine ⟨h1, by rw [e0]; exact h2, fun c c0 c1 => ?_, fun s s0 s1 => ?_, h5, fun i i0 i1 => ?_, fun c c0 c1 => ?_⟩
  · rw [e0] at c1
    exact TC_c (h3 c c0 c1) (fun k k0 k1 => e' _ (by omega) (by omega)) (fun _ _ _ => rfl)
  · rw [h4 s s0 s1, e0]
    constructor
    · intro q c c0 c1; rw [e' (5500 + 840 * n + 1 + 8 * c) (by omega) (by omega)]; exact q c c0 c1
    · intro q c c0 c1; have := q c c0 c1; rw [e' (5500 + 840 * n + 1 + 8 * c) (by omega) (by omega)] at this; exact this
  · rw [e' (5500 + 840 * n + 200 + 2 * i) (by omega) (by omega), e' (5500 + 840 * n + 200 + 2 * i + 1) (by omega) (by omega)]
    exact h6 i i0 i1
  · rw [e0] at c1
    rw [e' (5500 + 840 * n + 1 + 8 * c) (by omega) (by omega), e' (5500 + 840 * n + 1 + 8 * c + 7) (by omega) (by omega)]
    exact h7 c c0 c1
/-- the new TEXT is shown -/
theorem wn_TX1 {σ : zI} {x : Nat} {n m : Int} {L W : List (Int × Int)} {g : Int → Int} (ti : TI x (5500 + 840 * n) m L W σ) (hm : 0 ≤ m ∧ m ≤ 24) (em : a' (5500 + 840 * n) = m) (eg : ∀ k, 5500 + 840 * n < k → k < 5500 + 840 * n + 200 → a' k = wrs g W k) (w : WRL a' (5500 + 840 * n + 200) 0 L) (hL : (L.length : Int) ≤ 300) : TX σ x a' n ∧ ∀ c, 0 ≤ c → c < m → JC a' (5500 + 840 * n + 1 + 8 * c) L := by
  obtain ⟨t1, t2, t3, t4, t5, t6, t7⟩ := ti
  have tc : ∀ c, 0 ≤ c → c < m → TC (σ (x + 2)) c a' (5500 + 840 * n + 1 + 8 * c) ∧ JC a' (5500 + 840 * n + 1 + 8 * c) L := fun c c0 c1 => by
    have q := t6 c c0 c1 g
    have ec : ∀ k, 0 ≤ k → k < 8 → a' (5500 + 840 * n + 1 + 8 * c + k) = wrs g W (5500 + 840 * n + 1 + 8 * c + k) := fun k k0 k1 => eg _ (by omega) (by omega)
    exact ⟨TC_c q.1 ec (fun _ _ _ => rfl), JC_c q.2 ec⟩
  refine ⟨⟨t1, by rw [t2, em], fun c c0 c1 => (tc c c0 (by omega)).1, fun s s0 s1 => ?_, by omega, fun i i0 i1 => ?_, fun c c0 c1 h5 => ?_⟩, fun c c0 c1 => (tc c c0 c1).2⟩
  · rw [t7 s s0 s1, em]
    constructor
    · intro q c c0 c1; rw [← (tc c c0 c1).1.1]; exact q c c0 c1
    · intro q c c0 c1; rw [(tc c c0 c1).1.1]; exact q c c0 c1
  · exact CW_WR L 0 t4 w i i0 (by omega)
  · have j := (tc c c0 (by omega)).2.2.2.2.2.2.1 h5
    have s := SG_N w j
    omega
end WNX
theorem oT_dj {S : zS} {x x' : Nat} (h : oT S x) (h' : oT S x') (ne : x ≠ x') : x + 4 ≤ x' ∨ x' + 4 ≤ x := by
  have key : ∀ x x' : Nat, oT S x → oT S x' → x < x' → x + 4 ≤ x' := fun x x' h h' l => by
    by_cases c : x + 4 ≤ x'
    · exact c
    · have k0 := (oT_0 h').2.2
      have k1 := (oT_1 h).2.2
      have k2 := (oT_2 h).2.2
      have k3 := (oT_3 h).2.2
      have : x' = x + 1 ∨ x' = x + 2 ∨ x' = x + 3 := by omega
      rcases this with rfl | rfl | rfl
      · rw [k1] at k0; cases k0
      · rw [k2] at k0; cases k0
      · rw [k3] at k0; cases k0
  rcases Nat.lt_or_ge x x' with l | l
  · exact Or.inl (key x x' h h' l)
  · exact Or.inr (key x' x h' h (by omega))
