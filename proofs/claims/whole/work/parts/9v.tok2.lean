/-! ===== TOKENS of the class (segments printed by wip/whole, contracts own work) ===== -/
/-- the class's words -/
def wcd (v : Int) : Int := if v = 482955846501 then 3 else if v = 435812594273 then 4 else if v = 2003330414 then 5 else if v = 465557353332 then 6 else if v = 6383461 then 7 else if v = 469852318835 then 8 else if v = 427020345710 then 9 else if v = 6382692 then 10 else if v = 1952541541 then 11 else if v = 29807 then 12 else if v = 448546566771 then 13 else if v = 28530 then 14 else if v = 6385252 then 15 else if v = 7237492 then 16 else if v = 482804460403 then 17 else if v = 512869299304 then 18 else if v = 2036429422 then 19 else if v = 1751216740 then 20 else if v = 7170414 then 21 else if v = 7168376 then 22 else 0
/-- the class's signs -/
def sy (c : Int) (two : Prop) [Decidable two] : Int := if c = 60 then (if two then 24 else 23) else if c = 62 then (if two then 26 else 25) else if c = 61 then 27 else if c = 35 then 28 else if c = 43 then 29 else if c = 45 then 30 else if c = 42 then 31 else if c = 47 then 32 else if c = 40 then 33 else if c = 41 then 34 else if c = 44 then 35 else if c = 59 then 36 else 0
/-- the class's TOKENS -/
def tk (T : Int → Int) (n s : Int) : Int := if n ≤ s then 1 else if cD (T s) then 2 else if cL (T s) then wcd (wv T s (tE T n s)) else sy (T s) (sv T n (s + 1) = 61)
def cvN (T : Int → Int) (p : Int) : Nat → Int
  | 0 => 0
  | k + 1 => min (cvN T p k * 10 + T (p + k) - 48) 10000
def cv (T : Int → Int) (p q : Int) : Int := cvN T p (q - p).toNat
theorem cv_0 {T : Int → Int} {p : Int} : cv T p p = 0 := by
  unfold cv
  rw [show (p - p).toNat = 0 by omega]
  rfl
theorem cv_s {T : Int → Int} {p q : Int} (h : p ≤ q) : cv T p (q + 1) = min (cv T p q * 10 + T q - 48) 10000 := by
  unfold cv
  rw [show (q + 1 - p).toNat = (q - p).toNat + 1 by omega]
  show min (cvN T p (q - p).toNat * 10 + T (p + ((q - p).toNat : Int)) - 48) 10000 = _
  rw [Int.toNat_of_nonneg (by omega), show p + (q - p) = q by omega]
/-- both NUMBERS -/
theorem cv_rv {T : Int → Int} {p q : Int} (h : p ≤ q) (hd : ∀ x, p ≤ x → x < q → cD (T x)) : ((rv T p q < 10000 ∧ cv T p q = rv T p q) ∨ (10000 ≤ rv T p q ∧ cv T p q = 10000)) ∧ 0 ≤ rv T p q := by
  have key : ∀ k : Nat, p + k ≤ q → ((rv T p (p + k) < 10000 ∧ cv T p (p + k) = rv T p (p + k)) ∨ (10000 ≤ rv T p (p + k) ∧ cv T p (p + k) = 10000)) ∧ 0 ≤ rv T p (p + k) := by
    intro k
    induction k with
    | zero =>
      intro _
      rw [show p + ((0 : Nat) : Int) = p by omega, rv_0, cv_0]
      omega
    | succ k ih =>
      intro hk
      have i := ih (by omega)
      have d := hd (p + k) (by omega) (by omega)
      rw [show p + ((k + 1 : Nat) : Int) = (p + k) + 1 by omega, rv_s (by omega), cv_s (by omega)]
      split <;> omega
  have := key (q - p).toNat (by omega)
  rw [Int.toNat_of_nonneg (by omega), show p + (q - p) = q by omega] at this
  exact this
theorem cv_b {T : Int → Int} {p q : Int} (h : p ≤ q) (hd : ∀ x, p ≤ x → x < q → cD (T x)) : 0 ≤ cv T p q ∧ cv T p q ≤ 10000 := by
  have := cv_rv h hd
  omega
def nv (T : Int → Int) (p q : Int) : Int := cv T p (rn bD T q p)
theorem nv_b {T : Int → Int} {p q : Int} (h : p ≤ q) : 0 ≤ nv T p q ∧ nv T p q ≤ 10000 := by
  have r := rn_I (P := bD) (T := T) h
  exact cv_b r.1.1 (fun x x0 x1 => bD_i.mp (r.2.1 x x0 x1))
/-- the class looks for a word -/
def wat (T : Int → Int) (p q : Int) : List Int → Int → Int → Int → Int
  | [], _, _, _ => 0
  | c :: cs, w, x, sm => if c = 32 then (if sm = 0 then wat T p q cs (w + 1) p 1 else if x = q then w else wat T p q cs (w + 1) p 1) else if sm = 0 then wat T p q cs w (x + 1) 0 else if q ≤ x then wat T p q cs w (x + 1) 0 else if T x = c then wat T p q cs w (x + 1) 1 else wat T p q cs w (x + 1) 0
def mt (T : Int → Int) (q : Int) : List Int → Int → Prop
  | [], x => x = q
  | c :: cs, x => (x < q ∧ T x = c) ∧ mt T q cs (x + 1)
theorem wat_0 {T : Int → Int} {p q w : Int} {rest : List Int} : ∀ (l : List Int) (x : Int), (∀ c ∈ l, c ≠ 32) → wat T p q (l ++ 32 :: rest) w x 0 = wat T p q rest (w + 1) p 1
  | [], x, _ => by
    show (if (32 : Int) = 32 then (if (0 : Int) = 0 then wat T p q rest (w + 1) p 1 else _) else _) = _
    rw [if_pos rfl, if_pos rfl]
  | c :: l, x, h => by
    show (if c = 32 then _ else if (0 : Int) = 0 then wat T p q (l ++ 32 :: rest) w (x + 1) 0 else _) = _
    rw [if_neg (h c (List.mem_cons_self ..)), if_pos rfl]
    exact wat_0 l (x + 1) (fun d hd => h d (List.mem_cons_of_mem _ hd))
theorem wat_1 {T : Int → Int} {p q w : Int} {rest : List Int} : ∀ (l : List Int) (x : Int), (∀ c ∈ l, c ≠ 32) → (mt T q l x → wat T p q (l ++ 32 :: rest) w x 1 = w) ∧ (¬ mt T q l x → wat T p q (l ++ 32 :: rest) w x 1 = wat T p q rest (w + 1) p 1)
  | [], x, _ => by
    have e : wat T p q ([] ++ 32 :: rest) w x 1 = if x = q then w else wat T p q rest (w + 1) p 1 := by
      show (if (32 : Int) = 32 then (if (1 : Int) = 0 then wat T p q rest (w + 1) p 1 else if x = q then w else wat T p q rest (w + 1) p 1) else _) = _
      rw [if_pos rfl, if_neg (by decide)]
    rw [e]
    exact ⟨fun h => if_pos h, fun h => if_neg h⟩
  | c :: l, x, h => by
    have hl : ∀ d ∈ l, d ≠ 32 := fun d hd => h d (List.mem_cons_of_mem _ hd)
    have e : wat T p q (c :: l ++ 32 :: rest) w x 1 = if q ≤ x then wat T p q (l ++ 32 :: rest) w (x + 1) 0 else if T x = c then wat T p q (l ++ 32 :: rest) w (x + 1) 1 else wat T p q (l ++ 32 :: rest) w (x + 1) 0 := by
      show (if c = 32 then _ else if (1 : Int) = 0 then _ else if q ≤ x then wat T p q (l ++ 32 :: rest) w (x + 1) 0 else if T x = c then wat T p q (l ++ 32 :: rest) w (x + 1) 1 else wat T p q (l ++ 32 :: rest) w (x + 1) 0) = _
      rw [if_neg (h c (List.mem_cons_self ..)), if_neg (by decide)]
    rw [e]
    have i := wat_1 (T := T) (p := p) (q := q) (w := w) (rest := rest) l (x + 1) hl
    have z := wat_0 (T := T) (p := p) (q := q) (w := w) (rest := rest) l (x + 1) hl
    refine ⟨fun m => ?_, fun m => ?_⟩
    · have m' : (x < q ∧ T x = c) ∧ mt T q l (x + 1) := m
      rw [if_neg (by omega), if_pos m'.1.2]
      exact i.1 m'.2
    · split
      · exact z
      · split
        · next h1 h2 => exact i.2 (fun k => m ⟨⟨by omega, h2⟩, k⟩)
        · exact z
theorem drop_c : ∀ (l : List Int) (k : Nat), k < l.length → l.drop k = l.getD k 0 :: l.drop (k + 1)
  | [], k, h => absurd h (Nat.not_lt_zero _)
  | c :: l, 0, _ => rfl
  | c :: l, k + 1, h => drop_c l k (Nat.lt_of_succ_lt_succ h)
section WD
variable {T : Int → Int} {p q : Int}
theorem wv_x (h : p < q) : (q = p + 1 ∧ wv T p q = T p) ∨ (q = p + 1 + 1 ∧ wv T p q = T p * 256 + T (p + 1)) ∨ (q = p + 1 + 1 + 1 ∧ wv T p q = (T p * 256 + T (p + 1)) * 256 + T (p + 1 + 1)) ∨ (q = p + 1 + 1 + 1 + 1 ∧ wv T p q = ((T p * 256 + T (p + 1)) * 256 + T (p + 1 + 1)) * 256 + T (p + 1 + 1 + 1)) ∨ (q = p + 1 + 1 + 1 + 1 + 1 ∧ wv T p q = (((T p * 256 + T (p + 1)) * 256 + T (p + 1 + 1)) * 256 + T (p + 1 + 1 + 1)) * 256 + T (p + 1 + 1 + 1 + 1)) ∨ (5 < q - p ∧ wv T p q = 0) := by
  by_cases c : 5 < q - p
  · refine Or.inr (Or.inr (Or.inr (Or.inr (Or.inr ⟨c, ?_⟩))))
    unfold wv
    rw [if_pos c]
  · have e : wv T p q = wvP T p q := by unfold wv; rw [if_neg c]
    rw [e]
    have k : q = p + 1 ∨ q = p + 1 + 1 ∨ q = p + 1 + 1 + 1 ∨ q = p + 1 + 1 + 1 + 1 ∨ q = p + 1 + 1 + 1 + 1 + 1 := by omega
    have w1 : wvP T p (p + 1) = T p := by rw [wvP_s (by omega), wvP_0]; omega
    have w2 : wvP T p (p + 1 + 1) = T p * 256 + T (p + 1) := by rw [wvP_s (by omega), w1]
    have w3 : wvP T p (p + 1 + 1 + 1) = (T p * 256 + T (p + 1)) * 256 + T (p + 1 + 1) := by rw [wvP_s (by omega), w2]
    have w4 : wvP T p (p + 1 + 1 + 1 + 1) = ((T p * 256 + T (p + 1)) * 256 + T (p + 1 + 1)) * 256 + T (p + 1 + 1 + 1) := by rw [wvP_s (by omega), w3]
    have w5 : wvP T p (p + 1 + 1 + 1 + 1 + 1) = (((T p * 256 + T (p + 1)) * 256 + T (p + 1 + 1)) * 256 + T (p + 1 + 1 + 1)) * 256 + T (p + 1 + 1 + 1 + 1) := by rw [wvP_s (by omega), w4]
    rcases k with rfl | rfl | rfl | rfl | rfl
    · exact Or.inl ⟨rfl, w1⟩
    · exact Or.inr (Or.inl ⟨rfl, w2⟩)
    · exact Or.inr (Or.inr (Or.inl ⟨rfl, w3⟩))
    · exact Or.inr (Or.inr (Or.inr (Or.inl ⟨rfl, w4⟩)))
    · exact Or.inr (Or.inr (Or.inr (Or.inr (Or.inl ⟨rfl, w5⟩))))
theorem mt_0 (h : p < q) (hL : ∀ x, p ≤ x → x < q → 65 ≤ T x ∧ T x ≤ 122) : mt T q [112, 114, 105, 99, 101] p ↔ wv T p q = 482955846501 := by
  have b0 := hL p (by omega) h
  have b1 := hL (p + 1) (by omega)
  have b2 := hL (p + 1 + 1) (by omega)
  have b3 := hL (p + 1 + 1 + 1) (by omega)
  have b4 := hL (p + 1 + 1 + 1 + 1) (by omega)
  have w := wv_x (T := T) h
  simp only [mt]
  omega
theorem mt_1 (h : p < q) (hL : ∀ x, p ≤ x → x < q → 65 ≤ T x ∧ T x ≤ 122) : mt T q [101, 120, 116, 114, 97] p ↔ wv T p q = 435812594273 := by
  have b0 := hL p (by omega) h
  have b1 := hL (p + 1) (by omega)
  have b2 := hL (p + 1 + 1) (by omega)
  have b3 := hL (p + 1 + 1 + 1) (by omega)
  have b4 := hL (p + 1 + 1 + 1 + 1) (by omega)
  have w := wv_x (T := T) h
  simp only [mt]
  omega
theorem mt_2 (h : p < q) (hL : ∀ x, p ≤ x → x < q → 65 ≤ T x ∧ T x ≤ 122) : mt T q [119, 104, 101, 110] p ↔ wv T p q = 2003330414 := by
  have b0 := hL p (by omega) h
  have b1 := hL (p + 1) (by omega)
  have b2 := hL (p + 1 + 1) (by omega)
  have b3 := hL (p + 1 + 1 + 1) (by omega)
  have b4 := hL (p + 1 + 1 + 1 + 1) (by omega)
  have w := wv_x (T := T) h
  simp only [mt]
  omega
theorem mt_3 (h : p < q) (hL : ∀ x, p ≤ x → x < q → 65 ≤ T x ∧ T x ≤ 122) : mt T q [108, 101, 97, 115, 116] p ↔ wv T p q = 465557353332 := by
  have b0 := hL p (by omega) h
  have b1 := hL (p + 1) (by omega)
  have b2 := hL (p + 1 + 1) (by omega)
  have b3 := hL (p + 1 + 1 + 1) (by omega)
  have b4 := hL (p + 1 + 1 + 1 + 1) (by omega)
  have w := wv_x (T := T) h
  simp only [mt]
  omega
theorem mt_4 (h : p < q) (hL : ∀ x, p ≤ x → x < q → 65 ≤ T x ∧ T x ≤ 122) : mt T q [97, 103, 101] p ↔ wv T p q = 6383461 := by
  have b0 := hL p (by omega) h
  have b1 := hL (p + 1) (by omega)
  have b2 := hL (p + 1 + 1) (by omega)
  have b3 := hL (p + 1 + 1 + 1) (by omega)
  have b4 := hL (p + 1 + 1 + 1 + 1) (by omega)
  have w := wv_x (T := T) h
  simp only [mt]
  omega
theorem mt_5 (h : p < q) (hL : ∀ x, p ≤ x → x < q → 65 ≤ T x ∧ T x ≤ 122) : mt T q [109, 101, 97, 108, 115] p ↔ wv T p q = 469852318835 := by
  have b0 := hL p (by omega) h
  have b1 := hL (p + 1) (by omega)
  have b2 := hL (p + 1 + 1) (by omega)
  have b3 := hL (p + 1 + 1 + 1) (by omega)
  have b4 := hL (p + 1 + 1 + 1 + 1) (by omega)
  have w := wv_x (T := T) h
  simp only [mt]
  omega
theorem mt_6 (h : p < q) (hL : ∀ x, p ≤ x → x < q → 65 ≤ T x ∧ T x ≤ 122) : mt T q [99, 108, 101, 97, 110] p ↔ wv T p q = 427020345710 := by
  have b0 := hL p (by omega) h
  have b1 := hL (p + 1) (by omega)
  have b2 := hL (p + 1 + 1) (by omega)
  have b3 := hL (p + 1 + 1 + 1) (by omega)
  have b4 := hL (p + 1 + 1 + 1 + 1) (by omega)
  have w := wv_x (T := T) h
  simp only [mt]
  omega
theorem mt_7 (h : p < q) (hL : ∀ x, p ≤ x → x < q → 65 ≤ T x ∧ T x ≤ 122) : mt T q [97, 100, 100] p ↔ wv T p q = 6382692 := by
  have b0 := hL p (by omega) h
  have b1 := hL (p + 1) (by omega)
  have b2 := hL (p + 1 + 1) (by omega)
  have b3 := hL (p + 1 + 1 + 1) (by omega)
  have b4 := hL (p + 1 + 1 + 1 + 1) (by omega)
  have w := wv_x (T := T) h
  simp only [mt]
  omega
theorem mt_8 (h : p < q) (hL : ∀ x, p ≤ x → x < q → 65 ≤ T x ∧ T x ≤ 122) : mt T q [116, 97, 107, 101] p ↔ wv T p q = 1952541541 := by
  have b0 := hL p (by omega) h
  have b1 := hL (p + 1) (by omega)
  have b2 := hL (p + 1 + 1) (by omega)
  have b3 := hL (p + 1 + 1 + 1) (by omega)
  have b4 := hL (p + 1 + 1 + 1 + 1) (by omega)
  have w := wv_x (T := T) h
  simp only [mt]
  omega
theorem mt_9 (h : p < q) (hL : ∀ x, p ≤ x → x < q → 65 ≤ T x ∧ T x ≤ 122) : mt T q [116, 111] p ↔ wv T p q = 29807 := by
  have b0 := hL p (by omega) h
  have b1 := hL (p + 1) (by omega)
  have b2 := hL (p + 1 + 1) (by omega)
  have b3 := hL (p + 1 + 1 + 1) (by omega)
  have b4 := hL (p + 1 + 1 + 1 + 1) (by omega)
  have w := wv_x (T := T) h
  simp only [mt]
  omega
theorem mt_10 (h : p < q) (hL : ∀ x, p ≤ x → x < q → 65 ≤ T x ∧ T x ≤ 122) : mt T q [104, 111, 117, 114, 115] p ↔ wv T p q = 448546566771 := by
  have b0 := hL p (by omega) h
  have b1 := hL (p + 1) (by omega)
  have b2 := hL (p + 1 + 1) (by omega)
  have b3 := hL (p + 1 + 1 + 1) (by omega)
  have b4 := hL (p + 1 + 1 + 1 + 1) (by omega)
  have w := wv_x (T := T) h
  simp only [mt]
  omega
theorem mt_11 (h : p < q) (hL : ∀ x, p ≤ x → x < q → 65 ≤ T x ∧ T x ≤ 122) : mt T q [111, 114] p ↔ wv T p q = 28530 := by
  have b0 := hL p (by omega) h
  have b1 := hL (p + 1) (by omega)
  have b2 := hL (p + 1 + 1) (by omega)
  have b3 := hL (p + 1 + 1 + 1) (by omega)
  have b4 := hL (p + 1 + 1 + 1 + 1) (by omega)
  have w := wv_x (T := T) h
  simp only [mt]
  omega
theorem mt_12 (h : p < q) (hL : ∀ x, p ≤ x → x < q → 65 ≤ T x ∧ T x ≤ 122) : mt T q [97, 110, 100] p ↔ wv T p q = 6385252 := by
  have b0 := hL p (by omega) h
  have b1 := hL (p + 1) (by omega)
  have b2 := hL (p + 1 + 1) (by omega)
  have b3 := hL (p + 1 + 1 + 1) (by omega)
  have b4 := hL (p + 1 + 1 + 1 + 1) (by omega)
  have w := wv_x (T := T) h
  simp only [mt]
  omega
theorem mt_13 (h : p < q) (hL : ∀ x, p ≤ x → x < q → 65 ≤ T x ∧ T x ≤ 122) : mt T q [110, 111, 116] p ↔ wv T p q = 7237492 := by
  have b0 := hL p (by omega) h
  have b1 := hL (p + 1) (by omega)
  have b2 := hL (p + 1 + 1) (by omega)
  have b3 := hL (p + 1 + 1 + 1) (by omega)
  have b4 := hL (p + 1 + 1 + 1 + 1) (by omega)
  have w := wv_x (T := T) h
  simp only [mt]
  omega
theorem mt_14 (h : p < q) (hL : ∀ x, p ≤ x → x < q → 65 ≤ T x ∧ T x ≤ 122) : mt T q [112, 105, 99, 107, 115] p ↔ wv T p q = 482804460403 := by
  have b0 := hL p (by omega) h
  have b1 := hL (p + 1) (by omega)
  have b2 := hL (p + 1 + 1) (by omega)
  have b3 := hL (p + 1 + 1 + 1) (by omega)
  have b4 := hL (p + 1 + 1 + 1 + 1) (by omega)
  have w := wv_x (T := T) h
  simp only [mt]
  omega
theorem mt_15 (h : p < q) (hL : ∀ x, p ≤ x → x < q → 65 ≤ T x ∧ T x ≤ 122) : mt T q [119, 105, 100, 116, 104] p ↔ wv T p q = 512869299304 := by
  have b0 := hL p (by omega) h
  have b1 := hL (p + 1) (by omega)
  have b2 := hL (p + 1 + 1) (by omega)
  have b3 := hL (p + 1 + 1 + 1) (by omega)
  have b4 := hL (p + 1 + 1 + 1 + 1) (by omega)
  have w := wv_x (T := T) h
  simp only [mt]
  omega
theorem mt_16 (h : p < q) (hL : ∀ x, p ≤ x → x < q → 65 ≤ T x ∧ T x ≤ 122) : mt T q [121, 97, 114, 110] p ↔ wv T p q = 2036429422 := by
  have b0 := hL p (by omega) h
  have b1 := hL (p + 1) (by omega)
  have b2 := hL (p + 1 + 1) (by omega)
  have b3 := hL (p + 1 + 1 + 1) (by omega)
  have b4 := hL (p + 1 + 1 + 1 + 1) (by omega)
  have w := wv_x (T := T) h
  simp only [mt]
  omega
theorem mt_17 (h : p < q) (hL : ∀ x, p ≤ x → x < q → 65 ≤ T x ∧ T x ≤ 122) : mt T q [104, 97, 114, 100] p ↔ wv T p q = 1751216740 := by
  have b0 := hL p (by omega) h
  have b1 := hL (p + 1) (by omega)
  have b2 := hL (p + 1 + 1) (by omega)
  have b3 := hL (p + 1 + 1 + 1) (by omega)
  have b4 := hL (p + 1 + 1 + 1 + 1) (by omega)
  have w := wv_x (T := T) h
  simp only [mt]
  omega
theorem mt_18 (h : p < q) (hL : ∀ x, p ≤ x → x < q → 65 ≤ T x ∧ T x ≤ 122) : mt T q [109, 105, 110] p ↔ wv T p q = 7170414 := by
  have b0 := hL p (by omega) h
  have b1 := hL (p + 1) (by omega)
  have b2 := hL (p + 1 + 1) (by omega)
  have b3 := hL (p + 1 + 1 + 1) (by omega)
  have b4 := hL (p + 1 + 1 + 1 + 1) (by omega)
  have w := wv_x (T := T) h
  simp only [mt]
  omega
theorem mt_19 (h : p < q) (hL : ∀ x, p ≤ x → x < q → 65 ≤ T x ∧ T x ≤ 122) : mt T q [109, 97, 120] p ↔ wv T p q = 7168376 := by
  have b0 := hL p (by omega) h
  have b1 := hL (p + 1) (by omega)
  have b2 := hL (p + 1 + 1) (by omega)
  have b3 := hL (p + 1 + 1 + 1) (by omega)
  have b4 := hL (p + 1 + 1 + 1 + 1) (by omega)
  have w := wv_x (T := T) h
  simp only [mt]
  omega
theorem wat_wc (h : p < q) (hL : ∀ x, p ≤ x → x < q → 65 ≤ T x ∧ T x ≤ 122) : wat T p q pg_tx 3 p 1 = wcd (wv T p q) := by
  have e : pg_tx = ([112, 114, 105, 99, 101] ++ 32 :: ([101, 120, 116, 114, 97] ++ 32 :: ([119, 104, 101, 110] ++ 32 :: ([108, 101, 97, 115, 116] ++ 32 :: ([97, 103, 101] ++ 32 :: ([109, 101, 97, 108, 115] ++ 32 :: ([99, 108, 101, 97, 110] ++ 32 :: ([97, 100, 100] ++ 32 :: ([116, 97, 107, 101] ++ 32 :: ([116, 111] ++ 32 :: ([104, 111, 117, 114, 115] ++ 32 :: ([111, 114] ++ 32 :: ([97, 110, 100] ++ 32 :: ([110, 111, 116] ++ 32 :: ([112, 105, 99, 107, 115] ++ 32 :: ([119, 105, 100, 116, 104] ++ 32 :: ([121, 97, 114, 110] ++ 32 :: ([104, 97, 114, 100] ++ 32 :: ([109, 105, 110] ++ 32 :: ([109, 97, 120] ++ 32 :: [])))))))))))))))))))) := by decide
  rw [e]
  unfold wcd
  have m0 := wat_1 (T := T) (p := p) (q := q) (w := 3) (rest := ([101, 120, 116, 114, 97] ++ 32 :: ([119, 104, 101, 110] ++ 32 :: ([108, 101, 97, 115, 116] ++ 32 :: ([97, 103, 101] ++ 32 :: ([109, 101, 97, 108, 115] ++ 32 :: ([99, 108, 101, 97, 110] ++ 32 :: ([97, 100, 100] ++ 32 :: ([116, 97, 107, 101] ++ 32 :: ([116, 111] ++ 32 :: ([104, 111, 117, 114, 115] ++ 32 :: ([111, 114] ++ 32 :: ([97, 110, 100] ++ 32 :: ([110, 111, 116] ++ 32 :: ([112, 105, 99, 107, 115] ++ 32 :: ([119, 105, 100, 116, 104] ++ 32 :: ([121, 97, 114, 110] ++ 32 :: ([104, 97, 114, 100] ++ 32 :: ([109, 105, 110] ++ 32 :: ([109, 97, 120] ++ 32 :: [])))))))))))))))))))) [112, 114, 105, 99, 101] p (by decide)
  rw [mt_0 h hL] at m0
  by_cases c0 : wv T p q = 482955846501
  · rw [if_pos c0]; exact m0.1 c0
  rw [if_neg c0]
  refine (m0.2 c0).trans ?_
  have m1 := wat_1 (T := T) (p := p) (q := q) (w := 4) (rest := ([119, 104, 101, 110] ++ 32 :: ([108, 101, 97, 115, 116] ++ 32 :: ([97, 103, 101] ++ 32 :: ([109, 101, 97, 108, 115] ++ 32 :: ([99, 108, 101, 97, 110] ++ 32 :: ([97, 100, 100] ++ 32 :: ([116, 97, 107, 101] ++ 32 :: ([116, 111] ++ 32 :: ([104, 111, 117, 114, 115] ++ 32 :: ([111, 114] ++ 32 :: ([97, 110, 100] ++ 32 :: ([110, 111, 116] ++ 32 :: ([112, 105, 99, 107, 115] ++ 32 :: ([119, 105, 100, 116, 104] ++ 32 :: ([121, 97, 114, 110] ++ 32 :: ([104, 97, 114, 100] ++ 32 :: ([109, 105, 110] ++ 32 :: ([109, 97, 120] ++ 32 :: []))))))))))))))))))) [101, 120, 116, 114, 97] p (by decide)
  rw [mt_1 h hL] at m1
  by_cases c1 : wv T p q = 435812594273
  · rw [if_pos c1]; exact m1.1 c1
  rw [if_neg c1]
  refine (m1.2 c1).trans ?_
  have m2 := wat_1 (T := T) (p := p) (q := q) (w := 5) (rest := ([108, 101, 97, 115, 116] ++ 32 :: ([97, 103, 101] ++ 32 :: ([109, 101, 97, 108, 115] ++ 32 :: ([99, 108, 101, 97, 110] ++ 32 :: ([97, 100, 100] ++ 32 :: ([116, 97, 107, 101] ++ 32 :: ([116, 111] ++ 32 :: ([104, 111, 117, 114, 115] ++ 32 :: ([111, 114] ++ 32 :: ([97, 110, 100] ++ 32 :: ([110, 111, 116] ++ 32 :: ([112, 105, 99, 107, 115] ++ 32 :: ([119, 105, 100, 116, 104] ++ 32 :: ([121, 97, 114, 110] ++ 32 :: ([104, 97, 114, 100] ++ 32 :: ([109, 105, 110] ++ 32 :: ([109, 97, 120] ++ 32 :: [])))))))))))))))))) [119, 104, 101, 110] p (by decide)
  rw [mt_2 h hL] at m2
  by_cases c2 : wv T p q = 2003330414
  · rw [if_pos c2]; exact m2.1 c2
  rw [if_neg c2]
  refine (m2.2 c2).trans ?_
  have m3 := wat_1 (T := T) (p := p) (q := q) (w := 6) (rest := ([97, 103, 101] ++ 32 :: ([109, 101, 97, 108, 115] ++ 32 :: ([99, 108, 101, 97, 110] ++ 32 :: ([97, 100, 100] ++ 32 :: ([116, 97, 107, 101] ++ 32 :: ([116, 111] ++ 32 :: ([104, 111, 117, 114, 115] ++ 32 :: ([111, 114] ++ 32 :: ([97, 110, 100] ++ 32 :: ([110, 111, 116] ++ 32 :: ([112, 105, 99, 107, 115] ++ 32 :: ([119, 105, 100, 116, 104] ++ 32 :: ([121, 97, 114, 110] ++ 32 :: ([104, 97, 114, 100] ++ 32 :: ([109, 105, 110] ++ 32 :: ([109, 97, 120] ++ 32 :: []))))))))))))))))) [108, 101, 97, 115, 116] p (by decide)
  rw [mt_3 h hL] at m3
  by_cases c3 : wv T p q = 465557353332
  · rw [if_pos c3]; exact m3.1 c3
  rw [if_neg c3]
  refine (m3.2 c3).trans ?_
  have m4 := wat_1 (T := T) (p := p) (q := q) (w := 7) (rest := ([109, 101, 97, 108, 115] ++ 32 :: ([99, 108, 101, 97, 110] ++ 32 :: ([97, 100, 100] ++ 32 :: ([116, 97, 107, 101] ++ 32 :: ([116, 111] ++ 32 :: ([104, 111, 117, 114, 115] ++ 32 :: ([111, 114] ++ 32 :: ([97, 110, 100] ++ 32 :: ([110, 111, 116] ++ 32 :: ([112, 105, 99, 107, 115] ++ 32 :: ([119, 105, 100, 116, 104] ++ 32 :: ([121, 97, 114, 110] ++ 32 :: ([104, 97, 114, 100] ++ 32 :: ([109, 105, 110] ++ 32 :: ([109, 97, 120] ++ 32 :: [])))))))))))))))) [97, 103, 101] p (by decide)
  rw [mt_4 h hL] at m4
  by_cases c4 : wv T p q = 6383461
  · rw [if_pos c4]; exact m4.1 c4
  rw [if_neg c4]
  refine (m4.2 c4).trans ?_
  have m5 := wat_1 (T := T) (p := p) (q := q) (w := 8) (rest := ([99, 108, 101, 97, 110] ++ 32 :: ([97, 100, 100] ++ 32 :: ([116, 97, 107, 101] ++ 32 :: ([116, 111] ++ 32 :: ([104, 111, 117, 114, 115] ++ 32 :: ([111, 114] ++ 32 :: ([97, 110, 100] ++ 32 :: ([110, 111, 116] ++ 32 :: ([112, 105, 99, 107, 115] ++ 32 :: ([119, 105, 100, 116, 104] ++ 32 :: ([121, 97, 114, 110] ++ 32 :: ([104, 97, 114, 100] ++ 32 :: ([109, 105, 110] ++ 32 :: ([109, 97, 120] ++ 32 :: []))))))))))))))) [109, 101, 97, 108, 115] p (by decide)
  rw [mt_5 h hL] at m5
  by_cases c5 : wv T p q = 469852318835
  · rw [if_pos c5]; exact m5.1 c5
  rw [if_neg c5]
  refine (m5.2 c5).trans ?_
  have m6 := wat_1 (T := T) (p := p) (q := q) (w := 9) (rest := ([97, 100, 100] ++ 32 :: ([116, 97, 107, 101] ++ 32 :: ([116, 111] ++ 32 :: ([104, 111, 117, 114, 115] ++ 32 :: ([111, 114] ++ 32 :: ([97, 110, 100] ++ 32 :: ([110, 111, 116] ++ 32 :: ([112, 105, 99, 107, 115] ++ 32 :: ([119, 105, 100, 116, 104] ++ 32 :: ([121, 97, 114, 110] ++ 32 :: ([104, 97, 114, 100] ++ 32 :: ([109, 105, 110] ++ 32 :: ([109, 97, 120] ++ 32 :: [])))))))))))))) [99, 108, 101, 97, 110] p (by decide)
  rw [mt_6 h hL] at m6
  by_cases c6 : wv T p q = 427020345710
  · rw [if_pos c6]; exact m6.1 c6
  rw [if_neg c6]
  refine (m6.2 c6).trans ?_
  have m7 := wat_1 (T := T) (p := p) (q := q) (w := 10) (rest := ([116, 97, 107, 101] ++ 32 :: ([116, 111] ++ 32 :: ([104, 111, 117, 114, 115] ++ 32 :: ([111, 114] ++ 32 :: ([97, 110, 100] ++ 32 :: ([110, 111, 116] ++ 32 :: ([112, 105, 99, 107, 115] ++ 32 :: ([119, 105, 100, 116, 104] ++ 32 :: ([121, 97, 114, 110] ++ 32 :: ([104, 97, 114, 100] ++ 32 :: ([109, 105, 110] ++ 32 :: ([109, 97, 120] ++ 32 :: []))))))))))))) [97, 100, 100] p (by decide)
  rw [mt_7 h hL] at m7
  by_cases c7 : wv T p q = 6382692
  · rw [if_pos c7]; exact m7.1 c7
  rw [if_neg c7]
  refine (m7.2 c7).trans ?_
  have m8 := wat_1 (T := T) (p := p) (q := q) (w := 11) (rest := ([116, 111] ++ 32 :: ([104, 111, 117, 114, 115] ++ 32 :: ([111, 114] ++ 32 :: ([97, 110, 100] ++ 32 :: ([110, 111, 116] ++ 32 :: ([112, 105, 99, 107, 115] ++ 32 :: ([119, 105, 100, 116, 104] ++ 32 :: ([121, 97, 114, 110] ++ 32 :: ([104, 97, 114, 100] ++ 32 :: ([109, 105, 110] ++ 32 :: ([109, 97, 120] ++ 32 :: [])))))))))))) [116, 97, 107, 101] p (by decide)
  rw [mt_8 h hL] at m8
  by_cases c8 : wv T p q = 1952541541
  · rw [if_pos c8]; exact m8.1 c8
  rw [if_neg c8]
  refine (m8.2 c8).trans ?_
  have m9 := wat_1 (T := T) (p := p) (q := q) (w := 12) (rest := ([104, 111, 117, 114, 115] ++ 32 :: ([111, 114] ++ 32 :: ([97, 110, 100] ++ 32 :: ([110, 111, 116] ++ 32 :: ([112, 105, 99, 107, 115] ++ 32 :: ([119, 105, 100, 116, 104] ++ 32 :: ([121, 97, 114, 110] ++ 32 :: ([104, 97, 114, 100] ++ 32 :: ([109, 105, 110] ++ 32 :: ([109, 97, 120] ++ 32 :: []))))))))))) [116, 111] p (by decide)
  rw [mt_9 h hL] at m9
  by_cases c9 : wv T p q = 29807
  · rw [if_pos c9]; exact m9.1 c9
  rw [if_neg c9]
  refine (m9.2 c9).trans ?_
  have m10 := wat_1 (T := T) (p := p) (q := q) (w := 13) (rest := ([111, 114] ++ 32 :: ([97, 110, 100] ++ 32 :: ([110, 111, 116] ++ 32 :: ([112, 105, 99, 107, 115] ++ 32 :: ([119, 105, 100, 116, 104] ++ 32 :: ([121, 97, 114, 110] ++ 32 :: ([104, 97, 114, 100] ++ 32 :: ([109, 105, 110] ++ 32 :: ([109, 97, 120] ++ 32 :: [])))))))))) [104, 111, 117, 114, 115] p (by decide)
  rw [mt_10 h hL] at m10
  by_cases c10 : wv T p q = 448546566771
  · rw [if_pos c10]; exact m10.1 c10
  rw [if_neg c10]
  refine (m10.2 c10).trans ?_
  have m11 := wat_1 (T := T) (p := p) (q := q) (w := 14) (rest := ([97, 110, 100] ++ 32 :: ([110, 111, 116] ++ 32 :: ([112, 105, 99, 107, 115] ++ 32 :: ([119, 105, 100, 116, 104] ++ 32 :: ([121, 97, 114, 110] ++ 32 :: ([104, 97, 114, 100] ++ 32 :: ([109, 105, 110] ++ 32 :: ([109, 97, 120] ++ 32 :: []))))))))) [111, 114] p (by decide)
  rw [mt_11 h hL] at m11
  by_cases c11 : wv T p q = 28530
  · rw [if_pos c11]; exact m11.1 c11
  rw [if_neg c11]
  refine (m11.2 c11).trans ?_
  have m12 := wat_1 (T := T) (p := p) (q := q) (w := 15) (rest := ([110, 111, 116] ++ 32 :: ([112, 105, 99, 107, 115] ++ 32 :: ([119, 105, 100, 116, 104] ++ 32 :: ([121, 97, 114, 110] ++ 32 :: ([104, 97, 114, 100] ++ 32 :: ([109, 105, 110] ++ 32 :: ([109, 97, 120] ++ 32 :: [])))))))) [97, 110, 100] p (by decide)
  rw [mt_12 h hL] at m12
  by_cases c12 : wv T p q = 6385252
  · rw [if_pos c12]; exact m12.1 c12
  rw [if_neg c12]
  refine (m12.2 c12).trans ?_
  have m13 := wat_1 (T := T) (p := p) (q := q) (w := 16) (rest := ([112, 105, 99, 107, 115] ++ 32 :: ([119, 105, 100, 116, 104] ++ 32 :: ([121, 97, 114, 110] ++ 32 :: ([104, 97, 114, 100] ++ 32 :: ([109, 105, 110] ++ 32 :: ([109, 97, 120] ++ 32 :: []))))))) [110, 111, 116] p (by decide)
  rw [mt_13 h hL] at m13
  by_cases c13 : wv T p q = 7237492
  · rw [if_pos c13]; exact m13.1 c13
  rw [if_neg c13]
  refine (m13.2 c13).trans ?_
  have m14 := wat_1 (T := T) (p := p) (q := q) (w := 17) (rest := ([119, 105, 100, 116, 104] ++ 32 :: ([121, 97, 114, 110] ++ 32 :: ([104, 97, 114, 100] ++ 32 :: ([109, 105, 110] ++ 32 :: ([109, 97, 120] ++ 32 :: [])))))) [112, 105, 99, 107, 115] p (by decide)
  rw [mt_14 h hL] at m14
  by_cases c14 : wv T p q = 482804460403
  · rw [if_pos c14]; exact m14.1 c14
  rw [if_neg c14]
  refine (m14.2 c14).trans ?_
  have m15 := wat_1 (T := T) (p := p) (q := q) (w := 18) (rest := ([121, 97, 114, 110] ++ 32 :: ([104, 97, 114, 100] ++ 32 :: ([109, 105, 110] ++ 32 :: ([109, 97, 120] ++ 32 :: []))))) [119, 105, 100, 116, 104] p (by decide)
  rw [mt_15 h hL] at m15
  by_cases c15 : wv T p q = 512869299304
  · rw [if_pos c15]; exact m15.1 c15
  rw [if_neg c15]
  refine (m15.2 c15).trans ?_
  have m16 := wat_1 (T := T) (p := p) (q := q) (w := 19) (rest := ([104, 97, 114, 100] ++ 32 :: ([109, 105, 110] ++ 32 :: ([109, 97, 120] ++ 32 :: [])))) [121, 97, 114, 110] p (by decide)
  rw [mt_16 h hL] at m16
  by_cases c16 : wv T p q = 2036429422
  · rw [if_pos c16]; exact m16.1 c16
  rw [if_neg c16]
  refine (m16.2 c16).trans ?_
  have m17 := wat_1 (T := T) (p := p) (q := q) (w := 20) (rest := ([109, 105, 110] ++ 32 :: ([109, 97, 120] ++ 32 :: []))) [104, 97, 114, 100] p (by decide)
  rw [mt_17 h hL] at m17
  by_cases c17 : wv T p q = 1751216740
  · rw [if_pos c17]; exact m17.1 c17
  rw [if_neg c17]
  refine (m17.2 c17).trans ?_
  have m18 := wat_1 (T := T) (p := p) (q := q) (w := 21) (rest := ([109, 97, 120] ++ 32 :: [])) [109, 105, 110] p (by decide)
  rw [mt_18 h hL] at m18
  by_cases c18 : wv T p q = 7170414
  · rw [if_pos c18]; exact m18.1 c18
  rw [if_neg c18]
  refine (m18.2 c18).trans ?_
  have m19 := wat_1 (T := T) (p := p) (q := q) (w := 22) (rest := []) [109, 97, 120] p (by decide)
  rw [mt_19 h hL] at m19
  by_cases c19 : wv T p q = 7168376
  · rw [if_pos c19]; exact m19.1 c19
  rw [if_neg c19]
  refine (m19.2 c19).trans ?_
  rfl
end WD
