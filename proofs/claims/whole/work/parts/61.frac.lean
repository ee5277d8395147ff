/-! ===== FRACTIONS: as small as they go, and LOST (own work) ===== -/
def rd_D (x y : Int) : Int := if y < 0 then -(Nat.gcd x.natAbs y.natAbs : Int) else (Nat.gcd x.natAbs y.natAbs : Int)
/-- x over y as small as it goes; (0, 0) is LOST -/
def red (x y : Int) : Int × Int := if y = 0 then (0, 0) else if x.tdiv (rd_D x y) > 1000000000 ∨ x.tdiv (rd_D x y) < -1000000000 ∨ y.tdiv (rd_D x y) > 1000000000 then (0, 0) else (x.tdiv (rd_D x y), y.tdiv (rd_D x y))
theorem red_0 (x : Int) : red x 0 = (0, 0) := rfl
theorem rd_D_p {x y : Int} (hy : y ≠ 0) : 0 < (Nat.gcd x.natAbs y.natAbs : Int) := by
  have : 0 < Nat.gcd x.natAbs y.natAbs := Nat.gcd_pos_of_pos_right _ (by omega)
  omega
theorem rd_D_0 {x y : Int} (hy : y ≠ 0) : rd_D x y ≠ 0 := by
  have := rd_D_p (x := x) hy
  unfold rd_D
  split <;> omega
theorem rd_D_dvd {x y : Int} : rd_D x y ∣ y := by
  have h : (Nat.gcd x.natAbs y.natAbs : Int) ∣ y := Int.ofNat_dvd_left.mpr (Nat.gcd_dvd_right _ _)
  unfold rd_D
  split
  · exact Int.neg_dvd.mpr h
  · exact h
theorem red_b (x y : Int) : (red x y).2 = 0 ∧ (red x y).1 = 0 ∨ (0 < (red x y).2 ∧ (red x y).2 ≤ 1000000000 ∧ -1000000000 ≤ (red x y).1 ∧ (red x y).1 ≤ 1000000000) := by
  unfold red
  split
  · exact Or.inl ⟨rfl, rfl⟩
  · next hy =>
    split
    · exact Or.inl ⟨rfl, rfl⟩
    · next h =>
      refine Or.inr ?_
      have hd := rd_D_dvd (x := x) (y := y)
      obtain ⟨k, hk⟩ := hd
      have e1 : ∀ D, D ≠ 0 → y = D * k → y.tdiv D = k := fun D h0 h1 => by rw [h1]; exact Int.mul_tdiv_cancel_left k h0
      have e : y.tdiv (rd_D x y) = k := e1 _ (rd_D_0 hy) hk
      have : 0 < k := by
        have g := rd_D_p (x := x) hy
        unfold rd_D at hk
        generalize (Nat.gcd x.natAbs y.natAbs : Int) = G at *
        split at hk
        · next h1 =>
          refine Int.not_le.mp (fun h2 => ?_)
          have : 0 ≤ -G * k := by
            rw [Int.neg_mul, ← Int.mul_neg]
            exact Int.mul_nonneg (by omega) (by omega)
          omega
        · next h1 =>
          refine Int.not_le.mp (fun h2 => ?_)
          have : 0 ≤ G * -k := Int.mul_nonneg (by omega) (by omega)
          rw [Int.mul_neg] at this
          omega
      simp only [e] at h ⊢
      omega
theorem rd_D_mul {x y s : Int} (hs : 0 < s) : rd_D (x * s) (y * s) = s * rd_D x y := by
  have e : ((Nat.gcd (x * s).natAbs (y * s).natAbs : Nat) : Int) = s * (Nat.gcd x.natAbs y.natAbs : Int) := by
    rw [Int.natAbs_mul, Int.natAbs_mul, Nat.gcd_mul_right]
    rw [Int.natCast_mul, Int.mul_comm]
    congr 1
    omega
  unfold rd_D
  rw [e]
  by_cases h : y < 0
  · rw [if_pos h, if_pos (Int.mul_neg_of_neg_of_pos h hs), Int.mul_neg]
  · rw [if_neg h, if_neg (by
      have := Int.mul_nonneg (show 0 ≤ y by omega) (show 0 ≤ s by omega)
      omega)]
theorem red_mul {x y s : Int} (hs : 0 < s) : red (x * s) (y * s) = red x y := by
  by_cases hy : y = 0
  · subst hy
    rw [Int.zero_mul]
    rfl
  · have hy2 : y * s ≠ 0 := Int.mul_ne_zero hy (by omega)
    unfold red
    rw [if_neg hy, if_neg hy2, rd_D_mul hs, Int.mul_comm x s, Int.mul_comm y s, Int.mul_tdiv_mul_of_pos _ _ hs, Int.mul_tdiv_mul_of_pos _ _ hs]
theorem rd_D_neg {x y : Int} (hy : y ≠ 0) : rd_D (-x) (-y) = -rd_D x y := by
  unfold rd_D
  rw [Int.natAbs_neg, Int.natAbs_neg]
  by_cases h : y < 0
  · rw [if_pos h, if_neg (by omega), Int.neg_neg]
  · rw [if_neg h, if_pos (by omega)]
theorem red_neg (x y : Int) : red (-x) (-y) = red x y := by
  by_cases hy : y = 0
  · subst hy; rfl
  · unfold red
    rw [if_neg hy, if_neg (by omega), rd_D_neg hy, Int.tdiv_neg, Int.tdiv_neg, Int.neg_tdiv, Int.neg_tdiv, Int.neg_neg, Int.neg_neg]
theorem red_p {x y g : Int} (hy : 0 < y) (hg : g = (Nat.gcd x.natAbs y.natAbs : Int)) : red x y = if x.tdiv g > 1000000000 ∨ x.tdiv g < -1000000000 ∨ y.tdiv g > 1000000000 then (0, 0) else (x.tdiv g, y.tdiv g) := by
  have D : rd_D x y = g := by
    unfold rd_D
    rw [if_neg (by omega), hg]
  unfold red
  rw [if_neg (show ¬ y = 0 by omega), D]
theorem u1_id (f : Int → Int) (k : Int) : u1 f k (f k) = f := by
  funext j
  by_cases h : j = k
  · subst h; rw [u1_s]
  · rw [u1_n h]
theorem mb9 {x y : Int} (hx : -1000000000 ≤ x ∧ x ≤ 1000000000) (hy : -1000000000 ≤ y ∧ y ≤ 1000000000) : -1000000000000000000 ≤ x * y ∧ x * y ≤ 1000000000000000000 := by
  have h := Nat.mul_le_mul (show x.natAbs ≤ 1000000000 by omega) (show y.natAbs ≤ 1000000000 by omega)
  rw [← Int.natAbs_mul] at h
  omega
/-- two FRACTIONS joined -/
def fr2 (o p q r s : Int) : Int × Int := if q = 0 ∨ s = 0 then (0, 0) else if o = 3 then red (p * s + r * q) (q * s) else if o = 4 then red (p * s - r * q) (q * s) else if o = 5 then red (p * r) (q * s) else if o = 6 then red (p * s) (q * r) else if o = 7 then (if p * s < r * q then red p q else red r s) else (if p * s < r * q then red r s else red p q)
theorem fr2_b (o p q r s : Int) : (fr2 o p q r s).2 = 0 ∧ (fr2 o p q r s).1 = 0 ∨ (0 < (fr2 o p q r s).2 ∧ (fr2 o p q r s).2 ≤ 1000000000 ∧ -1000000000 ≤ (fr2 o p q r s).1 ∧ (fr2 o p q r s).1 ≤ 1000000000) := by
  unfold fr2
  repeat' split
  all_goals first | exact Or.inl ⟨rfl, rfl⟩ | exact red_b _ _
/-- a FRACTION that is not LOST is small -/
abbrev frO (u l : Int) : Prop := l = 0 ∨ ((0 < l ∧ l ≤ 1000000000) ∧ -1000000000 ≤ u ∧ u ≤ 1000000000)
/-- two FRACTIONS compared -/
def cm2 (o p q r s : Int) : Bool := if q = 0 ∨ s = 0 then false else if o = 10 then decide (p * s < r * q) else if o = 11 then decide (p * s ≤ r * q) else if o = 12 then decide (r * q < p * s) else if o = 13 then decide (r * q ≤ p * s) else if o = 14 then decide (p * s = r * q) else decide (p * s ≠ r * q)
abbrev b1_ (b : Bool) : Int := if b = true then 1 else 0
/-- FRACTIONS and truths on their piles, the newest first -/
abbrev eS : Type := List (Int × Int) × List Bool
def ev1 (kv : Int → Int) (o v : Int) (s : eS) : eS :=
  if o = 0 then ((v, 1) :: s.1, s.2)
  else if o = 1 then ((kv v, 1) :: s.1, s.2)
  else if o = 2 then (match s.1 with | x :: t => ((-x.1, x.2) :: t, s.2) | [] => s)
  else if o ≤ 8 then (match s.1 with | y :: x :: t => (fr2 o x.1 x.2 y.1 y.2 :: t, s.2) | _ => s)
  else if o ≤ 15 then (match s.1 with | y :: x :: t => (t, cm2 o x.1 x.2 y.1 y.2 :: s.2) | _ => s)
  else if o = 20 then (match s.2 with | b :: t => (s.1, (!b) :: t) | [] => s)
  else (match s.2 with | c :: b :: t => (s.1, (if o = 21 then b && c else b || c) :: t) | _ => s)
def evN (a kv : Int → Int) (B : Int) : Nat → Int → eS → eS
  | 0, _, s => s
  | n + 1, i, s => evN a kv B n (i + 1) (ev1 kv (a (B + 2 * i)) (a (B + 2 * i + 1)) s)
def ok1 (o v m b : Int) : Prop := (o = 0 ∧ (0 ≤ v ∧ v ≤ 9999) ∧ m + b < 60) ∨ (o = 1 ∧ (1 ≤ v ∧ v ≤ 4) ∧ m + b < 60) ∨ (o = 2 ∧ 1 ≤ m) ∨ ((3 ≤ o ∧ o ≤ 8) ∧ 2 ≤ m) ∨ ((10 ≤ o ∧ o ≤ 15) ∧ m = 2) ∨ (o = 20 ∧ m = 0 ∧ 1 ≤ b) ∨ ((o = 21 ∨ o = 22) ∧ m = 0 ∧ 2 ≤ b)
def szm (o m : Int) : Int := if o ≤ 1 then m + 1 else if o = 2 then m else if o ≤ 8 then m - 1 else if o ≤ 15 then m - 2 else m
def szb (o b : Int) : Int := if o ≤ 8 then b else if o ≤ 15 then b + 1 else if o = 20 then b else b - 1
def wzN (a : Int → Int) (B : Int) : Nat → Int → Int → Int → Int → Int → Prop
  | 0, _, m, b, m', b' => m = m' ∧ b = b'
  | n + 1, i, m, b, m', b' => ok1 (a (B + 2 * i)) (a (B + 2 * i + 1)) m b ∧ wzN a B n (i + 1) (szm (a (B + 2 * i)) m) (szb (a (B + 2 * i)) b) m' b'
def FRs (u l : Int → Int) : List (Int × Int) → Prop
  | [] => True
  | x :: t => (l t.length = x.2 ∧ (x.2 ≠ 0 → u t.length = x.1) ∧ frO x.1 x.2) ∧ FRs u l t
def BRs (f : Int → Int) : List Bool → Prop
  | [] => True
  | b :: t => f t.length = b1_ b ∧ BRs f t
theorem FRs_c {u l u' l' : Int → Int} : ∀ {fs : List (Int × Int)}, (∀ k : Int, 0 ≤ k → k < fs.length → u' k = u k ∧ l' k = l k) → FRs u l fs → FRs u' l' fs
  | [], _, _ => trivial
  | x :: t, h, q => by
    have e := h t.length (by omega) (by rw [List.length_cons]; omega)
    exact ⟨⟨by rw [e.2]; exact q.1.1, fun hx => by rw [e.1]; exact q.1.2.1 hx, q.1.2.2⟩, FRs_c (fun k h0 h1 => h k h0 (by rw [List.length_cons]; omega)) q.2⟩
theorem BRs_c {f f' : Int → Int} : ∀ {bs : List Bool}, (∀ k : Int, 0 ≤ k → k < bs.length → f' k = f k) → BRs f bs → BRs f' bs
  | [], _, _ => trivial
  | b :: t, h, q => by
    have e := h t.length (by omega) (by rw [List.length_cons]; omega)
    exact ⟨by rw [e]; exact q.1, BRs_c (fun k h0 h1 => h k h0 (by rw [List.length_cons]; omega)) q.2⟩
theorem FRs_h {u l : Int → Int} {x : Int × Int} {t : List (Int × Int)} {k : Int} (q : FRs u l (x :: t)) (hk : k = t.length) : frO (u k) (l k) ∧ l k = x.2 ∧ (x.2 ≠ 0 → u k = x.1) ∧ frO x.1 x.2 := by
  subst hk
  refine ⟨?_, q.1.1, q.1.2.1, q.1.2.2⟩
  by_cases h : x.2 = 0
  · exact Or.inl (by rw [q.1.1]; exact h)
  · rw [q.1.1, q.1.2.1 h]; exact q.1.2.2
/-- what is LOST has nothing above its line that counts -/
theorem fr2_c {o p q r s p' r' : Int} (h1 : q ≠ 0 → p' = p) (h2 : s ≠ 0 → r' = r) : fr2 o p' q r' s = fr2 o p q r s := by
  unfold fr2
  by_cases e : q = 0 ∨ s = 0
  · rw [if_pos e, if_pos e]
  · rw [h1 (by omega), h2 (by omega)]
theorem cm2_c {o p q r s p' r' : Int} (h1 : q ≠ 0 → p' = p) (h2 : s ≠ 0 → r' = r) : cm2 o p' q r' s = cm2 o p q r s := by
  unfold cm2
  by_cases e : q = 0 ∨ s = 0
  · rw [if_pos e, if_pos e]
  · rw [h1 (by omega), h2 (by omega)]
theorem fr2_o (o p q r s : Int) : frO (fr2 o p q r s).1 (fr2 o p q r s).2 := by
  have := fr2_b o p q r s
  omega
section EV
variable {kv : Int → Int} {o v : Int} {fs t : List (Int × Int)} {bs tb : List Bool} {x y : Int × Int} {b c : Bool}
theorem ev1_0 : ev1 kv 0 v (fs, bs) = ((v, 1) :: fs, bs) := rfl
theorem ev1_1 : ev1 kv 1 v (fs, bs) = ((kv v, 1) :: fs, bs) := rfl
theorem ev1_2 : ev1 kv 2 v (x :: t, bs) = ((-x.1, x.2) :: t, bs) := rfl
theorem ev1_3 (h : 3 ≤ o ∧ o ≤ 8) : ev1 kv o v (y :: x :: t, bs) = (fr2 o x.1 x.2 y.1 y.2 :: t, bs) := by
  unfold ev1
  rw [if_neg (by omega), if_neg (by omega), if_neg (by omega), if_pos h.2]
theorem ev1_10 (h : 10 ≤ o ∧ o ≤ 15) : ev1 kv o v (y :: x :: t, bs) = (t, cm2 o x.1 x.2 y.1 y.2 :: bs) := by
  unfold ev1
  rw [if_neg (by omega), if_neg (by omega), if_neg (by omega), if_neg (by omega), if_pos h.2]
theorem ev1_20 : ev1 kv 20 v (fs, b :: tb) = (fs, (!b) :: tb) := rfl
theorem ev1_21 : ev1 kv 21 v (fs, c :: b :: tb) = (fs, (b && c) :: tb) := rfl
theorem ev1_22 : ev1 kv 22 v (fs, c :: b :: tb) = (fs, (b || c) :: tb) := rfl
theorem ev1_len {s : eS} (h : ok1 o v s.1.length s.2.length) : ((ev1 kv o v s).1.length : Int) = szm o s.1.length ∧ ((ev1 kv o v s).2.length : Int) = szb o s.2.length := by
  obtain ⟨fs, bs⟩ := s
  unfold ok1 at h
  dsimp only at h ⊢
  unfold szm szb
  rcases h with ⟨e, hv, hm⟩ | ⟨e, hv, hm⟩ | ⟨e, hm⟩ | ⟨e, hm⟩ | ⟨e, hm⟩ | ⟨e, hm, hb⟩ | ⟨e, hm, hb⟩
  · subst e; rw [ev1_0]; simp
  · subst e; rw [ev1_1]; simp
  · subst e
    match fs, hm with
    | x :: t, _ => rw [ev1_2]; simp
    | [], hm => simp at hm
  · match fs, hm with
    | y :: x :: t, _ =>
      rw [ev1_3 e, if_neg (by omega), if_neg (by omega), if_pos (by omega), if_pos (by omega)]
      refine ⟨?_, rfl⟩
      show ((t.length + 1 : Nat) : Int) = ((t.length + 1 + 1 : Nat) : Int) - 1
      omega
    | [x], hm => simp at hm
    | [], hm => simp at hm
  · match fs, hm with
    | y :: x :: t, _ =>
      rw [ev1_10 e, if_neg (by omega), if_neg (by omega), if_neg (by omega), if_pos (by omega), if_neg (by omega), if_pos (by omega)]
      refine ⟨?_, rfl⟩
      show (t.length : Int) = ((t.length + 1 + 1 : Nat) : Int) - 2
      omega
    | [x], hm => simp at hm
    | [], hm => simp at hm
  · subst e
    match bs, hb with
    | x :: t, _ => rw [ev1_20]; simp
    | [], hm => simp at hm
  · match bs, hb with
    | y :: x :: t, _ =>
      rcases e with e | e
      · subst e; rw [ev1_21]; simp only [List.length_cons]; simp
      · subst e; rw [ev1_22]; simp only [List.length_cons]; simp
    | [x], hm => simp at hm
    | [], hm => simp at hm
end EV
theorem evN_len {a kv : Int → Int} {B : Int} : ∀ {n : Nat} {i m' b' : Int} {s : eS}, wzN a B n i s.1.length s.2.length m' b' → ((evN a kv B n i s).1.length : Int) = m' ∧ ((evN a kv B n i s).2.length : Int) = b'
  | 0, _, _, _, _, h => h
  | n + 1, i, _, _, s, h => by
    have l := ev1_len (kv := kv) h.1
    have h2 := h.2
    rw [← l.1, ← l.2] at h2
    exact evN_len (n := n) (i := i + 1) h2
/-- the reference's piles show s -/
def RS (σ τ : zI) (s : eS) : Prop := σ 83 22 = s.1.length ∧ σ 83 23 = s.2.length ∧ FRs (τ 89) (τ 90) s.1 ∧ BRs (σ 91) s.2
/-- what run leaves alone -/
def Fr6 (σ σ1 τ τ1 : zI) : Prop := (∀ c, c ≠ 83 → c ≠ 91 → σ1 c = σ c) ∧ (∀ k, k ≠ 22 → k ≠ 23 → σ1 83 k = σ 83 k) ∧ ∀ c, c ≠ 89 → c ≠ 90 → τ1 c = τ c
section F6
variable {σ σ' τ τ' : zI} {f g : Int → Int}
theorem Fr6_k (h : Fr6 σ σ' τ τ') (hf : ∀ k, k ≠ 22 → k ≠ 23 → f k = σ' 83 k) : Fr6 σ (uc σ' 83 f) τ τ' :=
  ⟨fun c h1 h2 => by rw [uc_n h1]; exact h.1 c h1 h2, fun k h1 h2 => by rw [uc_s, hf k h1 h2]; exact h.2.1 k h1 h2, h.2.2⟩
theorem Fr6_b (h : Fr6 σ σ' τ τ') : Fr6 σ (uc σ' 91 g) τ τ' :=
  ⟨fun c h1 h2 => by rw [uc_n h2]; exact h.1 c h1 h2, fun k h1 h2 => by rw [uc_n (by decide)]; exact h.2.1 k h1 h2, h.2.2⟩
theorem Fr6_j {c : Nat} (h : Fr6 σ σ' τ τ') (hc : c = 89 ∨ c = 90) : Fr6 σ σ' τ (uc τ' c g) :=
  ⟨h.1, h.2.1, fun k h1 h2 => by rw [uc_n (by omega)]; exact h.2.2 k h1 h2⟩
theorem j89 : (uc (uc τ 89 f) 90 g) 89 = f := by rw [uc_n (by decide), uc_s]
theorem j90 : (uc (uc τ 89 f) 90 g) 90 = g := by rw [uc_s]
end F6
theorem len1 {α : Type} {l : List α} (h : 1 ≤ (l.length : Int)) : ∃ x t, l = x :: t := by
  match l, h with
  | x :: t, _ => exact ⟨x, t, rfl⟩
  | [], h => simp at h
theorem len2 {α : Type} {l : List α} (h : 2 ≤ (l.length : Int)) : ∃ y x t, l = y :: x :: t := by
  match l, h with
  | y :: x :: t, _ => exact ⟨y, x, t, rfl⟩
  | [x], h => simp at h
  | [], h => simp at h
theorem zwj_id {z : Int} (h : rj z) : zwj z = z := wJ_of h
theorem sz_b {o v m b : Int} (h : ok1 o v m b) (h1 : m + b ≤ 60) : szm o m + szb o b ≤ 60 := by
  unfold ok1 at h
  unfold szm szb
  repeat' split
  all_goals omega
