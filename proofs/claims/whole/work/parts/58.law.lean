/-! ===== TEXTS and what they say: pictures of the reference's methods (own work) ===== -/
/-- what the law's methods need of the numbers -/
def Jl (a : Int → Int) : Prop := jv_C a ∧ jv_K a ∧ jv_F a
theorem lC {a : Int → Int} (h : Jl a) : jv_C a := h.1
theorem lK {a : Int → Int} (h : Jl a) : jv_K a := h.2.1
theorem lF {a : Int → Int} (h : Jl a) : jv_F a := h.2.2
theorem Jl_of {a : Int → Int} (h : Jv a) : Jl a := ⟨jC h, jK h, jF h⟩
def r_hcN (a : Int → Int) (text sort : Int) : Nat → Bool
  | 0 => false
  | n + 1 => r_hcN a text sort n || decide (a (5500 + 840 * text + 1 + 8 * n) = sort)
def r_hc (a : Int → Int) (text sort : Int) : Bool := r_hcN a text sort (a (5500 + 840 * text)).toNat
theorem r_hcN_iff (a : Int → Int) (text sort : Int) : ∀ n : Nat, r_hcN a text sort n = true ↔ ∃ c : Int, 0 ≤ c ∧ c < n ∧ a (5500 + 840 * text + 1 + 8 * c) = sort
  | 0 => ⟨(fun h => by cases h), (fun ⟨c, h0, h1, _⟩ => by omega)⟩
  | n + 1 => by
    show (r_hcN a text sort n || decide _) = true ↔ _
    rw [Bool.or_eq_true, r_hcN_iff a text sort n, decide_eq_true_eq]
    constructor
    · rintro (⟨c, h0, h1, h2⟩ | h)
      · exact ⟨c, h0, by omega, h2⟩
      · exact ⟨n, by omega, by omega, h⟩
    · rintro ⟨c, h0, h1, h2⟩
      by_cases e : c = n
      · subst e; exact Or.inr h2
      · exact Or.inl ⟨c, h0, by omega, h2⟩
abbrev fc_c (a : Int → Int) (sort mill week known f : Int) : Prop := (a (5012 + 8 * f + 1) = -1 ∨ a (5012 + 8 * f + 1) = mill) ∧ (a (5012 + 8 * f + 2) ≤ week ∧ week ≤ a (5012 + 8 * f + 3)) ∧ a (5012 + 8 * f + 4) ≤ known ∧ r_hc a (a (5012 + 8 * f)) sort = true
def r_fcN (a : Int → Int) (sort mill week known : Int) : Nat → Int
  | 0 => -1
  | n + 1 => if fc_c a sort mill week known n then n else r_fcN a sort mill week known n
/-- the latest FORCE not behind f -/
def r_fcI (a : Int → Int) (sort mill week known f : Int) : Int := r_fcN a sort mill week known (f + 1).toNat
def r_fc (a : Int → Int) (sort mill week known : Int) : Int := r_fcI a sort mill week known (a 6 - 1)
theorem r_fcI_m (a : Int → Int) (sort mill week known : Int) : r_fcI a sort mill week known (-1) = -1 := rfl
theorem r_fcI_s {a : Int → Int} {sort mill week known f : Int} (h : 0 ≤ f) : r_fcI a sort mill week known f = if fc_c a sort mill week known f then f else r_fcI a sort mill week known (f - 1) := by
  unfold r_fcI
  have e1 : (f + 1).toNat = f.toNat + 1 := by omega
  have e2 : (f - 1 + 1).toNat = f.toNat := by omega
  rw [e1, e2]
  show (if fc_c a sort mill week known (f.toNat : Int) then (f.toNat : Int) else _) = _
  rw [Int.toNat_of_nonneg h]
theorem r_fc_b {a : Int → Int} {sort mill week known : Int} (h6 : 0 ≤ a 6) : -1 ≤ r_fc a sort mill week known ∧ r_fc a sort mill week known < a 6 ∧ (0 ≤ r_fc a sort mill week known → fc_c a sort mill week known (r_fc a sort mill week known)) := by
  have key : ∀ f, -1 ≤ f → -1 ≤ r_fcI a sort mill week known f ∧ r_fcI a sort mill week known f ≤ f ∧ (0 ≤ r_fcI a sort mill week known f → fc_c a sort mill week known (r_fcI a sort mill week known f)) := by
    refine lp_dn (fun f hf ih => ?_)
    by_cases c : f = -1
    · subst c; rw [r_fcI_m]; exact ⟨by omega, by omega, fun h => by omega⟩
    · rw [r_fcI_s (by omega)]
      split
      · next h => exact ⟨by omega, by omega, fun _ => h⟩
      · have := ih (by omega); exact ⟨this.1, by omega, this.2.2⟩
  have := key (a 6 - 1) (by omega)
  unfold r_fc
  exact ⟨this.1, by omega, this.2.2⟩
/-- the greatest NUMBER of a sort among the first n CLAUSES -/
def r_mxN (a : Int → Int) (text sort : Int) : Nat → Int
  | 0 => 0
  | n + 1 => if a (5500 + 840 * text + 1 + 8 * n) = sort ∧ r_mxN a text sort n < a (5500 + 840 * text + 1 + 8 * n + 1) then a (5500 + 840 * text + 1 + 8 * n + 1) else r_mxN a text sort n
def r_mx (a : Int → Int) (text sort n : Int) : Int := r_mxN a text sort n.toNat
theorem r_mx_s {a : Int → Int} {text sort n : Int} (h : 0 ≤ n) : r_mx a text sort (n + 1) = if a (5500 + 840 * text + 1 + 8 * n) = sort ∧ r_mx a text sort n < a (5500 + 840 * text + 1 + 8 * n + 1) then a (5500 + 840 * text + 1 + 8 * n + 1) else r_mx a text sort n := by
  unfold r_mx
  have e : (n + 1).toNat = n.toNat + 1 := by omega
  rw [e]
  show (if a (5500 + 840 * text + 1 + 8 * (n.toNat : Int)) = sort ∧ r_mxN a text sort n.toNat < a (5500 + 840 * text + 1 + 8 * (n.toNat : Int) + 1) then a (5500 + 840 * text + 1 + 8 * (n.toNat : Int) + 1) else _) = _
  rw [Int.toNat_of_nonneg h]
def r_most (a : Int → Int) (sort mill week known : Int) : Int := if r_fc a sort mill week known < 0 then 0 else r_mx a (a (5012 + 8 * r_fc a sort mill week known)) sort (a (5500 + 840 * a (5012 + 8 * r_fc a sort mill week known)))
/-- the HOURS of the first age CLAUSE among the first n; -1 without one -/
def r_agN (a : Int → Int) (text age : Int) : Nat → Int
  | 0 => -1
  | n + 1 => if 0 ≤ r_agN a text age n then r_agN a text age n else if a (5500 + 840 * text + 1 + 8 * n) = 7 ∧ a (5500 + 840 * text + 1 + 8 * n + 1) ≤ age ∧ age ≤ a (5500 + 840 * text + 1 + 8 * n + 2) then a (5500 + 840 * text + 1 + 8 * n + 3) else -1
def r_ag (a : Int → Int) (text age n : Int) : Int := r_agN a text age n.toNat
theorem r_ag_s {a : Int → Int} {text age n : Int} (h : 0 ≤ n) : r_ag a text age (n + 1) = if 0 ≤ r_ag a text age n then r_ag a text age n else if a (5500 + 840 * text + 1 + 8 * n) = 7 ∧ a (5500 + 840 * text + 1 + 8 * n + 1) ≤ age ∧ age ≤ a (5500 + 840 * text + 1 + 8 * n + 2) then a (5500 + 840 * text + 1 + 8 * n + 3) else -1 := by
  unfold r_ag
  have e : (n + 1).toNat = n.toNat + 1 := by omega
  rw [e]
  show (if 0 ≤ r_agN a text age n.toNat then r_agN a text age n.toNat else if a (5500 + 840 * text + 1 + 8 * (n.toNat : Int)) = 7 ∧ a (5500 + 840 * text + 1 + 8 * (n.toNat : Int) + 1) ≤ age ∧ age ≤ a (5500 + 840 * text + 1 + 8 * (n.toNat : Int) + 2) then a (5500 + 840 * text + 1 + 8 * (n.toNat : Int) + 3) else -1) = _
  rw [Int.toNat_of_nonneg h]
def r_ages (a : Int → Int) (age mill week known : Int) : Int := if r_fc a 7 mill week known < 0 then 60 else r_ag a (a (5012 + 8 * r_fc a 7 mill week known)) age (a (5500 + 840 * a (5012 + 8 * r_fc a 7 mill week known)))
def r_hours (a : Int → Int) (age mill week known : Int) : Int := if (if r_ages a age mill week known < 0 then 0 else r_ages a age mill week known) - r_most a 8 mill week known - r_most a 9 mill week known < 0 then 0 else (if r_ages a age mill week known < 0 then 0 else r_ages a age mill week known) - r_most a 8 mill week known - r_most a 9 mill week known
/-- what always holds of the TEXTS: counts, sorts, NUMBERS -/
def jv_T (a : Int → Int) : Prop := ∀ n, 0 ≤ n → n < a 5 → (0 ≤ a (5500 + 840 * n) ∧ a (5500 + 840 * n) ≤ 24) ∧ ∀ c, 0 ≤ c → c < a (5500 + 840 * n) → (1 ≤ a (5500 + 840 * n + 1 + 8 * c) ∧ a (5500 + 840 * n + 1 + 8 * c) ≤ 9) ∧ (a (5500 + 840 * n + 1 + 8 * c) = 2 ∨ a (5500 + 840 * n + 1 + 8 * c) = 3 → 0 ≤ a (5500 + 840 * n + 1 + 8 * c + 1) ∧ a (5500 + 840 * n + 1 + 8 * c + 1) ≤ 29) ∧ (a (5500 + 840 * n + 1 + 8 * c) = 6 → 0 ≤ a (5500 + 840 * n + 1 + 8 * c + 1) ∧ a (5500 + 840 * n + 1 + 8 * c + 1) ≤ 9999) ∧ (a (5500 + 840 * n + 1 + 8 * c) = 7 → (0 ≤ a (5500 + 840 * n + 1 + 8 * c + 1) ∧ a (5500 + 840 * n + 1 + 8 * c + 1) ≤ 99) ∧ (0 ≤ a (5500 + 840 * n + 1 + 8 * c + 2) ∧ a (5500 + 840 * n + 1 + 8 * c + 2) ≤ 99) ∧ (0 ≤ a (5500 + 840 * n + 1 + 8 * c + 3) ∧ a (5500 + 840 * n + 1 + 8 * c + 3) ≤ 80)) ∧ (8 ≤ a (5500 + 840 * n + 1 + 8 * c) → 0 ≤ a (5500 + 840 * n + 1 + 8 * c + 1) ∧ a (5500 + 840 * n + 1 + 8 * c + 1) ≤ 20)
theorem r_mx_b {a : Int → Int} {text sort n M : Int} (h0 : 0 ≤ n) (hM : 0 ≤ M) (h : ∀ c, 0 ≤ c → c < n → a (5500 + 840 * text + 1 + 8 * c) = sort → a (5500 + 840 * text + 1 + 8 * c + 1) ≤ M) : 0 ≤ r_mx a text sort n ∧ r_mx a text sort n ≤ M := by
  have key : ∀ m : Nat, (m : Int) ≤ n → 0 ≤ r_mxN a text sort m ∧ r_mxN a text sort m ≤ M := by
    intro m
    induction m with
    | zero => intro _; exact ⟨Int.le_refl _, hM⟩
    | succ m ih =>
      intro hm
      have i := ih (by omega)
      rw [r_mxN]
      split
      · next q => exact ⟨by omega, h m (by omega) (by omega) q.1⟩
      · exact i
  exact key n.toNat (by omega)
theorem r_ag_b {a : Int → Int} {text age n : Int} (h0 : 0 ≤ n) (h : ∀ c, 0 ≤ c → c < n → a (5500 + 840 * text + 1 + 8 * c) = 7 → 0 ≤ a (5500 + 840 * text + 1 + 8 * c + 3) ∧ a (5500 + 840 * text + 1 + 8 * c + 3) ≤ 80) : -1 ≤ r_ag a text age n ∧ r_ag a text age n ≤ 80 := by
  have key : ∀ m : Nat, (m : Int) ≤ n → -1 ≤ r_agN a text age m ∧ r_agN a text age m ≤ 80 := by
    intro m
    induction m with
    | zero => intro _; exact ⟨Int.le_refl _, (by decide : (-1 : Int) ≤ 80)⟩
    | succ m ih =>
      intro hm
      have i := ih (by omega)
      rw [r_agN]
      split
      · exact i
      · split
        · next q => have := h m (by omega) (by omega) q.1; omega
        · exact ⟨by omega, by omega⟩
  exact key n.toNat (by omega)
theorem r_ag_k {a : Int → Int} {text age i n : Int} (h0 : 0 ≤ i) (h : 0 ≤ r_ag a text age i) (hn : i ≤ n) : r_ag a text age n = r_ag a text age i := by
  have key : ∀ k : Nat, r_ag a text age (i + k) = r_ag a text age i := by
    intro k
    induction k with
    | zero => rw [show i + ((0 : Nat) : Int) = i by omega]
    | succ k ih =>
      rw [show i + ((k + 1 : Nat) : Int) = i + k + 1 by omega, r_ag_s (by omega), ih, if_pos h]
  have := key (n - i).toNat
  rw [show i + ((n - i).toNat : Int) = n by omega] at this
  exact this
