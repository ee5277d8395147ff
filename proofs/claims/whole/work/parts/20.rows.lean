/-! ===== Rows: a table of ints (own work) ===== -/
/-- the cell i is a table of width w, its numbers in the cell a of n places; c rows are there -/
def rw_T (h : ab_H) (i a w n c : Nat) : Prop := ab_ok h i 104 = true ∧ ab_i h i 0 = nI w ∧ ab_r h i 1 = some a ∧ ab_ok h a 0 = true ∧ (ab_s h a).2 = n ∧ ab_i h i 2 = nI c ∧ c * w ≤ n ∧ n < 2 ^ 20 ∧ 0 < w
def rw_at (h : ab_H) (a w c : Nat) (r k : Int32) : Int32 := if r < 0 ∨ nI c ≤ r ∨ k < 0 ∨ nI w ≤ k then -1 else ab_i h a (r.toNatClampNeg * w + k.toNatClampNeg)
theorem ab_in_nI {n N : Nat} (h : n < N) (hN : N < 2 ^ 31) : ab_in (nI n) N = true := by
  have := vp_in_nI h hN
  unfold ab_in
  rw [Bool.not_eq_true', Bool.or_eq_false_iff]
  exact ⟨decide_eq_false (fun q => this (Or.inl q)), decide_eq_false (fun q => this (Or.inr q))⟩
theorem rw_atS {d : Nat} {h : ab_H} {Q : Option Value → ab_H → Prop} {i a w n c : Nat} {r k : Int32} (hT : rw_T h i a w n c) (t : Q (some (.int (rw_at h a w c r k))) h) : wm d 55 [.ref i, .int r, .int k] h Q := by
  obtain ⟨h1, h2, h3, h4, h5, h6, h7, h8, h9⟩ := hT
  have hc : c < 2 ^ 20 := by
    have : c * 1 ≤ c * w := Nat.mul_le_mul_left _ h9
    omega
  refine m_55 (t_55_0 ?_)
  unfold rw_at at t
  rw [h2, h6]
  by_cases e1 : r < 0
  · rw [if_pos e1]; rw [if_pos (Or.inl e1)] at t; exact t
  rw [if_neg e1]
  refine ⟨h1, ?_⟩
  by_cases e2 : nI c ≤ r
  · rw [if_pos e2]; rw [if_pos (Or.inr (Or.inl e2))] at t; exact t
  rw [if_neg e2]
  by_cases e3 : k < 0
  · rw [if_pos e3]; rw [if_pos (Or.inr (Or.inr (Or.inl e3)))] at t; exact t
  rw [if_neg e3]
  refine ⟨h1, ?_⟩
  by_cases e4 : k < nI w
  · rw [if_pos e4]
    obtain ⟨r', hr', rfl⟩ := nI_of e1
    obtain ⟨k', hk', rfl⟩ := nI_of e3
    have a1 : r' < c := by
      apply Nat.not_le.mp
      intro q
      exact e2 (nI_le q hr')
    have hw : w < 2 ^ 20 + 1 := by
      have : 1 * w ≤ c * w := Nat.mul_le_mul_right _ (by omega)
      omega
    have a2 : k' < w := (nI_ltI hk' (by omega)).mp e4
    have a3 : r' * w + k' < n := by
      have : (r' + 1) * w ≤ c * w := Nat.mul_le_mul_right _ a1
      rw [Nat.add_mul] at this
      omega
    rw [if_neg (by
      rintro (q | q | q | q)
      · exact e1 q
      · exact e2 q
      · exact e3 q
      · exact nI_ge a2 (by omega) q), nI_clamp hr', nI_clamp hk'] at t
    refine ⟨h1, a, h3, h1, ?_⟩
    rw [pk_mul, nI_add]
    refine ⟨⟨Or.inr h4, by rw [h5]; exact ab_in_nI a3 (by omega)⟩, ?_⟩
    rw [nI_clamp (by omega)]
    exact t
  · rw [if_neg e4]
    rw [if_pos (Or.inr (Or.inr (Or.inr (Int32.not_lt.mp e4))))] at t
    exact t
/-- a place of the table, by its numbers -/
theorem rw_ix {h : ab_H} {i a w n c : Nat} {r k : Int32} (hT : rw_T h i a w n c) (e1 : ¬ r < 0) (e2 : ¬ nI c ≤ r) (e3 : ¬ k < 0) (e4 : ¬ nI w ≤ k) : ∃ r' k' : Nat, r = nI r' ∧ k = nI k' ∧ r' < c ∧ k' < w ∧ r' * w + k' < n ∧ r' < 2 ^ 31 ∧ k' < 2 ^ 31 ∧ n < 2 ^ 31 := by
  obtain ⟨-, -, -, -, -, -, h7, h8, h9⟩ := hT
  obtain ⟨r', hr', rfl⟩ := nI_of e1
  obtain ⟨k', hk', rfl⟩ := nI_of e3
  have a1 : r' < c := Nat.not_le.mp fun q => e2 (nI_le q hr')
  have a2 : k' < w := Nat.not_le.mp fun q => e4 (nI_le q hk')
  have a3 : r' * w + k' < n := by
    have : (r' + 1) * w ≤ c * w := Nat.mul_le_mul_right _ a1
    rw [Nat.add_mul] at this
    omega
  exact ⟨r', k', rfl, rfl, a1, a2, a3, hr', hk', by omega⟩
theorem rw_hasS {d : Nat} {h : ab_H} {Q : Option Value → ab_H → Prop} {i a w n c : Nat} {r : Int32} (hT : rw_T h i a w n c) (t : Q (some (.int (if r < 0 ∨ nI c ≤ r then 0 else 1))) h) : wm d 53 [.ref i, .int r] h Q := by
  obtain ⟨h1, h2, h3, h4, h5, h6, -⟩ := hT
  refine m_53 (t_53_0 ?_)
  rw [h6]
  by_cases e1 : r < 0
  · rw [if_pos e1]; rw [if_pos (Or.inl e1)] at t; exact t
  rw [if_neg e1]
  refine ⟨h1, ?_⟩
  by_cases e2 : nI c ≤ r
  · rw [if_pos e2]; rw [if_pos (Or.inr e2)] at t; exact t
  rw [if_neg e2]
  rw [if_neg (fun q => q.elim e1 e2)] at t
  exact t
def rw_put (h : ab_H) (a w c : Nat) (r k v : Int32) : ab_H := if r < 0 ∨ nI c ≤ r ∨ k < 0 ∨ nI w ≤ k then h else ab_pi h a (r.toNatClampNeg * w + k.toNatClampNeg) v
theorem rw_putS {d : Nat} {h : ab_H} {Q : Option Value → ab_H → Prop} {i a w n c : Nat} {r k v : Int32} (hT : rw_T h i a w n c) (t : Q none (rw_put h a w c r k v)) : wm d 56 [.ref i, .int r, .int k, .int v] h Q := by
  obtain ⟨h1, h2, h3, h4, h5, h6, -⟩ := id hT
  refine m_56 (t_56_0 ?_)
  unfold rw_put at t
  rw [h2, h6]
  by_cases e1 : r < 0
  · rw [if_pos e1]; rw [if_pos (Or.inl e1)] at t; exact t
  rw [if_neg e1]
  refine ⟨h1, ?_⟩
  by_cases e2 : nI c ≤ r
  · rw [if_pos e2]; rw [if_pos (Or.inr (Or.inl e2))] at t; exact t
  rw [if_neg e2]
  by_cases e3 : k < 0
  · rw [if_pos e3]; rw [if_pos (Or.inr (Or.inr (Or.inl e3)))] at t; exact t
  rw [if_neg e3]
  refine ⟨h1, ?_⟩
  by_cases e4 : nI w ≤ k
  · rw [if_pos e4]; rw [if_pos (Or.inr (Or.inr (Or.inr e4)))] at t; exact t
  rw [if_neg e4]
  rw [if_neg (by rintro (q | q | q | q) <;> contradiction)] at t
  obtain ⟨r', k', rfl, rfl, a1, a2, a3, hr', hk', hn⟩ := rw_ix hT e1 e2 e3 e4
  rw [nI_clamp hr', nI_clamp hk'] at t
  refine ⟨h1, a, h3, h1, ?_⟩
  rw [pk_mul, nI_add]
  refine ⟨⟨h4, by rw [h5]; exact ab_in_nI a3 hn⟩, fun h2' e => ?_⟩
  rw [e, nI_clamp (by omega)]
  exact t
def rw_raise (h : ab_H) (a w c : Nat) (r k v : Int32) : ab_H := if r < 0 ∨ nI c ≤ r ∨ k < 0 ∨ nI w ≤ k then h else ab_pi h a (r.toNatClampNeg * w + k.toNatClampNeg) (ab_i h a (r.toNatClampNeg * w + k.toNatClampNeg) + v)
theorem rw_raiseS {d : Nat} {h : ab_H} {Q : Option Value → ab_H → Prop} {i a w n c : Nat} {r k v : Int32} (hT : rw_T h i a w n c) (t : Q none (rw_raise h a w c r k v)) : wm d 57 [.ref i, .int r, .int k, .int v] h Q := by
  obtain ⟨h1, h2, h3, h4, h5, h6, -⟩ := id hT
  refine m_57 (t_57_0 ?_)
  unfold rw_raise at t
  rw [h2, h6]
  by_cases e1 : r < 0
  · rw [if_pos e1]; rw [if_pos (Or.inl e1)] at t; exact t
  rw [if_neg e1]
  refine ⟨h1, ?_⟩
  by_cases e2 : nI c ≤ r
  · rw [if_pos e2]; rw [if_pos (Or.inr (Or.inl e2))] at t; exact t
  rw [if_neg e2]
  by_cases e3 : k < 0
  · rw [if_pos e3]; rw [if_pos (Or.inr (Or.inr (Or.inl e3)))] at t; exact t
  rw [if_neg e3]
  refine ⟨h1, ?_⟩
  by_cases e4 : nI w ≤ k
  · rw [if_pos e4]; rw [if_pos (Or.inr (Or.inr (Or.inr e4)))] at t; exact t
  rw [if_neg e4]
  rw [if_neg (by rintro (q | q | q | q) <;> contradiction)] at t
  obtain ⟨r', k', rfl, rfl, a1, a2, a3, hr', hk', hn⟩ := rw_ix hT e1 e2 e3 e4
  rw [nI_clamp hr', nI_clamp hk'] at t
  refine ⟨h1, a, h3, h1, ?_⟩
  rw [pk_mul, nI_add]
  refine ⟨⟨Or.inr h4, by rw [h5]; exact ab_in_nI a3 hn⟩, ⟨h4, by rw [h5]; exact ab_in_nI a3 hn⟩, fun h2' e => ?_⟩
  rw [e, nI_clamp (by omega)]
  exact t
