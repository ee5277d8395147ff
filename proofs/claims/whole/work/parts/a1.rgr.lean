/-! ===== the grammar of TEXTS goes on (segments printed by wip/whole, contracts own work) ===== -/
section GRS
variable {T : Int → Int} {n : Int}
theorem tk_n {s : Int} (h : tk T n s ≠ 1) : s < n := by
  refine Decidable.byContradiction (fun z => h ?_)
  unfold tk
  rw [if_pos (by omega)]
theorem termO_ok {one : Int → RR} (ho : rOK n one) : ∀ (m : Nat) (s : Int) (L : List (Int × Int)) (s0 : Int), 0 ≤ s0 → s0 ≤ s → s ≤ n → n - s < m → (L.length : Int) ≤ s - s0 → ((termO T n one m s L).1 = 0 → s ≤ (termO T n one m s L).2.1 ∧ (termO T n one m s L).2.1 ≤ n ∧ ((termO T n one m s L).2.2.length : Int) ≤ (termO T n one m s L).2.1 - s0 ∧ tk T n (termO T n one m s L).2.1 ≠ 31 ∧ tk T n (termO T n one m s L).2.1 ≠ 32) ∧ ((termO T n one m s L).1 ≠ 0 → s ≤ (termO T n one m s L).2.1 ∧ (termO T n one m s L).2.1 ≤ n ∧ 1 ≤ (termO T n one m s L).1 ∧ (termO T n one m s L).1 ≤ 3)
  | 0, s, L, s0, h0, h1, h2, h3, h4 => by omega
  | m + 1, s, L, s0, h0, h1, h2, h3, h4 => by
    unfold termO
    by_cases c : tk T n s = 31 ∨ tk T n s = 32
    · rw [if_pos c]
      have sn := tk_n (T := T) (n := n) (s := s) (by omega)
      have nb := nx_b (T := T) sn
      have o := ho (nx T n s) (by omega) (by omega)
      by_cases e : (one (nx T n s)).1 ≠ 0
      · rw [if_pos e]
        have := o.2 e
        refine ⟨fun z => absurd z e, fun _ => ⟨?_, ?_, ?_, ?_⟩⟩
        · show s ≤ (one (nx T n s)).2.1; omega
        · exact this.2.1
        · exact this.2.2.1
        · exact this.2.2.2
      · rw [if_neg e]
        have := o.1 (by omega)
        have ih := termO_ok ho m (one (nx T n s)).2.1 (L ++ (one (nx T n s)).2.2 ++ [(tk T n s - 26, 0)]) s0 h0 (by omega) (by omega) (by omega) (by
          rw [List.length_append, List.length_append]
          have : (([(tk T n s - 26, (0 : Int))] : List (Int × Int)).length : Int) = 1 := rfl
          omega)
        refine ⟨fun z => ?_, fun z => ?_⟩
        · have := ih.1 z
          exact ⟨by omega, this.2⟩
        · have := ih.2 z
          exact ⟨by omega, this.2⟩
    · rw [if_neg c]
      refine ⟨fun _ => ⟨?_, h2, h4, ?_, ?_⟩, fun z => absurd rfl z⟩
      · show s ≤ s; omega
      · show tk T n s ≠ 31; omega
      · show tk T n s ≠ 32; omega
def jnO (jn : Int) : List (Int × Int) := if jn = 0 then [] else [(jn - 26, 0)]
theorem jnO_l (jn : Int) : ((jnO jn).length : Int) ≤ 1 := by
  unfold jnO
  split
  · rw [List.length_nil]; omega
  · rw [List.length_cons, List.length_nil]; omega
theorem sumL_ok (n3 : n ≤ 300) {one : Int → RR} (ho : rOK n one) : ∀ (m : Nat) (s : Int) (L : List (Int × Int)) (jn s0 : Int), 0 ≤ s0 → s0 ≤ s → s ≤ n → n - s < m → (L.length : Int) + (jnO jn).length ≤ s - s0 → ((sumL T n one m s L jn).1 = 0 → s < (sumL T n one m s L jn).2.1 ∧ (sumL T n one m s L jn).2.1 ≤ n ∧ ((sumL T n one m s L jn).2.2.length : Int) ≤ (sumL T n one m s L jn).2.1 - s0 ∧ (tk T n (sumL T n one m s L jn).2.1 < 29 ∨ 32 < tk T n (sumL T n one m s L jn).2.1)) ∧ ((sumL T n one m s L jn).1 ≠ 0 → s ≤ (sumL T n one m s L jn).2.1 ∧ (sumL T n one m s L jn).2.1 ≤ n ∧ 1 ≤ (sumL T n one m s L jn).1 ∧ (sumL T n one m s L jn).1 ≤ 3)
  | 0, s, L, jn, s0, h0, h1, h2, h3, h4 => by omega
  | m + 1, s, L, jn, s0, h0, h1, h2, h3, h4 => by
    unfold sumL
    have o := ho s (by omega) h2
    by_cases e : (one s).1 ≠ 0
    · rw [if_pos e]
      have := o.2 e
      exact ⟨fun z => absurd z e, fun _ => this⟩
    rw [if_neg e]
    have o1 := o.1 (by omega)
    have hT := termO_ok (T := T) ho 301 (one s).2.1 (one s).2.2 s (by omega) (by omega) (by omega)
    generalize termO T n one 301 (one s).2.1 (one s).2.2 = R at hT ⊢
    have hT := hT (by omega) (by omega)
    by_cases e2 : R.1 ≠ 0
    · rw [if_pos e2]
      have := hT.2 e2
      exact ⟨fun z => absurd z e2, fun _ => ⟨by show s ≤ R.2.1; omega, this.2⟩⟩
    rw [if_neg e2]
    have o2 := hT.1 (by omega)
    by_cases c : tk T n R.2.1 = 29 ∨ tk T n R.2.1 = 30
    · rw [if_pos c]
      have sn := tk_n (T := T) (n := n) (s := R.2.1) (by omega)
      have nb := nx_b (T := T) sn
      have jl := jnO_l (tk T n R.2.1)
      have ih := sumL_ok n3 ho m (nx T n R.2.1) (L ++ R.2.2 ++ jnO jn) (tk T n R.2.1) s0 h0 (by omega) (by omega) (by omega) (by
        rw [List.length_append, List.length_append]
        omega)
      refine ⟨fun z => ?_, fun z => ?_⟩
      · have := ih.1 z
        exact ⟨by unfold jnO at this; omega, this.2⟩
      · have := ih.2 z
        exact ⟨by unfold jnO at this; omega, this.2⟩
    · rw [if_neg c]
      refine ⟨fun _ => ⟨?_, o2.2.1, ?_, ?_⟩, fun z => absurd rfl z⟩
      · show s < R.2.1; omega
      · show ((L ++ R.2.2 ++ jnO jn).length : Int) ≤ R.2.1 - s0
        rw [List.length_append, List.length_append]
        omega
      · show tk T n R.2.1 < 29 ∨ 32 < tk T n R.2.1
        omega
theorem sumO_ok (n3 : n ≤ 300) {one : Int → RR} (ho : rOK n one) {s : Int} (h1 : 0 ≤ s) (h2 : s ≤ n) : ((sumO T n one s).1 = 0 → s < (sumO T n one s).2.1 ∧ (sumO T n one s).2.1 ≤ n ∧ ((sumO T n one s).2.2.length : Int) ≤ (sumO T n one s).2.1 - s ∧ (tk T n (sumO T n one s).2.1 < 29 ∨ 32 < tk T n (sumO T n one s).2.1)) ∧ ((sumO T n one s).1 ≠ 0 → s ≤ (sumO T n one s).2.1 ∧ (sumO T n one s).2.1 ≤ n ∧ 1 ≤ (sumO T n one s).1 ∧ (sumO T n one s).1 ≤ 3) :=
  sumL_ok n3 ho 301 s [] 0 s h1 (by omega) h2 (by omega) (by
    have : ((jnO 0).length : Int) = 0 := rfl
    rw [this, List.length_nil]; omega)
theorem parO_ok (n3 : n ≤ 300) {one : Int → RR} (ho : rOK n one) {s : Int} (h1 : 0 ≤ s) (h2 : s ≤ n) : ((parO T n one s).1 = 0 → s + 1 < (parO T n one s).2.1 ∧ (parO T n one s).2.1 ≤ n ∧ ((parO T n one s).2.2.length : Int) ≤ (parO T n one s).2.1 - s - 1) ∧ ((parO T n one s).1 ≠ 0 → s ≤ (parO T n one s).2.1 ∧ (parO T n one s).2.1 ≤ n ∧ 1 ≤ (parO T n one s).1 ∧ (parO T n one s).1 ≤ 3) := by
  have o := sumO_ok (T := T) n3 ho h1 h2
  unfold parO
  generalize sumO T n one s = R at o ⊢
  by_cases e : R.1 ≠ 0
  · rw [if_pos e]
    exact ⟨fun z => absurd z e, fun _ => o.2 e⟩
  rw [if_neg e]
  have o1 := o.1 (by omega)
  by_cases c : tk T n R.2.1 = 34
  · rw [if_pos c]
    have nb := nx_b (T := T) (tk_n (T := T) (n := n) (s := R.2.1) (by omega))
    refine ⟨fun _ => ⟨?_, nb.2, ?_⟩, fun z => absurd rfl z⟩
    · show s + 1 < nx T n R.2.1; omega
    · show (R.2.2.length : Int) ≤ nx T n R.2.1 - s - 1; omega
  · rw [if_neg c]
    refine ⟨fun z => absurd (show (1 : Int) = 0 from z) (by decide), fun _ => ⟨?_, o1.2.1, ?_, ?_⟩⟩
    · show s ≤ R.2.1; omega
    · show (1 : Int) ≤ 1; omega
    · show (1 : Int) ≤ 3; omega
theorem pairO_ok (n3 : n ≤ 300) {one : Int → RR} (ho : rOK n one) {s w : Int} (h1 : 0 ≤ s) (h2 : s ≤ n) : ((pairO T n one s w).1 = 0 → s + 1 < (pairO T n one s w).2.1 ∧ (pairO T n one s w).2.1 ≤ n ∧ ((pairO T n one s w).2.2.length : Int) ≤ (pairO T n one s w).2.1 - s) ∧ ((pairO T n one s w).1 ≠ 0 → s ≤ (pairO T n one s w).2.1 ∧ (pairO T n one s w).2.1 ≤ n ∧ 1 ≤ (pairO T n one s w).1 ∧ (pairO T n one s w).1 ≤ 3) := by
  have o := sumO_ok (T := T) n3 ho h1 h2
  unfold pairO
  generalize sumO T n one s = R at o ⊢
  by_cases e : R.1 ≠ 0
  · rw [if_pos e]
    exact ⟨fun z => absurd z e, fun _ => o.2 e⟩
  rw [if_neg e]
  have o1 := o.1 (by omega)
  by_cases c : tk T n R.2.1 = 35
  · rw [if_pos c]
    have nb := nx_b (T := T) (tk_n (T := T) (n := n) (s := R.2.1) (by omega))
    have p := parO_ok (T := T) n3 ho (s := nx T n R.2.1) (by omega) (by omega)
    generalize parO T n one (nx T n R.2.1) = R2 at p ⊢
    by_cases e2 : R2.1 ≠ 0
    · rw [if_pos e2]
      have := p.2 e2
      refine ⟨fun z => absurd z e2, fun _ => ⟨?_, this.2⟩⟩
      show s ≤ R2.2.1; omega
    rw [if_neg e2]
    have p1 := p.1 (by omega)
    refine ⟨fun _ => ⟨?_, p1.2.1, ?_⟩, fun z => absurd rfl z⟩
    · show s + 1 < R2.2.1; omega
    · show ((R.2.2 ++ R2.2.2 ++ [(w, 0)]).length : Int) ≤ R2.2.1 - s
      rw [List.length_append, List.length_append]
      have : (([(w, (0 : Int))] : List (Int × Int)).length : Int) = 1 := rfl
      omega
  · rw [if_neg c]
    refine ⟨fun z => absurd (show (1 : Int) = 0 from z) (by decide), fun _ => ⟨?_, o1.2.1, ?_, ?_⟩⟩
    · show s ≤ R.2.1; omega
    · show (1 : Int) ≤ 1; omega
    · show (1 : Int) ≤ 3; omega
theorem rOK_e {one : Int → RR} {r e : Int} (hr : 1 ≤ r ∧ r ≤ 3) {s : Int} (he : s ≤ e ∧ e ≤ n) (h : one s = (r, e, [])) : ((one s).1 = 0 → s < (one s).2.1 ∧ (one s).2.1 ≤ n ∧ ((one s).2.2.length : Int) ≤ (one s).2.1 - s) ∧ ((one s).1 ≠ 0 → s ≤ (one s).2.1 ∧ (one s).2.1 ≤ n ∧ 1 ≤ (one s).1 ∧ (one s).1 ≤ 3) := by
  rw [h]
  exact ⟨fun z => by have : r = 0 := z; omega, fun _ => ⟨he.1, he.2, hr.1, hr.2⟩⟩
theorem rOK_v {one : Int → RR} {x : Int × Int} {s e : Int} (he : s < e ∧ e ≤ n) (h : one s = (0, e, [x])) : ((one s).1 = 0 → s < (one s).2.1 ∧ (one s).2.1 ≤ n ∧ ((one s).2.2.length : Int) ≤ (one s).2.1 - s) ∧ ((one s).1 ≠ 0 → s ≤ (one s).2.1 ∧ (one s).2.1 ≤ n ∧ 1 ≤ (one s).1 ∧ (one s).1 ≤ 3) := by
  rw [h]
  refine ⟨fun _ => ⟨he.1, he.2, ?_⟩, fun z => absurd rfl z⟩
  show (([x] : List (Int × Int)).length : Int) ≤ e - s
  have : (([x] : List (Int × Int)).length : Int) = 1 := rfl
  omega
/-- what a ONE comes to, by the signs -/
theorem oneK_v {k : Nat} {s : Int} {x : Int × Int} (h : lfV T n s x) : oneK T n k s = (0, nx T n s, [x]) := by
  rcases h with ⟨h1, h2, rfl⟩ | ⟨h1, rfl⟩
  · cases k <;> (unfold oneK; rw [if_pos h1, if_neg (by omega)])
  · cases k <;> (unfold oneK; rw [if_neg (by omega), if_pos h1])
theorem oneK_e {k : Nat} {s r e : Int} (h : erV T n s (8 - k) r e) (hk : k ≤ 8) : oneK T n k s = (r, e, []) := by
  rcases h with ⟨h1, h2, rfl, rfl⟩ | ⟨h1, h2, rfl, rfl⟩ | ⟨h0, h1, h2, rfl, rfl⟩ | ⟨h0, h1, rfl, rfl⟩ | ⟨h1, h2, h3, h4, rfl, rfl⟩
  · cases k <;> (unfold oneK; rw [if_pos h1, if_pos h2])
  · cases k <;> (unfold oneK; rw [if_neg (by omega), if_neg (by omega), if_pos h1, if_neg h2])
  · have : k = 0 := by omega
    subst this
    unfold oneK
    rw [if_neg (by omega), if_neg (by omega), if_pos h1, if_pos h2]
  · have : k = 0 := by omega
    subst this
    unfold oneK
    rw [if_neg (by omega), if_neg (by omega), if_neg (by omega), if_pos h1]
  · cases k
    · unfold oneK; rw [if_neg h2, if_neg (by omega), if_neg (by omega), if_neg (by omega)]
    · unfold oneK; rw [if_neg h2, if_neg (by omega), if_neg (by omega), if_neg h3, if_neg h4]
/-- what an opening sign comes to -/
def opO (one : Int → RR) (w e : Int) : RR := if w = 2 then negO one e else if w = 40 then parO T n one e else pairO T n one e (w - 34)
theorem oneK_o {k : Nat} {s w e : Int} (h : opV T n s w e) : oneK T n (k + 1) s = opO (T := T) (n := n) (oneK T n k) w e := by
  unfold opO
  rcases h with ⟨rfl, h1, rfl⟩ | ⟨rfl, h1, rfl⟩ | ⟨rfl, h1, h2, rfl⟩
  · rw [if_neg (by omega), if_pos rfl]
    unfold oneK
    rw [if_neg (by omega), if_neg (by omega), if_neg (by omega), if_pos h1]
  · rw [if_pos rfl]
    unfold oneK
    rw [if_neg (by omega), if_neg (by omega), if_neg (by omega), if_neg (by omega), if_pos h1]
  · rw [if_neg (by omega), if_neg (by omega), show tk T n s + 20 - 34 = tk T n s - 14 by omega]
    conv => lhs; unfold oneK
    rw [if_neg (by omega), if_neg (by omega), if_pos h1, if_pos h2]
/-- one of the three stands at s -/
theorem one_3 (s : Int) (o : Int) : (∃ x, lfV T n s x) ∨ (∃ w e, opV T n s w e ∧ o ≠ 8) ∨ ∃ r e, erV T n s o r e := by
  by_cases h2 : tk T n s = 2
  · by_cases c : nm T n s ≤ 9999
    · exact Or.inl ⟨_, Or.inl ⟨h2, c, rfl⟩⟩
    · exact Or.inr (Or.inr ⟨2, s, Or.inl ⟨h2, by omega, rfl, rfl⟩⟩)
  by_cases h3 : 17 ≤ tk T n s ∧ tk T n s ≤ 20
  · exact Or.inl ⟨_, Or.inr ⟨h3, rfl⟩⟩
  by_cases h4 : tk T n s = 21 ∨ tk T n s = 22
  · by_cases c : tk T n (nx T n s) = 33
    · by_cases o8 : o = 8
      · exact Or.inr (Or.inr ⟨3, _, Or.inr (Or.inr (Or.inl ⟨o8, h4, c, rfl, rfl⟩))⟩)
      · exact Or.inr (Or.inl ⟨_, _, Or.inr (Or.inr ⟨rfl, h4, c, rfl⟩), o8⟩)
    · exact Or.inr (Or.inr ⟨1, _, Or.inr (Or.inl ⟨h4, c, rfl, rfl⟩)⟩)
  by_cases h5 : tk T n s = 33
  · by_cases o8 : o = 8
    · exact Or.inr (Or.inr ⟨3, _, Or.inr (Or.inr (Or.inr (Or.inl ⟨o8, Or.inl h5, rfl, rfl⟩)))⟩)
    · exact Or.inr (Or.inl ⟨_, _, Or.inl ⟨rfl, h5, rfl⟩, o8⟩)
  by_cases h6 : tk T n s = 30
  · by_cases o8 : o = 8
    · exact Or.inr (Or.inr ⟨3, _, Or.inr (Or.inr (Or.inr (Or.inl ⟨o8, Or.inr h6, rfl, rfl⟩)))⟩)
    · exact Or.inr (Or.inl ⟨_, _, Or.inr (Or.inl ⟨rfl, h6, rfl⟩), o8⟩)
  exact Or.inr (Or.inr ⟨1, s, Or.inr (Or.inr (Or.inr (Or.inr ⟨by omega, h2, h5, h6, rfl, rfl⟩)))⟩)
theorem erV_b {s o r e : Int} (hs : s ≤ n) (h : erV T n s o r e) : (1 ≤ r ∧ r ≤ 3) ∧ s ≤ e ∧ e ≤ n := by
  have nb : tk T n s = 21 ∨ tk T n s = 22 → s < nx T n s ∧ nx T n s ≤ n := fun z => nx_b (T := T) (tk_n (T := T) (n := n) (by omega))
  rcases h with ⟨h1, h2, rfl, rfl⟩ | ⟨h1, h2, rfl, rfl⟩ | ⟨h0, h1, h2, rfl, rfl⟩ | ⟨h0, h1, rfl, rfl⟩ | ⟨h1, h2, h3, h4, rfl, rfl⟩
  · omega
  · have := nb h1; omega
  · have := nb h1; omega
  · omega
  · omega
theorem opV_b {s w e : Int} (h : opV T n s w e) : s < e ∧ e ≤ n := by
  rcases h with ⟨rfl, h1, rfl⟩ | ⟨rfl, h1, rfl⟩ | ⟨rfl, h1, h2, rfl⟩
  · exact nx_b (T := T) (tk_n (T := T) (n := n) (by omega))
  · exact nx_b (T := T) (tk_n (T := T) (n := n) (by omega))
  · have a := nx_b (T := T) (tk_n (T := T) (n := n) (s := s) (by omega))
    have b := nx_b (T := T) (tk_n (T := T) (n := n) (s := nx T n s) (by omega))
    omega
theorem lfV_n {s : Int} {x : Int × Int} (h : lfV T n s x) : s < n := by
  rcases h with ⟨h1, h2, rfl⟩ | ⟨h1, rfl⟩ <;> exact tk_n (T := T) (by omega)
theorem oneK_ok (n3 : n ≤ 300) : ∀ k : Nat, k ≤ 8 → rOK n (oneK T n k)
  | k, hk8 => by
    intro s h1 h2
    rcases one_3 (T := T) (n := n) s (8 - k) with ⟨x, h⟩ | ⟨w, e, h, hk⟩ | ⟨r, e, h⟩
    · exact rOK_v (nx_b (T := T) (lfV_n h)) (oneK_v h)
    · cases k with
      | zero => exact absurd rfl hk
      | succ k =>
        have ih := oneK_ok n3 k (by omega)
        have eb := opV_b h
        rw [oneK_o h]
        unfold opO
        by_cases c : w = 2
        · rw [if_pos c]
          unfold negO
          have o := ih e (by omega) (by omega)
          generalize oneK T n k e = R at o ⊢
          by_cases e1 : R.1 ≠ 0
          · rw [if_pos e1]
            have := o.2 e1
            refine ⟨fun z => absurd z e1, fun _ => ⟨?_, this.2⟩⟩
            show s ≤ R.2.1; omega
          · rw [if_neg e1]
            have := o.1 (by omega)
            refine ⟨fun _ => ⟨?_, this.2.1, ?_⟩, fun z => absurd rfl z⟩
            · show s < R.2.1; omega
            · show ((R.2.2 ++ [((2 : Int), (0 : Int))]).length : Int) ≤ R.2.1 - s
              rw [List.length_append]
              have : (([((2 : Int), (0 : Int))] : List (Int × Int)).length : Int) = 1 := rfl
              omega
        rw [if_neg c]
        by_cases c : w = 40
        · rw [if_pos c]
          have o := parO_ok (T := T) n3 ih (s := e) (by omega) (by omega)
          generalize parO T n (oneK T n k) e = R at o ⊢
          refine ⟨fun z => ?_, fun z => ?_⟩
          · have := o.1 z
            omega
          · have := o.2 z
            omega
        · rw [if_neg c]
          have o := pairO_ok (T := T) n3 ih (s := e) (w := w - 34) (by omega) (by omega)
          generalize pairO T n (oneK T n k) e (w - 34) = R at o ⊢
          refine ⟨fun z => ?_, fun z => ?_⟩
          · have := o.1 z
            omega
          · have := o.2 z
            omega
    · have eb := erV_b h2 h
      exact rOK_e eb.1 eb.2 (oneK_e h hk8)
end GRS
