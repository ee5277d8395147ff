/-! ===== TEXTS: TOKENS of both are one, and how they are read (segments printed by wip/whole, contracts own work) ===== -/
theorem wcd_b (v : Int) : wcd v = 0 ∨ (3 ≤ wcd v ∧ wcd v ≤ 22) := by
  unfold wcd
  by_cases e0 : v = 482955846501
  · rw [if_pos e0]; decide
  rw [if_neg e0]
  by_cases e1 : v = 435812594273
  · rw [if_pos e1]; decide
  rw [if_neg e1]
  by_cases e2 : v = 2003330414
  · rw [if_pos e2]; decide
  rw [if_neg e2]
  by_cases e3 : v = 465557353332
  · rw [if_pos e3]; decide
  rw [if_neg e3]
  by_cases e4 : v = 6383461
  · rw [if_pos e4]; decide
  rw [if_neg e4]
  by_cases e5 : v = 469852318835
  · rw [if_pos e5]; decide
  rw [if_neg e5]
  by_cases e6 : v = 427020345710
  · rw [if_pos e6]; decide
  rw [if_neg e6]
  by_cases e7 : v = 6382692
  · rw [if_pos e7]; decide
  rw [if_neg e7]
  by_cases e8 : v = 1952541541
  · rw [if_pos e8]; decide
  rw [if_neg e8]
  by_cases e9 : v = 29807
  · rw [if_pos e9]; decide
  rw [if_neg e9]
  by_cases e10 : v = 448546566771
  · rw [if_pos e10]; decide
  rw [if_neg e10]
  by_cases e11 : v = 28530
  · rw [if_pos e11]; decide
  rw [if_neg e11]
  by_cases e12 : v = 6385252
  · rw [if_pos e12]; decide
  rw [if_neg e12]
  by_cases e13 : v = 7237492
  · rw [if_pos e13]; decide
  rw [if_neg e13]
  by_cases e14 : v = 482804460403
  · rw [if_pos e14]; decide
  rw [if_neg e14]
  by_cases e15 : v = 512869299304
  · rw [if_pos e15]; decide
  rw [if_neg e15]
  by_cases e16 : v = 2036429422
  · rw [if_pos e16]; decide
  rw [if_neg e16]
  by_cases e17 : v = 1751216740
  · rw [if_pos e17]; decide
  rw [if_neg e17]
  by_cases e18 : v = 7170414
  · rw [if_pos e18]; decide
  rw [if_neg e18]
  by_cases e19 : v = 7168376
  · rw [if_pos e19]; decide
  rw [if_neg e19]
  decide
theorem sgl (c : Int) (two : Prop) [Decidable two] : (rsy c two = 3 ∧ sy c two = 0) ∨ (rsy c two = 4 ∧ sy c two = 24) ∨ (rsy c two = 60 ∧ sy c two = 23) ∨ (rsy c two = 5 ∧ sy c two = 26) ∨ (rsy c two = 62 ∧ sy c two = 25) ∨ (rsy c two = 61 ∧ sy c two = 27) ∨ (rsy c two = 35 ∧ sy c two = 28) ∨ (rsy c two = 43 ∧ sy c two = 29) ∨ (rsy c two = 45 ∧ sy c two = 30) ∨ (rsy c two = 42 ∧ sy c two = 31) ∨ (rsy c two = 47 ∧ sy c two = 32) ∨ (rsy c two = 40 ∧ sy c two = 33) ∨ (rsy c two = 41 ∧ sy c two = 34) ∨ (rsy c two = 44 ∧ sy c two = 35) ∨ (rsy c two = 59 ∧ sy c two = 36) := by
  unfold rsy sy
  by_cases c60 : c = 60
  · rw [if_pos c60, if_pos c60]
    by_cases w : two
    · rw [if_pos w, if_pos w]; decide
    · rw [if_neg w, if_neg w]; decide
  rw [if_neg c60, if_neg c60]
  by_cases c62 : c = 62
  · rw [if_pos c62, if_pos c62]
    by_cases w : two
    · rw [if_pos w, if_pos w]; decide
    · rw [if_neg w, if_neg w]; decide
  rw [if_neg c62, if_neg c62]
  by_cases m : c = 61 ∨ c = 35 ∨ c = 43 ∨ c = 45 ∨ c = 42 ∨ c = 47 ∨ c = 40 ∨ c = 41 ∨ c = 44 ∨ c = 59
  · rw [if_pos m]
    rcases m with rfl | rfl | rfl | rfl | rfl | rfl | rfl | rfl | rfl | rfl
    · decide
    · decide
    · decide
    · decide
    · decide
    · decide
    · decide
    · decide
    · decide
    · decide
  · rw [if_neg m, if_neg (fun z => m (Or.inl z)), if_neg (fun z => m (by omega)), if_neg (fun z => m (by omega)), if_neg (fun z => m (by omega)), if_neg (fun z => m (by omega)), if_neg (fun z => m (by omega)), if_neg (fun z => m (by omega)), if_neg (fun z => m (by omega)), if_neg (fun z => m (by omega)), if_neg (fun z => m (by omega))]
    exact Or.inl ⟨rfl, rfl⟩
/-- one TOKEN of both -/
theorem rk_tk {T : Int → Int} {n s : Int} (hT : TB T n) (hs : 0 ≤ s ∧ s ≤ n) : ((rk T n s = 0 ↔ tk T n s = 1) ∧ (rk T n s = 1 ↔ tk T n s = 2) ∧ (rk T n s = 60 ↔ tk T n s = 23) ∧ (rk T n s = 4 ↔ tk T n s = 24) ∧ (rk T n s = 62 ↔ tk T n s = 25) ∧ (rk T n s = 5 ↔ tk T n s = 26) ∧ (rk T n s = 61 ↔ tk T n s = 27) ∧ (rk T n s = 35 ↔ tk T n s = 28) ∧ (rk T n s = 43 ↔ tk T n s = 29) ∧ (rk T n s = 45 ↔ tk T n s = 30) ∧ (rk T n s = 42 ↔ tk T n s = 31) ∧ (rk T n s = 47 ↔ tk T n s = 32) ∧ (rk T n s = 40 ↔ tk T n s = 33) ∧ (rk T n s = 41 ↔ tk T n s = 34) ∧ (rk T n s = 44 ↔ tk T n s = 35) ∧ (rk T n s = 59 ↔ tk T n s = 36)) ∧ (rk T n s = 2 → (s < n ∧ cL (T s)) ∧ tk T n s = wcd (wv T s (tE T n s))) ∧ (rk T n s ≠ 2 → tk T n s < 3 ∨ 22 < tk T n s) ∧ (s < n ↔ tk T n s ≠ 1) ∧ (tk T n s = 2 → s < n ∧ cD (T s)) ∧ (0 ≤ tk T n s ∧ tk T n s ≤ 36) ∧ (0 ≤ rk T n s ∧ rk T n s ≤ 255) := by
  have w := wcd_b (wv T s (tE T n s))
  by_cases h0 : n ≤ s
  · have e1 : rk T n s = 0 := if_pos h0
    have e2 : tk T n s = 1 := if_pos h0
    omega
  have bs := hT.2 s hs.1 (by omega)
  by_cases h1 : cD (T s)
  · have e1 : rk T n s = 1 := by unfold rk; rw [if_neg h0, if_pos h1]
    have e2 : tk T n s = 2 := by unfold tk; rw [if_neg h0, if_pos h1]
    omega
  by_cases h2 : cL (T s)
  · have e1 : rk T n s = 2 := by unfold rk; rw [if_neg h0, if_neg h1, if_pos h2]
    have e2 : tk T n s = wcd (wv T s (tE T n s)) := by unfold tk; rw [if_neg h0, if_neg h1, if_pos h2]
    refine ⟨by omega, fun _ => ⟨⟨by omega, h2⟩, e2⟩, fun z => absurd e1 z, by omega, fun z => by omega, by omega, by omega⟩
  have e1 : rk T n s = rsy (T s) (sv T n (s + 1) = 61) := by unfold rk; rw [if_neg h0, if_neg h1, if_neg h2]
  have e2 : tk T n s = sy (T s) (sv T n (s + 1) = 61) := by unfold tk; rw [if_neg h0, if_neg h1, if_neg h2]
  rw [e1, e2]
  have L : ∀ a b : Int, rsy (T s) (sv T n (s + 1) = 61) = a → sy (T s) (sv T n (s + 1) = 61) = b → (∀ P : Prop, (P ↔ b ≠ 1) ∨ True) := fun _ _ _ _ _ => Or.inr trivial
  clear L
  have k := sgl (T s) (sv T n (s + 1) = 61)
  have sn : s < n := by omega
  rcases k with ⟨a, b⟩ | ⟨a, b⟩ | ⟨a, b⟩ | ⟨a, b⟩ | ⟨a, b⟩ | ⟨a, b⟩ | ⟨a, b⟩ | ⟨a, b⟩ | ⟨a, b⟩ | ⟨a, b⟩ | ⟨a, b⟩ | ⟨a, b⟩ | ⟨a, b⟩ | ⟨a, b⟩ | ⟨a, b⟩
  · rw [a, b]
    exact ⟨by decide, fun z => absurd z (by decide), fun _ => by decide, ⟨fun _ => by decide, fun _ => sn⟩, fun z => absurd z (by decide), by decide, by decide⟩
  · rw [a, b]
    exact ⟨by decide, fun z => absurd z (by decide), fun _ => by decide, ⟨fun _ => by decide, fun _ => sn⟩, fun z => absurd z (by decide), by decide, by decide⟩
  · rw [a, b]
    exact ⟨by decide, fun z => absurd z (by decide), fun _ => by decide, ⟨fun _ => by decide, fun _ => sn⟩, fun z => absurd z (by decide), by decide, by decide⟩
  · rw [a, b]
    exact ⟨by decide, fun z => absurd z (by decide), fun _ => by decide, ⟨fun _ => by decide, fun _ => sn⟩, fun z => absurd z (by decide), by decide, by decide⟩
  · rw [a, b]
    exact ⟨by decide, fun z => absurd z (by decide), fun _ => by decide, ⟨fun _ => by decide, fun _ => sn⟩, fun z => absurd z (by decide), by decide, by decide⟩
  · rw [a, b]
    exact ⟨by decide, fun z => absurd z (by decide), fun _ => by decide, ⟨fun _ => by decide, fun _ => sn⟩, fun z => absurd z (by decide), by decide, by decide⟩
  · rw [a, b]
    exact ⟨by decide, fun z => absurd z (by decide), fun _ => by decide, ⟨fun _ => by decide, fun _ => sn⟩, fun z => absurd z (by decide), by decide, by decide⟩
  · rw [a, b]
    exact ⟨by decide, fun z => absurd z (by decide), fun _ => by decide, ⟨fun _ => by decide, fun _ => sn⟩, fun z => absurd z (by decide), by decide, by decide⟩
  · rw [a, b]
    exact ⟨by decide, fun z => absurd z (by decide), fun _ => by decide, ⟨fun _ => by decide, fun _ => sn⟩, fun z => absurd z (by decide), by decide, by decide⟩
  · rw [a, b]
    exact ⟨by decide, fun z => absurd z (by decide), fun _ => by decide, ⟨fun _ => by decide, fun _ => sn⟩, fun z => absurd z (by decide), by decide, by decide⟩
  · rw [a, b]
    exact ⟨by decide, fun z => absurd z (by decide), fun _ => by decide, ⟨fun _ => by decide, fun _ => sn⟩, fun z => absurd z (by decide), by decide, by decide⟩
  · rw [a, b]
    exact ⟨by decide, fun z => absurd z (by decide), fun _ => by decide, ⟨fun _ => by decide, fun _ => sn⟩, fun z => absurd z (by decide), by decide, by decide⟩
  · rw [a, b]
    exact ⟨by decide, fun z => absurd z (by decide), fun _ => by decide, ⟨fun _ => by decide, fun _ => sn⟩, fun z => absurd z (by decide), by decide, by decide⟩
  · rw [a, b]
    exact ⟨by decide, fun z => absurd z (by decide), fun _ => by decide, ⟨fun _ => by decide, fun _ => sn⟩, fun z => absurd z (by decide), by decide, by decide⟩
  · rw [a, b]
    exact ⟨by decide, fun z => absurd z (by decide), fun _ => by decide, ⟨fun _ => by decide, fun _ => sn⟩, fun z => absurd z (by decide), by decide, by decide⟩
theorem wcd_3 (x : Int) : wcd x = 3 ↔ x = 482955846501 := by
  refine ⟨fun h => ?_, fun h => by subst h; decide⟩
  unfold wcd at h
  by_cases e0 : x = 482955846501
  · exact e0
  rw [if_neg e0] at h
  by_cases e1 : x = 435812594273
  · rw [if_pos e1] at h; exact absurd h (by decide)
  rw [if_neg e1] at h
  by_cases e2 : x = 2003330414
  · rw [if_pos e2] at h; exact absurd h (by decide)
  rw [if_neg e2] at h
  by_cases e3 : x = 465557353332
  · rw [if_pos e3] at h; exact absurd h (by decide)
  rw [if_neg e3] at h
  by_cases e4 : x = 6383461
  · rw [if_pos e4] at h; exact absurd h (by decide)
  rw [if_neg e4] at h
  by_cases e5 : x = 469852318835
  · rw [if_pos e5] at h; exact absurd h (by decide)
  rw [if_neg e5] at h
  by_cases e6 : x = 427020345710
  · rw [if_pos e6] at h; exact absurd h (by decide)
  rw [if_neg e6] at h
  by_cases e7 : x = 6382692
  · rw [if_pos e7] at h; exact absurd h (by decide)
  rw [if_neg e7] at h
  by_cases e8 : x = 1952541541
  · rw [if_pos e8] at h; exact absurd h (by decide)
  rw [if_neg e8] at h
  by_cases e9 : x = 29807
  · rw [if_pos e9] at h; exact absurd h (by decide)
  rw [if_neg e9] at h
  by_cases e10 : x = 448546566771
  · rw [if_pos e10] at h; exact absurd h (by decide)
  rw [if_neg e10] at h
  by_cases e11 : x = 28530
  · rw [if_pos e11] at h; exact absurd h (by decide)
  rw [if_neg e11] at h
  by_cases e12 : x = 6385252
  · rw [if_pos e12] at h; exact absurd h (by decide)
  rw [if_neg e12] at h
  by_cases e13 : x = 7237492
  · rw [if_pos e13] at h; exact absurd h (by decide)
  rw [if_neg e13] at h
  by_cases e14 : x = 482804460403
  · rw [if_pos e14] at h; exact absurd h (by decide)
  rw [if_neg e14] at h
  by_cases e15 : x = 512869299304
  · rw [if_pos e15] at h; exact absurd h (by decide)
  rw [if_neg e15] at h
  by_cases e16 : x = 2036429422
  · rw [if_pos e16] at h; exact absurd h (by decide)
  rw [if_neg e16] at h
  by_cases e17 : x = 1751216740
  · rw [if_pos e17] at h; exact absurd h (by decide)
  rw [if_neg e17] at h
  by_cases e18 : x = 7170414
  · rw [if_pos e18] at h; exact absurd h (by decide)
  rw [if_neg e18] at h
  by_cases e19 : x = 7168376
  · rw [if_pos e19] at h; exact absurd h (by decide)
  rw [if_neg e19] at h
  exact absurd h (by decide)
theorem wcd_4 (x : Int) : wcd x = 4 ↔ x = 435812594273 := by
  refine ⟨fun h => ?_, fun h => by subst h; decide⟩
  unfold wcd at h
  by_cases e0 : x = 482955846501
  · rw [if_pos e0] at h; exact absurd h (by decide)
  rw [if_neg e0] at h
  by_cases e1 : x = 435812594273
  · exact e1
  rw [if_neg e1] at h
  by_cases e2 : x = 2003330414
  · rw [if_pos e2] at h; exact absurd h (by decide)
  rw [if_neg e2] at h
  by_cases e3 : x = 465557353332
  · rw [if_pos e3] at h; exact absurd h (by decide)
  rw [if_neg e3] at h
  by_cases e4 : x = 6383461
  · rw [if_pos e4] at h; exact absurd h (by decide)
  rw [if_neg e4] at h
  by_cases e5 : x = 469852318835
  · rw [if_pos e5] at h; exact absurd h (by decide)
  rw [if_neg e5] at h
  by_cases e6 : x = 427020345710
  · rw [if_pos e6] at h; exact absurd h (by decide)
  rw [if_neg e6] at h
  by_cases e7 : x = 6382692
  · rw [if_pos e7] at h; exact absurd h (by decide)
  rw [if_neg e7] at h
  by_cases e8 : x = 1952541541
  · rw [if_pos e8] at h; exact absurd h (by decide)
  rw [if_neg e8] at h
  by_cases e9 : x = 29807
  · rw [if_pos e9] at h; exact absurd h (by decide)
  rw [if_neg e9] at h
  by_cases e10 : x = 448546566771
  · rw [if_pos e10] at h; exact absurd h (by decide)
  rw [if_neg e10] at h
  by_cases e11 : x = 28530
  · rw [if_pos e11] at h; exact absurd h (by decide)
  rw [if_neg e11] at h
  by_cases e12 : x = 6385252
  · rw [if_pos e12] at h; exact absurd h (by decide)
  rw [if_neg e12] at h
  by_cases e13 : x = 7237492
  · rw [if_pos e13] at h; exact absurd h (by decide)
  rw [if_neg e13] at h
  by_cases e14 : x = 482804460403
  · rw [if_pos e14] at h; exact absurd h (by decide)
  rw [if_neg e14] at h
  by_cases e15 : x = 512869299304
  · rw [if_pos e15] at h; exact absurd h (by decide)
  rw [if_neg e15] at h
  by_cases e16 : x = 2036429422
  · rw [if_pos e16] at h; exact absurd h (by decide)
  rw [if_neg e16] at h
  by_cases e17 : x = 1751216740
  · rw [if_pos e17] at h; exact absurd h (by decide)
  rw [if_neg e17] at h
  by_cases e18 : x = 7170414
  · rw [if_pos e18] at h; exact absurd h (by decide)
  rw [if_neg e18] at h
  by_cases e19 : x = 7168376
  · rw [if_pos e19] at h; exact absurd h (by decide)
  rw [if_neg e19] at h
  exact absurd h (by decide)
theorem wcd_5 (x : Int) : wcd x = 5 ↔ x = 2003330414 := by
  refine ⟨fun h => ?_, fun h => by subst h; decide⟩
  unfold wcd at h
  by_cases e0 : x = 482955846501
  · rw [if_pos e0] at h; exact absurd h (by decide)
  rw [if_neg e0] at h
  by_cases e1 : x = 435812594273
  · rw [if_pos e1] at h; exact absurd h (by decide)
  rw [if_neg e1] at h
  by_cases e2 : x = 2003330414
  · exact e2
  rw [if_neg e2] at h
  by_cases e3 : x = 465557353332
  · rw [if_pos e3] at h; exact absurd h (by decide)
  rw [if_neg e3] at h
  by_cases e4 : x = 6383461
  · rw [if_pos e4] at h; exact absurd h (by decide)
  rw [if_neg e4] at h
  by_cases e5 : x = 469852318835
  · rw [if_pos e5] at h; exact absurd h (by decide)
  rw [if_neg e5] at h
  by_cases e6 : x = 427020345710
  · rw [if_pos e6] at h; exact absurd h (by decide)
  rw [if_neg e6] at h
  by_cases e7 : x = 6382692
  · rw [if_pos e7] at h; exact absurd h (by decide)
  rw [if_neg e7] at h
  by_cases e8 : x = 1952541541
  · rw [if_pos e8] at h; exact absurd h (by decide)
  rw [if_neg e8] at h
  by_cases e9 : x = 29807
  · rw [if_pos e9] at h; exact absurd h (by decide)
  rw [if_neg e9] at h
  by_cases e10 : x = 448546566771
  · rw [if_pos e10] at h; exact absurd h (by decide)
  rw [if_neg e10] at h
  by_cases e11 : x = 28530
  · rw [if_pos e11] at h; exact absurd h (by decide)
  rw [if_neg e11] at h
  by_cases e12 : x = 6385252
  · rw [if_pos e12] at h; exact absurd h (by decide)
  rw [if_neg e12] at h
  by_cases e13 : x = 7237492
  · rw [if_pos e13] at h; exact absurd h (by decide)
  rw [if_neg e13] at h
  by_cases e14 : x = 482804460403
  · rw [if_pos e14] at h; exact absurd h (by decide)
  rw [if_neg e14] at h
  by_cases e15 : x = 512869299304
  · rw [if_pos e15] at h; exact absurd h (by decide)
  rw [if_neg e15] at h
  by_cases e16 : x = 2036429422
  · rw [if_pos e16] at h; exact absurd h (by decide)
  rw [if_neg e16] at h
  by_cases e17 : x = 1751216740
  · rw [if_pos e17] at h; exact absurd h (by decide)
  rw [if_neg e17] at h
  by_cases e18 : x = 7170414
  · rw [if_pos e18] at h; exact absurd h (by decide)
  rw [if_neg e18] at h
  by_cases e19 : x = 7168376
  · rw [if_pos e19] at h; exact absurd h (by decide)
  rw [if_neg e19] at h
  exact absurd h (by decide)
theorem wcd_6 (x : Int) : wcd x = 6 ↔ x = 465557353332 := by
  refine ⟨fun h => ?_, fun h => by subst h; decide⟩
  unfold wcd at h
  by_cases e0 : x = 482955846501
  · rw [if_pos e0] at h; exact absurd h (by decide)
  rw [if_neg e0] at h
  by_cases e1 : x = 435812594273
  · rw [if_pos e1] at h; exact absurd h (by decide)
  rw [if_neg e1] at h
  by_cases e2 : x = 2003330414
  · rw [if_pos e2] at h; exact absurd h (by decide)
  rw [if_neg e2] at h
  by_cases e3 : x = 465557353332
  · exact e3
  rw [if_neg e3] at h
  by_cases e4 : x = 6383461
  · rw [if_pos e4] at h; exact absurd h (by decide)
  rw [if_neg e4] at h
  by_cases e5 : x = 469852318835
  · rw [if_pos e5] at h; exact absurd h (by decide)
  rw [if_neg e5] at h
  by_cases e6 : x = 427020345710
  · rw [if_pos e6] at h; exact absurd h (by decide)
  rw [if_neg e6] at h
  by_cases e7 : x = 6382692
  · rw [if_pos e7] at h; exact absurd h (by decide)
  rw [if_neg e7] at h
  by_cases e8 : x = 1952541541
  · rw [if_pos e8] at h; exact absurd h (by decide)
  rw [if_neg e8] at h
  by_cases e9 : x = 29807
  · rw [if_pos e9] at h; exact absurd h (by decide)
  rw [if_neg e9] at h
  by_cases e10 : x = 448546566771
  · rw [if_pos e10] at h; exact absurd h (by decide)
  rw [if_neg e10] at h
  by_cases e11 : x = 28530
  · rw [if_pos e11] at h; exact absurd h (by decide)
  rw [if_neg e11] at h
  by_cases e12 : x = 6385252
  · rw [if_pos e12] at h; exact absurd h (by decide)
  rw [if_neg e12] at h
  by_cases e13 : x = 7237492
  · rw [if_pos e13] at h; exact absurd h (by decide)
  rw [if_neg e13] at h
  by_cases e14 : x = 482804460403
  · rw [if_pos e14] at h; exact absurd h (by decide)
  rw [if_neg e14] at h
  by_cases e15 : x = 512869299304
  · rw [if_pos e15] at h; exact absurd h (by decide)
  rw [if_neg e15] at h
  by_cases e16 : x = 2036429422
  · rw [if_pos e16] at h; exact absurd h (by decide)
  rw [if_neg e16] at h
  by_cases e17 : x = 1751216740
  · rw [if_pos e17] at h; exact absurd h (by decide)
  rw [if_neg e17] at h
  by_cases e18 : x = 7170414
  · rw [if_pos e18] at h; exact absurd h (by decide)
  rw [if_neg e18] at h
  by_cases e19 : x = 7168376
  · rw [if_pos e19] at h; exact absurd h (by decide)
  rw [if_neg e19] at h
  exact absurd h (by decide)
theorem wcd_7 (x : Int) : wcd x = 7 ↔ x = 6383461 := by
  refine ⟨fun h => ?_, fun h => by subst h; decide⟩
  unfold wcd at h
  by_cases e0 : x = 482955846501
  · rw [if_pos e0] at h; exact absurd h (by decide)
  rw [if_neg e0] at h
  by_cases e1 : x = 435812594273
  · rw [if_pos e1] at h; exact absurd h (by decide)
  rw [if_neg e1] at h
  by_cases e2 : x = 2003330414
  · rw [if_pos e2] at h; exact absurd h (by decide)
  rw [if_neg e2] at h
  by_cases e3 : x = 465557353332
  · rw [if_pos e3] at h; exact absurd h (by decide)
  rw [if_neg e3] at h
  by_cases e4 : x = 6383461
  · exact e4
  rw [if_neg e4] at h
  by_cases e5 : x = 469852318835
  · rw [if_pos e5] at h; exact absurd h (by decide)
  rw [if_neg e5] at h
  by_cases e6 : x = 427020345710
  · rw [if_pos e6] at h; exact absurd h (by decide)
  rw [if_neg e6] at h
  by_cases e7 : x = 6382692
  · rw [if_pos e7] at h; exact absurd h (by decide)
  rw [if_neg e7] at h
  by_cases e8 : x = 1952541541
  · rw [if_pos e8] at h; exact absurd h (by decide)
  rw [if_neg e8] at h
  by_cases e9 : x = 29807
  · rw [if_pos e9] at h; exact absurd h (by decide)
  rw [if_neg e9] at h
  by_cases e10 : x = 448546566771
  · rw [if_pos e10] at h; exact absurd h (by decide)
  rw [if_neg e10] at h
  by_cases e11 : x = 28530
  · rw [if_pos e11] at h; exact absurd h (by decide)
  rw [if_neg e11] at h
  by_cases e12 : x = 6385252
  · rw [if_pos e12] at h; exact absurd h (by decide)
  rw [if_neg e12] at h
  by_cases e13 : x = 7237492
  · rw [if_pos e13] at h; exact absurd h (by decide)
  rw [if_neg e13] at h
  by_cases e14 : x = 482804460403
  · rw [if_pos e14] at h; exact absurd h (by decide)
  rw [if_neg e14] at h
  by_cases e15 : x = 512869299304
  · rw [if_pos e15] at h; exact absurd h (by decide)
  rw [if_neg e15] at h
  by_cases e16 : x = 2036429422
  · rw [if_pos e16] at h; exact absurd h (by decide)
  rw [if_neg e16] at h
  by_cases e17 : x = 1751216740
  · rw [if_pos e17] at h; exact absurd h (by decide)
  rw [if_neg e17] at h
  by_cases e18 : x = 7170414
  · rw [if_pos e18] at h; exact absurd h (by decide)
  rw [if_neg e18] at h
  by_cases e19 : x = 7168376
  · rw [if_pos e19] at h; exact absurd h (by decide)
  rw [if_neg e19] at h
  exact absurd h (by decide)
theorem wcd_8 (x : Int) : wcd x = 8 ↔ x = 469852318835 := by
  refine ⟨fun h => ?_, fun h => by subst h; decide⟩
  unfold wcd at h
  by_cases e0 : x = 482955846501
  · rw [if_pos e0] at h; exact absurd h (by decide)
  rw [if_neg e0] at h
  by_cases e1 : x = 435812594273
  · rw [if_pos e1] at h; exact absurd h (by decide)
  rw [if_neg e1] at h
  by_cases e2 : x = 2003330414
  · rw [if_pos e2] at h; exact absurd h (by decide)
  rw [if_neg e2] at h
  by_cases e3 : x = 465557353332
  · rw [if_pos e3] at h; exact absurd h (by decide)
  rw [if_neg e3] at h
  by_cases e4 : x = 6383461
  · rw [if_pos e4] at h; exact absurd h (by decide)
  rw [if_neg e4] at h
  by_cases e5 : x = 469852318835
  · exact e5
  rw [if_neg e5] at h
  by_cases e6 : x = 427020345710
  · rw [if_pos e6] at h; exact absurd h (by decide)
  rw [if_neg e6] at h
  by_cases e7 : x = 6382692
  · rw [if_pos e7] at h; exact absurd h (by decide)
  rw [if_neg e7] at h
  by_cases e8 : x = 1952541541
  · rw [if_pos e8] at h; exact absurd h (by decide)
  rw [if_neg e8] at h
  by_cases e9 : x = 29807
  · rw [if_pos e9] at h; exact absurd h (by decide)
  rw [if_neg e9] at h
  by_cases e10 : x = 448546566771
  · rw [if_pos e10] at h; exact absurd h (by decide)
  rw [if_neg e10] at h
  by_cases e11 : x = 28530
  · rw [if_pos e11] at h; exact absurd h (by decide)
  rw [if_neg e11] at h
  by_cases e12 : x = 6385252
  · rw [if_pos e12] at h; exact absurd h (by decide)
  rw [if_neg e12] at h
  by_cases e13 : x = 7237492
  · rw [if_pos e13] at h; exact absurd h (by decide)
  rw [if_neg e13] at h
  by_cases e14 : x = 482804460403
  · rw [if_pos e14] at h; exact absurd h (by decide)
  rw [if_neg e14] at h
  by_cases e15 : x = 512869299304
  · rw [if_pos e15] at h; exact absurd h (by decide)
  rw [if_neg e15] at h
  by_cases e16 : x = 2036429422
  · rw [if_pos e16] at h; exact absurd h (by decide)
  rw [if_neg e16] at h
  by_cases e17 : x = 1751216740
  · rw [if_pos e17] at h; exact absurd h (by decide)
  rw [if_neg e17] at h
  by_cases e18 : x = 7170414
  · rw [if_pos e18] at h; exact absurd h (by decide)
  rw [if_neg e18] at h
  by_cases e19 : x = 7168376
  · rw [if_pos e19] at h; exact absurd h (by decide)
  rw [if_neg e19] at h
  exact absurd h (by decide)
theorem wcd_9 (x : Int) : wcd x = 9 ↔ x = 427020345710 := by
  refine ⟨fun h => ?_, fun h => by subst h; decide⟩
  unfold wcd at h
  by_cases e0 : x = 482955846501
  · rw [if_pos e0] at h; exact absurd h (by decide)
  rw [if_neg e0] at h
  by_cases e1 : x = 435812594273
  · rw [if_pos e1] at h; exact absurd h (by decide)
  rw [if_neg e1] at h
  by_cases e2 : x = 2003330414
  · rw [if_pos e2] at h; exact absurd h (by decide)
  rw [if_neg e2] at h
  by_cases e3 : x = 465557353332
  · rw [if_pos e3] at h; exact absurd h (by decide)
  rw [if_neg e3] at h
  by_cases e4 : x = 6383461
  · rw [if_pos e4] at h; exact absurd h (by decide)
  rw [if_neg e4] at h
  by_cases e5 : x = 469852318835
  · rw [if_pos e5] at h; exact absurd h (by decide)
  rw [if_neg e5] at h
  by_cases e6 : x = 427020345710
  · exact e6
  rw [if_neg e6] at h
  by_cases e7 : x = 6382692
  · rw [if_pos e7] at h; exact absurd h (by decide)
  rw [if_neg e7] at h
  by_cases e8 : x = 1952541541
  · rw [if_pos e8] at h; exact absurd h (by decide)
  rw [if_neg e8] at h
  by_cases e9 : x = 29807
  · rw [if_pos e9] at h; exact absurd h (by decide)
  rw [if_neg e9] at h
  by_cases e10 : x = 448546566771
  · rw [if_pos e10] at h; exact absurd h (by decide)
  rw [if_neg e10] at h
  by_cases e11 : x = 28530
  · rw [if_pos e11] at h; exact absurd h (by decide)
  rw [if_neg e11] at h
  by_cases e12 : x = 6385252
  · rw [if_pos e12] at h; exact absurd h (by decide)
  rw [if_neg e12] at h
  by_cases e13 : x = 7237492
  · rw [if_pos e13] at h; exact absurd h (by decide)
  rw [if_neg e13] at h
  by_cases e14 : x = 482804460403
  · rw [if_pos e14] at h; exact absurd h (by decide)
  rw [if_neg e14] at h
  by_cases e15 : x = 512869299304
  · rw [if_pos e15] at h; exact absurd h (by decide)
  rw [if_neg e15] at h
  by_cases e16 : x = 2036429422
  · rw [if_pos e16] at h; exact absurd h (by decide)
  rw [if_neg e16] at h
  by_cases e17 : x = 1751216740
  · rw [if_pos e17] at h; exact absurd h (by decide)
  rw [if_neg e17] at h
  by_cases e18 : x = 7170414
  · rw [if_pos e18] at h; exact absurd h (by decide)
  rw [if_neg e18] at h
  by_cases e19 : x = 7168376
  · rw [if_pos e19] at h; exact absurd h (by decide)
  rw [if_neg e19] at h
  exact absurd h (by decide)
theorem wcd_10 (x : Int) : wcd x = 10 ↔ x = 6382692 := by
  refine ⟨fun h => ?_, fun h => by subst h; decide⟩
  unfold wcd at h
  by_cases e0 : x = 482955846501
  · rw [if_pos e0] at h; exact absurd h (by decide)
  rw [if_neg e0] at h
  by_cases e1 : x = 435812594273
  · rw [if_pos e1] at h; exact absurd h (by decide)
  rw [if_neg e1] at h
  by_cases e2 : x = 2003330414
  · rw [if_pos e2] at h; exact absurd h (by decide)
  rw [if_neg e2] at h
  by_cases e3 : x = 465557353332
  · rw [if_pos e3] at h; exact absurd h (by decide)
  rw [if_neg e3] at h
  by_cases e4 : x = 6383461
  · rw [if_pos e4] at h; exact absurd h (by decide)
  rw [if_neg e4] at h
  by_cases e5 : x = 469852318835
  · rw [if_pos e5] at h; exact absurd h (by decide)
  rw [if_neg e5] at h
  by_cases e6 : x = 427020345710
  · rw [if_pos e6] at h; exact absurd h (by decide)
  rw [if_neg e6] at h
  by_cases e7 : x = 6382692
  · exact e7
  rw [if_neg e7] at h
  by_cases e8 : x = 1952541541
  · rw [if_pos e8] at h; exact absurd h (by decide)
  rw [if_neg e8] at h
  by_cases e9 : x = 29807
  · rw [if_pos e9] at h; exact absurd h (by decide)
  rw [if_neg e9] at h
  by_cases e10 : x = 448546566771
  · rw [if_pos e10] at h; exact absurd h (by decide)
  rw [if_neg e10] at h
  by_cases e11 : x = 28530
  · rw [if_pos e11] at h; exact absurd h (by decide)
  rw [if_neg e11] at h
  by_cases e12 : x = 6385252
  · rw [if_pos e12] at h; exact absurd h (by decide)
  rw [if_neg e12] at h
  by_cases e13 : x = 7237492
  · rw [if_pos e13] at h; exact absurd h (by decide)
  rw [if_neg e13] at h
  by_cases e14 : x = 482804460403
  · rw [if_pos e14] at h; exact absurd h (by decide)
  rw [if_neg e14] at h
  by_cases e15 : x = 512869299304
  · rw [if_pos e15] at h; exact absurd h (by decide)
  rw [if_neg e15] at h
  by_cases e16 : x = 2036429422
  · rw [if_pos e16] at h; exact absurd h (by decide)
  rw [if_neg e16] at h
  by_cases e17 : x = 1751216740
  · rw [if_pos e17] at h; exact absurd h (by decide)
  rw [if_neg e17] at h
  by_cases e18 : x = 7170414
  · rw [if_pos e18] at h; exact absurd h (by decide)
  rw [if_neg e18] at h
  by_cases e19 : x = 7168376
  · rw [if_pos e19] at h; exact absurd h (by decide)
  rw [if_neg e19] at h
  exact absurd h (by decide)
theorem wcd_11 (x : Int) : wcd x = 11 ↔ x = 1952541541 := by
  refine ⟨fun h => ?_, fun h => by subst h; decide⟩
  unfold wcd at h
  by_cases e0 : x = 482955846501
  · rw [if_pos e0] at h; exact absurd h (by decide)
  rw [if_neg e0] at h
  by_cases e1 : x = 435812594273
  · rw [if_pos e1] at h; exact absurd h (by decide)
  rw [if_neg e1] at h
  by_cases e2 : x = 2003330414
  · rw [if_pos e2] at h; exact absurd h (by decide)
  rw [if_neg e2] at h
  by_cases e3 : x = 465557353332
  · rw [if_pos e3] at h; exact absurd h (by decide)
  rw [if_neg e3] at h
  by_cases e4 : x = 6383461
  · rw [if_pos e4] at h; exact absurd h (by decide)
  rw [if_neg e4] at h
  by_cases e5 : x = 469852318835
  · rw [if_pos e5] at h; exact absurd h (by decide)
  rw [if_neg e5] at h
  by_cases e6 : x = 427020345710
  · rw [if_pos e6] at h; exact absurd h (by decide)
  rw [if_neg e6] at h
  by_cases e7 : x = 6382692
  · rw [if_pos e7] at h; exact absurd h (by decide)
  rw [if_neg e7] at h
  by_cases e8 : x = 1952541541
  · exact e8
  rw [if_neg e8] at h
  by_cases e9 : x = 29807
  · rw [if_pos e9] at h; exact absurd h (by decide)
  rw [if_neg e9] at h
  by_cases e10 : x = 448546566771
  · rw [if_pos e10] at h; exact absurd h (by decide)
  rw [if_neg e10] at h
  by_cases e11 : x = 28530
  · rw [if_pos e11] at h; exact absurd h (by decide)
  rw [if_neg e11] at h
  by_cases e12 : x = 6385252
  · rw [if_pos e12] at h; exact absurd h (by decide)
  rw [if_neg e12] at h
  by_cases e13 : x = 7237492
  · rw [if_pos e13] at h; exact absurd h (by decide)
  rw [if_neg e13] at h
  by_cases e14 : x = 482804460403
  · rw [if_pos e14] at h; exact absurd h (by decide)
  rw [if_neg e14] at h
  by_cases e15 : x = 512869299304
  · rw [if_pos e15] at h; exact absurd h (by decide)
  rw [if_neg e15] at h
  by_cases e16 : x = 2036429422
  · rw [if_pos e16] at h; exact absurd h (by decide)
  rw [if_neg e16] at h
  by_cases e17 : x = 1751216740
  · rw [if_pos e17] at h; exact absurd h (by decide)
  rw [if_neg e17] at h
  by_cases e18 : x = 7170414
  · rw [if_pos e18] at h; exact absurd h (by decide)
  rw [if_neg e18] at h
  by_cases e19 : x = 7168376
  · rw [if_pos e19] at h; exact absurd h (by decide)
  rw [if_neg e19] at h
  exact absurd h (by decide)
theorem wcd_12 (x : Int) : wcd x = 12 ↔ x = 29807 := by
  refine ⟨fun h => ?_, fun h => by subst h; decide⟩
  unfold wcd at h
  by_cases e0 : x = 482955846501
  · rw [if_pos e0] at h; exact absurd h (by decide)
  rw [if_neg e0] at h
  by_cases e1 : x = 435812594273
  · rw [if_pos e1] at h; exact absurd h (by decide)
  rw [if_neg e1] at h
  by_cases e2 : x = 2003330414
  · rw [if_pos e2] at h; exact absurd h (by decide)
  rw [if_neg e2] at h
  by_cases e3 : x = 465557353332
  · rw [if_pos e3] at h; exact absurd h (by decide)
  rw [if_neg e3] at h
  by_cases e4 : x = 6383461
  · rw [if_pos e4] at h; exact absurd h (by decide)
  rw [if_neg e4] at h
  by_cases e5 : x = 469852318835
  · rw [if_pos e5] at h; exact absurd h (by decide)
  rw [if_neg e5] at h
  by_cases e6 : x = 427020345710
  · rw [if_pos e6] at h; exact absurd h (by decide)
  rw [if_neg e6] at h
  by_cases e7 : x = 6382692
  · rw [if_pos e7] at h; exact absurd h (by decide)
  rw [if_neg e7] at h
  by_cases e8 : x = 1952541541
  · rw [if_pos e8] at h; exact absurd h (by decide)
  rw [if_neg e8] at h
  by_cases e9 : x = 29807
  · exact e9
  rw [if_neg e9] at h
  by_cases e10 : x = 448546566771
  · rw [if_pos e10] at h; exact absurd h (by decide)
  rw [if_neg e10] at h
  by_cases e11 : x = 28530
  · rw [if_pos e11] at h; exact absurd h (by decide)
  rw [if_neg e11] at h
  by_cases e12 : x = 6385252
  · rw [if_pos e12] at h; exact absurd h (by decide)
  rw [if_neg e12] at h
  by_cases e13 : x = 7237492
  · rw [if_pos e13] at h; exact absurd h (by decide)
  rw [if_neg e13] at h
  by_cases e14 : x = 482804460403
  · rw [if_pos e14] at h; exact absurd h (by decide)
  rw [if_neg e14] at h
  by_cases e15 : x = 512869299304
  · rw [if_pos e15] at h; exact absurd h (by decide)
  rw [if_neg e15] at h
  by_cases e16 : x = 2036429422
  · rw [if_pos e16] at h; exact absurd h (by decide)
  rw [if_neg e16] at h
  by_cases e17 : x = 1751216740
  · rw [if_pos e17] at h; exact absurd h (by decide)
  rw [if_neg e17] at h
  by_cases e18 : x = 7170414
  · rw [if_pos e18] at h; exact absurd h (by decide)
  rw [if_neg e18] at h
  by_cases e19 : x = 7168376
  · rw [if_pos e19] at h; exact absurd h (by decide)
  rw [if_neg e19] at h
  exact absurd h (by decide)
theorem wcd_13 (x : Int) : wcd x = 13 ↔ x = 448546566771 := by
  refine ⟨fun h => ?_, fun h => by subst h; decide⟩
  unfold wcd at h
  by_cases e0 : x = 482955846501
  · rw [if_pos e0] at h; exact absurd h (by decide)
  rw [if_neg e0] at h
  by_cases e1 : x = 435812594273
  · rw [if_pos e1] at h; exact absurd h (by decide)
  rw [if_neg e1] at h
  by_cases e2 : x = 2003330414
  · rw [if_pos e2] at h; exact absurd h (by decide)
  rw [if_neg e2] at h
  by_cases e3 : x = 465557353332
  · rw [if_pos e3] at h; exact absurd h (by decide)
  rw [if_neg e3] at h
  by_cases e4 : x = 6383461
  · rw [if_pos e4] at h; exact absurd h (by decide)
  rw [if_neg e4] at h
  by_cases e5 : x = 469852318835
  · rw [if_pos e5] at h; exact absurd h (by decide)
  rw [if_neg e5] at h
  by_cases e6 : x = 427020345710
  · rw [if_pos e6] at h; exact absurd h (by decide)
  rw [if_neg e6] at h
  by_cases e7 : x = 6382692
  · rw [if_pos e7] at h; exact absurd h (by decide)
  rw [if_neg e7] at h
  by_cases e8 : x = 1952541541
  · rw [if_pos e8] at h; exact absurd h (by decide)
  rw [if_neg e8] at h
  by_cases e9 : x = 29807
  · rw [if_pos e9] at h; exact absurd h (by decide)
  rw [if_neg e9] at h
  by_cases e10 : x = 448546566771
  · exact e10
  rw [if_neg e10] at h
  by_cases e11 : x = 28530
  · rw [if_pos e11] at h; exact absurd h (by decide)
  rw [if_neg e11] at h
  by_cases e12 : x = 6385252
  · rw [if_pos e12] at h; exact absurd h (by decide)
  rw [if_neg e12] at h
  by_cases e13 : x = 7237492
  · rw [if_pos e13] at h; exact absurd h (by decide)
  rw [if_neg e13] at h
  by_cases e14 : x = 482804460403
  · rw [if_pos e14] at h; exact absurd h (by decide)
  rw [if_neg e14] at h
  by_cases e15 : x = 512869299304
  · rw [if_pos e15] at h; exact absurd h (by decide)
  rw [if_neg e15] at h
  by_cases e16 : x = 2036429422
  · rw [if_pos e16] at h; exact absurd h (by decide)
  rw [if_neg e16] at h
  by_cases e17 : x = 1751216740
  · rw [if_pos e17] at h; exact absurd h (by decide)
  rw [if_neg e17] at h
  by_cases e18 : x = 7170414
  · rw [if_pos e18] at h; exact absurd h (by decide)
  rw [if_neg e18] at h
  by_cases e19 : x = 7168376
  · rw [if_pos e19] at h; exact absurd h (by decide)
  rw [if_neg e19] at h
  exact absurd h (by decide)
theorem wcd_14 (x : Int) : wcd x = 14 ↔ x = 28530 := by
  refine ⟨fun h => ?_, fun h => by subst h; decide⟩
  unfold wcd at h
  by_cases e0 : x = 482955846501
  · rw [if_pos e0] at h; exact absurd h (by decide)
  rw [if_neg e0] at h
  by_cases e1 : x = 435812594273
  · rw [if_pos e1] at h; exact absurd h (by decide)
  rw [if_neg e1] at h
  by_cases e2 : x = 2003330414
  · rw [if_pos e2] at h; exact absurd h (by decide)
  rw [if_neg e2] at h
  by_cases e3 : x = 465557353332
  · rw [if_pos e3] at h; exact absurd h (by decide)
  rw [if_neg e3] at h
  by_cases e4 : x = 6383461
  · rw [if_pos e4] at h; exact absurd h (by decide)
  rw [if_neg e4] at h
  by_cases e5 : x = 469852318835
  · rw [if_pos e5] at h; exact absurd h (by decide)
  rw [if_neg e5] at h
  by_cases e6 : x = 427020345710
  · rw [if_pos e6] at h; exact absurd h (by decide)
  rw [if_neg e6] at h
  by_cases e7 : x = 6382692
  · rw [if_pos e7] at h; exact absurd h (by decide)
  rw [if_neg e7] at h
  by_cases e8 : x = 1952541541
  · rw [if_pos e8] at h; exact absurd h (by decide)
  rw [if_neg e8] at h
  by_cases e9 : x = 29807
  · rw [if_pos e9] at h; exact absurd h (by decide)
  rw [if_neg e9] at h
  by_cases e10 : x = 448546566771
  · rw [if_pos e10] at h; exact absurd h (by decide)
  rw [if_neg e10] at h
  by_cases e11 : x = 28530
  · exact e11
  rw [if_neg e11] at h
  by_cases e12 : x = 6385252
  · rw [if_pos e12] at h; exact absurd h (by decide)
  rw [if_neg e12] at h
  by_cases e13 : x = 7237492
  · rw [if_pos e13] at h; exact absurd h (by decide)
  rw [if_neg e13] at h
  by_cases e14 : x = 482804460403
  · rw [if_pos e14] at h; exact absurd h (by decide)
  rw [if_neg e14] at h
  by_cases e15 : x = 512869299304
  · rw [if_pos e15] at h; exact absurd h (by decide)
  rw [if_neg e15] at h
  by_cases e16 : x = 2036429422
  · rw [if_pos e16] at h; exact absurd h (by decide)
  rw [if_neg e16] at h
  by_cases e17 : x = 1751216740
  · rw [if_pos e17] at h; exact absurd h (by decide)
  rw [if_neg e17] at h
  by_cases e18 : x = 7170414
  · rw [if_pos e18] at h; exact absurd h (by decide)
  rw [if_neg e18] at h
  by_cases e19 : x = 7168376
  · rw [if_pos e19] at h; exact absurd h (by decide)
  rw [if_neg e19] at h
  exact absurd h (by decide)
theorem wcd_15 (x : Int) : wcd x = 15 ↔ x = 6385252 := by
  refine ⟨fun h => ?_, fun h => by subst h; decide⟩
  unfold wcd at h
  by_cases e0 : x = 482955846501
  · rw [if_pos e0] at h; exact absurd h (by decide)
  rw [if_neg e0] at h
  by_cases e1 : x = 435812594273
  · rw [if_pos e1] at h; exact absurd h (by decide)
  rw [if_neg e1] at h
  by_cases e2 : x = 2003330414
  · rw [if_pos e2] at h; exact absurd h (by decide)
  rw [if_neg e2] at h
  by_cases e3 : x = 465557353332
  · rw [if_pos e3] at h; exact absurd h (by decide)
  rw [if_neg e3] at h
  by_cases e4 : x = 6383461
  · rw [if_pos e4] at h; exact absurd h (by decide)
  rw [if_neg e4] at h
  by_cases e5 : x = 469852318835
  · rw [if_pos e5] at h; exact absurd h (by decide)
  rw [if_neg e5] at h
  by_cases e6 : x = 427020345710
  · rw [if_pos e6] at h; exact absurd h (by decide)
  rw [if_neg e6] at h
  by_cases e7 : x = 6382692
  · rw [if_pos e7] at h; exact absurd h (by decide)
  rw [if_neg e7] at h
  by_cases e8 : x = 1952541541
  · rw [if_pos e8] at h; exact absurd h (by decide)
  rw [if_neg e8] at h
  by_cases e9 : x = 29807
  · rw [if_pos e9] at h; exact absurd h (by decide)
  rw [if_neg e9] at h
  by_cases e10 : x = 448546566771
  · rw [if_pos e10] at h; exact absurd h (by decide)
  rw [if_neg e10] at h
  by_cases e11 : x = 28530
  · rw [if_pos e11] at h; exact absurd h (by decide)
  rw [if_neg e11] at h
  by_cases e12 : x = 6385252
  · exact e12
  rw [if_neg e12] at h
  by_cases e13 : x = 7237492
  · rw [if_pos e13] at h; exact absurd h (by decide)
  rw [if_neg e13] at h
  by_cases e14 : x = 482804460403
  · rw [if_pos e14] at h; exact absurd h (by decide)
  rw [if_neg e14] at h
  by_cases e15 : x = 512869299304
  · rw [if_pos e15] at h; exact absurd h (by decide)
  rw [if_neg e15] at h
  by_cases e16 : x = 2036429422
  · rw [if_pos e16] at h; exact absurd h (by decide)
  rw [if_neg e16] at h
  by_cases e17 : x = 1751216740
  · rw [if_pos e17] at h; exact absurd h (by decide)
  rw [if_neg e17] at h
  by_cases e18 : x = 7170414
  · rw [if_pos e18] at h; exact absurd h (by decide)
  rw [if_neg e18] at h
  by_cases e19 : x = 7168376
  · rw [if_pos e19] at h; exact absurd h (by decide)
  rw [if_neg e19] at h
  exact absurd h (by decide)
theorem wcd_16 (x : Int) : wcd x = 16 ↔ x = 7237492 := by
  refine ⟨fun h => ?_, fun h => by subst h; decide⟩
  unfold wcd at h
  by_cases e0 : x = 482955846501
  · rw [if_pos e0] at h; exact absurd h (by decide)
  rw [if_neg e0] at h
  by_cases e1 : x = 435812594273
  · rw [if_pos e1] at h; exact absurd h (by decide)
  rw [if_neg e1] at h
  by_cases e2 : x = 2003330414
  · rw [if_pos e2] at h; exact absurd h (by decide)
  rw [if_neg e2] at h
  by_cases e3 : x = 465557353332
  · rw [if_pos e3] at h; exact absurd h (by decide)
  rw [if_neg e3] at h
  by_cases e4 : x = 6383461
  · rw [if_pos e4] at h; exact absurd h (by decide)
  rw [if_neg e4] at h
  by_cases e5 : x = 469852318835
  · rw [if_pos e5] at h; exact absurd h (by decide)
  rw [if_neg e5] at h
  by_cases e6 : x = 427020345710
  · rw [if_pos e6] at h; exact absurd h (by decide)
  rw [if_neg e6] at h
  by_cases e7 : x = 6382692
  · rw [if_pos e7] at h; exact absurd h (by decide)
  rw [if_neg e7] at h
  by_cases e8 : x = 1952541541
  · rw [if_pos e8] at h; exact absurd h (by decide)
  rw [if_neg e8] at h
  by_cases e9 : x = 29807
  · rw [if_pos e9] at h; exact absurd h (by decide)
  rw [if_neg e9] at h
  by_cases e10 : x = 448546566771
  · rw [if_pos e10] at h; exact absurd h (by decide)
  rw [if_neg e10] at h
  by_cases e11 : x = 28530
  · rw [if_pos e11] at h; exact absurd h (by decide)
  rw [if_neg e11] at h
  by_cases e12 : x = 6385252
  · rw [if_pos e12] at h; exact absurd h (by decide)
  rw [if_neg e12] at h
  by_cases e13 : x = 7237492
  · exact e13
  rw [if_neg e13] at h
  by_cases e14 : x = 482804460403
  · rw [if_pos e14] at h; exact absurd h (by decide)
  rw [if_neg e14] at h
  by_cases e15 : x = 512869299304
  · rw [if_pos e15] at h; exact absurd h (by decide)
  rw [if_neg e15] at h
  by_cases e16 : x = 2036429422
  · rw [if_pos e16] at h; exact absurd h (by decide)
  rw [if_neg e16] at h
  by_cases e17 : x = 1751216740
  · rw [if_pos e17] at h; exact absurd h (by decide)
  rw [if_neg e17] at h
  by_cases e18 : x = 7170414
  · rw [if_pos e18] at h; exact absurd h (by decide)
  rw [if_neg e18] at h
  by_cases e19 : x = 7168376
  · rw [if_pos e19] at h; exact absurd h (by decide)
  rw [if_neg e19] at h
  exact absurd h (by decide)
theorem wcd_17 (x : Int) : wcd x = 17 ↔ x = 482804460403 := by
  refine ⟨fun h => ?_, fun h => by subst h; decide⟩
  unfold wcd at h
  by_cases e0 : x = 482955846501
  · rw [if_pos e0] at h; exact absurd h (by decide)
  rw [if_neg e0] at h
  by_cases e1 : x = 435812594273
  · rw [if_pos e1] at h; exact absurd h (by decide)
  rw [if_neg e1] at h
  by_cases e2 : x = 2003330414
  · rw [if_pos e2] at h; exact absurd h (by decide)
  rw [if_neg e2] at h
  by_cases e3 : x = 465557353332
  · rw [if_pos e3] at h; exact absurd h (by decide)
  rw [if_neg e3] at h
  by_cases e4 : x = 6383461
  · rw [if_pos e4] at h; exact absurd h (by decide)
  rw [if_neg e4] at h
  by_cases e5 : x = 469852318835
  · rw [if_pos e5] at h; exact absurd h (by decide)
  rw [if_neg e5] at h
  by_cases e6 : x = 427020345710
  · rw [if_pos e6] at h; exact absurd h (by decide)
  rw [if_neg e6] at h
  by_cases e7 : x = 6382692
  · rw [if_pos e7] at h; exact absurd h (by decide)
  rw [if_neg e7] at h
  by_cases e8 : x = 1952541541
  · rw [if_pos e8] at h; exact absurd h (by decide)
  rw [if_neg e8] at h
  by_cases e9 : x = 29807
  · rw [if_pos e9] at h; exact absurd h (by decide)
  rw [if_neg e9] at h
  by_cases e10 : x = 448546566771
  · rw [if_pos e10] at h; exact absurd h (by decide)
  rw [if_neg e10] at h
  by_cases e11 : x = 28530
  · rw [if_pos e11] at h; exact absurd h (by decide)
  rw [if_neg e11] at h
  by_cases e12 : x = 6385252
  · rw [if_pos e12] at h; exact absurd h (by decide)
  rw [if_neg e12] at h
  by_cases e13 : x = 7237492
  · rw [if_pos e13] at h; exact absurd h (by decide)
  rw [if_neg e13] at h
  by_cases e14 : x = 482804460403
  · exact e14
  rw [if_neg e14] at h
  by_cases e15 : x = 512869299304
  · rw [if_pos e15] at h; exact absurd h (by decide)
  rw [if_neg e15] at h
  by_cases e16 : x = 2036429422
  · rw [if_pos e16] at h; exact absurd h (by decide)
  rw [if_neg e16] at h
  by_cases e17 : x = 1751216740
  · rw [if_pos e17] at h; exact absurd h (by decide)
  rw [if_neg e17] at h
  by_cases e18 : x = 7170414
  · rw [if_pos e18] at h; exact absurd h (by decide)
  rw [if_neg e18] at h
  by_cases e19 : x = 7168376
  · rw [if_pos e19] at h; exact absurd h (by decide)
  rw [if_neg e19] at h
  exact absurd h (by decide)
theorem wcd_18 (x : Int) : wcd x = 18 ↔ x = 512869299304 := by
  refine ⟨fun h => ?_, fun h => by subst h; decide⟩
  unfold wcd at h
  by_cases e0 : x = 482955846501
  · rw [if_pos e0] at h; exact absurd h (by decide)
  rw [if_neg e0] at h
  by_cases e1 : x = 435812594273
  · rw [if_pos e1] at h; exact absurd h (by decide)
  rw [if_neg e1] at h
  by_cases e2 : x = 2003330414
  · rw [if_pos e2] at h; exact absurd h (by decide)
  rw [if_neg e2] at h
  by_cases e3 : x = 465557353332
  · rw [if_pos e3] at h; exact absurd h (by decide)
  rw [if_neg e3] at h
  by_cases e4 : x = 6383461
  · rw [if_pos e4] at h; exact absurd h (by decide)
  rw [if_neg e4] at h
  by_cases e5 : x = 469852318835
  · rw [if_pos e5] at h; exact absurd h (by decide)
  rw [if_neg e5] at h
  by_cases e6 : x = 427020345710
  · rw [if_pos e6] at h; exact absurd h (by decide)
  rw [if_neg e6] at h
  by_cases e7 : x = 6382692
  · rw [if_pos e7] at h; exact absurd h (by decide)
  rw [if_neg e7] at h
  by_cases e8 : x = 1952541541
  · rw [if_pos e8] at h; exact absurd h (by decide)
  rw [if_neg e8] at h
  by_cases e9 : x = 29807
  · rw [if_pos e9] at h; exact absurd h (by decide)
  rw [if_neg e9] at h
  by_cases e10 : x = 448546566771
  · rw [if_pos e10] at h; exact absurd h (by decide)
  rw [if_neg e10] at h
  by_cases e11 : x = 28530
  · rw [if_pos e11] at h; exact absurd h (by decide)
  rw [if_neg e11] at h
  by_cases e12 : x = 6385252
  · rw [if_pos e12] at h; exact absurd h (by decide)
  rw [if_neg e12] at h
  by_cases e13 : x = 7237492
  · rw [if_pos e13] at h; exact absurd h (by decide)
  rw [if_neg e13] at h
  by_cases e14 : x = 482804460403
  · rw [if_pos e14] at h; exact absurd h (by decide)
  rw [if_neg e14] at h
  by_cases e15 : x = 512869299304
  · exact e15
  rw [if_neg e15] at h
  by_cases e16 : x = 2036429422
  · rw [if_pos e16] at h; exact absurd h (by decide)
  rw [if_neg e16] at h
  by_cases e17 : x = 1751216740
  · rw [if_pos e17] at h; exact absurd h (by decide)
  rw [if_neg e17] at h
  by_cases e18 : x = 7170414
  · rw [if_pos e18] at h; exact absurd h (by decide)
  rw [if_neg e18] at h
  by_cases e19 : x = 7168376
  · rw [if_pos e19] at h; exact absurd h (by decide)
  rw [if_neg e19] at h
  exact absurd h (by decide)
theorem wcd_19 (x : Int) : wcd x = 19 ↔ x = 2036429422 := by
  refine ⟨fun h => ?_, fun h => by subst h; decide⟩
  unfold wcd at h
  by_cases e0 : x = 482955846501
  · rw [if_pos e0] at h; exact absurd h (by decide)
  rw [if_neg e0] at h
  by_cases e1 : x = 435812594273
  · rw [if_pos e1] at h; exact absurd h (by decide)
  rw [if_neg e1] at h
  by_cases e2 : x = 2003330414
  · rw [if_pos e2] at h; exact absurd h (by decide)
  rw [if_neg e2] at h
  by_cases e3 : x = 465557353332
  · rw [if_pos e3] at h; exact absurd h (by decide)
  rw [if_neg e3] at h
  by_cases e4 : x = 6383461
  · rw [if_pos e4] at h; exact absurd h (by decide)
  rw [if_neg e4] at h
  by_cases e5 : x = 469852318835
  · rw [if_pos e5] at h; exact absurd h (by decide)
  rw [if_neg e5] at h
  by_cases e6 : x = 427020345710
  · rw [if_pos e6] at h; exact absurd h (by decide)
  rw [if_neg e6] at h
  by_cases e7 : x = 6382692
  · rw [if_pos e7] at h; exact absurd h (by decide)
  rw [if_neg e7] at h
  by_cases e8 : x = 1952541541
  · rw [if_pos e8] at h; exact absurd h (by decide)
  rw [if_neg e8] at h
  by_cases e9 : x = 29807
  · rw [if_pos e9] at h; exact absurd h (by decide)
  rw [if_neg e9] at h
  by_cases e10 : x = 448546566771
  · rw [if_pos e10] at h; exact absurd h (by decide)
  rw [if_neg e10] at h
  by_cases e11 : x = 28530
  · rw [if_pos e11] at h; exact absurd h (by decide)
  rw [if_neg e11] at h
  by_cases e12 : x = 6385252
  · rw [if_pos e12] at h; exact absurd h (by decide)
  rw [if_neg e12] at h
  by_cases e13 : x = 7237492
  · rw [if_pos e13] at h; exact absurd h (by decide)
  rw [if_neg e13] at h
  by_cases e14 : x = 482804460403
  · rw [if_pos e14] at h; exact absurd h (by decide)
  rw [if_neg e14] at h
  by_cases e15 : x = 512869299304
  · rw [if_pos e15] at h; exact absurd h (by decide)
  rw [if_neg e15] at h
  by_cases e16 : x = 2036429422
  · exact e16
  rw [if_neg e16] at h
  by_cases e17 : x = 1751216740
  · rw [if_pos e17] at h; exact absurd h (by decide)
  rw [if_neg e17] at h
  by_cases e18 : x = 7170414
  · rw [if_pos e18] at h; exact absurd h (by decide)
  rw [if_neg e18] at h
  by_cases e19 : x = 7168376
  · rw [if_pos e19] at h; exact absurd h (by decide)
  rw [if_neg e19] at h
  exact absurd h (by decide)
theorem wcd_20 (x : Int) : wcd x = 20 ↔ x = 1751216740 := by
  refine ⟨fun h => ?_, fun h => by subst h; decide⟩
  unfold wcd at h
  by_cases e0 : x = 482955846501
  · rw [if_pos e0] at h; exact absurd h (by decide)
  rw [if_neg e0] at h
  by_cases e1 : x = 435812594273
  · rw [if_pos e1] at h; exact absurd h (by decide)
  rw [if_neg e1] at h
  by_cases e2 : x = 2003330414
  · rw [if_pos e2] at h; exact absurd h (by decide)
  rw [if_neg e2] at h
  by_cases e3 : x = 465557353332
  · rw [if_pos e3] at h; exact absurd h (by decide)
  rw [if_neg e3] at h
  by_cases e4 : x = 6383461
  · rw [if_pos e4] at h; exact absurd h (by decide)
  rw [if_neg e4] at h
  by_cases e5 : x = 469852318835
  · rw [if_pos e5] at h; exact absurd h (by decide)
  rw [if_neg e5] at h
  by_cases e6 : x = 427020345710
  · rw [if_pos e6] at h; exact absurd h (by decide)
  rw [if_neg e6] at h
  by_cases e7 : x = 6382692
  · rw [if_pos e7] at h; exact absurd h (by decide)
  rw [if_neg e7] at h
  by_cases e8 : x = 1952541541
  · rw [if_pos e8] at h; exact absurd h (by decide)
  rw [if_neg e8] at h
  by_cases e9 : x = 29807
  · rw [if_pos e9] at h; exact absurd h (by decide)
  rw [if_neg e9] at h
  by_cases e10 : x = 448546566771
  · rw [if_pos e10] at h; exact absurd h (by decide)
  rw [if_neg e10] at h
  by_cases e11 : x = 28530
  · rw [if_pos e11] at h; exact absurd h (by decide)
  rw [if_neg e11] at h
  by_cases e12 : x = 6385252
  · rw [if_pos e12] at h; exact absurd h (by decide)
  rw [if_neg e12] at h
  by_cases e13 : x = 7237492
  · rw [if_pos e13] at h; exact absurd h (by decide)
  rw [if_neg e13] at h
  by_cases e14 : x = 482804460403
  · rw [if_pos e14] at h; exact absurd h (by decide)
  rw [if_neg e14] at h
  by_cases e15 : x = 512869299304
  · rw [if_pos e15] at h; exact absurd h (by decide)
  rw [if_neg e15] at h
  by_cases e16 : x = 2036429422
  · rw [if_pos e16] at h; exact absurd h (by decide)
  rw [if_neg e16] at h
  by_cases e17 : x = 1751216740
  · exact e17
  rw [if_neg e17] at h
  by_cases e18 : x = 7170414
  · rw [if_pos e18] at h; exact absurd h (by decide)
  rw [if_neg e18] at h
  by_cases e19 : x = 7168376
  · rw [if_pos e19] at h; exact absurd h (by decide)
  rw [if_neg e19] at h
  exact absurd h (by decide)
theorem wcd_21 (x : Int) : wcd x = 21 ↔ x = 7170414 := by
  refine ⟨fun h => ?_, fun h => by subst h; decide⟩
  unfold wcd at h
  by_cases e0 : x = 482955846501
  · rw [if_pos e0] at h; exact absurd h (by decide)
  rw [if_neg e0] at h
  by_cases e1 : x = 435812594273
  · rw [if_pos e1] at h; exact absurd h (by decide)
  rw [if_neg e1] at h
  by_cases e2 : x = 2003330414
  · rw [if_pos e2] at h; exact absurd h (by decide)
  rw [if_neg e2] at h
  by_cases e3 : x = 465557353332
  · rw [if_pos e3] at h; exact absurd h (by decide)
  rw [if_neg e3] at h
  by_cases e4 : x = 6383461
  · rw [if_pos e4] at h; exact absurd h (by decide)
  rw [if_neg e4] at h
  by_cases e5 : x = 469852318835
  · rw [if_pos e5] at h; exact absurd h (by decide)
  rw [if_neg e5] at h
  by_cases e6 : x = 427020345710
  · rw [if_pos e6] at h; exact absurd h (by decide)
  rw [if_neg e6] at h
  by_cases e7 : x = 6382692
  · rw [if_pos e7] at h; exact absurd h (by decide)
  rw [if_neg e7] at h
  by_cases e8 : x = 1952541541
  · rw [if_pos e8] at h; exact absurd h (by decide)
  rw [if_neg e8] at h
  by_cases e9 : x = 29807
  · rw [if_pos e9] at h; exact absurd h (by decide)
  rw [if_neg e9] at h
  by_cases e10 : x = 448546566771
  · rw [if_pos e10] at h; exact absurd h (by decide)
  rw [if_neg e10] at h
  by_cases e11 : x = 28530
  · rw [if_pos e11] at h; exact absurd h (by decide)
  rw [if_neg e11] at h
  by_cases e12 : x = 6385252
  · rw [if_pos e12] at h; exact absurd h (by decide)
  rw [if_neg e12] at h
  by_cases e13 : x = 7237492
  · rw [if_pos e13] at h; exact absurd h (by decide)
  rw [if_neg e13] at h
  by_cases e14 : x = 482804460403
  · rw [if_pos e14] at h; exact absurd h (by decide)
  rw [if_neg e14] at h
  by_cases e15 : x = 512869299304
  · rw [if_pos e15] at h; exact absurd h (by decide)
  rw [if_neg e15] at h
  by_cases e16 : x = 2036429422
  · rw [if_pos e16] at h; exact absurd h (by decide)
  rw [if_neg e16] at h
  by_cases e17 : x = 1751216740
  · rw [if_pos e17] at h; exact absurd h (by decide)
  rw [if_neg e17] at h
  by_cases e18 : x = 7170414
  · exact e18
  rw [if_neg e18] at h
  by_cases e19 : x = 7168376
  · rw [if_pos e19] at h; exact absurd h (by decide)
  rw [if_neg e19] at h
  exact absurd h (by decide)
theorem wcd_22 (x : Int) : wcd x = 22 ↔ x = 7168376 := by
  refine ⟨fun h => ?_, fun h => by subst h; decide⟩
  unfold wcd at h
  by_cases e0 : x = 482955846501
  · rw [if_pos e0] at h; exact absurd h (by decide)
  rw [if_neg e0] at h
  by_cases e1 : x = 435812594273
  · rw [if_pos e1] at h; exact absurd h (by decide)
  rw [if_neg e1] at h
  by_cases e2 : x = 2003330414
  · rw [if_pos e2] at h; exact absurd h (by decide)
  rw [if_neg e2] at h
  by_cases e3 : x = 465557353332
  · rw [if_pos e3] at h; exact absurd h (by decide)
  rw [if_neg e3] at h
  by_cases e4 : x = 6383461
  · rw [if_pos e4] at h; exact absurd h (by decide)
  rw [if_neg e4] at h
  by_cases e5 : x = 469852318835
  · rw [if_pos e5] at h; exact absurd h (by decide)
  rw [if_neg e5] at h
  by_cases e6 : x = 427020345710
  · rw [if_pos e6] at h; exact absurd h (by decide)
  rw [if_neg e6] at h
  by_cases e7 : x = 6382692
  · rw [if_pos e7] at h; exact absurd h (by decide)
  rw [if_neg e7] at h
  by_cases e8 : x = 1952541541
  · rw [if_pos e8] at h; exact absurd h (by decide)
  rw [if_neg e8] at h
  by_cases e9 : x = 29807
  · rw [if_pos e9] at h; exact absurd h (by decide)
  rw [if_neg e9] at h
  by_cases e10 : x = 448546566771
  · rw [if_pos e10] at h; exact absurd h (by decide)
  rw [if_neg e10] at h
  by_cases e11 : x = 28530
  · rw [if_pos e11] at h; exact absurd h (by decide)
  rw [if_neg e11] at h
  by_cases e12 : x = 6385252
  · rw [if_pos e12] at h; exact absurd h (by decide)
  rw [if_neg e12] at h
  by_cases e13 : x = 7237492
  · rw [if_pos e13] at h; exact absurd h (by decide)
  rw [if_neg e13] at h
  by_cases e14 : x = 482804460403
  · rw [if_pos e14] at h; exact absurd h (by decide)
  rw [if_neg e14] at h
  by_cases e15 : x = 512869299304
  · rw [if_pos e15] at h; exact absurd h (by decide)
  rw [if_neg e15] at h
  by_cases e16 : x = 2036429422
  · rw [if_pos e16] at h; exact absurd h (by decide)
  rw [if_neg e16] at h
  by_cases e17 : x = 1751216740
  · rw [if_pos e17] at h; exact absurd h (by decide)
  rw [if_neg e17] at h
  by_cases e18 : x = 7170414
  · rw [if_pos e18] at h; exact absurd h (by decide)
  rw [if_neg e18] at h
  by_cases e19 : x = 7168376
  · exact e19
  rw [if_neg e19] at h
  exact absurd h (by decide)
/-- a word of the reference -/
theorem TR_w {T : Int → Int} {n s : Int} {σ τ : zI} (h : TR T n s σ τ) (hT : TB T n) {t v : Int} (ht : 3 ≤ t ∧ t ≤ 22) (hv : ∀ x, wcd x = t ↔ x = v) : (σ 83 9 = 2 ∧ τ 83 11 = v) ↔ tk T n s = t := by
  have r := rk_tk hT h.1
  obtain ⟨h1, h2, h3, h4, h5, h6, h7⟩ := h
  rw [h5]
  constructor
  · rintro ⟨a, b⟩
    have q := r.2.1 a
    rw [q.2, hv, ← h7 q.1.1 q.1.2]
    exact b
  · intro e
    have a : rk T n s = 2 := by
      by_cases a : rk T n s = 2
      · exact a
      · have := r.2.2.1 a; omega
    have q := r.2.1 a
    refine ⟨a, ?_⟩
    rw [h7 q.1.1 q.1.2, ← hv, ← q.2]
    exact e
/-- the NUMBER of a TOKEN, of the reference and of the class -/
def nm (T : Int → Int) (n s : Int) : Int := rv T s (tE T n s)
theorem nm_nv {T : Int → Int} {n s : Int} (hT : TB T n) (hs : 0 ≤ s ∧ s ≤ n) (h : tk T n s = 2) : ((nm T n s < 10000 ∧ nv T s (tE T n s) = nm T n s) ∨ (10000 ≤ nm T n s ∧ nv T s (tE T n s) = 10000)) ∧ 0 ≤ nm T n s := by
  have r := (rk_tk hT hs).2.2.2.2.1 h
  have eT : tE T n s = rn bD T n (s + 1) := by
    unfold tE
    rw [if_neg (by omega), if_neg (by omega), if_pos r.2]
  have e0 : tE T n s = rn bD T n s := by rw [eT]; exact (rn_go r.1 (bD_i.mpr r.2)).symm
  have i := rn_I (P := bD) (T := T) (n := n) (p := s) (by omega)
  rw [← e0] at i
  have j := rn_I (P := bD) (T := T) (n := tE T n s) (p := s) (by omega)
  have e1 : rn bD T (tE T n s) s = tE T n s := by
    by_cases c : rn bD T (tE T n s) s < tE T n s
    · have a := j.2.2 c
      have b := i.2.1 _ j.1.1 c
      rw [b] at a; cases a
    · omega
  have q := cv_rv (T := T) i.1.1 (fun x x0 x1 => bD_i.mp (i.2.1 x x0 x1))
  unfold nm nv
  rw [e1]
  exact q
/-- a reading: its FAULT (0: none), where it ends, its code -/
abbrev RR : Type := Int × Int × List (Int × Int)
section GR
variable (T : Int → Int) (n : Int)
def termO (one : Int → RR) : Nat → Int → List (Int × Int) → RR
  | 0, s, _ => (1, s, [])
  | m + 1, s, L => if tk T n s = 31 ∨ tk T n s = 32 then (if (one (nx T n s)).1 ≠ 0 then ((one (nx T n s)).1, (one (nx T n s)).2.1, []) else termO one m (one (nx T n s)).2.1 (L ++ (one (nx T n s)).2.2 ++ [(tk T n s - 26, 0)])) else (0, s, L)
def sumL (one : Int → RR) : Nat → Int → List (Int × Int) → Int → RR
  | 0, s, _, _ => (1, s, [])
  | m + 1, s, L, jn => if (one s).1 ≠ 0 then ((one s).1, (one s).2.1, []) else if (termO T n one 301 (one s).2.1 (one s).2.2).1 ≠ 0 then ((termO T n one 301 (one s).2.1 (one s).2.2).1, (termO T n one 301 (one s).2.1 (one s).2.2).2.1, []) else if tk T n (termO T n one 301 (one s).2.1 (one s).2.2).2.1 = 29 ∨ tk T n (termO T n one 301 (one s).2.1 (one s).2.2).2.1 = 30 then sumL one m (nx T n (termO T n one 301 (one s).2.1 (one s).2.2).2.1) (L ++ (termO T n one 301 (one s).2.1 (one s).2.2).2.2 ++ (if jn = 0 then [] else [(jn - 26, 0)])) (tk T n (termO T n one 301 (one s).2.1 (one s).2.2).2.1) else (0, (termO T n one 301 (one s).2.1 (one s).2.2).2.1, L ++ (termO T n one 301 (one s).2.1 (one s).2.2).2.2 ++ (if jn = 0 then [] else [(jn - 26, 0)]))
def sumO (one : Int → RR) (s : Int) : RR := sumL T n one 301 s [] 0
/-- what stands behind an opening sign -/
def parO (one : Int → RR) (s : Int) : RR := if (sumO T n one s).1 ≠ 0 then ((sumO T n one s).1, (sumO T n one s).2.1, []) else if tk T n (sumO T n one s).2.1 = 34 then (0, nx T n (sumO T n one s).2.1, (sumO T n one s).2.2) else (1, (sumO T n one s).2.1, [])
def pairO (one : Int → RR) (s w : Int) : RR := if (sumO T n one s).1 ≠ 0 then ((sumO T n one s).1, (sumO T n one s).2.1, []) else if tk T n (sumO T n one s).2.1 = 35 then (if (parO T n one (nx T n (sumO T n one s).2.1)).1 ≠ 0 then ((parO T n one (nx T n (sumO T n one s).2.1)).1, (parO T n one (nx T n (sumO T n one s).2.1)).2.1, []) else (0, (parO T n one (nx T n (sumO T n one s).2.1)).2.1, (sumO T n one s).2.2 ++ (parO T n one (nx T n (sumO T n one s).2.1)).2.2 ++ [(w, 0)])) else (1, (sumO T n one s).2.1, [])
def negO (one : Int → RR) (s : Int) : RR := if (one s).1 ≠ 0 then ((one s).1, (one s).2.1, []) else (0, (one s).2.1, (one s).2.2 ++ [(2, 0)])
/-- a ONE; so many more may be open -/
def oneK : Nat → Int → RR
  | 0, s => if tk T n s = 2 then (if 9999 < nm T n s then (2, s, []) else (0, nx T n s, [(0, nm T n s)])) else if 17 ≤ tk T n s ∧ tk T n s ≤ 20 then (0, nx T n s, [(1, tk T n s - 16)]) else if tk T n s = 21 ∨ tk T n s = 22 then (if tk T n (nx T n s) = 33 then (3, nx T n s, []) else (1, nx T n s, [])) else if tk T n s = 33 ∨ tk T n s = 30 then (3, s, []) else (1, s, [])
  | k + 1, s => if tk T n s = 2 then (if 9999 < nm T n s then (2, s, []) else (0, nx T n s, [(0, nm T n s)])) else if 17 ≤ tk T n s ∧ tk T n s ≤ 20 then (0, nx T n s, [(1, tk T n s - 16)]) else if tk T n s = 21 ∨ tk T n s = 22 then (if tk T n (nx T n s) = 33 then pairO T n (oneK k) (nx T n (nx T n s)) (tk T n s - 14) else (1, nx T n s, [])) else if tk T n s = 33 then parO T n (oneK k) (nx T n s) else if tk T n s = 30 then negO (oneK k) (nx T n s) else (1, s, [])
def notO : Nat → Int → Int → Int × Int × Int
  | 0, s, c => if tk T n s = 16 then (3, s, c) else (0, s, c)
  | k + 1, s, c => if tk T n s = 16 then notO k (nx T n s) (c + 1) else (0, s, c)
end GR
/-- how a reading goes on -/
def rOK (n : Int) (one : Int → RR) : Prop := ∀ s, 0 ≤ s → s ≤ n → ((one s).1 = 0 → s < (one s).2.1 ∧ (one s).2.1 ≤ n ∧ ((one s).2.2.length : Int) ≤ (one s).2.1 - s) ∧ ((one s).1 ≠ 0 → s ≤ (one s).2.1 ∧ (one s).2.1 ≤ n ∧ 1 ≤ (one s).1 ∧ (one s).1 ≤ 3)
