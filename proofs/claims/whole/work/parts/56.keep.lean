/-! ===== what always holds is kept by what is told (segments printed by wip/whole, contracts own work) ===== -/
theorem hZ {a a' : Int → Int} {n1 n2 n3 n4 : Int} (z : jv_Z a) (e0 : a' 0 = a 0) (e1 : a' 1 = n1) (e2 : a' 2 = n2) (e3 : a' 3 = n3) (e4 : a' 4 = n4) (c1 : a 1 ≤ n1) (c2 : a 2 ≤ n2) (c3 : a 3 ≤ n3) (c4 : a 4 ≤ n4) (hm : ∀ k, 3300 + 16 * n1 ≤ k → k < 3428 → a' k = a k) (hs : ∀ k, 3428 + 8 * n2 ≤ k → k < 3460 → a' k = a k) (hh : ∀ k, 3460 + 8 * n3 ≤ k → k < 3652 → a' k = a k) (hp : ∀ k, 3652 + 12 * n4 ≤ k → k < 4372 → a' k = a k) (hb : ∀ k, 22300 ≤ k → k < 111900 → a' k = a k) : jv_Z a' := by
  obtain ⟨z1, z2, z3, z4, z5, z6, z7⟩ := z
  subst e1 e2 e3 e4
  refine ⟨fun m k h0 h1 h2 h3 => ?_, fun s h0 h1 => ?_, fun h h0 h1 => ?_, fun p h0 h1 => ?_, fun w h q0 q1 q2 q3 q4 => ?_, fun w p q0 q1 q2 q3 q4 => ?_, fun w m q0 q1 q2 q3 q4 => ?_⟩
  · rw [hm _ (by omega) (by omega)]; exact z1 m k (by omega) h1 h2 h3
  · rw [hs _ (by omega) (by omega)]; exact z2 s (by omega) h1
  · rw [hh _ (by omega) (by omega), hh _ (by omega) (by omega)]; exact z3 h (by omega) h1
  · rw [hp _ (by omega) (by omega), hp _ (by omega) (by omega), hp _ (by omega) (by omega), hp _ (by omega) (by omega)]; exact z4 p (by omega) h1
  · rw [hb _ (by omega) (by omega), hb _ (by omega) (by omega), hb _ (by omega) (by omega), hb _ (by omega) (by omega)]; exact z5 w h q0 q1 q2 q3 (by omega)
  · rw [hb _ (by omega) (by omega), hb _ (by omega) (by omega)]; exact z6 w p q0 q1 q2 q3 (by omega)
  · rw [hb _ (by omega) (by omega)]; exact z7 w m q0 q1 q2 q3 (by omega)
theorem j_kind {a : Int → Int} {k picks width yarn hard extras : Int} (h : Jv a) (z : jv_Z a) : Jv (r_kind a k picks width yarn hard extras) ∧ jv_Z (r_kind a k picks width yarn hard extras) := by
  have hc := jC h
  have hs := jS h
  unfold jv_C at hc
  unfold jv_S at hs
  unfold r_kind
  by_cases hk : k_kind a k picks width yarn hard extras
  · rw [if_pos hk]
    simp only [k_kind] at hk
    refine ⟨⟨by unfold jv_C; simp (disch := omega) only [u1_n, u1_s]; omega, by unfold jv_S; simp (disch := omega) only [u1_n, u1_s]; omega, ?_, hW (fun k _ _ => by simp (disch := omega) only [u1_n]) (fun k _ _ => by simp (disch := omega) only [u1_n]) (jW h), hM (by simp (disch := omega) only [u1_n, u1_s]) (by simp (disch := omega) only [u1_n, u1_s]; omega) (fun k _ _ => by simp (disch := omega) only [u1_n]) (jM h), hQ (by simp (disch := omega) only [u1_n, u1_s]) (fun k _ _ => by simp (disch := omega) only [u1_n]) (jQ h), hH (by simp (disch := omega) only [u1_n, u1_s]; omega) (by simp (disch := omega) only [u1_n, u1_s]) (fun k _ _ => by simp (disch := omega) only [u1_n]) (jH h), hP (by simp (disch := omega) only [u1_n, u1_s]; omega) (by simp (disch := omega) only [u1_n, u1_s]; omega) (by simp (disch := omega) only [u1_n, u1_s]) (fun k _ _ => by simp (disch := omega) only [u1_n]) (fun k _ _ => by simp (disch := omega) only [u1_n]) (jP h), ?_, hF (by simp (disch := omega) only [u1_n, u1_s]; omega) (by simp (disch := omega) only [u1_n, u1_s]) (fun k _ _ => by simp (disch := omega) only [u1_n]) (jF h)⟩, ?_⟩
    · intro x x0 x1
      have q := jK h x x0 x1
      by_cases e : x = k
      · subst e
        simp (disch := omega) only [u1_n, u1_s]
        omega
      · simp (disch := omega) only [u1_n]
        exact q
    · refine ⟨fun o h0 h1 => ?_, fun x k0 k1 => ?_⟩
      · simp (disch := omega) only [u1_n] at h1
        have q := (jO h).1 o h0 h1
        simp (disch := omega) only [u1_n]
        exact q
      · have q := (jO h).2 x k0 k1
        simp (disch := omega) only [u1_n]
        rw [q]
    · exact hZ (n1 := a 1) (n2 := a 2) (n3 := a 3) (n4 := a 4) z (by simp (disch := omega) only [u1_n, u1_s]) (by simp (disch := omega) only [u1_n, u1_s]) (by simp (disch := omega) only [u1_n, u1_s]) (by simp (disch := omega) only [u1_n, u1_s]) (by simp (disch := omega) only [u1_n, u1_s]) (by omega) (by omega) (by omega) (by omega) (fun k _ _ => by simp (disch := omega) only [u1_n]) (fun k _ _ => by simp (disch := omega) only [u1_n]) (fun k _ _ => by simp (disch := omega) only [u1_n]) (fun k _ _ => by simp (disch := omega) only [u1_n]) (fun k _ _ => by simp (disch := omega) only [u1_n])
  · rw [if_neg hk]
    exact ⟨h, z⟩
theorem j_price {a : Int → Int} {what week v : Int} (h : Jv a) (z : jv_Z a) : Jv (r_price a what week v) ∧ jv_Z (r_price a what week v) := by
  have hc := jC h
  have hs := jS h
  unfold jv_C at hc
  unfold jv_S at hs
  unfold r_price
  by_cases hk : k_price a what week v
  · rw [if_pos hk]
    simp only [k_price] at hk
    refine ⟨⟨by unfold jv_C; simp (disch := omega) only [u1_n, u1_s]; omega, by unfold jv_S; simp (disch := omega) only [u1_n, u1_s]; omega, hK (fun k _ _ => by simp (disch := omega) only [u1_n]) (jK h), ?_, hM (by simp (disch := omega) only [u1_n, u1_s]) (by simp (disch := omega) only [u1_n, u1_s]; omega) (fun k _ _ => by simp (disch := omega) only [u1_n]) (jM h), hQ (by simp (disch := omega) only [u1_n, u1_s]) (fun k _ _ => by simp (disch := omega) only [u1_n]) (jQ h), hH (by simp (disch := omega) only [u1_n, u1_s]; omega) (by simp (disch := omega) only [u1_n, u1_s]) (fun k _ _ => by simp (disch := omega) only [u1_n]) (jH h), hP (by simp (disch := omega) only [u1_n, u1_s]; omega) (by simp (disch := omega) only [u1_n, u1_s]; omega) (by simp (disch := omega) only [u1_n, u1_s]) (fun k _ _ => by simp (disch := omega) only [u1_n]) (fun k _ _ => by simp (disch := omega) only [u1_n]) (jP h), hO (by simp (disch := omega) only [u1_n, u1_s]) (fun k _ _ => by simp (disch := omega) only [u1_n]) (fun k _ _ => by simp (disch := omega) only [u1_n]) (jO h), hF (by simp (disch := omega) only [u1_n, u1_s]; omega) (by simp (disch := omega) only [u1_n, u1_s]) (fun k _ _ => by simp (disch := omega) only [u1_n]) (jF h)⟩, ?_⟩
    · refine ⟨fun i w i0 i1 w0 w1 => ?_, fun i i0 i1 => ?_⟩
      · by_cases e : i = what ∧ w = week
        · obtain ⟨rfl, rfl⟩ := e
          rw [u1_s]
          omega
        · rw [u1_n (by omega)]
          exact (jW h).1 i w i0 i1 w0 w1
      · rw [u1_n (by omega)]
        exact (jW h).2 i i0 i1
    · exact hZ (n1 := a 1) (n2 := a 2) (n3 := a 3) (n4 := a 4) z (by simp (disch := omega) only [u1_n, u1_s]) (by simp (disch := omega) only [u1_n, u1_s]) (by simp (disch := omega) only [u1_n, u1_s]) (by simp (disch := omega) only [u1_n, u1_s]) (by simp (disch := omega) only [u1_n, u1_s]) (by omega) (by omega) (by omega) (by omega) (fun k _ _ => by simp (disch := omega) only [u1_n]) (fun k _ _ => by simp (disch := omega) only [u1_n]) (fun k _ _ => by simp (disch := omega) only [u1_n]) (fun k _ _ => by simp (disch := omega) only [u1_n]) (fun k _ _ => by simp (disch := omega) only [u1_n])
  · rw [if_neg hk]
    exact ⟨h, z⟩
theorem j_mean {a : Int → Int} {what v : Int} (h : Jv a) (z : jv_Z a) : Jv (r_mean a what v) ∧ jv_Z (r_mean a what v) := by
  have hc := jC h
  have hs := jS h
  unfold jv_C at hc
  unfold jv_S at hs
  unfold r_mean
  by_cases hk : k_mean a what v
  · rw [if_pos hk]
    simp only [k_mean] at hk
    refine ⟨⟨by unfold jv_C; simp (disch := omega) only [u1_n, u1_s]; omega, by unfold jv_S; simp (disch := omega) only [u1_n, u1_s]; omega, hK (fun k _ _ => by simp (disch := omega) only [u1_n]) (jK h), ?_, hM (by simp (disch := omega) only [u1_n, u1_s]) (by simp (disch := omega) only [u1_n, u1_s]; omega) (fun k _ _ => by simp (disch := omega) only [u1_n]) (jM h), hQ (by simp (disch := omega) only [u1_n, u1_s]) (fun k _ _ => by simp (disch := omega) only [u1_n]) (jQ h), hH (by simp (disch := omega) only [u1_n, u1_s]; omega) (by simp (disch := omega) only [u1_n, u1_s]) (fun k _ _ => by simp (disch := omega) only [u1_n]) (jH h), hP (by simp (disch := omega) only [u1_n, u1_s]; omega) (by simp (disch := omega) only [u1_n, u1_s]; omega) (by simp (disch := omega) only [u1_n, u1_s]) (fun k _ _ => by simp (disch := omega) only [u1_n]) (fun k _ _ => by simp (disch := omega) only [u1_n]) (jP h), hO (by simp (disch := omega) only [u1_n, u1_s]) (fun k _ _ => by simp (disch := omega) only [u1_n]) (fun k _ _ => by simp (disch := omega) only [u1_n]) (jO h), hF (by simp (disch := omega) only [u1_n, u1_s]; omega) (by simp (disch := omega) only [u1_n, u1_s]) (fun k _ _ => by simp (disch := omega) only [u1_n]) (jF h)⟩, ?_⟩
    · refine ⟨fun i w i0 i1 w0 w1 => ?_, fun i i0 i1 => ?_⟩
      · rw [u1_n (by omega)]
        exact (jW h).1 i w i0 i1 w0 w1
      · by_cases e : i = what
        · subst e
          rw [u1_s]
          omega
        · rw [u1_n (by omega)]
          exact (jW h).2 i i0 i1
    · exact hZ (n1 := a 1) (n2 := a 2) (n3 := a 3) (n4 := a 4) z (by simp (disch := omega) only [u1_n, u1_s]) (by simp (disch := omega) only [u1_n, u1_s]) (by simp (disch := omega) only [u1_n, u1_s]) (by simp (disch := omega) only [u1_n, u1_s]) (by simp (disch := omega) only [u1_n, u1_s]) (by omega) (by omega) (by omega) (by omega) (fun k _ _ => by simp (disch := omega) only [u1_n]) (fun k _ _ => by simp (disch := omega) only [u1_n]) (fun k _ _ => by simp (disch := omega) only [u1_n]) (fun k _ _ => by simp (disch := omega) only [u1_n]) (fun k _ _ => by simp (disch := omega) only [u1_n])
  · rw [if_neg hk]
    exact ⟨h, z⟩
theorem j_mill {a : Int → Int} {looms speed coins least : Int} (h : Jv a) (z : jv_Z a) : Jv (r_mill a looms speed coins least) ∧ jv_Z (r_mill a looms speed coins least) := by
  have hc := jC h
  have hs := jS h
  unfold jv_C at hc
  unfold jv_S at hs
  unfold r_mill
  by_cases hk : k_mill a looms speed coins least
  · rw [if_pos hk]
    simp only [k_mill] at hk
    refine ⟨⟨by unfold jv_C; simp (disch := omega) only [u1_n, u1_s]; omega, by unfold jv_S; simp (disch := omega) only [u1_n, u1_s]; omega, hK (fun k _ _ => by simp (disch := omega) only [u1_n]) (jK h), hW (fun k _ _ => by simp (disch := omega) only [u1_n]) (fun k _ _ => by simp (disch := omega) only [u1_n]) (jW h), ?_, hQ (by simp (disch := omega) only [u1_n, u1_s]) (fun k _ _ => by simp (disch := omega) only [u1_n]) (jQ h), hH (by simp (disch := omega) only [u1_n, u1_s]; omega) (by simp (disch := omega) only [u1_n, u1_s]) (fun k _ _ => by simp (disch := omega) only [u1_n]) (jH h), hP (by simp (disch := omega) only [u1_n, u1_s]; omega) (by simp (disch := omega) only [u1_n, u1_s]; omega) (by simp (disch := omega) only [u1_n, u1_s]) (fun k _ _ => by simp (disch := omega) only [u1_n]) (fun k _ _ => by simp (disch := omega) only [u1_n]) (jP h), hO (by simp (disch := omega) only [u1_n, u1_s]) (fun k _ _ => by simp (disch := omega) only [u1_n]) (fun k _ _ => by simp (disch := omega) only [u1_n]) (jO h), hF (by simp (disch := omega) only [u1_n, u1_s]; omega) (by simp (disch := omega) only [u1_n, u1_s]) (fun k _ _ => by simp (disch := omega) only [u1_n]) (jF h)⟩, ?_⟩
    · intro x x0 x1
      rw [u1_s] at x1
      have zz := fun k => z.1 (a 1) k (by omega) (by omega)
      by_cases e : x = a 1
      · subst e
        simp (disch := omega) only [u1_n, u1_s, zz]
        omega
      · have q := jM h x x0 (by omega)
        simp (disch := omega) only [u1_n]
        exact q
    · exact hZ (n1 := a 1 + 1) (n2 := a 2) (n3 := a 3) (n4 := a 4) z (by simp (disch := omega) only [u1_n, u1_s]) (by simp (disch := omega) only [u1_n, u1_s]) (by simp (disch := omega) only [u1_n, u1_s]) (by simp (disch := omega) only [u1_n, u1_s]) (by simp (disch := omega) only [u1_n, u1_s]) (by omega) (by omega) (by omega) (by omega) (fun k _ _ => by simp (disch := omega) only [u1_n]) (fun k _ _ => by simp (disch := omega) only [u1_n]) (fun k _ _ => by simp (disch := omega) only [u1_n]) (fun k _ _ => by simp (disch := omega) only [u1_n]) (fun k _ _ => by simp (disch := omega) only [u1_n])
  · rw [if_neg hk]
    exact ⟨h, z⟩
theorem j_shop {a : Int → Int} {coins trust rent : Int} (h : Jv a) (z : jv_Z a) : Jv (r_shop a coins trust rent) ∧ jv_Z (r_shop a coins trust rent) := by
  have hc := jC h
  have hs := jS h
  unfold jv_C at hc
  unfold jv_S at hs
  unfold r_shop
  by_cases hk : k_shop a coins trust rent
  · rw [if_pos hk]
    simp only [k_shop] at hk
    refine ⟨⟨by unfold jv_C; simp (disch := omega) only [u1_n, u1_s]; omega, by unfold jv_S; simp (disch := omega) only [u1_n, u1_s]; omega, hK (fun k _ _ => by simp (disch := omega) only [u1_n]) (jK h), hW (fun k _ _ => by simp (disch := omega) only [u1_n]) (fun k _ _ => by simp (disch := omega) only [u1_n]) (jW h), hM (by simp (disch := omega) only [u1_n, u1_s]) (by simp (disch := omega) only [u1_n, u1_s]; omega) (fun k _ _ => by simp (disch := omega) only [u1_n]) (jM h), ?_, hH (by simp (disch := omega) only [u1_n, u1_s]; omega) (by simp (disch := omega) only [u1_n, u1_s]) (fun k _ _ => by simp (disch := omega) only [u1_n]) (jH h), hP (by simp (disch := omega) only [u1_n, u1_s]; omega) (by simp (disch := omega) only [u1_n, u1_s]; omega) (by simp (disch := omega) only [u1_n, u1_s]) (fun k _ _ => by simp (disch := omega) only [u1_n]) (fun k _ _ => by simp (disch := omega) only [u1_n]) (jP h), hO (by simp (disch := omega) only [u1_n, u1_s]) (fun k _ _ => by simp (disch := omega) only [u1_n]) (fun k _ _ => by simp (disch := omega) only [u1_n]) (jO h), hF (by simp (disch := omega) only [u1_n, u1_s]; omega) (by simp (disch := omega) only [u1_n, u1_s]) (fun k _ _ => by simp (disch := omega) only [u1_n]) (jF h)⟩, ?_⟩
    · intro x x0 x1
      rw [u1_s] at x1
      have zz := z.2.1 (a 2) (by omega) (by omega)
      by_cases e : x = a 2
      · subst e
        simp (disch := omega) only [u1_n, u1_s, zz]
        omega
      · have q := jQ h x x0 (by omega)
        simp (disch := omega) only [u1_n]
        exact q
    · exact hZ (n1 := a 1) (n2 := a 2 + 1) (n3 := a 3) (n4 := a 4) z (by simp (disch := omega) only [u1_n, u1_s]) (by simp (disch := omega) only [u1_n, u1_s]) (by simp (disch := omega) only [u1_n, u1_s]) (by simp (disch := omega) only [u1_n, u1_s]) (by simp (disch := omega) only [u1_n, u1_s]) (by omega) (by omega) (by omega) (by omega) (fun k _ _ => by simp (disch := omega) only [u1_n]) (fun k _ _ => by simp (disch := omega) only [u1_n]) (fun k _ _ => by simp (disch := omega) only [u1_n]) (fun k _ _ => by simp (disch := omega) only [u1_n]) (fun k _ _ => by simp (disch := omega) only [u1_n])
  · rw [if_neg hk]
    exact ⟨h, z⟩
theorem j_home {a : Int → Int} {shop coins : Int} (h : Jv a) (z : jv_Z a) : Jv (r_home a shop coins) ∧ jv_Z (r_home a shop coins) := by
  have hc := jC h
  have hs := jS h
  unfold jv_C at hc
  unfold jv_S at hs
  unfold r_home
  by_cases hk : k_home a shop coins
  · rw [if_pos hk]
    simp only [k_home] at hk
    refine ⟨⟨by unfold jv_C; simp (disch := omega) only [u1_n, u1_s]; omega, by unfold jv_S; simp (disch := omega) only [u1_n, u1_s]; omega, hK (fun k _ _ => by simp (disch := omega) only [u1_n]) (jK h), hW (fun k _ _ => by simp (disch := omega) only [u1_n]) (fun k _ _ => by simp (disch := omega) only [u1_n]) (jW h), hM (by simp (disch := omega) only [u1_n, u1_s]) (by simp (disch := omega) only [u1_n, u1_s]; omega) (fun k _ _ => by simp (disch := omega) only [u1_n]) (jM h), hQ (by simp (disch := omega) only [u1_n, u1_s]) (fun k _ _ => by simp (disch := omega) only [u1_n]) (jQ h), ?_, hP (by simp (disch := omega) only [u1_n, u1_s]; omega) (by simp (disch := omega) only [u1_n, u1_s]; omega) (by simp (disch := omega) only [u1_n, u1_s]) (fun k _ _ => by simp (disch := omega) only [u1_n]) (fun k _ _ => by simp (disch := omega) only [u1_n]) (jP h), hO (by simp (disch := omega) only [u1_n, u1_s]) (fun k _ _ => by simp (disch := omega) only [u1_n]) (fun k _ _ => by simp (disch := omega) only [u1_n]) (jO h), hF (by simp (disch := omega) only [u1_n, u1_s]; omega) (by simp (disch := omega) only [u1_n, u1_s]) (fun k _ _ => by simp (disch := omega) only [u1_n]) (jF h)⟩, ?_⟩
    · intro x x0 x1
      rw [u1_s] at x1
      have zz := z.2.2.1 (a 3) (by omega) (by omega)
      by_cases e : x = a 3
      · subst e
        simp (disch := omega) only [u1_n, u1_s, zz.1, zz.2]
        omega
      · have q := jH h x x0 (by omega)
        simp (disch := omega) only [u1_n]
        exact q
    · exact hZ (n1 := a 1) (n2 := a 2) (n3 := a 3 + 1) (n4 := a 4) z (by simp (disch := omega) only [u1_n, u1_s]) (by simp (disch := omega) only [u1_n, u1_s]) (by simp (disch := omega) only [u1_n, u1_s]) (by simp (disch := omega) only [u1_n, u1_s]) (by simp (disch := omega) only [u1_n, u1_s]) (by omega) (by omega) (by omega) (by omega) (fun k _ _ => by simp (disch := omega) only [u1_n]) (fun k _ _ => by simp (disch := omega) only [u1_n]) (fun k _ _ => by simp (disch := omega) only [u1_n]) (fun k _ _ => by simp (disch := omega) only [u1_n]) (fun k _ _ => by simp (disch := omega) only [u1_n])
  · rw [if_neg hk]
    exact ⟨h, z⟩
theorem j_terms {a : Int → Int} {rail dear : Int} (h : Jv a) (z : jv_Z a) : Jv (r_terms a rail dear) ∧ jv_Z (r_terms a rail dear) := by
  have hc := jC h
  have hs := jS h
  unfold jv_C at hc
  unfold jv_S at hs
  unfold r_terms
  by_cases hk : k_terms a rail dear
  · rw [if_pos hk]
    simp only [k_terms] at hk
    refine ⟨⟨by unfold jv_C; simp (disch := omega) only [u1_n, u1_s]; omega, by unfold jv_S; simp (disch := omega) only [u1_n, u1_s]; omega, hK (fun k _ _ => by simp (disch := omega) only [u1_n]) (jK h), hW (fun k _ _ => by simp (disch := omega) only [u1_n]) (fun k _ _ => by simp (disch := omega) only [u1_n]) (jW h), hM (by simp (disch := omega) only [u1_n, u1_s]) (by simp (disch := omega) only [u1_n, u1_s]; omega) (fun k _ _ => by simp (disch := omega) only [u1_n]) (jM h), hQ (by simp (disch := omega) only [u1_n, u1_s]) (fun k _ _ => by simp (disch := omega) only [u1_n]) (jQ h), hH (by simp (disch := omega) only [u1_n, u1_s]; omega) (by simp (disch := omega) only [u1_n, u1_s]) (fun k _ _ => by simp (disch := omega) only [u1_n]) (jH h), hP (by simp (disch := omega) only [u1_n, u1_s]; omega) (by simp (disch := omega) only [u1_n, u1_s]; omega) (by simp (disch := omega) only [u1_n, u1_s]) (fun k _ _ => by simp (disch := omega) only [u1_n]) (fun k _ _ => by simp (disch := omega) only [u1_n]) (jP h), hO (by simp (disch := omega) only [u1_n, u1_s]) (fun k _ _ => by simp (disch := omega) only [u1_n]) (fun k _ _ => by simp (disch := omega) only [u1_n]) (jO h), hF (by simp (disch := omega) only [u1_n, u1_s]; omega) (by simp (disch := omega) only [u1_n, u1_s]) (fun k _ _ => by simp (disch := omega) only [u1_n]) (jF h)⟩, ?_⟩
    · exact hZ (n1 := a 1) (n2 := a 2) (n3 := a 3) (n4 := a 4) z (by simp (disch := omega) only [u1_n, u1_s]) (by simp (disch := omega) only [u1_n, u1_s]) (by simp (disch := omega) only [u1_n, u1_s]) (by simp (disch := omega) only [u1_n, u1_s]) (by simp (disch := omega) only [u1_n, u1_s]) (by omega) (by omega) (by omega) (by omega) (fun k _ _ => by simp (disch := omega) only [u1_n]) (fun k _ _ => by simp (disch := omega) only [u1_n]) (fun k _ _ => by simp (disch := omega) only [u1_n]) (fun k _ _ => by simp (disch := omega) only [u1_n]) (fun k _ _ => by simp (disch := omega) only [u1_n])
  · rw [if_neg hk]
    exact ⟨h, z⟩
theorem j_offer {a : Int → Int} {side v : Int} (h : Jv a) (z : jv_Z a) : Jv (r_offer a side v) ∧ jv_Z (r_offer a side v) := by
  have hc := jC h
  have hs := jS h
  unfold jv_C at hc
  unfold jv_S at hs
  unfold r_offer
  by_cases hk : k_offer a side v
  · rw [if_pos hk]
    simp only [k_offer] at hk
    refine ⟨⟨by unfold jv_C; simp (disch := omega) only [u1_n, u1_s]; omega, ?_, hK (fun k _ _ => by simp (disch := omega) only [u1_n]) (jK h), hW (fun k _ _ => by simp (disch := omega) only [u1_n]) (fun k _ _ => by simp (disch := omega) only [u1_n]) (jW h), hM (by simp (disch := omega) only [u1_n, u1_s]) (by simp (disch := omega) only [u1_n, u1_s]; omega) (fun k _ _ => by simp (disch := omega) only [u1_n]) (jM h), hQ (by simp (disch := omega) only [u1_n, u1_s]) (fun k _ _ => by simp (disch := omega) only [u1_n]) (jQ h), hH (by simp (disch := omega) only [u1_n, u1_s]; omega) (by simp (disch := omega) only [u1_n, u1_s]) (fun k _ _ => by simp (disch := omega) only [u1_n]) (jH h), hP (by simp (disch := omega) only [u1_n, u1_s]; omega) (by simp (disch := omega) only [u1_n, u1_s]; omega) (by simp (disch := omega) only [u1_n, u1_s]) (fun k _ _ => by simp (disch := omega) only [u1_n]) (fun k _ _ => by simp (disch := omega) only [u1_n]) (jP h), hO (by simp (disch := omega) only [u1_n, u1_s]) (fun k _ _ => by simp (disch := omega) only [u1_n]) (fun k _ _ => by simp (disch := omega) only [u1_n]) (jO h), hF (by simp (disch := omega) only [u1_n, u1_s]; omega) (by simp (disch := omega) only [u1_n, u1_s]) (fun k _ _ => by simp (disch := omega) only [u1_n]) (jF h)⟩, ?_⟩
    · unfold jv_S
      have e : side = 0 ∨ side = 1 := by omega
      rcases e with rfl | rfl
      · simp (disch := omega) only [u1_n, u1_s, Int.add_zero]
        omega
      · simp (disch := omega) only [u1_n, u1_s, Int.reduceAdd]
        omega
    · exact hZ (n1 := a 1) (n2 := a 2) (n3 := a 3) (n4 := a 4) z (by simp (disch := omega) only [u1_n, u1_s]) (by simp (disch := omega) only [u1_n, u1_s]) (by simp (disch := omega) only [u1_n, u1_s]) (by simp (disch := omega) only [u1_n, u1_s]) (by simp (disch := omega) only [u1_n, u1_s]) (by omega) (by omega) (by omega) (by omega) (fun k _ _ => by simp (disch := omega) only [u1_n]) (fun k _ _ => by simp (disch := omega) only [u1_n]) (fun k _ _ => by simp (disch := omega) only [u1_n]) (fun k _ _ => by simp (disch := omega) only [u1_n]) (fun k _ _ => by simp (disch := omega) only [u1_n])
  · rw [if_neg hk]
    exact ⟨h, z⟩
theorem j_wish {a : Int → Int} {kind v : Int} (h : Jv a) (z : jv_Z a) : Jv (r_wish a kind v) ∧ jv_Z (r_wish a kind v) := by
  have hc := jC h
  have hs := jS h
  unfold jv_C at hc
  unfold jv_S at hs
  unfold r_wish
  by_cases hk : k_wish a kind v
  · rw [if_pos hk]
    simp only [k_wish] at hk
    refine ⟨⟨by unfold jv_C; simp (disch := omega) only [u1_n, u1_s]; omega, by unfold jv_S; simp (disch := omega) only [u1_n, u1_s]; omega, ?_, hW (fun k _ _ => by simp (disch := omega) only [u1_n]) (fun k _ _ => by simp (disch := omega) only [u1_n]) (jW h), hM (by simp (disch := omega) only [u1_n, u1_s]) (by simp (disch := omega) only [u1_n, u1_s]; omega) (fun k _ _ => by simp (disch := omega) only [u1_n]) (jM h), hQ (by simp (disch := omega) only [u1_n, u1_s]) (fun k _ _ => by simp (disch := omega) only [u1_n]) (jQ h), hH (by simp (disch := omega) only [u1_n, u1_s]; omega) (by simp (disch := omega) only [u1_n, u1_s]) (fun k _ _ => by simp (disch := omega) only [u1_n]) (jH h), hP (by simp (disch := omega) only [u1_n, u1_s]; omega) (by simp (disch := omega) only [u1_n, u1_s]; omega) (by simp (disch := omega) only [u1_n, u1_s]) (fun k _ _ => by simp (disch := omega) only [u1_n]) (fun k _ _ => by simp (disch := omega) only [u1_n]) (jP h), ?_, hF (by simp (disch := omega) only [u1_n, u1_s]; omega) (by simp (disch := omega) only [u1_n, u1_s]) (fun k _ _ => by simp (disch := omega) only [u1_n]) (jF h)⟩, ?_⟩
    · intro x x0 x1
      have q := jK h x x0 x1
      by_cases e : x = kind
      · subst e
        simp (disch := omega) only [u1_n, u1_s]
        omega
      · simp (disch := omega) only [u1_n]
        exact q
    · refine ⟨fun o h0 h1 => ?_, fun x k0 k1 => ?_⟩
      · simp (disch := omega) only [u1_n] at h1
        have q := (jO h).1 o h0 h1
        simp (disch := omega) only [u1_n]
        exact q
      · have q := (jO h).2 x k0 k1
        simp (disch := omega) only [u1_n]
        rw [q]
    · exact hZ (n1 := a 1) (n2 := a 2) (n3 := a 3) (n4 := a 4) z (by simp (disch := omega) only [u1_n, u1_s]) (by simp (disch := omega) only [u1_n, u1_s]) (by simp (disch := omega) only [u1_n, u1_s]) (by simp (disch := omega) only [u1_n, u1_s]) (by simp (disch := omega) only [u1_n, u1_s]) (by omega) (by omega) (by omega) (by omega) (fun k _ _ => by simp (disch := omega) only [u1_n]) (fun k _ _ => by simp (disch := omega) only [u1_n]) (fun k _ _ => by simp (disch := omega) only [u1_n]) (fun k _ _ => by simp (disch := omega) only [u1_n]) (fun k _ _ => by simp (disch := omega) only [u1_n])
  · rw [if_neg hk]
    exact ⟨h, z⟩
theorem j_strike {a : Int → Int} {mill on : Int} (h : Jv a) (z : jv_Z a) (ho : on = 0 ∨ on = 1) : Jv (r_strike a mill on) ∧ jv_Z (r_strike a mill on) := by
  have hc := jC h
  have hs := jS h
  unfold jv_C at hc
  unfold jv_S at hs
  unfold r_strike
  by_cases hk : k_strike a mill on
  · rw [if_pos hk]
    simp only [k_strike] at hk
    refine ⟨⟨by unfold jv_C; simp (disch := omega) only [u1_n, u1_s]; omega, by unfold jv_S; simp (disch := omega) only [u1_n, u1_s]; omega, hK (fun k _ _ => by simp (disch := omega) only [u1_n]) (jK h), hW (fun k _ _ => by simp (disch := omega) only [u1_n]) (fun k _ _ => by simp (disch := omega) only [u1_n]) (jW h), ?_, hQ (by simp (disch := omega) only [u1_n, u1_s]) (fun k _ _ => by simp (disch := omega) only [u1_n]) (jQ h), hH (by simp (disch := omega) only [u1_n, u1_s]; omega) (by simp (disch := omega) only [u1_n, u1_s]) (fun k _ _ => by simp (disch := omega) only [u1_n]) (jH h), hP (by simp (disch := omega) only [u1_n, u1_s]; omega) (by simp (disch := omega) only [u1_n, u1_s]; omega) (by simp (disch := omega) only [u1_n, u1_s]) (fun k _ _ => by simp (disch := omega) only [u1_n]) (fun k _ _ => by simp (disch := omega) only [u1_n]) (jP h), hO (by simp (disch := omega) only [u1_n, u1_s]) (fun k _ _ => by simp (disch := omega) only [u1_n]) (fun k _ _ => by simp (disch := omega) only [u1_n]) (jO h), hF (by simp (disch := omega) only [u1_n, u1_s]; omega) (by simp (disch := omega) only [u1_n, u1_s]) (fun k _ _ => by simp (disch := omega) only [u1_n]) (jF h)⟩, ?_⟩
    · intro x x0 x1
      rw [u1_n (by omega)] at x1
      have q := jM h x x0 x1
      by_cases e : x = mill
      · subst e
        simp (disch := omega) only [u1_n, u1_s]
        omega
      · simp (disch := omega) only [u1_n]
        exact q
    · exact hZ (n1 := a 1) (n2 := a 2) (n3 := a 3) (n4 := a 4) z (by simp (disch := omega) only [u1_n, u1_s]) (by simp (disch := omega) only [u1_n, u1_s]) (by simp (disch := omega) only [u1_n, u1_s]) (by simp (disch := omega) only [u1_n, u1_s]) (by simp (disch := omega) only [u1_n, u1_s]) (by omega) (by omega) (by omega) (by omega) (fun k _ _ => by simp (disch := omega) only [u1_n]) (fun k _ _ => by simp (disch := omega) only [u1_n]) (fun k _ _ => by simp (disch := omega) only [u1_n]) (fun k _ _ => by simp (disch := omega) only [u1_n]) (fun k _ _ => by simp (disch := omega) only [u1_n])
  · rw [if_neg hk]
    exact ⟨h, z⟩
theorem j_order {a : Int → Int} {kind pieces price from_ to : Int} (h : Jv a) (z : jv_Z a) : Jv (r_order a kind pieces price from_ to) ∧ jv_Z (r_order a kind pieces price from_ to) := by
  have hc := jC h
  have hs := jS h
  unfold jv_C at hc
  unfold jv_S at hs
  unfold r_order
  by_cases hk : k_order a kind pieces price from_ to
  · rw [if_pos hk]
    simp only [k_order] at hk
    refine ⟨⟨by unfold jv_C; simp (disch := omega) only [u1_n, u1_s]; omega, by unfold jv_S; simp (disch := omega) only [u1_n, u1_s]; omega, ?_, hW (fun k _ _ => by simp (disch := omega) only [u1_n]) (fun k _ _ => by simp (disch := omega) only [u1_n]) (jW h), hM (by simp (disch := omega) only [u1_n, u1_s]) (by simp (disch := omega) only [u1_n, u1_s]; omega) (fun k _ _ => by simp (disch := omega) only [u1_n]) (jM h), hQ (by simp (disch := omega) only [u1_n, u1_s]) (fun k _ _ => by simp (disch := omega) only [u1_n]) (jQ h), hH (by simp (disch := omega) only [u1_n, u1_s]; omega) (by simp (disch := omega) only [u1_n, u1_s]) (fun k _ _ => by simp (disch := omega) only [u1_n]) (jH h), hP (by simp (disch := omega) only [u1_n, u1_s]; omega) (by simp (disch := omega) only [u1_n, u1_s]; omega) (by simp (disch := omega) only [u1_n, u1_s]) (fun k _ _ => by simp (disch := omega) only [u1_n]) (fun k _ _ => by simp (disch := omega) only [u1_n]) (jP h), ?_, hF (by simp (disch := omega) only [u1_n, u1_s]; omega) (by simp (disch := omega) only [u1_n, u1_s]) (fun k _ _ => by simp (disch := omega) only [u1_n]) (jF h)⟩, ?_⟩
    · intro x x0 x1
      have q := jK h x x0 x1
      by_cases e : x = kind
      · subst e
        simp (disch := omega) only [u1_n, u1_s]
        omega
      · simp (disch := omega) only [u1_n]
        exact q
    · refine ⟨fun o h0 h1 => ?_, fun x k0 k1 => ?_⟩
      · rw [u1_s] at h1
        by_cases e : o = a 7
        · subst e
          simp (disch := omega) only [u1_n, u1_s]
          omega
        · have q := (jO h).1 o h0 (by omega)
          simp (disch := omega) only [u1_n]
          exact q
      · have q := (jO h).2 x k0 k1
        rw [u1_s]
        by_cases e : x = kind
        · subst e
          simp (disch := omega) only [u1_n, u1_s]
          refine ⟨fun _ => ⟨a 7, by omega, by omega, by simp (disch := omega) only [u1_n, u1_s]⟩, fun _ => trivial⟩
        · simp (disch := omega) only [u1_n]
          rw [q]
          constructor
          · rintro ⟨o, o0, o1, o2⟩
            exact ⟨o, o0, by omega, by simp (disch := omega) only [u1_n]; exact o2⟩
          · rintro ⟨o, o0, o1, o2⟩
            by_cases eo : o = a 7
            · subst eo
              simp (disch := omega) only [u1_n, u1_s] at o2
              omega
            · simp (disch := omega) only [u1_n] at o2
              exact ⟨o, o0, by omega, o2⟩
    · exact hZ (n1 := a 1) (n2 := a 2) (n3 := a 3) (n4 := a 4) z (by simp (disch := omega) only [u1_n, u1_s]) (by simp (disch := omega) only [u1_n, u1_s]) (by simp (disch := omega) only [u1_n, u1_s]) (by simp (disch := omega) only [u1_n, u1_s]) (by simp (disch := omega) only [u1_n, u1_s]) (by omega) (by omega) (by omega) (by omega) (fun k _ _ => by simp (disch := omega) only [u1_n]) (fun k _ _ => by simp (disch := omega) only [u1_n]) (fun k _ _ => by simp (disch := omega) only [u1_n]) (fun k _ _ => by simp (disch := omega) only [u1_n]) (fun k _ _ => by simp (disch := omega) only [u1_n])
  · rw [if_neg hk]
    exact ⟨h, z⟩
theorem j_meet {a : Int → Int} (h : Jv a) (z : jv_Z a) : Jv (r_meet a ) ∧ jv_Z (r_meet a ) := by
  have hc := jC h
  have hs := jS h
  unfold jv_C at hc
  unfold jv_S at hs
  unfold r_meet
  by_cases hk : k_meet a
  · rw [if_pos hk]
    simp only [k_meet] at hk
    refine ⟨⟨by unfold jv_C; simp (disch := omega) only [u1_n, u1_s]; omega, by unfold jv_S; simp (disch := omega) only [u1_n, u1_s]; omega, hK (fun k _ _ => by simp (disch := omega) only [u1_n]) (jK h), hW (fun k _ _ => by simp (disch := omega) only [u1_n]) (fun k _ _ => by simp (disch := omega) only [u1_n]) (jW h), hM (by simp (disch := omega) only [u1_n, u1_s]) (by simp (disch := omega) only [u1_n, u1_s]; omega) (fun k _ _ => by simp (disch := omega) only [u1_n]) (jM h), hQ (by simp (disch := omega) only [u1_n, u1_s]) (fun k _ _ => by simp (disch := omega) only [u1_n]) (jQ h), hH (by simp (disch := omega) only [u1_n, u1_s]; omega) (by simp (disch := omega) only [u1_n, u1_s]) (fun k _ _ => by simp (disch := omega) only [u1_n]) (jH h), hP (by simp (disch := omega) only [u1_n, u1_s]; omega) (by simp (disch := omega) only [u1_n, u1_s]; omega) (by simp (disch := omega) only [u1_n, u1_s]) (fun k _ _ => by simp (disch := omega) only [u1_n]) (fun k _ _ => by simp (disch := omega) only [u1_n]) (jP h), hO (by simp (disch := omega) only [u1_n, u1_s]) (fun k _ _ => by simp (disch := omega) only [u1_n]) (fun k _ _ => by simp (disch := omega) only [u1_n]) (jO h), hF (by simp (disch := omega) only [u1_n, u1_s]; omega) (by simp (disch := omega) only [u1_n, u1_s]) (fun k _ _ => by simp (disch := omega) only [u1_n]) (jF h)⟩, ?_⟩
    · exact hZ (n1 := a 1) (n2 := a 2) (n3 := a 3) (n4 := a 4) z (by simp (disch := omega) only [u1_n, u1_s]) (by simp (disch := omega) only [u1_n, u1_s]) (by simp (disch := omega) only [u1_n, u1_s]) (by simp (disch := omega) only [u1_n, u1_s]) (by simp (disch := omega) only [u1_n, u1_s]) (by omega) (by omega) (by omega) (by omega) (fun k _ _ => by simp (disch := omega) only [u1_n]) (fun k _ _ => by simp (disch := omega) only [u1_n]) (fun k _ _ => by simp (disch := omega) only [u1_n]) (fun k _ _ => by simp (disch := omega) only [u1_n]) (fun k _ _ => by simp (disch := omega) only [u1_n])
  · rw [if_neg hk]
    exact ⟨h, z⟩
theorem j_fund {a : Int → Int} {more levy relief : Int} (h : Jv a) (z : jv_Z a) : Jv (r_fund a more levy relief) ∧ jv_Z (r_fund a more levy relief) := by
  have hc := jC h
  have hs := jS h
  unfold jv_C at hc
  unfold jv_S at hs
  unfold r_fund
  by_cases hk : k_fund more levy relief
  · rw [if_pos hk]
    simp only [k_fund] at hk
    refine ⟨⟨by unfold jv_C; simp (disch := omega) only [u1_n, u1_s]; omega, by unfold jv_S; simp (disch := omega) only [u1_n, u1_s]; omega, hK (fun k _ _ => by simp (disch := omega) only [u1_n]) (jK h), hW (fun k _ _ => by simp (disch := omega) only [u1_n]) (fun k _ _ => by simp (disch := omega) only [u1_n]) (jW h), hM (by simp (disch := omega) only [u1_n, u1_s]) (by simp (disch := omega) only [u1_n, u1_s]; omega) (fun k _ _ => by simp (disch := omega) only [u1_n]) (jM h), hQ (by simp (disch := omega) only [u1_n, u1_s]) (fun k _ _ => by simp (disch := omega) only [u1_n]) (jQ h), hH (by simp (disch := omega) only [u1_n, u1_s]; omega) (by simp (disch := omega) only [u1_n, u1_s]) (fun k _ _ => by simp (disch := omega) only [u1_n]) (jH h), hP (by simp (disch := omega) only [u1_n, u1_s]; omega) (by simp (disch := omega) only [u1_n, u1_s]; omega) (by simp (disch := omega) only [u1_n, u1_s]) (fun k _ _ => by simp (disch := omega) only [u1_n]) (fun k _ _ => by simp (disch := omega) only [u1_n]) (jP h), hO (by simp (disch := omega) only [u1_n, u1_s]) (fun k _ _ => by simp (disch := omega) only [u1_n]) (fun k _ _ => by simp (disch := omega) only [u1_n]) (jO h), hF (by simp (disch := omega) only [u1_n, u1_s]; omega) (by simp (disch := omega) only [u1_n, u1_s]) (fun k _ _ => by simp (disch := omega) only [u1_n]) (jF h)⟩, ?_⟩
    · exact hZ (n1 := a 1) (n2 := a 2) (n3 := a 3) (n4 := a 4) z (by simp (disch := omega) only [u1_n, u1_s]) (by simp (disch := omega) only [u1_n, u1_s]) (by simp (disch := omega) only [u1_n, u1_s]) (by simp (disch := omega) only [u1_n, u1_s]) (by simp (disch := omega) only [u1_n, u1_s]) (by omega) (by omega) (by omega) (by omega) (fun k _ _ => by simp (disch := omega) only [u1_n]) (fun k _ _ => by simp (disch := omega) only [u1_n]) (fun k _ _ => by simp (disch := omega) only [u1_n]) (fun k _ _ => by simp (disch := omega) only [u1_n]) (fun k _ _ => by simp (disch := omega) only [u1_n])
  · rw [if_neg hk]
    exact ⟨h, z⟩
theorem j_put {a : Int → Int} {text mill from_ to : Int} (h : Jv a) (z : jv_Z a) (h6 : a 6 ≤ 60) (ht : 0 ≤ text ∧ text < a 5) (hm : -1 ≤ mill ∧ mill ≤ 7) (hf : 0 ≤ from_ ∧ from_ ≤ 399) (ho : 0 ≤ to ∧ to ≤ 399) (h0 : a 0 ≤ 399) : Jv (r_put a text mill from_ to) ∧ jv_Z (r_put a text mill from_ to) := by
  have hc := jC h
  have hs := jS h
  unfold jv_C at hc
  unfold jv_S at hs
  unfold r_put
  refine ⟨⟨by unfold jv_C; simp (disch := omega) only [u1_n, u1_s]; omega, by unfold jv_S; simp (disch := omega) only [u1_n, u1_s]; omega, hK (fun k _ _ => by simp (disch := omega) only [u1_n]) (jK h), hW (fun k _ _ => by simp (disch := omega) only [u1_n]) (fun k _ _ => by simp (disch := omega) only [u1_n]) (jW h), hM (by simp (disch := omega) only [u1_n, u1_s]) (by simp (disch := omega) only [u1_n, u1_s]; omega) (fun k _ _ => by simp (disch := omega) only [u1_n]) (jM h), hQ (by simp (disch := omega) only [u1_n, u1_s]) (fun k _ _ => by simp (disch := omega) only [u1_n]) (jQ h), hH (by simp (disch := omega) only [u1_n, u1_s]; omega) (by simp (disch := omega) only [u1_n, u1_s]) (fun k _ _ => by simp (disch := omega) only [u1_n]) (jH h), hP (by simp (disch := omega) only [u1_n, u1_s]; omega) (by simp (disch := omega) only [u1_n, u1_s]; omega) (by simp (disch := omega) only [u1_n, u1_s]) (fun k _ _ => by simp (disch := omega) only [u1_n]) (fun k _ _ => by simp (disch := omega) only [u1_n]) (jP h), hO (by simp (disch := omega) only [u1_n, u1_s]) (fun k _ _ => by simp (disch := omega) only [u1_n]) (fun k _ _ => by simp (disch := omega) only [u1_n]) (jO h), ?_⟩, ?_⟩
  · intro x x0 x1
    rw [u1_s] at x1
    by_cases e : x = a 6
    · subst e
      simp (disch := omega) only [u1_n, u1_s]
      omega
    · have q := jF h x x0 (by omega)
      simp (disch := omega) only [u1_n]
      exact q
  · exact hZ (n1 := a 1) (n2 := a 2) (n3 := a 3) (n4 := a 4) z (by simp (disch := omega) only [u1_n, u1_s]) (by simp (disch := omega) only [u1_n, u1_s]) (by simp (disch := omega) only [u1_n, u1_s]) (by simp (disch := omega) only [u1_n, u1_s]) (by simp (disch := omega) only [u1_n, u1_s]) (by omega) (by omega) (by omega) (by omega) (fun k _ _ => by simp (disch := omega) only [u1_n]) (fun k _ _ => by simp (disch := omega) only [u1_n]) (fun k _ _ => by simp (disch := omega) only [u1_n]) (fun k _ _ => by simp (disch := omega) only [u1_n]) (fun k _ _ => by simp (disch := omega) only [u1_n])
theorem j_force {a : Int → Int} {text mill from_ to : Int} (h : Jv a) (z : jv_Z a) (h6 : a 6 ≤ 60) : Jv (r_force a text mill from_ to) ∧ jv_Z (r_force a text mill from_ to) := by
  have hc := jC h
  unfold jv_C at hc
  unfold r_force
  by_cases hk : k_force a text mill from_ to
  · rw [if_pos hk]
    simp only [k_force] at hk
    exact j_put h z h6 (by omega) (by omega) (by omega) (by omega) (by omega)
  · rw [if_neg hk]
    exact ⟨h, z⟩
theorem j_person {a : Int → Int} {home age skill : Int} (h : Jv a) (z : jv_Z a) : Jv (r_person a home age skill) ∧ jv_Z (r_person a home age skill) := by
  have hc := jC h
  have hs := jS h
  unfold jv_C at hc
  unfold jv_S at hs
  unfold r_person
  by_cases hk : k_person a home age skill
  · rw [if_pos hk]
    simp only [k_person] at hk
    refine ⟨⟨by unfold jv_C; simp (disch := omega) only [u1_n, u1_s]; omega, by unfold jv_S; simp (disch := omega) only [u1_n, u1_s]; omega, hK (fun k _ _ => by simp (disch := omega) only [u1_n]) (jK h), hW (fun k _ _ => by simp (disch := omega) only [u1_n]) (fun k _ _ => by simp (disch := omega) only [u1_n]) (jW h), hM (by simp (disch := omega) only [u1_n, u1_s]) (by simp (disch := omega) only [u1_n, u1_s]; omega) (fun k _ _ => by simp (disch := omega) only [u1_n]) (jM h), hQ (by simp (disch := omega) only [u1_n, u1_s]) (fun k _ _ => by simp (disch := omega) only [u1_n]) (jQ h), hH (by simp (disch := omega) only [u1_n, u1_s]; omega) (by simp (disch := omega) only [u1_n, u1_s]) (fun k _ _ => by simp (disch := omega) only [u1_n]) (jH h), ?_, hO (by simp (disch := omega) only [u1_n, u1_s]) (fun k _ _ => by simp (disch := omega) only [u1_n]) (fun k _ _ => by simp (disch := omega) only [u1_n]) (jO h), hF (by simp (disch := omega) only [u1_n, u1_s]; omega) (by simp (disch := omega) only [u1_n, u1_s]) (fun k _ _ => by simp (disch := omega) only [u1_n]) (jF h)⟩, ?_⟩
    · intro x x0 x1
      rw [u1_s] at x1
      have zz := z.2.2.2.1 (a 4) (by omega) (by omega)
      by_cases e : x = a 4
      · subst e
        simp (disch := omega) only [u1_n, u1_s, zz.1, zz.2.1, zz.2.2.1]
        refine ⟨?_, ?_, ?_, ?_, ?_, ?_, ?_, ?_, ?_, ?_, ?_, ?_, ?_, ?_, ?_⟩ <;> first | omega | simp | (intro q; omega)
      · have q := jP h x x0 (by omega)
        obtain ⟨b1, b2, b3, b4, b5, b6, b7, b8, b9, b10, b11, b12, b13, b14, b15⟩ := q
        have f : ∀ k, k ≠ 4 ∧ (k < 3652 + 12 * a 4 ∨ 3652 + 12 * a 4 + 7 ≤ k) → u1 (u1 (u1 (u1 (u1 (u1 a (3652 + 12 * a 4 + 0) home) (3652 + 12 * a 4 + 1) age) (3652 + 12 * a 4 + 2) skill) (3652 + 12 * a 4 + 4) (-1)) (3652 + 12 * a 4 + 6) (-1)) 4 (a 4 + 1) k = a k := fun k hk => by simp (disch := omega) only [u1_n]
        have f4 : u1 (u1 (u1 (u1 (u1 (u1 a (3652 + 12 * a 4 + 0) home) (3652 + 12 * a 4 + 1) age) (3652 + 12 * a 4 + 2) skill) (3652 + 12 * a 4 + 4) (-1)) (3652 + 12 * a 4 + 6) (-1)) 4 (a 4 + 1) 4 = a 4 + 1 := u1_s _ _ _
        generalize hb : u1 (u1 (u1 (u1 (u1 (u1 a (3652 + 12 * a 4 + 0) home) (3652 + 12 * a 4 + 1) age) (3652 + 12 * a 4 + 2) skill) (3652 + 12 * a 4 + 4) (-1)) (3652 + 12 * a 4 + 6) (-1)) 4 (a 4 + 1) = b at f f4 ⊢
        clear hb
        simp (disch := omega) only [f, f4]
        exact ⟨b1, b2, b3, b4, b5, b6, by omega, b8, b9, b10, b11, b12, b13, b14, b15⟩
    · exact hZ (n1 := a 1) (n2 := a 2) (n3 := a 3) (n4 := a 4 + 1) z (by simp (disch := omega) only [u1_n, u1_s]) (by simp (disch := omega) only [u1_n, u1_s]) (by simp (disch := omega) only [u1_n, u1_s]) (by simp (disch := omega) only [u1_n, u1_s]) (by simp (disch := omega) only [u1_n, u1_s]) (by omega) (by omega) (by omega) (by omega) (fun k _ _ => by simp (disch := omega) only [u1_n]) (fun k _ _ => by simp (disch := omega) only [u1_n]) (fun k _ _ => by simp (disch := omega) only [u1_n]) (fun k _ _ => by simp (disch := omega) only [u1_n]) (fun k _ _ => by simp (disch := omega) only [u1_n])
  · rw [if_neg hk]
    exact ⟨h, z⟩
theorem r_end1_v (a : Int → Int) (q : Int) : r_end1 a q (3652 + 12 * q + 3) = 0 ∧ r_end1 a q (3652 + 12 * q + 4) = -1 ∧ r_end1 a q (3652 + 12 * q + 5) = 0 ∧ r_end1 a q (3652 + 12 * q + 6) = -1 ∧ r_end1 a q (3652 + 12 * q + 7) = 0 := by
  unfold r_end1
  simp (disch := omega) only [u1_n, u1_s]
  simp
/-- who is under p -/
abbrev un_ (a : Int → Int) (p q : Int) : Prop := a (3652 + 12 * q + 3) = 2 ∧ a (3652 + 12 * q + 6) = p
theorem r_endL_row {a : Int → Int} {p n q j : Int} (h : 0 ≤ q ∧ q < n) (hj : 0 ≤ j ∧ j ≤ 11) : fI (r_endL p) n a (3652 + 12 * q + j) = if un_ a p q then r_end1 a q (3652 + 12 * q + j) else a (3652 + 12 * q + j) := by
  have key : ∀ m : Nat, q < m → fN (r_endL p) m a (3652 + 12 * q + j) = if un_ a p q then r_end1 a q (3652 + 12 * q + j) else a (3652 + 12 * q + j) := by
    intro m
    induction m with
    | zero => intro hq; omega
    | succ m ih =>
      intro hq
      show r_endL p (m : Int) (fN (r_endL p) m a) _ = _
      by_cases e : q = (m : Int)
      · have f : ∀ k, 3652 + 12 * (m : Int) ≤ k → fN (r_endL p) m a k = a k := fun k hk => by
          have := r_endL_n (a := a) (p := p) (n := (m : Int)) (k := k) (by omega) (Or.inr hk)
          unfold fI at this
          rw [Int.toNat_natCast] at this
          exact this
        subst e
        generalize fN (r_endL p) m a = B at f
        unfold r_endL un_
        rw [f _ (by omega), f _ (by omega)]
        by_cases c1 : a (3652 + 12 * (m : Int) + 3) = 2
        · by_cases c2 : a (3652 + 12 * (m : Int) + 6) = p
          · rw [if_pos c1, if_pos c2, if_pos ⟨c1, c2⟩]
            unfold r_end1 u1
            rw [f _ (by omega)]
          · rw [if_pos c1, if_neg c2, if_neg (fun x => c2 x.2)]
            exact f _ (by omega)
        · rw [if_neg c1, if_neg (fun x => c1 x.1)]
          exact f _ (by omega)
      · have ih := ih (by omega)
        unfold r_endL
        split
        · split
          · rw [r_end1_n (by omega)]; exact ih
          · exact ih
        · exact ih
  exact key n.toNat (by omega)
theorem r_endW_row {a : Int → Int} {p q j : Int} (h : 0 ≤ q ∧ q < a 4) (hj : 0 ≤ j ∧ j ≤ 11) : r_endW a p (3652 + 12 * q + j) = if q = p ∨ (a (3652 + 12 * p + 3) = 1 ∧ un_ a p q) then r_end1 a q (3652 + 12 * q + j) else a (3652 + 12 * q + j) := by
  unfold r_endW
  by_cases e : q = p
  · subst e
    rw [if_pos (Or.inl rfl)]
    have e3 := r_end1_v (if a (3652 + 12 * q + 3) = 1 then fI (r_endL q) (a 4) a else a) q
    have e4 := r_end1_v a q
    have ej : j = 3 ∨ j = 4 ∨ j = 5 ∨ j = 6 ∨ j = 7 ∨ (0 ≤ j ∧ j ≤ 2 ∨ 8 ≤ j ∧ j ≤ 11) := by omega
    rcases ej with rfl | rfl | rfl | rfl | rfl | ej
    · rw [e3.1, e4.1]
    · rw [e3.2.1, e4.2.1]
    · rw [e3.2.2.1, e4.2.2.1]
    · rw [e3.2.2.2.1, e4.2.2.2.1]
    · rw [e3.2.2.2.2, e4.2.2.2.2]
    · rw [r_end1_n (by omega), r_end1_n (by omega)]
      split
      · exact r_endL_c (by omega) ej
      · rfl
  · rw [r_end1_n (by omega)]
    by_cases c : a (3652 + 12 * p + 3) = 1
    · rw [if_pos c, r_endL_row h hj]
      by_cases c2 : un_ a p q
      · rw [if_pos c2, if_pos (Or.inr ⟨c, c2⟩)]
      · rw [if_neg c2, if_neg (by rintro (x | x); exact e x; exact c2 x.2)]
    · rw [if_neg c, if_neg (by rintro (x | x); exact e x; exact c x.1)]
