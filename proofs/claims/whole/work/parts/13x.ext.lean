/-! ===== other code of the platform: Math (own work) ===== -/
section OX
variable {g : ab_G} {Ts : List Cond} {E : State → Prop} {l : Launch} {sw : Nat → Int × Int × Int × List Int} {cc : ByteArray} {own : String} {nL pc a b k : Nat} {z : Int}
theorem ox_73 (w1 : Cond.methodLink own b Lib.Math.max.name ∈ Ts) (w2 : Cond.static Lib.Math.max.name ∈ Ts) (w3 : Cond.initialized "java/lang/Math" ∈ Ts) (w4 : Cond.code Lib.Math.max.name Lib.Math.max.code 2 (some .int) ∈ Ts) (hd : decode cc pc = .ok (.invokestatic b, 3)) : ab_okX g Ts E l sw cc own nL pc (73, a, b, k, z) := by
  intro p e R s m args below meth c Q cells slots L st h q hx hb hml hown hTW hK hE hf hlo hc hs hq kk
  simp only [ab_ext, ab_x2] at hq
  split at hq
  · split at hq
    · rename_i hr
      cases hq
      intro H locs ls hR hS hL
      exact va_mmax hx hb (by rw [hml]; exact hL.2.1.symm) hown (hTW _ w1 _) (hTW _ w2 _) (hTW _ w3 _) (hTW _ w4 _) (by omega) (by rw [ab_cats]; omega) hc hs hd (kk H locs ls hR hS hL)
    · cases hq
  · cases hq
theorem ox_74 (w1 : Cond.methodLink own b Lib.Math.min.name ∈ Ts) (w2 : Cond.static Lib.Math.min.name ∈ Ts) (w3 : Cond.initialized "java/lang/Math" ∈ Ts) (w4 : Cond.code Lib.Math.min.name Lib.Math.min.code 2 (some .int) ∈ Ts) (hd : decode cc pc = .ok (.invokestatic b, 3)) : ab_okX g Ts E l sw cc own nL pc (74, a, b, k, z) := by
  intro p e R s m args below meth c Q cells slots L st h q hx hb hml hown hTW hK hE hf hlo hc hs hq kk
  simp only [ab_ext, ab_x2] at hq
  split at hq
  · split at hq
    · rename_i hr
      cases hq
      intro H locs ls hR hS hL
      exact va_mmin hx hb (by rw [hml]; exact hL.2.1.symm) hown (hTW _ w1 _) (hTW _ w2 _) (hTW _ w3 _) (hTW _ w4 _) (by omega) (by rw [ab_cats]; omega) hc hs hd (kk H locs ls hR hS hL)
    · cases hq
  · cases hq
theorem ox_75 (w1 : Cond.methodLink own b Lib.Math.abs.name ∈ Ts) (w2 : Cond.static Lib.Math.abs.name ∈ Ts) (w3 : Cond.initialized "java/lang/Math" ∈ Ts) (w4 : Cond.code Lib.Math.abs.name Lib.Math.abs.code 1 (some .int) ∈ Ts) (hd : decode cc pc = .ok (.invokestatic b, 3)) : ab_okX g Ts E l sw cc own nL pc (75, a, b, k, z) := by
  intro p e R s m args below meth c Q cells slots L st h q hx hb hml hown hTW hK hE hf hlo hc hs hq kk
  simp only [ab_ext] at hq
  split at hq
  · split at hq
    · rename_i hr
      cases hq
      intro H locs ls hR hS hL
      exact va_mabs hx hb (by rw [hml]; exact hL.2.1.symm) hown (hTW _ w1 _) (hTW _ w2 _) (hTW _ w3 _) (hTW _ w4 _) (by omega) (by rw [ab_cats]; omega) hc hs hd (kk H locs ls hR hS hL)
    · cases hq
  · cases hq
theorem ox_76 (w1 : Cond.methodLink own b Lib.MathLoose.max_long.x ∈ Ts) (w2 : Cond.static Lib.MathLoose.max_long.x ∈ Ts) (w3 : Cond.initialized "java/lang/Math" ∈ Ts) (w4 : Cond.code Lib.MathLoose.max_long.x Lib.MathLoose.max_long.code 4 (some .long) ∈ Ts) (hd : decode cc pc = .ok (.invokestatic b, 3)) : ab_okX g Ts E l sw cc own nL pc (76, a, b, k, z) := by
  intro p e R s m args below meth c Q cells slots L st h q hx hb hml hown hTW hK hE hf hlo hc hs hq kk
  simp only [ab_ext] at hq
  split at hq
  · split at hq
    · rename_i hr
      cases hq
      intro H locs ls hR hS hL
      exact va_mmax_long hx hb (by rw [hml]; exact hL.2.1.symm) hown (hTW _ w1 _) (hTW _ w2 _) (hTW _ w3 _) (hTW _ w4 _) (by omega) (by rw [ab_cats]; omega) hc hs hd (kk H locs ls hR hS hL)
    · cases hq
  · cases hq
theorem ox_77 (w1 : Cond.methodLink own b Lib.MathLoose.min_long.x ∈ Ts) (w2 : Cond.static Lib.MathLoose.min_long.x ∈ Ts) (w3 : Cond.initialized "java/lang/Math" ∈ Ts) (w4 : Cond.code Lib.MathLoose.min_long.x Lib.MathLoose.min_long.code 4 (some .long) ∈ Ts) (hd : decode cc pc = .ok (.invokestatic b, 3)) : ab_okX g Ts E l sw cc own nL pc (77, a, b, k, z) := by
  intro p e R s m args below meth c Q cells slots L st h q hx hb hml hown hTW hK hE hf hlo hc hs hq kk
  simp only [ab_ext] at hq
  split at hq
  · split at hq
    · rename_i hr
      cases hq
      intro H locs ls hR hS hL
      exact va_mmin_long hx hb (by rw [hml]; exact hL.2.1.symm) hown (hTW _ w1 _) (hTW _ w2 _) (hTW _ w3 _) (hTW _ w4 _) (by omega) (by rw [ab_cats]; omega) hc hs hd (kk H locs ls hR hS hL)
    · cases hq
  · cases hq
end OX
