/-! ===== what always holds is kept when work ends or begins (segments printed by wip/whole, contracts own work) ===== -/
/-- only persons' rows are other -/
theorem j_onP {a b : Int → Int} (h : Jv a) (z : jv_Z a) (n : ∀ k, k < 3652 ∨ 3652 + 12 * a 4 ≤ k → b k = a k) (hp : jv_P b) : Jv b ∧ jv_Z b := by
  have hc := jC h
  unfold jv_C at hc
  refine ⟨⟨hC (fun k _ _ => n k (by omega)) (jC h), hS (fun k _ _ => n k (by omega)) (jS h), hK (fun k _ _ => n k (by omega)) (jK h), hW (fun k _ _ => n k (by omega)) (fun k _ _ => n k (by omega)) (jW h), hM (n 1 (by omega)) (by rw [n 7 (by omega)]; omega) (fun k _ _ => n k (by omega)) (jM h), hQ (n 2 (by omega)) (fun k _ _ => n k (by omega)) (jQ h), hH (by rw [n 2 (by omega)]; omega) (n 3 (by omega)) (fun k _ _ => n k (by omega)) (jH h), hp, hO (n 7 (by omega)) (fun k _ _ => n k (by omega)) (fun k _ _ => n k (by omega)) (jO h), hF (by rw [n 5 (by omega)]; omega) (n 6 (by omega)) (fun k _ _ => n k (by omega)) (jF h)⟩, ?_⟩
  exact hZ (n1 := a 1) (n2 := a 2) (n3 := a 3) (n4 := a 4) z (n 0 (by omega)) (n 1 (by omega)) (n 2 (by omega)) (n 3 (by omega)) (n 4 (by omega)) (by omega) (by omega) (by omega) (by omega) (fun k _ _ => n k (by omega)) (fun k _ _ => n k (by omega)) (fun k _ _ => n k (by omega)) (fun k _ _ => n k (by omega)) (fun k _ _ => n k (by omega))
theorem jp_endW {a : Int → Int} {p : Int} (h : Jv a) (hp : 0 ≤ p ∧ p < a 4) : jv_P (r_endW a p) := by
  have hc := jC h
  unfold jv_C at hc
  have n := fun k => @r_endW_n a p k hp
  intro q q0 q1
  rw [n 4 (by omega)] at q1
  obtain ⟨b1, b2, b3, b4, b5, b6, b7, b8, b9, b10, b11, b12, b13, b14, b15⟩ := jP h q q0 q1
  have v := r_end1_v a q
  have c0 : r_endW a p (3652 + 12 * q + 0) = a (3652 + 12 * q + 0) := r_endW_c (by omega) (by omega)
  have c1 : r_endW a p (3652 + 12 * q + 1) = a (3652 + 12 * q + 1) := r_endW_c (by omega) (by omega)
  have c2 : r_endW a p (3652 + 12 * q + 2) = a (3652 + 12 * q + 2) := r_endW_c (by omega) (by omega)
  rw [c0, c1, c2, n 1 (by omega), n 3 (by omega), n 4 (by omega), n (3460 + 8 * a (3652 + 12 * q + 0) + 3) (by omega)]
  by_cases cl : q = p ∨ (a (3652 + 12 * p + 3) = 1 ∧ un_ a p q)
  · have c3 : r_endW a p (3652 + 12 * q + 3) = 0 := by rw [r_endW_row ⟨q0, q1⟩ (by omega), if_pos cl]; exact v.1
    have c4 : r_endW a p (3652 + 12 * q + 4) = -1 := by rw [r_endW_row ⟨q0, q1⟩ (by omega), if_pos cl]; exact v.2.1
    have c5 : r_endW a p (3652 + 12 * q + 5) = 0 := by rw [r_endW_row ⟨q0, q1⟩ (by omega), if_pos cl]; exact v.2.2.1
    have c6 : r_endW a p (3652 + 12 * q + 6) = -1 := by rw [r_endW_row ⟨q0, q1⟩ (by omega), if_pos cl]; exact v.2.2.2.1
    have c7 : r_endW a p (3652 + 12 * q + 7) = 0 := by rw [r_endW_row ⟨q0, q1⟩ (by omega), if_pos cl]; exact v.2.2.2.2
    rw [c3, c4, c5, c6, c7]
    refine ⟨b1, b2, b3, by omega, by omega, by omega, by omega, by omega, fun _ => ⟨rfl, rfl⟩, fun x => absurd rfl x, fun x => by omega, fun x => by omega, fun _ => rfl, fun _ => rfl, fun _ => rfl⟩
  · have c3 : r_endW a p (3652 + 12 * q + 3) = a (3652 + 12 * q + 3) := by rw [r_endW_row ⟨q0, q1⟩ (by omega), if_neg cl]
    have c4 : r_endW a p (3652 + 12 * q + 4) = a (3652 + 12 * q + 4) := by rw [r_endW_row ⟨q0, q1⟩ (by omega), if_neg cl]
    have c5 : r_endW a p (3652 + 12 * q + 5) = a (3652 + 12 * q + 5) := by rw [r_endW_row ⟨q0, q1⟩ (by omega), if_neg cl]
    have c6 : r_endW a p (3652 + 12 * q + 6) = a (3652 + 12 * q + 6) := by rw [r_endW_row ⟨q0, q1⟩ (by omega), if_neg cl]
    have c7 : r_endW a p (3652 + 12 * q + 7) = a (3652 + 12 * q + 7) := by rw [r_endW_row ⟨q0, q1⟩ (by omega), if_neg cl]
    rw [c3, c4, c5, c6, c7]
    refine ⟨b1, b2, b3, b4, b5, b6, b7, b8, b9, b10, b11, fun x => ?_, b13, b14, b15⟩
    have b12 := b12 x
    have ct : ¬ (a (3652 + 12 * q + 6) = p ∨ (a (3652 + 12 * p + 3) = 1 ∧ un_ a p (a (3652 + 12 * q + 6)))) := by
      rintro (y | y)
      · exact cl (Or.inr ⟨by rw [← y]; exact b12.2.2.1, x, y⟩)
      · have := y.2.1
        omega
    rw [r_endW_row ⟨by omega, by omega⟩ (by omega), r_endW_row ⟨by omega, by omega⟩ (by omega), if_neg ct, if_neg ct]
    exact b12
theorem j_endW {a : Int → Int} {p : Int} (h : Jv a) (z : jv_Z a) (hp : 0 ≤ p ∧ p < a 4) : Jv (r_endW a p) ∧ jv_Z (r_endW a p) := j_onP h z (fun k hk => r_endW_n hp hk) (jp_endW h hp)
theorem j_work {a : Int → Int} {p s w n : Int} (h : Jv a) (z : jv_Z a) : Jv (r_work a p s w n) ∧ jv_Z (r_work a p s w n) := by
  have hc := jC h
  unfold jv_C at hc
  unfold r_work
  by_cases hk : k_work a p s w n
  · rw [if_pos hk]
    have hp : 0 ≤ p ∧ p < a 4 := hk.1
    by_cases s0 : s = 0
    · rw [if_pos s0]
      exact j_endW h z hp
    · rw [if_neg s0]
      have e4 : r_endW a p 4 = a 4 := r_endW_n hp (by omega)
      have e1 : r_endW a p 1 = a 1 := r_endW_n hp (by omega)
      have e3 : r_endW a p 3 = a 3 := r_endW_n hp (by omega)
      have hm : 0 ≤ r_wm a s w ∧ r_wm a s w < a 1 := by
        unfold r_wm
        split
        · have hw := jP h w (by simp only [k_work] at hk; omega) (by simp only [k_work] at hk; omega)
          simp only [k_work] at hk
          omega
        · simp only [k_work] at hk
          omega
      have hw2 : s = 2 → (0 ≤ w ∧ w < a 4) ∧ w ≠ p ∧ a (3652 + 12 * w + 3) = 1 := fun e => by simp only [k_work] at hk; omega
      have hn : 1 ≤ n ∧ n ≤ 50 ∧ (s = 1 → n ≤ 6) ∧ (s = 2 → n ≤ 2) ∧ (1 ≤ s ∧ s ≤ 4) := by simp only [k_work] at hk; omega
      have hg := hk.2.2.1
      clear hk
      have jb := jp_endW h hp
      have vp := fun j => @r_endW_row a p p j hp
      have b7 : r_endW a p (3652 + 12 * p + 7) = 0 := by rw [vp _ (by omega), if_pos (Or.inl rfl)]; exact (r_end1_v a p).2.2.2.2
      have b3 : r_endW a p (3652 + 12 * p + 3) = 0 := by rw [vp _ (by omega), if_pos (Or.inl rfl)]; exact (r_end1_v a p).1
      have bg : r_endW a p (3652 + 12 * p + 0) = a (3652 + 12 * p + 0) := r_endW_c (by omega) (by omega)
      have bH := jP h p hp.1 hp.2
      have bgg : r_endW a p (3460 + 8 * a (3652 + 12 * p + 0) + 3) = a (3460 + 8 * a (3652 + 12 * p + 0) + 3) := r_endW_n hp (by omega)
      have bw : s = 2 → r_endW a p (3652 + 12 * w + 3) = 1 ∧ r_endW a p (3652 + 12 * w + 4) = a (3652 + 12 * w + 4) := fun e => by
        have hw := hw2 e
        have ct : ¬ (w = p ∨ (a (3652 + 12 * p + 3) = 1 ∧ un_ a p w)) := by
          rintro (y | y)
          · exact hw.2.1 y
          · have := y.2.1
            omega
        rw [r_endW_row hw.1 (by omega), r_endW_row hw.1 (by omega), if_neg ct, if_neg ct]
        exact ⟨hw.2.2, rfl⟩
      clear bH
      refine j_onP h z (fun k hk => ?_) ?_
      · rw [u1_n (by omega), u1_n (by omega), u1_n (by omega), u1_n (by omega)]
        exact r_endW_n hp hk
      · generalize hB : r_endW a p = B at *
        have f : ∀ k, k < 3652 + 12 * p + 3 ∨ 3652 + 12 * p + 6 < k → u1 (u1 (u1 (u1 B (3652 + 12 * p + 3) s) (3652 + 12 * p + 4) (r_wm a s w)) (3652 + 12 * p + 5) n) (3652 + 12 * p + 6) (if s = 2 then w else -1) k = B k := fun k hk => by
          rw [u1_n (by omega), u1_n (by omega), u1_n (by omega), u1_n (by omega)]
        have f3 : u1 (u1 (u1 (u1 B (3652 + 12 * p + 3) s) (3652 + 12 * p + 4) (r_wm a s w)) (3652 + 12 * p + 5) n) (3652 + 12 * p + 6) (if s = 2 then w else -1) (3652 + 12 * p + 3) = s := by simp (disch := omega) only [u1_n, u1_s]
        have f4 : u1 (u1 (u1 (u1 B (3652 + 12 * p + 3) s) (3652 + 12 * p + 4) (r_wm a s w)) (3652 + 12 * p + 5) n) (3652 + 12 * p + 6) (if s = 2 then w else -1) (3652 + 12 * p + 4) = r_wm a s w := by simp (disch := omega) only [u1_n, u1_s]
        have f5 : u1 (u1 (u1 (u1 B (3652 + 12 * p + 3) s) (3652 + 12 * p + 4) (r_wm a s w)) (3652 + 12 * p + 5) n) (3652 + 12 * p + 6) (if s = 2 then w else -1) (3652 + 12 * p + 5) = n := by simp (disch := omega) only [u1_n, u1_s]
        have f6 : u1 (u1 (u1 (u1 B (3652 + 12 * p + 3) s) (3652 + 12 * p + 4) (r_wm a s w)) (3652 + 12 * p + 5) n) (3652 + 12 * p + 6) (if s = 2 then w else -1) (3652 + 12 * p + 6) = (if s = 2 then w else -1) := u1_s _ _ _
        generalize hD : u1 (u1 (u1 (u1 B (3652 + 12 * p + 3) s) (3652 + 12 * p + 4) (r_wm a s w)) (3652 + 12 * p + 5) n) (3652 + 12 * p + 6) (if s = 2 then w else -1) = D at *
        intro q q0 q1
        rw [f 4 (by omega), e4] at q1
        obtain ⟨d1, d2, d3, d4, d5, d6, d7, d8, d9, d10, d11, d12, d13, d14, d15⟩ := jb q q0 (by omega)
        by_cases e : q = p
        · subst e
          rw [f (3652 + 12 * q + 0) (by omega), f (3652 + 12 * q + 1) (by omega), f (3652 + 12 * q + 2) (by omega), f (3652 + 12 * q + 7) (by omega), f3, f4, f5, f6, f 1 (by omega), f 3 (by omega), f 4 (by omega), f (3460 + 8 * B (3652 + 12 * q + 0) + 3) (by omega), e1, e3, e4, bg, bgg, b7]
          rw [bg] at d1
          refine ⟨by omega, d2, d3, by omega, by omega, by omega, ?_, by omega, fun x => absurd x s0, fun _ => ⟨hm.1, hn.1⟩, hn.2.2.1, fun x => ?_, fun x => if_neg x, fun _ => rfl, fun x => absurd x hg⟩
          · by_cases x : s = 2
            · have := hw2 x
              rw [if_pos x]
              omega
            · rw [if_neg x]
              omega
          · have y := hw2 x
            rw [if_pos x, f (3652 + 12 * w + 3) (by omega), f (3652 + 12 * w + 4) (by omega), (bw x).1, (bw x).2]
            unfold r_wm
            rw [if_pos x]
            exact ⟨hn.2.2.2.1 x, y.1.1, rfl, rfl⟩
        · have g : ∀ j, 0 ≤ j ∧ j ≤ 8 → D (3652 + 12 * q + j) = B (3652 + 12 * q + j) := fun j hj => f _ (by omega)
          rw [g 0 (by omega), g 1 (by omega), g 2 (by omega), g 3 (by omega), g 4 (by omega), g 5 (by omega), g 6 (by omega), g 7 (by omega), f 1 (by omega), f 3 (by omega), f 4 (by omega), f (3460 + 8 * B (3652 + 12 * q + 0) + 3) (by omega)]
          refine ⟨d1, d2, d3, d4, d5, d6, d7, d8, d9, d10, d11, fun x => ?_, d13, d14, d15⟩
          have d12 := d12 x
          have tp : B (3652 + 12 * q + 6) ≠ p := fun y => by rw [y, b3] at d12; omega
          rw [f _ (by omega), f _ (by omega)]
          exact d12
  · rw [if_neg hk]
    exact ⟨h, z⟩
