/-! ===== a WEEK: all of it, of the reference (segments printed by wip/whole, contracts own work) ===== -/
/-- the books of a WEEK put in, of so many PERSONS and MILLS -/
def wk_ab (a : Int → Int) (n1 n2 : Int) : Int → Int := fun k => if 60700 + 60 * a 0 ≤ k ∧ k < 60700 + 60 * a 0 + n1 then wk_W2 a (k - (60700 + 60 * a 0)) else if 84700 + 60 * a 0 ≤ k ∧ k < 84700 + 60 * a 0 + n1 then a (3652 + 12 * (k - (84700 + 60 * a 0)) + 4) + 1 else if 108700 + 8 * a 0 ≤ k ∧ k < 108700 + 8 * a 0 + n2 then wk_by a (k - (108700 + 8 * a 0)) + 1 else u1 (wk_a0 a) 8 (wk_F2 a (a 4)) k
def A5 (a : Int → Int) : Int → Int := As (wk_ab a (a 4) (a 1)) (PE4 a) (MI3 a (a 1)) (OD3 a (a 1))
theorem wk_ab_0 {a : Int → Int} : wk_ab a 0 0 = u1 (wk_a0 a) 8 (wk_F2 a (a 4)) := by
  funext k
  unfold wk_ab
  rw [if_neg (by omega), if_neg (by omega), if_neg (by omega)]
theorem wk_ab_p {a : Int → Int} {n : Int} (h0 : 0 ≤ a 0 ∧ a 0 ≤ 399) (hn : 0 ≤ n ∧ n < 60) : u1 (u1 (wk_ab a n 0) (60700 + 60 * a 0 + n) (wk_W2 a n)) (84700 + 60 * a 0 + n) (a (3652 + 12 * n + 4) + 1) = wk_ab a (n + 1) 0 := by
  funext k
  by_cases c1 : k = 84700 + 60 * a 0 + n
  · rw [c1, u1_s]
    unfold wk_ab
    rw [if_neg (by omega), if_pos (by omega), show 84700 + 60 * a 0 + n - (84700 + 60 * a 0) = n by omega]
  · rw [u1_n c1]
    by_cases c2 : k = 60700 + 60 * a 0 + n
    · rw [c2, u1_s]
      unfold wk_ab
      rw [if_pos (by omega), show 60700 + 60 * a 0 + n - (60700 + 60 * a 0) = n by omega]
    · rw [u1_n c2]
      unfold wk_ab
      by_cases c3 : 60700 + 60 * a 0 ≤ k ∧ k < 60700 + 60 * a 0 + n
      · rw [if_pos c3, if_pos (by omega)]
      · rw [if_neg c3, if_neg (show ¬ (60700 + 60 * a 0 ≤ k ∧ k < 60700 + 60 * a 0 + (n + 1)) by omega)]
        by_cases c4 : 84700 + 60 * a 0 ≤ k ∧ k < 84700 + 60 * a 0 + n
        · rw [if_pos c4, if_pos (by omega)]
        · rw [if_neg c4, if_neg (show ¬ (84700 + 60 * a 0 ≤ k ∧ k < 84700 + 60 * a 0 + (n + 1)) by omega)]
theorem wk_ab_m {a : Int → Int} {n1 n : Int} (h0 : 0 ≤ a 0 ∧ a 0 ≤ 399) (h1 : n1 ≤ 60) (hn : 0 ≤ n ∧ n < 8) : u1 (wk_ab a n1 n) (108700 + 8 * a 0 + n) (wk_by a n + 1) = wk_ab a n1 (n + 1) := by
  funext k
  by_cases c1 : k = 108700 + 8 * a 0 + n
  · rw [c1, u1_s]
    unfold wk_ab
    rw [if_neg (by omega), if_neg (by omega), if_pos (by omega), show 108700 + 8 * a 0 + n - (108700 + 8 * a 0) = n by omega]
  · rw [u1_n c1]
    unfold wk_ab
    by_cases c3 : 60700 + 60 * a 0 ≤ k ∧ k < 60700 + 60 * a 0 + n1
    · rw [if_pos c3, if_pos c3]
    · rw [if_neg c3, if_neg c3]
      by_cases c4 : 84700 + 60 * a 0 ≤ k ∧ k < 84700 + 60 * a 0 + n1
      · rw [if_pos c4, if_pos c4]
      · rw [if_neg c4, if_neg c4]
        by_cases c5 : 108700 + 8 * a 0 ≤ k ∧ k < 108700 + 8 * a 0 + n
        · rw [if_pos c5, if_pos (by omega)]
        · rw [if_neg c5, if_neg (show ¬ (108700 + 8 * a 0 ≤ k ∧ k < 108700 + 8 * a 0 + (n + 1)) by omega)]
theorem wk_ab_k {a : Int → Int} {n1 n2 k : Int} (h0 : 0 ≤ a 0) (hk : k < 60700) (h8 : k ≠ 8) : wk_ab a n1 n2 k = a k := by
  unfold wk_ab
  rw [if_neg (by omega), if_neg (by omega), if_neg (by omega), u1_n h8]
  exact u1_n (by omega)
theorem wk_ab_8 {a : Int → Int} {n1 n2 : Int} (h0 : 0 ≤ a 0) : wk_ab a n1 n2 8 = wk_F2 a (a 4) := by
  unfold wk_ab
  rw [if_neg (by omega), if_neg (by omega), if_neg (by omega), u1_s]
/-- outside the tables and the books of this WEEK all is as it was, the FUND aside -/
theorem A5_k {a : Int → Int} {k : Int} (h0 : 0 ≤ a 0) (hk : k < 3300 ∨ 3428 ≤ k ∧ k < 3652 ∨ 5012 ≤ k ∧ k < 60700) (h8 : k ≠ 8) : A5 a k = a k := by
  unfold A5
  rw [As_k (by omega)]
  exact wk_ab_k h0 (by omega) h8
abbrev r_sv (b : Int → Int) (h w : Int) : Prop := 0 ≤ w - 3 ∧ b (31900 + 24 * (w - 3) + h) ≠ 0 ∧ b (31900 + 24 * (w - 2) + h) ≠ 0 ∧ b (31900 + 24 * (w - 1) + h) ≠ 0 ∧ b (31900 + 24 * w + h) ≠ 0
def r_rt1 (b : Int → Int) (s : Int) : Int → Int := if b (3428 + 8 * s + 3) = 1 then b else if 0 ≤ b (3428 + 8 * s) - b (3428 + 8 * s + 2) then u1 b (3428 + 8 * s) (b (3428 + 8 * s) - b (3428 + 8 * s + 2)) else u1 (u1 b (3428 + 8 * s) (b (3428 + 8 * s) - b (3428 + 8 * s + 2))) (3428 + 8 * s + 3) 1
def r_ewP (h p : Int) (b : Int → Int) : Int → Int := if b (3652 + 12 * p + 0) = h then r_endW b p else b
def r_hgsN (b : Int → Int) (L : Int) : Nat → Int → Int
  | 0 => b
  | n + 1 => if (r_hgsN b L n) (3460 + 8 * (n : Int) + 3) = 0 then r_hg (r_hgsN b L n) L (n : Int) else (r_hgsN b L n)
def r_hgs (b : Int → Int) (L : Int) (n : Int) : Int → Int := r_hgsN b L n.toNat
theorem r_hgs_0 {b : Int → Int} {L : Int} : r_hgs b L 0 = b := rfl
theorem r_hgs_s {b : Int → Int} {L : Int} {n : Int} (h : 0 ≤ n) : r_hgs b L (n + 1) = if (r_hgs b L n) (3460 + 8 * n + 3) = 0 then r_hg (r_hgs b L n) L n else (r_hgs b L n) := by
  unfold r_hgs
  have e : (n + 1).toNat = n.toNat + 1 := by omega
  rw [e]
  show (if (r_hgsN b L n.toNat) (3460 + 8 * (n.toNat : Int) + 3) = 0 then r_hg (r_hgsN b L n.toNat) L (n.toNat : Int) else (r_hgsN b L n.toNat)) = _
  rw [Int.toNat_of_nonneg h]
def r_rtsN (b : Int → Int) : Nat → Int → Int
  | 0 => b
  | n + 1 => r_rt1 (r_rtsN b n) (n : Int)
def r_rts (b : Int → Int) (n : Int) : Int → Int := r_rtsN b n.toNat
theorem r_rts_0 {b : Int → Int} : r_rts b 0 = b := rfl
theorem r_rts_s {b : Int → Int} {n : Int} (h : 0 ≤ n) : r_rts b (n + 1) = r_rt1 (r_rts b n) n := by
  unfold r_rts
  have e : (n + 1).toNat = n.toNat + 1 := by omega
  rw [e]
  show (r_rt1 (r_rtsN b n.toNat) (n.toNat : Int)) = _
  rw [Int.toNat_of_nonneg h]
def r_lvsN (b : Int → Int) (w : Int) : Nat → Int → Int
  | 0 => b
  | n + 1 => if (r_lvsN b w n) (3460 + 8 * (n : Int) + 3) = 1 then (r_lvsN b w n) else if r_sv (r_lvsN b w n) (n : Int) w then fI (r_ewP (n : Int)) ((r_lvsN b w n) 4) (u1 (r_lvsN b w n) (3460 + 8 * (n : Int) + 3) 1) else (r_lvsN b w n)
def r_lvs (b : Int → Int) (w : Int) (n : Int) : Int → Int := r_lvsN b w n.toNat
theorem r_lvs_0 {b : Int → Int} {w : Int} : r_lvs b w 0 = b := rfl
theorem r_lvs_s {b : Int → Int} {w : Int} {n : Int} (h : 0 ≤ n) : r_lvs b w (n + 1) = if (r_lvs b w n) (3460 + 8 * n + 3) = 1 then (r_lvs b w n) else if r_sv (r_lvs b w n) n w then fI (r_ewP n) ((r_lvs b w n) 4) (u1 (r_lvs b w n) (3460 + 8 * n + 3) 1) else (r_lvs b w n) := by
  unfold r_lvs
  have e : (n + 1).toNat = n.toNat + 1 := by omega
  rw [e]
  show (if (r_lvsN b w n.toNat) (3460 + 8 * (n.toNat : Int) + 3) = 1 then (r_lvsN b w n.toNat) else if r_sv (r_lvsN b w n.toNat) (n.toNat : Int) w then fI (r_ewP (n.toNat : Int)) ((r_lvsN b w n.toNat) 4) (u1 (r_lvsN b w n.toNat) (3460 + 8 * (n.toNat : Int) + 3) 1) else (r_lvsN b w n.toNat)) = _
  rw [Int.toNat_of_nonneg h]
def A6 (a : Int → Int) : Int → Int := r_hgs (A5 a) (wk_lf a) (a 3)
def A7 (a : Int → Int) : Int → Int := r_rts (A6 a) (a 2)
def A8 (a : Int → Int) : Int → Int := r_lvs (A7 a) (a 0) (a 3)
/-- a WEEK -/
def r_week (a : Int → Int) : Int → Int := u1 (A8 a) 0 (a 0 + 1)
/-- what HOMES need, the first n are through -/
def HI (b : Int → Int) (L n : Int) : Prop := ((0 ≤ b 0 ∧ b 0 ≤ 399) ∧ (0 ≤ b 2 ∧ b 2 ≤ 4) ∧ (0 ≤ b 3 ∧ b 3 ≤ 24) ∧ (0 ≤ b 4 ∧ b 4 ≤ 60) ∧ (1 ≤ L ∧ L ≤ 100000) ∧ (0 ≤ b 15 ∧ b 15 ≤ 3000000 + 240 * n)) ∧ ((∀ p, 0 ≤ p → p < b 4 → 0 ≤ b (3652 + 12 * p + 8)) ∧ sI (fun p => b (3652 + 12 * p + 8)) (b 4) ≤ 400000000) ∧ (∀ h, 0 ≤ h → h < b 3 → (0 ≤ b (3460 + 8 * h + 0) ∧ b (3460 + 8 * h + 0) < b 2) ∧ 0 ≤ b (3460 + 8 * h + 1) ∧ (n ≤ h → b (3460 + 8 * h + 1) ≤ 600000000) ∧ 0 ≤ b (3460 + 8 * h + 2)) ∧ (∀ s, 0 ≤ s → s < b 2 → -1000 ≤ b (3428 + 8 * s) ∧ b (3428 + 8 * s) + r_debts b s ≤ 100000 ∧ (b (3428 + 8 * s + 3) = 0 → 0 ≤ b (3428 + 8 * s)) ∧ (0 ≤ b (3428 + 8 * s + 1) ∧ b (3428 + 8 * s + 1) ≤ 400)) ∧ ∀ h k, 0 ≤ h → h < 24 → 0 ≤ k → k < b 0 → 0 ≤ b (22300 + 24 * k + h) ∧ b (22300 + 24 * k + h) ≤ 500000000
theorem sI_g1 {f : Int → Int} {n c : Int} (hc : 0 ≤ c ∧ c < n) (h : ∀ p, 0 ≤ p → p < n → 0 ≤ f p) : f c ≤ sI f n := by
  have := sI_but (f := f) hc
  have q := sI_p0 (f := fun p => if p = c then 0 else f p) (n := n) (by omega) (fun p p0 p1 => by
    try dsimp only
    split
    · omega
    · exact h p p0 p1)
  omega
theorem HI_HP {b : Int → Int} {L n : Int} (H : HI b L n) (hn : 0 ≤ n ∧ n < b 3) : HP b L n := by
  obtain ⟨⟨h0, h2, h3, h4, hL, h15⟩, ⟨w0, w1⟩, hh, hs, he⟩ := H
  have q := hh n hn.1 hn.2
  have s := hs (hg_s b n) q.1.1 q.1.2
  have dn : ∀ x, 0 ≤ x → x < b 3 → 0 ≤ (if b (3460 + 8 * x + 0) = hg_s b n then b (3460 + 8 * x + 2) else 0) := fun x x0 x1 => by
    have := hh x x0 x1
    split <;> omega
  have d1 := sI_g1 (f := fun x => if b (3460 + 8 * x + 0) = hg_s b n then b (3460 + 8 * x + 2) else 0) (n := b 3) (c := n) hn dn
  have d2 : b (3460 + 8 * n + 2) ≤ r_debts b (hg_s b n) := by
    unfold r_debts
    try dsimp only at d1
    rw [if_pos (show b (3460 + 8 * n + 0) = hg_s b n from rfl)] at d1
    exact d1
  refine ⟨⟨h0, by omega, h4, hL, by omega⟩, fun m m0 m1 => ?_, ⟨⟨q.1.1, by have := q.1.2; unfold hg_s; omega⟩, ⟨q.2.1, by have := q.2.2.1 (Int.le_refl _); omega⟩, q.2.2.2⟩, ⟨s.1, by omega, s.2.2.1, s.2.2.2⟩, fun k k0 k1 => he n k hn.1 (by omega) k0 k1⟩
  have e0 : 0 ≤ hg_e b n m := sI_p0 m0 (fun p p0 p1 => by
    try dsimp only
    split
    · exact w0 p p0 (by omega)
    · omega)
  have e1 : hg_e b n m ≤ sI (fun p => b (3652 + 12 * p + 8)) m := sI_le m0 (fun p p0 p1 => by
    have := w0 p p0 (by omega)
    try dsimp only
    split <;> omega)
  have e2 : sI (fun p => b (3652 + 12 * p + 8)) m ≤ sI (fun p => b (3652 + 12 * p + 8)) (b 4) := sI_mono m0 m1 w0
  omega
/-- where a HOME's WEEK changes nothing -/
theorem r_hg_k {b : Int → Int} {L h k : Int} (H : HP b L h) (hk : k ≠ 22300 + (24 * b 0 + h) ∧ k ≠ 51100 + (24 * b 0 + h) ∧ k ≠ 41500 + (24 * b 0 + h) ∧ k ≠ 31900 + (24 * b 0 + h) ∧ k ≠ 15 ∧ k ≠ 3460 + 8 * h + 1 ∧ k ≠ 3460 + 8 * h + 2 ∧ k ≠ 3428 + 8 * hg_s b h) : r_hg b L h k = b k := hG_k hk
theorem r_hg_D {b : Int → Int} {L h s : Int} (H : HP b L h) (hn : 0 ≤ h ∧ h < b 3) (h3 : b 3 ≤ 24) : r_debts (r_hg b L h) s = r_debts b s + (if hg_s b h = s then hg_D2 b L h - hg_bk b L h - b (3460 + 8 * h + 2) else 0) := by
  have G := hgp_of H
  have h0 := H.1.1
  have hs := H.2.2.1.1
  have r3 : r_hg b L h 3 = b 3 := r_hg_k H (by omega)
  have x0 : ∀ x, 0 ≤ x → x < b 3 → r_hg b L h (3460 + 8 * x + 0) = b (3460 + 8 * x + 0) := fun x q0 q1 => r_hg_k H (by omega)
  have x2 : ∀ x, 0 ≤ x → x < b 3 → x ≠ h → r_hg b L h (3460 + 8 * x + 2) = b (3460 + 8 * x + 2) := fun x q0 q1 q2 => r_hg_k H (by omega)
  have xh : r_hg b L h (3460 + 8 * h + 2) = hg_D2 b L h - hg_bk b L h := hG_rD G
  unfold r_debts
  rw [r3]
  refine sI_1 (c := h) hn (fun x q0 q1 q2 => ?_) ?_
  · try dsimp only
    rw [x0 x q0 q1, x2 x q0 q1 q2]
  · try dsimp only
    rw [x0 h hn.1 hn.2, xh]
    have e : b (3460 + 8 * h + 0) = hg_s b h := rfl
    rw [e]
    by_cases c : hg_s b h = s
    · rw [if_pos c, if_pos c, if_pos c]; omega
    · rw [if_neg c, if_neg c, if_neg c]; omega
theorem HI_s {b : Int → Int} {L n : Int} (H : HI b L n) (hn : 0 ≤ n ∧ n < b 3) : HI (r_hg b L n) L (n + 1) := by
  have hp := HI_HP H hn
  have B := HP_b hp
  have G := hgp_of hp
  obtain ⟨⟨h0, h2, h3, h4, hL, h15⟩, ⟨w0, w1⟩, hh, hs, he⟩ := H
  have q := hh n hn.1 hn.2
  have qs : 0 ≤ hg_s b n ∧ hg_s b n < b 2 := q.1
  have c : ∀ k, k = 0 ∨ k = 2 ∨ k = 3 ∨ k = 4 → r_hg b L n k = b k := fun k hk => r_hg_k hp (by omega)
  have pe : ∀ k, 3652 ≤ k → k < 22300 → r_hg b L n k = b k := fun k k0 k1 => r_hg_k hp (by omega)
  have r15 : r_hg b L n 15 = b 15 + hg_N b L n := hG_rlv G
  have eN : hg_N b L n = hg_n b L n + hg_k b L n := rfl
  refine ⟨⟨by rw [c 0 (by omega)]; exact h0, by rw [c 2 (by omega)]; exact h2, by rw [c 3 (by omega)]; exact h3, by rw [c 4 (by omega)]; exact h4, hL, by rw [r15]; omega⟩, ⟨fun p p0 p1 => ?_, ?_⟩, fun x x0 x1 => ?_, fun s s0 s1 => ?_, fun x k x0 x1 k0 k1 => ?_⟩
  · rw [c 4 (by omega)] at p1
    rw [pe _ (by omega) (by omega)]; exact w0 p p0 p1
  · rw [c 4 (by omega)]
    have : sI (fun p => r_hg b L n (3652 + 12 * p + 8)) (b 4) = sI (fun p => b (3652 + 12 * p + 8)) (b 4) := sI_c (fun p p0 p1 => pe _ (by omega) (by omega))
    rw [this]; exact w1
  · rw [c 3 (by omega)] at x1
    have y := hh x x0 x1
    rw [c 2 (by omega), r_hg_k hp (k := 3460 + 8 * x + 0) (by omega)]
    by_cases e : x = n
    · subst e
      have rP : r_hg b L x (3460 + 8 * x + 1) = hg_P2 b L x - hg_bk b L x := hG_rP G
      have rD : r_hg b L x (3460 + 8 * x + 2) = hg_D2 b L x - hg_bk b L x := hG_rD G
      rw [rP, rD]
      exact ⟨y.1, by omega, fun z => by omega, by omega⟩
    · rw [r_hg_k hp (k := 3460 + 8 * x + 1) (by omega), r_hg_k hp (k := 3460 + 8 * x + 2) (by omega)]
      exact ⟨y.1, y.2.1, fun z => y.2.2.1 (by omega), y.2.2.2⟩
  · rw [c 2 (by omega)] at s1
    have y := hs s s0 s1
    rw [r_hg_D hp hn h3.2, r_hg_k hp (k := 3428 + 8 * s + 3) (by omega), r_hg_k hp (k := 3428 + 8 * s + 1) (by omega)]
    by_cases e : hg_s b n = s
    · have rC : r_hg b L n (3428 + 8 * s) = hg_C2 b L n + hg_bk b L n := by rw [← e]; exact hG_rC G
      rw [if_pos e, rC]
      have dD : hg_D2 b L n = b (3460 + 8 * n + 2) + hg_k b L n * L := rfl
      have dC : hg_C2 b L n = b (3428 + 8 * hg_s b n) - hg_k b L n * L := rfl
      rw [e] at B dC
      exact ⟨by omega, by omega, fun z => by have := B.2.2.2.2.2.2.2.2.2.2.2.1.2.1 z; omega, y.2.2.2⟩
    · rw [if_neg e, r_hg_k hp (k := 3428 + 8 * s) (by omega), Int.add_zero]
      exact y
  · rw [c 0 (by omega)] at k1
    rw [r_hg_k hp (k := 22300 + 24 * k + x) (by omega)]
    exact he x k x0 x1 k0 k1
theorem HI_n {b : Int → Int} {L n : Int} (H : HI b L n) : HI b L (n + 1) := by
  obtain ⟨⟨h0, h2, h3, h4, hL, h15⟩, hw, hh, hs, he⟩ := H
  exact ⟨⟨h0, h2, h3, h4, hL, by omega⟩, hw, fun x x0 x1 => by have y := hh x x0 x1; exact ⟨y.1, y.2.1, fun z => y.2.2.1 (by omega), y.2.2.2⟩, hs, he⟩
/-- what one's work is worth goes to PERSONS whole -/
theorem wk_e_s {a : Int → Int} (hJ : Jv a) {q : Int} (hq : 0 ≤ q ∧ q < a 4) : sI (fun p => wk_e a q p) (a 4) = wk_v a q := by
  have hP := jP hJ q hq.1 hq.2
  unfold wk_e
  rw [sI_add]
  have e1 : sI (fun p => if q = p then wk_o a q else 0) (a 4) = wk_o a q := by
    have : sI (fun p => if q = p then wk_o a q else 0) (a 4) = sI (fun p => if p = q then wk_o a q else 0) (a 4) := sI_c (fun p _ _ => by
      try dsimp only
      by_cases c : q = p
      · rw [if_pos c, if_pos c.symm]
      · rw [if_neg c, if_neg (fun x => c x.symm)])
    rw [this, sI_one hq]
  rw [e1]
  by_cases c : a (3652 + 12 * q + 3) = 2
  · have ht := hP.2.2.2.2.2.2.2.2.2.2.2.1 c
    have e2 : sI (fun p => if a (3652 + 12 * q + 3) = 2 ∧ a (3652 + 12 * q + 6) = p then wk_v a q - wk_o a q else 0) (a 4) = wk_v a q - wk_o a q := by
      have : sI (fun p => if a (3652 + 12 * q + 3) = 2 ∧ a (3652 + 12 * q + 6) = p then wk_v a q - wk_o a q else 0) (a 4) = sI (fun p => if p = a (3652 + 12 * q + 6) then wk_v a q - wk_o a q else 0) (a 4) := sI_c (fun p _ _ => by
        try dsimp only
        by_cases d : a (3652 + 12 * q + 6) = p
        · rw [if_pos ⟨c, d⟩, if_pos d.symm]
        · rw [if_neg (fun x => d x.2), if_neg (fun x => d x.symm)])
      rw [this, sI_one ⟨ht.2.1, by omega⟩]
    rw [e2]; omega
  · have e2 : sI (fun p => if a (3652 + 12 * q + 3) = 2 ∧ a (3652 + 12 * q + 6) = p then wk_v a q - wk_o a q else 0) (a 4) = 0 := by
      have : sI (fun p => if a (3652 + 12 * q + 3) = 2 ∧ a (3652 + 12 * q + 6) = p then wk_v a q - wk_o a q else 0) (a 4) = sI (fun _ => 0) (a 4) := sI_c (fun p _ _ => if_neg (fun x => c x.1))
      rw [this, sI_z]
    rw [e2]
    unfold wk_o
    rw [if_neg c]; omega
theorem wk_Wsum {a : Int → Int} (hJ : Jv a) : sI (wk_Wf a) (a 4) = sI (wk_v a) (a 4) := by
  have : sI (wk_Wf a) (a 4) = sI (fun p => sI (fun q => wk_e a q p) (a 4)) (a 4) := rfl
  rw [this, sI_sw (fun p q => wk_e a q p)]
  exact sI_c (fun q q0 q1 => wk_e_s hJ ⟨q0, q1⟩)
theorem wk_W2_s {a : Int → Int} (hJ : Jv a) (hT : jv_T a) (h0 : a 0 ≤ 399) : sI (wk_W2 a) (a 4) ≤ 330030000 := by
  have hC := jC hJ
  unfold jv_C at hC
  have e1 : sI (wk_W2 a) (a 4) ≤ sI (fun p => wk_Wf a p + 500) (a 4) := sI_le (by omega) (fun p _ _ => (wk_W2_b hJ hT h0 p).2)
  rw [sI_add (wk_Wf a) (fun _ => 500)] at e1
  have e2 := sI_b (f := wk_v a) (n := a 4) (lo := 0) (hi := 5500000) (by omega) (fun p p0 p1 => (wk_v_b hJ hT h0 ⟨p0, p1⟩).1)
  have e3 := sI_b (f := fun _ => (500 : Int)) (n := a 4) (lo := 0) (hi := 500) (by omega) (fun p p0 p1 => by omega)
  have e4 := wk_Wsum hJ
  have e5 : sI (fun p => wk_Wf a p) (a 4) = sI (wk_Wf a) (a 4) := rfl
  omega
theorem A5_p {a : Int → Int} {p c : Int} (hp : 0 ≤ p ∧ p < 60) (hc : 0 ≤ c ∧ c < 12) : A5 a (3652 + 12 * p + c) = PE4 a p c := As_p hp hc
theorem A5_c {a : Int → Int} (h0 : 0 ≤ a 0) : A5 a 0 = a 0 ∧ A5 a 1 = a 1 ∧ A5 a 2 = a 2 ∧ A5 a 3 = a 3 ∧ A5 a 4 = a 4 ∧ A5 a 5 = a 5 ∧ A5 a 6 = a 6 ∧ A5 a 7 = a 7 ∧ A5 a 15 = a 15 := ⟨A5_k h0 (by omega) (by omega), A5_k h0 (by omega) (by omega), A5_k h0 (by omega) (by omega), A5_k h0 (by omega) (by omega), A5_k h0 (by omega) (by omega), A5_k h0 (by omega) (by omega), A5_k h0 (by omega) (by omega), A5_k h0 (by omega) (by omega), A5_k h0 (by omega) (by omega)⟩
theorem HI_0 {a : Int → Int} (hJ : Jv a) (hT : jv_T a) (h0 : a 0 ≤ 399) (hU : jv_U a) (hB : jv_B a) : HI (A5 a) (wk_lf a) 0 := by
  have hC := jC hJ
  unfold jv_C at hC
  have A := A5_c (a := a) (by omega)
  have lf := wk_lf_b hJ h0
  have k : ∀ k, 3428 ≤ k → k < 3652 → A5 a k = a k := fun k k0 k1 => A5_k (by omega) (by omega) (by omega)
  have e15 : 0 ≤ a 15 ∧ a 15 ≤ 2304000 := by
    have := sI_b (f := fun k => a (41500 + k)) (n := 24 * a 0) (lo := 0) (hi := 240) (by omega) (fun k k0 k1 => by
      have q := (hB.1 (k / 24) (by omega) (by omega)).2.2.2.1 (k % 24) (by omega) (by omega)
      have e : 41500 + 24 * (k / 24) + k % 24 = 41500 + k := by omega
      rw [e] at q
      omega)
    rw [hB.2]
    omega
  refine ⟨⟨by omega, by omega, by omega, by omega, lf, by omega⟩, ⟨fun p p0 p1 => ?_, ?_⟩, fun h x0 x1 => ?_, fun s s0 s1 => ?_, fun h w x0 x1 w0 w1 => ?_⟩
  · rw [A5_p (by omega) (by omega)]
    unfold PE4
    rw [if_pos (by omega)]
    exact (wk_W2_b hJ hT h0 p).1
  · rw [A.2.2.2.2.1]
    have : sI (fun p => A5 a (3652 + 12 * p + 8)) (a 4) = sI (wk_W2 a) (a 4) := sI_c (fun p p0 p1 => by
      try dsimp only
      rw [A5_p (by omega) (by omega)]
      unfold PE4
      rw [if_pos (by omega)])
    rw [this]
    have := wk_W2_s hJ hT h0
    omega
  · rw [A.2.2.2.1] at x1
    have hH := jH hJ h x0 x1
    have u := hU.2.1 h x0 x1
    rw [A.2.2.1, k _ (by omega) (by omega), k _ (by omega) (by omega), k _ (by omega) (by omega)]
    exact ⟨hH.1, hH.2.1, fun _ => u, hH.2.2.1⟩
  · rw [A.2.2.1] at s1
    have hQ := jQ hJ s s0 s1
    have u := hU.2.2 s s0 s1
    have eD : r_debts (A5 a) s = r_debts a s := gD A.2.2.2.1 (fun x x0 x1 => k x (by omega) (by omega)) s
    rw [eD, k _ (by omega) (by omega), k _ (by omega) (by omega), k _ (by omega) (by omega)]
    exact ⟨u.1, u.2.1, u.2.2, hQ.1⟩
  · rw [A.1] at w1
    have q := ((hB.1 w w0 w1).2.2.2.1 h x0 x1).2.2
    rw [A5_k (by omega) (by omega) (by omega)]
    exact q
theorem HI_I {b : Int → Int} {L : Int} (H : HI b L 0) : ∀ n, 0 ≤ n → n ≤ b 3 → HI (r_hgs b L n) L n ∧ r_hgs b L n 0 = b 0 ∧ r_hgs b L n 1 = b 1 ∧ r_hgs b L n 2 = b 2 ∧ r_hgs b L n 3 = b 3 ∧ r_hgs b L n 4 = b 4 := by
  have key : ∀ n : Nat, (n : Int) ≤ b 3 → HI (r_hgs b L n) L n ∧ r_hgs b L n 0 = b 0 ∧ r_hgs b L n 1 = b 1 ∧ r_hgs b L n 2 = b 2 ∧ r_hgs b L n 3 = b 3 ∧ r_hgs b L n 4 = b 4 := by
    intro n
    induction n with
    | zero => intro _; rw [show ((0 : Nat) : Int) = 0 from rfl, r_hgs_0]; exact ⟨H, rfl, rfl, rfl, rfl, rfl⟩
    | succ n ih =>
      intro hn
      obtain ⟨i1, i2, i3, i4, i5, i6⟩ := ih (by omega)
      rw [show ((n + 1 : Nat) : Int) = (n : Int) + 1 by omega, r_hgs_s (by omega)]
      split
      · have hp := HI_HP i1 (n := n) ⟨by omega, by omega⟩
        have h0 := hp.1.1
        have hs := hp.2.2.1.1
        have h3 := i1.1.2.2.1
        refine ⟨HI_s i1 ⟨by omega, by omega⟩, ?_, ?_, ?_, ?_, ?_⟩
        · rw [r_hg_k hp (by omega)]; exact i2
        · rw [r_hg_k hp (by omega)]; exact i3
        · rw [r_hg_k hp (by omega)]; exact i4
        · rw [r_hg_k hp (by omega)]; exact i5
        · rw [r_hg_k hp (by omega)]; exact i6
      · exact ⟨HI_n i1, i2, i3, i4, i5, i6⟩
  intro n n0 n1
  have := key n.toNat (by omega)
  rw [Int.toNat_of_nonneg n0] at this
  exact this
-- method 292: MillTownModel.isStarved(II)Z
theorem c_292_0 : pg_cd 292 0 = (3, 1, 0, 2, 0) := by decide +kernel
theorem c_292_1 : pg_cd 292 1 = (1, 1, 0, 0, 3) := by decide +kernel
theorem c_292_2 : pg_cd 292 2 = (11, 1, 0, 0, 0) := by decide +kernel
theorem c_292_3 : pg_cd 292 3 = (6, 1, 0, 3, 0) := by decide +kernel
theorem c_292_4 : pg_cd 292 4 = (3, 1, 0, 3, 0) := by decide +kernel
theorem c_292_5 : pg_cd 292 5 = (3, 1, 0, 2, 0) := by decide +kernel
theorem c_292_6 : pg_cd 292 6 = (37, 3, 0, 4, 33) := by decide +kernel
theorem c_292_9 : pg_cd 292 9 = (3, 1, 0, 3, 0) := by decide +kernel
theorem c_292_10 : pg_cd 292 10 = (36, 3, 0, 2, 21) := by decide +kernel
theorem c_292_13 : pg_cd 292 13 = (5, 1, 0, 0, 0) := by decide +kernel
theorem c_292_14 : pg_cd 292 14 = (45, 12, 8, 0, 0) := by decide +kernel
theorem c_292_17 : pg_cd 292 17 = (1, 3, 0, 0, 31900) := by decide +kernel
theorem c_292_20 : pg_cd 292 20 = (1, 2, 0, 0, 24) := by decide +kernel
theorem c_292_22 : pg_cd 292 22 = (3, 1, 0, 3, 0) := by decide +kernel
theorem c_292_23 : pg_cd 292 23 = (12, 1, 0, 0, 0) := by decide +kernel
theorem c_292_24 : pg_cd 292 24 = (10, 1, 0, 0, 0) := by decide +kernel
theorem c_292_25 : pg_cd 292 25 = (3, 1, 0, 1, 0) := by decide +kernel
theorem c_292_26 : pg_cd 292 26 = (10, 1, 0, 0, 0) := by decide +kernel
theorem c_292_27 : pg_cd 292 27 = (50, 1, 0, 0, 0) := by decide +kernel
theorem c_292_28 : pg_cd 292 28 = (36, 3, 0, 1, 5) := by decide +kernel
theorem c_292_31 : pg_cd 292 31 = (1, 1, 0, 0, 0) := by decide +kernel
theorem c_292_32 : pg_cd 292 32 = (91, 0, 0, 0, 0) := by decide +kernel
theorem c_292_33 : pg_cd 292 33 = (9, 3, 0, 3, 1) := by decide +kernel
theorem c_292_36 : pg_cd 292 36 = (38, 3, 0, 0, (-32)) := by decide +kernel
theorem c_292_39 : pg_cd 292 39 = (1, 1, 0, 0, 1) := by decide +kernel
theorem c_292_40 : pg_cd 292 40 = (91, 0, 0, 0, 0) := by decide +kernel
theorem mi_292 : pg_mc 292 = 12 ∧ pg_na 292 = 2 ∧ pg_mx 292 = 4 := by decide +kernel
set_option maxRecDepth 20000 in
theorem u_292_0 {d : Nat} {S : zS} {σ τ : zI} {Q : zQ} {x1 : Int} {x2 : Int} (t : wi (d + 0) 292 4 [.ref 83, .int (wI x1), .int (wI x2), .int (wI (x2 - 3))] [] S σ τ Q) : wi (d + 0) 292 0 [.ref 83, .int (wI x1), .int (wI x2), .retAddr 0] [] S σ τ Q := by
  refine i3 c_292_0 rfl (i1 c_292_1 (i11 c_292_2 (i6 (L' := [.ref 83, .int (wI x1), .int (wI x2), .int (wI (x2 - 3))]) c_292_3 rfl t)))
set_option maxRecDepth 20000 in
theorem u_292_4 {d : Nat} {S : zS} {σ τ : zI} {Q : zQ} {x1 : Int} {x2 : Int} {x3 : Int} (t : (rg x3) ∧ (rg x2) ∧ if x2 < x3 then (Q (some (.int (wI 1))) S σ τ) else (if x3 < 0 then (Q (some (.int (wI 0))) S σ τ) else ((0 ≤ (31900 + (24 * x3)) + x1 ∧ (31900 + (24 * x3)) + x1 < 112300) ∧ if (σ 84 ((31900 + (24 * x3)) + x1)) = 0 then (Q (some (.int (wI 0))) S σ τ) else (wi (d + 0) 292 4 [.ref 83, .int (wI x1), .int (wI x2), .int (wI (x3 + 1))] [] S σ τ Q)))) : wi (d + 0) 292 4 [.ref 83, .int (wI x1), .int (wI x2), .int (wI x3)] [] S σ τ Q := by
  obtain ⟨r1, t⟩ := t
  obtain ⟨r2, t⟩ := t
  refine i3 c_292_4 rfl (i3 c_292_5 rfl ?_)
  refine i37 c_292_6 r1 r2 rfl (fun hc => ?_) (fun hc => ?_)
  · have t := iT t hc
    have ha3 : x2 < x3 := hc
    refine i1 c_292_39 ?_
    exact i91 c_292_40 (by decide) t
  · have t := iF t hc
    have ha3 : ¬ (x2 < x3) := hc
    refine i3 c_292_9 rfl ?_
    refine i36 c_292_10 r1 rfl (fun hc => ?_) (fun hc => ?_)
    · have t := iT t hc
      have ha4 : x3 < 0 := hc
      refine i1 c_292_31 ?_
      exact i91 c_292_32 (by decide) t
    · have t := iF t hc
      have ha4 : ¬ (x3 < 0) := hc
      obtain ⟨r5, t⟩ := t
      refine i5 c_292_13 rfl (i45 c_292_14 (lo (c := 83) (kd := 112) (n := 0) rfl (by decide)) (lro (c := 83) (k := 0) (j := 84) (by decide)) (i1 c_292_17 (i1 c_292_20 (i3 c_292_22 rfl (i12 c_292_23 (i10 c_292_24 (i3 c_292_25 rfl (i10 c_292_26 (wi_ok (fun K6 => ?_))))))))))
      refine i50 (v := σ 84 ((31900 + (24 * x3)) + x1)) c_292_27 (lo (c := 84) (kd := 0) (n := 112300) rfl (by decide)) (by decide) r5 rfl ?_
      refine i36 c_292_28 (rge_ K6 rfl) rfl (fun hc => ?_) (fun hc => ?_)
      · have t := iF t hc
        have ha7 : ¬ ((σ 84 ((31900 + (24 * x3)) + x1)) = 0) := hc
        refine i9 (L' := [.ref 83, .int (wI x1), .int (wI x2), .int (wI (x3 + 1))]) c_292_33 rfl rfl (i38 c_292_36 rfl t)
      · have t := iT t (Decidable.not_not.mp hc)
        have ha7 : (σ 84 ((31900 + (24 * x3)) + x1)) = 0 := Decidable.not_not.mp hc
        refine i1 c_292_31 ?_
        exact i91 c_292_32 (by decide) t
theorem q_292 {d : Nat} {S : zS} {σ τ : zI} {Q : zQ} {h : Int} {w : Int} (p0 : 0 ≤ h ∧ h < (24 : Int)) (p1 : 0 ≤ w ∧ w ≤ (399 : Int)) (t : Q (some (.int (wI (if r_sv (σ 84) h w then 1 else 0)))) S σ τ) : wc (d + 0) 292 [.ref 83, .int (wI h), .int (wI w)] S σ τ Q := by
  refine wc_of mi_292 rfl (u_292_0 ?_)
  have no : ¬ r_sv (σ 84) h w → Q (some (.int (wI 0))) S σ τ := fun q => by rw [if_neg q] at t; exact t
  have yes : r_sv (σ 84) h w → Q (some (.int (wI 1))) S σ τ := fun q => by rw [if_pos q] at t; exact t
  clear t
  have e1 : w - 3 + 1 = w - 2 := by omega
  have e2 : w - 2 + 1 = w - 1 := by omega
  have e3 : w - 1 + 1 = w := by omega
  refine u_292_4 ⟨by omega, by omega, ifI (fun e => by omega) (fun _ => ifI (fun e => no (fun q => by have := q.1; omega)) (fun n1 => ⟨by omega, ifI (fun e => no (fun q => q.2.1 e)) (fun n2 => ?_)⟩))⟩
  rw [e1]
  refine u_292_4 ⟨by omega, by omega, ifI (fun e => by omega) (fun _ => ifI (fun e => by omega) (fun _ => ⟨by omega, ifI (fun e => no (fun q => q.2.2.1 e)) (fun n3 => ?_)⟩))⟩
  rw [e2]
  refine u_292_4 ⟨by omega, by omega, ifI (fun e => by omega) (fun _ => ifI (fun e => by omega) (fun _ => ⟨by omega, ifI (fun e => no (fun q => q.2.2.2.1 e)) (fun n4 => ?_)⟩))⟩
  rw [e3]
  refine u_292_4 ⟨by omega, by omega, ifI (fun e => by omega) (fun _ => ifI (fun e => by omega) (fun _ => ⟨by omega, ifI (fun e => no (fun q => q.2.2.2.2 e)) (fun n5 => ?_)⟩))⟩
  exact u_292_4 ⟨by omega, by omega, ifI (fun _ => yes ⟨by omega, n2, n3, n4, n5⟩) (fun e => by omega)⟩
