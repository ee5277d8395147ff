/-! ===== a WEEK: what weavers make (segments printed by wip/whole, contracts own work) ===== -/
def wk_hm (a : Int → Int) (m p : Int) : Int := if m < 0 then 0 else if wk_ht a m = 0 then 0 else if wk_ht a m = 2 then wk_h a p else (wk_h a p).tdiv 2
/-- HOURS of a PERSON as its MILL runs -/
def wk_hn (a : Int → Int) (p : Int) : Int := wk_hm a (a (3652 + 12 * p + 4)) p
def wk_x (a : Int → Int) (p : Int) : Int := wk_r1 a p + r_pts a p (wk_hn a p)
def wk_kB (a : Int → Int) (m : Int) : Int := a (4372 + 8 * wk_by a m)
def wk_cs (a : Int → Int) (m : Int) : Int := r_cost a (wk_kB a m)
def wk_yn (a : Int → Int) (m : Int) : Int := a (20 + 8 * wk_kB a m + 3)
/-- bales that are bought -/
def wk_bt (st co nd ct : Int) : Int := if nd ≤ st then 0 else min ((nd - st + 359) / 360) (co / ct)
def wk_n0 (a : Int → Int) (m p lf : Int) : Int := if (wk_x a p).tdiv (wk_cs a m) < lf then (wk_x a p).tdiv (wk_cs a m) else lf
/-- of COINS, YARN, PIECES left: bales, PIECES, what is left behind a weaver -/
def wk_B1 (a : Int → Int) (m p : Int) (s : Int × Int × Int) : Int := wk_bt s.2.1 s.1 (wk_n0 a m p s.2.2 * wk_yn a m) (wk_ct a)
def wk_N1 (a : Int → Int) (m p : Int) (s : Int × Int × Int) : Int := if (s.2.1 + 360 * wk_B1 a m p s).tdiv (wk_yn a m) < wk_n0 a m p s.2.2 then (s.2.1 + 360 * wk_B1 a m p s).tdiv (wk_yn a m) else wk_n0 a m p s.2.2
def wk_S1 (a : Int → Int) (m p : Int) (s : Int × Int × Int) : Int × Int × Int := (s.1 - wk_B1 a m p s * wk_ct a, s.2.1 + 360 * wk_B1 a m p s - wk_N1 a m p s * wk_yn a m, s.2.2 - wk_N1 a m p s)
def wk_sN (a : Int → Int) (m : Int) : Nat → Int × Int × Int
  | 0 => (a (3300 + 16 * m + 2), a (3300 + 16 * m + 4), wk_tx a m)
  | n + 1 => if wk_wv a m (n : Int) then wk_S1 a m (n : Int) (wk_sN a m n) else (wk_sN a m n)
def wk_s (a : Int → Int) (m : Int) (n : Int) : Int × Int × Int := wk_sN a m n.toNat
theorem wk_s_0 {a : Int → Int} {m : Int} : wk_s a m 0 = (a (3300 + 16 * m + 2), a (3300 + 16 * m + 4), wk_tx a m) := rfl
theorem wk_s_s {a : Int → Int} {m : Int} {n : Int} (h : 0 ≤ n) : wk_s a m (n + 1) = if wk_wv a m n then wk_S1 a m n (wk_s a m n) else (wk_s a m n) := by
  unfold wk_s
  have e : (n + 1).toNat = n.toNat + 1 := by omega
  rw [e]
  show (if wk_wv a m (n.toNat : Int) then wk_S1 a m (n.toNat : Int) (wk_sN a m n.toNat) else (wk_sN a m n.toNat)) = _
  rw [Int.toNat_of_nonneg h]
def wk_nx (a : Int → Int) (m p : Int) : Int := if wk_wv a m p ∧ wk_D a m then wk_N1 a m p (wk_s a m p) else 0
/-- PIECES of a PERSON -/
def wk_np (a : Int → Int) (p : Int) : Int := wk_nx a (a (3652 + 12 * p + 4)) p
def wk_rr (a : Int → Int) (m p : Int) : Int := if wk_x a p - wk_nx a m p * wk_cs a m < wk_cs a m then wk_x a p - wk_nx a m p * wk_cs a m else wk_cs a m - 1
def wk_ry (a : Int → Int) (m p : Int) : Int := if wk_wv a m p ∧ wk_D a m then wk_rr a m p else wk_r1 a p
def wk_r2 (a : Int → Int) (p : Int) : Int := wk_ry a (a (3652 + 12 * p + 4)) p
def wk_mp (a : Int → Int) (n p : Int) : Int := if 0 ≤ a (3652 + 12 * p + 4) ∧ a (3652 + 12 * p + 4) < n then wk_np a p else 0
def PE2 (a : Int → Int) (n p c : Int) : Int := if c = 7 ∧ p < a 4 ∧ 0 ≤ a (3652 + 12 * p + 4) ∧ a (3652 + 12 * p + 4) < n then wk_r2 a p else PE1 a (a 1) p c
def MI2 (a : Int → Int) (n m c : Int) : Int := if (m < n ∧ wk_D a m) ∧ (c = 2 ∨ c = 4 ∨ c = 10) then (if c = 2 then (wk_s a m (a 4)).1 else if c = 4 then (wk_s a m (a 4)).2.1 else wk_tx a m - (wk_s a m (a 4)).2.2) else MI1 a (a 1) m c
def PEw (a : Int → Int) (m q p c : Int) : Int := if c = 7 ∧ p < q ∧ wk_wv a m p then wk_rr a m p else PE2 a m p c
def MIw (a : Int → Int) (m q x c : Int) : Int := if x = m ∧ (c = 2 ∨ c = 4 ∨ c = 10) then (if c = 2 then (wk_s a m q).1 else if c = 4 then (wk_s a m q).2.1 else wk_tx a m - (wk_s a m q).2.2) else MI2 a m x c
section WV
variable {a : Int → Int} {m : Int}
theorem wk_ht_D (h : wk_D a m) : wk_ht a m = 1 ∨ wk_ht a m = 2 := by
  unfold wk_ht
  rw [if_pos h]
  split <;> omega
theorem wk_ht_N (h : ¬ wk_D a m) : wk_ht a m = 0 := if_neg h
theorem wk_hn_b (hJ : Jl a) (hT : jv_T a) (p : Int) : 0 ≤ wk_hn a p ∧ wk_hn a p ≤ 80 := by
  have b := wk_h_b hJ hT p
  unfold wk_hn wk_hm
  repeat' split
  · omega
  · omega
  · exact b
  · rw [Int.tdiv_eq_ediv_of_nonneg b.1]; omega
theorem wk_x_b (hJ : Jv a) (hT : jv_T a) {p : Int} (hm : 0 ≤ m) (hp : 0 ≤ p ∧ p < a 4) (hw : wk_wv a m p) : 0 ≤ wk_x a p ∧ wk_x a p ≤ 1188000 := by
  have r := wk_r1_b hJ hp
  have q := wk_pt_b hJ hp hm hw (wk_hn_b (Jl_of hJ) hT p)
  unfold wk_x
  omega
theorem wk_by_b (hJ : Jv a) (hT : jv_T a) (h0 : a 0 ≤ 399) (hm : 0 ≤ m ∧ m < a 1) (h : wk_D a m) : (0 ≤ wk_by a m ∧ wk_by a m < a 7) ∧ (0 ≤ wk_kB a m ∧ wk_kB a m ≤ 5) ∧ wk_kB a m = wk_ls a m ∧ (0 ≤ wk_py a m (wk_by a m) ∧ wk_py a m (wk_by a m) ≤ 11000) ∧ (2000 ≤ wk_cs a m ∧ wk_cs a m ≤ 228000) ∧ (1 ≤ wk_yn a m ∧ wk_yn a m ≤ 50) ∧ (1 ≤ wk_tx a m ∧ wk_tx a m ≤ 500) := by
  have b := wk_ok_b hJ hT h0 hm h.1
  have d := wk_D_b hJ hT h0 hm h
  have e1 : wk_by a m = wk_bo a (wk_T a m) m := if_pos h
  have e2 : wk_ls a m = wk_kd a (wk_T a m) m := if_pos h.1
  have e3 : wk_kB a m = wk_kd a (wk_T a m) m := by unfold wk_kB wk_kd; rw [e1]
  have e4 : wk_tx a m = wk_tk a (wk_T a m) m := if_pos h
  have c := r_cost_b (jK hJ) (k := wk_kB a m) (by rw [e3]; exact b.2.1)
  have k := jK hJ (wk_kB a m) (by rw [e3]; exact b.2.1.1) (by rw [e3]; exact b.2.1.2)
  have g := wk_gn_b hJ hT h0 (m := m) b.1
  refine ⟨by rw [e1]; exact b.1, by rw [e3]; exact b.2.1, by rw [e2, e3], by rw [e1]; exact ⟨g.1.1, b.2.2.2⟩, c, k.2.2.1, by omega⟩
theorem wk_bt_b {st co nd ct : Int} (h1 : 0 ≤ co) (h2 : 0 ≤ st ∧ st ≤ 30000) (h3 : nd ≤ 25000) (h4 : 1 ≤ ct) : (0 ≤ wk_bt st co nd ct ∧ wk_bt st co nd ct ≤ 100) ∧ wk_bt st co nd ct * ct ≤ co ∧ 0 ≤ wk_bt st co nd ct * ct ∧ st + 360 * wk_bt st co nd ct ≤ 30000 := by
  unfold wk_bt
  split
  · refine ⟨by omega, ?_, ?_, by omega⟩
    · rw [Int.zero_mul]; exact h1
    · rw [Int.zero_mul]; exact Int.le_refl _
  · have q : 0 ≤ co / ct := Int.ediv_nonneg h1 (by omega)
    have b0 : 0 ≤ min ((nd - st + 359) / 360) (co / ct) := by omega
    have l : min ((nd - st + 359) / 360) (co / ct) ≤ co / ct := by omega
    refine ⟨by omega, (Int.le_ediv_iff_mul_le (by omega)).mp l, Int.mul_nonneg b0 (by omega), by omega⟩
/-- one bale more is bought just when it is one of them -/
theorem wk_bt_i {st co nd ct i : Int} (h1 : 0 ≤ co) (h4 : 1 ≤ ct) (hi : 0 ≤ i ∧ i ≤ wk_bt st co nd ct) : (i < wk_bt st co nd ct → st + 360 * i < nd ∧ ct ≤ co - i * ct) ∧ (i = wk_bt st co nd ct → nd ≤ st + 360 * i ∨ co - i * ct < ct) := by
  unfold wk_bt at *
  by_cases c : nd ≤ st
  · rw [if_pos c] at hi ⊢
    exact ⟨fun h => by omega, fun h => Or.inl (by omega)⟩
  · rw [if_neg c] at hi ⊢
    refine ⟨fun h => ⟨by omega, ?_⟩, fun h => ?_⟩
    · have : (i + 1) * ct ≤ co := (Int.le_ediv_iff_mul_le (by omega)).mp (by omega)
      rw [Int.add_mul] at this
      omega
    · by_cases c2 : (nd - st + 359) / 360 ≤ co / ct
      · left; omega
      · right
        have e : i = co / ct := by omega
        have := Int.lt_ediv_add_one_mul_self co (show 0 < ct by omega)
        rw [← e, Int.add_mul] at this
        omega
theorem wk_n0_b {p lf : Int} (hx : 0 ≤ (wk_x a p).tdiv (wk_cs a m)) (hl : 0 ≤ lf) : 0 ≤ wk_n0 a m p lf ∧ wk_n0 a m p lf ≤ lf := by
  unfold wk_n0
  split <;> omega
theorem wk_S1_b {p : Int} {s : Int × Int × Int} (hx : 0 ≤ (wk_x a p).tdiv (wk_cs a m)) (hc : 1 ≤ wk_ct a) (hy : 1 ≤ wk_yn a m ∧ wk_yn a m ≤ 50) (h1 : 0 ≤ s.1) (h2 : 0 ≤ s.2.1 ∧ s.2.1 ≤ 30000) (h3 : 0 ≤ s.2.2 ∧ s.2.2 ≤ 500) : (0 ≤ wk_n0 a m p s.2.2 * wk_yn a m ∧ wk_n0 a m p s.2.2 * wk_yn a m ≤ 25000) ∧ ((0 ≤ wk_B1 a m p s ∧ wk_B1 a m p s ≤ 100) ∧ wk_B1 a m p s * wk_ct a ≤ s.1 ∧ 0 ≤ wk_B1 a m p s * wk_ct a ∧ s.2.1 + 360 * wk_B1 a m p s ≤ 30000) ∧ (0 ≤ wk_N1 a m p s ∧ wk_N1 a m p s ≤ s.2.2) ∧ (0 ≤ wk_N1 a m p s * wk_yn a m ∧ wk_N1 a m p s * wk_yn a m ≤ s.2.1 + 360 * wk_B1 a m p s) ∧ wk_N1 a m p s ≤ wk_n0 a m p s.2.2 ∧ 0 ≤ (s.2.1 + 360 * wk_B1 a m p s).tdiv (wk_yn a m) ∧ (s.2.1 + 360 * wk_B1 a m p s).tdiv (wk_yn a m) ≤ 30000 := by
  have n := wk_n0_b (p := p) hx h3.1
  have m1 : 0 ≤ wk_n0 a m p s.2.2 * wk_yn a m := Int.mul_nonneg n.1 (by omega)
  have m2 : wk_n0 a m p s.2.2 * wk_yn a m ≤ 500 * 50 := Int.mul_le_mul (by omega) hy.2 (by omega) (by omega)
  have b : (0 ≤ wk_B1 a m p s ∧ wk_B1 a m p s ≤ 100) ∧ wk_B1 a m p s * wk_ct a ≤ s.1 ∧ 0 ≤ wk_B1 a m p s * wk_ct a ∧ s.2.1 + 360 * wk_B1 a m p s ≤ 30000 := wk_bt_b h1 h2 (by omega) hc
  have v0 : 0 ≤ s.2.1 + 360 * wk_B1 a m p s := by omega
  have e := Int.tdiv_eq_ediv_of_nonneg v0 (b := wk_yn a m)
  have d0 : 0 ≤ (s.2.1 + 360 * wk_B1 a m p s) / wk_yn a m := Int.ediv_nonneg v0 (by omega)
  have d1 : (s.2.1 + 360 * wk_B1 a m p s) / wk_yn a m * wk_yn a m ≤ s.2.1 + 360 * wk_B1 a m p s := Int.ediv_mul_le _ (by omega)
  have d2 : (s.2.1 + 360 * wk_B1 a m p s) / wk_yn a m ≤ s.2.1 + 360 * wk_B1 a m p s := Int.ediv_le_self _ v0
  have N : wk_N1 a m p s = if (s.2.1 + 360 * wk_B1 a m p s).tdiv (wk_yn a m) < wk_n0 a m p s.2.2 then (s.2.1 + 360 * wk_B1 a m p s).tdiv (wk_yn a m) else wk_n0 a m p s.2.2 := rfl
  refine ⟨by omega, b, ?_, ?_, ?_, by rw [e]; exact d0, by rw [e]; omega⟩
  · rw [N, e]; split <;> omega
  · rw [N, e]
    by_cases c : (s.2.1 + 360 * wk_B1 a m p s) / wk_yn a m < wk_n0 a m p s.2.2
    · rw [if_pos c]; exact ⟨Int.mul_nonneg d0 (by omega), d1⟩
    · rw [if_neg c]
      refine ⟨m1, ?_⟩
      have := (Int.le_ediv_iff_mul_le (show 0 < wk_yn a m by omega)).mp (show wk_n0 a m p s.2.2 ≤ (s.2.1 + 360 * wk_B1 a m p s) / wk_yn a m by omega)
      exact this
  · rw [N, e]; split <;> omega
/-- COINS, YARN, PIECES left stay in their bounds -/
theorem wk_s_b (hJ : Jv a) (hT : jv_T a) (h0 : a 0 ≤ 399) (hm : 0 ≤ m ∧ m < a 1) (h : wk_D a m) : ∀ n, 0 ≤ n → n ≤ a 4 → (0 ≤ (wk_s a m n).1 ∧ (wk_s a m n).1 ≤ a (3300 + 16 * m + 2)) ∧ (0 ≤ (wk_s a m n).2.1 ∧ (wk_s a m n).2.1 ≤ 30000) ∧ (0 ≤ (wk_s a m n).2.2 ∧ (wk_s a m n).2.2 ≤ wk_tx a m) := by
  have yb := wk_by_b hJ hT h0 hm h
  have hM := jM hJ m hm.1 hm.2
  have ct := wk_ct_b hJ h0
  have key : ∀ n : Nat, (n : Int) ≤ a 4 → (0 ≤ (wk_s a m n).1 ∧ (wk_s a m n).1 ≤ a (3300 + 16 * m + 2)) ∧ (0 ≤ (wk_s a m n).2.1 ∧ (wk_s a m n).2.1 ≤ 30000) ∧ (0 ≤ (wk_s a m n).2.2 ∧ (wk_s a m n).2.2 ≤ wk_tx a m) := by
    intro n
    induction n with
    | zero =>
      intro _
      rw [show ((0 : Nat) : Int) = 0 from rfl, wk_s_0]
      have := h.1.1.1
      dsimp only
      omega
    | succ n ih =>
      intro hn
      have i := ih (by omega)
      rw [show ((n + 1 : Nat) : Int) = (n : Int) + 1 by omega, wk_s_s (by omega)]
      split
      · next hw =>
        have xb := wk_x_b hJ hT hm.1 (p := n) (by omega) hw
        have q := wk_S1_b (p := n) (s := wk_s a m n) (pc_b xb yb.2.2.2.2.1.1).1 ct.1 yb.2.2.2.2.2.1 (by omega) i.2.1 (by omega)
        unfold wk_S1
        dsimp only
        omega
      · exact i
  intro n n0 n1
  have := key n.toNat (by omega)
  rw [Int.toNat_of_nonneg n0] at this
  exact this
theorem wk_nx_b (hJ : Jv a) (hT : jv_T a) (h0 : a 0 ≤ 399) (hm : 0 ≤ m ∧ m < a 1) {p : Int} (hp : 0 ≤ p ∧ p < a 4) : 0 ≤ wk_nx a m p ∧ wk_nx a m p ≤ 500 := by
  unfold wk_nx
  split
  · next h =>
    have yb := wk_by_b hJ hT h0 hm h.2
    have ct := wk_ct_b hJ h0
    have i := wk_s_b hJ hT h0 hm h.2 p hp.1 (by omega)
    have xb := wk_x_b hJ hT hm.1 hp h.1
    have q := wk_S1_b (p := p) (s := wk_s a m p) (pc_b xb yb.2.2.2.2.1.1).1 ct.1 yb.2.2.2.2.2.1 (by omega) i.2.1 (by omega)
    omega
  · omega
theorem wk_rr_b (hJ : Jv a) (hT : jv_T a) (h0 : a 0 ≤ 399) (hm : 0 ≤ m ∧ m < a 1) {p : Int} (hp : 0 ≤ p ∧ p < a 4) (hw : wk_wv a m p) (hD : wk_D a m) : (0 ≤ wk_x a p - wk_nx a m p * wk_cs a m ∧ wk_x a p - wk_nx a m p * wk_cs a m ≤ 1188000) ∧ (0 ≤ wk_rr a m p ∧ wk_rr a m p ≤ 227999) := by
  have yb := wk_by_b hJ hT h0 hm hD
  have ct := wk_ct_b hJ h0
  have i := wk_s_b hJ hT h0 hm hD p hp.1 (by omega)
  have xb := wk_x_b hJ hT hm.1 hp hw
  have q := wk_S1_b (p := p) (s := wk_s a m p) (pc_b xb yb.2.2.2.2.1.1).1 ct.1 yb.2.2.2.2.2.1 (by omega) i.2.1 (by omega)
  have e : wk_nx a m p = wk_N1 a m p (wk_s a m p) := if_pos ⟨hw, hD⟩
  have n1 : wk_nx a m p ≤ (wk_x a p).tdiv (wk_cs a m) := by
    rw [e]
    refine Int.le_trans q.2.2.2.2.1 ?_
    unfold wk_n0
    split <;> omega
  have n2 := (wk_nx_b hJ hT h0 hm hp).1
  rw [Int.tdiv_eq_ediv_of_nonneg xb.1] at n1
  have m1 := (Int.le_ediv_iff_mul_le (show 0 < wk_cs a m by omega)).mp n1
  have m2 : 0 ≤ wk_nx a m p * wk_cs a m := Int.mul_nonneg n2 (by omega)
  refine ⟨by omega, ?_⟩
  unfold wk_rr
  split <;> omega
theorem wk_r2_b (hJ : Jv a) (hT : jv_T a) (h0 : a 0 ≤ 399) {p : Int} (hp : 0 ≤ p ∧ p < a 4) : 0 ≤ wk_r2 a p ∧ wk_r2 a p ≤ 228000 := by
  have r1 := wk_r1_b hJ hp
  have hP := jP hJ p hp.1 hp.2
  unfold wk_r2 wk_ry
  split
  · next h =>
    have := (wk_rr_b hJ hT h0 (m := a (3652 + 12 * p + 4)) (by omega) hp h.1 h.2).2
    omega
  · exact r1
theorem PE2_no (hm : m < a 1) (h : ¬ wk_D a m) (p c : Int) : PE2 a (m + 1) p c = PE2 a m p c := by
  unfold PE2
  by_cases c1 : c = 7 ∧ p < a 4 ∧ 0 ≤ a (3652 + 12 * p + 4) ∧ a (3652 + 12 * p + 4) < m
  · rw [if_pos c1, if_pos (by omega)]
  · rw [if_neg c1]
    by_cases c2 : c = 7 ∧ p < a 4 ∧ 0 ≤ a (3652 + 12 * p + 4) ∧ a (3652 + 12 * p + 4) < m + 1
    · rw [if_pos c2]
      have e : a (3652 + 12 * p + 4) = m := by omega
      obtain ⟨rfl, c3⟩ := c2
      unfold wk_r2 PE1
      rw [e]
      unfold wk_ry
      rw [if_neg (fun q => h q.2), if_pos ⟨rfl, by omega, by omega, by omega⟩]
    · rw [if_neg c2]
theorem PEw_e (hm : 0 ≤ m ∧ m < a 1) (h : wk_D a m) (p c : Int) : PEw a m (a 4) p c = PE2 a (m + 1) p c := by
  unfold PEw
  by_cases c1 : c = 7 ∧ p < a 4 ∧ wk_wv a m p
  · obtain ⟨rfl, c2, c3⟩ := c1
    rw [if_pos ⟨rfl, c2, c3⟩]
    unfold PE2
    rw [if_pos ⟨rfl, c2, by omega, by omega⟩]
    unfold wk_r2
    rw [c3.1]
    unfold wk_ry
    rw [if_pos ⟨c3, h⟩]
  · rw [if_neg c1]
    unfold PE2
    by_cases c4 : c = 7 ∧ p < a 4 ∧ 0 ≤ a (3652 + 12 * p + 4) ∧ a (3652 + 12 * p + 4) < m
    · rw [if_pos c4, if_pos (by omega)]
    · rw [if_neg c4]
      by_cases c2 : c = 7 ∧ p < a 4 ∧ 0 ≤ a (3652 + 12 * p + 4) ∧ a (3652 + 12 * p + 4) < m + 1
      · rw [if_pos c2]
        have e : a (3652 + 12 * p + 4) = m := by omega
        obtain ⟨rfl, c5, _⟩ := c2
        unfold wk_r2 PE1
        rw [if_pos ⟨rfl, by omega, by omega, by omega⟩, e]
        unfold wk_ry
        rw [if_neg (fun q => c1 ⟨rfl, c5, q.1⟩)]
      · rw [if_neg c2]
theorem MI2_no (h : ¬ wk_D a m) (x c : Int) : MI2 a (m + 1) x c = MI2 a m x c := by
  unfold MI2
  by_cases c1 : (x < m ∧ wk_D a x) ∧ (c = 2 ∨ c = 4 ∨ c = 10)
  · rw [if_pos c1, if_pos (show (x < m + 1 ∧ wk_D a x) ∧ (c = 2 ∨ c = 4 ∨ c = 10) from ⟨⟨by omega, c1.1.2⟩, c1.2⟩)]
  · rw [if_neg c1, if_neg (fun q : (x < m + 1 ∧ wk_D a x) ∧ (c = 2 ∨ c = 4 ∨ c = 10) => c1 ⟨⟨by
      by_cases e : x = m
      · subst e; exact absurd q.1.2 h
      · omega, q.1.2⟩, q.2⟩)]
theorem MIw_e (h : wk_D a m) (x c : Int) : MIw a m (a 4) x c = MI2 a (m + 1) x c := by
  unfold MIw
  by_cases c1 : x = m ∧ (c = 2 ∨ c = 4 ∨ c = 10)
  · obtain ⟨rfl, c2⟩ := c1
    rw [if_pos ⟨rfl, c2⟩]
    unfold MI2
    rw [if_pos (show (x < x + 1 ∧ wk_D a x) ∧ (c = 2 ∨ c = 4 ∨ c = 10) from ⟨⟨by omega, h⟩, c2⟩)]
  · rw [if_neg c1]
    unfold MI2
    by_cases c3 : (x < m ∧ wk_D a x) ∧ (c = 2 ∨ c = 4 ∨ c = 10)
    · rw [if_pos c3, if_pos (show (x < m + 1 ∧ wk_D a x) ∧ (c = 2 ∨ c = 4 ∨ c = 10) from ⟨⟨by omega, c3.1.2⟩, c3.2⟩)]
    · rw [if_neg c3, if_neg (fun q : (x < m + 1 ∧ wk_D a x) ∧ (c = 2 ∨ c = 4 ∨ c = 10) => c3 ⟨⟨by
        by_cases e : x = m
        · exact absurd ⟨e, q.2⟩ c1
        · omega, q.1.2⟩, q.2⟩)]
theorem MIw_0 (hm : m < a 1) (x c : Int) : MI2 a m x c = MIw a m 0 x c := by
  unfold MIw
  by_cases c1 : x = m ∧ (c = 2 ∨ c = 4 ∨ c = 10)
  · obtain ⟨rfl, c2⟩ := c1
    rw [if_pos ⟨rfl, c2⟩, wk_s_0]
    unfold MI2 MI1 MI0
    rw [if_neg (by omega), if_neg (by omega)]
    rcases c2 with rfl | rfl | rfl
    all_goals simp [hm]
  · rw [if_neg c1]
theorem PEw_0 (p c : Int) (hp : 0 ≤ p) : PE2 a m p c = PEw a m 0 p c := by
  unfold PEw
  rw [if_neg (by omega)]
theorem sP_2 {n : Int} : sP a (PE2 a n) := fun p c h1 h2 h3 h4 h7 h8 => by
  unfold PE2
  rw [if_neg (by omega)]
  exact sP_1 p c h1 h2 h3 h4 h7 h8
theorem sP_w {q : Int} : sP a (PEw a m q) := fun p c h1 h2 h3 h4 h7 h8 => by
  unfold PEw
  rw [if_neg (by omega)]
  exact sP_2 p c h1 h2 h3 h4 h7 h8
theorem sM_2 {n : Int} : sM a (MI2 a n) := fun p c h1 h2 h => by
  unfold MI2
  rw [if_neg (by omega)]
  exact sM_1 p c h1 h2 h
theorem sM_w {q : Int} : sM a (MIw a m q) := fun p c h1 h2 h => by
  unfold MIw
  rw [if_neg (by omega)]
  exact sM_2 p c h1 h2 h
/-- HOW, BY, LAST of the MILLS when all have chosen -/
theorem MI2_k {n x c : Int} (hx : x < a 1) (hc : c = 7 ∨ c = 8 ∨ c = 9 ∨ c = 11) : MI2 a n x c = if c = 7 then wk_ls a x else if c = 8 then wk_ht a x else if c = 9 then wk_by a x else wk_tx a x := by
  unfold MI2 MI1
  rw [if_neg (by omega), if_pos ⟨hx, hc⟩]
theorem MIw_k {q x c : Int} (hx : x < a 1) (hc : c = 7 ∨ c = 8 ∨ c = 9 ∨ c = 11) : MIw a m q x c = if c = 7 then wk_ls a x else if c = 8 then wk_ht a x else if c = 9 then wk_by a x else wk_tx a x := by
  unfold MIw
  rw [if_neg (by omega)]
  exact MI2_k hx hc
theorem PE2_7 {p n : Int} (hp : p < a 4) (h : ¬ (0 ≤ a (3652 + 12 * p + 4) ∧ a (3652 + 12 * p + 4) < n)) (hm : 0 ≤ a (3652 + 12 * p + 4) ∧ a (3652 + 12 * p + 4) < a 1) : PE2 a n p 7 = wk_r1 a p := by
  unfold PE2 PE1
  rw [if_neg (fun q => h q.2.2), if_pos ⟨rfl, hp, hm⟩]
end WV
-- method 283: MillTownModel.hoursNow(I)I
theorem c_283_0 : pg_cd 283 0 = (5, 1, 0, 0, 0) := by decide +kernel
theorem c_283_1 : pg_cd 283 1 = (3, 1, 0, 1, 0) := by decide +kernel
theorem c_283_2 : pg_cd 283 2 = (1, 1, 0, 0, 4) := by decide +kernel
theorem c_283_3 : pg_cd 283 3 = (80, 199, 102, 0, 0) := by decide +kernel
theorem c_283_6 : pg_cd 283 6 = (6, 1, 0, 2, 0) := by decide +kernel
theorem c_283_7 : pg_cd 283 7 = (3, 1, 0, 2, 0) := by decide +kernel
theorem c_283_8 : pg_cd 283 8 = (36, 3, 0, 2, 13) := by decide +kernel
theorem c_283_11 : pg_cd 283 11 = (5, 1, 0, 0, 0) := by decide +kernel
theorem c_283_12 : pg_cd 283 12 = (3, 1, 0, 2, 0) := by decide +kernel
theorem c_283_13 : pg_cd 283 13 = (1, 2, 0, 0, 8) := by decide +kernel
theorem c_283_15 : pg_cd 283 15 = (80, 198, 118, 0, 0) := by decide +kernel
theorem c_283_18 : pg_cd 283 18 = (36, 3, 0, 1, 7) := by decide +kernel
theorem c_283_21 : pg_cd 283 21 = (1, 1, 0, 0, 0) := by decide +kernel
theorem c_283_22 : pg_cd 283 22 = (38, 3, 0, 0, 31) := by decide +kernel
theorem c_283_25 : pg_cd 283 25 = (5, 1, 0, 0, 0) := by decide +kernel
theorem c_283_26 : pg_cd 283 26 = (3, 1, 0, 2, 0) := by decide +kernel
theorem c_283_27 : pg_cd 283 27 = (1, 2, 0, 0, 8) := by decide +kernel
theorem c_283_29 : pg_cd 283 29 = (80, 198, 118, 0, 0) := by decide +kernel
theorem c_283_32 : pg_cd 283 32 = (1, 1, 0, 0, 2) := by decide +kernel
theorem c_283_33 : pg_cd 283 33 = (37, 3, 0, 1, 12) := by decide +kernel
theorem c_283_36 : pg_cd 283 36 = (5, 1, 0, 0, 0) := by decide +kernel
theorem c_283_37 : pg_cd 283 37 = (45, 12, 47, 32, 0) := by decide +kernel
theorem c_283_40 : pg_cd 283 40 = (3, 1, 0, 1, 0) := by decide +kernel
theorem c_283_41 : pg_cd 283 41 = (50, 1, 0, 0, 0) := by decide +kernel
theorem c_283_42 : pg_cd 283 42 = (38, 3, 0, 0, 11) := by decide +kernel
theorem c_283_45 : pg_cd 283 45 = (5, 1, 0, 0, 0) := by decide +kernel
theorem c_283_46 : pg_cd 283 46 = (45, 12, 47, 32, 0) := by decide +kernel
theorem c_283_49 : pg_cd 283 49 = (3, 1, 0, 1, 0) := by decide +kernel
theorem c_283_50 : pg_cd 283 50 = (50, 1, 0, 0, 0) := by decide +kernel
theorem c_283_51 : pg_cd 283 51 = (1, 1, 0, 0, 2) := by decide +kernel
theorem c_283_52 : pg_cd 283 52 = (16, 1, 0, 0, 0) := by decide +kernel
theorem c_283_53 : pg_cd 283 53 = (90, 0, 0, 0, 0) := by decide +kernel
theorem mi_283 : pg_mc 283 = 12 ∧ pg_na 283 = 1 ∧ pg_mx 283 = 3 := by decide +kernel
set_option maxRecDepth 20000 in
theorem u_283_0 {d : Nat} {S : zS} {σ τ : zI} {Q : zQ} {x1 : Int} (t : (0 ≤ 3652 + 12 * x1 + 4 ∧ 3652 + 12 * x1 + 4 < 112300) ∧ if (σ 84 (3652 + 12 * x1 + 4)) < 0 then (Q (some (.int (wI 0))) S σ τ) else ((0 ≤ 3300 + 16 * (σ 84 (3652 + 12 * x1 + 4)) + 8 ∧ 3300 + 16 * (σ 84 (3652 + 12 * x1 + 4)) + 8 < 112300) ∧ if (σ 84 (3300 + 16 * (σ 84 (3652 + 12 * x1 + 4)) + 8)) = 0 then (Q (some (.int (wI 0))) S σ τ) else (if (σ 84 (3300 + 16 * (σ 84 (3652 + 12 * x1 + 4)) + 8)) = 2 then ((0 ≤ x1 ∧ x1 < 60) ∧ Q (some (.int (wI (σ 93 x1)))) S σ τ) else ((0 ≤ x1 ∧ x1 < 60) ∧ Q (some (.int (wI (Int.tdiv (σ 93 x1) 2)))) S σ τ)))) : wi (d + 1) 283 0 [.ref 83, .int (wI x1), .retAddr 0] [] S σ τ Q := by
  obtain ⟨p1, t⟩ := t
  refine i5 c_283_0 rfl (i3 c_283_1 rfl (i1 c_283_2 ?_))
  refine i80 (As := [.int (wI x1), .int (wI 4)]) (rest := []) c_283_3 mi_199 rfl rfl (Nat.le_of_ble_eq_true rfl) (Nat.le_of_ble_eq_true rfl) (lo (c := 83) (kd := 112) (n := 0) rfl (by decide)) (q_199 p1 ?_)
  show wi (d + 1) 283 6 [.ref 83, .int (wI x1), .retAddr 0] [.int (wI (σ 84 (3652 + 12 * x1 + 4)))] S σ τ Q
  refine wi_ok (fun K2 => ?_)
  refine i6 (L' := [.ref 83, .int (wI x1), .int (wI (σ 84 (3652 + 12 * x1 + 4)))]) c_283_6 rfl (i3 c_283_7 rfl ?_)
  refine i36 c_283_8 (rge_ K2 rfl) rfl (fun hc => ?_) (fun hc => ?_)
  · have t := iT t hc
    have ha3 : (σ 84 (3652 + 12 * x1 + 4)) < 0 := hc
    refine i1 c_283_21 (i38 c_283_22 rfl ?_)
    exact i90 c_283_53 t
  · have t := iF t hc
    have ha3 : ¬ ((σ 84 (3652 + 12 * x1 + 4)) < 0) := hc
    obtain ⟨p4, t⟩ := t
    refine i5 c_283_11 rfl (i3 c_283_12 rfl (i1 c_283_13 ?_))
    refine i80 (As := [.int (wI (σ 84 (3652 + 12 * x1 + 4))), .int (wI 8)]) (rest := []) c_283_15 mi_198 rfl rfl (Nat.le_of_ble_eq_true rfl) (Nat.le_of_ble_eq_true rfl) (lo (c := 83) (kd := 112) (n := 0) rfl (by decide)) (q_198 p4 ?_)
    show wi (d + 1) 283 18 [.ref 83, .int (wI x1), .int (wI (σ 84 (3652 + 12 * x1 + 4)))] [.int (wI (σ 84 (3300 + 16 * (σ 84 (3652 + 12 * x1 + 4)) + 8)))] S σ τ Q
    refine i36 c_283_18 (rge_ K2 rfl) rfl (fun hc => ?_) (fun hc => ?_)
    · have t := iF t hc
      have ha5 : ¬ ((σ 84 (3300 + 16 * (σ 84 (3652 + 12 * x1 + 4)) + 8)) = 0) := hc
      refine i5 c_283_25 rfl (i3 c_283_26 rfl (i1 c_283_27 ?_))
      refine i80 (As := [.int (wI (σ 84 (3652 + 12 * x1 + 4))), .int (wI 8)]) (rest := []) c_283_29 mi_198 rfl rfl (Nat.le_of_ble_eq_true rfl) (Nat.le_of_ble_eq_true rfl) (lo (c := 83) (kd := 112) (n := 0) rfl (by decide)) (q_198 p4 ?_)
      show wi (d + 1) 283 32 [.ref 83, .int (wI x1), .int (wI (σ 84 (3652 + 12 * x1 + 4)))] [.int (wI (σ 84 (3300 + 16 * (σ 84 (3652 + 12 * x1 + 4)) + 8)))] S σ τ Q
      refine i1 c_283_32 ?_
      refine i37 c_283_33 (rge_ K2 rfl) (by decide) rfl (fun hc => ?_) (fun hc => ?_)
      · have t := iF t hc
        have ha6 : ¬ ((σ 84 (3300 + 16 * (σ 84 (3652 + 12 * x1 + 4)) + 8)) = 2) := hc
        obtain ⟨r7, t⟩ := t
        refine i5 c_283_45 rfl (i45 c_283_46 (lo (c := 83) (kd := 112) (n := 0) rfl (by decide)) (lro (c := 83) (k := 32) (j := 93) (by decide)) (i3 c_283_49 rfl (i50 (v := σ 93 x1) c_283_50 (lo (c := 93) (kd := 0) (n := 60) rfl (by decide)) (by decide) r7 rfl (i1 c_283_51 (i16 c_283_52 (rge_ K2 rfl) (by decide) (by decide) ?_)))))
        exact i90 c_283_53 t
      · have t := iT t (Decidable.not_not.mp hc)
        have ha6 : (σ 84 (3300 + 16 * (σ 84 (3652 + 12 * x1 + 4)) + 8)) = 2 := Decidable.not_not.mp hc
        obtain ⟨r8, t⟩ := t
        refine i5 c_283_36 rfl (i45 c_283_37 (lo (c := 83) (kd := 112) (n := 0) rfl (by decide)) (lro (c := 83) (k := 32) (j := 93) (by decide)) (i3 c_283_40 rfl (i50 (v := σ 93 x1) c_283_41 (lo (c := 93) (kd := 0) (n := 60) rfl (by decide)) (by decide) r8 rfl (i38 c_283_42 rfl ?_))))
        exact i90 c_283_53 t
    · have t := iT t (Decidable.not_not.mp hc)
      have ha5 : (σ 84 (3300 + 16 * (σ 84 (3652 + 12 * x1 + 4)) + 8)) = 0 := Decidable.not_not.mp hc
      refine i1 c_283_21 (i38 c_283_22 rfl ?_)
      exact i90 c_283_53 t
theorem q_283 {d : Nat} {S : zS} {σ τ : zI} {Q : zQ} {p : Int} {a : Int → Int} {a1 : Int → Int} {PE : Int → Int → Int} {MI : Int → Int → Int} {OD : Int → Int → Int} (p0 : σ 84 = As a1 PE MI OD) (p1 : Jv a) (p2 : jv_T a) (p3 : sP a PE) (p4 : (∀ x, 0 ≤ x → x < a 1 → MI x 8 = wk_ht a x)) (p5 : 0 ≤ p ∧ p < a 4) (p6 : (∀ p, 0 ≤ p → p < a 4 → σ 93 p = wk_h a p)) (t : ∀ (v : Int), v = wk_hn a p → 0 ≤ v ∧ v ≤ 80 → Q (some (.int (wI v))) S σ τ) : wc (d + 1) 283 [.ref 83, .int (wI p)] S σ τ Q := by
  have hC := jC p1
  unfold jv_C at hC
  have hP := jP p1 p p5.1 p5.2
  have b := wk_hn_b (Jl_of p1) p2 p
  have hb := wk_h_b (Jl_of p1) p2 p
  refine wc_of mi_283 rfl (u_283_0 ?_)
  have v4 : σ 84 (3652 + 12 * p + 4) = a (3652 + 12 * p + 4) := by rw [p0, As_p (by omega) (by omega)]; exact p3 p 4 (by omega) (by omega) (by omega) (by omega) (by omega) (by omega)
  have e : wk_hn a p = wk_hm a (a (3652 + 12 * p + 4)) p := rfl
  have t := t _ rfl b
  rw [e] at t
  unfold wk_hm at t
  rw [v4, p6 p p5.1 p5.2]
  refine ⟨by omega, ifI (fun e1 => ?_) (fun e1 => ?_)⟩
  · rw [if_pos e1] at t; exact t
  · rw [if_neg e1] at t
    have v8 : σ 84 (3300 + 16 * a (3652 + 12 * p + 4) + 8) = wk_ht a (a (3652 + 12 * p + 4)) := by rw [p0, As_m (by omega) (by omega)]; exact p4 _ (by omega) (by omega)
    rw [v8]
    refine ⟨by omega, ifI (fun e2 => ?_) (fun e2 => ifI (fun e3 => ?_) (fun e3 => ?_))⟩
    · rw [if_pos e2] at t; exact t
    · rw [if_neg e2, if_pos e3] at t; exact ⟨by omega, t⟩
    · rw [if_neg e2, if_neg e3] at t; exact ⟨by omega, t⟩
