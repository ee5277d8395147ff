/-! ===== a WEEK: its numbers (segments printed by wip/whole, contracts own work) ===== -/
/-- a table's place set -/
def t2 (f : Int → Int → Int) (p c v : Int) : Int → Int → Int := fun p' c' => if p' = p ∧ c' = c then v else f p' c'
theorem t2_s (f : Int → Int → Int) (p c v : Int) : t2 f p c v p c = v := if_pos ⟨rfl, rfl⟩
theorem t2_n {f : Int → Int → Int} {p c v p' c' : Int} (h : ¬ (p' = p ∧ c' = c)) : t2 f p c v p' c' = f p' c' := if_neg h
/-- the numbers, with the tables of MILLS, PERSONS, ORDERS put in -/
def As (a : Int → Int) (PE MI OD : Int → Int → Int) : Int → Int := fun k =>
  if 3300 ≤ k ∧ k < 3428 then MI ((k - 3300) / 16) ((k - 3300) % 16)
  else if 3652 ≤ k ∧ k < 4372 then PE ((k - 3652) / 12) ((k - 3652) % 12)
  else if 4372 ≤ k ∧ k < 5012 then OD ((k - 4372) / 8) ((k - 4372) % 8) else a k
section ASM
variable {a a' : Int → Int} {PE MI OD PE' MI' OD' : Int → Int → Int}
theorem As_k {k : Int} (h : k < 3300 ∨ 3428 ≤ k ∧ k < 3652 ∨ 5012 ≤ k) : As a PE MI OD k = a k := by
  unfold As
  rw [if_neg (by omega), if_neg (by omega), if_neg (by omega)]
theorem As_m {m c : Int} (hm : 0 ≤ m ∧ m < 8) (hc : 0 ≤ c ∧ c < 16) : As a PE MI OD (3300 + 16 * m + c) = MI m c := by
  unfold As
  rw [if_pos (by omega), show (3300 + 16 * m + c - 3300) / 16 = m by omega, show (3300 + 16 * m + c - 3300) % 16 = c by omega]
theorem As_p {m c : Int} (hm : 0 ≤ m ∧ m < 60) (hc : 0 ≤ c ∧ c < 12) : As a PE MI OD (3652 + 12 * m + c) = PE m c := by
  unfold As
  rw [if_neg (by omega), if_pos (by omega), show (3652 + 12 * m + c - 3652) / 12 = m by omega, show (3652 + 12 * m + c - 3652) % 12 = c by omega]
theorem As_o {m c : Int} (hm : 0 ≤ m ∧ m < 80) (hc : 0 ≤ c ∧ c < 8) : As a PE MI OD (4372 + 8 * m + c) = OD m c := by
  unfold As
  rw [if_neg (by omega), if_neg (by omega), if_pos (by omega), show (4372 + 8 * m + c - 4372) / 8 = m by omega, show (4372 + 8 * m + c - 4372) % 8 = c by omega]
theorem As_o0 {m : Int} (hm : 0 ≤ m ∧ m < 80) : As a PE MI OD (4372 + 8 * m) = OD m 0 := by
  have := As_o (a := a) (PE := PE) (MI := MI) (OD := OD) hm (c := 0) (by omega)
  rw [Int.add_zero] at this
  exact this
/-- the array that shows the tables is theirs -/
theorem As_e {b : Int → Int} (h0 : ∀ k, k < 3300 ∨ 3428 ≤ k ∧ k < 3652 ∨ 5012 ≤ k → b k = a k) (h1 : ∀ p c, 0 ≤ p → p < 60 → 0 ≤ c → c < 12 → b (3652 + 12 * p + c) = PE p c) (h2 : ∀ m c, 0 ≤ m → m < 8 → 0 ≤ c → c < 16 → b (3300 + 16 * m + c) = MI m c) (h3 : ∀ o c, 0 ≤ o → o < 80 → 0 ≤ c → c < 8 → b (4372 + 8 * o + c) = OD o c) : b = As a PE MI OD := by
  funext k
  unfold As
  by_cases c1 : 3300 ≤ k ∧ k < 3428
  · rw [if_pos c1]
    have := h2 ((k - 3300) / 16) ((k - 3300) % 16) (by omega) (by omega) (by omega) (by omega)
    rw [← this]
    congr 1
    omega
  · rw [if_neg c1]
    by_cases c2 : 3652 ≤ k ∧ k < 4372
    · rw [if_pos c2]
      have := h1 ((k - 3652) / 12) ((k - 3652) % 12) (by omega) (by omega) (by omega) (by omega)
      rw [← this]
      congr 1
      omega
    · rw [if_neg c2]
      by_cases c3 : 4372 ≤ k ∧ k < 5012
      · rw [if_pos c3]
        have := h3 ((k - 4372) / 8) ((k - 4372) % 8) (by omega) (by omega) (by omega) (by omega)
        rw [← this]
        congr 1
        omega
      · rw [if_neg c3]
        exact h0 k (by omega)
theorem As_c (h0 : ∀ k, k < 3300 ∨ 3428 ≤ k ∧ k < 3652 ∨ 5012 ≤ k → a k = a' k) (h1 : ∀ p c, 0 ≤ p → p < 60 → 0 ≤ c → c < 12 → PE p c = PE' p c) (h2 : ∀ m c, 0 ≤ m → m < 8 → 0 ≤ c → c < 16 → MI m c = MI' m c) (h3 : ∀ o c, 0 ≤ o → o < 80 → 0 ≤ c → c < 8 → OD o c = OD' o c) : As a PE MI OD = As a' PE' MI' OD' :=
  As_e (fun k hk => by rw [As_k hk]; exact h0 k hk) (fun p c p0 p1 c0 c1 => by rw [As_p ⟨p0, p1⟩ ⟨c0, c1⟩]; exact h1 p c p0 p1 c0 c1) (fun p c p0 p1 c0 c1 => by rw [As_m ⟨p0, p1⟩ ⟨c0, c1⟩]; exact h2 p c p0 p1 c0 c1) (fun p c p0 p1 c0 c1 => by rw [As_o ⟨p0, p1⟩ ⟨c0, c1⟩]; exact h3 p c p0 p1 c0 c1)
theorem As_id : As a (fun p c => a (3652 + 12 * p + c)) (fun m c => a (3300 + 16 * m + c)) (fun o c => a (4372 + 8 * o + c)) = a :=
  (As_e (fun _ _ => rfl) (fun _ _ _ _ _ _ => rfl) (fun _ _ _ _ _ _ => rfl) (fun _ _ _ _ _ _ => rfl)).symm
theorem As_uk {k v : Int} (h : k < 3300 ∨ 3428 ≤ k ∧ k < 3652 ∨ 5012 ≤ k) : u1 (As a PE MI OD) k v = As (u1 a k v) PE MI OD := by
  refine As_e (fun j hj => ?_) (fun p c p0 p1 c0 c1 => ?_) (fun p c p0 p1 c0 c1 => ?_) (fun p c p0 p1 c0 c1 => ?_)
  · unfold u1; split
    · rfl
    · exact As_k hj
  · rw [u1_n (by omega)]; exact As_p ⟨p0, p1⟩ ⟨c0, c1⟩
  · rw [u1_n (by omega)]; exact As_m ⟨p0, p1⟩ ⟨c0, c1⟩
  · rw [u1_n (by omega)]; exact As_o ⟨p0, p1⟩ ⟨c0, c1⟩
theorem As_up {m c v : Int} (hm : 0 ≤ m ∧ m < 60) (hc : 0 ≤ c ∧ c < 12) : u1 (As a PE MI OD) (3652 + 12 * m + c) v = As a (t2 PE m c v) MI OD := by
  refine As_e (fun j hj => ?_) (fun p c' p0 p1 c0 c1 => ?_) (fun p c' p0 p1 c0 c1 => ?_) (fun p c' p0 p1 c0 c1 => ?_)
  · rw [u1_n (by omega)]; exact As_k hj
  · by_cases e : p = m ∧ c' = c
    · obtain ⟨rfl, rfl⟩ := e
      rw [u1_s, t2_s]
    · rw [u1_n (by omega), t2_n e]; exact As_p ⟨p0, p1⟩ ⟨c0, c1⟩
  · rw [u1_n (by omega)]; exact As_m ⟨p0, p1⟩ ⟨c0, c1⟩
  · rw [u1_n (by omega)]; exact As_o ⟨p0, p1⟩ ⟨c0, c1⟩
theorem As_um {m c v : Int} (hm : 0 ≤ m ∧ m < 8) (hc : 0 ≤ c ∧ c < 16) : u1 (As a PE MI OD) (3300 + 16 * m + c) v = As a PE (t2 MI m c v) OD := by
  refine As_e (fun j hj => ?_) (fun p c' p0 p1 c0 c1 => ?_) (fun p c' p0 p1 c0 c1 => ?_) (fun p c' p0 p1 c0 c1 => ?_)
  · rw [u1_n (by omega)]; exact As_k hj
  · rw [u1_n (by omega)]; exact As_p ⟨p0, p1⟩ ⟨c0, c1⟩
  · by_cases e : p = m ∧ c' = c
    · obtain ⟨rfl, rfl⟩ := e
      rw [u1_s, t2_s]
    · rw [u1_n (by omega), t2_n e]; exact As_m ⟨p0, p1⟩ ⟨c0, c1⟩
  · rw [u1_n (by omega)]; exact As_o ⟨p0, p1⟩ ⟨c0, c1⟩
theorem As_uo {m c v : Int} (hm : 0 ≤ m ∧ m < 80) (hc : 0 ≤ c ∧ c < 8) : u1 (As a PE MI OD) (4372 + 8 * m + c) v = As a PE MI (t2 OD m c v) := by
  refine As_e (fun j hj => ?_) (fun p c' p0 p1 c0 c1 => ?_) (fun p c' p0 p1 c0 c1 => ?_) (fun p c' p0 p1 c0 c1 => ?_)
  · rw [u1_n (by omega)]; exact As_k hj
  · rw [u1_n (by omega)]; exact As_p ⟨p0, p1⟩ ⟨c0, c1⟩
  · rw [u1_n (by omega)]; exact As_m ⟨p0, p1⟩ ⟨c0, c1⟩
  · by_cases e : p = m ∧ c' = c
    · obtain ⟨rfl, rfl⟩ := e
      rw [u1_s, t2_s]
    · rw [u1_n (by omega), t2_n e]; exact As_o ⟨p0, p1⟩ ⟨c0, c1⟩
/-- what HOURS and PAY look at stands outside the tables -/
theorem As_eL (h : eL a a') : eL a (As a' PE MI OD) := fun k hk => by rw [As_k (by omega)]; exact h k hk
theorem As_cost {k : Int} (hk : 0 ≤ k ∧ k ≤ 5) : r_cost (As a PE MI OD) k = r_cost a k := by
  unfold r_cost
  rw [As_k (by omega), As_k (by omega), As_k (by omega)]
theorem r_cost_c {k : Int} (h : eL a a') (hk : 0 ≤ k ∧ k ≤ 5) : r_cost a' k = r_cost a k := by
  unfold r_cost
  rw [h (20 + 8 * k + 1) (by omega), h (20 + 8 * k + 2) (by omega), h (20 + 8 * k + 4) (by omega)]
end ASM
/-- sums that differ at one place -/
theorem sI_1 {f g : Int → Int} {n c d : Int} (h0 : 0 ≤ c ∧ c < n) (h : ∀ p, 0 ≤ p → p < n → p ≠ c → g p = f p) (e : g c = f c + d) : sI g n = sI f n + d := by
  have key : ∀ m : Nat, (m : Int) ≤ n → sI g m = sI f m + (if c < m then d else 0) := by
    intro m
    induction m with
    | zero => intro _; rw [if_neg (by omega)]; rfl
    | succ m ih =>
      intro hm
      have i := ih (by omega)
      rw [show ((m + 1 : Nat) : Int) = (m : Int) + 1 by omega, sI_s (by omega), sI_s (by omega), i]
      by_cases q : (m : Int) = c
      · rw [q, e, if_neg (by omega), if_pos (by omega)]; omega
      · rw [h m (by omega) (by omega) q]
        by_cases q2 : c < (m : Int)
        · rw [if_pos q2, if_pos (by omega)]; omega
        · rw [if_neg q2, if_neg (by omega)]; omega
  have := key n.toNat (by omega)
  rw [Int.toNat_of_nonneg (by omega), if_pos h0.2] at this
  exact this
theorem sI_z (n : Int) : sI (fun _ => 0) n = 0 := by
  have key : ∀ m : Nat, sN (fun _ => 0) m = 0 := by
    intro m
    induction m with
    | zero => rfl
    | succ m ih => show sN (fun _ => 0) m + 0 = 0; rw [ih]; rfl
  exact key _
theorem sI_add (f g : Int → Int) (n : Int) : sI (fun p => f p + g p) n = sI f n + sI g n := by
  have key : ∀ m : Nat, sN (fun p => f p + g p) m = sN f m + sN g m := by
    intro m
    induction m with
    | zero => rfl
    | succ m ih => show sN (fun p => f p + g p) m + (f m + g m) = (sN f m + f m) + (sN g m + g m); rw [ih]; omega
  exact key _
theorem sI_one {n c v : Int} (h : 0 ≤ c ∧ c < n) : sI (fun p => if p = c then v else 0) n = v := by
  have := sI_1 (f := fun _ => 0) (g := fun p => if p = c then v else 0) (n := n) (c := c) (d := v) h (fun p _ _ q => if_neg q) (by show (if c = c then v else 0) = 0 + v; rw [if_pos rfl]; omega)
  rw [sI_z] at this
  omega
/-- the order of two sums -/
theorem sI_sw (f : Int → Int → Int) (n m : Int) : sI (fun p => sI (fun q => f p q) n) m = sI (fun q => sI (fun p => f p q) m) n := by
  have key : ∀ k : Nat, sN (fun p => sI (fun q => f p q) n) k = sI (fun q => sI (fun p => f p q) (k : Int)) n := by
    intro k
    induction k with
    | zero =>
      show 0 = sI (fun q => sI (fun p => f p q) 0) n
      exact (sI_z n).symm
    | succ k ih =>
      show sN (fun p => sI (fun q => f p q) n) k + sI (fun q => f k q) n = _
      rw [ih, ← sI_add]
      refine sI_c (fun q _ _ => ?_)
      show _ = sI (fun p => f p q) ((k + 1 : Nat) : Int)
      rw [show ((k + 1 : Nat) : Int) = (k : Int) + 1 by omega, sI_s (by omega)]
  have := key m.toNat
  by_cases hm : 0 ≤ m
  · rw [Int.toNat_of_nonneg hm] at this
    exact this
  · have e1 : sI (fun p => sI (fun q => f p q) n) m = 0 := by
      unfold sI; rw [show m.toNat = 0 by omega]; rfl
    have e2 : ∀ q, sI (fun p => f p q) m = 0 := fun q => by unfold sI; rw [show m.toNat = 0 by omega]; rfl
    rw [e1]
    simp only [e2]
    exact (sI_z n).symm
theorem sI_if {f : Int → Int} {c : Prop} [Decidable c] {n : Int} : sI (fun p => if c then f p else 0) n = if c then sI f n else 0 := by
  by_cases h : c
  · simp only [if_pos h]
  · simp only [if_neg h]; exact sI_z n
/-! (1) which ORDER a MILL takes, as ORDERS are taken so far -/
def wk_h (a : Int → Int) (p : Int) : Int := if a (3652 + 12 * p + 4) < 0 then 0 else r_hours a (a (3652 + 12 * p + 1)) (a (3652 + 12 * p + 4)) (a 0) (a 0)
def wk_ct (a : Int → Int) : Int := r_pr a 0 (a 0)
def wk_lf (a : Int → Int) : Int := r_pr a 1 (a 0)
abbrev wk_wv (a : Int → Int) (m p : Int) : Prop := a (3652 + 12 * p + 4) = m ∧ (1 ≤ a (3652 + 12 * p + 3) ∧ a (3652 + 12 * p + 3) ≤ 2)
abbrev wk_op (a tk : Int → Int) (o : Int) : Prop := (a (4372 + 8 * o + 3) ≤ a 0 ∧ a 0 ≤ a (4372 + 8 * o + 4)) ∧ 0 < a (4372 + 8 * o + 1) - tk o
def wk_py (a : Int → Int) (m o : Int) : Int := r_pay a (a (4372 + 8 * o)) m (a 0) (a 0)
def wk_gn (a : Int → Int) (m o : Int) : Int := a (4372 + 8 * o + 2) - a 11 - wk_py a m o - (a (20 + 8 * a (4372 + 8 * o) + 3) * wk_ct a).tdiv 400
def wk_bN (a : Int → Int) (tk : Int → Int) (m : Int) : Nat → Int × Int
  | 0 => (-1, 0)
  | n + 1 => if wk_op a tk (n : Int) then (if 0 ≤ (wk_bN a tk m n).1 ∧ (wk_gn a m (n : Int) < (wk_bN a tk m n).2 ∨ wk_gn a m (n : Int) = (wk_bN a tk m n).2 ∧ a (4372 + 8 * (wk_bN a tk m n).1 + 4) ≤ a (4372 + 8 * (n : Int) + 4)) then (wk_bN a tk m n) else ((n : Int), wk_gn a m (n : Int))) else (wk_bN a tk m n)
def wk_b (a : Int → Int) (tk : Int → Int) (m : Int) (n : Int) : Int × Int := wk_bN a tk m n.toNat
theorem wk_b_0 {a : Int → Int} {tk : Int → Int} {m : Int} : wk_b a tk m 0 = (-1, 0) := rfl
theorem wk_b_s {a : Int → Int} {tk : Int → Int} {m : Int} {n : Int} (h : 0 ≤ n) : wk_b a tk m (n + 1) = if wk_op a tk n then (if 0 ≤ (wk_b a tk m n).1 ∧ (wk_gn a m n < (wk_b a tk m n).2 ∨ wk_gn a m n = (wk_b a tk m n).2 ∧ a (4372 + 8 * (wk_b a tk m n).1 + 4) ≤ a (4372 + 8 * n + 4)) then (wk_b a tk m n) else (n, wk_gn a m n)) else (wk_b a tk m n) := by
  unfold wk_b
  have e : (n + 1).toNat = n.toNat + 1 := by omega
  rw [e]
  show (if wk_op a tk (n.toNat : Int) then (if 0 ≤ (wk_bN a tk m n.toNat).1 ∧ (wk_gn a m (n.toNat : Int) < (wk_bN a tk m n.toNat).2 ∨ wk_gn a m (n.toNat : Int) = (wk_bN a tk m n.toNat).2 ∧ a (4372 + 8 * (wk_bN a tk m n.toNat).1 + 4) ≤ a (4372 + 8 * (n.toNat : Int) + 4)) then (wk_bN a tk m n.toNat) else ((n.toNat : Int), wk_gn a m (n.toNat : Int))) else (wk_bN a tk m n.toNat)) = _
  rw [Int.toNat_of_nonneg h]
def wk_bo (a tk : Int → Int) (m : Int) : Int := (wk_b a tk m (a 7)).1
def wk_bg (a tk : Int → Int) (m : Int) : Int := (wk_b a tk m (a 7)).2
abbrev wk_cr (a : Int → Int) (m : Int) : Prop := a (3300 + 16 * m + 5) = 0 ∧ a (3300 + 16 * m + 6) = 0
abbrev wk_ok (a tk : Int → Int) (m : Int) : Prop := wk_cr a m ∧ 0 ≤ wk_bo a tk m ∧ a (3300 + 16 * m + 3) ≤ wk_bg a tk m
def wk_kd (a tk : Int → Int) (m : Int) : Int := a (4372 + 8 * wk_bo a tk m)
def wk_r0 (a tk : Int → Int) (m p : Int) : Int := if wk_kd a tk m = a (3300 + 16 * m + 7) then a (3652 + 12 * p + 7) else 0
def wk_c1 (a tk : Int → Int) (m p : Int) : Int := if wk_wv a m p then (wk_r0 a tk m p + r_pts a p (wk_h a p)).tdiv (r_cost a (wk_kd a tk m)) else 0
def wk_can (a tk : Int → Int) (m : Int) : Int := sI (wk_c1 a tk m) (a 4)
def wk_lt (a tk : Int → Int) (m : Int) : Int := a (4372 + 8 * wk_bo a tk m + 1) - tk (wk_bo a tk m)
def wk_tk (a tk : Int → Int) (m : Int) : Int := if wk_can a tk m < wk_lt a tk m then wk_can a tk m else wk_lt a tk m
abbrev wk_do (a tk : Int → Int) (m : Int) : Prop := wk_ok a tk m ∧ wk_can a tk m ≠ 0
def wk_TN (a : Int → Int) : Nat → Int → Int
  | 0 => fun _ => 0
  | n + 1 => if wk_do a (wk_TN a n) (n : Int) then u1 (wk_TN a n) (wk_bo a (wk_TN a n) (n : Int)) ((wk_TN a n) (wk_bo a (wk_TN a n) (n : Int)) + wk_tk a (wk_TN a n) (n : Int)) else (wk_TN a n)
def wk_T (a : Int → Int) (n : Int) : Int → Int := wk_TN a n.toNat
theorem wk_T_0 {a : Int → Int} : wk_T a 0 = fun _ => 0 := rfl
theorem wk_T_s {a : Int → Int} {n : Int} (h : 0 ≤ n) : wk_T a (n + 1) = if wk_do a (wk_T a n) n then u1 (wk_T a n) (wk_bo a (wk_T a n) n) ((wk_T a n) (wk_bo a (wk_T a n) n) + wk_tk a (wk_T a n) n) else (wk_T a n) := by
  unfold wk_T
  have e : (n + 1).toNat = n.toNat + 1 := by omega
  rw [e]
  show (if wk_do a (wk_TN a n.toNat) (n.toNat : Int) then u1 (wk_TN a n.toNat) (wk_bo a (wk_TN a n.toNat) (n.toNat : Int)) ((wk_TN a n.toNat) (wk_bo a (wk_TN a n.toNat) (n.toNat : Int)) + wk_tk a (wk_TN a n.toNat) (n.toNat : Int)) else (wk_TN a n.toNat)) = _
  rw [Int.toNat_of_nonneg h]
abbrev wk_O (a : Int → Int) (m : Int) : Prop := wk_ok a (wk_T a m) m
abbrev wk_D (a : Int → Int) (m : Int) : Prop := wk_do a (wk_T a m) m
def wk_by (a : Int → Int) (m : Int) : Int := if wk_D a m then wk_bo a (wk_T a m) m else -1
def wk_ht (a : Int → Int) (m : Int) : Int := if wk_D a m then (if wk_can a (wk_T a m) m ≤ 2 * wk_tk a (wk_T a m) m ∧ wk_ct a ≤ a 12 then 2 else 1) else 0
def wk_ls (a : Int → Int) (m : Int) : Int := if wk_O a m then wk_kd a (wk_T a m) m else a (3300 + 16 * m + 7)
def wk_tx (a : Int → Int) (m : Int) : Int := if wk_D a m then wk_tk a (wk_T a m) m else a (3300 + 16 * m + 11)
def wk_rx (a : Int → Int) (m p : Int) : Int := if wk_wv a m p ∧ wk_O a m ∧ wk_kd a (wk_T a m) m ≠ a (3300 + 16 * m + 7) then 0 else a (3652 + 12 * p + 7)
def wk_r1 (a : Int → Int) (p : Int) : Int := wk_rx a (a (3652 + 12 * p + 4)) p
/-- the tables as they are when a WEEK begins, and when the MILLS below n have chosen -/
def PE0 (a : Int → Int) (p c : Int) : Int := if c = 8 ∧ p < a 4 then 0 else a (3652 + 12 * p + c)
def MI0 (a : Int → Int) (m c : Int) : Int := if m < a 1 ∧ (c = 8 ∨ c = 9 ∨ c = 10) then (if c = 9 then -1 else 0) else a (3300 + 16 * m + c)
def PE1 (a : Int → Int) (n p c : Int) : Int := if c = 7 ∧ p < a 4 ∧ 0 ≤ a (3652 + 12 * p + 4) ∧ a (3652 + 12 * p + 4) < n then wk_r1 a p else PE0 a p c
def MI1 (a : Int → Int) (n m c : Int) : Int := if m < n ∧ (c = 7 ∨ c = 8 ∨ c = 9 ∨ c = 11) then (if c = 7 then wk_ls a m else if c = 8 then wk_ht a m else if c = 9 then wk_by a m else wk_tx a m) else MI0 a m c
def OD1 (a : Int → Int) (n o c : Int) : Int := if c = 5 ∧ o < a 7 then wk_T a n o else a (4372 + 8 * o + c)
section WB
variable {a tk : Int → Int}
theorem wk_h_b (hJ : Jl a) (hT : jv_T a) (p : Int) : 0 ≤ wk_h a p ∧ wk_h a p ≤ 80 := by
  unfold wk_h
  split
  · omega
  · exact r_hours_b hJ hT
theorem wk_ct_b (hJ : Jv a) (h0 : a 0 ≤ 399) : 1 ≤ wk_ct a ∧ wk_ct a ≤ 100000 := by
  have hC := jC hJ
  unfold jv_C at hC
  exact r_pr_b (jW hJ) (by omega) (by omega)
theorem wk_lf_b (hJ : Jv a) (h0 : a 0 ≤ 399) : 1 ≤ wk_lf a ∧ wk_lf a ≤ 100000 := by
  have hC := jC hJ
  unfold jv_C at hC
  exact r_pr_b (jW hJ) (by omega) (by omega)
theorem wk_gn_b (hJ : Jv a) (hT : jv_T a) (h0 : a 0 ≤ 399) {m o : Int} (ho : 0 ≤ o ∧ o < a 7) : (0 ≤ wk_py a m o ∧ wk_py a m o ≤ 100000) ∧ (0 ≤ (a (20 + 8 * a (4372 + 8 * o) + 3) * wk_ct a).tdiv 400 ∧ (a (20 + 8 * a (4372 + 8 * o) + 3) * wk_ct a).tdiv 400 ≤ 12500) ∧ (-120000 ≤ wk_gn a m o ∧ wk_gn a m o ≤ 10000) ∧ (0 ≤ a (20 + 8 * a (4372 + 8 * o) + 3) * wk_ct a ∧ a (20 + 8 * a (4372 + 8 * o) + 3) * wk_ct a ≤ 5000000) := by
  have hO := (jO hJ).1 o ho.1 ho.2
  have hS := jS hJ
  unfold jv_S at hS
  have hK := jK hJ (a (4372 + 8 * o)) hO.1.1 hO.1.2
  have hc := wk_ct_b hJ h0
  have hp : 0 ≤ wk_py a m o ∧ wk_py a m o ≤ 100000 := r_pay_b (Jl_of hJ) hT
  have m1 : 0 ≤ a (20 + 8 * a (4372 + 8 * o) + 3) * wk_ct a := Int.mul_nonneg (by omega) (by omega)
  have m2 : a (20 + 8 * a (4372 + 8 * o) + 3) * wk_ct a ≤ 50 * 100000 := Int.mul_le_mul hK.2.2.1.2 hc.2 (by omega) (by omega)
  have e := Int.tdiv_eq_ediv_of_nonneg m1 (b := 400)
  have hg : wk_gn a m o = a (4372 + 8 * o + 2) - a 11 - wk_py a m o - (a (20 + 8 * a (4372 + 8 * o) + 3) * wk_ct a).tdiv 400 := rfl
  refine ⟨hp, ?_, ?_, by omega⟩
  · rw [e]; omega
  · rw [hg, e]; omega
/-- the best ORDER so far is one of those that are open -/
theorem wk_b_b {m : Int} : ∀ n, 0 ≤ n → n ≤ a 7 → -1 ≤ (wk_b a tk m n).1 ∧ (wk_b a tk m n).1 < n ∧ (0 ≤ (wk_b a tk m n).1 → wk_op a tk (wk_b a tk m n).1 ∧ (wk_b a tk m n).2 = wk_gn a m (wk_b a tk m n).1) := by
  have key : ∀ n : Nat, -1 ≤ (wk_b a tk m n).1 ∧ (wk_b a tk m n).1 < (if n = 0 then 0 else (n : Int)) ∧ (0 ≤ (wk_b a tk m n).1 → wk_op a tk (wk_b a tk m n).1 ∧ (wk_b a tk m n).2 = wk_gn a m (wk_b a tk m n).1) := by
    intro n
    induction n with
    | zero => exact ⟨by rw [show ((0 : Nat) : Int) = 0 from rfl, wk_b_0]; omega, by rw [show ((0 : Nat) : Int) = 0 from rfl, wk_b_0]; decide, fun h => by rw [show ((0 : Nat) : Int) = 0 from rfl, wk_b_0] at h; exact absurd h (by decide)⟩
    | succ n ih =>
      rw [show ((n + 1 : Nat) : Int) = (n : Int) + 1 by omega, wk_b_s (by omega)]
      have i2 : (wk_b a tk m n).1 < n ∨ (wk_b a tk m n).1 < 0 := by
        have := ih.2.1
        split at this
        · exact Or.inr this
        · exact Or.inl this
      rw [if_neg (show ¬ n + 1 = 0 by omega)]
      split
      · next h1 =>
        split
        · exact ⟨ih.1, by omega, ih.2.2⟩
        · exact ⟨by dsimp only; omega, by dsimp only; omega, fun _ => ⟨h1, rfl⟩⟩
      · exact ⟨ih.1, by omega, ih.2.2⟩
  intro n n0 n1
  have k := key n.toNat
  rw [Int.toNat_of_nonneg n0] at k
  refine ⟨k.1, ?_, k.2.2⟩
  have := k.2.1
  split at this
  · have : n = 0 := by omega
    subst this
    exact k.2.1
  · omega
theorem wk_ok_b (hJ : Jv a) (hT : jv_T a) (h0 : a 0 ≤ 399) {m : Int} (hm : 0 ≤ m ∧ m < a 1) (h : wk_ok a tk m) : (0 ≤ wk_bo a tk m ∧ wk_bo a tk m < a 7) ∧ (0 ≤ wk_kd a tk m ∧ wk_kd a tk m ≤ 5) ∧ wk_op a tk (wk_bo a tk m) ∧ wk_py a m (wk_bo a tk m) ≤ 11000 := by
  have hC := jC hJ
  unfold jv_C at hC
  have hS := jS hJ
  unfold jv_S at hS
  have b := wk_b_b (tk := tk) (m := m) (a 7) (by omega) (Int.le_refl _)
  have b1 : 0 ≤ wk_bo a tk m ∧ wk_bo a tk m < a 7 := ⟨h.2.1, b.2.1⟩
  have b2 := b.2.2 h.2.1
  have hO := (jO hJ).1 _ b1.1 b1.2
  have g := wk_gn_b hJ hT h0 (m := m) b1
  have hM := jM hJ m hm.1 hm.2
  have e : wk_bg a tk m = wk_gn a m (wk_bo a tk m) := b2.2
  have l := h.2.2
  rw [e] at l
  have hg : wk_gn a m (wk_bo a tk m) = a (4372 + 8 * wk_bo a tk m + 2) - a 11 - wk_py a m (wk_bo a tk m) - (a (20 + 8 * a (4372 + 8 * wk_bo a tk m) + 3) * wk_ct a).tdiv 400 := rfl
  exact ⟨b1, hO.1, b2.1, by omega⟩
theorem wk_r0_b (hJ : Jv a) {m p : Int} (hp : 0 ≤ p ∧ p < a 4) : 0 ≤ wk_r0 a tk m p ∧ wk_r0 a tk m p ≤ 228000 := by
  have hP := jP hJ p hp.1 hp.2
  unfold wk_r0
  split <;> omega
/-- PIECES by so many points -/
theorem pc_b {x c : Int} (hx : 0 ≤ x ∧ x ≤ 1188000) (hc : 2000 ≤ c) : 0 ≤ x.tdiv c ∧ x.tdiv c ≤ 594 := by
  rw [Int.tdiv_eq_ediv_of_nonneg hx.1]
  refine ⟨Int.ediv_nonneg hx.1 (by omega), ?_⟩
  have : x / c < 595 := Int.ediv_lt_of_lt_mul (by omega) (by
    have := Int.mul_le_mul_of_nonneg_left hc (show (0 : Int) ≤ 595 by omega)
    omega)
  omega
theorem wk_pt_b (hJ : Jv a) {m p h : Int} (hp : 0 ≤ p ∧ p < a 4) (hm : 0 ≤ m) (hw : wk_wv a m p) (hh : 0 ≤ h ∧ h ≤ 80) : 0 ≤ r_pts a p h ∧ r_pts a p h ≤ 960000 := by
  have hP := jP hJ p hp.1 hp.2
  have := r_pts_b hJ hp (by omega) hh (M := 6) (by omega)
  omega
theorem wk_c1_b (hJ : Jv a) (hT : jv_T a) {m p : Int} (hm : 0 ≤ m) (hp : 0 ≤ p ∧ p < a 4) (hk : 0 ≤ wk_kd a tk m ∧ wk_kd a tk m ≤ 5) : 0 ≤ wk_c1 a tk m p ∧ wk_c1 a tk m p ≤ 594 := by
  unfold wk_c1
  split
  · next h =>
    have r := wk_r0_b (tk := tk) (m := m) hJ hp
    have q := wk_pt_b hJ hp hm h (wk_h_b (Jl_of hJ) hT p)
    exact pc_b (by omega) (r_cost_b (jK hJ) hk).1
  · omega
theorem wk_can_b (hJ : Jv a) (hT : jv_T a) {m n : Int} (hm : 0 ≤ m) (hn : 0 ≤ n ∧ n ≤ a 4) (hk : 0 ≤ wk_kd a tk m ∧ wk_kd a tk m ≤ 5) : 0 ≤ sI (wk_c1 a tk m) n ∧ sI (wk_c1 a tk m) n ≤ 35640 := by
  have hC := jC hJ
  unfold jv_C at hC
  have := sI_b (f := wk_c1 a tk m) (n := n) (lo := 0) (hi := 594) hn.1 (fun p p0 p1 => wk_c1_b hJ hT hm ⟨p0, by omega⟩ hk)
  omega
/-- TAKEN of an ORDER stays within its PIECES -/
theorem wk_T_b (hJ : Jv a) (hT : jv_T a) (h0 : a 0 ≤ 399) : ∀ n, 0 ≤ n → n ≤ a 1 → ∀ o, 0 ≤ o → o < a 7 → 0 ≤ wk_T a n o ∧ wk_T a n o ≤ a (4372 + 8 * o + 1) := by
  have key : ∀ n : Nat, (n : Int) ≤ a 1 → ∀ o, 0 ≤ o → o < a 7 → 0 ≤ wk_T a n o ∧ wk_T a n o ≤ a (4372 + 8 * o + 1) := by
    intro n
    induction n with
    | zero =>
      intro _ o o0 o1
      have hO := (jO hJ).1 o o0 o1
      rw [show ((0 : Nat) : Int) = 0 from rfl, wk_T_0]
      dsimp only
      omega
    | succ n ih =>
      intro hn o o0 o1
      have i := ih (by omega) o o0 o1
      rw [show ((n + 1 : Nat) : Int) = (n : Int) + 1 by omega, wk_T_s (by omega)]
      split
      · next h =>
        have b := wk_ok_b hJ hT h0 (m := n) (by omega) h.1
        have c := wk_can_b (tk := wk_T a n) hJ hT (m := n) (n := a 4) (by omega) (by have := (jC hJ).2.2.2.2.1; omega) b.2.1
        have c2 : 0 ≤ wk_can a (wk_T a n) n := c.1
        have op := b.2.2.1.2
        by_cases e : o = wk_bo a (wk_T a n) n
        · subst e
          rw [u1_s]
          unfold wk_tk wk_lt
          split <;> omega
        · rw [u1_n e]; exact i
      · exact i
  intro n n0 n1
  have := key n.toNat (by omega)
  rw [Int.toNat_of_nonneg n0] at this
  exact this
theorem wk_D_b (hJ : Jv a) (hT : jv_T a) (h0 : a 0 ≤ 399) {m : Int} (hm : 0 ≤ m ∧ m < a 1) (h : wk_D a m) : (1 ≤ wk_can a (wk_T a m) m ∧ wk_can a (wk_T a m) m ≤ 35640) ∧ (1 ≤ wk_lt a (wk_T a m) m ∧ wk_lt a (wk_T a m) m ≤ 500) ∧ (1 ≤ wk_tk a (wk_T a m) m ∧ wk_tk a (wk_T a m) m ≤ 500) ∧ wk_tk a (wk_T a m) m ≤ wk_lt a (wk_T a m) m := by
  have b := wk_ok_b hJ hT h0 hm h.1
  have c := wk_can_b (tk := wk_T a m) hJ hT (n := a 4) hm.1 (by have := (jC hJ).2.2.2.2.1; omega) b.2.1
  have c2 : 0 ≤ wk_can a (wk_T a m) m ∧ wk_can a (wk_T a m) m ≤ 35640 := c
  have op := b.2.2.1.2
  have t := wk_T_b hJ hT h0 m hm.1 (by omega) _ b.1.1 b.1.2
  have hO := (jO hJ).1 _ b.1.1 b.1.2
  have n := h.2
  unfold wk_tk wk_lt
  refine ⟨by omega, by omega, ?_, ?_⟩ <;> split <;> omega
theorem wk_r1_b (hJ : Jv a) {p : Int} (hp : 0 ≤ p ∧ p < a 4) : 0 ≤ wk_r1 a p ∧ wk_r1 a p ≤ 228000 := by
  have hP := jP hJ p hp.1 hp.2
  unfold wk_r1 wk_rx
  split <;> omega
end WB
