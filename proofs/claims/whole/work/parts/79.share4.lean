/-! ===== half time shared: the class searches (segments printed by wip/whole, contracts own work) ===== -/
/-- what the class holds: nothing of a CLOSED MILL -/
def c_e (a : Int → Int) (m run h : Int) : Int := if a (3300 + 16 * m + 5) = 0 then s_e a m run h else 0
def c_pc (a : Int → Int) (m run : Int) : Int := if a (3300 + 16 * m + 5) = 0 then s_pc a m run else 0
def c_nd (a : Int → Int) (h : Int) : Int := if h < a 3 ∧ a (3460 + 8 * h + 3) = 0 then r_need a h * r_pr a 1 (a 0) else 0
def r_eF (a : Int → Int) (m h : Int) : Int := sI (fun i => c_e a (m + i) 2 h) (a 1 - m)
def r_pF (a : Int → Int) (m : Int) : Int := sI (fun i => c_pc a (m + i) 2) (a 1 - m)
theorem sI_hd {f : Int → Int} {n : Int} (h : 0 ≤ n) : sI f (n + 1) = f 0 + sI (fun i => f (1 + i)) n := by
  have := sI_ad (f := f) (n := 1) (by omega) n h
  rw [Int.add_comm n 1, this]
  have e : sI f 1 = f 0 := by
    have := sI_s (f := f) (n := 0) (by omega)
    rw [sI_0] at this
    rw [show (1 : Int) = 0 + 1 from rfl, this]
    omega
  rw [e]
theorem r_eF_s {a : Int → Int} {m h : Int} (hm : m < a 1) : r_eF a m h = c_e a m 2 h + r_eF a (m + 1) h := by
  unfold r_eF
  rw [show a 1 - m = (a 1 - (m + 1)) + 1 by omega, sI_hd (by omega), Int.add_zero]
  congr 1
  exact sI_c (fun p _ _ => by rw [Int.add_assoc])
theorem r_pF_s {a : Int → Int} {m : Int} (hm : m < a 1) : r_pF a m = c_pc a m 2 + r_pF a (m + 1) := by
  unfold r_pF
  rw [show a 1 - m = (a 1 - (m + 1)) + 1 by omega, sI_hd (by omega), Int.add_zero]
  congr 1
  exact sI_c (fun p _ _ => by rw [Int.add_assoc])
theorem c_e_b {a : Int → Int} {m how h : Int} (hJ : Jv a) (hT : jv_T a) (hm : 0 ≤ m ∧ m < a 1) : 0 ≤ c_e a m how h ∧ c_e a m how h ≤ 7200000000 := by
  have := s_e_b (how := how) (h := h) hJ hT hm
  unfold c_e
  split <;> omega
theorem c_pc_b {a : Int → Int} {m how : Int} (hJ : Jv a) (hT : jv_T a) (hm : 0 ≤ m ∧ m < a 1) : 0 ≤ c_pc a m how ∧ c_pc a m how ≤ 35640 := by
  have := s_pc_b (how := how) hJ hT hm
  unfold c_pc
  split <;> omega
theorem r_eF_b {a : Int → Int} {m h : Int} (hJ : Jv a) (hT : jv_T a) (hm : 0 ≤ m ∧ m ≤ a 1) : 0 ≤ r_eF a m h ∧ r_eF a m h ≤ 57600000000 := by
  have hC := jC hJ
  unfold jv_C at hC
  have := sI_b (f := fun i => c_e a (m + i) 2 h) (n := a 1 - m) (lo := 0) (hi := 7200000000) (by omega) (fun p p0 p1 => c_e_b hJ hT (by omega))
  unfold r_eF
  omega
theorem r_pF_b {a : Int → Int} {m : Int} (hJ : Jv a) (hT : jv_T a) (hm : 0 ≤ m ∧ m ≤ a 1) : 0 ≤ r_pF a m ∧ r_pF a m ≤ 285120 := by
  have hC := jC hJ
  unfold jv_C at hC
  have := sI_b (f := fun i => c_pc a (m + i) 2) (n := a 1 - m) (lo := 0) (hi := 35640) (by omega) (fun p p0 p1 => c_pc_b hJ hT (by omega))
  unfold r_pF
  omega
/-- more hours, more made, more earned -/
theorem td_m {x y z : Int} (h0 : 0 ≤ x) (h1 : x ≤ y) (hz : 0 < z) : x.tdiv z ≤ y.tdiv z := by
  rw [Int.tdiv_eq_ediv_of_nonneg h0, Int.tdiv_eq_ediv_of_nonneg (by omega)]
  exact Int.ediv_le_ediv hz h1
theorem s_h_m {a : Int → Int} {p how : Int} (hJ : Jl a) (hT : jv_T a) : s_h a p how ≤ s_h a p 2 := by
  have := r_hours_b (age := a (3652 + 12 * p + 1)) (mill := a (3652 + 12 * p + 4)) (week := a 0) (known := a 0) hJ hT
  unfold s_h
  rw [if_neg (show ¬ (2 : Int) = 1 by decide)]
  split
  · rw [Int.tdiv_eq_ediv_of_nonneg this.1]; omega
  · omega
theorem s_mk_m {a : Int → Int} {m p how : Int} (hJ : Jv a) (hT : jv_T a) (hm : 0 ≤ m ∧ m < a 1) (hp : 0 ≤ p ∧ p < a 4) (he : a (3652 + 12 * p + 4) = m) : s_mk a m p how ≤ s_mk a m p 2 := by
  have hM := jM hJ m hm.1 hm.2
  have hP := jP hJ p hp.1 hp.2
  have hl := Jl_of hJ
  unfold s_mk
  split
  · omega
  · split
    · next h1 h2 =>
      have c := r_cost_b (jK hJ) (k := a (3300 + 16 * m + 7)) (by omega)
      have q := r_pts_b hJ hp (by omega) (s_h_b (p := p) (how := how) hl hT) (M := 6) (by omega)
      have sh := s_h_m (p := p) (how := how) hl hT
      have hb := s_h_b (p := p) (how := how) hl hT
      refine td_m (by omega) ?_ (by omega)
      have : r_pts a p (s_h a p how) ≤ r_pts a p (s_h a p 2) := by
        unfold r_pts
        refine Int.mul_le_mul_of_nonneg_right (Int.mul_le_mul_of_nonneg_right (Int.mul_le_mul_of_nonneg_left sh (by omega)) ?_) (by omega)
        have := (jM hJ (a (3652 + 12 * p + 4)) (by omega) (by omega)).2.1
        omega
      omega
    · omega
theorem s_v_m {a : Int → Int} {m p how : Int} (hJ : Jv a) (hT : jv_T a) (hm : 0 ≤ m ∧ m < a 1) (hp : 0 ≤ p ∧ p < a 4) (he : a (3652 + 12 * p + 4) = m) : s_v a m p how ≤ s_v a m p 2 := by
  have hP := jP hJ p hp.1 hp.2
  unfold s_v
  split
  · exact Int.mul_le_mul_of_nonneg_right (s_h_m (Jl_of hJ) hT) (by omega)
  · have := s_py_b (m := m) (Jl_of hJ) hT
    exact Int.mul_le_mul_of_nonneg_right (s_mk_m hJ hT hm hp he) this.1
theorem s_e1_m {a : Int → Int} {m p how h : Int} (hJ : Jv a) (hT : jv_T a) (hm : 0 ≤ m ∧ m < a 1) (hp : 0 ≤ p ∧ p < a 4) (he : a (3652 + 12 * p + 4) = m) : s_e1 a m how h p ≤ s_e1 a m 2 h p := by
  have b := s_v_b (how := how) hJ hT hm hp he
  have b2 := s_v_b (how := 2) hJ hT hm hp he
  have v := s_v_m (how := how) hJ hT hm hp he
  have o : s_own a m p how ≤ s_own a m p 2 ∧ s_v a m p how - s_own a m p how ≤ s_v a m p 2 - s_own a m p 2 := by
    unfold s_own
    split
    · rw [Int.tdiv_eq_ediv_of_nonneg b.1, Int.tdiv_eq_ediv_of_nonneg b2.1]; omega
    · omega
  unfold s_e1
  repeat' split
  all_goals omega
theorem c_e_m {a : Int → Int} {m how h : Int} (hJ : Jv a) (hT : jv_T a) (hm : 0 ≤ m ∧ m < a 1) : c_e a m how h ≤ c_e a m 2 h := by
  have hC := jC hJ
  unfold jv_C at hC
  have b := s_en_b (how := 2) (h := h) hJ hT hm (n := a 4) (by omega)
  have e : s_e a m how h ≤ s_e a m 2 h := by
    unfold s_e
    rw [if_neg (show ¬ (2 : Int) = 0 by decide)]
    split
    · omega
    · refine sI_le (by omega) (fun p p0 p1 => ?_)
      by_cases c : a (3652 + 12 * p + 4) = m
      · rw [if_pos c, if_pos c]; exact s_e1_m hJ hT hm ⟨p0, p1⟩ c
      · rw [if_neg c, if_neg c]; exact Int.le_refl _
  unfold c_e
  split <;> omega
theorem c_pc_m {a : Int → Int} {m how : Int} (hJ : Jv a) (hT : jv_T a) (hm : 0 ≤ m ∧ m < a 1) : c_pc a m how ≤ c_pc a m 2 := by
  have hC := jC hJ
  unfold jv_C at hC
  have b := s_nn_b hJ hT hm (n := a 4) (by omega)
  have e : s_pc a m how ≤ s_pc a m 2 := by
    unfold s_pc
    rw [if_neg (show ¬ (2 : Int) = 0 by decide), if_pos rfl]
    repeat' split
    · omega
    · omega
    · rw [Int.tdiv_eq_ediv_of_nonneg b.1]; omega
  unfold c_pc
  split <;> omega
/-- plans that begin alike -/
theorem dg_pre {M k c q m : Int} (hm : 0 ≤ m ∧ m < k) (hk : k ≤ M) (hq : q / pw3 (M - k) = c) : dg M q m = dg k c m := by
  unfold dg
  rw [show M - 1 - m = (M - k) + (k - 1 - m) by omega, pw3_a (by omega) (by omega), ← hq, Int.ediv_ediv_of_nonneg (by have := pw3_p (M - k); omega)]
theorem blk {q c P : Int} (hP : 1 ≤ P) (h0 : c * P ≤ q) (h1 : q < (c + 1) * P) : q / P = c := by
  have a1 : c ≤ q / P := (Int.le_ediv_iff_mul_le (by omega)).mpr h0
  have a2 : q / P < c + 1 := (Int.ediv_lt_iff_lt_mul (by omega)).mpr h1
  omega
theorem dg_last {k c r : Int} (hk : 0 ≤ k) (hr : 0 ≤ r ∧ r ≤ 2) : dg (k + 1) (3 * c + (2 - r)) k = r := by
  unfold dg
  rw [show k + 1 - 1 - k = 0 by omega, pw3_0, Int.ediv_one]
  omega
theorem dg_snoc {k c r m : Int} (hm : 0 ≤ m ∧ m < k) (hr : 0 ≤ r ∧ r ≤ 2) : dg (k + 1) (3 * c + (2 - r)) m = dg k c m := by
  refine dg_pre hm (by omega) ?_
  rw [show k + 1 - k = 0 + 1 by omega, pw3_s (by omega), pw3_0]
  omega
theorem q_N_c {a : Int → Int} {most q : Int} (g : q_G a most q) : q_N a q = sI (fun m => c_pc a m (dg (a 1) q m)) (a 1) := by
  refine sI_c (fun m m0 m1 => ?_)
  unfold c_pc
  rcases g.1 m m0 m1 with e | e
  · rw [e]
    have : s_pc a m 0 = 0 := rfl
    rw [this]
    split <;> rfl
  · rw [if_pos e]
theorem q_E_c {a : Int → Int} {most q h : Int} (g : q_G a most q) : q_E a q h = sI (fun m => c_e a m (dg (a 1) q m) h) (a 1) := by
  refine sI_c (fun m m0 m1 => ?_)
  unfold c_e
  rcases g.1 m m0 m1 with e | e
  · rw [e]
    have : s_e a m 0 h = 0 := rfl
    rw [this]
    split <;> rfl
  · rw [if_pos e]
theorem pre_N {a : Int → Int} {most q k c : Int} (hJ : Jv a) (hT : jv_T a) (g : q_G a most q) (hk : 0 ≤ k ∧ k ≤ a 1) (hq : q / pw3 (a 1 - k) = c) : sI (fun m => c_pc a m (dg k c m)) k ≤ q_N a q ∧ q_N a q ≤ sI (fun m => c_pc a m (dg k c m)) k + r_pF a k := by
  have e := sI_ad (f := fun m => c_pc a m (dg (a 1) q m)) hk.1 (a 1 - k) (by omega)
  rw [show k + (a 1 - k) = a 1 by omega, ← q_N_c g] at e
  have e2 : sI (fun m => c_pc a m (dg (a 1) q m)) k = sI (fun m => c_pc a m (dg k c m)) k := sI_c (fun m m0 m1 => by rw [dg_pre ⟨m0, m1⟩ hk.2 hq])
  have l1 : 0 ≤ sI (fun i => c_pc a (k + i) (dg (a 1) q (k + i))) (a 1 - k) := sI_p0 (by omega) (fun p p0 p1 => (c_pc_b hJ hT (by omega)).1)
  have l2 : sI (fun i => c_pc a (k + i) (dg (a 1) q (k + i))) (a 1 - k) ≤ r_pF a k := sI_le (by omega) (fun p p0 p1 => c_pc_m hJ hT (by omega))
  rw [e2] at e
  omega
theorem pre_E {a : Int → Int} {most q k c h : Int} (hJ : Jv a) (hT : jv_T a) (g : q_G a most q) (hk : 0 ≤ k ∧ k ≤ a 1) (hq : q / pw3 (a 1 - k) = c) : sI (fun m => c_e a m (dg k c m) h) k ≤ q_E a q h ∧ q_E a q h ≤ sI (fun m => c_e a m (dg k c m) h) k + r_eF a k h := by
  have e := sI_ad (f := fun m => c_e a m (dg (a 1) q m) h) hk.1 (a 1 - k) (by omega)
  rw [show k + (a 1 - k) = a 1 by omega, ← q_E_c g] at e
  have e2 : sI (fun m => c_e a m (dg (a 1) q m) h) k = sI (fun m => c_e a m (dg k c m) h) k := sI_c (fun m m0 m1 => by rw [dg_pre ⟨m0, m1⟩ hk.2 hq])
  have l1 : 0 ≤ sI (fun i => c_e a (k + i) (dg (a 1) q (k + i)) h) (a 1 - k) := sI_p0 (by omega) (fun p p0 p1 => (c_e_b hJ hT (by omega)).1)
  have l2 : sI (fun i => c_e a (k + i) (dg (a 1) q (k + i)) h) (a 1 - k) ≤ r_eF a k h := sI_le (by omega) (fun p p0 p1 => c_e_m hJ hT (by omega))
  rw [e2] at e
  omega
/-- how many are HUNGRY whatever comes -/
def hgF (a : Int → Int) (k c h : Int) : Int := if sI (fun m => c_e a m (dg k c m) h) k + r_eF a k h < c_nd a h then 1 else 0
theorem hg24 {a : Int → Int} {k c : Int} (hJ : Jv a) (hT : jv_T a) (hk : 0 ≤ k ∧ k ≤ a 1) : sI (hgF a k c) 24 = sI (hgF a k c) (a 3) := by
  have hC := jC hJ
  unfold jv_C at hC
  have e := sI_ad (f := hgF a k c) (n := a 3) (by omega) (24 - a 3) (by omega)
  rw [show a 3 + (24 - a 3) = 24 by omega] at e
  have z : sI (fun i => hgF a k c (a 3 + i)) (24 - a 3) = sI (fun _ => 0) (24 - a 3) := sI_c (fun p p0 p1 => by
    unfold hgF c_nd
    rw [if_neg (show ¬ (a 3 + p < a 3 ∧ a (3460 + 8 * (a 3 + p) + 3) = 0) by omega)]
    have b1 : 0 ≤ sI (fun m => c_e a m (dg k c m) (a 3 + p)) k := sI_p0 hk.1 (fun m m0 m1 => (c_e_b hJ hT (by omega)).1)
    have b2 := r_eF_b (h := a 3 + p) hJ hT hk
    rw [if_neg (by omega)])
  have := sI_b (f := fun _ => (0 : Int)) (n := 24 - a 3) (lo := 0) (hi := 0) (by omega) (fun _ _ _ => by omega)
  omega
theorem pre_H {a : Int → Int} {most q k c : Int} (hJ : Jv a) (hT : jv_T a) (g : q_G a most q) (hk : 0 ≤ k ∧ k ≤ a 1) (hq : q / pw3 (a 1 - k) = c) : sI (hgF a k c) 24 ≤ q_H a q := by
  have hC := jC hJ
  unfold jv_C at hC
  rw [hg24 hJ hT hk]
  refine sI_le (by omega) (fun h h0 h1 => ?_)
  have e := pre_E (h := h) hJ hT g hk hq
  have b1 : 0 ≤ sI (fun m => c_e a m (dg k c m) h) k := sI_p0 hk.1 (fun m m0 m1 => (c_e_b hJ hT (by omega)).1)
  have b2 := r_eF_b (h := h) hJ hT hk
  unfold hgF q_h1 c_nd
  by_cases c1 : a (3460 + 8 * h + 3) = 0
  · rw [if_pos (show h < a 3 ∧ a (3460 + 8 * h + 3) = 0 from ⟨h1, c1⟩)]
    split
    · rw [if_pos ⟨c1, by omega⟩]; exact Int.le_refl _
    · split <;> omega
  · rw [if_neg (show ¬ (h < a 3 ∧ a (3460 + 8 * h + 3) = 0) from fun x => c1 x.2), if_neg (by omega), if_neg (fun x => c1 x.1)]
    exact Int.le_refl _
theorem leaf_H {a : Int → Int} {most q : Int} (hJ : Jv a) (hT : jv_T a) (g : q_G a most q) : sI (hgF a (a 1) q) 24 = q_H a q := by
  have hC := jC hJ
  unfold jv_C at hC
  rw [hg24 hJ hT (by omega)]
  refine sI_c (fun h h0 h1 => ?_)
  have e := q_E_c (h := h) g
  have z : r_eF a (a 1) h = 0 := by unfold r_eF; rw [Int.sub_self]; rfl
  have b1 : 0 ≤ sI (fun m => c_e a m (dg (a 1) q m) h) (a 1) := sI_p0 (by omega) (fun m m0 m1 => (c_e_b hJ hT (by omega)).1)
  unfold hgF q_h1 c_nd
  rw [z, Int.add_zero, ← e]
  rw [← e] at b1
  by_cases c1 : a (3460 + 8 * h + 3) = 0
  · rw [if_pos (show h < a 3 ∧ a (3460 + 8 * h + 3) = 0 from ⟨h1, c1⟩)]
    split
    · rw [if_pos (by omega)]
    · rw [if_neg (by omega)]
  · rw [if_neg (show ¬ (h < a 3 ∧ a (3460 + 8 * h + 3) = 0) from fun x => c1 x.2), if_neg (by omega), if_neg (fun x => c1 x.1)]
theorem BQ_ext {a : Int → Int} {most q q2 b H N : Int} (h : BQ a most q b H N) (l : q ≤ q2) (c : ∀ q', q ≤ q' → q' < q2 → q_G a most q' → 0 ≤ b ∧ (H < q_H a q' ∨ H = q_H a q' ∧ q_N a q' ≤ N)) : BQ a most q2 b H N := by
  rcases h with h | h
  · refine Or.inl ⟨h.1, fun q' q0 q1 g => ?_⟩
    by_cases e : q' < q
    · exact h.2 q' q0 e g
    · have := c q' (by omega) q1 g
      omega
  · refine Or.inr ⟨by omega, h.2.1, h.2.2.1, h.2.2.2.1, fun q' q0 q1 g => ?_⟩
    by_cases e : q' < q
    · exact h.2.2.2.2 q' q0 e g
    · have := c q' (by omega) q1 g
      have h3 := h.2.2.1
      have h4 := h.2.2.2.1
      omega
/-- what the search stands on, what it leaves, the best so far, where it is -/
def SC (σ τ : zI) (a : Int → Int) (most : Int) : Prop := (∀ m, 0 ≤ m → m < a 1 → ∀ run, 0 ≤ run → run ≤ 2 → σ 69 (m * 3 + run) = c_pc a m run ∧ ∀ h, 0 ≤ h → h < 24 → τ 68 ((m * 3 + run) * 24 + h) = c_e a m run h) ∧ (∀ m, 0 ≤ m → m ≤ a 1 → σ 72 m = r_pF a m ∧ ∀ h, 0 ≤ h → h < 24 → τ 71 (m * 24 + h) = r_eF a m h) ∧ (∀ h, 0 ≤ h → h < 24 → τ 76 h = c_nd a h) ∧ σ 67 9 = most
def FZ (σ σ' τ τ' : zI) (k : Int) : Prop := (∀ c, c ≠ 67 → c ≠ 74 → c ≠ 75 → σ' c = σ c) ∧ (∀ i, i ≠ 10 → i ≠ 11 → σ' 67 i = σ 67 i) ∧ (∀ c, c ≠ 70 → τ' c = τ c) ∧ (∀ i, i < (k + 1) * 24 → τ' 70 i = τ 70 i) ∧ ∀ m, m < k → σ' 74 m = σ 74 m
def BZ (σ : zI) (a : Int → Int) (most q : Int) : Prop := ∃ b, BQ a most q b (σ 67 10) (σ 67 11) ∧ (b < 0 → σ 67 10 = 25 ∧ σ 67 11 = -1) ∧ (0 ≤ b → ∀ m, 0 ≤ m → m < a 1 → σ 75 m = dg (a 1) b m)
def PX (σ τ : zI) (a : Int → Int) (k c : Int) : Prop := (∀ m, 0 ≤ m → m < k → σ 74 m = dg k c m) ∧ (∀ h, 0 ≤ h → h < 24 → τ 70 (k * 24 + h) = sI (fun m => c_e a m (dg k c m) h) k) ∧ ∀ m, 0 ≤ m → m < k → dg k c m = 0 ∨ a (3300 + 16 * m + 5) = 0
theorem SC_f {σ σ' τ τ' : zI} {a : Int → Int} {most k : Int} (h : SC σ τ a most) (f : FZ σ σ' τ τ' k) : SC σ' τ' a most := by
  unfold SC at *
  rw [f.1 69 (by decide) (by decide) (by decide), f.1 72 (by decide) (by decide) (by decide), f.2.1 9 (by decide) (by decide), f.2.2.1 68 (by decide), f.2.2.1 71 (by decide), f.2.2.1 76 (by decide)]
  exact h
theorem FZ_t {σ σ' σ2 τ τ' τ2 : zI} {k : Int} (h : FZ σ σ' τ τ' k) (h2 : FZ σ' σ2 τ' τ2 k) : FZ σ σ2 τ τ2 k := ⟨fun c c1 c2 c3 => by rw [h2.1 c c1 c2 c3]; exact h.1 c c1 c2 c3, fun i i1 i2 => by rw [h2.2.1 i i1 i2]; exact h.2.1 i i1 i2, fun c c1 => by rw [h2.2.2.1 c c1]; exact h.2.2.1 c c1, fun i hi => by rw [h2.2.2.2.1 i hi]; exact h.2.2.2.1 i hi, fun m hm => by rw [h2.2.2.2.2 m hm]; exact h.2.2.2.2 m hm⟩
-- method 70: MillTown$Sharing.surelyHungry(I)I
theorem c_70_0 : pg_cd 70 0 = (1, 1, 0, 0, 0) := by decide +kernel
theorem c_70_1 : pg_cd 70 1 = (6, 1, 0, 2, 0) := by decide +kernel
theorem c_70_2 : pg_cd 70 2 = (1, 1, 0, 0, 0) := by decide +kernel
theorem c_70_3 : pg_cd 70 3 = (6, 1, 0, 3, 0) := by decide +kernel
theorem c_70_4 : pg_cd 70 4 = (3, 1, 0, 3, 0) := by decide +kernel
theorem c_70_5 : pg_cd 70 5 = (1, 2, 0, 0, 24) := by decide +kernel
theorem c_70_7 : pg_cd 70 7 = (37, 3, 0, 3, 45) := by decide +kernel
theorem c_70_10 : pg_cd 70 10 = (5, 1, 0, 0, 0) := by decide +kernel
theorem c_70_11 : pg_cd 70 11 = (45, 5, 19, 2, 0) := by decide +kernel
theorem c_70_14 : pg_cd 70 14 = (3, 1, 0, 1, 0) := by decide +kernel
theorem c_70_15 : pg_cd 70 15 = (1, 2, 0, 0, 24) := by decide +kernel
theorem c_70_17 : pg_cd 70 17 = (12, 1, 0, 0, 0) := by decide +kernel
theorem c_70_18 : pg_cd 70 18 = (3, 1, 0, 3, 0) := by decide +kernel
theorem c_70_19 : pg_cd 70 19 = (10, 1, 0, 0, 0) := by decide +kernel
theorem c_70_20 : pg_cd 70 20 = (52, 1, 0, 0, 0) := by decide +kernel
theorem c_70_21 : pg_cd 70 21 = (5, 1, 0, 0, 0) := by decide +kernel
theorem c_70_22 : pg_cd 70 22 = (45, 5, 22, 3, 0) := by decide +kernel
theorem c_70_25 : pg_cd 70 25 = (3, 1, 0, 1, 0) := by decide +kernel
theorem c_70_26 : pg_cd 70 26 = (1, 2, 0, 0, 24) := by decide +kernel
theorem c_70_28 : pg_cd 70 28 = (12, 1, 0, 0, 0) := by decide +kernel
theorem c_70_29 : pg_cd 70 29 = (3, 1, 0, 3, 0) := by decide +kernel
theorem c_70_30 : pg_cd 70 30 = (10, 1, 0, 0, 0) := by decide +kernel
theorem c_70_31 : pg_cd 70 31 = (52, 1, 0, 0, 0) := by decide +kernel
theorem c_70_32 : pg_cd 70 32 = (22, 1, 0, 0, 0) := by decide +kernel
theorem c_70_33 : pg_cd 70 33 = (5, 1, 0, 0, 0) := by decide +kernel
theorem c_70_34 : pg_cd 70 34 = (45, 5, 37, 8, 0) := by decide +kernel
theorem c_70_37 : pg_cd 70 37 = (3, 1, 0, 3, 0) := by decide +kernel
theorem c_70_38 : pg_cd 70 38 = (52, 1, 0, 0, 0) := by decide +kernel
theorem c_70_39 : pg_cd 70 39 = (28, 1, 0, 0, 0) := by decide +kernel
theorem c_70_40 : pg_cd 70 40 = (36, 3, 0, 3, 6) := by decide +kernel
theorem c_70_43 : pg_cd 70 43 = (9, 3, 0, 2, 1) := by decide +kernel
theorem c_70_46 : pg_cd 70 46 = (9, 3, 0, 3, 1) := by decide +kernel
theorem c_70_49 : pg_cd 70 49 = (38, 3, 0, 0, (-45)) := by decide +kernel
theorem c_70_52 : pg_cd 70 52 = (3, 1, 0, 2, 0) := by decide +kernel
theorem c_70_53 : pg_cd 70 53 = (90, 0, 0, 0, 0) := by decide +kernel
theorem mi_70 : pg_mc 70 = 5 ∧ pg_na 70 = 1 ∧ pg_mx 70 = 4 := by decide +kernel
set_option maxRecDepth 20000 in
theorem u_70_0 {d : Nat} {S : zS} {σ τ : zI} {Q : zQ} {x1 : Int} (t : wi (d + 0) 70 4 [.ref 67, .int (wI x1), .int (wI 0), .int (wI 0)] [] S σ τ Q) : wi (d + 0) 70 0 [.ref 67, .int (wI x1), .retAddr 0, .retAddr 0] [] S σ τ Q := by
  refine i1 c_70_0 (i6 (L' := [.ref 67, .int (wI x1), .int (wI 0), .retAddr 0]) c_70_1 rfl (i1 c_70_2 (i6 (L' := [.ref 67, .int (wI x1), .int (wI 0), .int (wI 0)]) c_70_3 rfl t)))
set_option maxRecDepth 20000 in
theorem u_70_4 {d : Nat} {S : zS} {σ τ : zI} {Q : zQ} {x1 : Int} {x2 : Int} {x3 : Int} (t : (rg x3) ∧ if (24 : Int) ≤ x3 then (Q (some (.int (wI x2))) S σ τ) else ((0 ≤ (x1 * 24) + x3 ∧ (x1 * 24) + x3 < 216) ∧ (0 ≤ x3 ∧ x3 < 24) ∧ (rj ((τ 70 ((x1 * 24) + x3)) + (τ 71 ((x1 * 24) + x3)))) ∧ if (τ 76 x3) ≤ ((τ 70 ((x1 * 24) + x3)) + (τ 71 ((x1 * 24) + x3))) then (wi (d + 0) 70 4 [.ref 67, .int (wI x1), .int (wI x2), .int (wI (x3 + 1))] [] S σ τ Q) else (wi (d + 0) 70 4 [.ref 67, .int (wI x1), .int (wI (x2 + 1)), .int (wI (x3 + 1))] [] S σ τ Q))) : wi (d + 0) 70 4 [.ref 67, .int (wI x1), .int (wI x2), .int (wI x3)] [] S σ τ Q := by
  obtain ⟨r1, t⟩ := t
  refine i3 c_70_4 rfl (i1 c_70_5 ?_)
  refine i37 c_70_7 r1 (by decide) rfl (fun hc => ?_) (fun hc => ?_)
  · have t := iT t hc
    have ha2 : (24 : Int) ≤ x3 := hc
    refine i3 c_70_52 rfl ?_
    exact i90 c_70_53 t
  · have t := iF t hc
    have ha2 : ¬ ((24 : Int) ≤ x3) := hc
    obtain ⟨r3, t⟩ := t
    refine i5 c_70_10 rfl (i45 c_70_11 (lo (c := 67) (kd := 105) (n := 0) rfl (by decide)) (lro (c := 67) (k := 2) (j := 70) (by decide)) (i3 c_70_14 rfl (i1 c_70_15 (i12 c_70_17 (i3 c_70_18 rfl (i10 c_70_19 (wi_ok (fun K4 => ?_))))))))
    obtain ⟨r5, t⟩ := t
    obtain ⟨r6, t⟩ := t
    refine i52 (v := τ 70 ((x1 * 24) + x3)) c_70_20 (lo (c := 70) (kd := 1) (n := 216) rfl (by decide)) (by decide) r3 rfl (i5 c_70_21 rfl (i45 c_70_22 (lo (c := 67) (kd := 105) (n := 0) rfl (by decide)) (lro (c := 67) (k := 3) (j := 71) (by decide)) (i3 c_70_25 rfl (i1 c_70_26 (i12 c_70_28 (i3 c_70_29 rfl (i10 c_70_30 (i52 (v := τ 71 ((x1 * 24) + x3)) c_70_31 (lo (c := 71) (kd := 1) (n := 216) rfl (by decide)) (by decide) r3 rfl (i22 c_70_32 (i5 c_70_33 rfl (i45 c_70_34 (lo (c := 67) (kd := 105) (n := 0) rfl (by decide)) (lro (c := 67) (k := 8) (j := 76) (by decide)) (i3 c_70_37 rfl (i52 (v := τ 76 x3) c_70_38 (lo (c := 76) (kd := 1) (n := 24) rfl (by decide)) (by decide) r5 rfl (i28 c_70_39 ?_))))))))))))))
    refine i36l c_70_40 r6 (rje_ K4 rfl) rfl (fun hc => ?_) (fun hc => ?_)
    · have t := iT t hc
      have ha7 : (τ 76 x3) ≤ ((τ 70 ((x1 * 24) + x3)) + (τ 71 ((x1 * 24) + x3))) := hc
      refine i9 (L' := [.ref 67, .int (wI x1), .int (wI x2), .int (wI (x3 + 1))]) c_70_46 rfl rfl (i38 c_70_49 rfl t)
    · have t := iF t hc
      have ha7 : ¬ ((τ 76 x3) ≤ ((τ 70 ((x1 * 24) + x3)) + (τ 71 ((x1 * 24) + x3)))) := hc
      refine i9 (L' := [.ref 67, .int (wI x1), .int (wI (x2 + 1)), .int (wI x3)]) c_70_43 rfl rfl (i9 (L' := [.ref 67, .int (wI x1), .int (wI (x2 + 1)), .int (wI (x3 + 1))]) c_70_46 rfl rfl (i38 c_70_49 rfl t))
theorem q_70 {d : Nat} {S : zS} {σ τ : zI} {Q : zQ} {mill : Int} (p0 : 0 ≤ mill ∧ mill ≤ (8 : Int)) (p1 : (∀ h, 0 ≤ h → h < 24 → (0 ≤ τ 70 (mill * 24 + h) ∧ τ 70 (mill * 24 + h) ≤ 1000000000000) ∧ (0 ≤ τ 71 (mill * 24 + h) ∧ τ 71 (mill * 24 + h) ≤ 1000000000000))) (t : ∀ (v : Int), v = sI (fun h => if τ 70 (mill * 24 + h) + τ 71 (mill * 24 + h) < τ 76 h then 1 else 0) 24 → 0 ≤ v ∧ v ≤ 24 → Q (some (.int (wI v))) S σ τ) : wc (d + 0) 70 [.ref 67, .int (wI mill)] S σ τ Q := by
  have t := t _ rfl (by
    have := sI_b (f := fun h => if τ 70 (mill * 24 + h) + τ 71 (mill * 24 + h) < τ 76 h then (1 : Int) else 0) (n := 24) (lo := 0) (hi := 1) (by omega) (fun p _ _ => by
      try dsimp only
      split <;> omega)
    omega)
  refine wc_of mi_70 rfl (u_70_0 ?_)
  have key : ∀ h, 0 ≤ h → h ≤ 24 → ∀ s, s = sI (fun h => if τ 70 (mill * 24 + h) + τ 71 (mill * 24 + h) < τ 76 h then 1 else 0) h → wi (d + 0) 70 4 [.ref 67, .int (wI mill), .int (wI s), .int (wI h)] [] S σ τ Q := by
    refine lp_up (fun h h0 h1 ih => ?_)
    intro s hs
    refine u_70_4 ⟨by omega, ifI (fun e => ?_) (fun e => ?_)⟩
    · have : h = 24 := by omega
      subst this
      rw [hs]; exact t
    · have ih := ih (by omega)
      rw [sI_s h0, ← hs] at ih
      have b := p1 h h0 (by omega)
      refine ⟨by omega, by omega, by omega, ifI (fun c => ?_) (fun c => ?_)⟩
      · rw [if_neg (by omega), Int.add_zero] at ih; exact ih _ rfl
      · rw [if_pos (by omega)] at ih; exact ih _ rfl
  exact key 0 (by omega) (by omega) 0 rfl
-- method 72: MillTown$Sharing.addRun(II)V
theorem c_72_0 : pg_cd 72 0 = (1, 1, 0, 0, 0) := by decide +kernel
theorem c_72_1 : pg_cd 72 1 = (6, 1, 0, 3, 0) := by decide +kernel
theorem c_72_2 : pg_cd 72 2 = (3, 1, 0, 3, 0) := by decide +kernel
theorem c_72_3 : pg_cd 72 3 = (1, 2, 0, 0, 24) := by decide +kernel
theorem c_72_5 : pg_cd 72 5 = (37, 3, 0, 3, 49) := by decide +kernel
theorem c_72_8 : pg_cd 72 8 = (5, 1, 0, 0, 0) := by decide +kernel
theorem c_72_9 : pg_cd 72 9 = (45, 5, 19, 2, 0) := by decide +kernel
theorem c_72_12 : pg_cd 72 12 = (3, 1, 0, 1, 0) := by decide +kernel
theorem c_72_13 : pg_cd 72 13 = (1, 1, 0, 0, 1) := by decide +kernel
theorem c_72_14 : pg_cd 72 14 = (10, 1, 0, 0, 0) := by decide +kernel
theorem c_72_15 : pg_cd 72 15 = (1, 2, 0, 0, 24) := by decide +kernel
theorem c_72_17 : pg_cd 72 17 = (12, 1, 0, 0, 0) := by decide +kernel
theorem c_72_18 : pg_cd 72 18 = (3, 1, 0, 3, 0) := by decide +kernel
theorem c_72_19 : pg_cd 72 19 = (10, 1, 0, 0, 0) := by decide +kernel
theorem c_72_20 : pg_cd 72 20 = (5, 1, 0, 0, 0) := by decide +kernel
theorem c_72_21 : pg_cd 72 21 = (45, 5, 19, 2, 0) := by decide +kernel
theorem c_72_24 : pg_cd 72 24 = (3, 1, 0, 1, 0) := by decide +kernel
theorem c_72_25 : pg_cd 72 25 = (1, 2, 0, 0, 24) := by decide +kernel
theorem c_72_27 : pg_cd 72 27 = (12, 1, 0, 0, 0) := by decide +kernel
theorem c_72_28 : pg_cd 72 28 = (3, 1, 0, 3, 0) := by decide +kernel
theorem c_72_29 : pg_cd 72 29 = (10, 1, 0, 0, 0) := by decide +kernel
theorem c_72_30 : pg_cd 72 30 = (52, 1, 0, 0, 0) := by decide +kernel
theorem c_72_31 : pg_cd 72 31 = (5, 1, 0, 0, 0) := by decide +kernel
theorem c_72_32 : pg_cd 72 32 = (45, 5, 11, 0, 0) := by decide +kernel
theorem c_72_35 : pg_cd 72 35 = (3, 1, 0, 1, 0) := by decide +kernel
theorem c_72_36 : pg_cd 72 36 = (1, 1, 0, 0, 3) := by decide +kernel
theorem c_72_37 : pg_cd 72 37 = (12, 1, 0, 0, 0) := by decide +kernel
theorem c_72_38 : pg_cd 72 38 = (3, 1, 0, 2, 0) := by decide +kernel
theorem c_72_39 : pg_cd 72 39 = (10, 1, 0, 0, 0) := by decide +kernel
theorem c_72_40 : pg_cd 72 40 = (1, 2, 0, 0, 24) := by decide +kernel
theorem c_72_42 : pg_cd 72 42 = (12, 1, 0, 0, 0) := by decide +kernel
theorem c_72_43 : pg_cd 72 43 = (3, 1, 0, 3, 0) := by decide +kernel
theorem c_72_44 : pg_cd 72 44 = (10, 1, 0, 0, 0) := by decide +kernel
theorem c_72_45 : pg_cd 72 45 = (52, 1, 0, 0, 0) := by decide +kernel
theorem c_72_46 : pg_cd 72 46 = (22, 1, 0, 0, 0) := by decide +kernel
theorem c_72_47 : pg_cd 72 47 = (56, 1, 0, 0, 0) := by decide +kernel
theorem c_72_48 : pg_cd 72 48 = (9, 3, 0, 3, 1) := by decide +kernel
theorem c_72_51 : pg_cd 72 51 = (38, 3, 0, 0, (-49)) := by decide +kernel
theorem c_72_54 : pg_cd 72 54 = (94, 0, 0, 0, 0) := by decide +kernel
theorem mi_72 : pg_mc 72 = 5 ∧ pg_na 72 = 2 ∧ pg_mx 72 = 4 := by decide +kernel
set_option maxRecDepth 20000 in
theorem u_72_0 {d : Nat} {S : zS} {σ τ : zI} {Q : zQ} {x1 : Int} {x2 : Int} (t : wi (d + 0) 72 2 [.ref 67, .int (wI x1), .int (wI x2), .int (wI 0)] [] S σ τ Q) : wi (d + 0) 72 0 [.ref 67, .int (wI x1), .int (wI x2), .retAddr 0] [] S σ τ Q := by
  refine i1 c_72_0 (i6 (L' := [.ref 67, .int (wI x1), .int (wI x2), .int (wI 0)]) c_72_1 rfl t)
set_option maxRecDepth 20000 in
theorem u_72_2 {d : Nat} {S : zS} {σ τ : zI} {Q : zQ} {x1 : Int} {x2 : Int} {x3 : Int} (t : (rg x3) ∧ if (24 : Int) ≤ x3 then (Q none S σ τ) else ((0 ≤ (x1 * 24) + x3 ∧ (x1 * 24) + x3 < 216) ∧ (0 ≤ (((x1 * 3) + x2) * 24) + x3 ∧ (((x1 * 3) + x2) * 24) + x3 < 576) ∧ (0 ≤ ((x1 + 1) * 24) + x3 ∧ ((x1 + 1) * 24) + x3 < 216) ∧ ∃ w7 : Int, wJ w7 = wJ ((τ 70 ((x1 * 24) + x3)) + (τ 68 ((((x1 * 3) + x2) * 24) + x3))) ∧ rj w7 ∧ wi (d + 0) 72 2 [.ref 67, .int (wI x1), .int (wI x2), .int (wI (x3 + 1))] [] S σ (uc τ 70 (u1 (τ 70) (((x1 + 1) * 24) + x3) w7)) Q)) : wi (d + 0) 72 2 [.ref 67, .int (wI x1), .int (wI x2), .int (wI x3)] [] S σ τ Q := by
  obtain ⟨r1, t⟩ := t
  refine i3 c_72_2 rfl (i1 c_72_3 ?_)
  refine i37 c_72_5 r1 (by decide) rfl (fun hc => ?_) (fun hc => ?_)
  · have t := iT t hc
    have ha2 : (24 : Int) ≤ x3 := hc
    exact i94 c_72_54 t
  · have t := iF t hc
    have ha2 : ¬ ((24 : Int) ≤ x3) := hc
    obtain ⟨r3, t⟩ := t
    refine i5 c_72_8 rfl (i45 c_72_9 (lo (c := 67) (kd := 105) (n := 0) rfl (by decide)) (lro (c := 67) (k := 2) (j := 70) (by decide)) (i3 c_72_12 rfl (i1 c_72_13 (i10 c_72_14 (i1 c_72_15 (i12 c_72_17 (i3 c_72_18 rfl (i10 c_72_19 (i5 c_72_20 rfl (i45 c_72_21 (lo (c := 67) (kd := 105) (n := 0) rfl (by decide)) (lro (c := 67) (k := 2) (j := 70) (by decide)) (i3 c_72_24 rfl (i1 c_72_25 (i12 c_72_27 (i3 c_72_28 rfl (i10 c_72_29 (wi_ok (fun K4 => ?_)))))))))))))))))
    obtain ⟨r5, t⟩ := t
    obtain ⟨r6, t⟩ := t
    obtain ⟨w7, e8, r9, t⟩ := t
    refine i52 (v := τ 70 ((x1 * 24) + x3)) c_72_30 (lo (c := 70) (kd := 1) (n := 216) rfl (by decide)) (by decide) r3 rfl (i5 c_72_31 rfl (i45 c_72_32 (lo (c := 67) (kd := 105) (n := 0) rfl (by decide)) (lro (c := 67) (k := 0) (j := 68) (by decide)) (i3 c_72_35 rfl (i1 c_72_36 (i12 c_72_37 (i3 c_72_38 rfl (i10 c_72_39 (i1 c_72_40 (i12 c_72_42 (i3 c_72_43 rfl (i10 c_72_44 (i52 (v := τ 68 ((((x1 * 3) + x2) * 24) + x3)) c_72_45 (lo (c := 68) (kd := 1) (n := 576) rfl (by decide)) (by decide) r5 rfl (i22 c_72_46 (i56 (τ1 := uc τ 70 (u1 (τ 70) (((x1 + 1) * 24) + x3) w7)) c_72_47 (lo (c := 70) (kd := 1) (n := 216) rfl (by decide)) (by decide) r6 e8 r9 (wr_ rfl rfl) (i9 (L' := [.ref 67, .int (wI x1), .int (wI x2), .int (wI (x3 + 1))]) c_72_48 rfl rfl (i38 c_72_51 rfl t))))))))))))))))
def AR (τ τ1 : zI) (mill run : Int) : Prop := (∀ c, c ≠ 70 → τ1 c = τ c) ∧ (∀ h, 0 ≤ h → h < 24 → τ1 70 ((mill + 1) * 24 + h) = τ 70 (mill * 24 + h) + τ 68 ((mill * 3 + run) * 24 + h)) ∧ ∀ k, k < (mill + 1) * 24 ∨ (mill + 2) * 24 ≤ k → τ1 70 k = τ 70 k
theorem q_72 {d : Nat} {S : zS} {σ τ : zI} {Q : zQ} {mill : Int} {run : Int} (p0 : 0 ≤ mill ∧ mill ≤ (7 : Int)) (p1 : 0 ≤ run ∧ run ≤ (2 : Int)) (p2 : (∀ h, 0 ≤ h → h < 24 → (0 ≤ τ 70 (mill * 24 + h) ∧ τ 70 (mill * 24 + h) ≤ 1000000000000) ∧ (0 ≤ τ 68 ((mill * 3 + run) * 24 + h) ∧ τ 68 ((mill * 3 + run) * 24 + h) ≤ 1000000000000))) (t : ∀ (τ1 : zI), AR τ τ1 mill run → Q none S σ τ1) : wc (d + 0) 72 [.ref 67, .int (wI mill), .int (wI run)] S σ τ Q := by
  refine wc_of mi_72 rfl (u_72_0 ?_)
  have key : ∀ h, 0 ≤ h → h ≤ 24 → ∀ τ', (∀ c, c ≠ 70 → τ' c = τ c) → (∀ k, 0 ≤ k → k < h → τ' 70 ((mill + 1) * 24 + k) = τ 70 (mill * 24 + k) + τ 68 ((mill * 3 + run) * 24 + k)) → (∀ k, k < (mill + 1) * 24 ∨ (mill + 2) * 24 ≤ k → τ' 70 k = τ 70 k) → wi (d + 0) 72 2 [.ref 67, .int (wI mill), .int (wI run), .int (wI h)] [] S σ τ' Q := by
    refine lp_up (fun h h0 h1 ih => ?_)
    intro τ' f1 f2 f3
    refine u_72_2 ⟨by omega, ifI (fun e => ?_) (fun e => ?_)⟩
    · exact t τ' ⟨f1, fun k k0 k1 => f2 k k0 (by omega), f3⟩
    · have b := p2 h h0 (by omega)
      rw [f1 68 (by decide), f3 (mill * 24 + h) (by omega)]
      refine ⟨by omega, by omega, by omega, τ 70 (mill * 24 + h) + τ 68 ((mill * 3 + run) * 24 + h), rfl, by omega, ?_⟩
      refine ih (by omega) _ (fun c hc => by rw [uc_n hc]; exact f1 c hc) (fun k k0 k1 => ?_) (fun k hk => ?_)
      · rw [uc_s]
        by_cases c : k = h
        · subst c; rw [u1_s]
        · rw [u1_n (by omega)]; exact f2 k k0 (by omega)
      · rw [uc_s, u1_n (by omega)]; exact f3 k hk
  exact key 0 (by omega) (by omega) τ (fun _ _ => rfl) (fun k k0 k1 => by omega) (fun _ _ => rfl)
