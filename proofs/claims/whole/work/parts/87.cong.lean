/-! ===== numbers that agree: HOURS and PAY are the same (segments printed by wip/whole, contracts own work) ===== -/
/-- a and a' agree in what FORCES, HOURS and PAY look at -/
def eL (a a' : Int → Int) : Prop := ∀ k, k = 5 ∨ k = 6 ∨ 20 ≤ k ∧ k < 68 ∨ 5012 ≤ k ∧ k < 22300 → a' k = a k
section CL
variable {a a' : Int → Int}
theorem hcN_c (e : eL a a') {text sort : Int} (ht : 0 ≤ text ∧ text < 20) : ∀ n : Nat, n ≤ 24 → r_hcN a' text sort n = r_hcN a text sort n
  | 0, _ => rfl
  | n + 1, hn => by
    show (r_hcN a' text sort n || decide (a' (5500 + 840 * text + 1 + 8 * (n : Int)) = sort)) = (r_hcN a text sort n || decide (a (5500 + 840 * text + 1 + 8 * (n : Int)) = sort))
    rw [hcN_c e ht n (by omega), e _ (by omega)]
theorem hc_c (e : eL a a') (hJ : Jl a) (hT : jv_T a) {text sort : Int} (ht : 0 ≤ text ∧ text < a 5) : r_hc a' text sort = r_hc a text sort := by
  have hC := lC hJ
  unfold jv_C at hC
  have q := (hT text ht.1 ht.2).1
  unfold r_hc
  rw [e _ (by omega)]
  exact hcN_c e (by omega) _ (by omega)
theorem fcN_c (e : eL a a') (hJ : Jl a) (hT : jv_T a) {sort mill week known : Int} : ∀ n : Nat, (n : Int) ≤ a 6 → r_fcN a' sort mill week known n = r_fcN a sort mill week known n
  | 0, _ => rfl
  | n + 1, hn => by
    have hC := lC hJ
    unfold jv_C at hC
    have q := lF hJ n (by omega) (by omega)
    show (if fc_c a' sort mill week known n then (n : Int) else r_fcN a' sort mill week known n) = (if fc_c a sort mill week known n then (n : Int) else r_fcN a sort mill week known n)
    have h : fc_c a' sort mill week known n ↔ fc_c a sort mill week known n := by
      unfold fc_c
      rw [e (5012 + 8 * (n : Int) + 1) (by omega), e (5012 + 8 * (n : Int) + 2) (by omega), e (5012 + 8 * (n : Int) + 3) (by omega), e (5012 + 8 * (n : Int) + 4) (by omega), e (5012 + 8 * (n : Int)) (by omega), hc_c e hJ hT q.1]
    rw [fcN_c e hJ hT n (by omega)]
    by_cases c : fc_c a sort mill week known n
    · rw [if_pos c, if_pos (h.mpr c)]
    · rw [if_neg c, if_neg (fun x => c (h.mp x))]
theorem fc_g (e : eL a a') (hJ : Jl a) (hT : jv_T a) {sort mill week known : Int} : r_fc a' sort mill week known = r_fc a sort mill week known := by
  have hC := lC hJ
  unfold jv_C at hC
  unfold r_fc r_fcI
  rw [e 6 (by omega)]
  exact fcN_c e hJ hT _ (by omega)
theorem mxN_c (e : eL a a') {text sort : Int} (ht : 0 ≤ text ∧ text < 20) : ∀ n : Nat, n ≤ 24 → r_mxN a' text sort n = r_mxN a text sort n
  | 0, _ => rfl
  | n + 1, hn => by
    show (if a' (5500 + 840 * text + 1 + 8 * (n : Int)) = sort ∧ r_mxN a' text sort n < a' (5500 + 840 * text + 1 + 8 * (n : Int) + 1) then a' (5500 + 840 * text + 1 + 8 * (n : Int) + 1) else r_mxN a' text sort n) = (if a (5500 + 840 * text + 1 + 8 * (n : Int)) = sort ∧ r_mxN a text sort n < a (5500 + 840 * text + 1 + 8 * (n : Int) + 1) then a (5500 + 840 * text + 1 + 8 * (n : Int) + 1) else r_mxN a text sort n)
    rw [mxN_c e ht n (by omega), e (5500 + 840 * text + 1 + 8 * (n : Int)) (by omega), e (5500 + 840 * text + 1 + 8 * (n : Int) + 1) (by omega)]
theorem mx_c (e : eL a a') {text sort n : Int} (ht : 0 ≤ text ∧ text < 20) (hn : n ≤ 24) : r_mx a' text sort n = r_mx a text sort n := mxN_c e ht _ (by omega)
theorem agN_c (e : eL a a') {text age : Int} (ht : 0 ≤ text ∧ text < 20) : ∀ n : Nat, n ≤ 24 → r_agN a' text age n = r_agN a text age n
  | 0, _ => rfl
  | n + 1, hn => by
    show (if 0 ≤ r_agN a' text age n then r_agN a' text age n else if a' (5500 + 840 * text + 1 + 8 * (n : Int)) = 7 ∧ a' (5500 + 840 * text + 1 + 8 * (n : Int) + 1) ≤ age ∧ age ≤ a' (5500 + 840 * text + 1 + 8 * (n : Int) + 2) then a' (5500 + 840 * text + 1 + 8 * (n : Int) + 3) else -1) = (if 0 ≤ r_agN a text age n then r_agN a text age n else if a (5500 + 840 * text + 1 + 8 * (n : Int)) = 7 ∧ a (5500 + 840 * text + 1 + 8 * (n : Int) + 1) ≤ age ∧ age ≤ a (5500 + 840 * text + 1 + 8 * (n : Int) + 2) then a (5500 + 840 * text + 1 + 8 * (n : Int) + 3) else -1)
    rw [agN_c e ht n (by omega), e (5500 + 840 * text + 1 + 8 * (n : Int)) (by omega), e (5500 + 840 * text + 1 + 8 * (n : Int) + 1) (by omega), e (5500 + 840 * text + 1 + 8 * (n : Int) + 2) (by omega), e (5500 + 840 * text + 1 + 8 * (n : Int) + 3) (by omega)]
theorem ft_b (hJ : Jl a) (hT : jv_T a) {sort mill week known : Int} (h : ¬ r_fc a sort mill week known < 0) : (0 ≤ a (5012 + 8 * r_fc a sort mill week known) ∧ a (5012 + 8 * r_fc a sort mill week known) < a 5) ∧ (0 ≤ r_fc a sort mill week known ∧ r_fc a sort mill week known < 61) ∧ (0 ≤ a (5500 + 840 * a (5012 + 8 * r_fc a sort mill week known)) ∧ a (5500 + 840 * a (5012 + 8 * r_fc a sort mill week known)) ≤ 24) ∧ a 5 ≤ 20 := by
  have hC := lC hJ
  unfold jv_C at hC
  have b := r_fc_b (a := a) (sort := sort) (mill := mill) (week := week) (known := known) (by omega)
  have q := lF hJ (r_fc a sort mill week known) (by omega) (by omega)
  exact ⟨q.1, by omega, (hT _ q.1.1 q.1.2).1, by omega⟩
theorem most_c (e : eL a a') (hJ : Jl a) (hT : jv_T a) {sort mill week known : Int} : r_most a' sort mill week known = r_most a sort mill week known := by
  unfold r_most
  rw [fc_g e hJ hT]
  by_cases h : r_fc a sort mill week known < 0
  · rw [if_pos h, if_pos h]
  · have b := ft_b hJ hT h
    rw [if_neg h, if_neg h, e (5012 + 8 * r_fc a sort mill week known) (by omega), e (5500 + 840 * a (5012 + 8 * r_fc a sort mill week known)) (by omega), mx_c e (by omega) (by omega)]
theorem hours_c (e : eL a a') (hJ : Jl a) (hT : jv_T a) {age mill week known : Int} : r_hours a' age mill week known = r_hours a age mill week known := by
  have ag : r_ages a' age mill week known = r_ages a age mill week known := by
    unfold r_ages
    rw [fc_g e hJ hT]
    by_cases h : r_fc a 7 mill week known < 0
    · rw [if_pos h, if_pos h]
    · have b := ft_b hJ hT h
      rw [if_neg h, if_neg h, e (5012 + 8 * r_fc a 7 mill week known) (by omega), e (5500 + 840 * a (5012 + 8 * r_fc a 7 mill week known)) (by omega)]
      exact agN_c e (by omega) _ (by omega)
  unfold r_hours
  rw [ag, most_c e hJ hT, most_c e hJ hT]
theorem evN_c (e : eL a a') {kind : Int} (hk : 0 ≤ kind ∧ kind ≤ 5) {text : Int} (ht : 0 ≤ text ∧ text < 20) : ∀ (n : Nat) (i m b m1 b1 : Int) (s : eS), 0 ≤ i → i + n ≤ 320 → wzN a (5500 + 840 * text + 200) n i m b m1 b1 → evN a' (fun v => a' (20 + 8 * kind + v)) (5500 + 840 * text + 200) n i s = evN a (fun v => a (20 + 8 * kind + v)) (5500 + 840 * text + 200) n i s
  | 0, _, _, _, _, _, _, _, _, _ => rfl
  | n + 1, i, m, b, m1, b1, s, h0, h1, w => by
    obtain ⟨w1, w2⟩ := w
    show evN a' (fun v => a' (20 + 8 * kind + v)) (5500 + 840 * text + 200) n (i + 1) (ev1 (fun v => a' (20 + 8 * kind + v)) (a' (5500 + 840 * text + 200 + 2 * i)) (a' (5500 + 840 * text + 200 + 2 * i + 1)) s) = evN a (fun v => a (20 + 8 * kind + v)) (5500 + 840 * text + 200) n (i + 1) (ev1 (fun v => a (20 + 8 * kind + v)) (a (5500 + 840 * text + 200 + 2 * i)) (a (5500 + 840 * text + 200 + 2 * i + 1)) s)
    rw [e (5500 + 840 * text + 200 + 2 * i) (by omega), e (5500 + 840 * text + 200 + 2 * i + 1) (by omega)]
    have h2 : ev1 (fun v => a' (20 + 8 * kind + v)) (a (5500 + 840 * text + 200 + 2 * i)) (a (5500 + 840 * text + 200 + 2 * i + 1)) s = ev1 (fun v => a (20 + 8 * kind + v)) (a (5500 + 840 * text + 200 + 2 * i)) (a (5500 + 840 * text + 200 + 2 * i + 1)) s := by
      unfold ev1
      by_cases c : a (5500 + 840 * text + 200 + 2 * i) = 1
      · rw [c] at w1
        unfold ok1 at w1
        rw [c, if_neg (by decide), if_pos rfl, if_neg (by decide), if_pos rfl]
        dsimp only
        rw [e (20 + 8 * kind + a (5500 + 840 * text + 200 + 2 * i + 1)) (by omega)]
      · rw [if_neg c, if_neg c]
    rw [h2]
    exact evN_c e hk ht n (i + 1) _ _ m1 b1 _ (by omega) (by omega) w2
theorem vlN_c (e : eL a a') {kind text i : Int} {n : Nat} {m1 b1 : Int} (hk : 0 ≤ kind ∧ kind ≤ 5) (ht : 0 ≤ text ∧ text < 20) (h0 : 0 ≤ i) (h1 : i + n ≤ 320) (w : wzN a (5500 + 840 * text + 200) n i 0 0 m1 b1) : vlN a' (fun v => a' (20 + 8 * kind + v)) (5500 + 840 * text + 200) n i = vlN a (fun v => a (20 + 8 * kind + v)) (5500 + 840 * text + 200) n i ∧ trN a' (fun v => a' (20 + 8 * kind + v)) (5500 + 840 * text + 200) n i = trN a (fun v => a (20 + 8 * kind + v)) (5500 + 840 * text + 200) n i := by
  unfold vlN trN
  rw [evN_c e hk ht n i 0 0 m1 b1 ([], []) h0 h1 w]
  exact ⟨rfl, rfl⟩
theorem vl_c (e : eL a a') (hC : jv_C a) (hT : jv_T a) (hE : jv_E a) {kind text c : Int} (hk : 0 ≤ kind ∧ kind ≤ 5) (ht : 0 ≤ text ∧ text < a 5) (hc : 0 ≤ c ∧ c < a (5500 + 840 * text)) (h5 : a (5500 + 840 * text + 1 + 8 * c) ≤ 5) : r_vl a' text kind (5500 + 840 * text + 1 + 8 * c) = r_vl a text kind (5500 + 840 * text + 1 + 8 * c) := by
  unfold jv_C at hC
  have q := (hT text ht.1 ht.2).1
  have w := (hE text ht.1 ht.2 c hc.1 hc.2).1 h5
  unfold r_vl
  rw [e (5500 + 840 * text + 1 + 8 * c + 7) (by omega), e (5500 + 840 * text + 1 + 8 * c + 6) (by omega)]
  exact (vlN_c e hk (by omega) w.1.1 (by omega) w.2).1
theorem cts_c (e : eL a a') (hC : jv_C a) (hT : jv_T a) (hE : jv_E a) {kind text c : Int} (hk : 0 ≤ kind ∧ kind ≤ 5) (ht : 0 ≤ text ∧ text < a 5) (hc : 0 ≤ c ∧ c < a (5500 + 840 * text)) : r_cts a' text (5500 + 840 * text + 1 + 8 * c) kind = r_cts a text (5500 + 840 * text + 1 + 8 * c) kind := by
  unfold jv_C at hC
  have q := (hT text ht.1 ht.2).1
  have w := (hE text ht.1 ht.2 c hc.1 hc.2).2
  unfold r_cts
  rw [e (5500 + 840 * text + 1 + 8 * c) (by omega), e (20 + 8 * kind + 5) (by omega), e (5500 + 840 * text + 1 + 8 * c + 1) (by omega), e (5500 + 840 * text + 1 + 8 * c + 5) (by omega), e (5500 + 840 * text + 1 + 8 * c + 4) (by omega)]
  by_cases c1 : a (5500 + 840 * text + 1 + 8 * c) = 2 ∨ a (5500 + 840 * text + 1 + 8 * c) = 3
  · rw [if_pos c1, if_pos c1]
  · rw [if_neg c1, if_neg c1]
    by_cases c2 : a (5500 + 840 * text + 1 + 8 * c) = 4 ∨ a (5500 + 840 * text + 1 + 8 * c) = 5
    · have w := w c2
      rw [if_pos c2, if_pos c2]
      exact (vlN_c e hk (by omega) w.1.1 (by omega) w.2).2
    · rw [if_neg c2, if_neg c2]
theorem p1_c (e : eL a a') (hC : jv_C a) (hT : jv_T a) (hE : jv_E a) {kind text : Int} (hk : 0 ≤ kind ∧ kind ≤ 5) (ht : 0 ≤ text ∧ text < a 5) : ∀ n : Nat, (n : Int) ≤ a (5500 + 840 * text) → r_p1N a' text kind n = r_p1N a text kind n
  | 0, _ => rfl
  | n + 1, hn => by
    have hC' := hC
    unfold jv_C at hC'
    have q := (hT text ht.1 ht.2).1
    have ih := p1_c e hC hT hE hk ht n (by omega)
    unfold r_p1N
    rw [ih, e (5500 + 840 * text + 1 + 8 * (n : Int)) (by omega)]
    by_cases c : a (5500 + 840 * text + 1 + 8 * (n : Int)) = 1
    · rw [if_pos c, if_pos c, vl_c e hC hT hE hk ht (by omega) (by omega)]
    · rw [if_neg c, if_neg c]
theorem p2_c (e : eL a a') (hC : jv_C a) (hT : jv_T a) (hE : jv_E a) {kind text : Int} (hk : 0 ≤ kind ∧ kind ≤ 5) (ht : 0 ≤ text ∧ text < a 5) : ∀ n : Nat, (n : Int) ≤ a (5500 + 840 * text) → r_p2N a' text kind n = r_p2N a text kind n
  | 0, _ => by
    have hC' := hC
    unfold jv_C at hC'
    have q := (hT text ht.1 ht.2).1
    show r_p1 a' text kind (a' (5500 + 840 * text)) = r_p1 a text kind (a (5500 + 840 * text))
    rw [e (5500 + 840 * text) (by omega)]
    exact p1_c e hC hT hE hk ht _ (by omega)
  | n + 1, hn => by
    have hC' := hC
    unfold jv_C at hC'
    have q := (hT text ht.1 ht.2).1
    have q2 := (hT text ht.1 ht.2).2 n (by omega) (by omega)
    have ih := p2_c e hC hT hE hk ht n (by omega)
    unfold r_p2N
    rw [ih, e (5500 + 840 * text + 1 + 8 * (n : Int)) (by omega), cts_c e hC hT hE hk ht (by omega)]
    by_cases c : a (5500 + 840 * text + 1 + 8 * (n : Int)) ≠ 1 ∧ r_cts a text (5500 + 840 * text + 1 + 8 * (n : Int)) kind = true
    · have h5 : a (5500 + 840 * text + 1 + 8 * (n : Int)) ≤ 5 := by
        have c2 := c.2
        unfold r_cts at c2
        by_cases c3 : a (5500 + 840 * text + 1 + 8 * (n : Int)) ≤ 5
        · exact c3
        · rw [if_neg (by omega), if_neg (by omega)] at c2
          cases c2
      rw [if_pos c, if_pos c, vl_c e hC hT hE hk ht (by omega) h5]
    · rw [if_neg c, if_neg c]
theorem pay_c (e : eL a a') (hJ : Jl a) (hT : jv_T a) (hE : jv_E a) {kind mill week known : Int} (hk : 0 ≤ kind ∧ kind ≤ 5) : r_pay a' kind mill week known = r_pay a kind mill week known := by
  unfold r_pay
  rw [fc_g e hJ hT]
  by_cases h : r_fc a 1 mill week known < 0
  · rw [if_pos h, if_pos h]
  · have b := ft_b hJ hT h
    rw [if_neg h, if_neg h, e (5012 + 8 * r_fc a 1 mill week known) (by omega)]
    unfold r_payT r_fr
    have e2 : r_p2 a' (a (5012 + 8 * r_fc a 1 mill week known)) kind (a' (5500 + 840 * a (5012 + 8 * r_fc a 1 mill week known))) = r_p2 a (a (5012 + 8 * r_fc a 1 mill week known)) kind (a (5500 + 840 * a (5012 + 8 * r_fc a 1 mill week known))) := by
      rw [e (5500 + 840 * a (5012 + 8 * r_fc a 1 mill week known)) (by omega)]
      exact p2_c e (lC hJ) hT hE hk b.1 _ (by omega)
    rw [e2, e (5500 + 840 * a (5012 + 8 * r_fc a 1 mill week known)) (by omega), mx_c e (by omega) (by omega)]
theorem jT_c (e : eL a a') (hC : jv_C a) (hT : jv_T a) : jv_T a' := by
  unfold jv_C at hC
  intro n n0 n1
  rw [e 5 (by omega)] at n1
  have q := hT n n0 n1
  rw [e (5500 + 840 * n) (by omega)]
  refine ⟨q.1, fun c c0 c1 => ?_⟩
  have q2 := q.2 c c0 c1
  have q1 := q.1
  rw [e (5500 + 840 * n + 1 + 8 * c) (by omega), e (5500 + 840 * n + 1 + 8 * c + 1) (by omega), e (5500 + 840 * n + 1 + 8 * c + 2) (by omega), e (5500 + 840 * n + 1 + 8 * c + 3) (by omega)]
  exact q2
theorem wzN_c (e : eL a a') {text : Int} (ht : 0 ≤ text ∧ text < 20) : ∀ (n : Nat) (i m b m1 b1 : Int), 0 ≤ i → i + n ≤ 320 → wzN a (5500 + 840 * text + 200) n i m b m1 b1 → wzN a' (5500 + 840 * text + 200) n i m b m1 b1
  | 0, _, _, _, _, _, _, _, w => w
  | n + 1, i, m, b, m1, b1, h0, h1, w => by
    obtain ⟨w1, w2⟩ := w
    unfold wzN
    rw [e (5500 + 840 * text + 200 + 2 * i) (by omega), e (5500 + 840 * text + 200 + 2 * i + 1) (by omega)]
    exact ⟨w1, wzN_c e ht n (i + 1) _ _ m1 b1 (by omega) (by omega) w2⟩
theorem jE_c (e : eL a a') (hC : jv_C a) (hT : jv_T a) (hE : jv_E a) : jv_E a' := by
  unfold jv_C at hC
  intro n n0 n1 c c0 c1
  rw [e 5 (by omega)] at n1
  have q := (hT n n0 n1).1
  rw [e (5500 + 840 * n) (by omega)] at c1
  have w := hE n n0 n1 c c0 c1
  rw [e (5500 + 840 * n + 1 + 8 * c) (by omega), e (5500 + 840 * n + 1 + 8 * c + 4) (by omega), e (5500 + 840 * n + 1 + 8 * c + 5) (by omega), e (5500 + 840 * n + 1 + 8 * c + 6) (by omega), e (5500 + 840 * n + 1 + 8 * c + 7) (by omega)]
  refine ⟨fun h => ?_, fun h => ?_⟩
  · have w := w.1 h
    exact ⟨w.1, wzN_c e (by omega) _ _ _ _ _ _ w.1.1 (by omega) w.2⟩
  · have w := w.2 h
    exact ⟨w.1, wzN_c e (by omega) _ _ _ _ _ _ w.1.1 (by omega) w.2⟩
theorem jF_c (e : eL a a') (hC : jv_C a) (hF : jv_F a) : jv_F a' := by
  unfold jv_C at hC
  intro f f0 f1
  rw [e 6 (by omega)] at f1
  have q := hF f f0 f1
  rw [e (5012 + 8 * f) (by omega), e (5012 + 8 * f + 1) (by omega), e (5012 + 8 * f + 2) (by omega), e (5012 + 8 * f + 3) (by omega), e (5012 + 8 * f + 4) (by omega), e 5 (by omega)]
  exact q
end CL
