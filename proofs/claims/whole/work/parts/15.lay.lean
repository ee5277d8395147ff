/-! ===== the layout of the cells that the constructors make; printed by wip/whole/zlay.py ===== -/
def lyT : List (Nat × Nat) := [(0, 0), (111, 0), (108, 0), (104, 0), (0, 36), (104, 0), (0, 3208), (104, 0), (0, 104), (104, 0), (0, 20), (104, 0), (0, 192), (104, 0), (0, 540), (104, 0), (0, 480), (104, 0), (0, 305), (108, 0), (104, 0), (0, 36), (104, 0), (0, 3208), (104, 0), (0, 104), (104, 0), (0, 20), (104, 0), (0, 192), (104, 0), (0, 540), (104, 0), (0, 480), (104, 0), (0, 305), (108, 0), (104, 0), (0, 36), (104, 0), (0, 3208), (104, 0), (0, 104), (104, 0), (0, 20), (104, 0), (0, 192), (104, 0), (0, 540), (104, 0), (0, 480), (104, 0), (0, 305), (109, 0), (101, 0), (10, 20), (1, 64), (1, 64), (100, 0), (13, 400), (0, 60), (0, 60), (0, 48), (103, 0), (0, 301), (0, 301), (0, 301), (105, 0), (1, 576), (0, 24), (1, 216), (1, 216), (0, 9), (0, 8), (0, 8), (0, 8), (1, 24), (102, 0), (0, 4), (106, 0), (0, 192), (0, 192), (0, 300), (112, 0), (0, 112300), (0, 112300), (0, 112300), (0, 300), (0, 160), (1, 320), (1, 320), (2, 320), (0, 24), (0, 60), (0, 60), (0, 24), (1, 576), (1, 24), (0, 24), (0, 192)]
def lrT : List (Nat × Nat × Nat) := [(1, 0, 2), (1, 1, 19), (1, 2, 36), (1, 3, 53), (1, 4, 54), (1, 5, 58), (1, 6, 63), (1, 7, 67), (1, 8, 77), (1, 9, 79), (1, 10, 82), (2, 0, 3), (2, 1, 5), (2, 2, 7), (2, 3, 9), (2, 4, 11), (2, 5, 13), (2, 6, 15), (2, 7, 17), (3, 1, 4), (5, 1, 6), (7, 1, 8), (9, 1, 10), (11, 1, 12), (13, 1, 14), (15, 1, 16), (17, 1, 18), (19, 0, 20), (19, 1, 22), (19, 2, 24), (19, 3, 26), (19, 4, 28), (19, 5, 30), (19, 6, 32), (19, 7, 34), (20, 1, 21), (22, 1, 23), (24, 1, 25), (26, 1, 27), (28, 1, 29), (30, 1, 31), (32, 1, 33), (34, 1, 35), (36, 0, 37), (36, 1, 39), (36, 2, 41), (36, 3, 43), (36, 4, 45), (36, 5, 47), (36, 6, 49), (36, 7, 51), (37, 1, 38), (39, 1, 40), (41, 1, 42), (43, 1, 44), (45, 1, 46), (47, 1, 48), (49, 1, 50), (51, 1, 52), (53, 0, 54), (53, 1, 58), (53, 2, 60), (53, 3, 61), (53, 4, 62), (54, 0, 55), (54, 1, 56), (54, 2, 57), (58, 0, 59), (63, 0, 64), (63, 1, 65), (63, 2, 66), (67, 0, 68), (67, 1, 69), (67, 2, 70), (67, 3, 71), (67, 4, 72), (67, 5, 73), (67, 6, 74), (67, 7, 75), (67, 8, 76), (77, 0, 78), (79, 0, 80), (79, 1, 81), (83, 0, 84), (83, 1, 85), (83, 2, 86), (83, 3, 87), (83, 15, 88), (83, 19, 89), (83, 20, 90), (83, 21, 91), (83, 26, 92), (83, 32, 93), (83, 33, 94), (83, 34, 95), (83, 35, 96), (83, 36, 97), (83, 40, 98), (83, 41, 99)]
/-- tables: their cell, width, most rows -/
def lwT : List (Nat × Nat × Nat) := [(3, 6, 6), (5, 401, 8), (7, 13, 8), (9, 5, 4), (11, 8, 24), (13, 9, 60), (15, 6, 80), (17, 5, 61), (20, 6, 6), (22, 401, 8), (24, 13, 8), (26, 5, 4), (28, 8, 24), (30, 9, 60), (32, 6, 80), (34, 5, 61), (37, 6, 6), (39, 401, 8), (41, 13, 8), (43, 5, 4), (45, 8, 24), (47, 9, 60), (49, 6, 80), (51, 5, 61)]
def isR (c : Nat) : Bool := c ∈ [3, 5, 7, 9, 11, 13, 15, 17, 20, 22, 24, 26, 28, 30, 32, 34, 37, 39, 41, 43, 45, 47, 49, 51]
def tw (t : Nat) : Prop := t = 2 ∨ t = 19 ∨ t = 36
theorem tw_2 : tw 2 := Or.inl rfl
theorem tw_19 : tw 19 := Or.inr (Or.inl rfl)
theorem tw_36 : tw 36 := Or.inr (Or.inr rfl)
theorem tw_b {t : Nat} (h : tw t) : 2 ≤ t ∧ t ≤ 36 := by unfold tw at h; omega
theorem lyt_0 {t : Nat} (h : tw t) : lyT[t + 0]? = some (108, 0) := by rcases h with rfl | rfl | rfl <;> rfl
theorem ln_0 {t : Nat} (h : tw t) : isR (t + 0) = false := by rcases h with rfl | rfl | rfl <;> rfl
theorem lyt_1 {t : Nat} (h : tw t) : lyT[t + 1]? = some (104, 0) := by rcases h with rfl | rfl | rfl <;> rfl
theorem ln_1 {t : Nat} (h : tw t) : isR (t + 1) = true := by rcases h with rfl | rfl | rfl <;> rfl
theorem lwt_1 {t : Nat} (h : tw t) : (t + 1, 6, 6) ∈ lwT := by rcases h with rfl | rfl | rfl <;> decide
theorem lrr_1 {t : Nat} (h : tw t) : (t + 1, 1, t + 1 + 1) ∈ lrT := by rcases h with rfl | rfl | rfl <;> decide
theorem lyt_2 {t : Nat} (h : tw t) : lyT[t + 2]? = some (0, 36) := by rcases h with rfl | rfl | rfl <;> rfl
theorem ln_2 {t : Nat} (h : tw t) : isR (t + 2) = false := by rcases h with rfl | rfl | rfl <;> rfl
theorem lyt_3 {t : Nat} (h : tw t) : lyT[t + 3]? = some (104, 0) := by rcases h with rfl | rfl | rfl <;> rfl
theorem ln_3 {t : Nat} (h : tw t) : isR (t + 3) = true := by rcases h with rfl | rfl | rfl <;> rfl
theorem lwt_3 {t : Nat} (h : tw t) : (t + 3, 401, 8) ∈ lwT := by rcases h with rfl | rfl | rfl <;> decide
theorem lrr_3 {t : Nat} (h : tw t) : (t + 3, 1, t + 3 + 1) ∈ lrT := by rcases h with rfl | rfl | rfl <;> decide
theorem lyt_4 {t : Nat} (h : tw t) : lyT[t + 4]? = some (0, 3208) := by rcases h with rfl | rfl | rfl <;> rfl
theorem ln_4 {t : Nat} (h : tw t) : isR (t + 4) = false := by rcases h with rfl | rfl | rfl <;> rfl
theorem lyt_5 {t : Nat} (h : tw t) : lyT[t + 5]? = some (104, 0) := by rcases h with rfl | rfl | rfl <;> rfl
theorem ln_5 {t : Nat} (h : tw t) : isR (t + 5) = true := by rcases h with rfl | rfl | rfl <;> rfl
theorem lwt_5 {t : Nat} (h : tw t) : (t + 5, 13, 8) ∈ lwT := by rcases h with rfl | rfl | rfl <;> decide
theorem lrr_5 {t : Nat} (h : tw t) : (t + 5, 1, t + 5 + 1) ∈ lrT := by rcases h with rfl | rfl | rfl <;> decide
theorem lyt_6 {t : Nat} (h : tw t) : lyT[t + 6]? = some (0, 104) := by rcases h with rfl | rfl | rfl <;> rfl
theorem ln_6 {t : Nat} (h : tw t) : isR (t + 6) = false := by rcases h with rfl | rfl | rfl <;> rfl
theorem lyt_7 {t : Nat} (h : tw t) : lyT[t + 7]? = some (104, 0) := by rcases h with rfl | rfl | rfl <;> rfl
theorem ln_7 {t : Nat} (h : tw t) : isR (t + 7) = true := by rcases h with rfl | rfl | rfl <;> rfl
theorem lwt_7 {t : Nat} (h : tw t) : (t + 7, 5, 4) ∈ lwT := by rcases h with rfl | rfl | rfl <;> decide
theorem lrr_7 {t : Nat} (h : tw t) : (t + 7, 1, t + 7 + 1) ∈ lrT := by rcases h with rfl | rfl | rfl <;> decide
theorem lyt_8 {t : Nat} (h : tw t) : lyT[t + 8]? = some (0, 20) := by rcases h with rfl | rfl | rfl <;> rfl
theorem ln_8 {t : Nat} (h : tw t) : isR (t + 8) = false := by rcases h with rfl | rfl | rfl <;> rfl
theorem lyt_9 {t : Nat} (h : tw t) : lyT[t + 9]? = some (104, 0) := by rcases h with rfl | rfl | rfl <;> rfl
theorem ln_9 {t : Nat} (h : tw t) : isR (t + 9) = true := by rcases h with rfl | rfl | rfl <;> rfl
theorem lwt_9 {t : Nat} (h : tw t) : (t + 9, 8, 24) ∈ lwT := by rcases h with rfl | rfl | rfl <;> decide
theorem lrr_9 {t : Nat} (h : tw t) : (t + 9, 1, t + 9 + 1) ∈ lrT := by rcases h with rfl | rfl | rfl <;> decide
theorem lyt_10 {t : Nat} (h : tw t) : lyT[t + 10]? = some (0, 192) := by rcases h with rfl | rfl | rfl <;> rfl
theorem ln_10 {t : Nat} (h : tw t) : isR (t + 10) = false := by rcases h with rfl | rfl | rfl <;> rfl
theorem lyt_11 {t : Nat} (h : tw t) : lyT[t + 11]? = some (104, 0) := by rcases h with rfl | rfl | rfl <;> rfl
theorem ln_11 {t : Nat} (h : tw t) : isR (t + 11) = true := by rcases h with rfl | rfl | rfl <;> rfl
theorem lwt_11 {t : Nat} (h : tw t) : (t + 11, 9, 60) ∈ lwT := by rcases h with rfl | rfl | rfl <;> decide
theorem lrr_11 {t : Nat} (h : tw t) : (t + 11, 1, t + 11 + 1) ∈ lrT := by rcases h with rfl | rfl | rfl <;> decide
theorem lyt_12 {t : Nat} (h : tw t) : lyT[t + 12]? = some (0, 540) := by rcases h with rfl | rfl | rfl <;> rfl
theorem ln_12 {t : Nat} (h : tw t) : isR (t + 12) = false := by rcases h with rfl | rfl | rfl <;> rfl
theorem lyt_13 {t : Nat} (h : tw t) : lyT[t + 13]? = some (104, 0) := by rcases h with rfl | rfl | rfl <;> rfl
theorem ln_13 {t : Nat} (h : tw t) : isR (t + 13) = true := by rcases h with rfl | rfl | rfl <;> rfl
theorem lwt_13 {t : Nat} (h : tw t) : (t + 13, 6, 80) ∈ lwT := by rcases h with rfl | rfl | rfl <;> decide
theorem lrr_13 {t : Nat} (h : tw t) : (t + 13, 1, t + 13 + 1) ∈ lrT := by rcases h with rfl | rfl | rfl <;> decide
theorem lyt_14 {t : Nat} (h : tw t) : lyT[t + 14]? = some (0, 480) := by rcases h with rfl | rfl | rfl <;> rfl
theorem ln_14 {t : Nat} (h : tw t) : isR (t + 14) = false := by rcases h with rfl | rfl | rfl <;> rfl
theorem lyt_15 {t : Nat} (h : tw t) : lyT[t + 15]? = some (104, 0) := by rcases h with rfl | rfl | rfl <;> rfl
theorem ln_15 {t : Nat} (h : tw t) : isR (t + 15) = true := by rcases h with rfl | rfl | rfl <;> rfl
theorem lwt_15 {t : Nat} (h : tw t) : (t + 15, 5, 61) ∈ lwT := by rcases h with rfl | rfl | rfl <;> decide
theorem lrr_15 {t : Nat} (h : tw t) : (t + 15, 1, t + 15 + 1) ∈ lrT := by rcases h with rfl | rfl | rfl <;> decide
theorem lyt_16 {t : Nat} (h : tw t) : lyT[t + 16]? = some (0, 305) := by rcases h with rfl | rfl | rfl <;> rfl
theorem ln_16 {t : Nat} (h : tw t) : isR (t + 16) = false := by rcases h with rfl | rfl | rfl <;> rfl
theorem lrt_0 {t : Nat} (h : tw t) : (t, 0, t + 1) ∈ lrT := by rcases h with rfl | rfl | rfl <;> decide
theorem lrt_1 {t : Nat} (h : tw t) : (t, 1, t + 3) ∈ lrT := by rcases h with rfl | rfl | rfl <;> decide
theorem lrt_2 {t : Nat} (h : tw t) : (t, 2, t + 5) ∈ lrT := by rcases h with rfl | rfl | rfl <;> decide
theorem lrt_3 {t : Nat} (h : tw t) : (t, 3, t + 7) ∈ lrT := by rcases h with rfl | rfl | rfl <;> decide
theorem lrt_4 {t : Nat} (h : tw t) : (t, 4, t + 9) ∈ lrT := by rcases h with rfl | rfl | rfl <;> decide
theorem lrt_5 {t : Nat} (h : tw t) : (t, 5, t + 11) ∈ lrT := by rcases h with rfl | rfl | rfl <;> decide
theorem lrt_6 {t : Nat} (h : tw t) : (t, 6, t + 13) ∈ lrT := by rcases h with rfl | rfl | rfl <;> decide
theorem lrt_7 {t : Nat} (h : tw t) : (t, 7, t + 15) ∈ lrT := by rcases h with rfl | rfl | rfl <;> decide
abbrev oK (S : zS) (i kd n : Nat) : Prop := 0 < i ∧ i < S.1 ∧ S.2.2.1 i = (kd, n)
def zLay (S : zS) : Prop := 100 ≤ S.1 ∧ (∀ c, 0 < c → c < 100 → some (S.2.2.1 c) = lyT[c]?) ∧ ∀ q ∈ lrT, S.2.2.2 q.1 q.2.1 = some q.2.2
def kO (S : zS) (σ τ : zI) : Prop := zLay S ∧ (∀ c k, rg (σ c k)) ∧ (∀ c k, rj (τ c k)) ∧ ∀ q ∈ lwT, σ q.1 0 = q.2.1 ∧ 0 ≤ σ q.1 2 ∧ σ q.1 2 ≤ q.2.2
theorem kO_r {S : zS} {σ τ : zI} (K : kO S σ τ) (c : Nat) (k : Int) : rg (σ c k) := K.2.1 c k
theorem kO_j {S : zS} {σ τ : zI} (K : kO S σ τ) (c : Nat) (k : Int) : rj (τ c k) := K.2.2.1 c k
theorem isR_of {q : Nat × Nat × Nat} (h : q ∈ lwT) : isR q.1 = true := by
  have : ∀ q ∈ lwT, isR q.1 = true := by decide
  exact this q h
theorem kO_w {S : zS} {σ τ : zI} {c : Nat} {f : Int → Int} (K : kO S σ τ) (hf : ∀ k, rg (f k)) (hc : isR c = false) : kO S (uc σ c f) τ := by
  refine ⟨K.1, fun a k => ?_, K.2.2.1, fun q hq => ?_⟩
  · unfold uc
    split
    · exact hf k
    · exact K.2.1 a k
  · have h1 : q.1 ≠ c := by
      intro e
      have := isR_of hq
      rw [e, hc] at this
      cases this
    rw [uc_n h1]
    exact K.2.2.2 q hq
theorem kO_w1 {S : zS} {σ τ : zI} {c : Nat} {e w : Int} (K : kO S σ τ) (hw : rg w) (hc : isR c = false) : kO S (uc σ c (u1 (σ c) e w)) τ := by
  refine kO_w K (fun k => ?_) hc
  unfold u1
  split
  · exact hw
  · exact K.2.1 c k
theorem kO_j1 {S : zS} {σ τ : zI} {c : Nat} {e w : Int} (K : kO S σ τ) (hw : rj w) : kO S σ (uc τ c (u1 (τ c) e w)) := by
  refine ⟨K.1, K.2.1, fun a k => ?_, K.2.2.2⟩
  unfold uc u1
  split
  · dsimp only
    split
    · exact hw
    · exact K.2.2.1 c k
  · exact K.2.2.1 a k
theorem kO_jw {S : zS} {σ τ : zI} {c : Nat} {f : Int → Int} (K : kO S σ τ) (hf : ∀ k, rj (f k)) : kO S σ (uc τ c f) := by
  refine ⟨K.1, K.2.1, fun a k => ?_, K.2.2.2⟩
  unfold uc
  split
  · exact hf k
  · exact K.2.2.1 a k
theorem lo {S : zS} {σ τ : zI} {c kd n : Nat} (h : lyT[c]? = some (kd, n)) (h0 : 0 < c) : kO S σ τ → oK S c kd n := by
  intro K
  have hc : c < 100 := by
    have := (List.getElem?_eq_some_iff.mp h).1
    have e : lyT.length = 100 := by decide
    omega
  have := K.1.2.1 c h0 hc
  rw [h] at this
  exact ⟨h0, Nat.lt_of_lt_of_le hc K.1.1, Option.some.inj this⟩
theorem lro {S : zS} {σ τ : zI} {c k j : Nat} (h : (c, k, j) ∈ lrT) : kO S σ τ → S.2.2.2 c k = some j := fun K => K.1.2.2 _ h
theorem oK_ok {S : zS} {σ τ : zI} {i kd n : Nat} (h : oK S i kd n) : ab_ok (hp S σ τ) i kd = true := by
  unfold ab_ok
  rw [Bool.and_eq_true, Bool.and_eq_true]
  refine ⟨⟨decide_eq_true h.1, decide_eq_true h.2.1⟩, decide_eq_true ?_⟩
  show (S.2.2.1 i).1 = kd
  rw [h.2.2]
theorem oK_len {S : zS} {σ τ : zI} {i kd n : Nat} (h : oK S i kd n) : (ab_s (hp S σ τ) i).2 = n := by
  show (S.2.2.1 i).2 = n
  rw [h.2.2]
abbrev zQ : Type := Option Value → zS → zI → zI → Prop
def qz (Q : zQ) : Option Value → ab_H → Prop := fun r h' => ∃ S' σ' τ', h' = hp S' σ' τ' ∧ kO S' σ' τ' ∧ Q r S' σ' τ'
def wi (d M pc : Nat) (L st : List Value) (S : zS) (σ τ : zI) (Q : zQ) : Prop := kO S σ τ → wq d M pc L st (hp S σ τ) (qz Q)
def wc (d M : Nat) (As : List Value) (S : zS) (σ τ : zI) (Q : zQ) : Prop := kO S σ τ → wm d M As (hp S σ τ) (qz Q)
theorem wi_ok {d M pc : Nat} {L st : List Value} {S : zS} {σ τ : zI} {Q : zQ} (t : kO S σ τ → wi d M pc L st S σ τ Q) : wi d M pc L st S σ τ Q := fun K => t K K
theorem wc_ok {d M : Nat} {As : List Value} {S : zS} {σ τ : zI} {Q : zQ} (t : kO S σ τ → wc d M As S σ τ Q) : wc d M As S σ τ Q := fun K => t K K
theorem wi_to {d M pc : Nat} {L st : List Value} {S : zS} {σ τ : zI} {Q Q' : zQ} (k : wi d M pc L st S σ τ Q) (hQ : ∀ r S' σ' τ', kO S' σ' τ' → Q r S' σ' τ' → Q' r S' σ' τ') : wi d M pc L st S σ τ Q' := fun K => wq_to (k K) (by
  rintro r h' ⟨S', σ', τ', e, K', q⟩
  exact ⟨S', σ', τ', e, K', hQ _ _ _ _ K' q⟩)
theorem wc_to {d M : Nat} {As : List Value} {S : zS} {σ τ : zI} {Q Q' : zQ} (k : wc d M As S σ τ Q) (hQ : ∀ r S' σ' τ', kO S' σ' τ' → Q r S' σ' τ' → Q' r S' σ' τ') : wc d M As S σ τ Q' := fun K => wq_to (k K) (by
  rintro r h' ⟨S', σ', τ', e, K', q⟩
  exact ⟨S', σ', τ', e, K', hQ _ _ _ _ K' q⟩)
theorem iT {c A B : Prop} [Decidable c] (t : if c then A else B) (h : c) : A := by rwa [if_pos h] at t
theorem iF {c A B : Prop} [Decidable c] (t : if c then A else B) (h : ¬ c) : B := by rwa [if_neg h] at t
def zc (k : Nat) (x y : Int) : Prop := match k with
  | 0 => x = y
  | 1 => ¬ x = y
  | 2 => x < y
  | 3 => y ≤ x
  | 4 => y < x
  | _ => x ≤ y
theorem zc_iff {k : Nat} {x y : Int} (hx : rg x) (hy : rg y) : ab_cond k (wI x) (wI y) = true ↔ zc k x y := by
  unfold ab_cond zc
  split <;> simp only [decide_eq_true_eq, wI_inj hx hy, wI_lt hx hy, wI_le hx hy, wI_lt hy hx, wI_le hy hx]
theorem lg_iff {k : Nat} {x y : Int} (hx : rj x) (hy : rj y) : ab_cond k (lg_cmp (wJ x) (wJ y)) 0 = true ↔ zc k x y := by
  unfold ab_cond zc
  split <;> simp only [decide_eq_true_eq, lg_cmp_eq, lg_cmp_lt, lg_cmp_ge, lg_cmp_gt, lg_cmp_le, wJ_inj hx hy, wJ_lt hx hy, wJ_le hx hy, wJ_lt hy hx, wJ_le hy hx]
section ZR
variable {d M pc : Nat} {L st L' : List Value} {S : zS} {σ τ σ1 τ1 : zI} {Q : zQ} {a b k : Nat} {z : Int}
theorem i1 (hI : pg_cd M pc = (1, a, b, k, z)) (t : wi d M (pc + a) L (.int (wI z) :: st) S σ τ Q) : wi d M pc L st S σ τ Q := fun K => g1 hI rfl (t K)
theorem i2 (hI : pg_cd M pc = (2, a, b, k, z)) (t : wi d M (pc + a) L (.long (wJ z) :: st) S σ τ Q) : wi d M pc L st S σ τ Q := fun K => g2 hI rfl (t K)
theorem i3 {x : Int} (hI : pg_cd M pc = (3, a, b, k, z)) (hL : L[k]? = some (.int (wI x))) (t : wi d M (pc + a) L (.int (wI x) :: st) S σ τ Q) : wi d M pc L st S σ τ Q := fun K => g3 hI hL (t K)
theorem i4 {x : Int} (hI : pg_cd M pc = (4, a, b, k, z)) (hL : L[k]? = some (.long (wJ x))) (t : wi d M (pc + a) L (.long (wJ x) :: st) S σ τ Q) : wi d M pc L st S σ τ Q := fun K => g4 hI hL (t K)
theorem i5 {x : Nat} (hI : pg_cd M pc = (5, a, b, k, z)) (hL : L[k]? = some (.ref x)) (t : wi d M (pc + a) L (.ref x :: st) S σ τ Q) : wi d M pc L st S σ τ Q := fun K => g5 hI hL (t K)
theorem i5n (hI : pg_cd M pc = (5, a, b, k, z)) (hL : L[k]? = some .null) (t : wi d M (pc + a) L (.null :: st) S σ τ Q) : wi d M pc L st S σ τ Q := fun K => g5n hI hL (t K)
theorem i6 {x : Int} (hI : pg_cd M pc = (6, a, b, k, z)) (hL : ab_st1 L k (.int (wI x)) = some L') (t : wi d M (pc + a) L' st S σ τ Q) : wi d M pc L (.int (wI x) :: st) S σ τ Q := fun K => g6 hI hL (t K)
theorem i6w {x : Int} (hI : pg_cd M pc = (6, a, b, k, z)) (w : Int) (hw : wI w = wI x) (hL : ab_st1 L k (.int (wI w)) = some L') (t : wi d M (pc + a) L' st S σ τ Q) : wi d M pc L (.int (wI x) :: st) S σ τ Q := fun K => g6 hI (by rw [← hw]; exact hL) (t K)
theorem i7 {x : Int} (hI : pg_cd M pc = (7, a, b, k, z)) (hL : ab_st2 L k (.long (wJ x)) = some L') (t : wi d M (pc + a) L' st S σ τ Q) : wi d M pc L (.long (wJ x) :: st) S σ τ Q := fun K => g7 hI hL (t K)
theorem i8 {x : Nat} (hI : pg_cd M pc = (8, a, b, k, z)) (hL : ab_st1 L k (.ref x) = some L') (t : wi d M (pc + a) L' st S σ τ Q) : wi d M pc L (.ref x :: st) S σ τ Q := fun K => g8 hI hL (t K)
theorem i8n (hI : pg_cd M pc = (8, a, b, k, z)) (hL : ab_st1 L k .null = some L') (t : wi d M (pc + a) L' st S σ τ Q) : wi d M pc L (.null :: st) S σ τ Q := fun K => g8n hI hL (t K)
theorem i9 {x : Int} (hI : pg_cd M pc = (9, a, b, k, z)) (hx : L[k]? = some (.int (wI x))) (hL : ab_st1 L k (.int (wI (x + z))) = some L') (t : wi d M (pc + 3) L' st S σ τ Q) : wi d M pc L st S σ τ Q := fun K => g9 hI hx (y := wI z) rfl (by rw [wI_add]; exact hL) (t K)
theorem i10 {x y : Int} (hI : pg_cd M pc = (10, a, b, k, z)) (t : wi d M (pc + 1) L (.int (wI (x + y)) :: st) S σ τ Q) : wi d M pc L (.int (wI y) :: .int (wI x) :: st) S σ τ Q := fun K => g10 hI (by rw [wI_add]; exact t K)
theorem i11 {x y : Int} (hI : pg_cd M pc = (11, a, b, k, z)) (t : wi d M (pc + 1) L (.int (wI (x - y)) :: st) S σ τ Q) : wi d M pc L (.int (wI y) :: .int (wI x) :: st) S σ τ Q := fun K => g11 hI (by rw [wI_sub]; exact t K)
theorem i12 {x y : Int} (hI : pg_cd M pc = (12, a, b, k, z)) (t : wi d M (pc + 1) L (.int (wI (x * y)) :: st) S σ τ Q) : wi d M pc L (.int (wI y) :: .int (wI x) :: st) S σ τ Q := fun K => g12 hI (by rw [wI_mul]; exact t K)
theorem i13 {x y : Int} (hI : pg_cd M pc = (13, a, b, k, z)) (t : wi d M (pc + 1) L (.int (wI (zand x y)) :: st) S σ τ Q) : wi d M pc L (.int (wI y) :: .int (wI x) :: st) S σ τ Q := fun K => g13 hI (by have := t K; unfold zand at this; rw [wI_toInt] at this; exact this)
theorem i14 {x y : Int} (hI : pg_cd M pc = (14, a, b, k, z)) (t : wi d M (pc + 1) L (.int (wI (zor x y)) :: st) S σ τ Q) : wi d M pc L (.int (wI y) :: .int (wI x) :: st) S σ τ Q := fun K => g14 hI (by have := t K; unfold zor at this; rw [wI_toInt] at this; exact this)
theorem i15 {x y : Int} (hI : pg_cd M pc = (15, a, b, k, z)) (t : wi d M (pc + 1) L (.int (wI (zxor x y)) :: st) S σ τ Q) : wi d M pc L (.int (wI y) :: .int (wI x) :: st) S σ τ Q := fun K => g15 hI (by have := t K; unfold zxor at this; rw [wI_toInt] at this; exact this)
theorem i18 {x y : Int} (hI : pg_cd M pc = (18, a, b, k, z)) (t : wi d M (pc + 1) L (.int (wI (zshl x y)) :: st) S σ τ Q) : wi d M pc L (.int (wI y) :: .int (wI x) :: st) S σ τ Q := fun K => g18 hI (by have := t K; unfold zshl at this; rw [wI_toInt] at this; exact this)
theorem i19 {x y : Int} (hI : pg_cd M pc = (19, a, b, k, z)) (t : wi d M (pc + 1) L (.int (wI (zshr x y)) :: st) S σ τ Q) : wi d M pc L (.int (wI y) :: .int (wI x) :: st) S σ τ Q := fun K => g19 hI (by have := t K; unfold zshr at this; rw [wI_toInt] at this; exact this)
theorem i20 {x y : Int} (hI : pg_cd M pc = (20, a, b, k, z)) (t : wi d M (pc + 1) L (.int (wI (zush x y)) :: st) S σ τ Q) : wi d M pc L (.int (wI y) :: .int (wI x) :: st) S σ τ Q := fun K => g20 hI (by have := t K; unfold zush at this; rw [wI_toInt] at this; exact this)
theorem wI_ne0 {y : Int} (ry : rg y) (hy : y ≠ 0) : ¬ wI y = 0 := fun e => hy ((wI_inj ry (by decide)).mp e)
theorem wJ_ne0 {y : Int} (ry : rj y) (hy : y ≠ 0) : ¬ wJ y = 0 := fun e => hy ((wJ_inj ry (by decide)).mp e)
theorem i16 {x y : Int} (hI : pg_cd M pc = (16, a, b, k, z)) (rx : rg x) (ry : rg y) (hy : y ≠ 0) (t : wi d M (pc + 1) L (.int (wI (x.tdiv y)) :: st) S σ τ Q) : wi d M pc L (.int (wI y) :: .int (wI x) :: st) S σ τ Q := fun K => g16 hI (wI_ne0 ry hy) (by rw [wI_div rx ry]; exact t K)
theorem i17 {x y : Int} (hI : pg_cd M pc = (17, a, b, k, z)) (rx : rg x) (ry : rg y) (hy : y ≠ 0) (t : wi d M (pc + 1) L (.int (wI (x.tmod y)) :: st) S σ τ Q) : wi d M pc L (.int (wI y) :: .int (wI x) :: st) S σ τ Q := fun K => g17 hI (wI_ne0 ry hy) (by
  rw [wI_div rx ry, wI_mul, wI_sub]
  have e : x - x.tdiv y * y = x.tmod y := by rw [Int.tmod_def, Int.mul_comm]
  rw [e]; exact t K)
theorem i21 {x : Int} (hI : pg_cd M pc = (21, a, b, k, z)) (t : wi d M (pc + 1) L (.int (wI (-x)) :: st) S σ τ Q) : wi d M pc L (.int (wI x) :: st) S σ τ Q := fun K => g21 hI (by rw [wI_neg]; exact t K)
theorem i22 {x y : Int} (hI : pg_cd M pc = (22, a, b, k, z)) (t : wi d M (pc + 1) L (.long (wJ (x + y)) :: st) S σ τ Q) : wi d M pc L (.long (wJ y) :: .long (wJ x) :: st) S σ τ Q := fun K => g22 hI (by rw [wJ_add]; exact t K)
theorem i23 {x y : Int} (hI : pg_cd M pc = (23, a, b, k, z)) (t : wi d M (pc + 1) L (.long (wJ (x - y)) :: st) S σ τ Q) : wi d M pc L (.long (wJ y) :: .long (wJ x) :: st) S σ τ Q := fun K => g23 hI (by rw [wJ_sub]; exact t K)
theorem i24 {x y : Int} (hI : pg_cd M pc = (24, a, b, k, z)) (t : wi d M (pc + 1) L (.long (wJ (x * y)) :: st) S σ τ Q) : wi d M pc L (.long (wJ y) :: .long (wJ x) :: st) S σ τ Q := fun K => g24 hI (by rw [wJ_mul]; exact t K)
theorem i25 {x y : Int} (hI : pg_cd M pc = (25, a, b, k, z)) (t : wi d M (pc + 1) L (.long (wJ (jor x y)) :: st) S σ τ Q) : wi d M pc L (.long (wJ y) :: .long (wJ x) :: st) S σ τ Q := fun K => g25 hI (by have := t K; unfold jor at this; rw [wJ_toInt] at this; exact this)
theorem i26 {x y : Int} (hI : pg_cd M pc = (26, a, b, k, z)) (rx : rj x) (ry : rj y) (hy : y ≠ 0) (t : wi d M (pc + 1) L (.long (wJ (x.tdiv y)) :: st) S σ τ Q) : wi d M pc L (.long (wJ y) :: .long (wJ x) :: st) S σ τ Q := fun K => g26 hI (wJ_ne0 ry hy) (by rw [wJ_div rx ry]; exact t K)
theorem i27 {x y : Int} (hI : pg_cd M pc = (27, a, b, k, z)) (rx : rj x) (ry : rj y) (hy : y ≠ 0) (t : wi d M (pc + 1) L (.long (wJ (x.tmod y)) :: st) S σ τ Q) : wi d M pc L (.long (wJ y) :: .long (wJ x) :: st) S σ τ Q := fun K => g27 hI (wJ_ne0 ry hy) (by
  rw [wJ_div rx ry, wJ_mul, wJ_sub]
  have e : x - x.tdiv y * y = x.tmod y := by rw [Int.tmod_def, Int.mul_comm]
  rw [e]; exact t K)
theorem i28 {x y : Int} (hI : pg_cd M pc = (28, a, b, k, z)) (t : wi d M (pc + 1) L (.int (lg_cmp (wJ x) (wJ y)) :: st) S σ τ Q) : wi d M pc L (.long (wJ y) :: .long (wJ x) :: st) S σ τ Q := fun K => g28 hI (t K)
theorem i29 {x : Int} (hI : pg_cd M pc = (29, a, b, k, z)) (t : wi d M (pc + 1) L (.long (wJ (-x)) :: st) S σ τ Q) : wi d M pc L (.long (wJ x) :: st) S σ τ Q := fun K => g29 hI (by rw [wJ_neg]; exact t K)
theorem i30 {x : Int} (hI : pg_cd M pc = (30, a, b, k, z)) (t : wi d M (pc + 1) L (.int (wI x) :: st) S σ τ Q) : wi d M pc L (.long (wJ x) :: st) S σ τ Q := fun K => g30 hI (by rw [wJ_i]; exact t K)
theorem i31 {x : Int} (hI : pg_cd M pc = (31, a, b, k, z)) (rx : rg x) (t : wi d M (pc + 1) L (.long (wJ x) :: st) S σ τ Q) : wi d M pc L (.int (wI x) :: st) S σ τ Q := fun K => g31 hI (by rw [wI_l rx]; exact t K)
theorem i32 {x y : Int} (hI : pg_cd M pc = (32, a, b, k, z)) (t : wi d M (pc + 1) L (.long (wJ (jshl x y)) :: st) S σ τ Q) : wi d M pc L (.int (wI y) :: .long (wJ x) :: st) S σ τ Q := fun K => g32 hI (by have := t K; unfold jshl at this; rw [wJ_toInt] at this; exact this)
theorem i33i {x : Int32} (hI : pg_cd M pc = (33, a, b, k, z)) (t : wi d M (pc + 1) L (.int x :: .int x :: st) S σ τ Q) : wi d M pc L (.int x :: st) S σ τ Q := fun K => g33i hI (t K)
theorem i33a {x : Nat} (hI : pg_cd M pc = (33, a, b, k, z)) (t : wi d M (pc + 1) L (.ref x :: .ref x :: st) S σ τ Q) : wi d M pc L (.ref x :: st) S σ τ Q := fun K => g33a hI (t K)
theorem i34a {x : Int32} {y : Nat} (hI : pg_cd M pc = (34, a, b, k, z)) (t : wi d M (pc + 1) L (.int x :: .ref y :: .int x :: .ref y :: st) S σ τ Q) : wi d M pc L (.int x :: .ref y :: st) S σ τ Q := fun K => g34a hI (t K)
theorem i34i {x y : Int32} (hI : pg_cd M pc = (34, a, b, k, z)) (t : wi d M (pc + 1) L (.int x :: .int y :: .int x :: .int y :: st) S σ τ Q) : wi d M pc L (.int x :: .int y :: st) S σ τ Q := fun K => g34i hI (t K)
theorem i34l {x : Int64} (hI : pg_cd M pc = (34, a, b, k, z)) (t : wi d M (pc + 1) L (.long x :: .long x :: st) S σ τ Q) : wi d M pc L (.long x :: st) S σ τ Q := fun K => g34l hI (t K)
theorem i35i {x : Int32} (hI : pg_cd M pc = (35, a, b, k, z)) (t : wi d M (pc + 1) L st S σ τ Q) : wi d M pc L (.int x :: st) S σ τ Q := fun K => g35i hI (t K)
theorem i35a {x : Nat} (hI : pg_cd M pc = (35, a, b, k, z)) (t : wi d M (pc + 1) L st S σ τ Q) : wi d M pc L (.ref x :: st) S σ τ Q := fun K => g35a hI (t K)
theorem i36 {x : Int} {pc1 : Nat} (hI : pg_cd M pc = (36, a, b, k, z)) (rx : rg x) (hp : ab_to pc z = pc1) (t1 : zc k x 0 → wi d M pc1 L st S σ τ Q) (t2 : ¬ zc k x 0 → wi d M (pc + 3) L st S σ τ Q) : wi d M pc L (.int (wI x) :: st) S σ τ Q := by
  intro K
  subst hp
  refine gif hI ?_
  by_cases c : zc k x 0
  · rw [show ab_cond k (wI x) 0 = true from (zc_iff rx (by decide)).mpr c]; exact t1 c K
  · rw [show ab_cond k (wI x) 0 = false from Bool.eq_false_iff.mpr (fun h => c ((zc_iff rx (by decide)).mp h))]; exact t2 c K
theorem i37 {x y : Int} {pc1 : Nat} (hI : pg_cd M pc = (37, a, b, k, z)) (rx : rg x) (ry : rg y) (hp : ab_to pc z = pc1) (t1 : zc k x y → wi d M pc1 L st S σ τ Q) (t2 : ¬ zc k x y → wi d M (pc + 3) L st S σ τ Q) : wi d M pc L (.int (wI y) :: .int (wI x) :: st) S σ τ Q := by
  intro K
  subst hp
  refine gcm hI ?_
  by_cases c : zc k x y
  · rw [show ab_cond k (wI x) (wI y) = true from (zc_iff rx ry).mpr c]; exact t1 c K
  · rw [show ab_cond k (wI x) (wI y) = false from Bool.eq_false_iff.mpr (fun h => c ((zc_iff rx ry).mp h))]; exact t2 c K
/-- of two longs -/
theorem i36l {x y : Int} {pc1 : Nat} (hI : pg_cd M pc = (36, a, b, k, z)) (rx : rj x) (ry : rj y) (hp : ab_to pc z = pc1) (t1 : zc k x y → wi d M pc1 L st S σ τ Q) (t2 : ¬ zc k x y → wi d M (pc + 3) L st S σ τ Q) : wi d M pc L (.int (lg_cmp (wJ x) (wJ y)) :: st) S σ τ Q := by
  intro K
  subst hp
  refine gif hI ?_
  by_cases c : zc k x y
  · rw [show ab_cond k (lg_cmp (wJ x) (wJ y)) 0 = true from (lg_iff rx ry).mpr c]; exact t1 c K
  · rw [show ab_cond k (lg_cmp (wJ x) (wJ y)) 0 = false from Bool.eq_false_iff.mpr (fun h => c ((lg_iff rx ry).mp h))]; exact t2 c K
/-- of a constant -/
theorem i36k {x : Int} {pc1 : Nat} (hI : pg_cd M pc = (36, a, b, k, z)) (hp : (bif ab_cond k (wI x) 0 then ab_to pc z else pc + 3) = pc1) (t : wi d M pc1 L st S σ τ Q) : wi d M pc L (.int (wI x) :: st) S σ τ Q := by
  intro K
  subst hp
  exact gif hI (t K)
theorem i37k {x y : Int} {pc1 : Nat} (hI : pg_cd M pc = (37, a, b, k, z)) (hp : (bif ab_cond k (wI x) (wI y) then ab_to pc z else pc + 3) = pc1) (t : wi d M pc1 L st S σ τ Q) : wi d M pc L (.int (wI y) :: .int (wI x) :: st) S σ τ Q := by
  intro K
  subst hp
  exact gcm hI (t K)
/-- of something so or not so, 1 or 0: ifeq, ifne -/
theorem i36e {c : Prop} [Decidable c] {pc1 : Nat} (hI : pg_cd M pc = (36, a, b, 0, z)) (hp : ab_to pc z = pc1) (t1 : c → wi d M (pc + 3) L st S σ τ Q) (t2 : ¬ c → wi d M pc1 L st S σ τ Q) : wi d M pc L (.int (wI (if c then 1 else 0)) :: st) S σ τ Q := by
  by_cases h : c
  · rw [if_pos h]; exact i36 hI (by decide) hp (fun q => absurd q (show ¬ (1 : Int) = 0 by decide)) (fun _ => t1 h)
  · rw [if_neg h]; exact i36 hI (by decide) hp (fun _ => t2 h) (fun q => absurd (show (0 : Int) = 0 from rfl) q)
theorem i36f {c : Prop} [Decidable c] {pc1 : Nat} (hI : pg_cd M pc = (36, a, b, 1, z)) (hp : ab_to pc z = pc1) (t1 : c → wi d M pc1 L st S σ τ Q) (t2 : ¬ c → wi d M (pc + 3) L st S σ τ Q) : wi d M pc L (.int (wI (if c then 1 else 0)) :: st) S σ τ Q := by
  by_cases h : c
  · rw [if_pos h]; exact i36 hI (by decide) hp (fun _ => t1 h) (fun q => absurd (show ¬ (1 : Int) = 0 by decide) q)
  · rw [if_neg h]; exact i36 hI (by decide) hp (fun q => absurd (show (0 : Int) = 0 from rfl) q) (fun _ => t2 h)
theorem i38 {pc1 : Nat} (hI : pg_cd M pc = (38, a, b, k, z)) (hp : ab_to pc z = pc1) (t : wi d M pc1 L st S σ τ Q) : wi d M pc L st S σ τ Q := fun K => g38 hI hp (t K)
theorem i39n {pc1 : Nat} (hI : pg_cd M pc = (39, a, b, k, z)) (hp : ab_to pc z = pc1) (t : wi d M pc1 L st S σ τ Q) : wi d M pc L (.null :: st) S σ τ Q := fun K => g39n hI hp (t K)
theorem i39a {x : Nat} (hI : pg_cd M pc = (39, a, b, k, z)) (t : wi d M (pc + 3) L st S σ τ Q) : wi d M pc L (.ref x :: st) S σ τ Q := fun K => g39a hI (t K)
theorem i40n (hI : pg_cd M pc = (40, a, b, k, z)) (t : wi d M (pc + 3) L st S σ τ Q) : wi d M pc L (.null :: st) S σ τ Q := fun K => g40n hI (t K)
theorem i40a {x pc1 : Nat} (hI : pg_cd M pc = (40, a, b, k, z)) (hp : ab_to pc z = pc1) (t : wi d M pc1 L st S σ τ Q) : wi d M pc L (.ref x :: st) S σ τ Q := fun K => g40a hI hp (t K)
theorem i41 (hI : pg_cd M pc = (41, a, b, k, z)) (t : wi d M (pc + 1) L (.null :: st) S σ τ Q) : wi d M pc L st S σ τ Q := fun K => g41 hI (t K)
theorem i42 {x : Int} {pc1 : Nat} {o lo hi df : Int} {os : List Int} (hI : pg_cd M pc = (42, a, b, k, z)) (hw : pg_sw a = (df, lo, hi, os)) (v : Int) (hx : x = v) (rv : rg v) (h1 : ¬ (v < lo ∨ hi < v)) (h2 : os[(v - lo).toNat]? = some o) (hp : ab_to pc o = pc1) (t : wi d M pc1 L st S σ τ Q) : wi d M pc L (.int (wI x) :: st) S σ τ Q := by
  intro K
  subst hx
  exact g42 hI hw (by rw [wI_of rv]; exact h1) (by rw [wI_of rv]; exact h2) hp (t K)
theorem i42d {x : Int} {pc1 : Nat} {lo hi df : Int} {os : List Int} (hI : pg_cd M pc = (42, a, b, k, z)) (hw : pg_sw a = (df, lo, hi, os)) (rx : rg x) (h1 : x < lo ∨ hi < x) (hp : ab_to pc df = pc1) (t : wi d M pc1 L st S σ τ Q) : wi d M pc L (.int (wI x) :: st) S σ τ Q := fun K => g42d hI hw (by rw [wI_of rx]; exact h1) hp (t K)
theorem i43 {i n : Nat} {v : Int} (hI : pg_cd M pc = (43, a, b, k, z)) (ho : kO S σ τ → oK S i (100 + a) n) (hv : σ i (k : Int) = v) (t : wi d M (pc + 3) L (.int (wI v) :: st) S σ τ Q) : wi d M pc L (.ref i :: st) S σ τ Q := fun K => g43 hI (oK_ok (ho K)) (by subst hv; exact t K)
theorem i44 {i n : Nat} {v : Int} (hI : pg_cd M pc = (44, a, b, k, z)) (ho : kO S σ τ → oK S i (100 + a) n) (hv : τ i (k : Int) = v) (t : wi d M (pc + 3) L (.long (wJ v) :: st) S σ τ Q) : wi d M pc L (.ref i :: st) S σ τ Q := fun K => g44 hI (oK_ok (ho K)) (by subst hv; exact t K)
theorem i45 {i n j : Nat} (hI : pg_cd M pc = (45, a, b, k, z)) (ho : kO S σ τ → oK S i (100 + a) n) (hr : kO S σ τ → S.2.2.2 i k = some j) (t : wi d M (pc + 3) L (.ref j :: st) S σ τ Q) : wi d M pc L (.ref i :: st) S σ τ Q := fun K => g45 hI (oK_ok (ho K)) (hr K) (t K)
theorem i46 {i n : Nat} {v w : Int} (hI : pg_cd M pc = (46, a, b, k, z)) (ho : kO S σ τ → oK S i (100 + a) n) (hc : isR i = false) (hw : wI w = wI v) (rw' : rg w) (hσ : uc σ i (u1 (σ i) (k : Int) w) = σ1) (t : wi d M (pc + 3) L st S σ1 τ Q) : wi d M pc L (.int (wI v) :: .ref i :: st) S σ τ Q := fun K => g46 hI (oK_ok (ho K)) (fun h1 e => by
  have e2 := hp_pi (S := S) (σ := σ) (τ := τ) (c := i) (e := (k : Int)) (Int.natCast_nonneg k) hw
  rw [Int.toNat_natCast] at e2
  rw [e, e2, hσ]
  exact t (hσ ▸ kO_w1 K rw' hc))
theorem i47 {i n : Nat} {v w : Int} (hI : pg_cd M pc = (47, a, b, k, z)) (ho : kO S σ τ → oK S i (100 + a) n) (hc : isR i = false) (hw : v = w) (hb : w = 0 ∨ w = 1) (hσ : uc σ i (u1 (σ i) (k : Int) w) = σ1) (t : wi d M (pc + 3) L st S σ1 τ Q) : wi d M pc L (.int (wI v) :: .ref i :: st) S σ τ Q := fun K => g47 hI ⟨oK_ok (ho K), by subst hw; rcases hb with rfl | rfl; exact Or.inl rfl; exact Or.inr rfl⟩ (fun h1 e => by
  have e2 := hp_pi (S := S) (σ := σ) (τ := τ) (c := i) (e := (k : Int)) (w := w) (v := wI v) (Int.natCast_nonneg k) (by rw [hw])
  rw [Int.toNat_natCast] at e2
  rw [e, e2, hσ]
  exact t (hσ ▸ kO_w1 K (by omega) hc))
theorem i48 {i n : Nat} {v w : Int} (hI : pg_cd M pc = (48, a, b, k, z)) (ho : kO S σ τ → oK S i (100 + a) n) (hw : wJ w = wJ v) (rw' : rj w) (hσ : uc τ i (u1 (τ i) (k : Int) w) = τ1) (t : wi d M (pc + 3) L st S σ τ1 Q) : wi d M pc L (.long (wJ v) :: .ref i :: st) S σ τ Q := fun K => g48 hI (oK_ok (ho K)) (fun h1 e => by
  have e2 := hp_pl (S := S) (σ := σ) (τ := τ) (c := i) (e := (k : Int)) (Int.natCast_nonneg k) hw
  rw [Int.toNat_natCast] at e2
  rw [e, e2, hσ]
  exact t (hσ ▸ kO_j1 K rw'))
theorem in_of {S : zS} {σ τ : zI} {i kd n : Nat} {e : Int} (ho : oK S i kd n) (he : 0 ≤ e ∧ e < n) (hn : n < 2147483648) : ab_in (wI e) (ab_s (hp S σ τ) i).2 = true ∧ (wI e).toNatClampNeg = e.toNat := by
  have r : rg e := ⟨by omega, by omega⟩
  rw [oK_len ho]
  exact ⟨wI_in he.1 he.2 r, wI_clamp he.1 r⟩
theorem rd_i {S : zS} {σ τ : zI} {i : Nat} {e v : Int} (h0 : 0 ≤ e) (hv : σ i e = v) : ab_i (hp S σ τ) i e.toNat = wI v := by
  show wI (σ i (e.toNat : Int)) = wI v
  rw [Int.toNat_of_nonneg h0, hv]
theorem rd_l {S : zS} {σ τ : zI} {i : Nat} {e v : Int} (h0 : 0 ≤ e) (hv : τ i e = v) : ab_l (hp S σ τ) i e.toNat = wJ v := by
  show wJ (τ i (e.toNat : Int)) = wJ v
  rw [Int.toNat_of_nonneg h0, hv]
theorem i50 {i n : Nat} {e v : Int} (hI : pg_cd M pc = (50, a, b, k, z)) (ho : kO S σ τ → oK S i 0 n) (hn : n < 2147483648) (he : 0 ≤ e ∧ e < n) (hv : σ i e = v) (t : wi d M (pc + 1) L (.int (wI v) :: st) S σ τ Q) : wi d M pc L (.int (wI e) :: .ref i :: st) S σ τ Q := fun K => by
  obtain ⟨h1, h2⟩ := in_of (σ := σ) (τ := τ) (ho K) he hn
  refine g50 hI ⟨Or.inr (oK_ok (ho K)), h1⟩ ?_
  rw [h2, rd_i he.1 hv]
  exact t K
theorem i51 {i n : Nat} {e v : Int} (hI : pg_cd M pc = (51, a, b, k, z)) (ho : kO S σ τ → oK S i 2 n) (hn : n < 2147483648) (he : 0 ≤ e ∧ e < n) (hv : σ i e = v) (t : wi d M (pc + 1) L (.int (wI v) :: st) S σ τ Q) : wi d M pc L (.int (wI e) :: .ref i :: st) S σ τ Q := fun K => by
  obtain ⟨h1, h2⟩ := in_of (σ := σ) (τ := τ) (ho K) he hn
  refine g51 hI ⟨oK_ok (ho K), h1⟩ ?_
  rw [h2, rd_i he.1 hv]
  exact t K
theorem i52 {i n : Nat} {e v : Int} (hI : pg_cd M pc = (52, a, b, k, z)) (ho : kO S σ τ → oK S i 1 n) (hn : n < 2147483648) (he : 0 ≤ e ∧ e < n) (hv : τ i e = v) (t : wi d M (pc + 1) L (.long (wJ v) :: st) S σ τ Q) : wi d M pc L (.int (wI e) :: .ref i :: st) S σ τ Q := fun K => by
  obtain ⟨h1, h2⟩ := in_of (σ := σ) (τ := τ) (ho K) he hn
  refine g52 hI ⟨oK_ok (ho K), h1⟩ ?_
  rw [h2, rd_l he.1 hv]
  exact t K
theorem i53 {i n : Nat} {e : Int} (hI : pg_cd M pc = (53, a, b, k, z)) (ho : kO S σ τ → oK S i (3 + a) n) (hn : n < 2147483648) (he : 0 ≤ e ∧ e < n) (t1 : S.2.2.2 i e.toNat = none → wi d M (pc + 1) L (.null :: st) S σ τ Q) (t2 : ∀ j, S.2.2.2 i e.toNat = some j → wi d M (pc + 1) L (.ref j :: st) S σ τ Q) : wi d M pc L (.int (wI e) :: .ref i :: st) S σ τ Q := fun K => by
  obtain ⟨h1, h2⟩ := in_of (σ := σ) (τ := τ) (ho K) he hn
  refine g53b hI ⟨oK_ok (ho K), h1⟩ (fun q => ?_) (fun j q => ?_)
  · rw [h2] at q; exact t1 q K
  · rw [h2] at q; exact t2 j q K
theorem i54 {i n : Nat} {e v w : Int} (hI : pg_cd M pc = (54, a, b, k, z)) (ho : kO S σ τ → oK S i 0 n) (hn : n < 2147483648) (he : 0 ≤ e ∧ e < n) (hc : isR i = false) (hw : wI w = wI v) (rw' : rg w) (hσ : uc σ i (u1 (σ i) e w) = σ1) (t : wi d M (pc + 1) L st S σ1 τ Q) : wi d M pc L (.int (wI v) :: .int (wI e) :: .ref i :: st) S σ τ Q := fun K => by
  obtain ⟨h1, h2⟩ := in_of (σ := σ) (τ := τ) (ho K) he hn
  refine g54 hI ⟨oK_ok (ho K), h1⟩ (fun h1 e1 => ?_)
  rw [e1, h2, hp_pi he.1 hw, hσ]
  exact t (hσ ▸ kO_w1 K rw' hc)
theorem i55 {i n : Nat} {e v w : Int} (hI : pg_cd M pc = (55, a, b, k, z)) (ho : kO S σ τ → oK S i 2 n) (hn : n < 2147483648) (he : 0 ≤ e ∧ e < n) (hc : isR i = false) (hw : v = w) (hb : w = 0 ∨ w = 1) (hσ : uc σ i (u1 (σ i) e w) = σ1) (t : wi d M (pc + 1) L st S σ1 τ Q) : wi d M pc L (.int (wI v) :: .int (wI e) :: .ref i :: st) S σ τ Q := fun K => by
  obtain ⟨h1, h2⟩ := in_of (σ := σ) (τ := τ) (ho K) he hn
  refine g55 hI ⟨oK_ok (ho K), h1⟩ (fun h1 e1 => ?_)
  have e3 : wI w = (wI v &&& 1) := by subst hw; rcases hb with rfl | rfl <;> decide
  rw [e1, h2, hp_pi he.1 e3, hσ]
  exact t (hσ ▸ kO_w1 K (by omega) hc)
theorem i56 {i n : Nat} {e v w : Int} (hI : pg_cd M pc = (56, a, b, k, z)) (ho : kO S σ τ → oK S i 1 n) (hn : n < 2147483648) (he : 0 ≤ e ∧ e < n) (hw : wJ w = wJ v) (rw' : rj w) (hσ : uc τ i (u1 (τ i) e w) = τ1) (t : wi d M (pc + 1) L st S σ τ1 Q) : wi d M pc L (.long (wJ v) :: .int (wI e) :: .ref i :: st) S σ τ Q := fun K => by
  obtain ⟨h1, h2⟩ := in_of (σ := σ) (τ := τ) (ho K) he hn
  refine g56 hI ⟨oK_ok (ho K), h1⟩ (fun h1 e1 => ?_)
  rw [e1, h2, hp_pl he.1 hw, hσ]
  exact t (hσ ▸ kO_j1 K rw')
theorem i58 {i n : Nat} {v : Int} (hI : pg_cd M pc = (58, a, b, k, z)) (ho : kO S σ τ → oK S i a n) (hv : (n : Int) = v) (t : wi d M (pc + 1) L (.int (wI v) :: st) S σ τ Q) : wi d M pc L (.ref i :: st) S σ τ Q := fun K => g58 hI (Or.inr (oK_ok (ho K))) (by rw [oK_len (ho K), wI_ofNat, hv]; exact t K)
theorem i61 {i : Nat} (hI : pg_cd M pc = (61, a, b, k, z)) (ho : (st.map fun v => v.category).sum ≤ 8) (t : wi d M (pc + 3) L st S σ τ Q) : wi d M pc L (.ref i :: st) S σ τ Q := fun K => g61 hI ho (t K)
theorem i72 {x y : Int} (hI : pg_cd M pc = (72, a, b, k, z)) (hr : (st.map fun v => v.category).sum ≤ 8) (hd : 7 ≤ d) (rx : rg x) (ry : rg y) (hy : 0 < y) (t : wi d M (pc + 3) L (.int (wI (x / y)) :: st) S σ τ Q) : wi d M pc L (.int (wI y) :: .int (wI x) :: st) S σ τ Q := fun K => by
  refine g72 hI hr hd (wI_ne0 ry (by omega)) ?_
  have e : (if 0 ≤ wI x ^^^ wI y then wI x / wI y else if wI x / wI y * wI y = wI x then wI x / wI y else wI x / wI y + (-1)) = wI (x / y) := by
    have hy0 : ¬ wI y < 0 := by rw [← wI_0, wI_lt ry (by decide)]; omega
    have hs : (0 ≤ wI x ^^^ wI y) ↔ 0 ≤ x := by
      have e1 : (0 ≤ wI x ^^^ wI y) ↔ 0 ≤ wI x := by
        have : ∀ p q : Int32, ¬ q < 0 → ((0 ≤ p ^^^ q) ↔ 0 ≤ p) := by
          intro p q hq
          rw [Int32.le_iff_toBitVec_sle, Int32.le_iff_toBitVec_sle]
          have hq' : q.toBitVec.msb = false := by
            rw [Bool.eq_false_iff]
            intro hm
            apply hq
            rw [Int32.lt_iff_toInt_lt]
            have := BitVec.toInt_neg_of_msb_true hm
            exact this
          have a1 : ∀ v : BitVec 32, ((0 : Int32).toBitVec.sle v = true) ↔ v.msb = false := by
            intro v
            rw [BitVec.sle_iff_toInt_le]
            show (0 : Int) ≤ v.toInt ↔ _
            rw [BitVec.msb_eq_toInt, decide_eq_false_iff_not]
            omega
          rw [a1, a1, Int32.toBitVec_xor, BitVec.msb_xor, hq', Bool.xor_false]
        exact this _ _ hy0
      rw [e1, ← wI_0, wI_le (by decide) rx]
    rw [wI_div rx ry]
    by_cases h0 : 0 ≤ x
    · rw [if_pos (hs.mpr h0), Int.tdiv_eq_ediv_of_nonneg h0]
    · rw [if_neg (fun q => h0 (hs.mp q)), wI_mul]
      have hm1 : x.tmod y ≤ 0 := by
        have := Int.tmod_nonneg (a := -x) y (by omega)
        rw [Int.neg_tmod] at this
        omega
      have hm2 : -y < x.tmod y := by
        have := Int.tmod_lt_of_pos (-x) hy
        rw [Int.neg_tmod] at this
        omega
      have hx3 : y * x.tdiv y + x.tmod y = x := Int.mul_tdiv_add_tmod x y
      have rq : rg (x.tdiv y * y) := by rw [Int.mul_comm]; exact ⟨by omega, by omega⟩
      by_cases h1 : x.tdiv y * y = x
      · rw [if_pos (by rw [h1])]
        rw [Int.mul_comm] at h1
        rw [((Int.ediv_emod_unique (a := x) (b := y) (r := 0) (q := x.tdiv y) hy).mpr ⟨by omega, by omega, hy⟩).1]
      · rw [if_neg (fun q => h1 ((wI_inj rq rx).mp q)), show (-1 : Int32) = wI (-1) from rfl, wI_add]
        rw [Int.mul_comm] at h1
        rw [((Int.ediv_emod_unique (a := x) (b := y) (r := x.tmod y + y) (q := x.tdiv y + -1) hy).mpr ⟨by rw [Int.mul_add]; omega, by omega, by omega⟩).1]
  rw [e]
  exact t K
end ZR
