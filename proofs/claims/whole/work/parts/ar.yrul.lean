/-! ===== the rules once more, for the time before all cells stand (turned from parts 15, 16, 17, 40, 41, 83, 86 by wip/whole/par.py) (segments printed by wip/whole, contracts own work) ===== -/
def kO_y (S : zS) (σ τ : zI) : Prop := 1 ≤ S.1 ∧ (∀ c k, rg (σ c k)) ∧ (∀ c k, rj (τ c k)) ∧ True
theorem kO_r_y {S : zS} {σ τ : zI} (K : kO_y S σ τ) (c : Nat) (k : Int) : rg (σ c k) := K.2.1 c k
theorem kO_j_y {S : zS} {σ τ : zI} (K : kO_y S σ τ) (c : Nat) (k : Int) : rj (τ c k) := K.2.2.1 c k
theorem kO_w_y {S : zS} {σ τ : zI} {c : Nat} {f : Int → Int} (K : kO_y S σ τ) (hf : ∀ k, rg (f k)) (_ : isR c = false) : kO_y S (uc σ c f) τ := by
  refine ⟨K.1, fun a k => ?_, K.2.2.1, trivial⟩
  unfold uc
  split
  · exact hf k
  · exact K.2.1 a k
theorem kO_w1_y {S : zS} {σ τ : zI} {c : Nat} {e w : Int} (K : kO_y S σ τ) (hw : rg w) (hc : isR c = false) : kO_y S (uc σ c (u1 (σ c) e w)) τ := by
  refine kO_w_y K (fun k => ?_) hc
  unfold u1
  split
  · exact hw
  · exact K.2.1 c k
theorem kO_j1_y {S : zS} {σ τ : zI} {c : Nat} {e w : Int} (K : kO_y S σ τ) (hw : rj w) : kO_y S σ (uc τ c (u1 (τ c) e w)) := by
  refine ⟨K.1, K.2.1, fun a k => ?_, trivial⟩
  unfold uc u1
  split
  · dsimp only
    split
    · exact hw
    · exact K.2.2.1 c k
  · exact K.2.2.1 a k
theorem kO_jw_y {S : zS} {σ τ : zI} {c : Nat} {f : Int → Int} (K : kO_y S σ τ) (hf : ∀ k, rj (f k)) : kO_y S σ (uc τ c f) := by
  refine ⟨K.1, K.2.1, fun a k => ?_, trivial⟩
  unfold uc
  split
  · exact hf k
  · exact K.2.2.1 a k
theorem kO_cnt_y {S : zS} {σ σ' τ : zI} {r w n : Nat} {v : Int} (K : kO_y S σ τ) (hR : oW S σ' r w n) (h0 : 0 ≤ v) (h1 : v * w ≤ n) : kO_y S (uc σ r (u1 (σ r) 2 v)) τ := by
  obtain ⟨_, _, _, _, w0, _, _, n1, _, _, _⟩ := hR
  refine ⟨K.1, fun a k => ?_, K.2.2.1, trivial⟩
  unfold uc
  split
  · unfold u1
    split
    · have : v ≤ v * w := by
        have q : (1 : Int) ≤ w := by omega
        have := Int.mul_le_mul_of_nonneg_left q h0
        omega
      omega
    · exact K.2.1 r k
  · exact K.2.1 a k
theorem kO_new_y {S : zS} {σ τ : zI} {kd len sl : Nat} (K : kO_y S σ τ) : kO_y (nS S kd len sl) (uc σ S.1 z0) (uc τ S.1 z0) := by
  refine ⟨by show 1 ≤ S.1 + 1; omega, fun c k => ?_, fun c k => ?_, trivial⟩
  · unfold uc
    split
    · unfold z0; omega
    · exact K.2.1 c k
  · unfold uc
    split
    · unfold z0; omega
    · exact K.2.2.1 c k
theorem kO_pr_y {S : zS} {σ τ : zI} {i k x : Nat} (K : kO_y S σ τ) (_ : 100 ≤ i ∨ i = 55 ∨ i = 59) : kO_y (pS S i k x) σ τ := ⟨K.1, K.2.1, K.2.2.1, trivial⟩
def qz_y (Q : zQ) : Option Value → ab_H → Prop := fun r h' => ∃ S' σ' τ', h' = hp S' σ' τ' ∧ kO_y S' σ' τ' ∧ Q r S' σ' τ'
def wi_y (d M pc : Nat) (L st : List Value) (S : zS) (σ τ : zI) (Q : zQ) : Prop := kO_y S σ τ → wq d M pc L st (hp S σ τ) (qz_y Q)
def wc_y (d M : Nat) (As : List Value) (S : zS) (σ τ : zI) (Q : zQ) : Prop := kO_y S σ τ → wm d M As (hp S σ τ) (qz_y Q)
theorem wi_ok_y {d M pc : Nat} {L st : List Value} {S : zS} {σ τ : zI} {Q : zQ} (t : kO_y S σ τ → wi_y d M pc L st S σ τ Q) : wi_y d M pc L st S σ τ Q := fun K => t K K
theorem wc_ok_y {d M : Nat} {As : List Value} {S : zS} {σ τ : zI} {Q : zQ} (t : kO_y S σ τ → wc_y d M As S σ τ Q) : wc_y d M As S σ τ Q := fun K => t K K
theorem wi_to_y {d M pc : Nat} {L st : List Value} {S : zS} {σ τ : zI} {Q Q' : zQ} (k : wi_y d M pc L st S σ τ Q) (hQ : ∀ r S' σ' τ', kO_y S' σ' τ' → Q r S' σ' τ' → Q' r S' σ' τ') : wi_y d M pc L st S σ τ Q' := fun K => wq_to (k K) (by
  rintro r h' ⟨S', σ', τ', e, K', q⟩
  exact ⟨S', σ', τ', e, K', hQ _ _ _ _ K' q⟩)
theorem wc_to_y {d M : Nat} {As : List Value} {S : zS} {σ τ : zI} {Q Q' : zQ} (k : wc_y d M As S σ τ Q) (hQ : ∀ r S' σ' τ', kO_y S' σ' τ' → Q r S' σ' τ' → Q' r S' σ' τ') : wc_y d M As S σ τ Q' := fun K => wq_to (k K) (by
  rintro r h' ⟨S', σ', τ', e, K', q⟩
  exact ⟨S', σ', τ', e, K', hQ _ _ _ _ K' q⟩)
section ZR
variable {d M pc : Nat} {L st L' : List Value} {S : zS} {σ τ σ1 τ1 : zI} {Q : zQ} {a b k : Nat} {z : Int}
theorem i1_y (hI : pg_cd M pc = (1, a, b, k, z)) (t : wi_y d M (pc + a) L (.int (wI z) :: st) S σ τ Q) : wi_y d M pc L st S σ τ Q := fun K => g1 hI rfl (t K)
theorem i2_y (hI : pg_cd M pc = (2, a, b, k, z)) (t : wi_y d M (pc + a) L (.long (wJ z) :: st) S σ τ Q) : wi_y d M pc L st S σ τ Q := fun K => g2 hI rfl (t K)
theorem i3_y {x : Int} (hI : pg_cd M pc = (3, a, b, k, z)) (hL : L[k]? = some (.int (wI x))) (t : wi_y d M (pc + a) L (.int (wI x) :: st) S σ τ Q) : wi_y d M pc L st S σ τ Q := fun K => g3 hI hL (t K)
theorem i4_y {x : Int} (hI : pg_cd M pc = (4, a, b, k, z)) (hL : L[k]? = some (.long (wJ x))) (t : wi_y d M (pc + a) L (.long (wJ x) :: st) S σ τ Q) : wi_y d M pc L st S σ τ Q := fun K => g4 hI hL (t K)
theorem i5_y {x : Nat} (hI : pg_cd M pc = (5, a, b, k, z)) (hL : L[k]? = some (.ref x)) (t : wi_y d M (pc + a) L (.ref x :: st) S σ τ Q) : wi_y d M pc L st S σ τ Q := fun K => g5 hI hL (t K)
theorem i5n_y (hI : pg_cd M pc = (5, a, b, k, z)) (hL : L[k]? = some .null) (t : wi_y d M (pc + a) L (.null :: st) S σ τ Q) : wi_y d M pc L st S σ τ Q := fun K => g5n hI hL (t K)
theorem i6_y {x : Int} (hI : pg_cd M pc = (6, a, b, k, z)) (hL : ab_st1 L k (.int (wI x)) = some L') (t : wi_y d M (pc + a) L' st S σ τ Q) : wi_y d M pc L (.int (wI x) :: st) S σ τ Q := fun K => g6 hI hL (t K)
theorem i6w_y {x : Int} (hI : pg_cd M pc = (6, a, b, k, z)) (w : Int) (hw : wI w = wI x) (hL : ab_st1 L k (.int (wI w)) = some L') (t : wi_y d M (pc + a) L' st S σ τ Q) : wi_y d M pc L (.int (wI x) :: st) S σ τ Q := fun K => g6 hI (by rw [← hw]; exact hL) (t K)
theorem i7_y {x : Int} (hI : pg_cd M pc = (7, a, b, k, z)) (hL : ab_st2 L k (.long (wJ x)) = some L') (t : wi_y d M (pc + a) L' st S σ τ Q) : wi_y d M pc L (.long (wJ x) :: st) S σ τ Q := fun K => g7 hI hL (t K)
theorem i8_y {x : Nat} (hI : pg_cd M pc = (8, a, b, k, z)) (hL : ab_st1 L k (.ref x) = some L') (t : wi_y d M (pc + a) L' st S σ τ Q) : wi_y d M pc L (.ref x :: st) S σ τ Q := fun K => g8 hI hL (t K)
theorem i8n_y (hI : pg_cd M pc = (8, a, b, k, z)) (hL : ab_st1 L k .null = some L') (t : wi_y d M (pc + a) L' st S σ τ Q) : wi_y d M pc L (.null :: st) S σ τ Q := fun K => g8n hI hL (t K)
theorem i9_y {x : Int} (hI : pg_cd M pc = (9, a, b, k, z)) (hx : L[k]? = some (.int (wI x))) (hL : ab_st1 L k (.int (wI (x + z))) = some L') (t : wi_y d M (pc + 3) L' st S σ τ Q) : wi_y d M pc L st S σ τ Q := fun K => g9 hI hx (y := wI z) rfl (by rw [wI_add]; exact hL) (t K)
theorem i10_y {x y : Int} (hI : pg_cd M pc = (10, a, b, k, z)) (t : wi_y d M (pc + 1) L (.int (wI (x + y)) :: st) S σ τ Q) : wi_y d M pc L (.int (wI y) :: .int (wI x) :: st) S σ τ Q := fun K => g10 hI (by rw [wI_add]; exact t K)
theorem i11_y {x y : Int} (hI : pg_cd M pc = (11, a, b, k, z)) (t : wi_y d M (pc + 1) L (.int (wI (x - y)) :: st) S σ τ Q) : wi_y d M pc L (.int (wI y) :: .int (wI x) :: st) S σ τ Q := fun K => g11 hI (by rw [wI_sub]; exact t K)
theorem i12_y {x y : Int} (hI : pg_cd M pc = (12, a, b, k, z)) (t : wi_y d M (pc + 1) L (.int (wI (x * y)) :: st) S σ τ Q) : wi_y d M pc L (.int (wI y) :: .int (wI x) :: st) S σ τ Q := fun K => g12 hI (by rw [wI_mul]; exact t K)
theorem i13_y {x y : Int} (hI : pg_cd M pc = (13, a, b, k, z)) (t : wi_y d M (pc + 1) L (.int (wI (zand x y)) :: st) S σ τ Q) : wi_y d M pc L (.int (wI y) :: .int (wI x) :: st) S σ τ Q := fun K => g13 hI (by have := t K; unfold zand at this; rw [wI_toInt] at this; exact this)
theorem i14_y {x y : Int} (hI : pg_cd M pc = (14, a, b, k, z)) (t : wi_y d M (pc + 1) L (.int (wI (zor x y)) :: st) S σ τ Q) : wi_y d M pc L (.int (wI y) :: .int (wI x) :: st) S σ τ Q := fun K => g14 hI (by have := t K; unfold zor at this; rw [wI_toInt] at this; exact this)
theorem i15_y {x y : Int} (hI : pg_cd M pc = (15, a, b, k, z)) (t : wi_y d M (pc + 1) L (.int (wI (zxor x y)) :: st) S σ τ Q) : wi_y d M pc L (.int (wI y) :: .int (wI x) :: st) S σ τ Q := fun K => g15 hI (by have := t K; unfold zxor at this; rw [wI_toInt] at this; exact this)
theorem i18_y {x y : Int} (hI : pg_cd M pc = (18, a, b, k, z)) (t : wi_y d M (pc + 1) L (.int (wI (zshl x y)) :: st) S σ τ Q) : wi_y d M pc L (.int (wI y) :: .int (wI x) :: st) S σ τ Q := fun K => g18 hI (by have := t K; unfold zshl at this; rw [wI_toInt] at this; exact this)
theorem i19_y {x y : Int} (hI : pg_cd M pc = (19, a, b, k, z)) (t : wi_y d M (pc + 1) L (.int (wI (zshr x y)) :: st) S σ τ Q) : wi_y d M pc L (.int (wI y) :: .int (wI x) :: st) S σ τ Q := fun K => g19 hI (by have := t K; unfold zshr at this; rw [wI_toInt] at this; exact this)
theorem i20_y {x y : Int} (hI : pg_cd M pc = (20, a, b, k, z)) (t : wi_y d M (pc + 1) L (.int (wI (zush x y)) :: st) S σ τ Q) : wi_y d M pc L (.int (wI y) :: .int (wI x) :: st) S σ τ Q := fun K => g20 hI (by have := t K; unfold zush at this; rw [wI_toInt] at this; exact this)
theorem i16_y {x y : Int} (hI : pg_cd M pc = (16, a, b, k, z)) (rx : rg x) (ry : rg y) (hy : y ≠ 0) (t : wi_y d M (pc + 1) L (.int (wI (x.tdiv y)) :: st) S σ τ Q) : wi_y d M pc L (.int (wI y) :: .int (wI x) :: st) S σ τ Q := fun K => g16 hI (wI_ne0 ry hy) (by rw [wI_div rx ry]; exact t K)
theorem i17_y {x y : Int} (hI : pg_cd M pc = (17, a, b, k, z)) (rx : rg x) (ry : rg y) (hy : y ≠ 0) (t : wi_y d M (pc + 1) L (.int (wI (x.tmod y)) :: st) S σ τ Q) : wi_y d M pc L (.int (wI y) :: .int (wI x) :: st) S σ τ Q := fun K => g17 hI (wI_ne0 ry hy) (by
  rw [wI_div rx ry, wI_mul, wI_sub]
  have e : x - x.tdiv y * y = x.tmod y := by rw [Int.tmod_def, Int.mul_comm]
  rw [e]; exact t K)
theorem i21_y {x : Int} (hI : pg_cd M pc = (21, a, b, k, z)) (t : wi_y d M (pc + 1) L (.int (wI (-x)) :: st) S σ τ Q) : wi_y d M pc L (.int (wI x) :: st) S σ τ Q := fun K => g21 hI (by rw [wI_neg]; exact t K)
theorem i22_y {x y : Int} (hI : pg_cd M pc = (22, a, b, k, z)) (t : wi_y d M (pc + 1) L (.long (wJ (x + y)) :: st) S σ τ Q) : wi_y d M pc L (.long (wJ y) :: .long (wJ x) :: st) S σ τ Q := fun K => g22 hI (by rw [wJ_add]; exact t K)
theorem i23_y {x y : Int} (hI : pg_cd M pc = (23, a, b, k, z)) (t : wi_y d M (pc + 1) L (.long (wJ (x - y)) :: st) S σ τ Q) : wi_y d M pc L (.long (wJ y) :: .long (wJ x) :: st) S σ τ Q := fun K => g23 hI (by rw [wJ_sub]; exact t K)
theorem i24_y {x y : Int} (hI : pg_cd M pc = (24, a, b, k, z)) (t : wi_y d M (pc + 1) L (.long (wJ (x * y)) :: st) S σ τ Q) : wi_y d M pc L (.long (wJ y) :: .long (wJ x) :: st) S σ τ Q := fun K => g24 hI (by rw [wJ_mul]; exact t K)
theorem i25_y {x y : Int} (hI : pg_cd M pc = (25, a, b, k, z)) (t : wi_y d M (pc + 1) L (.long (wJ (jor x y)) :: st) S σ τ Q) : wi_y d M pc L (.long (wJ y) :: .long (wJ x) :: st) S σ τ Q := fun K => g25 hI (by have := t K; unfold jor at this; rw [wJ_toInt] at this; exact this)
theorem i26_y {x y : Int} (hI : pg_cd M pc = (26, a, b, k, z)) (rx : rj x) (ry : rj y) (hy : y ≠ 0) (t : wi_y d M (pc + 1) L (.long (wJ (x.tdiv y)) :: st) S σ τ Q) : wi_y d M pc L (.long (wJ y) :: .long (wJ x) :: st) S σ τ Q := fun K => g26 hI (wJ_ne0 ry hy) (by rw [wJ_div rx ry]; exact t K)
theorem i27_y {x y : Int} (hI : pg_cd M pc = (27, a, b, k, z)) (rx : rj x) (ry : rj y) (hy : y ≠ 0) (t : wi_y d M (pc + 1) L (.long (wJ (x.tmod y)) :: st) S σ τ Q) : wi_y d M pc L (.long (wJ y) :: .long (wJ x) :: st) S σ τ Q := fun K => g27 hI (wJ_ne0 ry hy) (by
  rw [wJ_div rx ry, wJ_mul, wJ_sub]
  have e : x - x.tdiv y * y = x.tmod y := by rw [Int.tmod_def, Int.mul_comm]
  rw [e]; exact t K)
theorem i28_y {x y : Int} (hI : pg_cd M pc = (28, a, b, k, z)) (t : wi_y d M (pc + 1) L (.int (lg_cmp (wJ x) (wJ y)) :: st) S σ τ Q) : wi_y d M pc L (.long (wJ y) :: .long (wJ x) :: st) S σ τ Q := fun K => g28 hI (t K)
theorem i29_y {x : Int} (hI : pg_cd M pc = (29, a, b, k, z)) (t : wi_y d M (pc + 1) L (.long (wJ (-x)) :: st) S σ τ Q) : wi_y d M pc L (.long (wJ x) :: st) S σ τ Q := fun K => g29 hI (by rw [wJ_neg]; exact t K)
theorem i30_y {x : Int} (hI : pg_cd M pc = (30, a, b, k, z)) (t : wi_y d M (pc + 1) L (.int (wI x) :: st) S σ τ Q) : wi_y d M pc L (.long (wJ x) :: st) S σ τ Q := fun K => g30 hI (by rw [wJ_i]; exact t K)
theorem i31_y {x : Int} (hI : pg_cd M pc = (31, a, b, k, z)) (rx : rg x) (t : wi_y d M (pc + 1) L (.long (wJ x) :: st) S σ τ Q) : wi_y d M pc L (.int (wI x) :: st) S σ τ Q := fun K => g31 hI (by rw [wI_l rx]; exact t K)
theorem i32_y {x y : Int} (hI : pg_cd M pc = (32, a, b, k, z)) (t : wi_y d M (pc + 1) L (.long (wJ (jshl x y)) :: st) S σ τ Q) : wi_y d M pc L (.int (wI y) :: .long (wJ x) :: st) S σ τ Q := fun K => g32 hI (by have := t K; unfold jshl at this; rw [wJ_toInt] at this; exact this)
theorem i33i_y {x : Int32} (hI : pg_cd M pc = (33, a, b, k, z)) (t : wi_y d M (pc + 1) L (.int x :: .int x :: st) S σ τ Q) : wi_y d M pc L (.int x :: st) S σ τ Q := fun K => g33i hI (t K)
theorem i33a_y {x : Nat} (hI : pg_cd M pc = (33, a, b, k, z)) (t : wi_y d M (pc + 1) L (.ref x :: .ref x :: st) S σ τ Q) : wi_y d M pc L (.ref x :: st) S σ τ Q := fun K => g33a hI (t K)
theorem i34a_y {x : Int32} {y : Nat} (hI : pg_cd M pc = (34, a, b, k, z)) (t : wi_y d M (pc + 1) L (.int x :: .ref y :: .int x :: .ref y :: st) S σ τ Q) : wi_y d M pc L (.int x :: .ref y :: st) S σ τ Q := fun K => g34a hI (t K)
theorem i34i_y {x y : Int32} (hI : pg_cd M pc = (34, a, b, k, z)) (t : wi_y d M (pc + 1) L (.int x :: .int y :: .int x :: .int y :: st) S σ τ Q) : wi_y d M pc L (.int x :: .int y :: st) S σ τ Q := fun K => g34i hI (t K)
theorem i34l_y {x : Int64} (hI : pg_cd M pc = (34, a, b, k, z)) (t : wi_y d M (pc + 1) L (.long x :: .long x :: st) S σ τ Q) : wi_y d M pc L (.long x :: st) S σ τ Q := fun K => g34l hI (t K)
theorem i35i_y {x : Int32} (hI : pg_cd M pc = (35, a, b, k, z)) (t : wi_y d M (pc + 1) L st S σ τ Q) : wi_y d M pc L (.int x :: st) S σ τ Q := fun K => g35i hI (t K)
theorem i35a_y {x : Nat} (hI : pg_cd M pc = (35, a, b, k, z)) (t : wi_y d M (pc + 1) L st S σ τ Q) : wi_y d M pc L (.ref x :: st) S σ τ Q := fun K => g35a hI (t K)
theorem i36_y {x : Int} {pc1 : Nat} (hI : pg_cd M pc = (36, a, b, k, z)) (rx : rg x) (hp : ab_to pc z = pc1) (t1 : zc k x 0 → wi_y d M pc1 L st S σ τ Q) (t2 : ¬ zc k x 0 → wi_y d M (pc + 3) L st S σ τ Q) : wi_y d M pc L (.int (wI x) :: st) S σ τ Q := by
  intro K
  subst hp
  refine gif hI ?_
  by_cases c : zc k x 0
  · rw [show ab_cond k (wI x) 0 = true from (zc_iff rx (by decide)).mpr c]; exact t1 c K
  · rw [show ab_cond k (wI x) 0 = false from Bool.eq_false_iff.mpr (fun h => c ((zc_iff rx (by decide)).mp h))]; exact t2 c K
theorem i37_y {x y : Int} {pc1 : Nat} (hI : pg_cd M pc = (37, a, b, k, z)) (rx : rg x) (ry : rg y) (hp : ab_to pc z = pc1) (t1 : zc k x y → wi_y d M pc1 L st S σ τ Q) (t2 : ¬ zc k x y → wi_y d M (pc + 3) L st S σ τ Q) : wi_y d M pc L (.int (wI y) :: .int (wI x) :: st) S σ τ Q := by
  intro K
  subst hp
  refine gcm hI ?_
  by_cases c : zc k x y
  · rw [show ab_cond k (wI x) (wI y) = true from (zc_iff rx ry).mpr c]; exact t1 c K
  · rw [show ab_cond k (wI x) (wI y) = false from Bool.eq_false_iff.mpr (fun h => c ((zc_iff rx ry).mp h))]; exact t2 c K
theorem i36l_y {x y : Int} {pc1 : Nat} (hI : pg_cd M pc = (36, a, b, k, z)) (rx : rj x) (ry : rj y) (hp : ab_to pc z = pc1) (t1 : zc k x y → wi_y d M pc1 L st S σ τ Q) (t2 : ¬ zc k x y → wi_y d M (pc + 3) L st S σ τ Q) : wi_y d M pc L (.int (lg_cmp (wJ x) (wJ y)) :: st) S σ τ Q := by
  intro K
  subst hp
  refine gif hI ?_
  by_cases c : zc k x y
  · rw [show ab_cond k (lg_cmp (wJ x) (wJ y)) 0 = true from (lg_iff rx ry).mpr c]; exact t1 c K
  · rw [show ab_cond k (lg_cmp (wJ x) (wJ y)) 0 = false from Bool.eq_false_iff.mpr (fun h => c ((lg_iff rx ry).mp h))]; exact t2 c K
theorem i36k_y {x : Int} {pc1 : Nat} (hI : pg_cd M pc = (36, a, b, k, z)) (hp : (bif ab_cond k (wI x) 0 then ab_to pc z else pc + 3) = pc1) (t : wi_y d M pc1 L st S σ τ Q) : wi_y d M pc L (.int (wI x) :: st) S σ τ Q := by
  intro K
  subst hp
  exact gif hI (t K)
theorem i37k_y {x y : Int} {pc1 : Nat} (hI : pg_cd M pc = (37, a, b, k, z)) (hp : (bif ab_cond k (wI x) (wI y) then ab_to pc z else pc + 3) = pc1) (t : wi_y d M pc1 L st S σ τ Q) : wi_y d M pc L (.int (wI y) :: .int (wI x) :: st) S σ τ Q := by
  intro K
  subst hp
  exact gcm hI (t K)
theorem i36e_y {c : Prop} [Decidable c] {pc1 : Nat} (hI : pg_cd M pc = (36, a, b, 0, z)) (hp : ab_to pc z = pc1) (t1 : c → wi_y d M (pc + 3) L st S σ τ Q) (t2 : ¬ c → wi_y d M pc1 L st S σ τ Q) : wi_y d M pc L (.int (wI (if c then 1 else 0)) :: st) S σ τ Q := by
  by_cases h : c
  · rw [if_pos h]; exact i36_y hI (by decide) hp (fun q => absurd q (show ¬ (1 : Int) = 0 by decide)) (fun _ => t1 h)
  · rw [if_neg h]; exact i36_y hI (by decide) hp (fun _ => t2 h) (fun q => absurd (show (0 : Int) = 0 from rfl) q)
theorem i36f_y {c : Prop} [Decidable c] {pc1 : Nat} (hI : pg_cd M pc = (36, a, b, 1, z)) (hp : ab_to pc z = pc1) (t1 : c → wi_y d M pc1 L st S σ τ Q) (t2 : ¬ c → wi_y d M (pc + 3) L st S σ τ Q) : wi_y d M pc L (.int (wI (if c then 1 else 0)) :: st) S σ τ Q := by
  by_cases h : c
  · rw [if_pos h]; exact i36_y hI (by decide) hp (fun _ => t1 h) (fun q => absurd (show ¬ (1 : Int) = 0 by decide) q)
  · rw [if_neg h]; exact i36_y hI (by decide) hp (fun q => absurd (show (0 : Int) = 0 from rfl) q) (fun _ => t2 h)
theorem i38_y {pc1 : Nat} (hI : pg_cd M pc = (38, a, b, k, z)) (hp : ab_to pc z = pc1) (t : wi_y d M pc1 L st S σ τ Q) : wi_y d M pc L st S σ τ Q := fun K => g38 hI hp (t K)
theorem i39n_y {pc1 : Nat} (hI : pg_cd M pc = (39, a, b, k, z)) (hp : ab_to pc z = pc1) (t : wi_y d M pc1 L st S σ τ Q) : wi_y d M pc L (.null :: st) S σ τ Q := fun K => g39n hI hp (t K)
theorem i39a_y {x : Nat} (hI : pg_cd M pc = (39, a, b, k, z)) (t : wi_y d M (pc + 3) L st S σ τ Q) : wi_y d M pc L (.ref x :: st) S σ τ Q := fun K => g39a hI (t K)
theorem i40n_y (hI : pg_cd M pc = (40, a, b, k, z)) (t : wi_y d M (pc + 3) L st S σ τ Q) : wi_y d M pc L (.null :: st) S σ τ Q := fun K => g40n hI (t K)
theorem i40a_y {x pc1 : Nat} (hI : pg_cd M pc = (40, a, b, k, z)) (hp : ab_to pc z = pc1) (t : wi_y d M pc1 L st S σ τ Q) : wi_y d M pc L (.ref x :: st) S σ τ Q := fun K => g40a hI hp (t K)
theorem i41_y (hI : pg_cd M pc = (41, a, b, k, z)) (t : wi_y d M (pc + 1) L (.null :: st) S σ τ Q) : wi_y d M pc L st S σ τ Q := fun K => g41 hI (t K)
theorem i42_y {x : Int} {pc1 : Nat} {o lo hi df : Int} {os : List Int} (hI : pg_cd M pc = (42, a, b, k, z)) (hw : pg_sw a = (df, lo, hi, os)) (v : Int) (hx : x = v) (rv : rg v) (h1 : ¬ (v < lo ∨ hi < v)) (h2 : os[(v - lo).toNat]? = some o) (hp : ab_to pc o = pc1) (t : wi_y d M pc1 L st S σ τ Q) : wi_y d M pc L (.int (wI x) :: st) S σ τ Q := by
  intro K
  subst hx
  exact g42 hI hw (by rw [wI_of rv]; exact h1) (by rw [wI_of rv]; exact h2) hp (t K)
theorem i42d_y {x : Int} {pc1 : Nat} {lo hi df : Int} {os : List Int} (hI : pg_cd M pc = (42, a, b, k, z)) (hw : pg_sw a = (df, lo, hi, os)) (rx : rg x) (h1 : x < lo ∨ hi < x) (hp : ab_to pc df = pc1) (t : wi_y d M pc1 L st S σ τ Q) : wi_y d M pc L (.int (wI x) :: st) S σ τ Q := fun K => g42d hI hw (by rw [wI_of rx]; exact h1) hp (t K)
theorem i43_y {i n : Nat} {v : Int} (hI : pg_cd M pc = (43, a, b, k, z)) (ho : kO_y S σ τ → oK S i (100 + a) n) (hv : σ i (k : Int) = v) (t : wi_y d M (pc + 3) L (.int (wI v) :: st) S σ τ Q) : wi_y d M pc L (.ref i :: st) S σ τ Q := fun K => g43 hI (oK_ok (ho K)) (by subst hv; exact t K)
theorem i44_y {i n : Nat} {v : Int} (hI : pg_cd M pc = (44, a, b, k, z)) (ho : kO_y S σ τ → oK S i (100 + a) n) (hv : τ i (k : Int) = v) (t : wi_y d M (pc + 3) L (.long (wJ v) :: st) S σ τ Q) : wi_y d M pc L (.ref i :: st) S σ τ Q := fun K => g44 hI (oK_ok (ho K)) (by subst hv; exact t K)
theorem i45_y {i n j : Nat} (hI : pg_cd M pc = (45, a, b, k, z)) (ho : kO_y S σ τ → oK S i (100 + a) n) (hr : kO_y S σ τ → S.2.2.2 i k = some j) (t : wi_y d M (pc + 3) L (.ref j :: st) S σ τ Q) : wi_y d M pc L (.ref i :: st) S σ τ Q := fun K => g45 hI (oK_ok (ho K)) (hr K) (t K)
theorem i46_y {i n : Nat} {v w : Int} (hI : pg_cd M pc = (46, a, b, k, z)) (ho : kO_y S σ τ → oK S i (100 + a) n) (hc : isR i = false) (hw : wI w = wI v) (rw' : rg w) (hσ : uc σ i (u1 (σ i) (k : Int) w) = σ1) (t : wi_y d M (pc + 3) L st S σ1 τ Q) : wi_y d M pc L (.int (wI v) :: .ref i :: st) S σ τ Q := fun K => g46 hI (oK_ok (ho K)) (fun h1 e => by
  have e2 := hp_pi (S := S) (σ := σ) (τ := τ) (c := i) (e := (k : Int)) (Int.natCast_nonneg k) hw
  rw [Int.toNat_natCast] at e2
  rw [e, e2, hσ]
  exact t (hσ ▸ kO_w1_y K rw' hc))
theorem i47_y {i n : Nat} {v w : Int} (hI : pg_cd M pc = (47, a, b, k, z)) (ho : kO_y S σ τ → oK S i (100 + a) n) (hc : isR i = false) (hw : v = w) (hb : w = 0 ∨ w = 1) (hσ : uc σ i (u1 (σ i) (k : Int) w) = σ1) (t : wi_y d M (pc + 3) L st S σ1 τ Q) : wi_y d M pc L (.int (wI v) :: .ref i :: st) S σ τ Q := fun K => g47 hI ⟨oK_ok (ho K), by subst hw; rcases hb with rfl | rfl; exact Or.inl rfl; exact Or.inr rfl⟩ (fun h1 e => by
  have e2 := hp_pi (S := S) (σ := σ) (τ := τ) (c := i) (e := (k : Int)) (w := w) (v := wI v) (Int.natCast_nonneg k) (by rw [hw])
  rw [Int.toNat_natCast] at e2
  rw [e, e2, hσ]
  exact t (hσ ▸ kO_w1_y K (by omega) hc))
theorem i48_y {i n : Nat} {v w : Int} (hI : pg_cd M pc = (48, a, b, k, z)) (ho : kO_y S σ τ → oK S i (100 + a) n) (hw : wJ w = wJ v) (rw' : rj w) (hσ : uc τ i (u1 (τ i) (k : Int) w) = τ1) (t : wi_y d M (pc + 3) L st S σ τ1 Q) : wi_y d M pc L (.long (wJ v) :: .ref i :: st) S σ τ Q := fun K => g48 hI (oK_ok (ho K)) (fun h1 e => by
  have e2 := hp_pl (S := S) (σ := σ) (τ := τ) (c := i) (e := (k : Int)) (Int.natCast_nonneg k) hw
  rw [Int.toNat_natCast] at e2
  rw [e, e2, hσ]
  exact t (hσ ▸ kO_j1_y K rw'))
theorem i50_y {i n : Nat} {e v : Int} (hI : pg_cd M pc = (50, a, b, k, z)) (ho : kO_y S σ τ → oK S i 0 n) (hn : n < 2147483648) (he : 0 ≤ e ∧ e < n) (hv : σ i e = v) (t : wi_y d M (pc + 1) L (.int (wI v) :: st) S σ τ Q) : wi_y d M pc L (.int (wI e) :: .ref i :: st) S σ τ Q := fun K => by
  obtain ⟨h1, h2⟩ := in_of (σ := σ) (τ := τ) (ho K) he hn
  refine g50 hI ⟨Or.inr (oK_ok (ho K)), h1⟩ ?_
  rw [h2, rd_i he.1 hv]
  exact t K
theorem i51_y {i n : Nat} {e v : Int} (hI : pg_cd M pc = (51, a, b, k, z)) (ho : kO_y S σ τ → oK S i 2 n) (hn : n < 2147483648) (he : 0 ≤ e ∧ e < n) (hv : σ i e = v) (t : wi_y d M (pc + 1) L (.int (wI v) :: st) S σ τ Q) : wi_y d M pc L (.int (wI e) :: .ref i :: st) S σ τ Q := fun K => by
  obtain ⟨h1, h2⟩ := in_of (σ := σ) (τ := τ) (ho K) he hn
  refine g51 hI ⟨oK_ok (ho K), h1⟩ ?_
  rw [h2, rd_i he.1 hv]
  exact t K
theorem i52_y {i n : Nat} {e v : Int} (hI : pg_cd M pc = (52, a, b, k, z)) (ho : kO_y S σ τ → oK S i 1 n) (hn : n < 2147483648) (he : 0 ≤ e ∧ e < n) (hv : τ i e = v) (t : wi_y d M (pc + 1) L (.long (wJ v) :: st) S σ τ Q) : wi_y d M pc L (.int (wI e) :: .ref i :: st) S σ τ Q := fun K => by
  obtain ⟨h1, h2⟩ := in_of (σ := σ) (τ := τ) (ho K) he hn
  refine g52 hI ⟨oK_ok (ho K), h1⟩ ?_
  rw [h2, rd_l he.1 hv]
  exact t K
theorem i53_y {i n : Nat} {e : Int} (hI : pg_cd M pc = (53, a, b, k, z)) (ho : kO_y S σ τ → oK S i (3 + a) n) (hn : n < 2147483648) (he : 0 ≤ e ∧ e < n) (t1 : S.2.2.2 i e.toNat = none → wi_y d M (pc + 1) L (.null :: st) S σ τ Q) (t2 : ∀ j, S.2.2.2 i e.toNat = some j → wi_y d M (pc + 1) L (.ref j :: st) S σ τ Q) : wi_y d M pc L (.int (wI e) :: .ref i :: st) S σ τ Q := fun K => by
  obtain ⟨h1, h2⟩ := in_of (σ := σ) (τ := τ) (ho K) he hn
  refine g53b hI ⟨oK_ok (ho K), h1⟩ (fun q => ?_) (fun j q => ?_)
  · rw [h2] at q; exact t1 q K
  · rw [h2] at q; exact t2 j q K
theorem i54_y {i n : Nat} {e v w : Int} (hI : pg_cd M pc = (54, a, b, k, z)) (ho : kO_y S σ τ → oK S i 0 n) (hn : n < 2147483648) (he : 0 ≤ e ∧ e < n) (hc : isR i = false) (hw : wI w = wI v) (rw' : rg w) (hσ : uc σ i (u1 (σ i) e w) = σ1) (t : wi_y d M (pc + 1) L st S σ1 τ Q) : wi_y d M pc L (.int (wI v) :: .int (wI e) :: .ref i :: st) S σ τ Q := fun K => by
  obtain ⟨h1, h2⟩ := in_of (σ := σ) (τ := τ) (ho K) he hn
  refine g54 hI ⟨oK_ok (ho K), h1⟩ (fun h1 e1 => ?_)
  rw [e1, h2, hp_pi he.1 hw, hσ]
  exact t (hσ ▸ kO_w1_y K rw' hc)
theorem i55_y {i n : Nat} {e v w : Int} (hI : pg_cd M pc = (55, a, b, k, z)) (ho : kO_y S σ τ → oK S i 2 n) (hn : n < 2147483648) (he : 0 ≤ e ∧ e < n) (hc : isR i = false) (hw : v = w) (hb : w = 0 ∨ w = 1) (hσ : uc σ i (u1 (σ i) e w) = σ1) (t : wi_y d M (pc + 1) L st S σ1 τ Q) : wi_y d M pc L (.int (wI v) :: .int (wI e) :: .ref i :: st) S σ τ Q := fun K => by
  obtain ⟨h1, h2⟩ := in_of (σ := σ) (τ := τ) (ho K) he hn
  refine g55 hI ⟨oK_ok (ho K), h1⟩ (fun h1 e1 => ?_)
  have e3 : wI w = (wI v &&& 1) := by subst hw; rcases hb with rfl | rfl <;> decide
  rw [e1, h2, hp_pi he.1 e3, hσ]
  exact t (hσ ▸ kO_w1_y K (by omega) hc)
theorem i56_y {i n : Nat} {e v w : Int} (hI : pg_cd M pc = (56, a, b, k, z)) (ho : kO_y S σ τ → oK S i 1 n) (hn : n < 2147483648) (he : 0 ≤ e ∧ e < n) (hw : wJ w = wJ v) (rw' : rj w) (hσ : uc τ i (u1 (τ i) e w) = τ1) (t : wi_y d M (pc + 1) L st S σ τ1 Q) : wi_y d M pc L (.long (wJ v) :: .int (wI e) :: .ref i :: st) S σ τ Q := fun K => by
  obtain ⟨h1, h2⟩ := in_of (σ := σ) (τ := τ) (ho K) he hn
  refine g56 hI ⟨oK_ok (ho K), h1⟩ (fun h1 e1 => ?_)
  rw [e1, h2, hp_pl he.1 hw, hσ]
  exact t (hσ ▸ kO_j1_y K rw')
theorem i58_y {i n : Nat} {v : Int} (hI : pg_cd M pc = (58, a, b, k, z)) (ho : kO_y S σ τ → oK S i a n) (hv : (n : Int) = v) (t : wi_y d M (pc + 1) L (.int (wI v) :: st) S σ τ Q) : wi_y d M pc L (.ref i :: st) S σ τ Q := fun K => g58 hI (Or.inr (oK_ok (ho K))) (by rw [oK_len (ho K), wI_ofNat, hv]; exact t K)
theorem i61_y {i : Nat} (hI : pg_cd M pc = (61, a, b, k, z)) (ho : (st.map fun v => v.category).sum ≤ 8) (t : wi_y d M (pc + 3) L st S σ τ Q) : wi_y d M pc L (.ref i :: st) S σ τ Q := fun K => g61 hI ho (t K)
theorem i72_y {x y : Int} (hI : pg_cd M pc = (72, a, b, k, z)) (hr : (st.map fun v => v.category).sum ≤ 8) (hd : 7 ≤ d) (rx : rg x) (ry : rg y) (hy : 0 < y) (t : wi_y d M (pc + 3) L (.int (wI (x / y)) :: st) S σ τ Q) : wi_y d M pc L (.int (wI y) :: .int (wI x) :: st) S σ τ Q := fun K => by
  refine g72 hI hr hd (wI_ne0 ry (by omega)) ?_
  have e : (if 0 ≤ wI x ^^^ wI y then wI x / wI y else if wI x / wI y * wI y = wI x then wI x / wI y else wI x / wI y + (-1)) = wI (x / y) := by
    have hy0 : ¬ wI y < 0 := by rw [← wI_0, wI_lt ry (by decide)]; omega
    have hs : (0 ≤ wI x ^^^ wI y) ↔ 0 ≤ x := by
      have e1 : (0 ≤ wI x ^^^ wI y) ↔ 0 ≤ wI x := by
        have : ∀ p q : Int32, ¬ q < 0 → ((0 ≤ p ^^^ q) ↔ 0 ≤ p) := by
          intro p q hq
          rw [Int32.le_iff_toBitVec_sle, Int32.le_iff_toBitVec_sle]
          have hq' : q.toBitVec.msb = false := by
            rw [Bool.eq_false_iff]
            intro hm
            apply hq
            rw [Int32.lt_iff_toInt_lt]
            have := BitVec.toInt_neg_of_msb_true hm
            exact this
          have a1 : ∀ v : BitVec 32, ((0 : Int32).toBitVec.sle v = true) ↔ v.msb = false := by
            intro v
            rw [BitVec.sle_iff_toInt_le]
            show (0 : Int) ≤ v.toInt ↔ _
            rw [BitVec.msb_eq_toInt, decide_eq_false_iff_not]
            omega
          rw [a1, a1, Int32.toBitVec_xor, BitVec.msb_xor, hq', Bool.xor_false]
        exact this _ _ hy0
      rw [e1, ← wI_0, wI_le (by decide) rx]
    rw [wI_div rx ry]
    by_cases h0 : 0 ≤ x
    · rw [if_pos (hs.mpr h0), Int.tdiv_eq_ediv_of_nonneg h0]
    · rw [if_neg (fun q => h0 (hs.mp q)), wI_mul]
      have hm1 : x.tmod y ≤ 0 := by
        have := Int.tmod_nonneg (a := -x) y (by omega)
        rw [Int.neg_tmod] at this
        omega
      have hm2 : -y < x.tmod y := by
        have := Int.tmod_lt_of_pos (-x) hy
        rw [Int.neg_tmod] at this
        omega
      have hx3 : y * x.tdiv y + x.tmod y = x := Int.mul_tdiv_add_tmod x y
      have rq : rg (x.tdiv y * y) := by rw [Int.mul_comm]; exact ⟨by omega, by omega⟩
      by_cases h1 : x.tdiv y * y = x
      · rw [if_pos (by rw [h1])]
        rw [Int.mul_comm] at h1
        rw [((Int.ediv_emod_unique (a := x) (b := y) (r := 0) (q := x.tdiv y) hy).mpr ⟨by omega, by omega, hy⟩).1]
      · rw [if_neg (fun q => h1 ((wI_inj rq rx).mp q)), show (-1 : Int32) = wI (-1) from rfl, wI_add]
        rw [Int.mul_comm] at h1
        rw [((Int.ediv_emod_unique (a := x) (b := y) (r := x.tmod y + y) (q := x.tdiv y + -1) hy).mpr ⟨by rw [Int.mul_add]; omega, by omega, by omega⟩).1]
  rw [e]
  exact t K
end ZR

section ZR
variable {d M pc : Nat} {L st L' : List Value} {S : zS} {σ τ σ1 τ1 : zI} {Q : zQ} {a b k : Nat} {z : Int}
theorem i90_y {v : Int} (hI : pg_cd M pc = (90, a, b, k, z)) (t : Q (some (.int (wI v))) S σ τ) : wi_y d M pc L [.int (wI v)] S σ τ Q := fun K => g90 hI ⟨S, σ, τ, rfl, K, t⟩
theorem i91_y {v : Int} (hI : pg_cd M pc = (91, a, b, k, z)) (hv : v = 0 ∨ v = 1) (t : Q (some (.int (wI v))) S σ τ) : wi_y d M pc L [.int (wI v)] S σ τ Q := fun K => g91 hI ⟨by rcases hv with rfl | rfl; exact Or.inl rfl; exact Or.inr rfl, S, σ, τ, rfl, K, t⟩
theorem i92_y {v : Int} (hI : pg_cd M pc = (92, a, b, k, z)) (t : Q (some (.long (wJ v))) S σ τ) : wi_y d M pc L [.long (wJ v)] S σ τ Q := fun K => g92 hI ⟨S, σ, τ, rfl, K, t⟩
theorem i93a_y {v : Nat} (hI : pg_cd M pc = (93, a, b, k, z)) (t : Q (some (.ref v)) S σ τ) : wi_y d M pc L [.ref v] S σ τ Q := fun K => g93a hI ⟨S, σ, τ, rfl, K, t⟩
theorem i93n_y (hI : pg_cd M pc = (93, a, b, k, z)) (t : Q (some .null) S σ τ) : wi_y d M pc L [.null] S σ τ Q := fun K => g93n hI ⟨S, σ, τ, rfl, K, t⟩
theorem i94_y (hI : pg_cd M pc = (94, a, b, k, z)) (t : Q none S σ τ) : wi_y d M pc L [] S σ τ Q := fun K => g94 hI ⟨S, σ, τ, rfl, K, t⟩
theorem i80_y {As rest : List Value} {i n c na mx : Nat} (hI : pg_cd M pc = (80, a, b, k, z)) (hm : pg_mc a = c ∧ pg_na a = na ∧ pg_mx a = mx) (hst : st = As.reverse ++ .ref i :: rest) (hn : As.length = na) (hr : (rest.map fun v => v.category).sum ≤ 8) (hl : (ab_sl (.ref i :: As)).length ≤ mx) (ho : kO_y S σ τ → oK S i (100 + c) n) (t : wc_y d a (.ref i :: As) S σ τ (fun r S' σ' τ' => wi_y (d + 1) M (pc + 3) L (r.toList ++ rest) S' σ' τ' Q)) : wi_y (d + 1) M pc L st S σ τ Q := fun K => by
  obtain ⟨rfl, rfl, rfl⟩ := hm
  refine g80 hI hst hn hr hl (oK_ok (ho K)) (wq_to (t K) ?_)
  rintro r h' ⟨S', σ', τ', e, K', q⟩
  subst e
  exact q K'
theorem i81_y {As rest : List Value} {c na mx : Nat} (hI : pg_cd M pc = (81, a, b, k, z)) (hm : pg_mc a = c ∧ pg_na a = na ∧ pg_mx a = mx) (hst : st = As.reverse ++ rest) (hn : As.length = na) (hr : (rest.map fun v => v.category).sum ≤ 8) (hl : (ab_sl As).length ≤ mx) (t : wc_y d a As S σ τ (fun r S' σ' τ' => wi_y (d + 1) M (pc + 3) L (r.toList ++ rest) S' σ' τ' Q)) : wi_y (d + 1) M pc L st S σ τ Q := fun K => by
  obtain ⟨rfl, rfl, rfl⟩ := hm
  refine g81 hI hst hn hr hl (wq_to (t K) ?_)
  rintro r h' ⟨S', σ', τ', e, K', q⟩
  subst e
  exact q K'
theorem wc_of_y {As B : List Value} {c na mx : Nat} (hm : pg_mc M = c ∧ pg_na M = na ∧ pg_mx M = mx) (he : ab_ent As mx = B) (t : wi_y d M 0 B [] S σ τ Q) : wc_y d M As S σ τ Q := fun K => by
  obtain ⟨rfl, rfl, rfl⟩ := hm
  subst he
  exact t K
theorem i62_y {i j n1 n2 : Nat} {sp dp n : Int} (hI : pg_cd M pc = (62, a, b, k, z)) (hr : (st.map fun v => v.category).sum ≤ 8) (hi : kO_y S σ τ → oK S i 0 n1) (hj : kO_y S σ τ → oK S j 0 n2) (h1 : n1 < 2147483648) (h2 : n2 < 2147483648) (hb : 0 ≤ sp ∧ 0 ≤ dp ∧ 0 ≤ n ∧ sp + n ≤ n1 ∧ dp + n ≤ n2) (hc : isR j = false) (hσ : uc σ j (fun k => if dp ≤ k ∧ k < dp + n then σ i (sp + (k - dp)) else σ j k) = σ1) (t : wi_y d M (pc + 3) L st S σ1 τ Q) : wi_y d M pc L (.int (wI n) :: .int (wI dp) :: .ref j :: .int (wI sp) :: .ref i :: st) S σ τ Q := fun K => by
  obtain ⟨b1, b2, b3, b4, b5⟩ := hb
  have r1 : rg sp := ⟨by omega, by omega⟩
  have r2 : rg dp := ⟨by omega, by omega⟩
  have r3 : rg n := ⟨by omega, by omega⟩
  have c1 := wI_clamp b1 r1
  have c2 := wI_clamp b2 r2
  have c3 := wI_clamp b3 r3
  have nn : ∀ x : Int, 0 ≤ x → rg x → ¬ wI x < 0 := fun x h0 hx q => by
    rw [← wI_0, wI_lt hx (by decide)] at q; omega
  refine g62 hI ⟨⟨oK_ok (hi K), oK_ok (hj K)⟩, ⟨nn _ b1 r1, nn _ b2 r2, nn _ b3 r3⟩, ?_, ?_, hr⟩ (fun h1 e => ?_)
  · rw [c1, c3, oK_len (hi K)]; omega
  · rw [c2, c3, oK_len (hj K)]; omega
  · have e2 : ab_row (hp S σ τ) j (va_cpy (ab_i (hp S σ τ) i) (ab_i (hp S σ τ) j) (wI sp).toNatClampNeg (wI dp).toNatClampNeg (wI n).toNatClampNeg) = hp S σ1 τ := by
      rw [← hσ, c1, c2, c3]
      unfold ab_row hp
      simp only [Prod.mk.injEq, true_and, and_true]
      funext x y
      unfold uc va_cpy ab_i
      by_cases hx : x = j
      · rw [if_pos hx, if_pos hx]
        dsimp only
        by_cases hy : dp.toNat ≤ y ∧ y < dp.toNat + n.toNat
        · rw [if_pos hy, if_pos (by omega)]
          have : ((sp.toNat + (y - dp.toNat) : Nat) : Int) = sp + ((y : Int) - dp) := by omega
          rw [this]
        · rw [if_neg hy, if_neg (by omega)]
      · rw [if_neg hx, if_neg hx]
    rw [e, e2]
    refine t (hσ ▸ kO_w_y K (fun k => ?_) hc)
    split
    · exact K.2.1 _ _
    · exact K.2.1 _ _
theorem i73_y {x y : Int} (hI : pg_cd M pc = (73, a, b, k, z)) (hr : (st.map fun v => v.category).sum ≤ 8) (hd : 7 ≤ d) (rx : rg x) (ry : rg y) (t : wi_y d M (pc + 3) L (.int (wI (max x y)) :: st) S σ τ Q) : wi_y d M pc L (.int (wI y) :: .int (wI x) :: st) S σ τ Q := fun K => g73 hI hr hd (by
  have e : (if wI x < wI y then wI y else wI x) = wI (max x y) := by
    by_cases c : x < y
    · rw [if_pos ((wI_lt rx ry).mpr c), Int.max_eq_right (by omega)]
    · rw [if_neg (fun q => c ((wI_lt rx ry).mp q)), Int.max_eq_left (by omega)]
  rw [e]; exact t K)
theorem i74_y {x y : Int} (hI : pg_cd M pc = (74, a, b, k, z)) (hr : (st.map fun v => v.category).sum ≤ 8) (hd : 7 ≤ d) (rx : rg x) (ry : rg y) (t : wi_y d M (pc + 3) L (.int (wI (min x y)) :: st) S σ τ Q) : wi_y d M pc L (.int (wI y) :: .int (wI x) :: st) S σ τ Q := fun K => g74 hI hr hd (by
  have e : (if wI y < wI x then wI y else wI x) = wI (min x y) := by
    by_cases c : y < x
    · rw [if_pos ((wI_lt ry rx).mpr c), Int.min_eq_right (by omega)]
    · rw [if_neg (fun q => c ((wI_lt ry rx).mp q)), Int.min_eq_left (by omega)]
  rw [e]; exact t K)
theorem i75_y {x : Int} (hI : pg_cd M pc = (75, a, b, k, z)) (hr : (st.map fun v => v.category).sum ≤ 8) (hd : 7 ≤ d) (rx : rg x) (t : wi_y d M (pc + 3) L (.int (wI (max x (-x))) :: st) S σ τ Q) : wi_y d M pc L (.int (wI x) :: st) S σ τ Q := fun K => g75 hI hr hd (by
  have e : (if 0 ≤ wI x then wI x else 0 - wI x) = wI (max x (-x)) := by
    have e0 : (0 ≤ wI x) ↔ 0 ≤ x := by rw [← wI_0]; exact wI_le (by decide) rx
    by_cases c : 0 ≤ x
    · rw [if_pos (e0.mpr c), Int.max_eq_left (by omega)]
    · rw [if_neg (fun q => c (e0.mp q)), Int.max_eq_right (by omega), ← wI_0, wI_sub, Int.zero_sub]
  rw [e]; exact t K)
theorem i76_y {x y : Int} (hI : pg_cd M pc = (76, a, b, k, z)) (hr : (st.map fun v => v.category).sum ≤ 8) (hd : 7 ≤ d) (rx : rj x) (ry : rj y) (t : wi_y d M (pc + 3) L (.long (wJ (max x y)) :: st) S σ τ Q) : wi_y d M pc L (.long (wJ y) :: .long (wJ x) :: st) S σ τ Q := fun K => g76 hI hr hd (by
  have e : (if wJ y < wJ x then wJ x else wJ y) = wJ (max x y) := by
    by_cases c : y < x
    · rw [if_pos ((wJ_lt ry rx).mpr c), Int.max_eq_left (by omega)]
    · rw [if_neg (fun q => c ((wJ_lt ry rx).mp q)), Int.max_eq_right (by omega)]
  rw [e]; exact t K)
theorem i77_y {x y : Int} (hI : pg_cd M pc = (77, a, b, k, z)) (hr : (st.map fun v => v.category).sum ≤ 8) (hd : 7 ≤ d) (rx : rj x) (ry : rj y) (t : wi_y d M (pc + 3) L (.long (wJ (min x y)) :: st) S σ τ Q) : wi_y d M pc L (.long (wJ y) :: .long (wJ x) :: st) S σ τ Q := fun K => g77 hI hr hd (by
  have e : (if wJ y < wJ x then wJ y else wJ x) = wJ (min x y) := by
    by_cases c : y < x
    · rw [if_pos ((wJ_lt ry rx).mpr c), Int.min_eq_right (by omega)]
    · rw [if_neg (fun q => c ((wJ_lt ry rx).mp q)), Int.min_eq_left (by omega)]
  rw [e]; exact t K)
theorem i78_y (hI : pg_cd M pc = (78, a, b, k, z)) (hd : 7 ≤ d) (t : wi_y d M (pc + a) L (.retAddr 1 :: st) S σ τ Q) : wi_y d M pc L st S σ τ Q := fun K => g78 hI hd (t K)
theorem i70_y {n : Int} (hI : pg_cd M pc = (70, a, b, k, z)) (hr : (st.map fun v => v.category).sum ≤ 8) (hd : 7 ≤ d) (hn : (pg_tx.length : Int) = n) (t : wi_y d M (pc + 3) L (.int (wI n) :: st) S σ τ Q) : wi_y d M pc L (.retAddr 1 :: st) S σ τ Q := fun K => g70 hI hr hd (by rw [wI_ofNat, hn]; exact t K)
theorem i71_y {x : Int} (hI : pg_cd M pc = (71, a, b, k, z)) (hr : (st.map fun v => v.category).sum ≤ 8) (hd : 7 ≤ d) (hx : 0 ≤ x ∧ x < pg_tx.length) (t : wi_y d M (pc + 3) L (.int (wI (pg_tx.getD x.toNat 0)) :: st) S σ τ Q) : wi_y d M pc L (.int (wI x) :: .retAddr 1 :: st) S σ τ Q := fun K => by
  have hl : pg_tx.length < 1000 := by decide
  have r : rg x := ⟨by omega, by omega⟩
  refine g71 hI hr hd (wI_in hx.1 hx.2 r) ?_
  rw [wI_clamp hx.1 r]
  exact t K
end ZR
theorem rge__y {S : zS} {σ τ : zI} (K : kO_y S σ τ) {c : Nat} {e v : Int} (hv : σ c e = v) : rg v := hv ▸ K.2.1 c e
theorem rje__y {S : zS} {σ τ : zI} (K : kO_y S σ τ) {c : Nat} {e v : Int} (hv : τ c e = v) : rj v := hv ▸ K.2.2.1 c e
theorem wi_v_y {d M pc : Nat} {L st : List Value} {S : zS} {σ τ : zI} {Q : zQ} {v0 v : Int} (h : v0 = v) (t : wi_y d M pc L (.int (wI v) :: st) S σ τ Q) : wi_y d M pc L (.int (wI v0) :: st) S σ τ Q := by subst h; exact t
theorem wi_s_y {d M pc : Nat} {L st : List Value} {S : zS} {σ σ1 τ : zI} {Q : zQ} (h : σ = σ1) (t : wi_y d M pc L st S σ1 τ Q) : wi_y d M pc L st S σ τ Q := by subst h; exact t
theorem i46c_y {d M pc : Nat} {L st : List Value} {S : zS} {σ τ σ' σ1 : zI} {Q : zQ} {a b : Nat} {z : Int} {i n w n' : Nat} {v v2 : Int} (hI : pg_cd M pc = (46, a, b, 2, z)) (ho : kO_y S σ τ → oK S i (100 + a) n) (hR : oW S σ' i w n') (hw : wI v2 = wI v) (hb : 0 ≤ v2 ∧ v2 * w ≤ n') (hσ : uc σ i (u1 (σ i) 2 v2) = σ1) (t : wi_y d M (pc + 3) L st S σ1 τ Q) : wi_y d M pc L (.int (wI v) :: .ref i :: st) S σ τ Q := fun K => g46 hI (oK_ok (ho K)) (fun h1 e => by
  have e2 := hp_pi (S := S) (σ := σ) (τ := τ) (c := i) (e := 2) (by decide) hw
  rw [show (2 : Int).toNat = 2 from rfl] at e2
  rw [e, e2, hσ]
  exact t (hσ ▸ kO_cnt_y K hR hb.1 hb.2))

set_option maxRecDepth 20000 in
theorem u_56_0_y {d : Nat} {S : zS} {σ τ : zI} {Q : zQ} {x0 : Nat} {wx0 : Nat} {nx0 : Nat} {x1 : Int} {x2 : Int} {x3 : Int} (hx0 : oW S σ x0 wx0 nx0) (t : (rg x1) ∧ if x1 < 0 then (Q none S σ τ) else (if (σ x0 2) ≤ x1 then (Q none S σ τ) else ((rg x2) ∧ if x2 < 0 then (Q none S σ τ) else (if (σ x0 0) ≤ x2 then (Q none S σ τ) else ((0 ≤ (x1 * (σ x0 0)) + x2 ∧ (x1 * (σ x0 0)) + x2 < nx0) ∧ ∃ w9 : Int, wI w9 = wI x3 ∧ rg w9 ∧ Q none S (uc σ (x0 + 1) (u1 (σ (x0 + 1)) ((x1 * (σ x0 0)) + x2) w9)) τ))))) : wi_y (d + 0) 56 0 [.ref x0, .int (wI x1), .int (wI x2), .int (wI x3)] [] S σ τ Q := by
  obtain ⟨r1, t⟩ := t
  refine i3_y c_56_0 rfl ?_
  refine i36_y c_56_1 r1 rfl (fun hc => ?_) (fun hc => ?_)
  · have t := iT t hc
    have ha2 : x1 < 0 := hc
    exact i94_y c_56_38 t
  · have t := iF t hc
    have ha2 : ¬ (x1 < 0) := hc
    refine i3_y c_56_4 rfl (i5_y c_56_5 rfl (wi_ok_y (fun K3 => ?_)))
    refine i43_y (v := σ x0 2) c_56_6 (fun _ => hx0.1) rfl ?_
    refine i37_y c_56_9 r1 (rge__y K3 rfl) rfl (fun hc => ?_) (fun hc => ?_)
    · have t := iT t hc
      have ha4 : (σ x0 2) ≤ x1 := hc
      exact i94_y c_56_38 t
    · have t := iF t hc
      have ha4 : ¬ ((σ x0 2) ≤ x1) := hc
      obtain ⟨r5, t⟩ := t
      refine i3_y c_56_12 rfl ?_
      refine i36_y c_56_13 r5 rfl (fun hc => ?_) (fun hc => ?_)
      · have t := iT t hc
        have ha6 : x2 < 0 := hc
        exact i94_y c_56_38 t
      · have t := iF t hc
        have ha6 : ¬ (x2 < 0) := hc
        refine i3_y c_56_16 rfl (i5_y c_56_17 rfl (i43_y (v := σ x0 0) c_56_18 (fun _ => hx0.1) rfl ?_))
        refine i37_y c_56_21 r5 (rge__y K3 rfl) rfl (fun hc => ?_) (fun hc => ?_)
        · have t := iT t hc
          have ha7 : (σ x0 0) ≤ x2 := hc
          exact i94_y c_56_38 t
        · have t := iF t hc
          have ha7 : ¬ ((σ x0 0) ≤ x2) := hc
          obtain ⟨r8, t⟩ := t
          obtain ⟨w9, e10, r11, t⟩ := t
          refine i5_y c_56_24 rfl (i45_y c_56_25 (fun _ => hx0.1) (fun _ => hx0.2.1) (i3_y c_56_28 rfl (i5_y c_56_29 rfl (i43_y (v := σ x0 0) c_56_30 (fun _ => hx0.1) rfl (i12_y c_56_33 (i3_y c_56_34 rfl (i10_y c_56_35 (i3_y c_56_36 rfl (i54_y (σ1 := uc σ (x0 + 1) (u1 (σ (x0 + 1)) ((x1 * (σ x0 0)) + x2) w9)) c_56_37 (fun _ => hx0.2.2.1) (by have := hx0.2.2.2.2.2.2.2.1; omega) r8 hx0.2.2.2.2.2.2.2.2.1 e10 r11 (wr_ rfl rfl) ?_)))))))))
          exact i94_y c_56_38 t
theorem q_put_y {d : Nat} {S : zS} {σ τ : zI} {Q : zQ} {r w n : Nat} {row k v v2 : Int} (hR : kO_y S σ τ → oW S σ r w n) (rr : rg row) (hb : 0 ≤ row ∧ row < σ r 2) (hk : 0 ≤ k ∧ k < w ∧ k < 1000) (hv : wI v2 = wI v) (rv : rg v2) (t : Q none S (uc σ (r + 1) (u1 (σ (r + 1)) (row * w + k) v2)) τ) : wc_y (d + 0) 56 [.ref r, .int (wI row), .int (wI k), .int (wI v)] S σ τ Q := by
  refine wc_ok_y fun K => ?_
  have hr := hR K
  have hw : σ r 0 = w := hr.2.2.2.1
  refine wc_of_y mi_56 rfl (u_56_0_y hr ⟨rr, ?_⟩)
  rw [hw, if_neg (by omega), if_neg (by omega)]
  refine ⟨by omega, ?_⟩
  rw [if_neg (by omega), if_neg (by omega)]
  exact ⟨rw_ix hr hb ⟨hk.1, hk.2.1⟩, v2, hv, rv, t⟩
theorem wi_t_y {d M pc : Nat} {L st : List Value} {S : zS} {σ τ τ1 : zI} {Q : zQ} (h : τ = τ1) (t : wi_y d M pc L st S σ τ1 Q) : wi_y d M pc L st S σ τ Q := by subst h; exact t
set_option maxRecDepth 20000 in
theorem u_327_0_y {d : Nat} {S : zS} {σ τ : zI} {Q : zQ} {x0 : Int} {x1 : Int} {x2 : Int} (t : (rg x1) ∧ (rg x2) ∧ if x1 ≤ x2 then (if (0 : Int) ≤ x1 then ((rg x0) ∧ if x2 ≤ x0 then (Q none S σ τ) else (False)) else (False)) else (False)) : wi_y (d + 0) 327 0 [.int (wI x0), .int (wI x1), .int (wI x2)] [] S σ τ Q := by
  obtain ⟨r1, t⟩ := t
  obtain ⟨r2, t⟩ := t
  refine i3_y c_327_0 rfl (i3_y c_327_1 rfl ?_)
  refine i37_y c_327_2 r1 r2 rfl (fun hc => ?_) (fun hc => ?_)
  · have t := iT t hc
    have ha3 : x1 ≤ x2 := hc
    refine i3_y c_327_46 rfl ?_
    refine i36_y c_327_47 r1 rfl (fun hc => ?_) (fun hc => ?_)
    · have t := iT t hc
      have ha4 : (0 : Int) ≤ x1 := hc
      obtain ⟨r5, t⟩ := t
      refine i3_y c_327_59 rfl (i3_y c_327_60 rfl ?_)
      refine i37_y c_327_61 r2 r5 rfl (fun hc => ?_) (fun hc => ?_)
      · have t := iT t hc
        have ha6 : x2 ≤ x0 := hc
        exact i94_y c_327_73 t
      · have t := iF t hc
        have ha6 : ¬ (x2 ≤ x0) := hc
        exact t.elim
    · have t := iF t hc
      have ha4 : ¬ ((0 : Int) ≤ x1) := hc
      exact t.elim
  · have t := iF t hc
    have ha3 : ¬ (x1 ≤ x2) := hc
    exact t.elim
theorem q_327_y {d : Nat} {S : zS} {σ τ : zI} {Q : zQ} {len : Int} {lo : Int} {hi : Int} (p0 : rg len) (p1 : rg lo) (p2 : rg hi) (p3 : 0 ≤ lo ∧ lo ≤ hi ∧ hi ≤ len) (t : Q none S σ τ) : wc_y (d + 0) 327 [.int (wI len), .int (wI lo), .int (wI hi)] S σ τ Q := by
  refine wc_of_y mi_327 rfl (u_327_0_y ⟨p1, p2, ?_⟩)
  rw [if_pos (by omega), if_pos (by omega)]
  refine ⟨p0, ?_⟩
  rw [if_pos (by omega)]
  exact t
set_option maxRecDepth 20000 in
theorem u_330_0_y {d : Nat} {S : zS} {σ τ : zI} {Q : zQ} {nx0 : Nat} {x0 : Nat} {x1 : Int} {x2 : Int} {x3 : Int} (hx0 : (∀ σ τ, kO_y S σ τ → oK S x0 0 nx0) ∧ isR x0 = false) (hnx0 : nx0 < 2147483648) (t : (rg x1) ∧ (rg x2) ∧ (0 ≤ x1 ∧ x1 ≤ x2 ∧ x2 ≤ nx0) ∧ wi_y (d + 1) 330 10 [.ref x0, .int (wI x1), .int (wI x2), .int (wI x3), .int (wI x1)] [] S σ τ Q) : wi_y (d + 1) 330 0 [.ref x0, .int (wI x1), .int (wI x2), .int (wI x3), .retAddr 0] [] S σ τ Q := by
  obtain ⟨r1, t⟩ := t
  obtain ⟨r2, t⟩ := t
  obtain ⟨p3, t⟩ := t
  refine i5_y c_330_0 rfl (i58_y (v := nx0) c_330_1 (hx0.1 _ _) rfl (i3_y c_330_2 rfl (i3_y c_330_3 rfl ?_)))
  refine i81_y (As := [.int (wI nx0), .int (wI x1), .int (wI x2)]) (rest := []) c_330_4 mi_327 rfl rfl (Nat.le_of_ble_eq_true rfl) (Nat.le_of_ble_eq_true rfl) (q_327_y (by omega) r1 r2 p3 ?_)
  show wi_y (d + 1) 330 7 [.ref x0, .int (wI x1), .int (wI x2), .int (wI x3), .retAddr 0] [] S σ τ Q
  refine i3_y c_330_7 rfl (i6_y (L' := [.ref x0, .int (wI x1), .int (wI x2), .int (wI x3), .int (wI x1)]) c_330_8 rfl t)
set_option maxRecDepth 20000 in
theorem u_330_10_y {d : Nat} {S : zS} {σ τ : zI} {Q : zQ} {nx0 : Nat} {x0 : Nat} {x1 : Int} {x2 : Int} {x3 : Int} {x4 : Int} (hx0 : (∀ σ τ, kO_y S σ τ → oK S x0 0 nx0) ∧ isR x0 = false) (hnx0 : nx0 < 2147483648) (t : (rg x4) ∧ (rg x2) ∧ if x2 ≤ x4 then (Q none S σ τ) else ((0 ≤ x4 ∧ x4 < nx0) ∧ ∃ w5 : Int, wI w5 = wI x3 ∧ rg w5 ∧ wi_y (d + 1) 330 10 [.ref x0, .int (wI x1), .int (wI x2), .int (wI x3), .int (wI (x4 + 1))] [] S (uc σ x0 (u1 (σ x0) x4 w5)) τ Q)) : wi_y (d + 1) 330 10 [.ref x0, .int (wI x1), .int (wI x2), .int (wI x3), .int (wI x4)] [] S σ τ Q := by
  obtain ⟨r1, t⟩ := t
  obtain ⟨r2, t⟩ := t
  refine i3_y c_330_10 rfl (i3_y c_330_12 rfl ?_)
  refine i37_y c_330_13 r1 r2 rfl (fun hc => ?_) (fun hc => ?_)
  · have t := iT t hc
    have ha3 : x2 ≤ x4 := hc
    exact i94_y c_330_27 t
  · have t := iF t hc
    have ha3 : ¬ (x2 ≤ x4) := hc
    obtain ⟨r4, t⟩ := t
    obtain ⟨w5, e6, r7, t⟩ := t
    refine i5_y c_330_16 rfl (i3_y c_330_17 rfl (i3_y c_330_19 rfl (i54_y (σ1 := uc σ x0 (u1 (σ x0) x4 w5)) c_330_20 (hx0.1 _ _) hnx0 r4 hx0.2 e6 r7 (wr_ rfl rfl) (i9_y (L' := [.ref x0, .int (wI x1), .int (wI x2), .int (wI x3), .int (wI (x4 + 1))]) c_330_21 rfl rfl (i38_y c_330_24 rfl t)))))
theorem q_330_y {d : Nat} {S : zS} {σ τ : zI} {Q : zQ} {arr : Nat} {n_arr : Nat} {lo : Int} {hi : Int} {v : Int} (harr : (∀ σ τ, kO_y S σ τ → oK S arr 0 n_arr) ∧ isR arr = false) (hnarr : n_arr < 2147483648) (p0 : rg v) (p1 : (0 ≤ lo ∧ lo ≤ hi ∧ hi ≤ n_arr)) (t : Q none S (uc σ arr (fl_ (σ arr) lo hi v)) τ) : wc_y (d + 1) 330 [.ref arr, .int (wI lo), .int (wI hi), .int (wI v)] S σ τ Q := by
  refine wc_of_y mi_330 rfl (u_330_0_y harr hnarr ⟨by omega, by omega, p1, ?_⟩)
  have key : ∀ k, 0 ≤ k → k ≤ hi - lo → wi_y (d + 1) 330 10 [.ref arr, .int (wI lo), .int (wI hi), .int (wI v), .int (wI (lo + k))] [] S (uc σ arr (fl_ (σ arr) lo (lo + k) v)) τ Q := by
    refine lp_up (fun k h0 h1 ih => ?_)
    refine u_330_10_y harr hnarr ⟨by omega, by omega, ?_⟩
    by_cases c : hi ≤ lo + k
    · have : k = hi - lo := by omega
      subst this
      rw [if_pos (by omega), show lo + (hi - lo) = hi by omega]
      exact t
    · rw [if_neg c]
      refine ⟨by omega, _, rfl, p0, ?_⟩
      rw [uc_uc, uc_s, fl_s (by omega), Int.add_assoc]
      exact ih (by omega)
  have := key 0 (by omega) (by omega)
  rw [Int.add_zero, fl_0, uc_id] at this
  exact this
set_option maxRecDepth 20000 in
theorem u_54_0_y {d : Nat} {S : zS} {σ τ : zI} {Q : zQ} {x0 : Nat} {wx0 : Nat} {nx0 : Nat} (hx0 : oW S σ x0 wx0 nx0) (t : (rg (((σ x0 2) * (σ x0 0)) + (σ x0 0))) ∧ if (((σ x0 2) * (σ x0 0)) + (σ x0 0)) ≤ nx0 then ((0 ≤ ((σ x0 2) * (σ x0 0)) ∧ ((σ x0 2) * (σ x0 0)) ≤ (((σ x0 2) * (σ x0 0)) + (σ x0 0)) ∧ (((σ x0 2) * (σ x0 0)) + (σ x0 0)) ≤ nx0) ∧ ∃ w6 : Int, wI w6 = wI ((σ x0 2) + 1) ∧ rg w6 ∧ (0 ≤ w6 ∧ w6 * wx0 ≤ nx0) ∧ Q (some (.int (wI (w6 - 1)))) S (uc (uc σ (x0 + 1) (fl_ ((σ (x0 + 1))) ((σ x0 2) * (σ x0 0)) (((σ x0 2) * (σ x0 0)) + (σ x0 0)) 0)) x0 (u1 (σ x0) 2 w6)) τ) else (Q (some (.int (wI (-1)))) S σ τ)) : wi_y (d + 2) 54 0 [.ref x0, .retAddr 0] [] S σ τ Q := by
  refine i5_y c_54_0 rfl (wi_ok_y (fun K1 => ?_))
  obtain ⟨r2, t⟩ := t
  refine i43_y (v := σ x0 2) c_54_1 (fun _ => hx0.1) rfl (i5_y c_54_4 rfl (i43_y (v := σ x0 0) c_54_5 (fun _ => hx0.1) rfl (i12_y c_54_8 (i6_y (L' := [.ref x0, .int (wI ((σ x0 2) * (σ x0 0)))]) c_54_9 rfl (i3_y c_54_10 rfl (i5_y c_54_11 rfl (i43_y (v := σ x0 0) c_54_12 (fun _ => hx0.1) rfl (i10_y c_54_15 (i5_y c_54_16 rfl (i45_y c_54_17 (fun _ => hx0.1) (fun _ => hx0.2.1) (i58_y (v := nx0) c_54_20 (fun _ => hx0.2.2.1) rfl ?_)))))))))))
  refine i37_y c_54_21 r2 (by have := hx0.2.2.2.2.2.2.2.1; omega) rfl (fun hc => ?_) (fun hc => ?_)
  · have t := iT t hc
    have ha3 : (((σ x0 2) * (σ x0 0)) + (σ x0 0)) ≤ nx0 := hc
    obtain ⟨p4, t⟩ := t
    refine i5_y c_54_26 rfl (i45_y c_54_27 (fun _ => hx0.1) (fun _ => hx0.2.1) (i3_y c_54_30 rfl (i3_y c_54_31 rfl (i5_y c_54_32 rfl (i43_y (v := σ x0 0) c_54_33 (fun _ => hx0.1) rfl (i10_y c_54_36 (i1_y c_54_37 ?_)))))))
    refine i81_y (As := [.ref (x0 + 1), .int (wI ((σ x0 2) * (σ x0 0))), .int (wI (((σ x0 2) * (σ x0 0)) + (σ x0 0))), .int (wI 0)]) (rest := []) c_54_38 mi_330 rfl rfl (Nat.le_of_ble_eq_true rfl) (Nat.le_of_ble_eq_true rfl) (q_330_y ⟨fun _ _ => (fun _ => hx0.2.2.1), hx0.2.2.2.2.2.2.2.2.1⟩ (by have := hx0.2.2.2.2.2.2.2.1; omega) (by decide) p4 ?_)
    show wi_y (d + 2) 54 41 [.ref x0, .int (wI ((σ x0 2) * (σ x0 0)))] [] S (uc σ (x0 + 1) (fl_ ((σ (x0 + 1))) ((σ x0 2) * (σ x0 0)) (((σ x0 2) * (σ x0 0)) + (σ x0 0)) 0)) τ Q
    refine i5_y c_54_41 rfl (i33a_y c_54_42 (wi_ok_y (fun K5 => ?_)))
    obtain ⟨w6, e7, r8, t⟩ := t
    obtain ⟨b9, t⟩ := t
    refine i43_y (v := σ x0 2) c_54_43 (fun _ => hx0.1) (congrFun (uc_ns rfl (by omega)) _) (i1_y c_54_46 (i10_y c_54_47 (i46c_y (σ1 := uc (uc σ (x0 + 1) (fl_ ((σ (x0 + 1))) ((σ x0 2) * (σ x0 0)) (((σ x0 2) * (σ x0 0)) + (σ x0 0)) 0)) x0 (u1 (σ x0) 2 w6)) c_54_48 (fun _ => hx0.1) hx0 e7 b9 (wr_ (uc_ns rfl (by omega)) rfl) (i5_y c_54_51 rfl (wi_ok_y (fun K10 => ?_))))))
    refine i43_y (v := w6) c_54_52 (fun _ => hx0.1) ((congrFun (uc_s _ _ _) _).trans (u1_s _ _ _)) (i1_y c_54_55 (i11_y c_54_56 ?_))
    exact i90_y c_54_57 t
  · have t := iF t hc
    have ha3 : ¬ ((((σ x0 2) * (σ x0 0)) + (σ x0 0)) ≤ nx0) := hc
    refine i1_y c_54_24 ?_
    exact i90_y c_54_25 t
theorem q_add_y {d : Nat} {S : zS} {σ τ : zI} {Q : zQ} {r w n : Nat} (hR : kO_y S σ τ → oW S σ r w n) (hc : σ r 2 * w + w ≤ n) (t : Q (some (.int (wI (σ r 2)))) S (uc (uc σ (r + 1) (fl_ (σ (r + 1)) (σ r 2 * w) (σ r 2 * w + w) 0)) r (u1 (σ r) 2 (σ r 2 + 1))) τ) : wc_y (d + 2) 54 [.ref r] S σ τ Q := by
  refine wc_ok_y fun K => ?_
  have hr := hR K
  obtain ⟨h1, h2, h3, hw, h5, h6, h7, h8, h9, -⟩ := id hr
  have a2 : 0 ≤ σ r 2 * w := Int.mul_nonneg h6 (by omega)
  have a3 : σ r 2 * 1 ≤ σ r 2 * w := Int.mul_le_mul_of_nonneg_left (by omega) h6
  refine wc_of_y mi_54 rfl (u_54_0_y hr ?_)
  rw [hw]
  refine ⟨by omega, ?_⟩
  rw [if_pos hc]
  refine ⟨by omega, _, rfl, by omega, ⟨by omega, by rw [Int.add_mul]; omega⟩, ?_⟩
  rw [show σ r 2 + 1 - 1 = σ r 2 by omega]
  exact t
section AL
variable {d M pc : Nat} {L st : List Value} {S : zS} {σ τ : zI} {Q : zQ} {a b k : Nat} {z : Int}
theorem i60_y (hI : pg_cd M pc = (60, a, b, k, z)) (t : wi_y d M (pc + 3) L (.ref S.1 :: st) (nS S (100 + a) 0 k) (uc σ S.1 z0) (uc τ S.1 z0) Q) : wi_y d M pc L st S σ τ Q := fun K => g60 hI (fun h1 e => by
  rw [e, hp_new]
  exact t (kO_new_y K))
theorem i59_y {x : Int} (hI : pg_cd M pc = (59, a, b, k, z)) (hx : 0 ≤ x ∧ x ≤ 1000000) (t : wi_y d M (pc + a) L (.ref S.1 :: st) (nS S k x.toNat x.toNat) (uc σ S.1 z0) (uc τ S.1 z0) Q) : wi_y d M pc L (.int (wI x) :: st) S σ τ Q := fun K => by
  have c := wI_clamp (e := x) hx.1 (by omega)
  refine g59 hI ⟨?_, ?_⟩ (fun h1 e => ?_)
  · rw [← wI_0, wI_lt (by omega) (by decide)]; omega
  · rw [c]; omega
  · rw [e, c, hp_new]
    exact t (kO_new_y K)
theorem i49_y {x i n : Nat} (hI : pg_cd M pc = (49, a, b, k, z)) (ho : oK S i (100 + a) n) (h1 : 100 ≤ i) (t : wi_y d M (pc + 3) L st (pS S i k x) σ τ Q) : wi_y d M pc L (.ref x :: .ref i :: st) S σ τ Q := fun K => g49 hI (oK_ok ho) (fun h1' e => by
  rw [e, hp_pr]
  exact t (kO_pr_y K (Or.inl h1)))
end AL
theorem q_52t_y {d : Nat} {S : zS} {σ τ : zI} {Q : zQ} {r : Nat} (hr : S.1 = r + 1) (r0 : 100 ≤ r) (ho : S.2.2.1 r = (104, 0)) (t : Q none (pS (nS S 0 192 192) r 1 (r + 1)) (uc (uc σ r (u1 (σ r) 0 8)) (r + 1) z0) (uc τ (r + 1) z0)) : wc_y (d + 0) 52 [.ref r, .int (wI 24), .int (wI 8)] S σ τ Q := by
  refine wc_of_y mi_52 rfl (i5_y c_52_0 rfl (i61_y c_52_1 (Nat.le_of_ble_eq_true rfl) (i5_y c_52_4 rfl (i3_y c_52_5 rfl (i46_y (n := 0) c_52_6 (fun _ => ⟨by omega, by omega, ho⟩) (isR_hi r0) rfl (by decide) rfl ?_)))))
  refine i5_y c_52_9 rfl (i3_y c_52_10 rfl (i3_y c_52_11 rfl (i12_y c_52_12 (i59_y c_52_13 (by decide) (i49_y (n := 0) c_52_15 ⟨by omega, by rw [nS_1]; omega, by rw [nS_k (by omega)]; exact ho⟩ r0 (i94_y c_52_18 ?_))))))
  rw [hr]
  exact t
