/-! ===== what is made while it runs: books of WEEKS, TEXTS (segments printed by wip/whole, contracts own work) ===== -/
def nS (S : zS) (kd len sl : Nat) : zS := (S.1 + 1, S.2.1 + sl, (fun a => if a = S.1 then (kd, len) else S.2.2.1 a), fun a => if a = S.1 then fun _ => none else S.2.2.2 a)
def pS (S : zS) (i k x : Nat) : zS := (S.1, S.2.1, S.2.2.1, fun a b => if a = i then (if b = k then some x else S.2.2.2 a b) else S.2.2.2 a b)
def z0 : Int → Int := fun _ => 0
theorem hp_new (S : zS) (σ τ : zI) (kd len sl : Nat) : ab_new (hp S σ τ) kd len sl = hp (nS S kd len sl) (uc σ S.1 z0) (uc τ S.1 z0) := by
  unfold ab_new hp nS
  simp only [Prod.mk.injEq, true_and]
  refine ⟨?_, ?_, trivial⟩
  · funext a b
    unfold uc z0
    by_cases h : a = S.1
    · rw [if_pos h, if_pos h]; rfl
    · rw [if_neg h, if_neg h]
  · funext a b
    unfold uc z0
    by_cases h : a = S.1
    · rw [if_pos h, if_pos h]; rfl
    · rw [if_neg h, if_neg h]
theorem hp_pr (S : zS) (σ τ : zI) (i k x : Nat) : ab_pr (hp S σ τ) i k (some x) = hp (pS S i k x) σ τ := rfl
theorem lw_lt : ∀ q ∈ lwT, q.1 < 100 := by decide
theorem lr_lt : ∀ q ∈ lrT, q.1 < 100 ∧ q.1 ≠ 55 ∧ q.1 ≠ 59 := by decide
theorem kO_new {S : zS} {σ τ : zI} {kd len sl : Nat} (K : kO S σ τ) : kO (nS S kd len sl) (uc σ S.1 z0) (uc τ S.1 z0) := by
  have b := K.1.1
  refine ⟨⟨by show 100 ≤ S.1 + 1; omega, fun c c0 c1 => ?_, fun q hq => ?_⟩, fun c k => ?_, fun c k => ?_, fun q hq => ?_⟩
  · have e : (nS S kd len sl).2.2.1 c = S.2.2.1 c := if_neg (by omega)
    rw [e]; exact K.1.2.1 c c0 c1
  · have := (lr_lt q hq).1
    have e : (nS S kd len sl).2.2.2 q.1 = S.2.2.2 q.1 := if_neg (by omega)
    rw [e]; exact K.1.2.2 q hq
  · unfold uc
    split
    · unfold z0; omega
    · exact K.2.1 c k
  · unfold uc
    split
    · unfold z0; omega
    · exact K.2.2.1 c k
  · have := lw_lt q hq
    rw [uc_n (by omega)]
    exact K.2.2.2 q hq
theorem kO_pr {S : zS} {σ τ : zI} {i k x : Nat} (K : kO S σ τ) (h : 100 ≤ i ∨ i = 55 ∨ i = 59) : kO (pS S i k x) σ τ := by
  refine ⟨⟨K.1.1, K.1.2.1, fun q hq => ?_⟩, K.2.1, K.2.2.1, K.2.2.2⟩
  have := lr_lt q hq
  have e : (pS S i k x).2.2.2 q.1 q.2.1 = S.2.2.2 q.1 q.2.1 := if_neg (by omega)
  rw [e]; exact K.1.2.2 q hq
section AL
variable {d M pc : Nat} {L st : List Value} {S : zS} {σ τ : zI} {Q : zQ} {a b k : Nat} {z : Int}
theorem i60 (hI : pg_cd M pc = (60, a, b, k, z)) (t : wi d M (pc + 3) L (.ref S.1 :: st) (nS S (100 + a) 0 k) (uc σ S.1 z0) (uc τ S.1 z0) Q) : wi d M pc L st S σ τ Q := fun K => g60 hI (fun h1 e => by
  rw [e, hp_new]
  exact t (kO_new K))
theorem i59 {x : Int} (hI : pg_cd M pc = (59, a, b, k, z)) (hx : 0 ≤ x ∧ x ≤ 1000000) (t : wi d M (pc + a) L (.ref S.1 :: st) (nS S k x.toNat x.toNat) (uc σ S.1 z0) (uc τ S.1 z0) Q) : wi d M pc L (.int (wI x) :: st) S σ τ Q := fun K => by
  have c := wI_clamp (e := x) hx.1 (by omega)
  refine g59 hI ⟨?_, ?_⟩ (fun h1 e => ?_)
  · rw [← wI_0, wI_lt (by omega) (by decide)]; omega
  · rw [c]; omega
  · rw [e, c, hp_new]
    exact t (kO_new K)
theorem i49 {x i n : Nat} (hI : pg_cd M pc = (49, a, b, k, z)) (ho : oK S i (100 + a) n) (h1 : 100 ≤ i) (t : wi d M (pc + 3) L st (pS S i k x) σ τ Q) : wi d M pc L (.ref x :: .ref i :: st) S σ τ Q := fun K => g49 hI (oK_ok ho) (fun h1' e => by
  rw [e, hp_pr]
  exact t (kO_pr K (Or.inl h1)))
theorem i57 {v i n m : Nat} {x : Int} (hI : pg_cd M pc = (57, a, b, k, z)) (ho : kO S σ τ → oK S i (3 + a) n) (hv : oK S v (100 + a) m) (hx : 0 ≤ x ∧ x < n) (hn : n < 2147483648) (h1 : i = 55 ∨ i = 59) (t : wi d M (pc + 1) L st (pS S i x.toNat v) σ τ Q) : wi d M pc L (.ref v :: .int (wI x) :: .ref i :: st) S σ τ Q := fun K => by
  have o := ho K
  have q := in_of (σ := σ) (τ := τ) o hx hn
  refine g57 hI ⟨⟨oK_ok o, oK_ok hv⟩, q.1⟩ (fun h1' e => ?_)
  rw [e, q.2, hp_pr]
  exact t (kO_pr K (Or.inr h1))
end AL
theorem c_137_0 : pg_cd 137 0 = (5, 1, 0, 0, 0) := by decide +kernel
theorem c_137_1 : pg_cd 137 1 = (61, 0, 3, 0, 0) := by decide +kernel
theorem c_137_4 : pg_cd 137 4 = (5, 1, 0, 0, 0) := by decide +kernel
theorem c_137_5 : pg_cd 137 5 = (1, 2, 0, 0, 60) := by decide +kernel
theorem c_137_7 : pg_cd 137 7 = (59, 2, 0, 0, 0) := by decide +kernel
theorem c_137_9 : pg_cd 137 9 = (49, 10, 9, 0, 0) := by decide +kernel
theorem c_137_12 : pg_cd 137 12 = (5, 1, 0, 0, 0) := by decide +kernel
theorem c_137_13 : pg_cd 137 13 = (1, 2, 0, 0, 60) := by decide +kernel
theorem c_137_15 : pg_cd 137 15 = (59, 2, 0, 0, 0) := by decide +kernel
theorem c_137_17 : pg_cd 137 17 = (49, 10, 15, 1, 0) := by decide +kernel
theorem c_137_20 : pg_cd 137 20 = (5, 1, 0, 0, 0) := by decide +kernel
theorem c_137_21 : pg_cd 137 21 = (1, 2, 0, 0, 8) := by decide +kernel
theorem c_137_23 : pg_cd 137 23 = (59, 2, 0, 0, 0) := by decide +kernel
theorem c_137_25 : pg_cd 137 25 = (49, 10, 18, 2, 0) := by decide +kernel
theorem c_137_28 : pg_cd 137 28 = (5, 1, 0, 0, 0) := by decide +kernel
theorem c_137_29 : pg_cd 137 29 = (1, 2, 0, 0, 24) := by decide +kernel
theorem c_137_31 : pg_cd 137 31 = (59, 2, 0, 0, 0) := by decide +kernel
theorem c_137_33 : pg_cd 137 33 = (49, 10, 21, 3, 0) := by decide +kernel
theorem c_137_36 : pg_cd 137 36 = (5, 1, 0, 0, 0) := by decide +kernel
theorem c_137_37 : pg_cd 137 37 = (1, 2, 0, 0, 24) := by decide +kernel
theorem c_137_39 : pg_cd 137 39 = (59, 2, 0, 0, 0) := by decide +kernel
theorem c_137_41 : pg_cd 137 41 = (49, 10, 24, 4, 0) := by decide +kernel
theorem c_137_44 : pg_cd 137 44 = (5, 1, 0, 0, 0) := by decide +kernel
theorem c_137_45 : pg_cd 137 45 = (1, 2, 0, 0, 24) := by decide +kernel
theorem c_137_47 : pg_cd 137 47 = (59, 2, 0, 0, 0) := by decide +kernel
theorem c_137_49 : pg_cd 137 49 = (49, 10, 27, 5, 0) := by decide +kernel
theorem c_137_52 : pg_cd 137 52 = (5, 1, 0, 0, 0) := by decide +kernel
theorem c_137_53 : pg_cd 137 53 = (1, 2, 0, 0, 24) := by decide +kernel
theorem c_137_55 : pg_cd 137 55 = (59, 2, 0, 0, 0) := by decide +kernel
theorem c_137_57 : pg_cd 137 57 = (49, 10, 30, 6, 0) := by decide +kernel
theorem c_137_60 : pg_cd 137 60 = (94, 0, 0, 0, 0) := by decide +kernel
theorem mi_137 : pg_mc 137 = 10 ∧ pg_na 137 = 0 ∧ pg_mx 137 = 1 := by decide +kernel
/-- what a new book leaves -/
def NB (S S1 : zS) (y : Nat) : Prop := S1.1 = y + 8 ∧ S1.2.1 = S.2.1 + 224 ∧ (∀ c, c ≤ y → S1.2.2.1 c = S.2.2.1 c) ∧ (∀ c, c < y → S1.2.2.2 c = S.2.2.2 c) ∧ oB S1 y
theorem nS_1 (S : zS) (kd len sl : Nat) : (nS S kd len sl).1 = S.1 + 1 := rfl
theorem pS_1 (S : zS) (i k x : Nat) : (pS S i k x).1 = S.1 := rfl
theorem nS_k {S : zS} {kd len sl c : Nat} (h : c ≠ S.1) : (nS S kd len sl).2.2.1 c = S.2.2.1 c := if_neg h
theorem nS_kn (S : zS) (kd len sl : Nat) : (nS S kd len sl).2.2.1 S.1 = (kd, len) := if_pos rfl
theorem pS_k (S : zS) (i k x : Nat) : (pS S i k x).2.2.1 = S.2.2.1 := rfl
theorem nS_r {S : zS} {kd len sl c : Nat} (h : c ≠ S.1) : (nS S kd len sl).2.2.2 c = S.2.2.2 c := if_neg h
theorem pS_r {S : zS} {i k x c : Nat} (h : c ≠ i) : (pS S i k x).2.2.2 c = S.2.2.2 c := by
  funext b
  exact if_neg h
theorem pS_rn (S : zS) (i k x b : Nat) : (pS S i k x).2.2.2 i b = if b = k then some x else S.2.2.2 i b := if_pos rfl
theorem nS_2 (S : zS) (kd len sl : Nat) : (nS S kd len sl).2.1 = S.2.1 + sl := rfl
theorem pS_2 (S : zS) (i k x : Nat) : (pS S i k x).2.1 = S.2.1 := rfl
set_option maxHeartbeats 4000000 in
theorem q_137 {d : Nat} {S : zS} {σ τ : zI} {Q : zQ} {y : Nat} (hy : S.1 = y + 1) (y0 : 100 ≤ y) (ho : S.2.2.1 y = (110, 0)) (t : ∀ S1 σ1 τ1, NB S S1 y → (∀ c, c ≤ y → σ1 c = σ c) → (∀ c, c ≤ y → τ1 c = τ c) → Q none S1 σ1 τ1) : wc (d + 0) 137 [.ref y] S σ τ Q := by
  refine wc_of mi_137 rfl (i5 c_137_0 rfl (i61 c_137_1 (Nat.le_of_ble_eq_true rfl) ?_))
  refine i5 c_137_4 rfl (i1 c_137_5 (i59 c_137_7 ⟨by decide, by decide⟩ (i49 (n := 0) c_137_9 ⟨by omega, ?_, ?_⟩ y0 ?_)))
  · simp only [nS_1, pS_1]; omega
  · simp (disch := first | omega | (simp only [nS_1, pS_1]; omega)) only [nS_k, pS_k]; exact ho
  refine i5 c_137_12 rfl (i1 c_137_13 (i59 c_137_15 ⟨by decide, by decide⟩ (i49 (n := 0) c_137_17 ⟨by omega, ?_, ?_⟩ y0 ?_)))
  · simp only [nS_1, pS_1]; omega
  · simp (disch := first | omega | (simp only [nS_1, pS_1]; omega)) only [nS_k, pS_k]; exact ho
  refine i5 c_137_20 rfl (i1 c_137_21 (i59 c_137_23 ⟨by decide, by decide⟩ (i49 (n := 0) c_137_25 ⟨by omega, ?_, ?_⟩ y0 ?_)))
  · simp only [nS_1, pS_1]; omega
  · simp (disch := first | omega | (simp only [nS_1, pS_1]; omega)) only [nS_k, pS_k]; exact ho
  refine i5 c_137_28 rfl (i1 c_137_29 (i59 c_137_31 ⟨by decide, by decide⟩ (i49 (n := 0) c_137_33 ⟨by omega, ?_, ?_⟩ y0 ?_)))
  · simp only [nS_1, pS_1]; omega
  · simp (disch := first | omega | (simp only [nS_1, pS_1]; omega)) only [nS_k, pS_k]; exact ho
  refine i5 c_137_36 rfl (i1 c_137_37 (i59 c_137_39 ⟨by decide, by decide⟩ (i49 (n := 0) c_137_41 ⟨by omega, ?_, ?_⟩ y0 ?_)))
  · simp only [nS_1, pS_1]; omega
  · simp (disch := first | omega | (simp only [nS_1, pS_1]; omega)) only [nS_k, pS_k]; exact ho
  refine i5 c_137_44 rfl (i1 c_137_45 (i59 c_137_47 ⟨by decide, by decide⟩ (i49 (n := 0) c_137_49 ⟨by omega, ?_, ?_⟩ y0 ?_)))
  · simp only [nS_1, pS_1]; omega
  · simp (disch := first | omega | (simp only [nS_1, pS_1]; omega)) only [nS_k, pS_k]; exact ho
  refine i5 c_137_52 rfl (i1 c_137_53 (i59 c_137_55 ⟨by decide, by decide⟩ (i49 (n := 0) c_137_57 ⟨by omega, ?_, ?_⟩ y0 ?_)))
  · simp only [nS_1, pS_1]; omega
  · simp (disch := first | omega | (simp only [nS_1, pS_1]; omega)) only [nS_k, pS_k]; exact ho
  refine i94 c_137_60 (t _ _ _ ⟨?_, ?_, fun c hc => ?_, fun c hc => ?_, ?_⟩ (fun c hc => ?_) (fun c hc => ?_))
  · simp only [nS_1, pS_1, hy]
  · simp only [nS_2, pS_2]; omega
  · simp (disch := first | omega | (simp only [nS_1, pS_1]; omega)) only [nS_k, pS_k]
  · simp (disch := first | omega | (simp only [nS_1, pS_1]; omega)) only [nS_r, pS_r]
  · refine ⟨y0, ⟨by omega, by simp only [nS_1, pS_1]; omega, ?_⟩, ⟨⟨by omega, by simp only [nS_1, pS_1]; omega, ?_⟩, ⟨by omega, by simp only [nS_1, pS_1]; omega, ?_⟩, ⟨by omega, by simp only [nS_1, pS_1]; omega, ?_⟩, ⟨by omega, by simp only [nS_1, pS_1]; omega, ?_⟩, ⟨by omega, by simp only [nS_1, pS_1]; omega, ?_⟩, ⟨by omega, by simp only [nS_1, pS_1]; omega, ?_⟩, by omega, by simp only [nS_1, pS_1]; omega, ?_⟩, fun k hk => ?_⟩
    · simp (disch := first | omega | (simp only [nS_1, pS_1]; omega)) only [nS_k, pS_k]; exact ho
    · simp only [nS, pS, hy]; simp
    · simp only [nS, pS, hy]; simp
    · simp only [nS, pS, hy]; simp
    · simp only [nS, pS, hy]; simp
    · simp only [nS, pS, hy]; simp
    · simp only [nS, pS, hy]; simp
    · simp only [nS, pS, hy]; simp
    · have e : k = 0 ∨ k = 1 ∨ k = 2 ∨ k = 3 ∨ k = 4 ∨ k = 5 ∨ k = 6 := by omega
      rcases e with e | e | e | e | e | e | e <;> subst e <;> simp (disch := first | omega | (simp only [nS_1, pS_1]; omega)) only [nS_r, pS_rn] <;> simp [nS_1, pS_1, hy]
  · simp (disch := first | omega | (simp only [nS_1, pS_1]; omega)) only [uc_n]
  · simp (disch := first | omega | (simp only [nS_1, pS_1]; omega)) only [uc_n]
