/-! ===== helps of the printed segments (own work) ===== -/
theorem wr_ {σ σ1 : zI} {c : Nat} {e w : Int} {f : Int → Int} (h : σ c = f) (h2 : uc σ c (u1 f e w) = σ1) : uc σ c (u1 (σ c) e w) = σ1 := by subst h; exact h2
theorem rge_ {S : zS} {σ τ : zI} (K : kO S σ τ) {c : Nat} {e v : Int} (hv : σ c e = v) : rg v := hv ▸ K.2.1 c e
theorem rje_ {S : zS} {σ τ : zI} (K : kO S σ τ) {c : Nat} {e v : Int} (hv : τ c e = v) : rj v := hv ▸ K.2.2.1 c e
theorem ib_ (c : Prop) [Decidable c] : (if c then (1 : Int) else 0) = 0 ∨ (if c then (1 : Int) else 0) = 1 := by
  split
  · exact Or.inr rfl
  · exact Or.inl rfl
theorem rb1_ {w : Int} (h : w = 0 ∨ w = 1) : rg w := by omega
theorem rb_ (c : Prop) [Decidable c] : rg (if c then (1 : Int) else 0) := rb1_ (ib_ c)
theorem rj_of {x : Int} (h : rg x) : rj x := by omega
theorem max_i {x y : Int} (hx : rg x) (hy : rg y) : rg (max x y) := by omega
theorem min_i {x y : Int} (hx : rg x) (hy : rg y) : rg (min x y) := by omega
theorem max_j {x y : Int} (hx : rj x) (hy : rj y) : rj (max x y) := by omega
theorem min_j {x y : Int} (hx : rj x) (hy : rj y) : rj (min x y) := by omega
theorem rtx_ (n : Nat) : rg (pg_tx.getD n 0) := by
  have h : ∀ x ∈ pg_tx, 0 ≤ x ∧ x < 256 := by decide
  rw [List.getD_eq_getElem?_getD]
  by_cases hn : n < pg_tx.length
  · rw [List.getElem?_eq_getElem hn]
    have := h _ (List.getElem_mem hn)
    show rg (pg_tx[n])
    omega
  · rw [List.getElem?_eq_none (by omega)]
    decide
theorem isR_b {c : Nat} (h : 52 < c) : isR c = false := by
  unfold isR
  rw [decide_eq_false_iff_not]
  simp only [List.mem_cons, List.not_mem_nil, or_false]
  omega
/-- a TEXT's object at x, its table behind it, the table's cells, its steps -/
def oT (S : zS) (x : Nat) : Prop := 100 ≤ x ∧ oK S x 107 0 ∧ oK S (x + 1) 104 0 ∧ oK S (x + 2) 0 192 ∧ oK S (x + 3) 0 300 ∧ S.2.2.2 x 0 = some (x + 1) ∧ S.2.2.2 x 1 = some (x + 3) ∧ S.2.2.2 (x + 1) 1 = some (x + 2)
theorem oT_b {S : zS} {x : Nat} (h : oT S x) : 100 ≤ x := h.1
theorem oT_0 {S : zS} {x : Nat} (h : oT S x) : oK S x 107 0 := h.2.1
theorem oT_1 {S : zS} {x : Nat} (h : oT S x) : oK S (x + 1) 104 0 := h.2.2.1
theorem oT_2 {S : zS} {x : Nat} (h : oT S x) : oK S (x + 2) 0 192 := h.2.2.2.1
theorem oT_3 {S : zS} {x : Nat} (h : oT S x) : oK S (x + 3) 0 300 := h.2.2.2.2.1
theorem oT_r0 {S : zS} {x : Nat} (h : oT S x) : S.2.2.2 x 0 = some (x + 1) := h.2.2.2.2.2.1
theorem oT_r1 {S : zS} {x : Nat} (h : oT S x) : S.2.2.2 x 1 = some (x + 3) := h.2.2.2.2.2.2.1
theorem oT_r2 {S : zS} {x : Nat} (h : oT S x) : S.2.2.2 (x + 1) 1 = some (x + 2) := h.2.2.2.2.2.2.2
/-- the book of a WEEK at y, its seven rows behind it -/
def oB (S : zS) (y : Nat) : Prop := 100 ≤ y ∧ oK S y 110 0 ∧ (oK S (y + 1) 0 60 ∧ oK S (y + 2) 0 60 ∧ oK S (y + 3) 0 8 ∧ oK S (y + 4) 0 24 ∧ oK S (y + 5) 0 24 ∧ oK S (y + 6) 0 24 ∧ oK S (y + 7) 0 24) ∧ ∀ k, k < 7 → S.2.2.2 y k = some (y + (k + 1))
theorem oB_b {S : zS} {y : Nat} (h : oB S y) : 100 ≤ y := h.1
theorem oB_0 {S : zS} {y : Nat} (h : oB S y) : oK S y 110 0 := h.2.1
theorem oB_1 {S : zS} {y : Nat} (h : oB S y) : oK S (y + 1) 0 60 := h.2.2.1.1
theorem oB_2 {S : zS} {y : Nat} (h : oB S y) : oK S (y + 2) 0 60 := h.2.2.1.2.1
theorem oB_3 {S : zS} {y : Nat} (h : oB S y) : oK S (y + 3) 0 8 := h.2.2.1.2.2.1
theorem oB_4 {S : zS} {y : Nat} (h : oB S y) : oK S (y + 4) 0 24 := h.2.2.1.2.2.2.1
theorem oB_5 {S : zS} {y : Nat} (h : oB S y) : oK S (y + 5) 0 24 := h.2.2.1.2.2.2.2.1
theorem oB_6 {S : zS} {y : Nat} (h : oB S y) : oK S (y + 6) 0 24 := h.2.2.1.2.2.2.2.2.1
theorem oB_7 {S : zS} {y : Nat} (h : oB S y) : oK S (y + 7) 0 24 := h.2.2.1.2.2.2.2.2.2
theorem oB_r0 {S : zS} {y : Nat} (h : oB S y) : S.2.2.2 y 0 = some (y + 1) := h.2.2.2 0 (by decide)
theorem oB_r1 {S : zS} {y : Nat} (h : oB S y) : S.2.2.2 y 1 = some (y + 2) := h.2.2.2 1 (by decide)
theorem oB_r2 {S : zS} {y : Nat} (h : oB S y) : S.2.2.2 y 2 = some (y + 3) := h.2.2.2 2 (by decide)
theorem oB_r3 {S : zS} {y : Nat} (h : oB S y) : S.2.2.2 y 3 = some (y + 4) := h.2.2.2 3 (by decide)
theorem oB_r4 {S : zS} {y : Nat} (h : oB S y) : S.2.2.2 y 4 = some (y + 5) := h.2.2.2 4 (by decide)
theorem oB_r5 {S : zS} {y : Nat} (h : oB S y) : S.2.2.2 y 5 = some (y + 6) := h.2.2.2 5 (by decide)
theorem oB_r6 {S : zS} {y : Nat} (h : oB S y) : S.2.2.2 y 6 = some (y + 7) := h.2.2.2 6 (by decide)
/-- a loop that counts up: backwards from its end -/
theorem lp_up {f : Int → Prop} {n : Int} (h : ∀ p, 0 ≤ p → p ≤ n → (p < n → f (p + 1)) → f p) : ∀ p, 0 ≤ p → p ≤ n → f p := by
  intro p h0 h1
  have key : ∀ m : Nat, ∀ p : Int, 0 ≤ p → p ≤ n → n - p = m → f p := by
    intro m
    induction m with
    | zero => intro p a b e; exact h p a b (fun q => by omega)
    | succ m ih => intro p a b e; exact h p a b (fun q => ih (p + 1) (by omega) (by omega) (by omega))
  exact key (n - p).toNat p h0 h1 (by omega)
/-- a loop that counts down to below 0 -/
theorem lp_dn {f : Int → Prop} (h : ∀ p, -1 ≤ p → (0 ≤ p → f (p - 1)) → f p) : ∀ p, -1 ≤ p → f p := by
  intro p h0
  have key : ∀ m : Nat, ∀ p : Int, -1 ≤ p → p + 1 = m → f p := by
    intro m
    induction m with
    | zero => intro p a e; exact h p a (fun q => by omega)
    | succ m ih => intro p a e; exact h p a (fun q => ih (p - 1) (by omega) (by omega))
  exact key (p + 1).toNat p h0 (by omega)
/-- sums -/
def sN (f : Int → Int) : Nat → Int
  | 0 => 0
  | n + 1 => sN f n + f n
def sI (f : Int → Int) (n : Int) : Int := sN f n.toNat
theorem sI_0 (f : Int → Int) : sI f 0 = 0 := rfl
theorem sI_s {f : Int → Int} {n : Int} (h : 0 ≤ n) : sI f (n + 1) = sI f n + f n := by
  unfold sI
  have e : (n + 1).toNat = n.toNat + 1 := by omega
  rw [e]
  show sN f n.toNat + f (n.toNat : Int) = _
  rw [Int.toNat_of_nonneg h]
theorem sI_b {f : Int → Int} {n lo hi : Int} (h0 : 0 ≤ n) (h : ∀ p, 0 ≤ p → p < n → lo ≤ f p ∧ f p ≤ hi) : lo * n ≤ sI f n ∧ sI f n ≤ hi * n := by
  have key : ∀ m : Nat, (∀ p, 0 ≤ p → p < (m : Int) → lo ≤ f p ∧ f p ≤ hi) → lo * m ≤ sN f m ∧ sN f m ≤ hi * m := by
    intro m
    induction m with
    | zero => intro _; exact ⟨by simp [sN], by simp [sN]⟩
    | succ m ih =>
      intro q
      have i1 := ih (fun p a b => q p a (by omega))
      have i2 := q m (by omega) (by omega)
      have e1 : lo * ((m + 1 : Nat) : Int) = lo * m + lo := by rw [Int.natCast_add, Int.mul_add]; simp
      have e2 : hi * ((m + 1 : Nat) : Int) = hi * m + hi := by rw [Int.natCast_add, Int.mul_add]; simp
      rw [e1, e2]
      show _ ≤ sN f m + f m ∧ sN f m + f m ≤ _
      omega
  have := key n.toNat (fun p a b => h p a (by omega))
  rw [Int.toNat_of_nonneg h0] at this
  exact this
theorem sI_c {f g : Int → Int} {n : Int} (h : ∀ p, 0 ≤ p → p < n → f p = g p) : sI f n = sI g n := by
  have key : ∀ m : Nat, (∀ p, 0 ≤ p → p < (m : Int) → f p = g p) → sN f m = sN g m := by
    intro m
    induction m with
    | zero => intro _; rfl
    | succ m ih =>
      intro q
      show sN f m + f m = sN g m + g m
      rw [ih (fun p a b => q p a (by omega)), q m (by omega) (by omega)]
  exact key n.toNat (fun p a b => h p a (by omega))
theorem bi_ {c c' : Prop} [Decidable c] [Decidable c'] (h : c ↔ c') : (if c then (1 : Int) else 0) = if c' then 1 else 0 := by
  by_cases q : c
  · rw [if_pos q, if_pos (h.mp q)]
  · rw [if_neg q, if_neg (fun x => q (h.mpr x))]
theorem uc_id (σ : zI) (c : Nat) : uc σ c (σ c) = σ := by
  funext j
  unfold uc
  split
  · next h => rw [h]
  · rfl
def fN {α : Type} (f : Int → α → α) : Nat → α → α
  | 0, a => a
  | n + 1, a => f n (fN f n a)
def fI {α : Type} (f : Int → α → α) (n : Int) (a : α) : α := fN f n.toNat a
theorem fI_0 {α : Type} (f : Int → α → α) (a : α) : fI f 0 a = a := rfl
theorem fI_s {α : Type} {f : Int → α → α} {n : Int} {a : α} (h : 0 ≤ n) : fI f (n + 1) a = f n (fI f n a) := by
  unfold fI
  have e : (n + 1).toNat = n.toNat + 1 := by omega
  rw [e]
  show f (n.toNat : Int) (fN f n.toNat a) = _
  rw [Int.toNat_of_nonneg h]
theorem wi_v {d M pc : Nat} {L st : List Value} {S : zS} {σ τ : zI} {Q : zQ} {v0 v : Int} (h : v0 = v) (t : wi d M pc L (.int (wI v) :: st) S σ τ Q) : wi d M pc L (.int (wI v0) :: st) S σ τ Q := by subst h; exact t
theorem wi_s {d M pc : Nat} {L st : List Value} {S : zS} {σ σ1 τ : zI} {Q : zQ} (h : σ = σ1) (t : wi d M pc L st S σ1 τ Q) : wi d M pc L st S σ τ Q := by subst h; exact t
theorem sets_ {σ σ1 : zI} {c : Nat} {f : Int → Int} {G : (Int → Int) → Int → Int} (h : σ c = f) (h2 : uc σ c (G f) = σ1) : uc σ c (G (σ c)) = σ1 := by subst h; exact h2
theorem ifI {c A B : Prop} [Decidable c] (h1 : c → A) (h2 : ¬ c → B) : if c then A else B := by
  by_cases h : c
  · rw [if_pos h]; exact h1 h
  · rw [if_neg h]; exact h2 h
theorem u1_u1 (f : Int → Int) (k v w : Int) : u1 (u1 f k v) k w = u1 f k w := by
  funext j
  unfold u1
  split <;> rfl
theorem uc4 {σ : zI} {a b : Nat} {F G F' G' : Int → Int} (h : a ≠ b) : uc (uc (uc (uc σ a F) b G) a F') b G' = uc (uc σ a F') b G' := by
  rw [uc_cm (uc_uc _ _ _ _) h, uc_uc]
theorem i46c {d M pc : Nat} {L st : List Value} {S : zS} {σ τ σ' σ1 : zI} {Q : zQ} {a b : Nat} {z : Int} {i n w n' : Nat} {v v2 : Int} (hI : pg_cd M pc = (46, a, b, 2, z)) (ho : kO S σ τ → oK S i (100 + a) n) (hR : oW S σ' i w n') (hw : wI v2 = wI v) (hb : 0 ≤ v2 ∧ v2 * w ≤ n') (hσ : uc σ i (u1 (σ i) 2 v2) = σ1) (t : wi d M (pc + 3) L st S σ1 τ Q) : wi d M pc L (.int (wI v) :: .ref i :: st) S σ τ Q := fun K => g46 hI (oK_ok (ho K)) (fun h1 e => by
  have e2 := hp_pi (S := S) (σ := σ) (τ := τ) (c := i) (e := 2) (by decide) hw
  rw [show (2 : Int).toNat = 2 from rfl] at e2
  rw [e, e2, hσ]
  exact t (hσ ▸ kO_cnt K hR hb.1 hb.2))
