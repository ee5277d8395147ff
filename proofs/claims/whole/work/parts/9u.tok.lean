/-! ===== TOKENS of the reference (segments printed by wip/whole, contracts own work) ===== -/
/-- what stands at a place of the tape -/
def sv (T : Int → Int) (n k : Int) : Int := if k < n then T k else -1
theorem sv_p {T : Int → Int} {n k : Int} (h : k < n) : sv T n k = T k := if_pos h
theorem sv_n {T : Int → Int} {n k : Int} (h : ¬ k < n) : sv T n k = -1 := if_neg h
abbrev cL (c : Int) : Prop := (97 ≤ c ∧ c ≤ 122) ∨ (65 ≤ c ∧ c ≤ 90)
abbrev cD (c : Int) : Prop := 48 ≤ c ∧ c ≤ 57
abbrev cB (c : Int) : Prop := c = 32 ∨ c = 10
def bL (c : Int) : Bool := decide (cL c)
def bD (c : Int) : Bool := decide (cD c)
def bB (c : Int) : Bool := decide (cB c)
theorem bL_i {c : Int} : bL c = true ↔ cL c := decide_eq_true_iff
theorem bD_i {c : Int} : bD c = true ↔ cD c := decide_eq_true_iff
theorem bB_i {c : Int} : bB c = true ↔ cB c := decide_eq_true_iff
/-- the first place from p on that isn't so -/
def rnN (P : Int → Bool) (T : Int → Int) (n : Int) : Nat → Int → Int
  | 0, p => p
  | k + 1, p => if p < n ∧ P (T p) = true then rnN P T n k (p + 1) else p
def rn (P : Int → Bool) (T : Int → Int) (n p : Int) : Int := rnN P T n (n - p).toNat p
section RN
variable {P : Int → Bool} {T : Int → Int} {n p : Int}
theorem rn_go (h : p < n) (hp : P (T p) = true) : rn P T n p = rn P T n (p + 1) := by
  unfold rn
  rw [show (n - p).toNat = (n - (p + 1)).toNat + 1 by omega]
  show (if p < n ∧ P (T p) = true then rnN P T n (n - (p + 1)).toNat (p + 1) else p) = _
  rw [if_pos ⟨h, hp⟩]
theorem rn_st (h : ¬ (p < n ∧ P (T p) = true)) : rn P T n p = p := by
  unfold rn
  cases e : (n - p).toNat with
  | zero => rfl
  | succ k =>
    show (if p < n ∧ P (T p) = true then rnN P T n k (p + 1) else p) = p
    rw [if_neg h]
theorem rn_I : p ≤ n → (p ≤ rn P T n p ∧ rn P T n p ≤ n) ∧ (∀ q, p ≤ q → q < rn P T n p → P (T q) = true) ∧ (rn P T n p < n → P (T (rn P T n p)) = false) := by
  have key : ∀ k : Nat, ∀ p, (n - p).toNat = k → p ≤ n → (p ≤ rn P T n p ∧ rn P T n p ≤ n) ∧ (∀ q, p ≤ q → q < rn P T n p → P (T q) = true) ∧ (rn P T n p < n → P (T (rn P T n p)) = false) := by
    intro k
    induction k with
    | zero =>
      intro p hk hp
      rw [rn_st (fun z => by omega)]
      exact ⟨by omega, fun q q0 q1 => by omega, fun z => by omega⟩
    | succ k ih =>
      intro p hk hp
      by_cases c : P (T p) = true
      · rw [rn_go (by omega) c]
        have i := ih (p + 1) (by omega) (by omega)
        refine ⟨by omega, fun q q0 q1 => ?_, i.2.2⟩
        by_cases e : q = p
        · rw [e]; exact c
        · exact i.2.1 q (by omega) q1
      · rw [rn_st (fun z => c z.2)]
        exact ⟨by omega, fun q q0 q1 => by omega, fun _ => by cases h : P (T p) with | true => exact absurd h c | false => rfl⟩
  exact key _ p rfl
end RN
/-- the end of the TOKEN that begins at p -/
def tE (T : Int → Int) (n p : Int) : Int := if n ≤ p then n else if cL (T p) then rn bL T n (p + 1) else if cD (T p) then rn bD T n (p + 1) else if (T p = 60 ∨ T p = 62) ∧ sv T n (p + 1) = 61 then p + 2 else p + 1
def sk (T : Int → Int) (n p : Int) : Int := rn bB T n p
theorem tE_b {T : Int → Int} {n p : Int} (h : p < n) : p < tE T n p ∧ tE T n p ≤ n := by
  unfold tE
  rw [if_neg (by omega)]
  have l := (rn_I (P := bL) (T := T) (n := n) (p := p + 1) (by omega)).1
  have d := (rn_I (P := bD) (T := T) (n := n) (p := p + 1) (by omega)).1
  split
  · omega
  · split
    · omega
    · split
      · next q =>
        by_cases c : p + 1 < n
        · omega
        · rw [sv_n c] at q; omega
      · omega
theorem sk_b {T : Int → Int} {n p : Int} (h : p ≤ n) : p ≤ sk T n p ∧ sk T n p ≤ n := (rn_I h).1
/-- where the next TOKEN begins -/
def nx (T : Int → Int) (n s : Int) : Int := sk T n (tE T n s)
theorem nx_b {T : Int → Int} {n s : Int} (h : s < n) : s < nx T n s ∧ nx T n s ≤ n := by
  have e := tE_b (T := T) h
  have k := sk_b (T := T) (p := tE T n s) e.2
  unfold nx
  omega
/-- NUMBERS of the reference -/
def rvN (T : Int → Int) (p : Int) : Nat → Int
  | 0 => 0
  | k + 1 => if rvN T p k < 100000 then 10 * rvN T p k + T (p + k) - 48 else rvN T p k
def rv (T : Int → Int) (p q : Int) : Int := rvN T p (q - p).toNat
theorem rv_0 {T : Int → Int} {p : Int} : rv T p p = 0 := by
  unfold rv
  rw [show (p - p).toNat = 0 by omega]
  rfl
theorem rv_s {T : Int → Int} {p q : Int} (h : p ≤ q) : rv T p (q + 1) = if rv T p q < 100000 then 10 * rv T p q + T q - 48 else rv T p q := by
  unfold rv
  rw [show (q + 1 - p).toNat = (q - p).toNat + 1 by omega]
  show (if rvN T p (q - p).toNat < 100000 then 10 * rvN T p (q - p).toNat + T (p + ((q - p).toNat : Int)) - 48 else rvN T p (q - p).toNat) = _
  rw [Int.toNat_of_nonneg (by omega), show p + (q - p) = q by omega]
/-- words packed -/
def wvN (T : Int → Int) (p : Int) : Nat → Int
  | 0 => 0
  | k + 1 => wvN T p k * 256 + T (p + k)
def wvP (T : Int → Int) (p q : Int) : Int := wvN T p (q - p).toNat
theorem wvP_0 {T : Int → Int} {p : Int} : wvP T p p = 0 := by
  unfold wvP
  rw [show (p - p).toNat = 0 by omega]
  rfl
theorem wvP_s {T : Int → Int} {p q : Int} (h : p ≤ q) : wvP T p (q + 1) = wvP T p q * 256 + T q := by
  unfold wvP
  rw [show (q + 1 - p).toNat = (q - p).toNat + 1 by omega]
  show wvN T p (q - p).toNat * 256 + T (p + ((q - p).toNat : Int)) = _
  rw [Int.toNat_of_nonneg (by omega), show p + (q - p) = q by omega]
def wv (T : Int → Int) (p q : Int) : Int := if 5 < q - p then 0 else wvP T p q
/-- the reference's TOKENS -/
def rsy (c : Int) (two : Prop) [Decidable two] : Int := if c = 60 then (if two then 4 else 60) else if c = 62 then (if two then 5 else 62) else if c = 61 ∨ c = 35 ∨ c = 43 ∨ c = 45 ∨ c = 42 ∨ c = 47 ∨ c = 40 ∨ c = 41 ∨ c = 44 ∨ c = 59 then c else 3
def rk (T : Int → Int) (n s : Int) : Int := if n ≤ s then 0 else if cD (T s) then 1 else if cL (T s) then 2 else rsy (T s) (sv T n (s + 1) = 61)
/-- bytes -/
abbrev TB (T : Int → Int) (n : Int) : Prop := (0 ≤ n ∧ n ≤ 300) ∧ ∀ k, 0 ≤ k → k < n → 0 ≤ T k ∧ T k ≤ 255
/-- the reference stands at a TOKEN -/
def TR (T : Int → Int) (n s : Int) (σ τ : zI) : Prop := (0 ≤ s ∧ s ≤ n) ∧ (σ 87 = T ∧ σ 83 4 = n) ∧ σ 83 8 = s ∧ σ 83 7 = tE T n s ∧ σ 83 9 = rk T n s ∧ (s < n → cD (T s) → σ 83 10 = rv T s (tE T n s)) ∧ (s < n → cL (T s) → τ 83 11 = wv T s (tE T n s))
/-- what TOKENS of the reference leave alone -/
def FK (σ σ1 τ τ1 : zI) : Prop := (∀ c, c ≠ 83 → σ1 c = σ c) ∧ (∀ k, k < 7 ∨ 10 < k → σ1 83 k = σ 83 k) ∧ (∀ c, c ≠ 83 → τ1 c = τ c) ∧ ∀ k, k ≠ 11 → τ1 83 k = τ 83 k
theorem FK_0 {σ τ : zI} : FK σ σ τ τ := ⟨fun _ _ => rfl, fun _ _ => rfl, fun _ _ => rfl, fun _ _ => rfl⟩
theorem FK_t {σ σ1 σ2 τ τ1 τ2 : zI} (h : FK σ σ1 τ τ1) (g : FK σ1 σ2 τ1 τ2) : FK σ σ2 τ τ2 := ⟨fun c hc => (g.1 c hc).trans (h.1 c hc), fun k hk => (g.2.1 k hk).trans (h.2.1 k hk), fun c hc => (g.2.2.1 c hc).trans (h.2.2.1 c hc), fun k hk => (g.2.2.2 k hk).trans (h.2.2.2 k hk)⟩
/-- one field of the reference set -/
theorem FK_u {σ σ' τ τ' : zI} {k v : Int} (h : FK σ σ' τ τ') (hk : 7 ≤ k ∧ k ≤ 10) : FK σ (uc σ' 83 (u1 (σ' 83) k v)) τ τ' := ⟨fun c hc => by rw [uc_n hc]; exact h.1 c hc, fun j hj => by rw [uc_s, u1_n (by omega)]; exact h.2.1 j hj, h.2.2⟩
theorem FK_w {σ σ' τ τ' : zI} {v : Int} (h : FK σ σ' τ τ') : FK σ σ' τ (uc τ' 83 (u1 (τ' 83) 11 v)) := ⟨h.1, h.2.1, fun c hc => by rw [uc_n hc]; exact h.2.2.1 c hc, fun j hj => by rw [uc_s, u1_n hj]; exact h.2.2.2 j hj⟩
/-- a byte behind a word -/
theorem jor_sh {w c : Int} (hw : 0 ≤ w ∧ w < 1099511627776) (hc : 0 ≤ c ∧ c ≤ 255) : jor (jshl w 8) c = w * 256 + c := by
  sorry
-- method 228: MillTownModel.see(I)I
theorem c_228_0 : pg_cd 228 0 = (3, 1, 0, 1, 0) := by decide +kernel
theorem c_228_1 : pg_cd 228 1 = (5, 1, 0, 0, 0) := by decide +kernel
theorem c_228_2 : pg_cd 228 2 = (43, 12, 128, 4, 0) := by decide +kernel
theorem c_228_5 : pg_cd 228 5 = (37, 3, 0, 3, 12) := by decide +kernel
theorem c_228_8 : pg_cd 228 8 = (5, 1, 0, 0, 0) := by decide +kernel
theorem c_228_9 : pg_cd 228 9 = (45, 12, 20, 3, 0) := by decide +kernel
theorem c_228_12 : pg_cd 228 12 = (3, 1, 0, 1, 0) := by decide +kernel
theorem c_228_13 : pg_cd 228 13 = (50, 1, 0, 0, 0) := by decide +kernel
theorem c_228_14 : pg_cd 228 14 = (38, 3, 0, 0, 4) := by decide +kernel
theorem c_228_17 : pg_cd 228 17 = (1, 1, 0, 0, (-1)) := by decide +kernel
theorem c_228_18 : pg_cd 228 18 = (90, 0, 0, 0, 0) := by decide +kernel
theorem mi_228 : pg_mc 228 = 12 ∧ pg_na 228 = 1 ∧ pg_mx 228 = 2 := by decide +kernel
set_option maxRecDepth 20000 in
theorem u_228_0 {d : Nat} {S : zS} {σ τ : zI} {Q : zQ} {x1 : Int} (t : (rg x1) ∧ if (σ 83 4) ≤ x1 then (Q (some (.int (wI (-1)))) S σ τ) else ((0 ≤ x1 ∧ x1 < 300) ∧ Q (some (.int (wI (σ 87 x1)))) S σ τ)) : wi (d + 0) 228 0 [.ref 83, .int (wI x1)] [] S σ τ Q := by
  refine i3 c_228_0 rfl (i5 c_228_1 rfl (wi_ok (fun K1 => ?_)))
  obtain ⟨r2, t⟩ := t
  refine i43 (v := σ 83 4) c_228_2 (lo (c := 83) (kd := 112) (n := 0) rfl (by decide)) rfl ?_
  refine i37 c_228_5 r2 (rge_ K1 rfl) rfl (fun hc => ?_) (fun hc => ?_)
  · have t := iT t hc
    have ha3 : (σ 83 4) ≤ x1 := hc
    refine i1 c_228_17 ?_
    exact i90 c_228_18 t
  · have t := iF t hc
    have ha3 : ¬ ((σ 83 4) ≤ x1) := hc
    obtain ⟨r4, t⟩ := t
    refine i5 c_228_8 rfl (i45 c_228_9 (lo (c := 83) (kd := 112) (n := 0) rfl (by decide)) (lro (c := 83) (k := 3) (j := 87) (by decide)) (i3 c_228_12 rfl (i50 (v := σ 87 x1) c_228_13 (lo (c := 87) (kd := 0) (n := 300) rfl (by decide)) (by decide) r4 rfl (i38 c_228_14 rfl ?_))))
    exact i90 c_228_18 t
theorem q_228 {d : Nat} {S : zS} {σ τ : zI} {Q : zQ} {k : Int} (p0 : 0 ≤ k ∧ k ≤ 300) (p1 : 0 ≤ σ 83 4 ∧ σ 83 4 ≤ 300) (t : Q (some (.int (wI (sv (σ 87) (σ 83 4) k)))) S σ τ) : wc (d + 0) 228 [.ref 83, .int (wI k)] S σ τ Q := by
  refine wc_of mi_228 rfl (u_228_0 ⟨by omega, ifI (fun e => ?_) (fun e => ⟨by omega, ?_⟩)⟩)
  · rw [sv_n (by omega)] at t; exact t
  · rw [sv_p (by omega)] at t; exact t
-- method 229: MillTownModel.isLetter(I)Z
theorem c_229_0 : pg_cd 229 0 = (3, 1, 0, 0, 0) := by decide +kernel
theorem c_229_1 : pg_cd 229 1 = (1, 2, 0, 0, 97) := by decide +kernel
theorem c_229_3 : pg_cd 229 3 = (1, 2, 0, 0, 122) := by decide +kernel
theorem c_229_5 : pg_cd 229 5 = (81, 196, 76, 0, 0) := by decide +kernel
theorem c_229_8 : pg_cd 229 8 = (36, 3, 0, 1, 14) := by decide +kernel
theorem c_229_11 : pg_cd 229 11 = (3, 1, 0, 0, 0) := by decide +kernel
theorem c_229_12 : pg_cd 229 12 = (1, 2, 0, 0, 65) := by decide +kernel
theorem c_229_14 : pg_cd 229 14 = (1, 2, 0, 0, 90) := by decide +kernel
theorem c_229_16 : pg_cd 229 16 = (81, 196, 76, 0, 0) := by decide +kernel
theorem c_229_19 : pg_cd 229 19 = (36, 3, 0, 0, 7) := by decide +kernel
theorem c_229_22 : pg_cd 229 22 = (1, 1, 0, 0, 1) := by decide +kernel
theorem c_229_23 : pg_cd 229 23 = (38, 3, 0, 0, 4) := by decide +kernel
theorem c_229_26 : pg_cd 229 26 = (1, 1, 0, 0, 0) := by decide +kernel
theorem c_229_27 : pg_cd 229 27 = (91, 0, 0, 0, 0) := by decide +kernel
theorem mi_229 : pg_mc 229 = 12 ∧ pg_na 229 = 1 ∧ pg_mx 229 = 1 := by decide +kernel
set_option maxRecDepth 20000 in
theorem u_229_0 {d : Nat} {S : zS} {σ τ : zI} {Q : zQ} {x0 : Int} (t : (rg x0) ∧ if 97 ≤ x0 ∧ x0 ≤ 122 then (Q (some (.int (wI 1))) S σ τ) else (if 65 ≤ x0 ∧ x0 ≤ 90 then (Q (some (.int (wI 1))) S σ τ) else (Q (some (.int (wI 0))) S σ τ))) : wi (d + 1) 229 0 [.int (wI x0)] [] S σ τ Q := by
  obtain ⟨r1, t⟩ := t
  refine i3 c_229_0 rfl (i1 c_229_1 (i1 c_229_3 ?_))
  refine i81 (As := [.int (wI x0), .int (wI 97), .int (wI 122)]) (rest := []) c_229_5 mi_196 rfl rfl (Nat.le_of_ble_eq_true rfl) (Nat.le_of_ble_eq_true rfl) (q_196 r1 (by decide) (by decide) ?_)
  show wi (d + 1) 229 8 [.int (wI x0)] [.int (wI (if 97 ≤ x0 ∧ x0 ≤ 122 then 1 else 0))] S σ τ Q
  refine i36f c_229_8 rfl (fun hc => ?_) (fun hc => ?_)
  · have t := iT t hc
    have ha2 : 97 ≤ x0 ∧ x0 ≤ 122 := hc
    refine i1 c_229_22 (i38 c_229_23 rfl ?_)
    exact i91 c_229_27 (by decide) t
  · have t := iF t hc
    have ha2 : ¬ (97 ≤ x0 ∧ x0 ≤ 122) := hc
    refine i3 c_229_11 rfl (i1 c_229_12 (i1 c_229_14 ?_))
    refine i81 (As := [.int (wI x0), .int (wI 65), .int (wI 90)]) (rest := []) c_229_16 mi_196 rfl rfl (Nat.le_of_ble_eq_true rfl) (Nat.le_of_ble_eq_true rfl) (q_196 r1 (by decide) (by decide) ?_)
    show wi (d + 1) 229 19 [.int (wI x0)] [.int (wI (if 65 ≤ x0 ∧ x0 ≤ 90 then 1 else 0))] S σ τ Q
    refine i36e c_229_19 rfl (fun hc => ?_) (fun hc => ?_)
    · have t := iT t hc
      have ha3 : 65 ≤ x0 ∧ x0 ≤ 90 := hc
      refine i1 c_229_22 (i38 c_229_23 rfl ?_)
      exact i91 c_229_27 (by decide) t
    · have t := iF t hc
      have ha3 : ¬ (65 ≤ x0 ∧ x0 ≤ 90) := hc
      refine i1 c_229_26 ?_
      exact i91 c_229_27 (by decide) t
theorem q_229 {d : Nat} {S : zS} {σ τ : zI} {Q : zQ} {c : Int} (p0 : rg c) (t : Q (some (.int (wI (if cL c then 1 else 0)))) S σ τ) : wc (d + 1) 229 [.int (wI c)] S σ τ Q := by
  refine wc_of mi_229 rfl (u_229_0 ⟨p0, ifI (fun e => ?_) (fun e => ifI (fun e2 => ?_) (fun e2 => ?_))⟩)
  · rw [if_pos (Or.inl e)] at t; exact t
  · rw [if_pos (Or.inr e2)] at t; exact t
  · rw [if_neg (fun z => z.elim e e2)] at t; exact t
-- method 230: MillTownModel.isDigit(I)Z
theorem c_230_0 : pg_cd 230 0 = (3, 1, 0, 0, 0) := by decide +kernel
theorem c_230_1 : pg_cd 230 1 = (1, 2, 0, 0, 48) := by decide +kernel
theorem c_230_3 : pg_cd 230 3 = (1, 2, 0, 0, 57) := by decide +kernel
theorem c_230_5 : pg_cd 230 5 = (81, 196, 76, 0, 0) := by decide +kernel
theorem c_230_8 : pg_cd 230 8 = (91, 0, 0, 0, 0) := by decide +kernel
theorem mi_230 : pg_mc 230 = 12 ∧ pg_na 230 = 1 ∧ pg_mx 230 = 1 := by decide +kernel
set_option maxRecDepth 20000 in
theorem u_230_0 {d : Nat} {S : zS} {σ τ : zI} {Q : zQ} {x0 : Int} (t : (rg x0) ∧ Q (some (.int (wI (if 48 ≤ x0 ∧ x0 ≤ 57 then 1 else 0)))) S σ τ) : wi (d + 1) 230 0 [.int (wI x0)] [] S σ τ Q := by
  obtain ⟨r1, t⟩ := t
  refine i3 c_230_0 rfl (i1 c_230_1 (i1 c_230_3 ?_))
  refine i81 (As := [.int (wI x0), .int (wI 48), .int (wI 57)]) (rest := []) c_230_5 mi_196 rfl rfl (Nat.le_of_ble_eq_true rfl) (Nat.le_of_ble_eq_true rfl) (q_196 r1 (by decide) (by decide) ?_)
  show wi (d + 1) 230 8 [.int (wI x0)] [.int (wI (if 48 ≤ x0 ∧ x0 ≤ 57 then 1 else 0))] S σ τ Q
  exact i91 c_230_8 (ib_ _) t
theorem q_230 {d : Nat} {S : zS} {σ τ : zI} {Q : zQ} {c : Int} (p0 : rg c) (t : Q (some (.int (wI (if cD c then 1 else 0)))) S σ τ) : wc (d + 1) 230 [.int (wI c)] S σ τ Q := by
  exact wc_of mi_230 rfl (u_230_0 ⟨p0, t⟩)
