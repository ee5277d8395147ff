/-! ===== the reference: PAY, the rest (segments printed by wip/whole, contracts own work) ===== -/
/-- what a CLAUSE's SUM comes to -/
def r_vl (a : Int → Int) (text kind C : Int) : Int × Int := vlN a (fun v => a (20 + 8 * kind + v)) (5500 + 840 * text + 200) (a (C + 7) - a (C + 6)).toNat (a (C + 6))
def r_p1N (a : Int → Int) (text kind : Int) : Nat → Int × Int
  | 0 => (0, 1)
  | n + 1 => if a (5500 + 840 * text + 1 + 8 * (n : Int)) = 1 then fr2 3 (r_p1N a text kind n).1 (r_p1N a text kind n).2 (r_vl a text kind (5500 + 840 * text + 1 + 8 * (n : Int))).1 (r_vl a text kind (5500 + 840 * text + 1 + 8 * (n : Int))).2 else (r_p1N a text kind n)
def r_p1 (a : Int → Int) (text kind : Int) (n : Int) : Int × Int := r_p1N a text kind n.toNat
theorem r_p1_0 {a : Int → Int} {text kind : Int} : r_p1 a text kind 0 = (0, 1) := rfl
theorem r_p1_s {a : Int → Int} {text kind : Int} {n : Int} (h : 0 ≤ n) : r_p1 a text kind (n + 1) = if a (5500 + 840 * text + 1 + 8 * n) = 1 then fr2 3 (r_p1 a text kind n).1 (r_p1 a text kind n).2 (r_vl a text kind (5500 + 840 * text + 1 + 8 * n)).1 (r_vl a text kind (5500 + 840 * text + 1 + 8 * n)).2 else (r_p1 a text kind n) := by
  unfold r_p1
  have e : (n + 1).toNat = n.toNat + 1 := by omega
  rw [e]
  show (if a (5500 + 840 * text + 1 + 8 * (n.toNat : Int)) = 1 then fr2 3 (r_p1N a text kind n.toNat).1 (r_p1N a text kind n.toNat).2 (r_vl a text kind (5500 + 840 * text + 1 + 8 * (n.toNat : Int))).1 (r_vl a text kind (5500 + 840 * text + 1 + 8 * (n.toNat : Int))).2 else (r_p1N a text kind n.toNat)) = _
  rw [Int.toNat_of_nonneg h]
/-- whether a CLAUSE counts -/
def r_is (a : Int → Int) (text kind c : Int) : Bool := decide (a (5500 + 840 * text + 1 + 8 * c) = 1) || r_cts a text (5500 + 840 * text + 1 + 8 * c) kind
def r_p2N (a : Int → Int) (text kind : Int) : Nat → Int × Int
  | 0 => r_p1 a text kind (a (5500 + 840 * text))
  | n + 1 => if a (5500 + 840 * text + 1 + 8 * (n : Int)) ≠ 1 ∧ r_cts a text (5500 + 840 * text + 1 + 8 * (n : Int)) kind = true then fr2 (if a (5500 + 840 * text + 1 + 8 * (n : Int)) = 3 ∨ a (5500 + 840 * text + 1 + 8 * (n : Int)) = 5 then 4 else 3) (r_p2N a text kind n).1 (r_p2N a text kind n).2 (r_vl a text kind (5500 + 840 * text + 1 + 8 * (n : Int))).1 (r_vl a text kind (5500 + 840 * text + 1 + 8 * (n : Int))).2 else (r_p2N a text kind n)
def r_p2 (a : Int → Int) (text kind : Int) (n : Int) : Int × Int := r_p2N a text kind n.toNat
theorem r_p2_0 {a : Int → Int} {text kind : Int} : r_p2 a text kind 0 = r_p1 a text kind (a (5500 + 840 * text)) := rfl
theorem r_p2_s {a : Int → Int} {text kind : Int} {n : Int} (h : 0 ≤ n) : r_p2 a text kind (n + 1) = if a (5500 + 840 * text + 1 + 8 * n) ≠ 1 ∧ r_cts a text (5500 + 840 * text + 1 + 8 * n) kind = true then fr2 (if a (5500 + 840 * text + 1 + 8 * n) = 3 ∨ a (5500 + 840 * text + 1 + 8 * n) = 5 then 4 else 3) (r_p2 a text kind n).1 (r_p2 a text kind n).2 (r_vl a text kind (5500 + 840 * text + 1 + 8 * n)).1 (r_vl a text kind (5500 + 840 * text + 1 + 8 * n)).2 else (r_p2 a text kind n) := by
  unfold r_p2
  have e : (n + 1).toNat = n.toNat + 1 := by omega
  rw [e]
  show (if a (5500 + 840 * text + 1 + 8 * (n.toNat : Int)) ≠ 1 ∧ r_cts a text (5500 + 840 * text + 1 + 8 * (n.toNat : Int)) kind = true then fr2 (if a (5500 + 840 * text + 1 + 8 * (n.toNat : Int)) = 3 ∨ a (5500 + 840 * text + 1 + 8 * (n.toNat : Int)) = 5 then 4 else 3) (r_p2N a text kind n.toNat).1 (r_p2N a text kind n.toNat).2 (r_vl a text kind (5500 + 840 * text + 1 + 8 * (n.toNat : Int))).1 (r_vl a text kind (5500 + 840 * text + 1 + 8 * (n.toNat : Int))).2 else (r_p2N a text kind n.toNat)) = _
  rw [Int.toNat_of_nonneg h]
def r_cnN (a : Int → Int) (text kind : Int) : Nat → Int
  | 0 => 0
  | n + 1 => if r_is a text kind (n : Int) = true then (r_cnN a text kind n) + 1 else (r_cnN a text kind n)
def r_cn (a : Int → Int) (text kind : Int) (n : Int) : Int := r_cnN a text kind n.toNat
theorem r_cn_0 {a : Int → Int} {text kind : Int} : r_cn a text kind 0 = 0 := rfl
theorem r_cn_s {a : Int → Int} {text kind : Int} {n : Int} (h : 0 ≤ n) : r_cn a text kind (n + 1) = if r_is a text kind n = true then (r_cn a text kind n) + 1 else (r_cn a text kind n) := by
  unfold r_cn
  have e : (n + 1).toNat = n.toNat + 1 := by omega
  rw [e]
  show (if r_is a text kind (n.toNat : Int) = true then (r_cnN a text kind n.toNat) + 1 else (r_cnN a text kind n.toNat)) = _
  rw [Int.toNat_of_nonneg h]
def r_wyN (a : Int → Int) (text kind i : Int) : Nat → Int
  | 0 => -1
  | n + 1 => if r_is a text kind (n : Int) = true ∧ r_cn a text kind (n : Int) = i then (n : Int) else (r_wyN a text kind i n)
def r_wy (a : Int → Int) (text kind i : Int) (n : Int) : Int := r_wyN a text kind i n.toNat
theorem r_wy_0 {a : Int → Int} {text kind i : Int} : r_wy a text kind i 0 = -1 := rfl
theorem r_wy_s {a : Int → Int} {text kind i : Int} {n : Int} (h : 0 ≤ n) : r_wy a text kind i (n + 1) = if r_is a text kind n = true ∧ r_cn a text kind n = i then n else (r_wy a text kind i n) := by
  unfold r_wy
  have e : (n + 1).toNat = n.toNat + 1 := by omega
  rw [e]
  show (if r_is a text kind (n.toNat : Int) = true ∧ r_cn a text kind (n.toNat : Int) = i then (n.toNat : Int) else (r_wyN a text kind i n.toNat)) = _
  rw [Int.toNat_of_nonneg h]
def r_fr (a : Int → Int) (text kind : Int) : Int × Int := r_p2 a text kind (a (5500 + 840 * text))
def r_payT (a : Int → Int) (text kind : Int) : Int := if (r_fr a text kind).2 = 0 then 0 else min (max ((r_fr a text kind).1.tdiv (r_fr a text kind).2) (r_mx a text 6 (a (5500 + 840 * text)))) 100000
def r_pay (a : Int → Int) (kind mill week known : Int) : Int := if r_fc a 1 mill week known < 0 then 0 else r_payT a (a (5012 + 8 * r_fc a 1 mill week known)) kind
def r_why (a : Int → Int) (kind mill week known i : Int) : Int := if r_fc a 1 mill week known < 0 then -1 else if (r_fr a (a (5012 + 8 * r_fc a 1 mill week known)) kind).2 = 0 then -1 else r_wy a (a (5012 + 8 * r_fc a 1 mill week known)) kind i (a (5500 + 840 * a (5012 + 8 * r_fc a 1 mill week known)))
/-- what always holds of the steps of the TEXTS -/
def jv_E (a : Int → Int) : Prop := ∀ n, 0 ≤ n → n < a 5 → ∀ c, 0 ≤ c → c < a (5500 + 840 * n) → (a (5500 + 840 * n + 1 + 8 * c) ≤ 5 → (0 ≤ a (5500 + 840 * n + 1 + 8 * c + 6) ∧ a (5500 + 840 * n + 1 + 8 * c + 6) ≤ a (5500 + 840 * n + 1 + 8 * c + 7) ∧ a (5500 + 840 * n + 1 + 8 * c + 7) ≤ 300) ∧ wzN a (5500 + 840 * n + 200) (a (5500 + 840 * n + 1 + 8 * c + 7) - a (5500 + 840 * n + 1 + 8 * c + 6)).toNat (a (5500 + 840 * n + 1 + 8 * c + 6)) 0 0 1 0) ∧ (a (5500 + 840 * n + 1 + 8 * c) = 4 ∨ a (5500 + 840 * n + 1 + 8 * c) = 5 → (0 ≤ a (5500 + 840 * n + 1 + 8 * c + 4) ∧ a (5500 + 840 * n + 1 + 8 * c + 4) ≤ a (5500 + 840 * n + 1 + 8 * c + 5) ∧ a (5500 + 840 * n + 1 + 8 * c + 5) ≤ 300) ∧ wzN a (5500 + 840 * n + 200) (a (5500 + 840 * n + 1 + 8 * c + 5) - a (5500 + 840 * n + 1 + 8 * c + 4)).toNat (a (5500 + 840 * n + 1 + 8 * c + 4)) 0 0 0 1)
theorem r_cn_b {a : Int → Int} {text kind : Int} {n : Int} (h : 0 ≤ n) : 0 ≤ r_cn a text kind n ∧ r_cn a text kind n ≤ n := by
  have key : ∀ m : Nat, 0 ≤ r_cn a text kind m ∧ r_cn a text kind m ≤ m := by
    intro m
    induction m with
    | zero => exact ⟨Int.le_refl _, Int.le_refl _⟩
    | succ m ih =>
      rw [show ((m + 1 : Nat) : Int) = (m : Int) + 1 by omega, r_cn_s (by omega)]
      split <;> omega
  have := key n.toNat
  rw [Int.toNat_of_nonneg h] at this
  exact this
theorem r_wy_m {a : Int → Int} {text kind i : Int} {n : Int} (h : 0 ≤ n) (hi : r_cn a text kind n ≤ i ∨ i < 0) : r_wy a text kind i n = -1 := by
  have key : ∀ m : Nat, r_cn a text kind m ≤ i ∨ i < 0 → r_wy a text kind i m = -1 := by
    intro m
    induction m with
    | zero => intro _; rfl
    | succ m ih =>
      intro q
      have b := r_cn_b (a := a) (text := text) (kind := kind) (n := m) (by omega)
      rw [show ((m + 1 : Nat) : Int) = (m : Int) + 1 by omega] at q ⊢
      rw [r_cn_s (by omega)] at q
      rw [r_wy_s (by omega)]
      by_cases c : r_is a text kind m = true
      · rw [if_pos c] at q
        rw [if_neg (by omega)]
        exact ih (by omega)
      · rw [if_neg c] at q
        rw [if_neg (fun h => c h.1)]
        exact ih q
  have := key n.toNat
  rw [Int.toNat_of_nonneg h] at this
  exact this hi
/-- what payOf leaves alone -/
def Fr8 (σ σ1 τ τ1 : zI) : Prop := (∀ c, c ≠ 83 → c ≠ 91 → c ≠ 92 → σ1 c = σ c) ∧ (∀ k, k < 22 ∨ 25 < k → σ1 83 k = σ 83 k) ∧ ∀ c, c ≠ 83 → c ≠ 89 → c ≠ 90 → τ1 c = τ c
theorem Fr8_7 {σ σ' σ1 τ τ' τ1 : zI} (h : Fr8 σ σ' τ τ') (h2 : Fr7 σ' σ1 τ' τ1) : Fr8 σ σ1 τ τ1 := ⟨fun c a b e => by rw [h2.1 c a b]; exact h.1 c a b e, fun k hk => by rw [h2.2.1 k (by omega) (by omega)]; exact h.2.1 k hk, fun c a b e => by rw [h2.2.2 c a b e]; exact h.2.2 c a b e⟩
def Wy (σ : zI) (a : Int → Int) (kind mill week known : Int) : Prop := (0 ≤ σ 83 25 ∧ σ 83 25 ≤ 24) ∧ ∀ i, (if 0 ≤ i ∧ i < σ 83 25 then σ 92 i else -1) = r_why a kind mill week known i
theorem fr2_self (x y : Int × Int) (o : Int) : frO (fr2 o x.1 x.2 y.1 y.2).1 (fr2 o x.1 x.2 y.1 y.2).2 := fr2_o _ _ _ _ _
theorem r_p1_o {a : Int → Int} {text kind n : Int} (h : 0 ≤ n) : frO (r_p1 a text kind n).1 (r_p1 a text kind n).2 := by
  have key : ∀ m : Nat, frO (r_p1 a text kind m).1 (r_p1 a text kind m).2 := by
    intro m
    induction m with
    | zero => exact Or.inr (show ((0 : Int) < 1 ∧ (1 : Int) ≤ 1000000000) ∧ (-1000000000 : Int) ≤ 0 ∧ (0 : Int) ≤ 1000000000 by decide)
    | succ m ih =>
      rw [show ((m + 1 : Nat) : Int) = (m : Int) + 1 by omega, r_p1_s (by omega)]
      split
      · exact fr2_o _ _ _ _ _
      · exact ih
  have := key n.toNat
  rw [Int.toNat_of_nonneg h] at this
  exact this
theorem r_p2_o {a : Int → Int} {text kind n : Int} (h : 0 ≤ n) (h0 : 0 ≤ a (5500 + 840 * text)) : frO (r_p2 a text kind n).1 (r_p2 a text kind n).2 := by
  have key : ∀ m : Nat, frO (r_p2 a text kind m).1 (r_p2 a text kind m).2 := by
    intro m
    induction m with
    | zero => exact r_p1_o h0
    | succ m ih =>
      rw [show ((m + 1 : Nat) : Int) = (m : Int) + 1 by omega, r_p2_s (by omega)]
      split
      · exact fr2_o _ _ _ _ _
      · exact ih
  have := key n.toNat
  rw [Int.toNat_of_nonneg h] at this
  exact this
theorem r_pay_b {a : Int → Int} {kind mill week known : Int} (hJ : Jl a) (hT : jv_T a) : 0 ≤ r_pay a kind mill week known ∧ r_pay a kind mill week known ≤ 100000 := by
  have hC := lC hJ
  unfold jv_C at hC
  have fb := r_fc_b (a := a) (sort := 1) (mill := mill) (week := week) (known := known) (by omega)
  unfold r_pay r_payT
  split
  · omega
  · split
    · omega
    · next h _ =>
      have q := lF hJ _ (by omega) fb.2.1
      have jt := hT (a (5012 + 8 * r_fc a 1 mill week known)) q.1.1 q.1.2
      have := r_mx_b (a := a) (text := a (5012 + 8 * r_fc a 1 mill week known)) (sort := 6) (n := a (5500 + 840 * a (5012 + 8 * r_fc a 1 mill week known))) (M := 9999) jt.1.1 (by omega) (fun c c0 c1 c2 => by
        have := (jt.2 c c0 c1).2.2.1 c2
        omega)
      omega
-- method 271: MillTownModel.payOf(IIII)I
theorem c_271_0 : pg_cd 271 0 = (5, 1, 0, 0, 0) := by decide +kernel
theorem c_271_1 : pg_cd 271 1 = (5, 1, 0, 0, 0) := by decide +kernel
theorem c_271_2 : pg_cd 271 2 = (1, 1, 0, 0, 1) := by decide +kernel
theorem c_271_3 : pg_cd 271 3 = (3, 1, 0, 2, 0) := by decide +kernel
theorem c_271_4 : pg_cd 271 4 = (3, 1, 0, 3, 0) := by decide +kernel
theorem c_271_5 : pg_cd 271 5 = (3, 2, 0, 4, 0) := by decide +kernel
theorem c_271_7 : pg_cd 271 7 = (80, 268, 315, 0, 0) := by decide +kernel
theorem c_271_10 : pg_cd 271 10 = (46, 12, 319, 24, 0) := by decide +kernel
theorem c_271_13 : pg_cd 271 13 = (5, 1, 0, 0, 0) := by decide +kernel
theorem c_271_14 : pg_cd 271 14 = (1, 1, 0, 0, 0) := by decide +kernel
theorem c_271_15 : pg_cd 271 15 = (46, 12, 322, 25, 0) := by decide +kernel
theorem c_271_18 : pg_cd 271 18 = (5, 1, 0, 0, 0) := by decide +kernel
theorem c_271_19 : pg_cd 271 19 = (43, 12, 319, 24, 0) := by decide +kernel
theorem c_271_22 : pg_cd 271 22 = (36, 3, 0, 3, 5) := by decide +kernel
theorem c_271_25 : pg_cd 271 25 = (1, 1, 0, 0, 0) := by decide +kernel
theorem c_271_26 : pg_cd 271 26 = (90, 0, 0, 0, 0) := by decide +kernel
theorem c_271_27 : pg_cd 271 27 = (5, 1, 0, 0, 0) := by decide +kernel
theorem c_271_28 : pg_cd 271 28 = (45, 12, 8, 0, 0) := by decide +kernel
theorem c_271_31 : pg_cd 271 31 = (1, 3, 0, 0, 5012) := by decide +kernel
theorem c_271_34 : pg_cd 271 34 = (1, 2, 0, 0, 8) := by decide +kernel
theorem c_271_36 : pg_cd 271 36 = (5, 1, 0, 0, 0) := by decide +kernel
theorem c_271_37 : pg_cd 271 37 = (43, 12, 319, 24, 0) := by decide +kernel
theorem c_271_40 : pg_cd 271 40 = (12, 1, 0, 0, 0) := by decide +kernel
theorem c_271_41 : pg_cd 271 41 = (10, 1, 0, 0, 0) := by decide +kernel
theorem c_271_42 : pg_cd 271 42 = (50, 1, 0, 0, 0) := by decide +kernel
theorem c_271_43 : pg_cd 271 43 = (6, 2, 0, 5, 0) := by decide +kernel
theorem c_271_45 : pg_cd 271 45 = (5, 1, 0, 0, 0) := by decide +kernel
theorem c_271_46 : pg_cd 271 46 = (2, 1, 0, 0, 0) := by decide +kernel
theorem c_271_47 : pg_cd 271 47 = (48, 12, 309, 27, 0) := by decide +kernel
theorem c_271_50 : pg_cd 271 50 = (5, 1, 0, 0, 0) := by decide +kernel
theorem c_271_51 : pg_cd 271 51 = (2, 1, 0, 0, 1) := by decide +kernel
theorem c_271_52 : pg_cd 271 52 = (48, 12, 312, 28, 0) := by decide +kernel
theorem c_271_55 : pg_cd 271 55 = (1, 1, 0, 0, 0) := by decide +kernel
theorem c_271_56 : pg_cd 271 56 = (6, 2, 0, 6, 0) := by decide +kernel
theorem c_271_58 : pg_cd 271 58 = (1, 1, 0, 0, 0) := by decide +kernel
theorem c_271_59 : pg_cd 271 59 = (6, 2, 0, 7, 0) := by decide +kernel
theorem c_271_61 : pg_cd 271 61 = (3, 2, 0, 7, 0) := by decide +kernel
theorem c_271_63 : pg_cd 271 63 = (5, 1, 0, 0, 0) := by decide +kernel
theorem c_271_64 : pg_cd 271 64 = (3, 2, 0, 5, 0) := by decide +kernel
theorem c_271_66 : pg_cd 271 66 = (80, 266, 296, 0, 0) := by decide +kernel
theorem c_271_69 : pg_cd 271 69 = (37, 3, 0, 3, 77) := by decide +kernel
theorem c_271_72 : pg_cd 271 72 = (5, 1, 0, 0, 0) := by decide +kernel
theorem c_271_73 : pg_cd 271 73 = (3, 2, 0, 5, 0) := by decide +kernel
theorem c_271_75 : pg_cd 271 75 = (3, 2, 0, 7, 0) := by decide +kernel
theorem c_271_77 : pg_cd 271 77 = (80, 265, 299, 0, 0) := by decide +kernel
theorem c_271_80 : pg_cd 271 80 = (6, 2, 0, 8, 0) := by decide +kernel
theorem c_271_82 : pg_cd 271 82 = (5, 1, 0, 0, 0) := by decide +kernel
theorem c_271_83 : pg_cd 271 83 = (45, 12, 8, 0, 0) := by decide +kernel
theorem c_271_86 : pg_cd 271 86 = (3, 2, 0, 8, 0) := by decide +kernel
theorem c_271_88 : pg_cd 271 88 = (50, 1, 0, 0, 0) := by decide +kernel
theorem c_271_89 : pg_cd 271 89 = (1, 1, 0, 0, 1) := by decide +kernel
theorem c_271_90 : pg_cd 271 90 = (37, 3, 0, 1, 13) := by decide +kernel
theorem c_271_93 : pg_cd 271 93 = (5, 1, 0, 0, 0) := by decide +kernel
theorem c_271_94 : pg_cd 271 94 = (3, 2, 0, 5, 0) := by decide +kernel
theorem c_271_96 : pg_cd 271 96 = (3, 2, 0, 8, 0) := by decide +kernel
theorem c_271_98 : pg_cd 271 98 = (1, 1, 0, 0, 0) := by decide +kernel
theorem c_271_99 : pg_cd 271 99 = (3, 1, 0, 1, 0) := by decide +kernel
theorem c_271_100 : pg_cd 271 100 = (80, 269, 325, 0, 0) := by decide +kernel
theorem c_271_103 : pg_cd 271 103 = (5, 1, 0, 0, 0) := by decide +kernel
theorem c_271_104 : pg_cd 271 104 = (45, 12, 8, 0, 0) := by decide +kernel
theorem c_271_107 : pg_cd 271 107 = (3, 2, 0, 8, 0) := by decide +kernel
theorem c_271_109 : pg_cd 271 109 = (50, 1, 0, 0, 0) := by decide +kernel
theorem c_271_110 : pg_cd 271 110 = (1, 2, 0, 0, 6) := by decide +kernel
theorem c_271_112 : pg_cd 271 112 = (37, 3, 0, 1, 28) := by decide +kernel
theorem c_271_115 : pg_cd 271 115 = (5, 1, 0, 0, 0) := by decide +kernel
theorem c_271_116 : pg_cd 271 116 = (45, 12, 8, 0, 0) := by decide +kernel
theorem c_271_119 : pg_cd 271 119 = (3, 2, 0, 8, 0) := by decide +kernel
theorem c_271_121 : pg_cd 271 121 = (1, 1, 0, 0, 1) := by decide +kernel
theorem c_271_122 : pg_cd 271 122 = (10, 1, 0, 0, 0) := by decide +kernel
theorem c_271_123 : pg_cd 271 123 = (50, 1, 0, 0, 0) := by decide +kernel
theorem c_271_124 : pg_cd 271 124 = (3, 2, 0, 6, 0) := by decide +kernel
theorem c_271_126 : pg_cd 271 126 = (37, 3, 0, 5, 14) := by decide +kernel
theorem c_271_129 : pg_cd 271 129 = (5, 1, 0, 0, 0) := by decide +kernel
theorem c_271_130 : pg_cd 271 130 = (45, 12, 8, 0, 0) := by decide +kernel
theorem c_271_133 : pg_cd 271 133 = (3, 2, 0, 8, 0) := by decide +kernel
theorem c_271_135 : pg_cd 271 135 = (1, 1, 0, 0, 1) := by decide +kernel
theorem c_271_136 : pg_cd 271 136 = (10, 1, 0, 0, 0) := by decide +kernel
theorem c_271_137 : pg_cd 271 137 = (50, 1, 0, 0, 0) := by decide +kernel
theorem c_271_138 : pg_cd 271 138 = (6, 2, 0, 6, 0) := by decide +kernel
theorem c_271_140 : pg_cd 271 140 = (9, 3, 0, 7, 1) := by decide +kernel
theorem c_271_143 : pg_cd 271 143 = (38, 3, 0, 0, (-82)) := by decide +kernel
theorem c_271_146 : pg_cd 271 146 = (1, 1, 0, 0, 0) := by decide +kernel
theorem c_271_147 : pg_cd 271 147 = (6, 2, 0, 7, 0) := by decide +kernel
theorem c_271_149 : pg_cd 271 149 = (3, 2, 0, 7, 0) := by decide +kernel
theorem c_271_151 : pg_cd 271 151 = (5, 1, 0, 0, 0) := by decide +kernel
theorem c_271_152 : pg_cd 271 152 = (3, 2, 0, 5, 0) := by decide +kernel
theorem c_271_154 : pg_cd 271 154 = (80, 266, 296, 0, 0) := by decide +kernel
theorem c_271_157 : pg_cd 271 157 = (37, 3, 0, 3, 130) := by decide +kernel
theorem c_271_160 : pg_cd 271 160 = (5, 1, 0, 0, 0) := by decide +kernel
theorem c_271_161 : pg_cd 271 161 = (3, 2, 0, 5, 0) := by decide +kernel
theorem c_271_163 : pg_cd 271 163 = (3, 2, 0, 7, 0) := by decide +kernel
theorem c_271_165 : pg_cd 271 165 = (80, 265, 299, 0, 0) := by decide +kernel
theorem c_271_168 : pg_cd 271 168 = (6, 2, 0, 8, 0) := by decide +kernel
theorem c_271_170 : pg_cd 271 170 = (5, 1, 0, 0, 0) := by decide +kernel
theorem c_271_171 : pg_cd 271 171 = (45, 12, 8, 0, 0) := by decide +kernel
theorem c_271_174 : pg_cd 271 174 = (3, 2, 0, 8, 0) := by decide +kernel
theorem c_271_176 : pg_cd 271 176 = (50, 1, 0, 0, 0) := by decide +kernel
theorem c_271_177 : pg_cd 271 177 = (1, 1, 0, 0, 1) := by decide +kernel
theorem c_271_178 : pg_cd 271 178 = (37, 3, 0, 0, 19) := by decide +kernel
theorem c_271_181 : pg_cd 271 181 = (5, 1, 0, 0, 0) := by decide +kernel
theorem c_271_182 : pg_cd 271 182 = (3, 2, 0, 5, 0) := by decide +kernel
theorem c_271_184 : pg_cd 271 184 = (3, 2, 0, 8, 0) := by decide +kernel
theorem c_271_186 : pg_cd 271 186 = (3, 1, 0, 1, 0) := by decide +kernel
theorem c_271_187 : pg_cd 271 187 = (80, 270, 329, 0, 0) := by decide +kernel
theorem c_271_190 : pg_cd 271 190 = (36, 3, 0, 0, 7) := by decide +kernel
theorem c_271_193 : pg_cd 271 193 = (1, 1, 0, 0, 1) := by decide +kernel
theorem c_271_194 : pg_cd 271 194 = (38, 3, 0, 0, 4) := by decide +kernel
theorem c_271_197 : pg_cd 271 197 = (1, 1, 0, 0, 0) := by decide +kernel
theorem c_271_198 : pg_cd 271 198 = (6, 2, 0, 9, 0) := by decide +kernel
theorem c_271_200 : pg_cd 271 200 = (3, 2, 0, 9, 0) := by decide +kernel
theorem c_271_202 : pg_cd 271 202 = (36, 3, 0, 0, 39) := by decide +kernel
theorem c_271_205 : pg_cd 271 205 = (5, 1, 0, 0, 0) := by decide +kernel
theorem c_271_206 : pg_cd 271 206 = (3, 2, 0, 5, 0) := by decide +kernel
theorem c_271_208 : pg_cd 271 208 = (3, 2, 0, 8, 0) := by decide +kernel
theorem c_271_210 : pg_cd 271 210 = (5, 1, 0, 0, 0) := by decide +kernel
theorem c_271_211 : pg_cd 271 211 = (45, 12, 8, 0, 0) := by decide +kernel
theorem c_271_214 : pg_cd 271 214 = (3, 2, 0, 8, 0) := by decide +kernel
theorem c_271_216 : pg_cd 271 216 = (50, 1, 0, 0, 0) := by decide +kernel
theorem c_271_217 : pg_cd 271 217 = (1, 1, 0, 0, 3) := by decide +kernel
theorem c_271_218 : pg_cd 271 218 = (37, 3, 0, 0, 14) := by decide +kernel
theorem c_271_221 : pg_cd 271 221 = (5, 1, 0, 0, 0) := by decide +kernel
theorem c_271_222 : pg_cd 271 222 = (45, 12, 8, 0, 0) := by decide +kernel
theorem c_271_225 : pg_cd 271 225 = (3, 2, 0, 8, 0) := by decide +kernel
theorem c_271_227 : pg_cd 271 227 = (50, 1, 0, 0, 0) := by decide +kernel
theorem c_271_228 : pg_cd 271 228 = (1, 1, 0, 0, 5) := by decide +kernel
theorem c_271_229 : pg_cd 271 229 = (37, 3, 0, 1, 7) := by decide +kernel
theorem c_271_232 : pg_cd 271 232 = (1, 1, 0, 0, 1) := by decide +kernel
theorem c_271_233 : pg_cd 271 233 = (38, 3, 0, 0, 4) := by decide +kernel
theorem c_271_236 : pg_cd 271 236 = (1, 1, 0, 0, 0) := by decide +kernel
theorem c_271_237 : pg_cd 271 237 = (3, 1, 0, 1, 0) := by decide +kernel
theorem c_271_238 : pg_cd 271 238 = (80, 269, 325, 0, 0) := by decide +kernel
theorem c_271_241 : pg_cd 271 241 = (3, 2, 0, 9, 0) := by decide +kernel
theorem c_271_243 : pg_cd 271 243 = (36, 3, 0, 1, 17) := by decide +kernel
theorem c_271_246 : pg_cd 271 246 = (5, 1, 0, 0, 0) := by decide +kernel
theorem c_271_247 : pg_cd 271 247 = (45, 12, 8, 0, 0) := by decide +kernel
theorem c_271_250 : pg_cd 271 250 = (3, 2, 0, 8, 0) := by decide +kernel
theorem c_271_252 : pg_cd 271 252 = (50, 1, 0, 0, 0) := by decide +kernel
theorem c_271_253 : pg_cd 271 253 = (1, 1, 0, 0, 1) := by decide +kernel
theorem c_271_254 : pg_cd 271 254 = (37, 3, 0, 0, 6) := by decide +kernel
theorem c_271_257 : pg_cd 271 257 = (38, 3, 0, 0, 24) := by decide +kernel
theorem c_271_260 : pg_cd 271 260 = (5, 1, 0, 0, 0) := by decide +kernel
theorem c_271_261 : pg_cd 271 261 = (45, 12, 44, 26, 0) := by decide +kernel
theorem c_271_264 : pg_cd 271 264 = (5, 1, 0, 0, 0) := by decide +kernel
theorem c_271_265 : pg_cd 271 265 = (43, 12, 322, 25, 0) := by decide +kernel
theorem c_271_268 : pg_cd 271 268 = (3, 2, 0, 7, 0) := by decide +kernel
theorem c_271_270 : pg_cd 271 270 = (54, 1, 0, 0, 0) := by decide +kernel
theorem c_271_271 : pg_cd 271 271 = (5, 1, 0, 0, 0) := by decide +kernel
theorem c_271_272 : pg_cd 271 272 = (33, 1, 0, 0, 0) := by decide +kernel
theorem c_271_273 : pg_cd 271 273 = (43, 12, 322, 25, 0) := by decide +kernel
theorem c_271_276 : pg_cd 271 276 = (1, 1, 0, 0, 1) := by decide +kernel
theorem c_271_277 : pg_cd 271 277 = (10, 1, 0, 0, 0) := by decide +kernel
theorem c_271_278 : pg_cd 271 278 = (46, 12, 322, 25, 0) := by decide +kernel
theorem c_271_281 : pg_cd 271 281 = (9, 3, 0, 7, 1) := by decide +kernel
theorem c_271_284 : pg_cd 271 284 = (38, 3, 0, 0, (-135)) := by decide +kernel
theorem c_271_287 : pg_cd 271 287 = (5, 1, 0, 0, 0) := by decide +kernel
theorem c_271_288 : pg_cd 271 288 = (44, 12, 312, 28, 0) := by decide +kernel
theorem c_271_291 : pg_cd 271 291 = (2, 1, 0, 0, 0) := by decide +kernel
theorem c_271_292 : pg_cd 271 292 = (28, 1, 0, 0, 0) := by decide +kernel
theorem c_271_293 : pg_cd 271 293 = (36, 3, 0, 1, 10) := by decide +kernel
theorem c_271_296 : pg_cd 271 296 = (5, 1, 0, 0, 0) := by decide +kernel
theorem c_271_297 : pg_cd 271 297 = (1, 1, 0, 0, 0) := by decide +kernel
theorem c_271_298 : pg_cd 271 298 = (46, 12, 322, 25, 0) := by decide +kernel
theorem c_271_301 : pg_cd 271 301 = (1, 1, 0, 0, 0) := by decide +kernel
theorem c_271_302 : pg_cd 271 302 = (90, 0, 0, 0, 0) := by decide +kernel
theorem c_271_303 : pg_cd 271 303 = (5, 1, 0, 0, 0) := by decide +kernel
theorem c_271_304 : pg_cd 271 304 = (44, 12, 309, 27, 0) := by decide +kernel
theorem c_271_307 : pg_cd 271 307 = (5, 1, 0, 0, 0) := by decide +kernel
theorem c_271_308 : pg_cd 271 308 = (44, 12, 312, 28, 0) := by decide +kernel
theorem c_271_311 : pg_cd 271 311 = (26, 1, 0, 0, 0) := by decide +kernel
theorem c_271_312 : pg_cd 271 312 = (7, 2, 0, 7, 0) := by decide +kernel
theorem c_271_314 : pg_cd 271 314 = (4, 2, 0, 7, 0) := by decide +kernel
theorem c_271_316 : pg_cd 271 316 = (3, 2, 0, 6, 0) := by decide +kernel
theorem c_271_318 : pg_cd 271 318 = (31, 1, 0, 0, 0) := by decide +kernel
theorem c_271_319 : pg_cd 271 319 = (28, 1, 0, 0, 0) := by decide +kernel
theorem c_271_320 : pg_cd 271 320 = (36, 3, 0, 3, 8) := by decide +kernel
theorem c_271_323 : pg_cd 271 323 = (3, 2, 0, 6, 0) := by decide +kernel
theorem c_271_325 : pg_cd 271 325 = (31, 1, 0, 0, 0) := by decide +kernel
theorem c_271_326 : pg_cd 271 326 = (7, 2, 0, 7, 0) := by decide +kernel
theorem c_271_328 : pg_cd 271 328 = (4, 2, 0, 7, 0) := by decide +kernel
theorem c_271_330 : pg_cd 271 330 = (2, 3, 332, 0, 100000) := by decide +kernel
theorem c_271_333 : pg_cd 271 333 = (28, 1, 0, 0, 0) := by decide +kernel
theorem c_271_334 : pg_cd 271 334 = (36, 3, 0, 5, 8) := by decide +kernel
theorem c_271_337 : pg_cd 271 337 = (1, 2, 71, 0, 100000) := by decide +kernel
theorem c_271_339 : pg_cd 271 339 = (38, 3, 0, 0, 6) := by decide +kernel
theorem c_271_342 : pg_cd 271 342 = (4, 2, 0, 7, 0) := by decide +kernel
theorem c_271_344 : pg_cd 271 344 = (30, 1, 0, 0, 0) := by decide +kernel
theorem c_271_345 : pg_cd 271 345 = (90, 0, 0, 0, 0) := by decide +kernel
theorem mi_271 : pg_mc 271 = 12 ∧ pg_na 271 = 4 ∧ pg_mx 271 = 10 := by decide +kernel
set_option maxRecDepth 20000 in
theorem u_271_0 {d : Nat} {S : zS} {σ τ : zI} {Q : zQ} {x1 : Int} {x2 : Int} {x3 : Int} {x4 : Int} (t : (Jl (σ 84)) ∧ (jv_T (σ 84)) ∧ (rg x2) ∧ (rg x3) ∧ (rg x4) ∧ ∀ (v6 : Int), v6 = r_fc (σ 84) 1 x2 x3 x4 → -1 ≤ v6 ∧ v6 < σ 84 6 → ∃ w9 : Int, wI w9 = wI v6 ∧ rg w9 ∧ if (0 : Int) ≤ w9 then ((0 ≤ 5012 + (8 * w9) ∧ 5012 + (8 * w9) < 112300) ∧ wi (d + 8) 271 61 [.ref 83, .int (wI x1), .int (wI x2), .int (wI x3), .int (wI x4), .int (wI (σ 84 (5012 + (8 * w9)))), .int (wI 0), .int (wI 0), .retAddr 0, .retAddr 0] [] S (uc σ 83 (u1 (u1 (σ 83) 24 w9) 25 0)) (uc τ 83 (u1 (u1 (τ 83) 27 0) 28 1)) Q) else (Q (some (.int (wI 0))) S (uc σ 83 (u1 (u1 (σ 83) 24 w9) 25 0)) τ)) : wi (d + 8) 271 0 [.ref 83, .int (wI x1), .int (wI x2), .int (wI x3), .int (wI x4), .retAddr 0, .retAddr 0, .retAddr 0, .retAddr 0, .retAddr 0] [] S σ τ Q := by
  obtain ⟨p1, t⟩ := t
  obtain ⟨p2, t⟩ := t
  obtain ⟨r3, t⟩ := t
  obtain ⟨r4, t⟩ := t
  obtain ⟨r5, t⟩ := t
  refine i5 c_271_0 rfl (i5 c_271_1 rfl (i1 c_271_2 (i3 c_271_3 rfl (i3 c_271_4 rfl (i3 c_271_5 rfl ?_)))))
  refine i80 (As := [.int (wI 1), .int (wI x2), .int (wI x3), .int (wI x4)]) (rest := [.ref 83]) c_271_7 mi_268 rfl rfl (Nat.le_of_ble_eq_true rfl) (Nat.le_of_ble_eq_true rfl) (lo (c := 83) (kd := 112) (n := 0) rfl (by decide)) (q_268 p1 p2 (by decide) r3 r4 r5 (fun v6 q7 q8 => ?_))
  have t := t v6 q7 q8
  show wi (d + 8) 271 10 [.ref 83, .int (wI x1), .int (wI x2), .int (wI x3), .int (wI x4), .retAddr 0, .retAddr 0, .retAddr 0, .retAddr 0, .retAddr 0] [.int (wI v6), .ref 83] S σ τ Q
  obtain ⟨w9, e10, r11, t⟩ := t
  refine i46 (σ1 := uc σ 83 (u1 (σ 83) 24 w9)) c_271_10 (lo (c := 83) (kd := 112) (n := 0) rfl (by decide)) (by decide) e10 r11 (wr_ rfl rfl) (i5 c_271_13 rfl (i1 c_271_14 (i46 (σ1 := uc σ 83 (u1 (u1 (σ 83) 24 w9) 25 0)) c_271_15 (lo (c := 83) (kd := 112) (n := 0) rfl (by decide)) (by decide) rfl (by decide) (wr_ (uc_s _ _ _) (uc_uc _ _ _ _)) (i5 c_271_18 rfl (wi_ok (fun K12 => ?_))))))
  refine i43 (v := w9) c_271_19 (lo (c := 83) (kd := 112) (n := 0) rfl (by decide)) (((congrFun (uc_s _ _ _) _).trans (u1_n (by decide))).trans (u1_s _ _ _)) ?_
  refine i36 c_271_22 r11 rfl (fun hc => ?_) (fun hc => ?_)
  · have t := iT t hc
    have ha13 : (0 : Int) ≤ w9 := hc
    obtain ⟨r14, t⟩ := t
    refine i5 c_271_27 rfl (i45 c_271_28 (lo (c := 83) (kd := 112) (n := 0) rfl (by decide)) (lro (c := 83) (k := 0) (j := 84) (by decide)) (i1 c_271_31 (i1 c_271_34 (i5 c_271_36 rfl (i43 (v := w9) c_271_37 (lo (c := 83) (kd := 112) (n := 0) rfl (by decide)) (((congrFun (uc_s _ _ _) _).trans (u1_n (by decide))).trans (u1_s _ _ _)) (i12 c_271_40 (i10 c_271_41 (i50 (v := σ 84 (5012 + (8 * w9))) c_271_42 (lo (c := 84) (kd := 0) (n := 112300) rfl (by decide)) (by decide) r14 (congrFun (uc_ns rfl (by decide)) _) (i6 (L' := [.ref 83, .int (wI x1), .int (wI x2), .int (wI x3), .int (wI x4), .int (wI (σ 84 (5012 + (8 * w9)))), .retAddr 0, .retAddr 0, .retAddr 0, .retAddr 0]) c_271_43 rfl (i5 c_271_45 rfl (i2 c_271_46 (i48 (τ1 := uc τ 83 (u1 (τ 83) 27 0)) c_271_47 (lo (c := 83) (kd := 112) (n := 0) rfl (by decide)) rfl (by decide) (wr_ rfl rfl) (i5 c_271_50 rfl (i2 c_271_51 (i48 (τ1 := uc τ 83 (u1 (u1 (τ 83) 27 0) 28 1)) c_271_52 (lo (c := 83) (kd := 112) (n := 0) rfl (by decide)) rfl (by decide) (wr_ (uc_s _ _ _) (uc_uc _ _ _ _)) (i1 c_271_55 (i6 (L' := [.ref 83, .int (wI x1), .int (wI x2), .int (wI x3), .int (wI x4), .int (wI (σ 84 (5012 + (8 * w9)))), .int (wI 0), .retAddr 0, .retAddr 0, .retAddr 0]) c_271_56 rfl (i1 c_271_58 (i6 (L' := [.ref 83, .int (wI x1), .int (wI x2), .int (wI x3), .int (wI x4), .int (wI (σ 84 (5012 + (8 * w9)))), .int (wI 0), .int (wI 0), .retAddr 0, .retAddr 0]) c_271_59 rfl t)))))))))))))))))))
  · have t := iF t hc
    have ha13 : ¬ ((0 : Int) ≤ w9) := hc
    refine i1 c_271_25 ?_
    exact i90 c_271_26 t
set_option maxRecDepth 20000 in
theorem u_271_61 {d : Nat} {S : zS} {σ τ : zI} {Q : zQ} {x1 : Int} {x2 : Int} {x3 : Int} {x4 : Int} {x5 : Int} {x6 : Int} {x7 : Int} {y8 : Value} {y9 : Value} (t : (0 ≤ 5500 + 840 * x5 ∧ 5500 + 840 * x5 < 112300) ∧ (rg x7) ∧ if (σ 84 (5500 + 840 * x5)) ≤ x7 then (wi (d + 8) 271 149 [.ref 83, .int (wI x1), .int (wI x2), .int (wI x3), .int (wI x4), .int (wI x5), .int (wI x6), .int (wI 0), y8, y9] [] S σ τ Q) else ((0 ≤ 5500 + 840 * x5 + 1 + 8 * x7 ∧ 5500 + 840 * x5 + 1 + 8 * x7 < 112300) ∧ if (σ 84 (5500 + 840 * x5 + 1 + 8 * x7)) = 1 then (∃ pp11 : Int × Int, (jv_K (σ 84)) ∧ (0 ≤ x5 ∧ x5 < 20) ∧ (0 ≤ (5500 + 840 * x5 + 1 + 8 * x7) ∧ (5500 + 840 * x5 + 1 + 8 * x7) + 8 ≤ 112300) ∧ (0 ≤ σ 84 ((5500 + 840 * x5 + 1 + 8 * x7) + 6) ∧ σ 84 ((5500 + 840 * x5 + 1 + 8 * x7) + 6) ≤ σ 84 ((5500 + 840 * x5 + 1 + 8 * x7) + 7) ∧ σ 84 ((5500 + 840 * x5 + 1 + 8 * x7) + 7) ≤ 300) ∧ (0 ≤ x1 ∧ x1 ≤ 5) ∧ (wzN (σ 84) (5500 + 840 * x5 + 200) (σ 84 ((5500 + 840 * x5 + 1 + 8 * x7) + 7) - σ 84 ((5500 + 840 * x5 + 1 + 8 * x7) + 6)).toNat (σ 84 ((5500 + 840 * x5 + 1 + 8 * x7) + 6)) 0 0 1 0) ∧ (0 = (0 : Int) ∨ 0 = (1 : Int)) ∧ (PR τ pp11) ∧ ∀ (σ220 : zI) (τ221 : zI), Fr7 σ σ220 τ τ221 → PR τ221 (fr2 (if 0 = 0 then 3 else 4) pp11.1 pp11.2 (vlN (σ 84) (fun v => σ 84 (20 + 8 * x1 + v)) (5500 + 840 * x5 + 200) (σ 84 ((5500 + 840 * x5 + 1 + 8 * x7) + 7) - σ 84 ((5500 + 840 * x5 + 1 + 8 * x7) + 6)).toNat (σ 84 ((5500 + 840 * x5 + 1 + 8 * x7) + 6))).1 (vlN (σ 84) (fun v => σ 84 (20 + 8 * x1 + v)) (5500 + 840 * x5 + 200) (σ 84 ((5500 + 840 * x5 + 1 + 8 * x7) + 7) - σ 84 ((5500 + 840 * x5 + 1 + 8 * x7) + 6)).toNat (σ 84 ((5500 + 840 * x5 + 1 + 8 * x7) + 6))).2) → if (σ220 84 (5500 + 840 * x5 + 1 + 8 * x7)) = 6 then ((0 ≤ (5500 + 840 * x5 + 1 + 8 * x7) + 1 ∧ (5500 + 840 * x5 + 1 + 8 * x7) + 1 < 112300) ∧ (rg x6) ∧ if (σ220 84 ((5500 + 840 * x5 + 1 + 8 * x7) + 1)) ≤ x6 then (wi (d + 8) 271 140 [.ref 83, .int (wI x1), .int (wI x2), .int (wI x3), .int (wI x4), .int (wI x5), .int (wI x6), .int (wI x7), .int (wI (5500 + 840 * x5 + 1 + 8 * x7)), y9] [] S σ220 τ221 Q) else (wi (d + 8) 271 140 [.ref 83, .int (wI x1), .int (wI x2), .int (wI x3), .int (wI x4), .int (wI x5), .int (wI (σ220 84 ((5500 + 840 * x5 + 1 + 8 * x7) + 1))), .int (wI x7), .int (wI (5500 + 840 * x5 + 1 + 8 * x7)), y9] [] S σ220 τ221 Q)) else (wi (d + 8) 271 140 [.ref 83, .int (wI x1), .int (wI x2), .int (wI x3), .int (wI x4), .int (wI x5), .int (wI x6), .int (wI x7), .int (wI (5500 + 840 * x5 + 1 + 8 * x7)), y9] [] S σ220 τ221 Q)) else (if (σ 84 (5500 + 840 * x5 + 1 + 8 * x7)) = 6 then ((0 ≤ (5500 + 840 * x5 + 1 + 8 * x7) + 1 ∧ (5500 + 840 * x5 + 1 + 8 * x7) + 1 < 112300) ∧ (rg x6) ∧ if (σ 84 ((5500 + 840 * x5 + 1 + 8 * x7) + 1)) ≤ x6 then (wi (d + 8) 271 140 [.ref 83, .int (wI x1), .int (wI x2), .int (wI x3), .int (wI x4), .int (wI x5), .int (wI x6), .int (wI x7), .int (wI (5500 + 840 * x5 + 1 + 8 * x7)), y9] [] S σ τ Q) else (wi (d + 8) 271 140 [.ref 83, .int (wI x1), .int (wI x2), .int (wI x3), .int (wI x4), .int (wI x5), .int (wI (σ 84 ((5500 + 840 * x5 + 1 + 8 * x7) + 1))), .int (wI x7), .int (wI (5500 + 840 * x5 + 1 + 8 * x7)), y9] [] S σ τ Q)) else (wi (d + 8) 271 140 [.ref 83, .int (wI x1), .int (wI x2), .int (wI x3), .int (wI x4), .int (wI x5), .int (wI x6), .int (wI x7), .int (wI (5500 + 840 * x5 + 1 + 8 * x7)), y9] [] S σ τ Q)))) : wi (d + 8) 271 61 [.ref 83, .int (wI x1), .int (wI x2), .int (wI x3), .int (wI x4), .int (wI x5), .int (wI x6), .int (wI x7), y8, y9] [] S σ τ Q := by
  obtain ⟨p1, t⟩ := t
  refine i3 c_271_61 rfl (i5 c_271_63 rfl (i3 c_271_64 rfl ?_))
  refine i80 (As := [.int (wI x5)]) (rest := [.int (wI x7)]) c_271_66 mi_266 rfl rfl (Nat.le_of_ble_eq_true rfl) (Nat.le_of_ble_eq_true rfl) (lo (c := 83) (kd := 112) (n := 0) rfl (by decide)) (q_266 p1 ?_)
  show wi (d + 8) 271 69 [.ref 83, .int (wI x1), .int (wI x2), .int (wI x3), .int (wI x4), .int (wI x5), .int (wI x6), .int (wI x7), y8, y9] [.int (wI (σ 84 (5500 + 840 * x5))), .int (wI x7)] S σ τ Q
  refine wi_ok (fun K2 => ?_)
  obtain ⟨r3, t⟩ := t
  refine i37 c_271_69 r3 (rge_ K2 rfl) rfl (fun hc => ?_) (fun hc => ?_)
  · have t := iT t hc
    have ha4 : (σ 84 (5500 + 840 * x5)) ≤ x7 := hc
    refine i1 c_271_146 (i6 (L' := [.ref 83, .int (wI x1), .int (wI x2), .int (wI x3), .int (wI x4), .int (wI x5), .int (wI x6), .int (wI 0), y8, y9]) c_271_147 rfl t)
  · have t := iF t hc
    have ha4 : ¬ ((σ 84 (5500 + 840 * x5)) ≤ x7) := hc
    refine i5 c_271_72 rfl (i3 c_271_73 rfl (i3 c_271_75 rfl ?_))
    refine i80 (As := [.int (wI x5), .int (wI x7)]) (rest := []) c_271_77 mi_265 rfl rfl (Nat.le_of_ble_eq_true rfl) (Nat.le_of_ble_eq_true rfl) (lo (c := 83) (kd := 112) (n := 0) rfl (by decide)) (q_265 ?_)
    show wi (d + 8) 271 80 [.ref 83, .int (wI x1), .int (wI x2), .int (wI x3), .int (wI x4), .int (wI x5), .int (wI x6), .int (wI x7), y8, y9] [.int (wI (5500 + 840 * x5 + 1 + 8 * x7))] S σ τ Q
    obtain ⟨r5, t⟩ := t
    refine i6 (L' := [.ref 83, .int (wI x1), .int (wI x2), .int (wI x3), .int (wI x4), .int (wI x5), .int (wI x6), .int (wI x7), .int (wI (5500 + 840 * x5 + 1 + 8 * x7)), y9]) c_271_80 rfl (i5 c_271_82 rfl (i45 c_271_83 (lo (c := 83) (kd := 112) (n := 0) rfl (by decide)) (lro (c := 83) (k := 0) (j := 84) (by decide)) (i3 c_271_86 rfl (i50 (v := σ 84 (5500 + 840 * x5 + 1 + 8 * x7)) c_271_88 (lo (c := 84) (kd := 0) (n := 112300) rfl (by decide)) (by decide) r5 rfl (i1 c_271_89 ?_)))))
    refine i37 c_271_90 (rge_ K2 rfl) (by decide) rfl (fun hc => ?_) (fun hc => ?_)
    · have t := iF t hc
      have ha6 : ¬ ((σ 84 (5500 + 840 * x5 + 1 + 8 * x7)) = 1) := hc
      refine i5 c_271_103 rfl (i45 c_271_104 (lo (c := 83) (kd := 112) (n := 0) rfl (by decide)) (lro (c := 83) (k := 0) (j := 84) (by decide)) (i3 c_271_107 rfl (i50 (v := σ 84 (5500 + 840 * x5 + 1 + 8 * x7)) c_271_109 (lo (c := 84) (kd := 0) (n := 112300) rfl (by decide)) (by decide) r5 rfl (i1 c_271_110 ?_))))
      refine i37 c_271_112 (rge_ K2 rfl) (by decide) rfl (fun hc => ?_) (fun hc => ?_)
      · have t := iF t hc
        have ha7 : ¬ ((σ 84 (5500 + 840 * x5 + 1 + 8 * x7)) = 6) := hc
        exact t
      · have t := iT t (Decidable.not_not.mp hc)
        have ha7 : (σ 84 (5500 + 840 * x5 + 1 + 8 * x7)) = 6 := Decidable.not_not.mp hc
        obtain ⟨r8, t⟩ := t
        obtain ⟨r9, t⟩ := t
        refine i5 c_271_115 rfl (i45 c_271_116 (lo (c := 83) (kd := 112) (n := 0) rfl (by decide)) (lro (c := 83) (k := 0) (j := 84) (by decide)) (i3 c_271_119 rfl (i1 c_271_121 (i10 c_271_122 (i50 (v := σ 84 ((5500 + 840 * x5 + 1 + 8 * x7) + 1)) c_271_123 (lo (c := 84) (kd := 0) (n := 112300) rfl (by decide)) (by decide) r8 rfl (i3 c_271_124 rfl ?_))))))
        refine i37 c_271_126 (rge_ K2 rfl) r9 rfl (fun hc => ?_) (fun hc => ?_)
        · have t := iT t hc
          have ha10 : (σ 84 ((5500 + 840 * x5 + 1 + 8 * x7) + 1)) ≤ x6 := hc
          exact t
        · have t := iF t hc
          have ha10 : ¬ ((σ 84 ((5500 + 840 * x5 + 1 + 8 * x7) + 1)) ≤ x6) := hc
          refine i5 c_271_129 rfl (i45 c_271_130 (lo (c := 83) (kd := 112) (n := 0) rfl (by decide)) (lro (c := 83) (k := 0) (j := 84) (by decide)) (i3 c_271_133 rfl (i1 c_271_135 (i10 c_271_136 (i50 (v := σ 84 ((5500 + 840 * x5 + 1 + 8 * x7) + 1)) c_271_137 (lo (c := 84) (kd := 0) (n := 112300) rfl (by decide)) (by decide) r8 rfl (i6 (L' := [.ref 83, .int (wI x1), .int (wI x2), .int (wI x3), .int (wI x4), .int (wI x5), .int (wI (σ 84 ((5500 + 840 * x5 + 1 + 8 * x7) + 1))), .int (wI x7), .int (wI (5500 + 840 * x5 + 1 + 8 * x7)), y9]) c_271_138 rfl t))))))
    · have t := iT t (Decidable.not_not.mp hc)
      have ha6 : (σ 84 (5500 + 840 * x5 + 1 + 8 * x7)) = 1 := Decidable.not_not.mp hc
      obtain ⟨pp11, t⟩ := t
      obtain ⟨p12, t⟩ := t
      obtain ⟨p13, t⟩ := t
      obtain ⟨p14, t⟩ := t
      obtain ⟨p15, t⟩ := t
      obtain ⟨p16, t⟩ := t
      obtain ⟨p17, t⟩ := t
      obtain ⟨p18, t⟩ := t
      obtain ⟨p19, t⟩ := t
      refine i5 c_271_93 rfl (i3 c_271_94 rfl (i3 c_271_96 rfl (i1 c_271_98 (i3 c_271_99 rfl ?_))))
      refine i80 (As := [.int (wI x5), .int (wI (5500 + 840 * x5 + 1 + 8 * x7)), .int (wI 0), .int (wI x1)]) (rest := []) c_271_100 mi_269 rfl rfl (Nat.le_of_ble_eq_true rfl) (Nat.le_of_ble_eq_true rfl) (lo (c := 83) (kd := 112) (n := 0) rfl (by decide)) (q_269 (pp := pp11) p12 p13 p14 p15 p16 p17 p18 p19 (fun σ220 τ221 q22 q23 => ?_))
      have t := t σ220 τ221 q22 q23
      show wi (d + 8) 271 103 [.ref 83, .int (wI x1), .int (wI x2), .int (wI x3), .int (wI x4), .int (wI x5), .int (wI x6), .int (wI x7), .int (wI (5500 + 840 * x5 + 1 + 8 * x7)), y9] [] S σ220 τ221 Q
      refine i5 c_271_103 rfl (i45 c_271_104 (lo (c := 83) (kd := 112) (n := 0) rfl (by decide)) (lro (c := 83) (k := 0) (j := 84) (by decide)) (i3 c_271_107 rfl (wi_ok (fun K24 => ?_))))
      refine i50 (v := σ220 84 (5500 + 840 * x5 + 1 + 8 * x7)) c_271_109 (lo (c := 84) (kd := 0) (n := 112300) rfl (by decide)) (by decide) r5 rfl (i1 c_271_110 ?_)
      refine i37 c_271_112 (rge_ K24 rfl) (by decide) rfl (fun hc => ?_) (fun hc => ?_)
      · have t := iF t hc
        have ha25 : ¬ ((σ220 84 (5500 + 840 * x5 + 1 + 8 * x7)) = 6) := hc
        exact t
      · have t := iT t (Decidable.not_not.mp hc)
        have ha25 : (σ220 84 (5500 + 840 * x5 + 1 + 8 * x7)) = 6 := Decidable.not_not.mp hc
        obtain ⟨r26, t⟩ := t
        obtain ⟨r27, t⟩ := t
        refine i5 c_271_115 rfl (i45 c_271_116 (lo (c := 83) (kd := 112) (n := 0) rfl (by decide)) (lro (c := 83) (k := 0) (j := 84) (by decide)) (i3 c_271_119 rfl (i1 c_271_121 (i10 c_271_122 (i50 (v := σ220 84 ((5500 + 840 * x5 + 1 + 8 * x7) + 1)) c_271_123 (lo (c := 84) (kd := 0) (n := 112300) rfl (by decide)) (by decide) r26 rfl (i3 c_271_124 rfl ?_))))))
        refine i37 c_271_126 (rge_ K24 rfl) r27 rfl (fun hc => ?_) (fun hc => ?_)
        · have t := iT t hc
          have ha28 : (σ220 84 ((5500 + 840 * x5 + 1 + 8 * x7) + 1)) ≤ x6 := hc
          exact t
        · have t := iF t hc
          have ha28 : ¬ ((σ220 84 ((5500 + 840 * x5 + 1 + 8 * x7) + 1)) ≤ x6) := hc
          refine i5 c_271_129 rfl (i45 c_271_130 (lo (c := 83) (kd := 112) (n := 0) rfl (by decide)) (lro (c := 83) (k := 0) (j := 84) (by decide)) (i3 c_271_133 rfl (i1 c_271_135 (i10 c_271_136 (i50 (v := σ220 84 ((5500 + 840 * x5 + 1 + 8 * x7) + 1)) c_271_137 (lo (c := 84) (kd := 0) (n := 112300) rfl (by decide)) (by decide) r26 rfl (i6 (L' := [.ref 83, .int (wI x1), .int (wI x2), .int (wI x3), .int (wI x4), .int (wI x5), .int (wI (σ220 84 ((5500 + 840 * x5 + 1 + 8 * x7) + 1))), .int (wI x7), .int (wI (5500 + 840 * x5 + 1 + 8 * x7)), y9]) c_271_138 rfl t))))))
set_option maxRecDepth 20000 in
theorem u_271_140 {d : Nat} {S : zS} {σ τ : zI} {Q : zQ} {x1 : Int} {x2 : Int} {x3 : Int} {x4 : Int} {x5 : Int} {x6 : Int} {x7 : Int} {x8 : Int} {y9 : Value} (t : wi (d + 8) 271 61 [.ref 83, .int (wI x1), .int (wI x2), .int (wI x3), .int (wI x4), .int (wI x5), .int (wI x6), .int (wI (x7 + 1)), .int (wI x8), y9] [] S σ τ Q) : wi (d + 8) 271 140 [.ref 83, .int (wI x1), .int (wI x2), .int (wI x3), .int (wI x4), .int (wI x5), .int (wI x6), .int (wI x7), .int (wI x8), y9] [] S σ τ Q := by
  refine i9 (L' := [.ref 83, .int (wI x1), .int (wI x2), .int (wI x3), .int (wI x4), .int (wI x5), .int (wI x6), .int (wI (x7 + 1)), .int (wI x8), y9]) c_271_140 rfl rfl (i38 c_271_143 rfl t)
set_option maxRecDepth 20000 in
theorem u_271_149 {d : Nat} {S : zS} {σ τ : zI} {Q : zQ} {x1 : Int} {x2 : Int} {x3 : Int} {x4 : Int} {x5 : Int} {x6 : Int} {x7 : Int} {y8 : Value} {y9 : Value} (t : (0 ≤ 5500 + 840 * x5 ∧ 5500 + 840 * x5 < 112300) ∧ (rg x7) ∧ if (σ 84 (5500 + 840 * x5)) ≤ x7 then (if (τ 83 28) = 0 then (Q (some (.int (wI 0))) S (uc σ 83 (u1 (σ 83) 25 0)) τ) else (((τ 83 28) ≠ 0) ∧ (rg x6) ∧ (rj (Int.tdiv (τ 83 27) (τ 83 28))) ∧ if x6 ≤ (Int.tdiv (τ 83 27) (τ 83 28)) then (wi (d + 8) 271 328 [.ref 83, .int (wI x1), .int (wI x2), .int (wI x3), .int (wI x4), .int (wI x5), .int (wI x6), .long (wJ (Int.tdiv (τ 83 27) (τ 83 28))), .retAddr 0, y9] [] S σ τ Q) else (wi (d + 8) 271 328 [.ref 83, .int (wI x1), .int (wI x2), .int (wI x3), .int (wI x4), .int (wI x5), .int (wI x6), .long (wJ x6), .retAddr 0, y9] [] S σ τ Q))) else ((0 ≤ 5500 + 840 * x5 + 1 + 8 * x7 ∧ 5500 + 840 * x5 + 1 + 8 * x7 < 112300) ∧ if (σ 84 (5500 + 840 * x5 + 1 + 8 * x7)) = 1 then (wi (d + 8) 271 197 [.ref 83, .int (wI x1), .int (wI x2), .int (wI x3), .int (wI x4), .int (wI x5), .int (wI x6), .int (wI x7), .int (wI (5500 + 840 * x5 + 1 + 8 * x7)), y9] [] S σ τ Q) else (∃ pp12 : Int × Int, (jv_K (σ 84)) ∧ (0 ≤ x5 ∧ x5 < 20) ∧ (0 ≤ (5500 + 840 * x5 + 1 + 8 * x7) ∧ (5500 + 840 * x5 + 1 + 8 * x7) + 8 ≤ 112300) ∧ (σ 84 (5500 + 840 * x5 + 1 + 8 * x7) = 4 ∨ σ 84 (5500 + 840 * x5 + 1 + 8 * x7) = 5 → (0 ≤ σ 84 ((5500 + 840 * x5 + 1 + 8 * x7) + 4) ∧ σ 84 ((5500 + 840 * x5 + 1 + 8 * x7) + 4) ≤ σ 84 ((5500 + 840 * x5 + 1 + 8 * x7) + 5) ∧ σ 84 ((5500 + 840 * x5 + 1 + 8 * x7) + 5) ≤ 300) ∧ wzN (σ 84) (5500 + 840 * x5 + 200) (σ 84 ((5500 + 840 * x5 + 1 + 8 * x7) + 5) - σ 84 ((5500 + 840 * x5 + 1 + 8 * x7) + 4)).toNat (σ 84 ((5500 + 840 * x5 + 1 + 8 * x7) + 4)) 0 0 0 1) ∧ (0 ≤ x1 ∧ x1 ≤ 5) ∧ (PR τ pp12) ∧ ∀ (σ219 : zI) (τ220 : zI), Fr7 σ σ219 τ τ220 → PR τ220 pp12 → if r_cts (σ 84) x5 (5500 + 840 * x5 + 1 + 8 * x7) x1 = true then (wi (d + 8) 271 198 [.ref 83, .int (wI x1), .int (wI x2), .int (wI x3), .int (wI x4), .int (wI x5), .int (wI x6), .int (wI x7), .int (wI (5500 + 840 * x5 + 1 + 8 * x7)), y9] [.int (wI 1)] S σ219 τ220 Q) else (wi (d + 8) 271 197 [.ref 83, .int (wI x1), .int (wI x2), .int (wI x3), .int (wI x4), .int (wI x5), .int (wI x6), .int (wI x7), .int (wI (5500 + 840 * x5 + 1 + 8 * x7)), y9] [] S σ219 τ220 Q)))) : wi (d + 8) 271 149 [.ref 83, .int (wI x1), .int (wI x2), .int (wI x3), .int (wI x4), .int (wI x5), .int (wI x6), .int (wI x7), y8, y9] [] S σ τ Q := by
  obtain ⟨p1, t⟩ := t
  refine i3 c_271_149 rfl (i5 c_271_151 rfl (i3 c_271_152 rfl ?_))
  refine i80 (As := [.int (wI x5)]) (rest := [.int (wI x7)]) c_271_154 mi_266 rfl rfl (Nat.le_of_ble_eq_true rfl) (Nat.le_of_ble_eq_true rfl) (lo (c := 83) (kd := 112) (n := 0) rfl (by decide)) (q_266 p1 ?_)
  show wi (d + 8) 271 157 [.ref 83, .int (wI x1), .int (wI x2), .int (wI x3), .int (wI x4), .int (wI x5), .int (wI x6), .int (wI x7), y8, y9] [.int (wI (σ 84 (5500 + 840 * x5))), .int (wI x7)] S σ τ Q
  refine wi_ok (fun K2 => ?_)
  obtain ⟨r3, t⟩ := t
  refine i37 c_271_157 r3 (rge_ K2 rfl) rfl (fun hc => ?_) (fun hc => ?_)
  · have t := iT t hc
    have ha4 : (σ 84 (5500 + 840 * x5)) ≤ x7 := hc
    refine i5 c_271_287 rfl (i44 (v := τ 83 28) c_271_288 (lo (c := 83) (kd := 112) (n := 0) rfl (by decide)) rfl (i2 c_271_291 (i28 c_271_292 ?_)))
    refine i36l c_271_293 (rje_ K2 rfl) (by decide) rfl (fun hc => ?_) (fun hc => ?_)
    · have t := iF t hc
      have ha5 : ¬ ((τ 83 28) = 0) := hc
      obtain ⟨y6, t⟩ := t
      obtain ⟨r7, t⟩ := t
      obtain ⟨r8, t⟩ := t
      refine i5 c_271_303 rfl (i44 (v := τ 83 27) c_271_304 (lo (c := 83) (kd := 112) (n := 0) rfl (by decide)) rfl (i5 c_271_307 rfl (i44 (v := τ 83 28) c_271_308 (lo (c := 83) (kd := 112) (n := 0) rfl (by decide)) rfl (i26 c_271_311 (rje_ K2 rfl) (rje_ K2 rfl) y6 (i7 (L' := [.ref 83, .int (wI x1), .int (wI x2), .int (wI x3), .int (wI x4), .int (wI x5), .int (wI x6), .long (wJ (Int.tdiv (τ 83 27) (τ 83 28))), .retAddr 0, y9]) c_271_312 rfl (i4 c_271_314 rfl (i3 c_271_316 rfl (i31 c_271_318 r7 (i28 c_271_319 ?_)))))))))
      refine i36l c_271_320 r8 (rj_of r7) rfl (fun hc => ?_) (fun hc => ?_)
      · have t := iT t hc
        have ha9 : x6 ≤ (Int.tdiv (τ 83 27) (τ 83 28)) := hc
        exact t
      · have t := iF t hc
        have ha9 : ¬ (x6 ≤ (Int.tdiv (τ 83 27) (τ 83 28))) := hc
        refine i3 c_271_323 rfl (i31 c_271_325 r7 (i7 (L' := [.ref 83, .int (wI x1), .int (wI x2), .int (wI x3), .int (wI x4), .int (wI x5), .int (wI x6), .long (wJ x6), .retAddr 0, y9]) c_271_326 rfl t))
    · have t := iT t (Decidable.not_not.mp hc)
      have ha5 : (τ 83 28) = 0 := Decidable.not_not.mp hc
      refine i5 c_271_296 rfl (i1 c_271_297 (i46 (σ1 := uc σ 83 (u1 (σ 83) 25 0)) c_271_298 (lo (c := 83) (kd := 112) (n := 0) rfl (by decide)) (by decide) rfl (by decide) (wr_ rfl rfl) (i1 c_271_301 ?_)))
      exact i90 c_271_302 t
  · have t := iF t hc
    have ha4 : ¬ ((σ 84 (5500 + 840 * x5)) ≤ x7) := hc
    refine i5 c_271_160 rfl (i3 c_271_161 rfl (i3 c_271_163 rfl ?_))
    refine i80 (As := [.int (wI x5), .int (wI x7)]) (rest := []) c_271_165 mi_265 rfl rfl (Nat.le_of_ble_eq_true rfl) (Nat.le_of_ble_eq_true rfl) (lo (c := 83) (kd := 112) (n := 0) rfl (by decide)) (q_265 ?_)
    show wi (d + 8) 271 168 [.ref 83, .int (wI x1), .int (wI x2), .int (wI x3), .int (wI x4), .int (wI x5), .int (wI x6), .int (wI x7), y8, y9] [.int (wI (5500 + 840 * x5 + 1 + 8 * x7))] S σ τ Q
    obtain ⟨r10, t⟩ := t
    refine i6 (L' := [.ref 83, .int (wI x1), .int (wI x2), .int (wI x3), .int (wI x4), .int (wI x5), .int (wI x6), .int (wI x7), .int (wI (5500 + 840 * x5 + 1 + 8 * x7)), y9]) c_271_168 rfl (i5 c_271_170 rfl (i45 c_271_171 (lo (c := 83) (kd := 112) (n := 0) rfl (by decide)) (lro (c := 83) (k := 0) (j := 84) (by decide)) (i3 c_271_174 rfl (i50 (v := σ 84 (5500 + 840 * x5 + 1 + 8 * x7)) c_271_176 (lo (c := 84) (kd := 0) (n := 112300) rfl (by decide)) (by decide) r10 rfl (i1 c_271_177 ?_)))))
    refine i37 c_271_178 (rge_ K2 rfl) (by decide) rfl (fun hc => ?_) (fun hc => ?_)
    · have t := iT t hc
      have ha11 : (σ 84 (5500 + 840 * x5 + 1 + 8 * x7)) = 1 := hc
      exact t
    · have t := iF t hc
      have ha11 : ¬ ((σ 84 (5500 + 840 * x5 + 1 + 8 * x7)) = 1) := hc
      obtain ⟨pp12, t⟩ := t
      obtain ⟨p13, t⟩ := t
      obtain ⟨p14, t⟩ := t
      obtain ⟨p15, t⟩ := t
      obtain ⟨p16, t⟩ := t
      obtain ⟨p17, t⟩ := t
      obtain ⟨p18, t⟩ := t
      refine i5 c_271_181 rfl (i3 c_271_182 rfl (i3 c_271_184 rfl (i3 c_271_186 rfl ?_)))
      refine i80 (As := [.int (wI x5), .int (wI (5500 + 840 * x5 + 1 + 8 * x7)), .int (wI x1)]) (rest := []) c_271_187 mi_270 rfl rfl (Nat.le_of_ble_eq_true rfl) (Nat.le_of_ble_eq_true rfl) (lo (c := 83) (kd := 112) (n := 0) rfl (by decide)) (q_270 (pp := pp12) p13 p14 p15 p16 p17 p18 (fun σ219 τ220 q21 q22 => ?_))
      have t := t σ219 τ220 q21 q22
      show wi (d + 8) 271 190 [.ref 83, .int (wI x1), .int (wI x2), .int (wI x3), .int (wI x4), .int (wI x5), .int (wI x6), .int (wI x7), .int (wI (5500 + 840 * x5 + 1 + 8 * x7)), y9] [.int (wI (if r_cts (σ 84) x5 (5500 + 840 * x5 + 1 + 8 * x7) x1 = true then 1 else 0))] S σ219 τ220 Q
      refine i36e c_271_190 rfl (fun hc => ?_) (fun hc => ?_)
      · have t := iT t hc
        have ha23 : r_cts (σ 84) x5 (5500 + 840 * x5 + 1 + 8 * x7) x1 = true := hc
        refine i1 c_271_193 (i38 c_271_194 rfl t)
      · have t := iF t hc
        have ha23 : ¬ (r_cts (σ 84) x5 (5500 + 840 * x5 + 1 + 8 * x7) x1 = true) := hc
        exact t
set_option maxRecDepth 20000 in
theorem u_271_197 {d : Nat} {S : zS} {σ τ : zI} {Q : zQ} {x1 : Int} {x2 : Int} {x3 : Int} {x4 : Int} {x5 : Int} {x6 : Int} {x7 : Int} {x8 : Int} {y9 : Value} (t : wi (d + 8) 271 198 [.ref 83, .int (wI x1), .int (wI x2), .int (wI x3), .int (wI x4), .int (wI x5), .int (wI x6), .int (wI x7), .int (wI x8), y9] [.int (wI 0)] S σ τ Q) : wi (d + 8) 271 197 [.ref 83, .int (wI x1), .int (wI x2), .int (wI x3), .int (wI x4), .int (wI x5), .int (wI x6), .int (wI x7), .int (wI x8), y9] [] S σ τ Q := by
  refine i1 c_271_197 t
set_option maxRecDepth 20000 in
theorem u_271_198 {d : Nat} {S : zS} {σ τ : zI} {Q : zQ} {x1 : Int} {x2 : Int} {x3 : Int} {x4 : Int} {x5 : Int} {x6 : Int} {x7 : Int} {x8 : Int} {y9 : Value} {s0 : Int} (t : (rg s0) ∧ if s0 = 0 then ((0 ≤ x8 ∧ x8 < 112300) ∧ if (σ 84 x8) = 1 then (wi (d + 8) 271 260 [.ref 83, .int (wI x1), .int (wI x2), .int (wI x3), .int (wI x4), .int (wI x5), .int (wI x6), .int (wI x7), .int (wI x8), .int (wI s0)] [] S σ τ Q) else (wi (d + 8) 271 281 [.ref 83, .int (wI x1), .int (wI x2), .int (wI x3), .int (wI x4), .int (wI x5), .int (wI x6), .int (wI x7), .int (wI x8), .int (wI s0)] [] S σ τ Q)) else ((0 ≤ x8 ∧ x8 < 112300) ∧ if (σ 84 x8) = 3 then (wi (d + 8) 271 232 [.ref 83, .int (wI x1), .int (wI x2), .int (wI x3), .int (wI x4), .int (wI x5), .int (wI x6), .int (wI x7), .int (wI x8), .int (wI s0)] [.int (wI x8), .int (wI x5), .ref 83] S σ τ Q) else (if (σ 84 x8) = 5 then (wi (d + 8) 271 232 [.ref 83, .int (wI x1), .int (wI x2), .int (wI x3), .int (wI x4), .int (wI x5), .int (wI x6), .int (wI x7), .int (wI x8), .int (wI s0)] [.int (wI x8), .int (wI x5), .ref 83] S σ τ Q) else (wi (d + 8) 271 237 [.ref 83, .int (wI x1), .int (wI x2), .int (wI x3), .int (wI x4), .int (wI x5), .int (wI x6), .int (wI x7), .int (wI x8), .int (wI s0)] [.int (wI 0), .int (wI x8), .int (wI x5), .ref 83] S σ τ Q)))) : wi (d + 8) 271 198 [.ref 83, .int (wI x1), .int (wI x2), .int (wI x3), .int (wI x4), .int (wI x5), .int (wI x6), .int (wI x7), .int (wI x8), y9] [.int (wI s0)] S σ τ Q := by
  obtain ⟨r1, t⟩ := t
  refine i6 (L' := [.ref 83, .int (wI x1), .int (wI x2), .int (wI x3), .int (wI x4), .int (wI x5), .int (wI x6), .int (wI x7), .int (wI x8), .int (wI s0)]) c_271_198 rfl (i3 c_271_200 rfl ?_)
  refine i36 c_271_202 r1 rfl (fun hc => ?_) (fun hc => ?_)
  · have t := iT t hc
    have ha2 : s0 = 0 := hc
    refine i3 c_271_241 rfl ?_
    refine i36 c_271_243 r1 rfl (fun hc => absurd (show s0 = 0 by omega) hc) (fun _ => ?_)
    obtain ⟨r4, t⟩ := t
    refine i5 c_271_246 rfl (i45 c_271_247 (lo (c := 83) (kd := 112) (n := 0) rfl (by decide)) (lro (c := 83) (k := 0) (j := 84) (by decide)) (i3 c_271_250 rfl (wi_ok (fun K5 => ?_))))
    refine i50 (v := σ 84 x8) c_271_252 (lo (c := 84) (kd := 0) (n := 112300) rfl (by decide)) (by decide) r4 rfl (i1 c_271_253 ?_)
    refine i37 c_271_254 (rge_ K5 rfl) (by decide) rfl (fun hc => ?_) (fun hc => ?_)
    · have t := iT t hc
      have ha6 : (σ 84 x8) = 1 := hc
      exact t
    · have t := iF t hc
      have ha6 : ¬ ((σ 84 x8) = 1) := hc
      refine i38 c_271_257 rfl t
  · have t := iF t hc
    have ha2 : ¬ (s0 = 0) := hc
    obtain ⟨r7, t⟩ := t
    refine i5 c_271_205 rfl (i3 c_271_206 rfl (i3 c_271_208 rfl (i5 c_271_210 rfl (i45 c_271_211 (lo (c := 83) (kd := 112) (n := 0) rfl (by decide)) (lro (c := 83) (k := 0) (j := 84) (by decide)) (i3 c_271_214 rfl (wi_ok (fun K8 => ?_)))))))
    refine i50 (v := σ 84 x8) c_271_216 (lo (c := 84) (kd := 0) (n := 112300) rfl (by decide)) (by decide) r7 rfl (i1 c_271_217 ?_)
    refine i37 c_271_218 (rge_ K8 rfl) (by decide) rfl (fun hc => ?_) (fun hc => ?_)
    · have t := iT t hc
      have ha9 : (σ 84 x8) = 3 := hc
      exact t
    · have t := iF t hc
      have ha9 : ¬ ((σ 84 x8) = 3) := hc
      refine i5 c_271_221 rfl (i45 c_271_222 (lo (c := 83) (kd := 112) (n := 0) rfl (by decide)) (lro (c := 83) (k := 0) (j := 84) (by decide)) (i3 c_271_225 rfl (i50 (v := σ 84 x8) c_271_227 (lo (c := 84) (kd := 0) (n := 112300) rfl (by decide)) (by decide) r7 rfl (i1 c_271_228 ?_))))
      refine i37 c_271_229 (rge_ K8 rfl) (by decide) rfl (fun hc => ?_) (fun hc => ?_)
      · have t := iF t hc
        have ha10 : ¬ ((σ 84 x8) = 5) := hc
        refine i1 c_271_236 t
      · have t := iT t (Decidable.not_not.mp hc)
        have ha10 : (σ 84 x8) = 5 := Decidable.not_not.mp hc
        exact t
set_option maxRecDepth 20000 in
theorem u_271_232 {d : Nat} {S : zS} {σ τ : zI} {Q : zQ} {x1 : Int} {x2 : Int} {x3 : Int} {x4 : Int} {x5 : Int} {x6 : Int} {x7 : Int} {x8 : Int} {x9 : Int} {s1 : Int} {s2 : Int} (t : wi (d + 8) 271 237 [.ref 83, .int (wI x1), .int (wI x2), .int (wI x3), .int (wI x4), .int (wI x5), .int (wI x6), .int (wI x7), .int (wI x8), .int (wI x9)] [.int (wI 1), .int (wI s2), .int (wI s1), .ref 83] S σ τ Q) : wi (d + 8) 271 232 [.ref 83, .int (wI x1), .int (wI x2), .int (wI x3), .int (wI x4), .int (wI x5), .int (wI x6), .int (wI x7), .int (wI x8), .int (wI x9)] [.int (wI s2), .int (wI s1), .ref 83] S σ τ Q := by
  refine i1 c_271_232 (i38 c_271_233 rfl t)
set_option maxRecDepth 20000 in
theorem u_271_237 {d : Nat} {S : zS} {σ τ : zI} {Q : zQ} {x1 : Int} {x2 : Int} {x3 : Int} {x4 : Int} {x5 : Int} {x6 : Int} {x7 : Int} {x8 : Int} {x9 : Int} {s1 : Int} {s2 : Int} {s3 : Int} (t : ∃ pp1 : Int × Int, (jv_K (σ 84)) ∧ (0 ≤ s1 ∧ s1 < 20) ∧ (0 ≤ s2 ∧ s2 + 8 ≤ 112300) ∧ (0 ≤ σ 84 (s2 + 6) ∧ σ 84 (s2 + 6) ≤ σ 84 (s2 + 7) ∧ σ 84 (s2 + 7) ≤ 300) ∧ (0 ≤ x1 ∧ x1 ≤ 5) ∧ (wzN (σ 84) (5500 + 840 * s1 + 200) (σ 84 (s2 + 7) - σ 84 (s2 + 6)).toNat (σ 84 (s2 + 6)) 0 0 1 0) ∧ (s3 = (0 : Int) ∨ s3 = (1 : Int)) ∧ (PR τ pp1) ∧ ∀ (σ210 : zI) (τ211 : zI), Fr7 σ σ210 τ τ211 → PR τ211 (fr2 (if s3 = 0 then 3 else 4) pp1.1 pp1.2 (vlN (σ 84) (fun v => σ 84 (20 + 8 * x1 + v)) (5500 + 840 * s1 + 200) (σ 84 (s2 + 7) - σ 84 (s2 + 6)).toNat (σ 84 (s2 + 6))).1 (vlN (σ 84) (fun v => σ 84 (20 + 8 * x1 + v)) (5500 + 840 * s1 + 200) (σ 84 (s2 + 7) - σ 84 (s2 + 6)).toNat (σ 84 (s2 + 6))).2) → (rg x9) ∧ if x9 = 0 then ((0 ≤ x8 ∧ x8 < 112300) ∧ if (σ210 84 x8) = 1 then (wi (d + 8) 271 260 [.ref 83, .int (wI x1), .int (wI x2), .int (wI x3), .int (wI x4), .int (wI x5), .int (wI x6), .int (wI x7), .int (wI x8), .int (wI x9)] [] S σ210 τ211 Q) else (wi (d + 8) 271 281 [.ref 83, .int (wI x1), .int (wI x2), .int (wI x3), .int (wI x4), .int (wI x5), .int (wI x6), .int (wI x7), .int (wI x8), .int (wI x9)] [] S σ210 τ211 Q)) else (wi (d + 8) 271 260 [.ref 83, .int (wI x1), .int (wI x2), .int (wI x3), .int (wI x4), .int (wI x5), .int (wI x6), .int (wI x7), .int (wI x8), .int (wI x9)] [] S σ210 τ211 Q)) : wi (d + 8) 271 237 [.ref 83, .int (wI x1), .int (wI x2), .int (wI x3), .int (wI x4), .int (wI x5), .int (wI x6), .int (wI x7), .int (wI x8), .int (wI x9)] [.int (wI s3), .int (wI s2), .int (wI s1), .ref 83] S σ τ Q := by
  obtain ⟨pp1, t⟩ := t
  obtain ⟨p2, t⟩ := t
  obtain ⟨p3, t⟩ := t
  obtain ⟨p4, t⟩ := t
  obtain ⟨p5, t⟩ := t
  obtain ⟨p6, t⟩ := t
  obtain ⟨p7, t⟩ := t
  obtain ⟨p8, t⟩ := t
  obtain ⟨p9, t⟩ := t
  refine i3 c_271_237 rfl ?_
  refine i80 (As := [.int (wI s1), .int (wI s2), .int (wI s3), .int (wI x1)]) (rest := []) c_271_238 mi_269 rfl rfl (Nat.le_of_ble_eq_true rfl) (Nat.le_of_ble_eq_true rfl) (lo (c := 83) (kd := 112) (n := 0) rfl (by decide)) (q_269 (pp := pp1) p2 p3 p4 p5 p6 p7 p8 p9 (fun σ210 τ211 q12 q13 => ?_))
  have t := t σ210 τ211 q12 q13
  show wi (d + 8) 271 241 [.ref 83, .int (wI x1), .int (wI x2), .int (wI x3), .int (wI x4), .int (wI x5), .int (wI x6), .int (wI x7), .int (wI x8), .int (wI x9)] [] S σ210 τ211 Q
  obtain ⟨r14, t⟩ := t
  refine i3 c_271_241 rfl ?_
  refine i36 c_271_243 r14 rfl (fun hc => ?_) (fun hc => ?_)
  · have t := iF t hc
    have ha15 : ¬ (x9 = 0) := hc
    exact t
  · have t := iT t (Decidable.not_not.mp hc)
    have ha15 : x9 = 0 := Decidable.not_not.mp hc
    obtain ⟨r16, t⟩ := t
    refine i5 c_271_246 rfl (i45 c_271_247 (lo (c := 83) (kd := 112) (n := 0) rfl (by decide)) (lro (c := 83) (k := 0) (j := 84) (by decide)) (i3 c_271_250 rfl (wi_ok (fun K17 => ?_))))
    refine i50 (v := σ210 84 x8) c_271_252 (lo (c := 84) (kd := 0) (n := 112300) rfl (by decide)) (by decide) r16 rfl (i1 c_271_253 ?_)
    refine i37 c_271_254 (rge_ K17 rfl) (by decide) rfl (fun hc => ?_) (fun hc => ?_)
    · have t := iT t hc
      have ha18 : (σ210 84 x8) = 1 := hc
      exact t
    · have t := iF t hc
      have ha18 : ¬ ((σ210 84 x8) = 1) := hc
      refine i38 c_271_257 rfl t
set_option maxRecDepth 20000 in
theorem u_271_260 {d : Nat} {S : zS} {σ τ : zI} {Q : zQ} {x1 : Int} {x2 : Int} {x3 : Int} {x4 : Int} {x5 : Int} {x6 : Int} {x7 : Int} {x8 : Int} {x9 : Int} (t : (0 ≤ σ 83 25 ∧ σ 83 25 < 24) ∧ ∃ w3 : Int, wI w3 = wI x7 ∧ rg w3 ∧ ∃ w7 : Int, wI w7 = wI ((σ 83 25) + 1) ∧ rg w7 ∧ wi (d + 8) 271 281 [.ref 83, .int (wI x1), .int (wI x2), .int (wI x3), .int (wI x4), .int (wI x5), .int (wI x6), .int (wI x7), .int (wI x8), .int (wI x9)] [] S (uc (uc σ 92 (u1 (σ 92) (σ 83 25) w3)) 83 (u1 (σ 83) 25 w7)) τ Q) : wi (d + 8) 271 260 [.ref 83, .int (wI x1), .int (wI x2), .int (wI x3), .int (wI x4), .int (wI x5), .int (wI x6), .int (wI x7), .int (wI x8), .int (wI x9)] [] S σ τ Q := by
  refine i5 c_271_260 rfl (i45 c_271_261 (lo (c := 83) (kd := 112) (n := 0) rfl (by decide)) (lro (c := 83) (k := 26) (j := 92) (by decide)) (i5 c_271_264 rfl (wi_ok (fun K1 => ?_))))
  obtain ⟨r2, t⟩ := t
  obtain ⟨w3, e4, r5, t⟩ := t
  refine i43 (v := σ 83 25) c_271_265 (lo (c := 83) (kd := 112) (n := 0) rfl (by decide)) rfl (i3 c_271_268 rfl (i54 (σ1 := uc σ 92 (u1 (σ 92) (σ 83 25) w3)) c_271_270 (lo (c := 92) (kd := 0) (n := 24) rfl (by decide)) (by decide) r2 (by decide) e4 r5 (wr_ rfl rfl) (i5 c_271_271 rfl (i33a c_271_272 (wi_ok (fun K6 => ?_))))))
  obtain ⟨w7, e8, r9, t⟩ := t
  refine i43 (v := σ 83 25) c_271_273 (lo (c := 83) (kd := 112) (n := 0) rfl (by decide)) (congrFun (uc_ns rfl (by decide)) _) (i1 c_271_276 (i10 c_271_277 (i46 (σ1 := uc (uc σ 92 (u1 (σ 92) (σ 83 25) w3)) 83 (u1 (σ 83) 25 w7)) c_271_278 (lo (c := 83) (kd := 112) (n := 0) rfl (by decide)) (by decide) e8 r9 (wr_ (uc_ns rfl (by decide)) rfl) t)))
set_option maxRecDepth 20000 in
theorem u_271_281 {d : Nat} {S : zS} {σ τ : zI} {Q : zQ} {x1 : Int} {x2 : Int} {x3 : Int} {x4 : Int} {x5 : Int} {x6 : Int} {x7 : Int} {x8 : Int} {x9 : Int} (t : wi (d + 8) 271 149 [.ref 83, .int (wI x1), .int (wI x2), .int (wI x3), .int (wI x4), .int (wI x5), .int (wI x6), .int (wI (x7 + 1)), .int (wI x8), .int (wI x9)] [] S σ τ Q) : wi (d + 8) 271 281 [.ref 83, .int (wI x1), .int (wI x2), .int (wI x3), .int (wI x4), .int (wI x5), .int (wI x6), .int (wI x7), .int (wI x8), .int (wI x9)] [] S σ τ Q := by
  refine i9 (L' := [.ref 83, .int (wI x1), .int (wI x2), .int (wI x3), .int (wI x4), .int (wI x5), .int (wI x6), .int (wI (x7 + 1)), .int (wI x8), .int (wI x9)]) c_271_281 rfl rfl (i38 c_271_284 rfl t)
set_option maxRecDepth 20000 in
theorem u_271_328 {d : Nat} {S : zS} {σ τ : zI} {Q : zQ} {x1 : Int} {x2 : Int} {x3 : Int} {x4 : Int} {x5 : Int} {x6 : Int} {x7 : Int} {y9 : Value} (t : (rj x7) ∧ if x7 ≤ 100000 then (wi (d + 8) 271 345 [.ref 83, .int (wI x1), .int (wI x2), .int (wI x3), .int (wI x4), .int (wI x5), .int (wI x6), .long (wJ x7), .retAddr 0, y9] [.int (wI x7)] S σ τ Q) else (wi (d + 8) 271 345 [.ref 83, .int (wI x1), .int (wI x2), .int (wI x3), .int (wI x4), .int (wI x5), .int (wI x6), .long (wJ x7), .retAddr 0, y9] [.int (wI 100000)] S σ τ Q)) : wi (d + 8) 271 328 [.ref 83, .int (wI x1), .int (wI x2), .int (wI x3), .int (wI x4), .int (wI x5), .int (wI x6), .long (wJ x7), .retAddr 0, y9] [] S σ τ Q := by
  obtain ⟨r1, t⟩ := t
  refine i4 c_271_328 rfl (i2 c_271_330 (i28 c_271_333 ?_))
  refine i36l c_271_334 r1 (by decide) rfl (fun hc => ?_) (fun hc => ?_)
  · have t := iT t hc
    have ha2 : x7 ≤ 100000 := hc
    refine i4 c_271_342 rfl (i30 c_271_344 t)
  · have t := iF t hc
    have ha2 : ¬ (x7 ≤ 100000) := hc
    refine i1 c_271_337 (i38 c_271_339 rfl t)
set_option maxRecDepth 20000 in
theorem u_271_345 {d : Nat} {S : zS} {σ τ : zI} {Q : zQ} {x1 : Int} {x2 : Int} {x3 : Int} {x4 : Int} {x5 : Int} {x6 : Int} {x7 : Int} {y9 : Value} {s0 : Int} (t : Q (some (.int (wI s0))) S σ τ) : wi (d + 8) 271 345 [.ref 83, .int (wI x1), .int (wI x2), .int (wI x3), .int (wI x4), .int (wI x5), .int (wI x6), .long (wJ x7), .retAddr 0, y9] [.int (wI s0)] S σ τ Q := by
  exact i90 c_271_345 t
theorem q_271 {d : Nat} {S : zS} {σ τ : zI} {Q : zQ} {kind : Int} {mill : Int} {week : Int} {known : Int} (p0 : Jl (σ 84)) (p1 : jv_T (σ 84)) (p2 : jv_E (σ 84)) (p3 : 0 ≤ kind ∧ kind ≤ 5) (p4 : rg mill) (p5 : rg week) (p6 : rg known) (t : ∀ (σ1 : zI) (τ1 : zI), Fr8 σ σ1 τ τ1 → σ1 83 24 = r_fc (σ 84) 1 mill week known → Wy σ1 (σ 84) kind mill week known → Q (some (.int (wI (r_pay (σ 84) kind mill week known)))) S σ1 τ1) : wc (d + 8) 271 [.ref 83, .int (wI kind), .int (wI mill), .int (wI week), .int (wI known)] S σ τ Q := by
  have hC := lC p0
  unfold jv_C at hC
  have fb := r_fc_b (a := σ 84) (sort := 1) (mill := mill) (week := week) (known := known) (by omega)
  refine wc_of mi_271 rfl (u_271_0 ⟨p0, p1, p4, p5, p6, ?_⟩)
  intro v e hb
  have hv : -1 ≤ v ∧ v < σ 84 6 := hb
  unfold r_pay Wy r_why at t
  rw [← e] at t fb
  clear e
  refine ⟨v, rfl, by omega, ?_⟩
  refine ifI (fun e0 => ?_) (fun e0 => ?_)
  · have q := lF p0 v e0 hb.2
    have hX := q.1
    simp only [if_neg (show ¬ v < 0 by omega)] at t
    refine ⟨by omega, ?_⟩
    generalize σ 84 (5012 + 8 * v) = X at *
    have jt := p1 X hX.1 hX.2
    have je := p2 X hX.1 hX.2
    generalize hN : σ 84 (5500 + 840 * X) = N at *
    have hK := lK p0
    have loop2 : ∀ i, 0 ≤ i → i ≤ N → ∀ (σ' τ' : zI) (y8 y9 : Value), Fr8 σ σ' τ τ' → σ' 83 24 = v → σ' 83 25 = r_cn (σ 84) X kind i → (∀ k, 0 ≤ k → k < r_cn (σ 84) X kind i → σ' 92 k = r_wy (σ 84) X kind k i) → PR τ' (r_p2 (σ 84) X kind i) → wi (d + 8) 271 149 [.ref 83, .int (wI kind), .int (wI mill), .int (wI week), .int (wI known), .int (wI X), .int (wI (r_mx (σ 84) X 6 N)), .int (wI i), y8, y9] [] S σ' τ' Q := by
      refine lp_up (fun i i0 i1 ih => ?_)
      intro σ' τ' y8 y9 fr v24 v25 w92 pr
      have e84 : σ' 84 = σ 84 := fr.1 84 (by decide) (by decide) (by decide)
      have cb := r_cn_b (a := σ 84) (text := X) (kind := kind) (n := i) i0
      have mb := r_mx_b (a := σ 84) (text := X) (sort := 6) (n := N) (M := 9999) (by omega) (by omega) (fun c c0 c1 c2 => by
        have := (jt.2 c c0 (by omega)).2.2.1 c2
        omega)
      refine u_271_149 ⟨by omega, by omega, ?_⟩
      rw [e84, hN]
      refine ifI (fun e => ?_) (fun e => ?_)
      · have : i = N := by omega
        subst this
        have o := r_p2_o (a := σ 84) (text := X) (kind := kind) (n := i) i0 (by omega)
        have p1_ := pr.1
        have p2_ := pr.2.1
        unfold r_fr r_payT at t
        unfold r_fr at t
        rw [hN] at t
        refine ifI (fun e2 => ?_) (fun e2 => ?_)
        · rw [p1_] at e2
          simp only [if_pos e2] at t
          refine t _ τ' ?_ ?_ ?_
          · exact ⟨fun c h1 h2 h3 => by rw [uc_n h1]; exact fr.1 c h1 h2 h3, fun k hk => by rw [uc_s, u1_n (by omega)]; exact fr.2.1 k hk, fr.2.2⟩
          · rw [uc_s, u1_n (by decide)]; exact v24
          · rw [uc_s, u1_s]
            exact ⟨by omega, fun i => if_neg (by omega)⟩
        · rw [p1_] at e2
          simp only [if_neg e2] at t
          rw [p1_, p2_ e2]
          have t := t σ' τ' fr v24 ⟨by omega, fun k => by
            rw [v25]
            by_cases hk : 0 ≤ k ∧ k < r_cn (σ 84) X kind i
            · rw [if_pos hk]; exact w92 k hk.1 hk.2
            · rw [if_neg hk, r_wy_m i0 (by omega)]⟩
          generalize r_mx (σ 84) X 6 i = m at *
          have tb := Int.natAbs_tdiv_le_natAbs (r_p2 (σ 84) X kind i).1 (r_p2 (σ 84) X kind i).2
          generalize (r_p2 (σ 84) X kind i).1.tdiv (r_p2 (σ 84) X kind i).2 = D at *
          refine ⟨e2, by omega, by omega, ?_⟩
          refine ifI (fun e3 => ?_) (fun e3 => ?_)
          · refine u_271_328 ⟨by omega, ?_⟩
            refine ifI (fun e4 => ?_) (fun e4 => ?_)
            · refine u_271_345 ?_
              rw [show min (max D m) 100000 = D by omega] at t
              exact t
            · refine u_271_345 ?_
              rw [show min (max D m) 100000 = 100000 by omega] at t
              exact t
          · refine u_271_328 ⟨by omega, ?_⟩
            refine ifI (fun e4 => ?_) (fun e4 => ?_)
            · refine u_271_345 ?_
              rw [show min (max D m) 100000 = m by omega] at t
              exact t
            · refine u_271_345 ?_
              rw [show min (max D m) 100000 = 100000 by omega] at t
              exact t
      · have ih := ih (by omega)
        clear t
        have jc := jt.2 i i0 (by omega)
        have ec := je i i0 (by omega)
        rw [r_cn_s i0, r_p2_s i0] at ih
        simp only [r_wy_s i0] at ih
        unfold r_is at ih
        have hC2 : 0 ≤ 5500 + 840 * X + 1 + 8 * i ∧ 5500 + 840 * X + 1 + 8 * i + 8 ≤ 112300 := by omega
        generalize hCC : 5500 + 840 * X + 1 + 8 * i = CC at *
        -- a CLAUSE that counted
        have yes : (σ 84 CC = 1 ∨ r_cts (σ 84) X CC kind = true) → ∀ (σ2 τ2 : zI) (x9 : Int), Fr8 σ σ2 τ τ2 → σ2 83 24 = v → σ2 83 25 = r_cn (σ 84) X kind i → (∀ k, 0 ≤ k → k < r_cn (σ 84) X kind i → σ2 92 k = r_wy (σ 84) X kind k i) → PR τ2 (if σ 84 CC ≠ 1 ∧ r_cts (σ 84) X CC kind = true then fr2 (if σ 84 CC = 3 ∨ σ 84 CC = 5 then 4 else 3) (r_p2 (σ 84) X kind i).1 (r_p2 (σ 84) X kind i).2 (r_vl (σ 84) X kind CC).1 (r_vl (σ 84) X kind CC).2 else r_p2 (σ 84) X kind i) → wi (d + 8) 271 260 [.ref 83, .int (wI kind), .int (wI mill), .int (wI week), .int (wI known), .int (wI X), .int (wI (r_mx (σ 84) X 6 N)), .int (wI i), .int (wI CC), .int (wI x9)] [] S σ2 τ2 Q := fun hy σ2 τ2 x9 fr2_ a24 a25 a92 pr2 => by
          have hy2 : (decide (σ 84 CC = 1) || r_cts (σ 84) X CC kind) = true := by
            rw [Bool.or_eq_true, decide_eq_true_eq]; exact hy
          simp only [if_pos hy2] at ih
          refine u_271_260 ?_
          rw [a25]
          refine ⟨by omega, i, rfl, by omega, _, rfl, by omega, ?_⟩
          refine u_271_281 (ih _ _ _ _ ?_ ?_ ?_ ?_ pr2)
          · exact ⟨fun c h1 h2 h3 => by rw [uc_n h1, uc_n h3]; exact fr2_.1 c h1 h2 h3, fun k hk => by rw [uc_s, u1_n (by omega)]; exact fr2_.2.1 k hk, fr2_.2.2⟩
          · rw [uc_s, u1_n (by decide)]; exact a24
          · rw [uc_s, u1_s]
          · intro k k0 k1
            rw [uc_n (by decide), uc_s]
            by_cases hk : r_cn (σ 84) X kind i = k
            · rw [if_pos ⟨hy2, hk⟩, ← hk, u1_s]
            · rw [if_neg (fun h => hk h.2), u1_n (by omega)]
              exact a92 k k0 (by omega)
        have no : ¬ (σ 84 CC = 1 ∨ r_cts (σ 84) X CC kind = true) → ∀ (σ2 τ2 : zI) (x9 : Int), Fr8 σ σ2 τ τ2 → σ2 83 24 = v → σ2 83 25 = r_cn (σ 84) X kind i → (∀ k, 0 ≤ k → k < r_cn (σ 84) X kind i → σ2 92 k = r_wy (σ 84) X kind k i) → PR τ2 (r_p2 (σ 84) X kind i) → wi (d + 8) 271 281 [.ref 83, .int (wI kind), .int (wI mill), .int (wI week), .int (wI known), .int (wI X), .int (wI (r_mx (σ 84) X 6 N)), .int (wI i), .int (wI CC), .int (wI x9)] [] S σ2 τ2 Q := fun hy σ2 τ2 x9 fr2_ a24 a25 a92 pr2 => by
          have hy2 : ¬ (decide (σ 84 CC = 1) || r_cts (σ 84) X CC kind) = true := by
            rw [Bool.or_eq_true, decide_eq_true_eq]; exact hy
          simp only [if_neg hy2] at ih
          refine u_271_281 (ih _ _ _ _ fr2_ a24 a25 ?_ ?_)
          · intro k k0 k1
            rw [if_neg (fun h => hy2 h.1)]
            exact a92 k k0 k1
          · rw [if_neg (fun h => hy (Or.inr h.2))]
            exact pr2
        clear ih
        refine ⟨by omega, ?_⟩
        refine ifI (fun e1 => ?_) (fun e1 => ?_)
        · refine u_271_197 (u_271_198 ⟨by omega, ?_⟩)
          rw [if_pos rfl, e84]
          refine ⟨by omega, ?_⟩
          rw [if_pos e1]
          exact yes (Or.inl e1) _ _ _ fr v24 v25 w92 (by rw [if_neg (fun h => h.1 e1)]; exact pr)
        · refine ⟨_, hK, by omega, by omega, fun h => ec.2 h, p3, pr, fun σ2 τ2 f2 pr2 => ?_⟩
          have fr2_ := Fr8_7 fr f2
          have e842 : σ2 84 = σ 84 := fr2_.1 84 (by decide) (by decide) (by decide)
          have b24 : σ2 83 24 = v := by rw [f2.2.1 24 (by decide) (by decide)]; exact v24
          have b25 : σ2 83 25 = r_cn (σ 84) X kind i := by rw [f2.2.1 25 (by decide) (by decide)]; exact v25
          have b92 : ∀ k, 0 ≤ k → k < r_cn (σ 84) X kind i → σ2 92 k = r_wy (σ 84) X kind k i := by rw [f2.1 92 (by decide) (by decide)]; exact w92
          refine ifI (fun e3 => ?_) (fun e3 => ?_)
          · have s5 : σ 84 CC ≤ 5 := by
              unfold r_cts at e3
              split at e3
              · omega
              · split at e3
                · omega
                · cases e3
            have ec1 := ec.1 s5
            have go : ∀ z, (z = 0 ∨ z = 1) → (z = 1 ↔ σ 84 CC = 3 ∨ σ 84 CC = 5) → wi (d + 8) 271 237 [.ref 83, .int (wI kind), .int (wI mill), .int (wI week), .int (wI known), .int (wI X), .int (wI (r_mx (σ 84) X 6 N)), .int (wI i), .int (wI CC), .int (wI 1)] [.int (wI z), .int (wI CC), .int (wI X), .ref 83] S σ2 τ2 Q := fun z hz hz2 => by
              refine u_271_237 ?_
              rw [e842]
              refine ⟨_, hK, by omega, hC2, ec1.1, p3, ec1.2, hz, pr2, fun σ3 τ3 f3 pr3 => ?_⟩
              refine ⟨by omega, ?_⟩
              rw [if_neg (by decide)]
              refine yes (Or.inr e3) _ _ _ (Fr8_7 fr2_ f3) (by rw [f3.2.1 24 (by decide) (by decide)]; exact b24) (by rw [f3.2.1 25 (by decide) (by decide)]; exact b25) (by rw [f3.1 92 (by decide) (by decide)]; exact b92) ?_
              rw [if_pos ⟨e1, e3⟩]
              by_cases hz3 : z = 0
              · rw [if_neg (by omega)]
                rw [if_pos hz3] at pr3
                exact pr3
              · rw [if_pos (by omega)]
                rw [if_neg hz3] at pr3
                exact pr3
            refine u_271_198 ⟨by omega, ?_⟩
            rw [if_neg (by decide), e842]
            refine ⟨by omega, ?_⟩
            refine ifI (fun e5 => u_271_232 (go 1 (by omega) (by omega))) (fun e5 => ?_)
            refine ifI (fun e6 => u_271_232 (go 1 (by omega) (by omega))) (fun e6 => ?_)
            exact go 0 (by omega) (by omega)
          · refine u_271_197 (u_271_198 ⟨by omega, ?_⟩)
            rw [if_pos rfl, e842]
            refine ⟨by omega, ?_⟩
            rw [if_neg e1]
            exact no (fun h => h.elim e1 e3) _ _ _ fr2_ b24 b25 b92 pr2
    have loop1 : ∀ i, 0 ≤ i → i ≤ N → ∀ (σ' τ' : zI) (y8 y9 : Value), Fr8 σ σ' τ τ' → σ' 83 24 = v → σ' 83 25 = 0 → PR τ' (r_p1 (σ 84) X kind i) → wi (d + 8) 271 61 [.ref 83, .int (wI kind), .int (wI mill), .int (wI week), .int (wI known), .int (wI X), .int (wI (r_mx (σ 84) X 6 i)), .int (wI i), y8, y9] [] S σ' τ' Q := by
      refine lp_up (fun i i0 i1 ih => ?_)
      intro σ' τ' y8 y9 fr v24 v25 pr
      have e84 : σ' 84 = σ 84 := fr.1 84 (by decide) (by decide) (by decide)
      refine u_271_61 ⟨by omega, by omega, ?_⟩
      rw [e84, hN]
      refine ifI (fun e => ?_) (fun e => ?_)
      · have : i = N := by omega
        subst this
        refine loop2 0 (by omega) (by omega) _ _ _ _ fr v24 (by rw [v25]; rfl) (fun k k0 k1 => ?_) ?_
        · have : r_cn (σ 84) X kind 0 = 0 := rfl
          omega
        · rw [r_p2_0, hN]; exact pr
      · have ih := ih (by omega)
        clear t loop2
        have jc := jt.2 i i0 (by omega)
        have ec := je i i0 (by omega)
        have mb := r_mx_b (a := σ 84) (text := X) (sort := 6) (n := i) (M := 9999) (by omega) (by omega) (fun c c0 c1 c2 => by
          have := (jt.2 c c0 (by omega)).2.2.1 c2
          omega)
        rw [r_mx_s i0, r_p1_s i0] at ih
        generalize r_mx (σ 84) X 6 i = m at *
        refine ⟨by omega, ?_⟩
        generalize hCC : 5500 + 840 * X + 1 + 8 * i = CC at *
        refine ifI (fun e1 => ?_) (fun e1 => ?_)
        · have ec1 := ec.1 (by omega)
          rw [if_pos e1, if_neg (by omega)] at ih
          refine ⟨_, hK, by omega, by omega, ec1.1, p3, ec1.2, Or.inl rfl, pr, fun σ2 τ2 f2 pr2 => ?_⟩
          have fr2_ := Fr8_7 fr f2
          have e842 : σ2 84 = σ 84 := fr2_.1 84 (by decide) (by decide) (by decide)
          rw [e842, if_neg (by omega)]
          rw [if_pos rfl] at pr2
          refine u_271_140 (ih _ _ _ _ fr2_ ?_ ?_ pr2)
          · rw [f2.2.1 24 (by decide) (by decide)]; exact v24
          · rw [f2.2.1 25 (by decide) (by decide)]; exact v25
        · rw [if_neg e1] at ih
          refine ifI (fun e2 => ⟨by omega, by omega, ?_⟩) (fun e2 => ?_)
          · refine ifI (fun e3 => ?_) (fun e3 => ?_)
            · rw [if_neg (by omega)] at ih
              exact u_271_140 (ih _ _ _ _ fr v24 v25 pr)
            · rw [if_pos (by omega)] at ih
              exact u_271_140 (ih _ _ _ _ fr v24 v25 pr)
          · rw [if_neg (by omega)] at ih
            exact u_271_140 (ih _ _ _ _ fr v24 v25 pr)
    refine loop1 0 (by omega) (by omega) _ _ _ _ ?_ ?_ ?_ ?_
    · exact ⟨fun c h1 h2 h3 => by rw [uc_n h1], fun k hk => by rw [uc_s, u1_n (by omega), u1_n (by omega)], fun c h1 _ _ => by rw [uc_n h1]⟩
    · rw [uc_s, u1_n (by decide), u1_s]
    · rw [uc_s, u1_s]
    · exact ⟨by rw [uc_s, u1_s]; rfl, fun _ => by rw [uc_s, u1_n (by decide), u1_s]; rfl, Or.inr (show ((0 : Int) < 1 ∧ (1 : Int) ≤ 1000000000) ∧ (-1000000000 : Int) ≤ 0 ∧ (0 : Int) ≤ 1000000000 by decide)⟩
  · simp only [if_pos (show v < 0 by omega)] at t
    refine t _ τ ?_ ?_ ?_
    · exact ⟨fun c h1 h2 h3 => by rw [uc_n h1], fun k hk => by rw [uc_s, u1_n (by omega), u1_n (by omega)], fun _ _ _ _ => rfl⟩
    · rw [uc_s, u1_n (by decide), u1_s]
    · rw [uc_s, u1_s]
      exact ⟨by omega, fun i => if_neg (by omega)⟩
-- method 273: MillTownModel.pay(IIII)I
theorem c_273_0 : pg_cd 273 0 = (3, 1, 0, 1, 0) := by decide +kernel
theorem c_273_1 : pg_cd 273 1 = (81, 204, 80, 0, 0) := by decide +kernel
theorem c_273_4 : pg_cd 273 4 = (36, 3, 0, 0, 32) := by decide +kernel
theorem c_273_7 : pg_cd 273 7 = (5, 1, 0, 0, 0) := by decide +kernel
theorem c_273_8 : pg_cd 273 8 = (3, 1, 0, 2, 0) := by decide +kernel
theorem c_273_9 : pg_cd 273 9 = (80, 201, 115, 0, 0) := by decide +kernel
theorem c_273_12 : pg_cd 273 12 = (36, 3, 0, 0, 24) := by decide +kernel
theorem c_273_15 : pg_cd 273 15 = (3, 1, 0, 3, 0) := by decide +kernel
theorem c_273_16 : pg_cd 273 16 = (3, 2, 0, 4, 0) := by decide +kernel
theorem c_273_18 : pg_cd 273 18 = (81, 272, 334, 0, 0) := by decide +kernel
theorem c_273_21 : pg_cd 273 21 = (36, 3, 0, 0, 15) := by decide +kernel
theorem c_273_24 : pg_cd 273 24 = (5, 1, 0, 0, 0) := by decide +kernel
theorem c_273_25 : pg_cd 273 25 = (3, 1, 0, 1, 0) := by decide +kernel
theorem c_273_26 : pg_cd 273 26 = (3, 1, 0, 2, 0) := by decide +kernel
theorem c_273_27 : pg_cd 273 27 = (3, 1, 0, 3, 0) := by decide +kernel
theorem c_273_28 : pg_cd 273 28 = (3, 2, 0, 4, 0) := by decide +kernel
theorem c_273_30 : pg_cd 273 30 = (80, 271, 337, 0, 0) := by decide +kernel
theorem c_273_33 : pg_cd 273 33 = (38, 3, 0, 0, 4) := by decide +kernel
theorem c_273_36 : pg_cd 273 36 = (1, 1, 0, 0, (-1)) := by decide +kernel
theorem c_273_37 : pg_cd 273 37 = (90, 0, 0, 0, 0) := by decide +kernel
theorem mi_273 : pg_mc 273 = 12 ∧ pg_na 273 = 4 ∧ pg_mx 273 = 5 := by decide +kernel
set_option maxRecDepth 20000 in
theorem u_273_0 {d : Nat} {S : zS} {σ τ : zI} {Q : zQ} {x1 : Int} {x2 : Int} {x3 : Int} {x4 : Int} (t : (rg x1) ∧ if 0 ≤ x1 ∧ x1 ≤ 5 then ((rg x2) ∧ (0 ≤ σ 84 1) ∧ if 0 ≤ x2 ∧ x2 < σ 84 1 then ((rg x3) ∧ (rg x4) ∧ if (0 ≤ x3 ∧ x3 ≤ 399) ∧ (0 ≤ x4 ∧ x4 ≤ 399) then ((Jl (σ 84)) ∧ (jv_T (σ 84)) ∧ (jv_E (σ 84)) ∧ (0 ≤ x1 ∧ x1 ≤ 5) ∧ ∀ (σ113 : zI) (τ114 : zI), Fr8 σ σ113 τ τ114 → σ113 83 24 = r_fc (σ 84) 1 x2 x3 x4 → Wy σ113 (σ 84) x1 x2 x3 x4 → Q (some (.int (wI (r_pay (σ 84) x1 x2 x3 x4)))) S σ113 τ114) else (Q (some (.int (wI (-1)))) S σ τ)) else (Q (some (.int (wI (-1)))) S σ τ)) else (Q (some (.int (wI (-1)))) S σ τ)) : wi (d + 9) 273 0 [.ref 83, .int (wI x1), .int (wI x2), .int (wI x3), .int (wI x4)] [] S σ τ Q := by
  obtain ⟨r1, t⟩ := t
  refine i3 c_273_0 rfl ?_
  refine i81 (As := [.int (wI x1)]) (rest := []) c_273_1 mi_204 rfl rfl (Nat.le_of_ble_eq_true rfl) (Nat.le_of_ble_eq_true rfl) (q_204 r1 ?_)
  show wi (d + 9) 273 4 [.ref 83, .int (wI x1), .int (wI x2), .int (wI x3), .int (wI x4)] [.int (wI (if 0 ≤ x1 ∧ x1 ≤ 5 then 1 else 0))] S σ τ Q
  refine i36e c_273_4 rfl (fun hc => ?_) (fun hc => ?_)
  · have t := iT t hc
    have ha2 : 0 ≤ x1 ∧ x1 ≤ 5 := hc
    obtain ⟨r3, t⟩ := t
    obtain ⟨p4, t⟩ := t
    refine i5 c_273_7 rfl (i3 c_273_8 rfl ?_)
    refine i80 (As := [.int (wI x2)]) (rest := []) c_273_9 mi_201 rfl rfl (Nat.le_of_ble_eq_true rfl) (Nat.le_of_ble_eq_true rfl) (lo (c := 83) (kd := 112) (n := 0) rfl (by decide)) (q_201 r3 p4 ?_)
    show wi (d + 9) 273 12 [.ref 83, .int (wI x1), .int (wI x2), .int (wI x3), .int (wI x4)] [.int (wI (if 0 ≤ x2 ∧ x2 < σ 84 1 then 1 else 0))] S σ τ Q
    refine i36e c_273_12 rfl (fun hc => ?_) (fun hc => ?_)
    · have t := iT t hc
      have ha5 : 0 ≤ x2 ∧ x2 < σ 84 1 := hc
      obtain ⟨r6, t⟩ := t
      obtain ⟨r7, t⟩ := t
      refine i3 c_273_15 rfl (i3 c_273_16 rfl ?_)
      refine i81 (As := [.int (wI x3), .int (wI x4)]) (rest := []) c_273_18 mi_272 rfl rfl (Nat.le_of_ble_eq_true rfl) (Nat.le_of_ble_eq_true rfl) (q_272 r6 r7 ?_)
      show wi (d + 9) 273 21 [.ref 83, .int (wI x1), .int (wI x2), .int (wI x3), .int (wI x4)] [.int (wI (if (0 ≤ x3 ∧ x3 ≤ 399) ∧ (0 ≤ x4 ∧ x4 ≤ 399) then 1 else 0))] S σ τ Q
      refine i36e c_273_21 rfl (fun hc => ?_) (fun hc => ?_)
      · have t := iT t hc
        have ha8 : (0 ≤ x3 ∧ x3 ≤ 399) ∧ (0 ≤ x4 ∧ x4 ≤ 399) := hc
        obtain ⟨p9, t⟩ := t
        obtain ⟨p10, t⟩ := t
        obtain ⟨p11, t⟩ := t
        obtain ⟨p12, t⟩ := t
        refine i5 c_273_24 rfl (i3 c_273_25 rfl (i3 c_273_26 rfl (i3 c_273_27 rfl (i3 c_273_28 rfl ?_))))
        refine i80 (As := [.int (wI x1), .int (wI x2), .int (wI x3), .int (wI x4)]) (rest := []) c_273_30 mi_271 rfl rfl (Nat.le_of_ble_eq_true rfl) (Nat.le_of_ble_eq_true rfl) (lo (c := 83) (kd := 112) (n := 0) rfl (by decide)) (q_271 p9 p10 p11 p12 r3 r6 r7 (fun σ113 τ114 q15 q16 q17 => ?_))
        have t := t σ113 τ114 q15 q16 q17
        show wi (d + 9) 273 33 [.ref 83, .int (wI x1), .int (wI x2), .int (wI x3), .int (wI x4)] [.int (wI (r_pay (σ 84) x1 x2 x3 x4))] S σ113 τ114 Q
        refine i38 c_273_33 rfl ?_
        exact i90 c_273_37 t
      · have t := iF t hc
        have ha8 : ¬ ((0 ≤ x3 ∧ x3 ≤ 399) ∧ (0 ≤ x4 ∧ x4 ≤ 399)) := hc
        refine i1 c_273_36 ?_
        exact i90 c_273_37 t
    · have t := iF t hc
      have ha5 : ¬ (0 ≤ x2 ∧ x2 < σ 84 1) := hc
      refine i1 c_273_36 ?_
      exact i90 c_273_37 t
  · have t := iF t hc
    have ha2 : ¬ (0 ≤ x1 ∧ x1 ≤ 5) := hc
    refine i1 c_273_36 ?_
    exact i90 c_273_37 t
theorem q_273 {d : Nat} {S : zS} {σ τ : zI} {Q : zQ} {kind : Int} {mill : Int} {week : Int} {known : Int} (p0 : Jl (σ 84)) (p1 : jv_T (σ 84)) (p2 : jv_E (σ 84)) (p3 : rg kind) (p4 : rg mill) (p5 : rg week) (p6 : rg known) (t : ∀ (σ1 : zI) (τ1 : zI), Fr8 σ σ1 τ τ1 → Q (some (.int (wI (if (0 ≤ kind ∧ kind ≤ 5) ∧ (0 ≤ mill ∧ mill < σ 84 1) ∧ (0 ≤ week ∧ week ≤ 399) ∧ (0 ≤ known ∧ known ≤ 399) then r_pay (σ 84) kind mill week known else -1)))) S σ1 τ1) : wc (d + 9) 273 [.ref 83, .int (wI kind), .int (wI mill), .int (wI week), .int (wI known)] S σ τ Q := by
  have hC := lC p0
  unfold jv_C at hC
  have no : ¬ ((0 ≤ kind ∧ kind ≤ 5) ∧ (0 ≤ mill ∧ mill < σ 84 1) ∧ (0 ≤ week ∧ week ≤ 399) ∧ (0 ≤ known ∧ known ≤ 399)) → Q (some (.int (wI (-1)))) S σ τ := fun h => by
    have t := t σ τ ⟨fun _ _ _ _ => rfl, fun _ _ => rfl, fun _ _ _ _ => rfl⟩
    rw [if_neg h] at t
    exact t
  have yes : ((0 ≤ kind ∧ kind ≤ 5) ∧ (0 ≤ mill ∧ mill < σ 84 1) ∧ (0 ≤ week ∧ week ≤ 399) ∧ (0 ≤ known ∧ known ≤ 399)) → ∀ σ1 τ1, Fr8 σ σ1 τ τ1 → Q (some (.int (wI (r_pay (σ 84) kind mill week known)))) S σ1 τ1 := fun h σ1 τ1 f => by
    have t := t σ1 τ1 f
    rw [if_pos h] at t
    exact t
  clear t
  refine wc_of mi_273 rfl (u_273_0 ?_)
  repeat' (first | exact no (by omega) | (refine ⟨p0, p1, p2, by omega, ?_⟩; intro σ1 τ1 f _ _; exact yes (by omega) _ _ f) | refine ⟨p3, ?_⟩ | refine ⟨p4, by omega, ?_⟩ | refine ⟨p5, p6, ?_⟩ | refine ifI (fun _ => ?_) (fun _ => ?_))
-- method 274: MillTownModel.why(IIIII)I
theorem c_274_0 : pg_cd 274 0 = (3, 1, 0, 1, 0) := by decide +kernel
theorem c_274_1 : pg_cd 274 1 = (81, 204, 80, 0, 0) := by decide +kernel
theorem c_274_4 : pg_cd 274 4 = (36, 3, 0, 0, 20) := by decide +kernel
theorem c_274_7 : pg_cd 274 7 = (5, 1, 0, 0, 0) := by decide +kernel
theorem c_274_8 : pg_cd 274 8 = (3, 1, 0, 2, 0) := by decide +kernel
theorem c_274_9 : pg_cd 274 9 = (80, 201, 115, 0, 0) := by decide +kernel
theorem c_274_12 : pg_cd 274 12 = (36, 3, 0, 0, 12) := by decide +kernel
theorem c_274_15 : pg_cd 274 15 = (3, 1, 0, 3, 0) := by decide +kernel
theorem c_274_16 : pg_cd 274 16 = (3, 2, 0, 4, 0) := by decide +kernel
theorem c_274_18 : pg_cd 274 18 = (81, 272, 334, 0, 0) := by decide +kernel
theorem c_274_21 : pg_cd 274 21 = (36, 3, 0, 1, 5) := by decide +kernel
theorem c_274_24 : pg_cd 274 24 = (1, 1, 0, 0, (-1)) := by decide +kernel
theorem c_274_25 : pg_cd 274 25 = (90, 0, 0, 0, 0) := by decide +kernel
theorem c_274_26 : pg_cd 274 26 = (5, 1, 0, 0, 0) := by decide +kernel
theorem c_274_27 : pg_cd 274 27 = (3, 1, 0, 1, 0) := by decide +kernel
theorem c_274_28 : pg_cd 274 28 = (3, 1, 0, 2, 0) := by decide +kernel
theorem c_274_29 : pg_cd 274 29 = (3, 1, 0, 3, 0) := by decide +kernel
theorem c_274_30 : pg_cd 274 30 = (3, 2, 0, 4, 0) := by decide +kernel
theorem c_274_32 : pg_cd 274 32 = (80, 271, 337, 0, 0) := by decide +kernel
theorem c_274_35 : pg_cd 274 35 = (35, 1, 0, 0, 0) := by decide +kernel
theorem c_274_36 : pg_cd 274 36 = (3, 2, 0, 5, 0) := by decide +kernel
theorem c_274_38 : pg_cd 274 38 = (1, 1, 0, 0, (-1)) := by decide +kernel
theorem c_274_39 : pg_cd 274 39 = (37, 3, 0, 1, 10) := by decide +kernel
theorem c_274_42 : pg_cd 274 42 = (5, 1, 0, 0, 0) := by decide +kernel
theorem c_274_43 : pg_cd 274 43 = (43, 12, 319, 24, 0) := by decide +kernel
theorem c_274_46 : pg_cd 274 46 = (38, 3, 0, 0, 29) := by decide +kernel
theorem c_274_49 : pg_cd 274 49 = (3, 2, 0, 5, 0) := by decide +kernel
theorem c_274_51 : pg_cd 274 51 = (1, 1, 0, 0, 0) := by decide +kernel
theorem c_274_52 : pg_cd 274 52 = (5, 1, 0, 0, 0) := by decide +kernel
theorem c_274_53 : pg_cd 274 53 = (43, 12, 322, 25, 0) := by decide +kernel
theorem c_274_56 : pg_cd 274 56 = (1, 1, 0, 0, 1) := by decide +kernel
theorem c_274_57 : pg_cd 274 57 = (11, 1, 0, 0, 0) := by decide +kernel
theorem c_274_58 : pg_cd 274 58 = (81, 196, 76, 0, 0) := by decide +kernel
theorem c_274_61 : pg_cd 274 61 = (36, 3, 0, 0, 13) := by decide +kernel
theorem c_274_64 : pg_cd 274 64 = (5, 1, 0, 0, 0) := by decide +kernel
theorem c_274_65 : pg_cd 274 65 = (45, 12, 44, 26, 0) := by decide +kernel
theorem c_274_68 : pg_cd 274 68 = (3, 2, 0, 5, 0) := by decide +kernel
theorem c_274_70 : pg_cd 274 70 = (50, 1, 0, 0, 0) := by decide +kernel
theorem c_274_71 : pg_cd 274 71 = (38, 3, 0, 0, 4) := by decide +kernel
theorem c_274_74 : pg_cd 274 74 = (1, 1, 0, 0, (-1)) := by decide +kernel
theorem c_274_75 : pg_cd 274 75 = (90, 0, 0, 0, 0) := by decide +kernel
theorem mi_274 : pg_mc 274 = 12 ∧ pg_na 274 = 5 ∧ pg_mx 274 = 6 := by decide +kernel
set_option maxRecDepth 20000 in
theorem u_274_0 {d : Nat} {S : zS} {σ τ : zI} {Q : zQ} {x1 : Int} {x2 : Int} {x3 : Int} {x4 : Int} {x5 : Int} (t : (rg x1) ∧ if 0 ≤ x1 ∧ x1 ≤ 5 then ((rg x2) ∧ (0 ≤ σ 84 1) ∧ if 0 ≤ x2 ∧ x2 < σ 84 1 then ((rg x3) ∧ (rg x4) ∧ if (0 ≤ x3 ∧ x3 ≤ 399) ∧ (0 ≤ x4 ∧ x4 ≤ 399) then ((Jl (σ 84)) ∧ (jv_T (σ 84)) ∧ (jv_E (σ 84)) ∧ (0 ≤ x1 ∧ x1 ≤ 5) ∧ ∀ (σ113 : zI) (τ114 : zI), Fr8 σ σ113 τ τ114 → σ113 83 24 = r_fc (σ 84) 1 x2 x3 x4 → Wy σ113 (σ 84) x1 x2 x3 x4 → (rg x5) ∧ if x5 = (-1) then (Q (some (.int (wI (σ113 83 24)))) S σ113 τ114) else ((rg ((σ113 83 25) - 1)) ∧ if 0 ≤ x5 ∧ x5 ≤ ((σ113 83 25) - 1) then ((0 ≤ x5 ∧ x5 < 24) ∧ Q (some (.int (wI (σ113 92 x5)))) S σ113 τ114) else (Q (some (.int (wI (-1)))) S σ113 τ114))) else (Q (some (.int (wI (-1)))) S σ τ)) else (Q (some (.int (wI (-1)))) S σ τ)) else (Q (some (.int (wI (-1)))) S σ τ)) : wi (d + 9) 274 0 [.ref 83, .int (wI x1), .int (wI x2), .int (wI x3), .int (wI x4), .int (wI x5)] [] S σ τ Q := by
  obtain ⟨r1, t⟩ := t
  refine i3 c_274_0 rfl ?_
  refine i81 (As := [.int (wI x1)]) (rest := []) c_274_1 mi_204 rfl rfl (Nat.le_of_ble_eq_true rfl) (Nat.le_of_ble_eq_true rfl) (q_204 r1 ?_)
  show wi (d + 9) 274 4 [.ref 83, .int (wI x1), .int (wI x2), .int (wI x3), .int (wI x4), .int (wI x5)] [.int (wI (if 0 ≤ x1 ∧ x1 ≤ 5 then 1 else 0))] S σ τ Q
  refine i36e c_274_4 rfl (fun hc => ?_) (fun hc => ?_)
  · have t := iT t hc
    have ha2 : 0 ≤ x1 ∧ x1 ≤ 5 := hc
    obtain ⟨r3, t⟩ := t
    obtain ⟨p4, t⟩ := t
    refine i5 c_274_7 rfl (i3 c_274_8 rfl ?_)
    refine i80 (As := [.int (wI x2)]) (rest := []) c_274_9 mi_201 rfl rfl (Nat.le_of_ble_eq_true rfl) (Nat.le_of_ble_eq_true rfl) (lo (c := 83) (kd := 112) (n := 0) rfl (by decide)) (q_201 r3 p4 ?_)
    show wi (d + 9) 274 12 [.ref 83, .int (wI x1), .int (wI x2), .int (wI x3), .int (wI x4), .int (wI x5)] [.int (wI (if 0 ≤ x2 ∧ x2 < σ 84 1 then 1 else 0))] S σ τ Q
    refine i36e c_274_12 rfl (fun hc => ?_) (fun hc => ?_)
    · have t := iT t hc
      have ha5 : 0 ≤ x2 ∧ x2 < σ 84 1 := hc
      obtain ⟨r6, t⟩ := t
      obtain ⟨r7, t⟩ := t
      refine i3 c_274_15 rfl (i3 c_274_16 rfl ?_)
      refine i81 (As := [.int (wI x3), .int (wI x4)]) (rest := []) c_274_18 mi_272 rfl rfl (Nat.le_of_ble_eq_true rfl) (Nat.le_of_ble_eq_true rfl) (q_272 r6 r7 ?_)
      show wi (d + 9) 274 21 [.ref 83, .int (wI x1), .int (wI x2), .int (wI x3), .int (wI x4), .int (wI x5)] [.int (wI (if (0 ≤ x3 ∧ x3 ≤ 399) ∧ (0 ≤ x4 ∧ x4 ≤ 399) then 1 else 0))] S σ τ Q
      refine i36f c_274_21 rfl (fun hc => ?_) (fun hc => ?_)
      · have t := iT t hc
        have ha8 : (0 ≤ x3 ∧ x3 ≤ 399) ∧ (0 ≤ x4 ∧ x4 ≤ 399) := hc
        obtain ⟨p9, t⟩ := t
        obtain ⟨p10, t⟩ := t
        obtain ⟨p11, t⟩ := t
        obtain ⟨p12, t⟩ := t
        refine i5 c_274_26 rfl (i3 c_274_27 rfl (i3 c_274_28 rfl (i3 c_274_29 rfl (i3 c_274_30 rfl ?_))))
        refine i80 (As := [.int (wI x1), .int (wI x2), .int (wI x3), .int (wI x4)]) (rest := []) c_274_32 mi_271 rfl rfl (Nat.le_of_ble_eq_true rfl) (Nat.le_of_ble_eq_true rfl) (lo (c := 83) (kd := 112) (n := 0) rfl (by decide)) (q_271 p9 p10 p11 p12 r3 r6 r7 (fun σ113 τ114 q15 q16 q17 => ?_))
        have t := t σ113 τ114 q15 q16 q17
        show wi (d + 9) 274 35 [.ref 83, .int (wI x1), .int (wI x2), .int (wI x3), .int (wI x4), .int (wI x5)] [.int (wI (r_pay (σ 84) x1 x2 x3 x4))] S σ113 τ114 Q
        obtain ⟨r18, t⟩ := t
        refine i35i c_274_35 (i3 c_274_36 rfl (i1 c_274_38 ?_))
        refine i37 c_274_39 r18 (by decide) rfl (fun hc => ?_) (fun hc => ?_)
        · have t := iF t hc
          have ha19 : ¬ (x5 = (-1)) := hc
          refine i3 c_274_49 rfl (i1 c_274_51 (i5 c_274_52 rfl (wi_ok (fun K20 => ?_))))
          obtain ⟨r21, t⟩ := t
          refine i43 (v := σ113 83 25) c_274_53 (lo (c := 83) (kd := 112) (n := 0) rfl (by decide)) rfl (i1 c_274_56 (i11 c_274_57 ?_))
          refine i81 (As := [.int (wI x5), .int (wI 0), .int (wI ((σ113 83 25) - 1))]) (rest := []) c_274_58 mi_196 rfl rfl (Nat.le_of_ble_eq_true rfl) (Nat.le_of_ble_eq_true rfl) (q_196 r18 (by decide) r21 ?_)
          show wi (d + 9) 274 61 [.ref 83, .int (wI x1), .int (wI x2), .int (wI x3), .int (wI x4), .int (wI x5)] [.int (wI (if 0 ≤ x5 ∧ x5 ≤ ((σ113 83 25) - 1) then 1 else 0))] S σ113 τ114 Q
          refine i36e c_274_61 rfl (fun hc => ?_) (fun hc => ?_)
          · have t := iT t hc
            have ha22 : 0 ≤ x5 ∧ x5 ≤ ((σ113 83 25) - 1) := hc
            obtain ⟨r23, t⟩ := t
            refine i5 c_274_64 rfl (i45 c_274_65 (lo (c := 83) (kd := 112) (n := 0) rfl (by decide)) (lro (c := 83) (k := 26) (j := 92) (by decide)) (i3 c_274_68 rfl (i50 (v := σ113 92 x5) c_274_70 (lo (c := 92) (kd := 0) (n := 24) rfl (by decide)) (by decide) r23 rfl (i38 c_274_71 rfl ?_))))
            exact i90 c_274_75 t
          · have t := iF t hc
            have ha22 : ¬ (0 ≤ x5 ∧ x5 ≤ ((σ113 83 25) - 1)) := hc
            refine i1 c_274_74 ?_
            exact i90 c_274_75 t
        · have t := iT t (Decidable.not_not.mp hc)
          have ha19 : x5 = (-1) := Decidable.not_not.mp hc
          refine i5 c_274_42 rfl (wi_ok (fun K24 => ?_))
          refine i43 (v := σ113 83 24) c_274_43 (lo (c := 83) (kd := 112) (n := 0) rfl (by decide)) rfl (i38 c_274_46 rfl ?_)
          exact i90 c_274_75 t
      · have t := iF t hc
        have ha8 : ¬ ((0 ≤ x3 ∧ x3 ≤ 399) ∧ (0 ≤ x4 ∧ x4 ≤ 399)) := hc
        refine i1 c_274_24 ?_
        exact i90 c_274_25 t
    · have t := iF t hc
      have ha5 : ¬ (0 ≤ x2 ∧ x2 < σ 84 1) := hc
      refine i1 c_274_24 ?_
      exact i90 c_274_25 t
  · have t := iF t hc
    have ha2 : ¬ (0 ≤ x1 ∧ x1 ≤ 5) := hc
    refine i1 c_274_24 ?_
    exact i90 c_274_25 t
theorem q_274 {d : Nat} {S : zS} {σ τ : zI} {Q : zQ} {kind : Int} {mill : Int} {week : Int} {known : Int} {i : Int} (p0 : Jl (σ 84)) (p1 : jv_T (σ 84)) (p2 : jv_E (σ 84)) (p3 : rg kind) (p4 : rg mill) (p5 : rg week) (p6 : rg known) (p7 : rg i) (t : ∀ (σ1 : zI) (τ1 : zI), Fr8 σ σ1 τ τ1 → Q (some (.int (wI (if (0 ≤ kind ∧ kind ≤ 5) ∧ (0 ≤ mill ∧ mill < σ 84 1) ∧ (0 ≤ week ∧ week ≤ 399) ∧ (0 ≤ known ∧ known ≤ 399) then (if i = -1 then r_fc (σ 84) 1 mill week known else r_why (σ 84) kind mill week known i) else -1)))) S σ1 τ1) : wc (d + 9) 274 [.ref 83, .int (wI kind), .int (wI mill), .int (wI week), .int (wI known), .int (wI i)] S σ τ Q := by
  have hC := lC p0
  unfold jv_C at hC
  have no : ¬ ((0 ≤ kind ∧ kind ≤ 5) ∧ (0 ≤ mill ∧ mill < σ 84 1) ∧ (0 ≤ week ∧ week ≤ 399) ∧ (0 ≤ known ∧ known ≤ 399)) → Q (some (.int (wI (-1)))) S σ τ := fun h => by
    have t := t σ τ ⟨fun _ _ _ _ => rfl, fun _ _ => rfl, fun _ _ _ _ => rfl⟩
    rw [if_neg h] at t
    exact t
  have yes : ((0 ≤ kind ∧ kind ≤ 5) ∧ (0 ≤ mill ∧ mill < σ 84 1) ∧ (0 ≤ week ∧ week ≤ 399) ∧ (0 ≤ known ∧ known ≤ 399)) → ∀ σ1 τ1, Fr8 σ σ1 τ τ1 → Q (some (.int (wI (if i = -1 then r_fc (σ 84) 1 mill week known else r_why (σ 84) kind mill week known i)))) S σ1 τ1 := fun h σ1 τ1 f => by
    have t := t σ1 τ1 f
    rw [if_pos h] at t
    exact t
  clear t
  refine wc_of mi_274 rfl (u_274_0 ?_)
  have go : ((0 ≤ kind ∧ kind ≤ 5) ∧ (0 ≤ mill ∧ mill < σ 84 1) ∧ (0 ≤ week ∧ week ≤ 399) ∧ (0 ≤ known ∧ known ≤ 399)) → ∀ σ1 τ1, Fr8 σ σ1 τ τ1 → σ1 83 24 = r_fc (σ 84) 1 mill week known → Wy σ1 (σ 84) kind mill week known → (rg i) ∧ if i = (-1) then (Q (some (.int (wI (σ1 83 24)))) S σ1 τ1) else ((rg ((σ1 83 25) - 1)) ∧ if 0 ≤ i ∧ i ≤ ((σ1 83 25) - 1) then ((0 ≤ i ∧ i < 24) ∧ Q (some (.int (wI (σ1 92 i)))) S σ1 τ1) else (Q (some (.int (wI (-1)))) S σ1 τ1)) := fun h σ1 τ1 f h24 hw => by
    have y := yes h σ1 τ1 f
    have w := hw.2 i
    have b := hw.1
    refine ⟨p7, ?_⟩
    refine ifI (fun e => ?_) (fun e => ⟨by omega, ?_⟩)
    · rw [if_pos e] at y
      rw [h24]; exact y
    · rw [if_neg e, ← w] at y
      refine ifI (fun e2 => ?_) (fun e2 => ?_)
      · rw [if_pos (by omega)] at y
        exact ⟨by omega, y⟩
      · rw [if_neg (by omega)] at y
        exact y
  repeat' (first | exact no (by omega) | (refine ⟨p0, p1, p2, by omega, ?_⟩; intro σ1 τ1 f f2 f3; exact go (by omega) _ _ f f2 f3) | refine ⟨p3, ?_⟩ | refine ⟨p4, by omega, ?_⟩ | refine ⟨p5, p6, ?_⟩ | refine ifI (fun _ => ?_) (fun _ => ?_))
