/-! ===== a logic over whole numbers: heaps as functions of whole numbers (own work) ===== -/
abbrev zS : Type := Nat × Nat × (Nat → Nat × Nat) × (Nat → Nat → Option Nat)
abbrev zI : Type := Nat → Int → Int
def wI (z : Int) : Int32 := Int32.ofInt z
def wJ (z : Int) : Int64 := Int64.ofInt z
abbrev rg (z : Int) : Prop := -2147483648 ≤ z ∧ z ≤ 2147483647
abbrev rj (z : Int) : Prop := -9223372036854775808 ≤ z ∧ z ≤ 9223372036854775807
/-- what an int of that number shows -/
def zw (z : Int) : Int := (wI z).toInt
def zwj (z : Int) : Int := (wJ z).toInt
theorem wI_of {z : Int} (h : rg z) : (wI z).toInt = z := Int32.toInt_ofInt_of_le (by omega) (by omega)
theorem wJ_of {z : Int} (h : rj z) : (wJ z).toInt = z := Int64.toInt_ofInt_of_le (by omega) (by omega)
theorem wI_toInt (x : Int32) : wI x.toInt = x := Int32.ofInt_toInt x
theorem wJ_toInt (x : Int64) : wJ x.toInt = x := Int64.ofInt_toInt x
theorem rg_toInt (x : Int32) : rg x.toInt := ⟨by have := x.le_toInt; omega, by have := x.toInt_lt; omega⟩
theorem rj_toInt (x : Int64) : rj x.toInt := ⟨by have := x.le_toInt; omega, by have := x.toInt_lt; omega⟩
theorem wI_zw (z : Int) : wI (zw z) = wI z := wI_toInt _
theorem wJ_zwj (z : Int) : wJ (zwj z) = wJ z := wJ_toInt _
theorem rg_zw (z : Int) : rg (zw z) := rg_toInt _
theorem rj_zwj (z : Int) : rj (zwj z) := rj_toInt _
theorem zw_of {z : Int} (h : rg z) : zw z = z := wI_of h
theorem wI_inj {x y : Int} (hx : rg x) (hy : rg y) : wI x = wI y ↔ x = y := by
  rw [← Int32.toInt_inj, wI_of hx, wI_of hy]
theorem wJ_inj {x y : Int} (hx : rj x) (hy : rj y) : wJ x = wJ y ↔ x = y := by
  rw [← Int64.toInt_inj, wJ_of hx, wJ_of hy]
theorem wI_lt {x y : Int} (hx : rg x) (hy : rg y) : wI x < wI y ↔ x < y := by
  rw [Int32.lt_iff_toInt_lt, wI_of hx, wI_of hy]
theorem wI_le {x y : Int} (hx : rg x) (hy : rg y) : wI x ≤ wI y ↔ x ≤ y := by
  rw [Int32.le_iff_toInt_le, wI_of hx, wI_of hy]
theorem wJ_lt {x y : Int} (hx : rj x) (hy : rj y) : wJ x < wJ y ↔ x < y := by
  rw [Int64.lt_iff_toInt_lt, wJ_of hx, wJ_of hy]
theorem wJ_le {x y : Int} (hx : rj x) (hy : rj y) : wJ x ≤ wJ y ↔ x ≤ y := by
  rw [Int64.le_iff_toInt_le, wJ_of hx, wJ_of hy]
theorem wI_add (x y : Int) : wI x + wI y = wI (x + y) := (Int32.ofInt_add x y).symm
theorem wI_sub (x y : Int) : wI x - wI y = wI (x - y) := (Int32.ofInt_sub x y).symm
theorem wI_mul (x y : Int) : wI x * wI y = wI (x * y) := (Int32.ofInt_mul x y).symm
theorem wI_neg (x : Int) : -wI x = wI (-x) := (Int32.ofInt_neg x).symm
theorem wJ_add (x y : Int) : wJ x + wJ y = wJ (x + y) := (Int64.ofInt_add x y).symm
theorem wJ_sub (x y : Int) : wJ x - wJ y = wJ (x - y) := (Int64.ofInt_sub x y).symm
theorem wJ_mul (x y : Int) : wJ x * wJ y = wJ (x * y) := (Int64.ofInt_mul x y).symm
theorem wJ_neg (x : Int) : -wJ x = wJ (-x) := (Int64.ofInt_neg x).symm
theorem wI_0 : wI 0 = 0 := rfl
theorem wI_1 : wI 1 = 1 := rfl
theorem wI_m1 : wI (-1) = -1 := rfl
theorem wJ_0 : wJ 0 = 0 := rfl
theorem wI_div {x y : Int} (hx : rg x) (hy : rg y) : wI x / wI y = wI (x.tdiv y) := by
  apply Int32.toInt_inj.mp
  rw [Int32.toInt_div, wI_of hx, wI_of hy]
  exact Int32.toInt_ofInt.symm
theorem wJ_div {x y : Int} (hx : rj x) (hy : rj y) : wJ x / wJ y = wJ (x.tdiv y) := by
  apply Int64.toInt_inj.mp
  rw [Int64.toInt_div, wJ_of hx, wJ_of hy]
  exact Int64.toInt_ofInt.symm
theorem wI_clamp {e : Int} (h0 : 0 ≤ e) (h1 : rg e) : (wI e).toNatClampNeg = e.toNat := Int32.toNatClampNeg_ofInt_of_le (by omega) (by omega)
theorem wI_in {e : Int} {n : Nat} (h0 : 0 ≤ e) (h1 : e < n) (h2 : rg e) : ab_in (wI e) n = true := by
  unfold ab_in
  rw [Bool.not_eq_true', Bool.or_eq_false_iff]
  refine ⟨decide_eq_false ?_, decide_eq_false ?_⟩
  · rw [← wI_0, wI_lt h2 (by decide)]; omega
  · rw [wI_clamp h0 h2]; omega
theorem wI_ofNat (n : Nat) : Int32.ofNat n = wI n := Int32.ofInt_eq_ofNat.symm
theorem wI_l {x : Int} (h : rg x) : (wI x).toInt64 = wJ x := by
  apply Int64.toInt_inj.mp
  rw [Int32.toInt_toInt64, wI_of h, wJ_of (by omega)]
theorem wJ_i (x : Int) : (wJ x).toInt32 = wI x := Int64.toInt32_ofInt
/-! bits -/
def zand (x y : Int) : Int := (wI x &&& wI y).toInt
def zor (x y : Int) : Int := (wI x ||| wI y).toInt
def zxor (x y : Int) : Int := (wI x ^^^ wI y).toInt
def zshl (x y : Int) : Int := (wI x <<< (wI y &&& 31)).toInt
def zshr (x y : Int) : Int := (wI x >>> (wI y &&& 31)).toInt
def zush (x y : Int) : Int := (((wI x).toUInt32 >>> ((wI y).toUInt32 &&& Int32.toUInt32 31)).toInt32).toInt
def jor (x y : Int) : Int := (wJ x ||| wJ y).toInt
def jshl (x y : Int) : Int := (wJ x <<< ((wI y).toInt64 &&& 63)).toInt
/-! heaps -/
def hp (S : zS) (σ τ : zI) : ab_H := (S.1, S.2.1, S.2.2.1, fun c k => wI (σ c k), fun c k => wJ (τ c k), S.2.2.2)
def u1 (f : Int → Int) (k v : Int) : Int → Int := fun j => if j = k then v else f j
def uc (σ : zI) (c : Nat) (f : Int → Int) : zI := fun j => if j = c then f else σ j
theorem u1_s (f : Int → Int) (k v : Int) : u1 f k v k = v := if_pos rfl
theorem u1_n {f : Int → Int} {k v j : Int} (h : j ≠ k) : u1 f k v j = f j := if_neg h
theorem uc_s (σ : zI) (c : Nat) (f : Int → Int) : uc σ c f c = f := if_pos rfl
theorem uc_n {σ : zI} {c j : Nat} {f : Int → Int} (h : j ≠ c) : uc σ c f j = σ j := if_neg h
theorem uc_uc (σ : zI) (c : Nat) (f g : Int → Int) : uc (uc σ c f) c g = uc σ c g := by
  funext j
  unfold uc
  by_cases h : j = c
  · rw [if_pos h, if_pos h]
  · rw [if_neg h, if_neg h, if_neg h]
theorem uc_cm {σ σ' : zI} {c c2 : Nat} {f2 g : Int → Int} (h : uc σ c g = σ') (hne : c ≠ c2) : uc (uc σ c2 f2) c g = uc σ' c2 f2 := by
  subst h
  funext j
  unfold uc
  by_cases h : j = c
  · rw [if_pos h, if_neg (by omega), if_pos h]
  · rw [if_neg h, if_neg h]
theorem uc_ns {σ : zI} {c c2 : Nat} {f f2 : Int → Int} (h : σ c = f) (hne : c ≠ c2) : uc σ c2 f2 c = f := by rw [uc_n hne, h]
theorem hp_pi {S : zS} {σ τ : zI} {c : Nat} {e w : Int} {v : Int32} (h0 : 0 ≤ e) (hv : wI w = v) : ab_pi (hp S σ τ) c e.toNat v = hp S (uc σ c (u1 (σ c) e w)) τ := by
  subst hv
  unfold ab_pi hp
  simp only [Prod.mk.injEq, true_and, and_true]
  funext a b
  unfold ab_up uc u1
  by_cases h1 : a = c
  · subst h1
    rw [if_pos rfl, if_pos rfl]
    by_cases h2 : b = e.toNat
    · rw [if_pos h2, if_pos (by omega)]
    · rw [if_neg h2, if_neg (by omega)]
  · rw [if_neg h1, if_neg h1]
theorem hp_pl {S : zS} {σ τ : zI} {c : Nat} {e w : Int} {v : Int64} (h0 : 0 ≤ e) (hv : wJ w = v) : ab_pl (hp S σ τ) c e.toNat v = hp S σ (uc τ c (u1 (τ c) e w)) := by
  subst hv
  unfold ab_pl hp
  simp only [Prod.mk.injEq, true_and, and_true]
  funext a b
  unfold ab_up uc u1
  by_cases h1 : a = c
  · subst h1
    rw [if_pos rfl, if_pos rfl]
    by_cases h2 : b = e.toNat
    · rw [if_pos h2, if_pos (by omega)]
    · rw [if_neg h2, if_neg (by omega)]
  · rw [if_neg h1, if_neg h1]
