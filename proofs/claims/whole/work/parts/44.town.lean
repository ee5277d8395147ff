/-! ===== the class: its towns (segments printed by wip/whole, contracts own work) ===== -/
section RV
variable {σ : zI} {t : Nat} {a : Int → Int}
theorem vP (h : RT σ t a) {p k : Int} (hp : 0 ≤ p ∧ p < a 4) (hk : 0 ≤ k ∧ k ≤ 8) : rt_ (σ (t + 11) 2) (σ (t + 12)) 9 k p = a (3652 + 12 * p + k) := by
  have q := tP h
  rw [rt_p ⟨hp.1, by rw [q.1]; exact hp.2⟩]
  exact q.2 p hp.1 hp.2 k hk.1 hk.2
theorem cP (h : RT σ t a) : σ (t + 11) 2 = a 4 := (tP h).1
theorem cM (h : RT σ t a) : σ (t + 5) 2 = a 1 := (tM h).1
theorem cQ (h : RT σ t a) : σ (t + 7) 2 = a 2 := (tQ h).1
theorem cH (h : RT σ t a) : σ (t + 9) 2 = a 3 := (tH h).1
theorem cO (h : RT σ t a) : σ (t + 13) 2 = a 7 := (tO h).1
theorem cF (h : RT σ t a) : σ (t + 15) 2 = a 6 := (tF h).1
theorem cK (h : RT σ t a) : σ (t + 1) 2 = 6 := (tK h).1
theorem cW (h : RT σ t a) : σ (t + 3) 2 = 8 := (tW h).1
end RV
theorem vK0 {σ : zI} {t : Nat} {a : Int → Int} (h : RT σ t a) {r : Int} (hr : 0 ≤ r ∧ r ≤ 5) : rt_ (σ (t + 1) 2) (σ (t + 2)) 6 0 r = a (20 + 8 * r + 1) := by
  have q := tK h
  rw [rt_p ⟨hr.1, by rw [q.1]; omega⟩]
  have := q.2 r hr.1 (by omega)
  exact this.1
theorem vK1 {σ : zI} {t : Nat} {a : Int → Int} (h : RT σ t a) {r : Int} (hr : 0 ≤ r ∧ r ≤ 5) : rt_ (σ (t + 1) 2) (σ (t + 2)) 6 1 r = a (20 + 8 * r + 2) := by
  have q := tK h
  rw [rt_p ⟨hr.1, by rw [q.1]; omega⟩]
  have := q.2 r hr.1 (by omega)
  exact this.2.1
theorem vK2 {σ : zI} {t : Nat} {a : Int → Int} (h : RT σ t a) {r : Int} (hr : 0 ≤ r ∧ r ≤ 5) : rt_ (σ (t + 1) 2) (σ (t + 2)) 6 2 r = a (20 + 8 * r + 3) := by
  have q := tK h
  rw [rt_p ⟨hr.1, by rw [q.1]; omega⟩]
  have := q.2 r hr.1 (by omega)
  exact this.2.2.1
theorem vK3 {σ : zI} {t : Nat} {a : Int → Int} (h : RT σ t a) {r : Int} (hr : 0 ≤ r ∧ r ≤ 5) : rt_ (σ (t + 1) 2) (σ (t + 2)) 6 3 r = a (20 + 8 * r + 4) := by
  have q := tK h
  rw [rt_p ⟨hr.1, by rw [q.1]; omega⟩]
  have := q.2 r hr.1 (by omega)
  exact this.2.2.2.1
theorem vK4 {σ : zI} {t : Nat} {a : Int → Int} (h : RT σ t a) {r : Int} (hr : 0 ≤ r ∧ r ≤ 5) : rt_ (σ (t + 1) 2) (σ (t + 2)) 6 4 r = a (20 + 8 * r + 5) := by
  have q := tK h
  rw [rt_p ⟨hr.1, by rw [q.1]; omega⟩]
  have := q.2 r hr.1 (by omega)
  exact this.2.2.2.2.1
theorem vK5 {σ : zI} {t : Nat} {a : Int → Int} (h : RT σ t a) {r : Int} (hr : 0 ≤ r ∧ r ≤ 5) : rt_ (σ (t + 1) 2) (σ (t + 2)) 6 5 r = a (20 + 8 * r + 6) := by
  have q := tK h
  rw [rt_p ⟨hr.1, by rw [q.1]; omega⟩]
  have := q.2 r hr.1 (by omega)
  exact this.2.2.2.2.2
theorem vM0 {σ : zI} {t : Nat} {a : Int → Int} (h : RT σ t a) {r : Int} (hr : 0 ≤ r ∧ r < a 1) : rt_ (σ (t + 5) 2) (σ (t + 6)) 13 0 r = a (3300 + 16 * r + 0) := by
  have q := tM h
  rw [rt_p ⟨hr.1, by rw [q.1]; omega⟩]
  have := q.2 r hr.1 (by omega)
  exact this.1
theorem vM2 {σ : zI} {t : Nat} {a : Int → Int} (h : RT σ t a) {r : Int} (hr : 0 ≤ r ∧ r < a 1) : rt_ (σ (t + 5) 2) (σ (t + 6)) 13 2 r = a (3300 + 16 * r + 2) := by
  have q := tM h
  rw [rt_p ⟨hr.1, by rw [q.1]; omega⟩]
  have := q.2 r hr.1 (by omega)
  exact this.2.1
theorem vM3 {σ : zI} {t : Nat} {a : Int → Int} (h : RT σ t a) {r : Int} (hr : 0 ≤ r ∧ r < a 1) : rt_ (σ (t + 5) 2) (σ (t + 6)) 13 3 r = a (3300 + 16 * r + 4) := by
  have q := tM h
  rw [rt_p ⟨hr.1, by rw [q.1]; omega⟩]
  have := q.2 r hr.1 (by omega)
  exact this.2.2.1
theorem vM4 {σ : zI} {t : Nat} {a : Int → Int} (h : RT σ t a) {r : Int} (hr : 0 ≤ r ∧ r < a 1) : rt_ (σ (t + 5) 2) (σ (t + 6)) 13 4 r = a (3300 + 16 * r + 5) := by
  have q := tM h
  rw [rt_p ⟨hr.1, by rw [q.1]; omega⟩]
  have := q.2 r hr.1 (by omega)
  exact this.2.2.2.1
theorem vM5 {σ : zI} {t : Nat} {a : Int → Int} (h : RT σ t a) {r : Int} (hr : 0 ≤ r ∧ r < a 1) : rt_ (σ (t + 5) 2) (σ (t + 6)) 13 5 r = a (3300 + 16 * r + 6) := by
  have q := tM h
  rw [rt_p ⟨hr.1, by rw [q.1]; omega⟩]
  have := q.2 r hr.1 (by omega)
  exact this.2.2.2.2.1
theorem vM6 {σ : zI} {t : Nat} {a : Int → Int} (h : RT σ t a) {r : Int} (hr : 0 ≤ r ∧ r < a 1) : rt_ (σ (t + 5) 2) (σ (t + 6)) 13 6 r = a (3300 + 16 * r + 7) := by
  have q := tM h
  rw [rt_p ⟨hr.1, by rw [q.1]; omega⟩]
  have := q.2 r hr.1 (by omega)
  exact this.2.2.2.2.2.1
theorem vM7 {σ : zI} {t : Nat} {a : Int → Int} (h : RT σ t a) {r : Int} (hr : 0 ≤ r ∧ r < a 1) : rt_ (σ (t + 5) 2) (σ (t + 6)) 13 7 r = a (3300 + 16 * r + 8) := by
  have q := tM h
  rw [rt_p ⟨hr.1, by rw [q.1]; omega⟩]
  have := q.2 r hr.1 (by omega)
  exact this.2.2.2.2.2.2.1
theorem vM8 {σ : zI} {t : Nat} {a : Int → Int} (h : RT σ t a) {r : Int} (hr : 0 ≤ r ∧ r < a 1) : rt_ (σ (t + 5) 2) (σ (t + 6)) 13 8 r = a (3300 + 16 * r + 9) := by
  have q := tM h
  rw [rt_p ⟨hr.1, by rw [q.1]; omega⟩]
  have := q.2 r hr.1 (by omega)
  exact this.2.2.2.2.2.2.2.1
theorem vM9 {σ : zI} {t : Nat} {a : Int → Int} (h : RT σ t a) {r : Int} (hr : 0 ≤ r ∧ r < a 1) : rt_ (σ (t + 5) 2) (σ (t + 6)) 13 9 r = a (3300 + 16 * r + 10) := by
  have q := tM h
  rw [rt_p ⟨hr.1, by rw [q.1]; omega⟩]
  have := q.2 r hr.1 (by omega)
  exact this.2.2.2.2.2.2.2.2.1
theorem vM10 {σ : zI} {t : Nat} {a : Int → Int} (h : RT σ t a) {r : Int} (hr : 0 ≤ r ∧ r < a 1) : rt_ (σ (t + 5) 2) (σ (t + 6)) 13 10 r = a (3300 + 16 * r + 1) := by
  have q := tM h
  rw [rt_p ⟨hr.1, by rw [q.1]; omega⟩]
  have := q.2 r hr.1 (by omega)
  exact this.2.2.2.2.2.2.2.2.2.1
theorem vM11 {σ : zI} {t : Nat} {a : Int → Int} (h : RT σ t a) {r : Int} (hr : 0 ≤ r ∧ r < a 1) : rt_ (σ (t + 5) 2) (σ (t + 6)) 13 11 r = a (3300 + 16 * r + 3) := by
  have q := tM h
  rw [rt_p ⟨hr.1, by rw [q.1]; omega⟩]
  have := q.2 r hr.1 (by omega)
  exact this.2.2.2.2.2.2.2.2.2.2
theorem vQ0 {σ : zI} {t : Nat} {a : Int → Int} (h : RT σ t a) {r : Int} (hr : 0 ≤ r ∧ r < a 2) : rt_ (σ (t + 7) 2) (σ (t + 8)) 5 0 r = a (3428 + 8 * r) := by
  have q := tQ h
  rw [rt_p ⟨hr.1, by rw [q.1]; omega⟩]
  have := q.2 r hr.1 (by omega)
  exact this.1
theorem vQ1 {σ : zI} {t : Nat} {a : Int → Int} (h : RT σ t a) {r : Int} (hr : 0 ≤ r ∧ r < a 2) : rt_ (σ (t + 7) 2) (σ (t + 8)) 5 1 r = r_debts a r := by
  have q := tQ h
  rw [rt_p ⟨hr.1, by rw [q.1]; omega⟩]
  have := q.2 r hr.1 (by omega)
  exact this.2.1
theorem vQ2 {σ : zI} {t : Nat} {a : Int → Int} (h : RT σ t a) {r : Int} (hr : 0 ≤ r ∧ r < a 2) : rt_ (σ (t + 7) 2) (σ (t + 8)) 5 2 r = a (3428 + 8 * r + 3) := by
  have q := tQ h
  rw [rt_p ⟨hr.1, by rw [q.1]; omega⟩]
  have := q.2 r hr.1 (by omega)
  exact this.2.2.1
theorem vQ3 {σ : zI} {t : Nat} {a : Int → Int} (h : RT σ t a) {r : Int} (hr : 0 ≤ r ∧ r < a 2) : rt_ (σ (t + 7) 2) (σ (t + 8)) 5 3 r = a (3428 + 8 * r + 1) := by
  have q := tQ h
  rw [rt_p ⟨hr.1, by rw [q.1]; omega⟩]
  have := q.2 r hr.1 (by omega)
  exact this.2.2.2.1
theorem vQ4 {σ : zI} {t : Nat} {a : Int → Int} (h : RT σ t a) {r : Int} (hr : 0 ≤ r ∧ r < a 2) : rt_ (σ (t + 7) 2) (σ (t + 8)) 5 4 r = a (3428 + 8 * r + 2) := by
  have q := tQ h
  rw [rt_p ⟨hr.1, by rw [q.1]; omega⟩]
  have := q.2 r hr.1 (by omega)
  exact this.2.2.2.2
theorem vH0 {σ : zI} {t : Nat} {a : Int → Int} (h : RT σ t a) {r : Int} (hr : 0 ≤ r ∧ r < a 3) : rt_ (σ (t + 9) 2) (σ (t + 10)) 8 0 r = a (3460 + 8 * r + 1) := by
  have q := tH h
  rw [rt_p ⟨hr.1, by rw [q.1]; omega⟩]
  have := q.2 r hr.1 (by omega)
  exact this.1
theorem vH1 {σ : zI} {t : Nat} {a : Int → Int} (h : RT σ t a) {r : Int} (hr : 0 ≤ r ∧ r < a 3) : rt_ (σ (t + 9) 2) (σ (t + 10)) 8 1 r = a (3460 + 8 * r + 2) := by
  have q := tH h
  rw [rt_p ⟨hr.1, by rw [q.1]; omega⟩]
  have := q.2 r hr.1 (by omega)
  exact this.2.1
theorem vH2 {σ : zI} {t : Nat} {a : Int → Int} (h : RT σ t a) {r : Int} (hr : 0 ≤ r ∧ r < a 3) : rt_ (σ (t + 9) 2) (σ (t + 10)) 8 2 r = a (3460 + 8 * r + 3) := by
  have q := tH h
  rw [rt_p ⟨hr.1, by rw [q.1]; omega⟩]
  have := q.2 r hr.1 (by omega)
  exact this.2.2.1
theorem vH3 {σ : zI} {t : Nat} {a : Int → Int} (h : RT σ t a) {r : Int} (hr : 0 ≤ r ∧ r < a 3) : rt_ (σ (t + 9) 2) (σ (t + 10)) 8 3 r = r_need a r := by
  have q := tH h
  rw [rt_p ⟨hr.1, by rw [q.1]; omega⟩]
  have := q.2 r hr.1 (by omega)
  exact this.2.2.2.1
theorem vH4 {σ : zI} {t : Nat} {a : Int → Int} (h : RT σ t a) {r : Int} (hr : 0 ≤ r ∧ r < a 3) : rt_ (σ (t + 9) 2) (σ (t + 10)) 8 4 r = r_pers a r := by
  have q := tH h
  rw [rt_p ⟨hr.1, by rw [q.1]; omega⟩]
  have := q.2 r hr.1 (by omega)
  exact this.2.2.2.2.1
theorem vH5 {σ : zI} {t : Nat} {a : Int → Int} (h : RT σ t a) {r : Int} (hr : 0 ≤ r ∧ r < a 3) : rt_ (σ (t + 9) 2) (σ (t + 10)) 8 5 r = r_late a 22300 r := by
  have q := tH h
  rw [rt_p ⟨hr.1, by rw [q.1]; omega⟩]
  have := q.2 r hr.1 (by omega)
  exact this.2.2.2.2.2.1
theorem vH6 {σ : zI} {t : Nat} {a : Int → Int} (h : RT σ t a) {r : Int} (hr : 0 ≤ r ∧ r < a 3) : rt_ (σ (t + 9) 2) (σ (t + 10)) 8 6 r = r_late a 31900 r := by
  have q := tH h
  rw [rt_p ⟨hr.1, by rw [q.1]; omega⟩]
  have := q.2 r hr.1 (by omega)
  exact this.2.2.2.2.2.2.1
theorem vH7 {σ : zI} {t : Nat} {a : Int → Int} (h : RT σ t a) {r : Int} (hr : 0 ≤ r ∧ r < a 3) : rt_ (σ (t + 9) 2) (σ (t + 10)) 8 7 r = a (3460 + 8 * r + 0) := by
  have q := tH h
  rw [rt_p ⟨hr.1, by rw [q.1]; omega⟩]
  have := q.2 r hr.1 (by omega)
  exact this.2.2.2.2.2.2.2
theorem vO0 {σ : zI} {t : Nat} {a : Int → Int} (h : RT σ t a) {r : Int} (hr : 0 ≤ r ∧ r < a 7) : rt_ (σ (t + 13) 2) (σ (t + 14)) 6 0 r = a (4372 + 8 * r) := by
  have q := tO h
  rw [rt_p ⟨hr.1, by rw [q.1]; omega⟩]
  have := q.2 r hr.1 (by omega)
  exact this.1
theorem vO1 {σ : zI} {t : Nat} {a : Int → Int} (h : RT σ t a) {r : Int} (hr : 0 ≤ r ∧ r < a 7) : rt_ (σ (t + 13) 2) (σ (t + 14)) 6 1 r = a (4372 + 8 * r + 1) := by
  have q := tO h
  rw [rt_p ⟨hr.1, by rw [q.1]; omega⟩]
  have := q.2 r hr.1 (by omega)
  exact this.2.1
theorem vO2 {σ : zI} {t : Nat} {a : Int → Int} (h : RT σ t a) {r : Int} (hr : 0 ≤ r ∧ r < a 7) : rt_ (σ (t + 13) 2) (σ (t + 14)) 6 2 r = a (4372 + 8 * r + 2) := by
  have q := tO h
  rw [rt_p ⟨hr.1, by rw [q.1]; omega⟩]
  have := q.2 r hr.1 (by omega)
  exact this.2.2.1
theorem vO3 {σ : zI} {t : Nat} {a : Int → Int} (h : RT σ t a) {r : Int} (hr : 0 ≤ r ∧ r < a 7) : rt_ (σ (t + 13) 2) (σ (t + 14)) 6 3 r = a (4372 + 8 * r + 3) := by
  have q := tO h
  rw [rt_p ⟨hr.1, by rw [q.1]; omega⟩]
  have := q.2 r hr.1 (by omega)
  exact this.2.2.2.1
theorem vO4 {σ : zI} {t : Nat} {a : Int → Int} (h : RT σ t a) {r : Int} (hr : 0 ≤ r ∧ r < a 7) : rt_ (σ (t + 13) 2) (σ (t + 14)) 6 4 r = a (4372 + 8 * r + 4) := by
  have q := tO h
  rw [rt_p ⟨hr.1, by rw [q.1]; omega⟩]
  have := q.2 r hr.1 (by omega)
  exact this.2.2.2.2
theorem vF0 {σ : zI} {t : Nat} {a : Int → Int} (h : RT σ t a) {r : Int} (hr : 0 ≤ r ∧ r < a 6) : rt_ (σ (t + 15) 2) (σ (t + 16)) 5 0 r = a (5012 + 8 * r) := by
  have q := tF h
  rw [rt_p ⟨hr.1, by rw [q.1]; omega⟩]
  have := q.2 r hr.1 (by omega)
  exact this.1
theorem vF1 {σ : zI} {t : Nat} {a : Int → Int} (h : RT σ t a) {r : Int} (hr : 0 ≤ r ∧ r < a 6) : rt_ (σ (t + 15) 2) (σ (t + 16)) 5 1 r = a (5012 + 8 * r + 1) := by
  have q := tF h
  rw [rt_p ⟨hr.1, by rw [q.1]; omega⟩]
  have := q.2 r hr.1 (by omega)
  exact this.2.1
theorem vF2 {σ : zI} {t : Nat} {a : Int → Int} (h : RT σ t a) {r : Int} (hr : 0 ≤ r ∧ r < a 6) : rt_ (σ (t + 15) 2) (σ (t + 16)) 5 2 r = a (5012 + 8 * r + 2) := by
  have q := tF h
  rw [rt_p ⟨hr.1, by rw [q.1]; omega⟩]
  have := q.2 r hr.1 (by omega)
  exact this.2.2.1
theorem vF3 {σ : zI} {t : Nat} {a : Int → Int} (h : RT σ t a) {r : Int} (hr : 0 ≤ r ∧ r < a 6) : rt_ (σ (t + 15) 2) (σ (t + 16)) 5 3 r = a (5012 + 8 * r + 3) := by
  have q := tF h
  rw [rt_p ⟨hr.1, by rw [q.1]; omega⟩]
  have := q.2 r hr.1 (by omega)
  exact this.2.2.2.1
theorem vF4 {σ : zI} {t : Nat} {a : Int → Int} (h : RT σ t a) {r : Int} (hr : 0 ≤ r ∧ r < a 6) : rt_ (σ (t + 15) 2) (σ (t + 16)) 5 4 r = a (5012 + 8 * r + 4) := by
  have q := tF h
  rw [rt_p ⟨hr.1, by rw [q.1]; omega⟩]
  have := q.2 r hr.1 (by omega)
  exact this.2.2.2.2
-- method 88: MillTown$Town.tellKind(IIIIII)V
theorem c_88_0 : pg_cd 88 0 = (5, 1, 0, 0, 0) := by decide +kernel
theorem c_88_1 : pg_cd 88 1 = (45, 8, 14, 0, 0) := by decide +kernel
theorem c_88_4 : pg_cd 88 4 = (3, 1, 0, 1, 0) := by decide +kernel
theorem c_88_5 : pg_cd 88 5 = (1, 1, 0, 0, 0) := by decide +kernel
theorem c_88_6 : pg_cd 88 6 = (3, 1, 0, 2, 0) := by decide +kernel
theorem c_88_7 : pg_cd 88 7 = (80, 56, 60, 0, 0) := by decide +kernel
theorem c_88_10 : pg_cd 88 10 = (5, 1, 0, 0, 0) := by decide +kernel
theorem c_88_11 : pg_cd 88 11 = (45, 8, 14, 0, 0) := by decide +kernel
theorem c_88_14 : pg_cd 88 14 = (3, 1, 0, 1, 0) := by decide +kernel
theorem c_88_15 : pg_cd 88 15 = (1, 1, 0, 0, 1) := by decide +kernel
theorem c_88_16 : pg_cd 88 16 = (3, 1, 0, 3, 0) := by decide +kernel
theorem c_88_17 : pg_cd 88 17 = (80, 56, 60, 0, 0) := by decide +kernel
theorem c_88_20 : pg_cd 88 20 = (5, 1, 0, 0, 0) := by decide +kernel
theorem c_88_21 : pg_cd 88 21 = (45, 8, 14, 0, 0) := by decide +kernel
theorem c_88_24 : pg_cd 88 24 = (3, 1, 0, 1, 0) := by decide +kernel
theorem c_88_25 : pg_cd 88 25 = (1, 1, 0, 0, 2) := by decide +kernel
theorem c_88_26 : pg_cd 88 26 = (3, 2, 0, 4, 0) := by decide +kernel
theorem c_88_28 : pg_cd 88 28 = (80, 56, 60, 0, 0) := by decide +kernel
theorem c_88_31 : pg_cd 88 31 = (5, 1, 0, 0, 0) := by decide +kernel
theorem c_88_32 : pg_cd 88 32 = (45, 8, 14, 0, 0) := by decide +kernel
theorem c_88_35 : pg_cd 88 35 = (3, 1, 0, 1, 0) := by decide +kernel
theorem c_88_36 : pg_cd 88 36 = (1, 1, 0, 0, 3) := by decide +kernel
theorem c_88_37 : pg_cd 88 37 = (3, 2, 0, 5, 0) := by decide +kernel
theorem c_88_39 : pg_cd 88 39 = (80, 56, 60, 0, 0) := by decide +kernel
theorem c_88_42 : pg_cd 88 42 = (5, 1, 0, 0, 0) := by decide +kernel
theorem c_88_43 : pg_cd 88 43 = (45, 8, 14, 0, 0) := by decide +kernel
theorem c_88_46 : pg_cd 88 46 = (3, 1, 0, 1, 0) := by decide +kernel
theorem c_88_47 : pg_cd 88 47 = (1, 1, 0, 0, 4) := by decide +kernel
theorem c_88_48 : pg_cd 88 48 = (3, 2, 0, 6, 0) := by decide +kernel
theorem c_88_50 : pg_cd 88 50 = (80, 56, 60, 0, 0) := by decide +kernel
theorem c_88_53 : pg_cd 88 53 = (94, 0, 0, 0, 0) := by decide +kernel
theorem mi_88 : pg_mc 88 = 8 ∧ pg_na 88 = 6 ∧ pg_mx 88 = 7 := by decide +kernel
set_option maxRecDepth 20000 in
theorem u_88_0 {d : Nat} {S : zS} {σ τ : zI} {Q : zQ} {x0 : Nat} {x1 : Int} {x2 : Int} {x3 : Int} {x4 : Int} {x5 : Int} {x6 : Int} (hx0 : tw x0) (t : (rg x1) ∧ (0 ≤ x1 ∧ x1 < (σ (x0 + 1) 2)) ∧ ∃ w3 : Int, wI w3 = wI x2 ∧ rg w3 ∧ ∃ w6 : Int, wI w6 = wI x3 ∧ rg w6 ∧ ∃ w9 : Int, wI w9 = wI x4 ∧ rg w9 ∧ ∃ w12 : Int, wI w12 = wI x5 ∧ rg w12 ∧ ∃ w15 : Int, wI w15 = wI x6 ∧ rg w15 ∧ Q none S (uc σ (x0 + 2) (u1 (u1 (u1 (u1 (u1 (σ (x0 + 2)) (x1 * 6 + 0) w3) (x1 * 6 + 1) w6) (x1 * 6 + 2) w9) (x1 * 6 + 3) w12) (x1 * 6 + 4) w15)) τ) : wi (d + 1) 88 0 [.ref x0, .int (wI x1), .int (wI x2), .int (wI x3), .int (wI x4), .int (wI x5), .int (wI x6)] [] S σ τ Q := by
  obtain ⟨r1, t⟩ := t
  obtain ⟨b2, t⟩ := t
  obtain ⟨w3, e4, r5, t⟩ := t
  refine i5 c_88_0 rfl (i45 c_88_1 (lo (lyt_0 hx0) (by have := tw_b hx0; omega)) (lro (lrt_0 hx0)) (i3 c_88_4 rfl (i1 c_88_5 (i3 c_88_6 rfl ?_))))
  refine i80 (As := [.int (wI x1), .int (wI 0), .int (wI x2)]) (rest := []) c_88_7 mi_56 rfl rfl (Nat.le_of_ble_eq_true rfl) (Nat.le_of_ble_eq_true rfl) (lo (lyt_1 hx0) (by have := tw_b hx0; omega)) (q_put (v2 := w3) (ow_kinds hx0) r1 b2 (by decide) e4 r5 ?_)
  show wi (d + 1) 88 10 [.ref x0, .int (wI x1), .int (wI x2), .int (wI x3), .int (wI x4), .int (wI x5), .int (wI x6)] [] S (uc σ (x0 + 2) (u1 (σ (x0 + 2)) (x1 * 6 + 0) w3)) τ Q
  obtain ⟨w6, e7, r8, t⟩ := t
  refine i5 c_88_10 rfl (i45 c_88_11 (lo (lyt_0 hx0) (by have := tw_b hx0; omega)) (lro (lrt_0 hx0)) (i3 c_88_14 rfl (i1 c_88_15 (i3 c_88_16 rfl ?_))))
  refine i80 (As := [.int (wI x1), .int (wI 1), .int (wI x3)]) (rest := []) c_88_17 mi_56 rfl rfl (Nat.le_of_ble_eq_true rfl) (Nat.le_of_ble_eq_true rfl) (lo (lyt_1 hx0) (by have := tw_b hx0; omega)) (q_put (v2 := w6) (ow_kinds hx0) r1 (show 0 ≤ x1 ∧ x1 < (uc σ (x0 + 2) (u1 (σ (x0 + 2)) (x1 * 6 + 0) w3)) (x0 + 1) 2 by rw [(congrFun (uc_ns rfl (by have := tw_b hx0; have := tw_b hx0; omega)) _)]; exact b2) (by decide) e7 r8 ?_)
  show wi (d + 1) 88 20 [.ref x0, .int (wI x1), .int (wI x2), .int (wI x3), .int (wI x4), .int (wI x5), .int (wI x6)] [] S (uc (uc σ (x0 + 2) (u1 (σ (x0 + 2)) (x1 * 6 + 0) w3)) (x0 + 2) (u1 ((uc σ (x0 + 2) (u1 (σ (x0 + 2)) (x1 * 6 + 0) w3)) (x0 + 2)) (x1 * 6 + 1) w6)) τ Q
  obtain ⟨w9, e10, r11, t⟩ := t
  refine wi_s (σ1 := uc σ (x0 + 2) (u1 (u1 (σ (x0 + 2)) (x1 * 6 + 0) w3) (x1 * 6 + 1) w6)) (wr_ (uc_s _ _ _) (uc_uc _ _ _ _)) (i5 c_88_20 rfl (i45 c_88_21 (lo (lyt_0 hx0) (by have := tw_b hx0; omega)) (lro (lrt_0 hx0)) (i3 c_88_24 rfl (i1 c_88_25 (i3 c_88_26 rfl ?_)))))
  refine i80 (As := [.int (wI x1), .int (wI 2), .int (wI x4)]) (rest := []) c_88_28 mi_56 rfl rfl (Nat.le_of_ble_eq_true rfl) (Nat.le_of_ble_eq_true rfl) (lo (lyt_1 hx0) (by have := tw_b hx0; omega)) (q_put (v2 := w9) (ow_kinds hx0) r1 (show 0 ≤ x1 ∧ x1 < (uc σ (x0 + 2) (u1 (u1 (σ (x0 + 2)) (x1 * 6 + 0) w3) (x1 * 6 + 1) w6)) (x0 + 1) 2 by rw [(congrFun (uc_ns rfl (by have := tw_b hx0; have := tw_b hx0; omega)) _)]; exact b2) (by decide) e10 r11 ?_)
  show wi (d + 1) 88 31 [.ref x0, .int (wI x1), .int (wI x2), .int (wI x3), .int (wI x4), .int (wI x5), .int (wI x6)] [] S (uc (uc σ (x0 + 2) (u1 (u1 (σ (x0 + 2)) (x1 * 6 + 0) w3) (x1 * 6 + 1) w6)) (x0 + 2) (u1 ((uc σ (x0 + 2) (u1 (u1 (σ (x0 + 2)) (x1 * 6 + 0) w3) (x1 * 6 + 1) w6)) (x0 + 2)) (x1 * 6 + 2) w9)) τ Q
  obtain ⟨w12, e13, r14, t⟩ := t
  refine wi_s (σ1 := uc σ (x0 + 2) (u1 (u1 (u1 (σ (x0 + 2)) (x1 * 6 + 0) w3) (x1 * 6 + 1) w6) (x1 * 6 + 2) w9)) (wr_ (uc_s _ _ _) (uc_uc _ _ _ _)) (i5 c_88_31 rfl (i45 c_88_32 (lo (lyt_0 hx0) (by have := tw_b hx0; omega)) (lro (lrt_0 hx0)) (i3 c_88_35 rfl (i1 c_88_36 (i3 c_88_37 rfl ?_)))))
  refine i80 (As := [.int (wI x1), .int (wI 3), .int (wI x5)]) (rest := []) c_88_39 mi_56 rfl rfl (Nat.le_of_ble_eq_true rfl) (Nat.le_of_ble_eq_true rfl) (lo (lyt_1 hx0) (by have := tw_b hx0; omega)) (q_put (v2 := w12) (ow_kinds hx0) r1 (show 0 ≤ x1 ∧ x1 < (uc σ (x0 + 2) (u1 (u1 (u1 (σ (x0 + 2)) (x1 * 6 + 0) w3) (x1 * 6 + 1) w6) (x1 * 6 + 2) w9)) (x0 + 1) 2 by rw [(congrFun (uc_ns rfl (by have := tw_b hx0; have := tw_b hx0; omega)) _)]; exact b2) (by decide) e13 r14 ?_)
  show wi (d + 1) 88 42 [.ref x0, .int (wI x1), .int (wI x2), .int (wI x3), .int (wI x4), .int (wI x5), .int (wI x6)] [] S (uc (uc σ (x0 + 2) (u1 (u1 (u1 (σ (x0 + 2)) (x1 * 6 + 0) w3) (x1 * 6 + 1) w6) (x1 * 6 + 2) w9)) (x0 + 2) (u1 ((uc σ (x0 + 2) (u1 (u1 (u1 (σ (x0 + 2)) (x1 * 6 + 0) w3) (x1 * 6 + 1) w6) (x1 * 6 + 2) w9)) (x0 + 2)) (x1 * 6 + 3) w12)) τ Q
  obtain ⟨w15, e16, r17, t⟩ := t
  refine wi_s (σ1 := uc σ (x0 + 2) (u1 (u1 (u1 (u1 (σ (x0 + 2)) (x1 * 6 + 0) w3) (x1 * 6 + 1) w6) (x1 * 6 + 2) w9) (x1 * 6 + 3) w12)) (wr_ (uc_s _ _ _) (uc_uc _ _ _ _)) (i5 c_88_42 rfl (i45 c_88_43 (lo (lyt_0 hx0) (by have := tw_b hx0; omega)) (lro (lrt_0 hx0)) (i3 c_88_46 rfl (i1 c_88_47 (i3 c_88_48 rfl ?_)))))
  refine i80 (As := [.int (wI x1), .int (wI 4), .int (wI x6)]) (rest := []) c_88_50 mi_56 rfl rfl (Nat.le_of_ble_eq_true rfl) (Nat.le_of_ble_eq_true rfl) (lo (lyt_1 hx0) (by have := tw_b hx0; omega)) (q_put (v2 := w15) (ow_kinds hx0) r1 (show 0 ≤ x1 ∧ x1 < (uc σ (x0 + 2) (u1 (u1 (u1 (u1 (σ (x0 + 2)) (x1 * 6 + 0) w3) (x1 * 6 + 1) w6) (x1 * 6 + 2) w9) (x1 * 6 + 3) w12)) (x0 + 1) 2 by rw [(congrFun (uc_ns rfl (by have := tw_b hx0; have := tw_b hx0; omega)) _)]; exact b2) (by decide) e16 r17 ?_)
  show wi (d + 1) 88 53 [.ref x0, .int (wI x1), .int (wI x2), .int (wI x3), .int (wI x4), .int (wI x5), .int (wI x6)] [] S (uc (uc σ (x0 + 2) (u1 (u1 (u1 (u1 (σ (x0 + 2)) (x1 * 6 + 0) w3) (x1 * 6 + 1) w6) (x1 * 6 + 2) w9) (x1 * 6 + 3) w12)) (x0 + 2) (u1 ((uc σ (x0 + 2) (u1 (u1 (u1 (u1 (σ (x0 + 2)) (x1 * 6 + 0) w3) (x1 * 6 + 1) w6) (x1 * 6 + 2) w9) (x1 * 6 + 3) w12)) (x0 + 2)) (x1 * 6 + 4) w15)) τ Q
  refine wi_s (σ1 := uc σ (x0 + 2) (u1 (u1 (u1 (u1 (u1 (σ (x0 + 2)) (x1 * 6 + 0) w3) (x1 * 6 + 1) w6) (x1 * 6 + 2) w9) (x1 * 6 + 3) w12) (x1 * 6 + 4) w15)) (wr_ (uc_s _ _ _) (uc_uc _ _ _ _)) ?_
  exact i94 c_88_53 t
theorem q_88 {d : Nat} {S : zS} {σ τ : zI} {Q : zQ} {tn : Nat} {k : Int} {p : Int} {w : Int} {y : Int} {h : Int} {e : Int} (htn : tw tn) (p0 : 0 ≤ k ∧ k < σ (tn + 1) 2) (p1 : rg p) (p2 : rg w) (p3 : rg y) (p4 : rg h) (p5 : rg e) (t : Q none S (uc σ (tn + 2) (u1 (u1 (u1 (u1 (u1 (σ (tn + 2)) (k * 6 + 0) p) (k * 6 + 1) w) (k * 6 + 2) y) (k * 6 + 3) h) (k * 6 + 4) e)) τ) : wc (d + 1) 88 [.ref tn, .int (wI k), .int (wI p), .int (wI w), .int (wI y), .int (wI h), .int (wI e)] S σ τ Q := by
  refine wc_ok fun K => ?_
  have kr := kO_r K (tn + 1) 2
  exact wc_of mi_88 rfl (u_88_0 htn ⟨by omega, p0, _, rfl, p1, _, rfl, p2, _, rfl, p3, _, rfl, p4, _, rfl, p5, t⟩)
-- method 89: MillTown$Town.isOrdered(I)Z
theorem c_89_0 : pg_cd 89 0 = (1, 1, 0, 0, 0) := by decide +kernel
theorem c_89_1 : pg_cd 89 1 = (6, 1, 0, 2, 0) := by decide +kernel
theorem c_89_2 : pg_cd 89 2 = (1, 1, 0, 0, 0) := by decide +kernel
theorem c_89_3 : pg_cd 89 3 = (6, 1, 0, 3, 0) := by decide +kernel
theorem c_89_4 : pg_cd 89 4 = (3, 1, 0, 3, 0) := by decide +kernel
theorem c_89_5 : pg_cd 89 5 = (5, 1, 0, 0, 0) := by decide +kernel
theorem c_89_6 : pg_cd 89 6 = (45, 8, 35, 6, 0) := by decide +kernel
theorem c_89_9 : pg_cd 89 9 = (43, 4, 89, 2, 0) := by decide +kernel
theorem c_89_12 : pg_cd 89 12 = (37, 3, 0, 3, 32) := by decide +kernel
theorem c_89_15 : pg_cd 89 15 = (3, 1, 0, 2, 0) := by decide +kernel
theorem c_89_16 : pg_cd 89 16 = (36, 3, 0, 1, 16) := by decide +kernel
theorem c_89_19 : pg_cd 89 19 = (5, 1, 0, 0, 0) := by decide +kernel
theorem c_89_20 : pg_cd 89 20 = (45, 8, 35, 6, 0) := by decide +kernel
theorem c_89_23 : pg_cd 89 23 = (3, 1, 0, 3, 0) := by decide +kernel
theorem c_89_24 : pg_cd 89 24 = (1, 1, 0, 0, 0) := by decide +kernel
theorem c_89_25 : pg_cd 89 25 = (80, 55, 92, 0, 0) := by decide +kernel
theorem c_89_28 : pg_cd 89 28 = (3, 1, 0, 1, 0) := by decide +kernel
theorem c_89_29 : pg_cd 89 29 = (37, 3, 0, 1, 7) := by decide +kernel
theorem c_89_32 : pg_cd 89 32 = (1, 1, 0, 0, 1) := by decide +kernel
theorem c_89_33 : pg_cd 89 33 = (38, 3, 0, 0, 4) := by decide +kernel
theorem c_89_36 : pg_cd 89 36 = (1, 1, 0, 0, 0) := by decide +kernel
theorem c_89_37 : pg_cd 89 37 = (6, 1, 0, 2, 0) := by decide +kernel
theorem c_89_38 : pg_cd 89 38 = (9, 3, 0, 3, 1) := by decide +kernel
theorem c_89_41 : pg_cd 89 41 = (38, 3, 0, 0, (-37)) := by decide +kernel
theorem c_89_44 : pg_cd 89 44 = (3, 1, 0, 2, 0) := by decide +kernel
theorem c_89_45 : pg_cd 89 45 = (91, 0, 0, 0, 0) := by decide +kernel
theorem mi_89 : pg_mc 89 = 8 ∧ pg_na 89 = 1 ∧ pg_mx 89 = 4 := by decide +kernel
set_option maxRecDepth 20000 in
theorem u_89_0 {d : Nat} {S : zS} {σ τ : zI} {Q : zQ} {x0 : Nat} {x1 : Int} (hx0 : tw x0) (t : wi (d + 1) 89 4 [.ref x0, .int (wI x1), .int (wI 0), .int (wI 0)] [] S σ τ Q) : wi (d + 1) 89 0 [.ref x0, .int (wI x1), .retAddr 0, .retAddr 0] [] S σ τ Q := by
  refine i1 c_89_0 (i6 (L' := [.ref x0, .int (wI x1), .int (wI 0), .retAddr 0]) c_89_1 rfl (i1 c_89_2 (i6 (L' := [.ref x0, .int (wI x1), .int (wI 0), .int (wI 0)]) c_89_3 rfl t)))
set_option maxRecDepth 20000 in
theorem u_89_4 {d : Nat} {S : zS} {σ τ : zI} {Q : zQ} {x0 : Nat} {x1 : Int} {x2 : Int} {x3 : Int} (hx0 : tw x0) (t : (rg x3) ∧ if (σ (x0 + 13) 2) ≤ x3 then ((x2 = 0 ∨ x2 = 1) ∧ Q (some (.int (wI x2))) S σ τ) else ((rg x2) ∧ if x2 = 0 then ((rg x1) ∧ if (rt_ (σ (x0 + 13) 2) (σ (x0 + 14)) 6 0 x3) = x1 then (wi (d + 1) 89 4 [.ref x0, .int (wI x1), .int (wI 1), .int (wI (x3 + 1))] [] S σ τ Q) else (wi (d + 1) 89 4 [.ref x0, .int (wI x1), .int (wI 0), .int (wI (x3 + 1))] [] S σ τ Q)) else (wi (d + 1) 89 4 [.ref x0, .int (wI x1), .int (wI 1), .int (wI (x3 + 1))] [] S σ τ Q))) : wi (d + 1) 89 4 [.ref x0, .int (wI x1), .int (wI x2), .int (wI x3)] [] S σ τ Q := by
  refine i3 c_89_4 rfl (i5 c_89_5 rfl (i45 c_89_6 (lo (lyt_0 hx0) (by have := tw_b hx0; omega)) (lro (lrt_6 hx0)) (wi_ok (fun K1 => ?_))))
  obtain ⟨r2, t⟩ := t
  refine i43 (v := σ (x0 + 13) 2) c_89_9 (lo (lyt_13 hx0) (by have := tw_b hx0; omega)) rfl ?_
  refine i37 c_89_12 r2 (rge_ K1 rfl) rfl (fun hc => ?_) (fun hc => ?_)
  · have t := iT t hc
    have ha3 : (σ (x0 + 13) 2) ≤ x3 := hc
    obtain ⟨b4, t⟩ := t
    refine i3 c_89_44 rfl ?_
    exact i91 c_89_45 b4 t
  · have t := iF t hc
    have ha3 : ¬ ((σ (x0 + 13) 2) ≤ x3) := hc
    obtain ⟨r5, t⟩ := t
    refine i3 c_89_15 rfl ?_
    refine i36 c_89_16 r5 rfl (fun hc => ?_) (fun hc => ?_)
    · have t := iF t hc
      have ha6 : ¬ (x2 = 0) := hc
      refine i1 c_89_32 (i38 c_89_33 rfl (i6 (L' := [.ref x0, .int (wI x1), .int (wI 1), .int (wI x3)]) c_89_37 rfl (i9 (L' := [.ref x0, .int (wI x1), .int (wI 1), .int (wI (x3 + 1))]) c_89_38 rfl rfl (i38 c_89_41 rfl t))))
    · have t := iT t (Decidable.not_not.mp hc)
      have ha6 : x2 = 0 := Decidable.not_not.mp hc
      refine i5 c_89_19 rfl (i45 c_89_20 (lo (lyt_0 hx0) (by have := tw_b hx0; omega)) (lro (lrt_6 hx0)) (i3 c_89_23 rfl (i1 c_89_24 ?_)))
      refine i80 (As := [.int (wI x3), .int (wI 0)]) (rest := []) c_89_25 mi_55 rfl rfl (Nat.le_of_ble_eq_true rfl) (Nat.le_of_ble_eq_true rfl) (lo (lyt_13 hx0) (by have := tw_b hx0; omega)) (q_at (ow_orders hx0) r2 (by decide) ?_)
      show wi (d + 1) 89 28 [.ref x0, .int (wI x1), .int (wI x2), .int (wI x3)] [.int (wI (rt_ (σ (x0 + 13) 2) (σ (x0 + 14)) 6 0 x3))] S σ τ Q
      obtain ⟨r7, t⟩ := t
      refine i3 c_89_28 rfl ?_
      refine i37 c_89_29 (rg_rt_ (fun k => kO_r K1 _ k) _ _ _ _) r7 rfl (fun hc => ?_) (fun hc => ?_)
      · have t := iF t hc
        have ha8 : ¬ ((rt_ (σ (x0 + 13) 2) (σ (x0 + 14)) 6 0 x3) = x1) := hc
        refine i1 c_89_36 (i6 (L' := [.ref x0, .int (wI x1), .int (wI 0), .int (wI x3)]) c_89_37 rfl (i9 (L' := [.ref x0, .int (wI x1), .int (wI 0), .int (wI (x3 + 1))]) c_89_38 rfl rfl (i38 c_89_41 rfl t)))
      · have t := iT t (Decidable.not_not.mp hc)
        have ha8 : (rt_ (σ (x0 + 13) 2) (σ (x0 + 14)) 6 0 x3) = x1 := Decidable.not_not.mp hc
        refine i1 c_89_32 (i38 c_89_33 rfl (i6 (L' := [.ref x0, .int (wI x1), .int (wI 1), .int (wI x3)]) c_89_37 rfl (i9 (L' := [.ref x0, .int (wI x1), .int (wI 1), .int (wI (x3 + 1))]) c_89_38 rfl rfl (i38 c_89_41 rfl t))))
theorem q_89 {d : Nat} {S : zS} {σ τ : zI} {Q : zQ} {tn : Nat} {kind : Int} {a : Int → Int} (htn : tw tn) (p0 : RT σ tn a) (p1 : jv_O a) (p2 : 0 ≤ kind ∧ kind ≤ 5) (t : Q (some (.int (wI (if a (20 + 8 * kind + 7) = 1 then 1 else 0)))) S σ τ) : wc (d + 1) 89 [.ref tn, .int (wI kind)] S σ τ Q := by
  refine wc_ok fun K => ?_
  have hc := cO p0
  have kr := kO_r K (tn + 13) 2
  rw [hc] at kr
  have h7 : 0 ≤ a 7 := by
    have := (ow_orders htn K).2.2.2.2.2.1
    omega
  refine wc_of mi_89 rfl (u_89_0 htn ?_)
  have key : ∀ o, 0 ≤ o → o ≤ a 7 → ∀ s, (s = 1 ∧ ∃ q, 0 ≤ q ∧ q < o ∧ a (4372 + 8 * q) = kind) ∨ (s = 0 ∧ ∀ q, 0 ≤ q → q < o → a (4372 + 8 * q) ≠ kind) → wi (d + 1) 89 4 [.ref tn, .int (wI kind), .int (wI s), .int (wI o)] [] S σ τ Q := by
    refine lp_up (fun o h0 h1 ih => ?_)
    intro s hs
    refine u_89_4 htn ⟨by omega, ?_⟩
    rw [hc]
    by_cases c : a 7 ≤ o
    · have : o = a 7 := by omega
      subst this
      rw [if_pos (by omega)]
      rcases hs with ⟨e, q, q0, q1, q2⟩ | ⟨e, hq⟩
      · subst e
        rw [if_pos ((p1.2 kind p2.1 p2.2).mpr ⟨q, q0, q1, q2⟩)] at t
        exact ⟨Or.inr rfl, t⟩
      · subst e
        rw [if_neg (fun x => by
          obtain ⟨q, q0, q1, q2⟩ := (p1.2 kind p2.1 p2.2).mp x
          exact hq q q0 q1 q2)] at t
        exact ⟨Or.inl rfl, t⟩
    · have ih := ih (by omega)
      have ev := vO0 p0 (r := o) ⟨h0, by omega⟩
      rw [hc] at ev
      rw [if_neg c, ev]
      refine ⟨by omega, ?_⟩
      rcases hs with ⟨e, q, q0, q1, q2⟩ | ⟨e, hq⟩
      · subst e
        rw [if_neg (by omega)]
        exact ih 1 (Or.inl ⟨rfl, q, q0, by omega, q2⟩)
      · subst e
        rw [if_pos rfl]
        refine ⟨by omega, ?_⟩
        refine ifI (fun h2 => ?_) (fun h2 => ?_)
        · exact ih 1 (Or.inl ⟨rfl, o, h0, by omega, h2⟩)
        · refine ih 0 (Or.inr ⟨rfl, fun q q0 q1 => ?_⟩)
          by_cases e : q = o
          · subst e; exact h2
          · exact hq q q0 (by omega)
  exact key 0 (by omega) (by omega) 0 (Or.inr ⟨rfl, fun q q0 q1 => by omega⟩)
-- method 90: MillTown$Town.priceIn(II)I
theorem c_90_0 : pg_cd 90 0 = (3, 1, 0, 2, 0) := by decide +kernel
theorem c_90_1 : pg_cd 90 1 = (6, 1, 0, 3, 0) := by decide +kernel
theorem c_90_2 : pg_cd 90 2 = (3, 1, 0, 3, 0) := by decide +kernel
theorem c_90_3 : pg_cd 90 3 = (36, 3, 0, 2, 37) := by decide +kernel
theorem c_90_6 : pg_cd 90 6 = (5, 1, 0, 0, 0) := by decide +kernel
theorem c_90_7 : pg_cd 90 7 = (45, 8, 20, 1, 0) := by decide +kernel
theorem c_90_10 : pg_cd 90 10 = (3, 1, 0, 1, 0) := by decide +kernel
theorem c_90_11 : pg_cd 90 11 = (3, 1, 0, 3, 0) := by decide +kernel
theorem c_90_12 : pg_cd 90 12 = (80, 55, 92, 0, 0) := by decide +kernel
theorem c_90_15 : pg_cd 90 15 = (6, 2, 0, 4, 0) := by decide +kernel
theorem c_90_17 : pg_cd 90 17 = (3, 2, 0, 4, 0) := by decide +kernel
theorem c_90_19 : pg_cd 90 19 = (36, 3, 0, 1, 6) := by decide +kernel
theorem c_90_22 : pg_cd 90 22 = (38, 3, 0, 0, 18) := by decide +kernel
theorem c_90_25 : pg_cd 90 25 = (3, 2, 0, 4, 0) := by decide +kernel
theorem c_90_27 : pg_cd 90 27 = (1, 1, 0, 0, (-1)) := by decide +kernel
theorem c_90_28 : pg_cd 90 28 = (37, 3, 0, 0, 6) := by decide +kernel
theorem c_90_31 : pg_cd 90 31 = (3, 2, 0, 4, 0) := by decide +kernel
theorem c_90_33 : pg_cd 90 33 = (90, 0, 0, 0, 0) := by decide +kernel
theorem c_90_34 : pg_cd 90 34 = (9, 3, 0, 3, (-1)) := by decide +kernel
theorem c_90_37 : pg_cd 90 37 = (38, 3, 0, 0, (-35)) := by decide +kernel
theorem c_90_40 : pg_cd 90 40 = (5, 1, 0, 0, 0) := by decide +kernel
theorem c_90_41 : pg_cd 90 41 = (45, 8, 20, 1, 0) := by decide +kernel
theorem c_90_44 : pg_cd 90 44 = (3, 1, 0, 1, 0) := by decide +kernel
theorem c_90_45 : pg_cd 90 45 = (1, 3, 0, 0, 400) := by decide +kernel
theorem c_90_48 : pg_cd 90 48 = (80, 55, 92, 0, 0) := by decide +kernel
theorem c_90_51 : pg_cd 90 51 = (90, 0, 0, 0, 0) := by decide +kernel
theorem mi_90 : pg_mc 90 = 8 ∧ pg_na 90 = 2 ∧ pg_mx 90 = 5 := by decide +kernel
set_option maxRecDepth 20000 in
theorem u_90_0 {d : Nat} {S : zS} {σ τ : zI} {Q : zQ} {x0 : Nat} {x1 : Int} {x2 : Int} (hx0 : tw x0) (t : wi (d + 1) 90 2 [.ref x0, .int (wI x1), .int (wI x2), .int (wI x2), .retAddr 0] [] S σ τ Q) : wi (d + 1) 90 0 [.ref x0, .int (wI x1), .int (wI x2), .retAddr 0, .retAddr 0] [] S σ τ Q := by
  refine i3 c_90_0 rfl (i6 (L' := [.ref x0, .int (wI x1), .int (wI x2), .int (wI x2), .retAddr 0]) c_90_1 rfl t)
set_option maxRecDepth 20000 in
theorem u_90_2 {d : Nat} {S : zS} {σ τ : zI} {Q : zQ} {x0 : Nat} {x1 : Int} {x2 : Int} {x3 : Int} {y4 : Value} (hx0 : tw x0) (t : (rg x3) ∧ if x3 < 0 then ((rg x1) ∧ Q (some (.int (wI (rt_ (σ (x0 + 3) 2) (σ (x0 + 4)) 401 400 x1)))) S σ τ) else ((rg x1) ∧ if (ra_ (σ (x0 + 3) 2) (σ (x0 + 4)) 401 x1 x3) = 0 then (Q (some (.int (wI (rt_ (σ (x0 + 3) 2) (σ (x0 + 4)) 401 400 x1)))) S σ τ) else (if (ra_ (σ (x0 + 3) 2) (σ (x0 + 4)) 401 x1 x3) = (-1) then (wi (d + 1) 90 2 [.ref x0, .int (wI x1), .int (wI x2), .int (wI (x3 + (-1))), .int (wI (ra_ (σ (x0 + 3) 2) (σ (x0 + 4)) 401 x1 x3))] [] S σ τ Q) else (Q (some (.int (wI (ra_ (σ (x0 + 3) 2) (σ (x0 + 4)) 401 x1 x3)))) S σ τ)))) : wi (d + 1) 90 2 [.ref x0, .int (wI x1), .int (wI x2), .int (wI x3), y4] [] S σ τ Q := by
  obtain ⟨r1, t⟩ := t
  refine i3 c_90_2 rfl ?_
  refine i36 c_90_3 r1 rfl (fun hc => ?_) (fun hc => ?_)
  · have t := iT t hc
    have ha2 : x3 < 0 := hc
    obtain ⟨r3, t⟩ := t
    refine i5 c_90_40 rfl (i45 c_90_41 (lo (lyt_0 hx0) (by have := tw_b hx0; omega)) (lro (lrt_1 hx0)) (i3 c_90_44 rfl (i1 c_90_45 (wi_ok (fun K4 => ?_)))))
    refine i80 (As := [.int (wI x1), .int (wI 400)]) (rest := []) c_90_48 mi_55 rfl rfl (Nat.le_of_ble_eq_true rfl) (Nat.le_of_ble_eq_true rfl) (lo (lyt_3 hx0) (by have := tw_b hx0; omega)) (q_at (ow_wire hx0) r3 (by decide) ?_)
    show wi (d + 1) 90 51 [.ref x0, .int (wI x1), .int (wI x2), .int (wI x3), y4] [.int (wI (rt_ (σ (x0 + 3) 2) (σ (x0 + 4)) 401 400 x1))] S σ τ Q
    exact i90 c_90_51 t
  · have t := iF t hc
    have ha2 : ¬ (x3 < 0) := hc
    obtain ⟨r5, t⟩ := t
    refine i5 c_90_6 rfl (i45 c_90_7 (lo (lyt_0 hx0) (by have := tw_b hx0; omega)) (lro (lrt_1 hx0)) (i3 c_90_10 rfl (i3 c_90_11 rfl (wi_ok (fun K6 => ?_)))))
    refine i80 (As := [.int (wI x1), .int (wI x3)]) (rest := []) c_90_12 mi_55 rfl rfl (Nat.le_of_ble_eq_true rfl) (Nat.le_of_ble_eq_true rfl) (lo (lyt_3 hx0) (by have := tw_b hx0; omega)) (q_atv (ow_wire hx0) r5 r1 ?_)
    show wi (d + 1) 90 15 [.ref x0, .int (wI x1), .int (wI x2), .int (wI x3), y4] [.int (wI (ra_ (σ (x0 + 3) 2) (σ (x0 + 4)) 401 x1 x3))] S σ τ Q
    refine i6 (L' := [.ref x0, .int (wI x1), .int (wI x2), .int (wI x3), .int (wI (ra_ (σ (x0 + 3) 2) (σ (x0 + 4)) 401 x1 x3))]) c_90_15 rfl (i3 c_90_17 rfl ?_)
    refine i36 c_90_19 (rg_ra_ (fun k => kO_r K6 _ k) _ _ _ _) rfl (fun hc => ?_) (fun hc => ?_)
    · have t := iF t hc
      have ha7 : ¬ ((ra_ (σ (x0 + 3) 2) (σ (x0 + 4)) 401 x1 x3) = 0) := hc
      refine i3 c_90_25 rfl (i1 c_90_27 ?_)
      refine i37 c_90_28 (rg_ra_ (fun k => kO_r K6 _ k) _ _ _ _) (by decide) rfl (fun hc => ?_) (fun hc => ?_)
      · have t := iT t hc
        have ha8 : (ra_ (σ (x0 + 3) 2) (σ (x0 + 4)) 401 x1 x3) = (-1) := hc
        refine i9 (L' := [.ref x0, .int (wI x1), .int (wI x2), .int (wI (x3 + (-1))), .int (wI (ra_ (σ (x0 + 3) 2) (σ (x0 + 4)) 401 x1 x3))]) c_90_34 rfl rfl (i38 c_90_37 rfl t)
      · have t := iF t hc
        have ha8 : ¬ ((ra_ (σ (x0 + 3) 2) (σ (x0 + 4)) 401 x1 x3) = (-1)) := hc
        refine i3 c_90_31 rfl ?_
        exact i90 c_90_33 t
    · have t := iT t (Decidable.not_not.mp hc)
      have ha7 : (ra_ (σ (x0 + 3) 2) (σ (x0 + 4)) 401 x1 x3) = 0 := Decidable.not_not.mp hc
      refine i38 c_90_22 rfl (i5 c_90_40 rfl (i45 c_90_41 (lo (lyt_0 hx0) (by have := tw_b hx0; omega)) (lro (lrt_1 hx0)) (i3 c_90_44 rfl (i1 c_90_45 ?_))))
      refine i80 (As := [.int (wI x1), .int (wI 400)]) (rest := []) c_90_48 mi_55 rfl rfl (Nat.le_of_ble_eq_true rfl) (Nat.le_of_ble_eq_true rfl) (lo (lyt_3 hx0) (by have := tw_b hx0; omega)) (q_at (ow_wire hx0) r5 (by decide) ?_)
      show wi (d + 1) 90 51 [.ref x0, .int (wI x1), .int (wI x2), .int (wI x3), .int (wI (ra_ (σ (x0 + 3) 2) (σ (x0 + 4)) 401 x1 x3))] [.int (wI (rt_ (σ (x0 + 3) 2) (σ (x0 + 4)) 401 400 x1))] S σ τ Q
      exact i90 c_90_51 t
theorem q_90 {d : Nat} {S : zS} {σ τ : zI} {Q : zQ} {tn : Nat} {what : Int} {week : Int} {a : Int → Int} (htn : tw tn) (p0 : RT σ tn a) (p1 : (0 ≤ what ∧ what ≤ 7) ∧ -1 ≤ week ∧ week ≤ 399) (t : Q (some (.int (wI (r_pr a what week)))) S σ τ) : wc (d + 1) 90 [.ref tn, .int (wI what), .int (wI week)] S σ τ Q := by
  have hc := cW p0
  have hw := (tW p0).2 what p1.1.1 p1.1.2
  have em : rt_ (σ (tn + 3) 2) (σ (tn + 4)) 401 400 what = a (70 + what) := by
    rw [rt_p ⟨p1.1.1, by omega⟩]; exact hw.2
  refine wc_of mi_90 rfl (u_90_0 htn ?_)
  have key : ∀ w, -1 ≤ w → w ≤ 399 → Q (some (.int (wI (r_pr a what w)))) S σ τ → ∀ x : Value, wi (d + 1) 90 2 [.ref tn, .int (wI what), .int (wI week), .int (wI w), x] [] S σ τ Q := by
    refine lp_dn (fun w hw2 ih => ?_)
    intro h1 t x
    refine u_90_2 htn ⟨by omega, ?_⟩
    rw [em]
    by_cases c : w < 0
    · have : w = -1 := by omega
      subst this
      rw [r_pr_m] at t
      rw [if_pos (by omega)]
      exact ⟨by omega, t⟩
    · have ev : ra_ (σ (tn + 3) 2) (σ (tn + 4)) 401 what w = a (100 + 400 * what + w) := by
        unfold ra_
        rw [if_pos ⟨⟨p1.1.1, by omega⟩, by omega, by omega⟩]
        exact hw.1 w (by omega) h1
      rw [r_pr_s (by omega)] at t
      rw [if_neg c, ev]
      refine ⟨by omega, ?_⟩
      by_cases c0 : a (100 + 400 * what + w) = 0
      · rw [if_neg (by omega), if_pos c0] at t
        rw [if_pos c0]
        exact t
      · rw [if_neg c0]
        by_cases c1 : a (100 + 400 * what + w) = -1
        · rw [if_pos c1] at t
          rw [if_pos c1]
          exact ih (by omega) (by omega) t _
        · rw [if_neg c1, if_neg c0] at t
          rw [if_neg c1]
          exact t
  exact key week p1.2.1 p1.2.2 t _
