/-! ===== a WEEK of the class: ORDERS are taken (segments printed by wip/whole, contracts own work) ===== -/
def FP_ (f : Int → Int) (a : Int → Int) (PE : Int → Int → Int) : Prop := ∀ p c, 0 ≤ p → p < a 4 → 0 ≤ c → c ≤ 7 → f (p * 9 + c) = PE p c
def FM_ (f : Int → Int) (a : Int → Int) (MI : Int → Int → Int) (TK : Int → Int) : Prop := ∀ m, 0 ≤ m → m < a 1 → (∀ k c, mcR k c → f (m * 13 + k) = MI m c) ∧ f (m * 13 + 12) = TK m
def FO_ (f : Int → Int) (a : Int → Int) (OD : Int → Int → Int) : Prop := ∀ o c, 0 ≤ o → o < a 7 → 0 ≤ c → c ≤ 5 → f (o * 6 + c) = OD o c
section FT
variable {f : Int → Int} {a : Int → Int} {PE MI OD PE' MI' OD' : Int → Int → Int} {TK TK' : Int → Int}
theorem FP_u {p c v : Int} (hc : 0 ≤ c ∧ c ≤ 7) (q : FP_ f a PE) : FP_ (u1 f (p * 9 + c) v) a (t2 PE p c v) := fun p' c' p0 p1 c0 c1 => by
  by_cases e : p' = p ∧ c' = c
  · obtain ⟨rfl, rfl⟩ := e
    rw [u1_s, t2_s]
  · rw [u1_n (by omega), t2_n e]; exact q p' c' p0 p1 c0 c1
theorem FM_u {m k c v : Int} (hk : mcR k c) (q : FM_ f a MI TK) : FM_ (u1 f (m * 13 + k) v) a (t2 MI m c v) TK := fun m' m0 m1 => ⟨fun k' c' hk' => by
  by_cases e : m' = m ∧ k' = k
  · obtain ⟨rfl, rfl⟩ := e
    rw [u1_s, show c' = c by omega, t2_s]
  · rw [u1_n (by omega), t2_n (by omega)]; exact (q m' m0 m1).1 k' c' hk', by rw [u1_n (by omega)]; exact (q m' m0 m1).2⟩
theorem FM_t {m v : Int} (q : FM_ f a MI TK) : FM_ (u1 f (m * 13 + 12) v) a MI (u1 TK m v) := fun m' m0 m1 => ⟨fun k' c' hk' => by rw [u1_n (by omega)]; exact (q m' m0 m1).1 k' c' hk', by
  by_cases e : m' = m
  · subst e; rw [u1_s, u1_s]
  · rw [u1_n (by omega), u1_n e]; exact (q m' m0 m1).2⟩
theorem FO_u {o c v : Int} (hc : 0 ≤ c ∧ c ≤ 5) (q : FO_ f a OD) : FO_ (u1 f (o * 6 + c) v) a (t2 OD o c v) := fun p' c' p0 p1 c0 c1 => by
  by_cases e : p' = o ∧ c' = c
  · obtain ⟨rfl, rfl⟩ := e
    rw [u1_s, t2_s]
  · rw [u1_n (by omega), t2_n e]; exact q p' c' p0 p1 c0 c1
theorem FP_c (h1 : ∀ p c, 0 ≤ p → p < a 4 → 0 ≤ c → c ≤ 7 → PE p c = PE' p c) (q : FP_ f a PE) : FP_ f a PE' := fun p c p0 p1 c0 c1 => by rw [q p c p0 p1 c0 c1]; exact h1 p c p0 p1 c0 c1
theorem FM_c (h2 : ∀ m c, 0 ≤ m → m < a 1 → 0 ≤ c → c ≤ 10 → MI m c = MI' m c) (h4 : ∀ m, 0 ≤ m → m < a 1 → TK m = TK' m) (q : FM_ f a MI TK) : FM_ f a MI' TK' := fun m m0 m1 => ⟨fun k c hk => by rw [(q m m0 m1).1 k c hk]; exact h2 m c m0 m1 (by omega) (by omega), by rw [(q m m0 m1).2]; exact h4 m m0 m1⟩
theorem FO_c (h3 : ∀ o c, 0 ≤ o → o < a 7 → 0 ≤ c → c ≤ 5 → OD o c = OD' o c) (q : FO_ f a OD) : FO_ f a OD' := fun o c o0 o1 c0 c1 => by rw [q o c o0 o1 c0 c1]; exact h3 o c o0 o1 c0 c1
/-- a town's state, by its cells -/
theorem CS_of {σ σ' : zI} {t : Nat} (h : CS σ t a PE MI TK OD) (f : ∀ c, (t ≤ c ∧ c ≤ t + 16) ∧ c ≠ t + 6 ∧ c ≠ t + 12 ∧ c ≠ t + 14 → σ' c = σ c) (hP : FP_ (σ' (t + 12)) a PE') (hM : FM_ (σ' (t + 6)) a MI' TK') (hO : FO_ (σ' (t + 14)) a OD') : CS σ' t a PE' MI' TK' OD' :=
  ⟨cR_f f h.1, ⟨by rw [f (t + 11) (by omega)]; exact h.2.1.1, hP⟩, ⟨by rw [f (t + 5) (by omega)]; exact h.2.2.1.1, hM⟩, ⟨by rw [f (t + 13) (by omega)]; exact h.2.2.2.1, hO⟩⟩
end FT
/-- what the class keeps as TOOK -/
def TKc (a : Int → Int) (n m : Int) : Int := if m < n ∧ wk_D a m then wk_tk a (wk_T a m) m else 0
theorem TKc_no {a : Int → Int} {m : Int} (h : ¬ wk_D a m) (x : Int) : TKc a (m + 1) x = TKc a m x := by
  unfold TKc
  by_cases c : x < m ∧ wk_D a x
  · rw [if_pos c, if_pos ⟨by omega, c.2⟩]
  · rw [if_neg c, if_neg (fun q : x < m + 1 ∧ wk_D a x => c ⟨by
      by_cases e : x = m
      · subst e; exact absurd q.2 h
      · omega, q.2⟩)]
theorem TKc_D {a : Int → Int} {m : Int} (h : wk_D a m) (x : Int) : u1 (TKc a m) m (wk_tk a (wk_T a m) m) x = TKc a (m + 1) x := by
  by_cases e : x = m
  · subst e
    rw [u1_s]; unfold TKc; rw [if_pos ⟨by omega, h⟩]
  · rw [u1_n e]
    unfold TKc
    by_cases c : x < m ∧ wk_D a x
    · rw [if_pos c, if_pos ⟨by omega, c.2⟩]
    · rw [if_neg c, if_neg (fun q : x < m + 1 ∧ wk_D a x => c ⟨by omega, q.2⟩)]
/-- MILLS have chosen, n of them -/
def CT1 (σ : zI) (t : Nat) (a : Int → Int) (n : Int) : Prop := CS σ t a (PE1 a n) (MI1 a n) (TKc a n) (OD1 a n)
-- method 119: MillTown$Week.take(LMillTown$Town;II)V
theorem c_119_0 : pg_cd 119 0 = (5, 1, 0, 1, 0) := by decide +kernel
theorem c_119_1 : pg_cd 119 1 = (45, 8, 105, 6, 0) := by decide +kernel
theorem c_119_4 : pg_cd 119 4 = (3, 1, 0, 3, 0) := by decide +kernel
theorem c_119_5 : pg_cd 119 5 = (1, 1, 0, 0, 0) := by decide +kernel
theorem c_119_6 : pg_cd 119 6 = (80, 55, 118, 0, 0) := by decide +kernel
theorem c_119_9 : pg_cd 119 9 = (6, 2, 0, 4, 0) := by decide +kernel
theorem c_119_11 : pg_cd 119 11 = (5, 1, 0, 1, 0) := by decide +kernel
theorem c_119_12 : pg_cd 119 12 = (45, 8, 115, 2, 0) := by decide +kernel
theorem c_119_15 : pg_cd 119 15 = (3, 1, 0, 2, 0) := by decide +kernel
theorem c_119_16 : pg_cd 119 16 = (1, 2, 0, 0, 6) := by decide +kernel
theorem c_119_18 : pg_cd 119 18 = (80, 55, 118, 0, 0) := by decide +kernel
theorem c_119_21 : pg_cd 119 21 = (3, 2, 0, 4, 0) := by decide +kernel
theorem c_119_23 : pg_cd 119 23 = (37, 3, 0, 0, 20) := by decide +kernel
theorem c_119_26 : pg_cd 119 26 = (5, 1, 0, 1, 0) := by decide +kernel
theorem c_119_27 : pg_cd 119 27 = (45, 8, 115, 2, 0) := by decide +kernel
theorem c_119_30 : pg_cd 119 30 = (3, 1, 0, 2, 0) := by decide +kernel
theorem c_119_31 : pg_cd 119 31 = (1, 2, 0, 0, 6) := by decide +kernel
theorem c_119_33 : pg_cd 119 33 = (3, 2, 0, 4, 0) := by decide +kernel
theorem c_119_35 : pg_cd 119 35 = (80, 56, 171, 0, 0) := by decide +kernel
theorem c_119_38 : pg_cd 119 38 = (5, 1, 0, 1, 0) := by decide +kernel
theorem c_119_39 : pg_cd 119 39 = (3, 1, 0, 2, 0) := by decide +kernel
theorem c_119_40 : pg_cd 119 40 = (81, 120, 175, 0, 0) := by decide +kernel
theorem c_119_43 : pg_cd 119 43 = (5, 1, 0, 0, 0) := by decide +kernel
theorem c_119_44 : pg_cd 119 44 = (5, 1, 0, 1, 0) := by decide +kernel
theorem c_119_45 : pg_cd 119 45 = (3, 1, 0, 2, 0) := by decide +kernel
theorem c_119_46 : pg_cd 119 46 = (3, 2, 0, 4, 0) := by decide +kernel
theorem c_119_48 : pg_cd 119 48 = (80, 121, 179, 0, 0) := by decide +kernel
theorem c_119_51 : pg_cd 119 51 = (6, 2, 0, 5, 0) := by decide +kernel
theorem c_119_53 : pg_cd 119 53 = (3, 2, 0, 5, 0) := by decide +kernel
theorem c_119_55 : pg_cd 119 55 = (36, 3, 0, 4, 4) := by decide +kernel
theorem c_119_58 : pg_cd 119 58 = (94, 0, 0, 0, 0) := by decide +kernel
theorem c_119_59 : pg_cd 119 59 = (5, 1, 0, 1, 0) := by decide +kernel
theorem c_119_60 : pg_cd 119 60 = (45, 8, 105, 6, 0) := by decide +kernel
theorem c_119_63 : pg_cd 119 63 = (3, 1, 0, 3, 0) := by decide +kernel
theorem c_119_64 : pg_cd 119 64 = (1, 1, 0, 0, 1) := by decide +kernel
theorem c_119_65 : pg_cd 119 65 = (80, 55, 118, 0, 0) := by decide +kernel
theorem c_119_68 : pg_cd 119 68 = (5, 1, 0, 1, 0) := by decide +kernel
theorem c_119_69 : pg_cd 119 69 = (45, 8, 105, 6, 0) := by decide +kernel
theorem c_119_72 : pg_cd 119 72 = (3, 1, 0, 3, 0) := by decide +kernel
theorem c_119_73 : pg_cd 119 73 = (1, 1, 0, 0, 5) := by decide +kernel
theorem c_119_74 : pg_cd 119 74 = (80, 55, 118, 0, 0) := by decide +kernel
theorem c_119_77 : pg_cd 119 77 = (11, 1, 0, 0, 0) := by decide +kernel
theorem c_119_78 : pg_cd 119 78 = (6, 2, 0, 6, 0) := by decide +kernel
theorem c_119_80 : pg_cd 119 80 = (3, 2, 0, 5, 0) := by decide +kernel
theorem c_119_82 : pg_cd 119 82 = (3, 2, 0, 6, 0) := by decide +kernel
theorem c_119_84 : pg_cd 119 84 = (74, 0, 182, 0, 0) := by decide +kernel
theorem c_119_87 : pg_cd 119 87 = (6, 2, 0, 7, 0) := by decide +kernel
theorem c_119_89 : pg_cd 119 89 = (1, 1, 0, 0, 2) := by decide +kernel
theorem c_119_90 : pg_cd 119 90 = (3, 2, 0, 7, 0) := by decide +kernel
theorem c_119_92 : pg_cd 119 92 = (12, 1, 0, 0, 0) := by decide +kernel
theorem c_119_93 : pg_cd 119 93 = (3, 2, 0, 5, 0) := by decide +kernel
theorem c_119_95 : pg_cd 119 95 = (37, 3, 0, 2, 18) := by decide +kernel
theorem c_119_98 : pg_cd 119 98 = (5, 1, 0, 0, 0) := by decide +kernel
theorem c_119_99 : pg_cd 119 99 = (43, 9, 96, 5, 0) := by decide +kernel
theorem c_119_102 : pg_cd 119 102 = (5, 1, 0, 1, 0) := by decide +kernel
theorem c_119_103 : pg_cd 119 103 = (43, 8, 187, 12, 0) := by decide +kernel
theorem c_119_106 : pg_cd 119 106 = (37, 3, 0, 4, 7) := by decide +kernel
theorem c_119_109 : pg_cd 119 109 = (1, 1, 0, 0, 1) := by decide +kernel
theorem c_119_110 : pg_cd 119 110 = (38, 3, 0, 0, 4) := by decide +kernel
theorem c_119_113 : pg_cd 119 113 = (1, 1, 0, 0, 0) := by decide +kernel
theorem c_119_114 : pg_cd 119 114 = (6, 2, 0, 8, 0) := by decide +kernel
theorem c_119_116 : pg_cd 119 116 = (5, 1, 0, 1, 0) := by decide +kernel
theorem c_119_117 : pg_cd 119 117 = (45, 8, 105, 6, 0) := by decide +kernel
theorem c_119_120 : pg_cd 119 120 = (3, 1, 0, 3, 0) := by decide +kernel
theorem c_119_121 : pg_cd 119 121 = (1, 1, 0, 0, 5) := by decide +kernel
theorem c_119_122 : pg_cd 119 122 = (3, 2, 0, 7, 0) := by decide +kernel
theorem c_119_124 : pg_cd 119 124 = (80, 57, 190, 0, 0) := by decide +kernel
theorem c_119_127 : pg_cd 119 127 = (5, 1, 0, 1, 0) := by decide +kernel
theorem c_119_128 : pg_cd 119 128 = (45, 8, 115, 2, 0) := by decide +kernel
theorem c_119_131 : pg_cd 119 131 = (3, 1, 0, 2, 0) := by decide +kernel
theorem c_119_132 : pg_cd 119 132 = (1, 2, 0, 0, 12) := by decide +kernel
theorem c_119_134 : pg_cd 119 134 = (3, 2, 0, 7, 0) := by decide +kernel
theorem c_119_136 : pg_cd 119 136 = (80, 56, 171, 0, 0) := by decide +kernel
theorem c_119_139 : pg_cd 119 139 = (5, 1, 0, 1, 0) := by decide +kernel
theorem c_119_140 : pg_cd 119 140 = (45, 8, 115, 2, 0) := by decide +kernel
theorem c_119_143 : pg_cd 119 143 = (3, 1, 0, 2, 0) := by decide +kernel
theorem c_119_144 : pg_cd 119 144 = (1, 2, 0, 0, 8) := by decide +kernel
theorem c_119_146 : pg_cd 119 146 = (3, 1, 0, 3, 0) := by decide +kernel
theorem c_119_147 : pg_cd 119 147 = (80, 56, 171, 0, 0) := by decide +kernel
theorem c_119_150 : pg_cd 119 150 = (5, 1, 0, 1, 0) := by decide +kernel
theorem c_119_151 : pg_cd 119 151 = (45, 8, 115, 2, 0) := by decide +kernel
theorem c_119_154 : pg_cd 119 154 = (3, 1, 0, 2, 0) := by decide +kernel
theorem c_119_155 : pg_cd 119 155 = (1, 2, 0, 0, 7) := by decide +kernel
theorem c_119_157 : pg_cd 119 157 = (3, 2, 0, 8, 0) := by decide +kernel
theorem c_119_159 : pg_cd 119 159 = (36, 3, 0, 0, 7) := by decide +kernel
theorem c_119_162 : pg_cd 119 162 = (1, 1, 0, 0, 2) := by decide +kernel
theorem c_119_163 : pg_cd 119 163 = (38, 3, 0, 0, 4) := by decide +kernel
theorem c_119_166 : pg_cd 119 166 = (1, 1, 0, 0, 1) := by decide +kernel
theorem c_119_167 : pg_cd 119 167 = (80, 56, 171, 0, 0) := by decide +kernel
theorem c_119_170 : pg_cd 119 170 = (94, 0, 0, 0, 0) := by decide +kernel
theorem mi_119 : pg_mc 119 = 9 ∧ pg_na 119 = 3 ∧ pg_mx 119 = 9 := by decide +kernel
set_option maxRecDepth 20000 in
theorem u_119_0 {d : Nat} {S : zS} {σ τ : zI} {Q : zQ} {x1 : Nat} {x2 : Int} {x3 : Int} (hx1 : tw x1) (t : (rg x3) ∧ (rg x2) ∧ if (rt_ (σ (x1 + 5) 2) (σ (x1 + 6)) 13 6 x2) = (rt_ (σ (x1 + 13) 2) (σ (x1 + 14)) 6 0 x3) then (wi (d + 8) 119 43 [.ref 53, .ref x1, .int (wI x2), .int (wI x3), .int (wI (rt_ (σ (x1 + 13) 2) (σ (x1 + 14)) 6 0 x3)), .retAddr 0, .retAddr 0, .retAddr 0, .retAddr 0] [] S σ τ Q) else ((0 ≤ x2 ∧ x2 < (σ (x1 + 5) 2)) ∧ ∃ a6 : Int → Int, ∃ PE7 : Int → Int → Int, ∃ MI8 : Int → Int → Int, ∃ TK9 : Int → Int, ∃ OD10 : Int → Int → Int, (CS (uc σ (x1 + 6) (u1 (σ (x1 + 6)) (x2 * 13 + 6) (rt_ (σ (x1 + 13) 2) (σ (x1 + 14)) 6 0 x3))) x1 a6 PE7 MI8 TK9 OD10) ∧ (a6 4 ≤ 60) ∧ (∀ p, 0 ≤ p → p < a6 4 → PE7 p 4 = a6 (3652 + 12 * p + 4)) ∧ ∀ (σ114 : zI), (∀ c, c ≠ x1 + 12 → σ114 c = (uc σ (x1 + 6) (u1 (σ (x1 + 6)) (x2 * 13 + 6) (rt_ (σ (x1 + 13) 2) (σ (x1 + 14)) 6 0 x3))) c) → cT_P σ114 x1 a6 (PEd a6 PE7 x2) → (∀ p, 0 ≤ p → p < a6 4 → σ114 (x1 + 12) (p * 9 + 8) = (uc σ (x1 + 6) (u1 (σ (x1 + 6)) (x2 * 13 + 6) (rt_ (σ (x1 + 13) 2) (σ (x1 + 14)) 6 0 x3))) (x1 + 12) (p * 9 + 8)) → wi (d + 8) 119 43 [.ref 53, .ref x1, .int (wI x2), .int (wI x3), .int (wI (rt_ (σ (x1 + 13) 2) (σ (x1 + 14)) 6 0 x3)), .retAddr 0, .retAddr 0, .retAddr 0, .retAddr 0] [] S σ114 τ Q)) : wi (d + 8) 119 0 [.ref 53, .ref x1, .int (wI x2), .int (wI x3), .retAddr 0, .retAddr 0, .retAddr 0, .retAddr 0, .retAddr 0] [] S σ τ Q := by
  obtain ⟨r1, t⟩ := t
  refine i5 c_119_0 rfl (i45 c_119_1 (lo (lyt_0 hx1) (by have := tw_b hx1; omega)) (lro (lrt_6 hx1)) (i3 c_119_4 rfl (i1 c_119_5 (wi_ok (fun K2 => ?_)))))
  refine i80 (As := [.int (wI x3), .int (wI 0)]) (rest := []) c_119_6 mi_55 rfl rfl (Nat.le_of_ble_eq_true rfl) (Nat.le_of_ble_eq_true rfl) (lo (lyt_13 hx1) (by have := tw_b hx1; omega)) (q_at (ow_orders hx1) r1 (by decide) ?_)
  show wi (d + 8) 119 9 [.ref 53, .ref x1, .int (wI x2), .int (wI x3), .retAddr 0, .retAddr 0, .retAddr 0, .retAddr 0, .retAddr 0] [.int (wI (rt_ (σ (x1 + 13) 2) (σ (x1 + 14)) 6 0 x3))] S σ τ Q
  obtain ⟨r3, t⟩ := t
  refine i6 (L' := [.ref 53, .ref x1, .int (wI x2), .int (wI x3), .int (wI (rt_ (σ (x1 + 13) 2) (σ (x1 + 14)) 6 0 x3)), .retAddr 0, .retAddr 0, .retAddr 0, .retAddr 0]) c_119_9 rfl (i5 c_119_11 rfl (i45 c_119_12 (lo (lyt_0 hx1) (by have := tw_b hx1; omega)) (lro (lrt_2 hx1)) (i3 c_119_15 rfl (i1 c_119_16 ?_))))
  refine i80 (As := [.int (wI x2), .int (wI 6)]) (rest := []) c_119_18 mi_55 rfl rfl (Nat.le_of_ble_eq_true rfl) (Nat.le_of_ble_eq_true rfl) (lo (lyt_5 hx1) (by have := tw_b hx1; omega)) (q_at (ow_mills hx1) r3 (by decide) ?_)
  show wi (d + 8) 119 21 [.ref 53, .ref x1, .int (wI x2), .int (wI x3), .int (wI (rt_ (σ (x1 + 13) 2) (σ (x1 + 14)) 6 0 x3)), .retAddr 0, .retAddr 0, .retAddr 0, .retAddr 0] [.int (wI (rt_ (σ (x1 + 5) 2) (σ (x1 + 6)) 13 6 x2))] S σ τ Q
  refine i3 c_119_21 rfl ?_
  refine i37 c_119_23 (rg_rt_ (fun k => kO_r K2 _ k) _ _ _ _) (rg_rt_ (fun k => kO_r K2 _ k) _ _ _ _) rfl (fun hc => ?_) (fun hc => ?_)
  · have t := iT t hc
    have ha4 : (rt_ (σ (x1 + 5) 2) (σ (x1 + 6)) 13 6 x2) = (rt_ (σ (x1 + 13) 2) (σ (x1 + 14)) 6 0 x3) := hc
    exact t
  · have t := iF t hc
    have ha4 : ¬ ((rt_ (σ (x1 + 5) 2) (σ (x1 + 6)) 13 6 x2) = (rt_ (σ (x1 + 13) 2) (σ (x1 + 14)) 6 0 x3)) := hc
    obtain ⟨b5, t⟩ := t
    refine i5 c_119_26 rfl (i45 c_119_27 (lo (lyt_0 hx1) (by have := tw_b hx1; omega)) (lro (lrt_2 hx1)) (i3 c_119_30 rfl (i1 c_119_31 (i3 c_119_33 rfl ?_))))
    refine i80 (As := [.int (wI x2), .int (wI 6), .int (wI (rt_ (σ (x1 + 13) 2) (σ (x1 + 14)) 6 0 x3))]) (rest := []) c_119_35 mi_56 rfl rfl (Nat.le_of_ble_eq_true rfl) (Nat.le_of_ble_eq_true rfl) (lo (lyt_5 hx1) (by have := tw_b hx1; omega)) (q_put (v2 := rt_ (σ (x1 + 13) 2) (σ (x1 + 14)) 6 0 x3) (ow_mills hx1) r3 b5 (by decide) rfl (rg_rt_ (fun k => kO_r K2 _ k) _ _ _ _) ?_)
    show wi (d + 8) 119 38 [.ref 53, .ref x1, .int (wI x2), .int (wI x3), .int (wI (rt_ (σ (x1 + 13) 2) (σ (x1 + 14)) 6 0 x3)), .retAddr 0, .retAddr 0, .retAddr 0, .retAddr 0] [] S (uc σ (x1 + 6) (u1 (σ (x1 + 6)) (x2 * 13 + 6) (rt_ (σ (x1 + 13) 2) (σ (x1 + 14)) 6 0 x3))) τ Q
    obtain ⟨a6, t⟩ := t
    obtain ⟨PE7, t⟩ := t
    obtain ⟨MI8, t⟩ := t
    obtain ⟨TK9, t⟩ := t
    obtain ⟨OD10, t⟩ := t
    obtain ⟨p11, t⟩ := t
    obtain ⟨p12, t⟩ := t
    obtain ⟨p13, t⟩ := t
    refine i5 c_119_38 rfl (i3 c_119_39 rfl ?_)
    refine i81 (As := [.ref x1, .int (wI x2)]) (rest := []) c_119_40 mi_120 rfl rfl (Nat.le_of_ble_eq_true rfl) (Nat.le_of_ble_eq_true rfl) (q_120 (a := a6) (PE := PE7) (MI := MI8) (TK := TK9) (OD := OD10) hx1 p11 r3 p12 p13 (fun σ114 q15 q16 q17 => ?_))
    have t := t σ114 q15 q16 q17
    show wi (d + 8) 119 43 [.ref 53, .ref x1, .int (wI x2), .int (wI x3), .int (wI (rt_ (σ (x1 + 13) 2) (σ (x1 + 14)) 6 0 x3)), .retAddr 0, .retAddr 0, .retAddr 0, .retAddr 0] [] S σ114 τ Q
    exact t
set_option maxRecDepth 20000 in
theorem u_119_43 {d : Nat} {S : zS} {σ τ : zI} {Q : zQ} {x1 : Nat} {x2 : Int} {x3 : Int} {x4 : Int} {y5 : Value} {y6 : Value} {y7 : Value} {y8 : Value} (hx1 : tw x1) (t : ∃ a1 : Int → Int, ∃ PE2 : Int → Int → Int, ∃ MI3 : Int → Int → Int, ∃ TK4 : Int → Int, ∃ OD5 : Int → Int → Int, ∃ tk6 : Int → Int, (CS σ x1 a1 PE2 MI3 TK4 OD5) ∧ (Jv a1) ∧ (jv_T a1) ∧ (sP a1 PE2) ∧ (sM a1 MI3) ∧ (0 ≤ x2 ∧ x2 < a1 1) ∧ (x4 = wk_kd a1 tk6 x2 ∧ (0 ≤ x4 ∧ x4 ≤ 5)) ∧ (∀ p, 0 ≤ p → p < a1 4 → wk_wv a1 x2 p → PE2 p 7 = wk_r0 a1 tk6 x2 p) ∧ (∀ p, 0 ≤ p → p < a1 4 → σ 60 p = wk_h a1 p) ∧ ∀ (v16 : Int), v16 = wk_can a1 tk6 x2 → 0 ≤ v16 ∧ v16 ≤ 35640 → (rg v16) ∧ if (0 : Int) < v16 then ((rg x3) ∧ (rg ((rt_ (σ (x1 + 13) 2) (σ (x1 + 14)) 6 1 x3) - (rt_ (σ (x1 + 13) 2) (σ (x1 + 14)) 6 5 x3))) ∧ (rg (2 * (min v16 ((rt_ (σ (x1 + 13) 2) (σ (x1 + 14)) 6 1 x3) - (rt_ (σ (x1 + 13) 2) (σ (x1 + 14)) 6 5 x3))))) ∧ if (2 * (min v16 ((rt_ (σ (x1 + 13) 2) (σ (x1 + 14)) 6 1 x3) - (rt_ (σ (x1 + 13) 2) (σ (x1 + 14)) 6 5 x3)))) < v16 then (wi (d + 8) 119 113 [.ref 53, .ref x1, .int (wI x2), .int (wI x3), .int (wI x4), .int (wI v16), .int (wI ((rt_ (σ (x1 + 13) 2) (σ (x1 + 14)) 6 1 x3) - (rt_ (σ (x1 + 13) 2) (σ (x1 + 14)) 6 5 x3))), .int (wI (min v16 ((rt_ (σ (x1 + 13) 2) (σ (x1 + 14)) 6 1 x3) - (rt_ (σ (x1 + 13) 2) (σ (x1 + 14)) 6 5 x3)))), y8] [] S σ τ Q) else (if (σ x1 12) < (σ 53 5) then (wi (d + 8) 119 113 [.ref 53, .ref x1, .int (wI x2), .int (wI x3), .int (wI x4), .int (wI v16), .int (wI ((rt_ (σ (x1 + 13) 2) (σ (x1 + 14)) 6 1 x3) - (rt_ (σ (x1 + 13) 2) (σ (x1 + 14)) 6 5 x3))), .int (wI (min v16 ((rt_ (σ (x1 + 13) 2) (σ (x1 + 14)) 6 1 x3) - (rt_ (σ (x1 + 13) 2) (σ (x1 + 14)) 6 5 x3)))), y8] [] S σ τ Q) else (wi (d + 8) 119 114 [.ref 53, .ref x1, .int (wI x2), .int (wI x3), .int (wI x4), .int (wI v16), .int (wI ((rt_ (σ (x1 + 13) 2) (σ (x1 + 14)) 6 1 x3) - (rt_ (σ (x1 + 13) 2) (σ (x1 + 14)) 6 5 x3))), .int (wI (min v16 ((rt_ (σ (x1 + 13) 2) (σ (x1 + 14)) 6 1 x3) - (rt_ (σ (x1 + 13) 2) (σ (x1 + 14)) 6 5 x3)))), y8] [.int (wI 1)] S σ τ Q))) else (Q none S σ τ)) : wi (d + 8) 119 43 [.ref 53, .ref x1, .int (wI x2), .int (wI x3), .int (wI x4), y5, y6, y7, y8] [] S σ τ Q := by
  obtain ⟨a1, t⟩ := t
  obtain ⟨PE2, t⟩ := t
  obtain ⟨MI3, t⟩ := t
  obtain ⟨TK4, t⟩ := t
  obtain ⟨OD5, t⟩ := t
  obtain ⟨tk6, t⟩ := t
  obtain ⟨p7, t⟩ := t
  obtain ⟨p8, t⟩ := t
  obtain ⟨p9, t⟩ := t
  obtain ⟨p10, t⟩ := t
  obtain ⟨p11, t⟩ := t
  obtain ⟨p12, t⟩ := t
  obtain ⟨p13, t⟩ := t
  obtain ⟨p14, t⟩ := t
  obtain ⟨p15, t⟩ := t
  refine i5 c_119_43 rfl (i5 c_119_44 rfl (i3 c_119_45 rfl (i3 c_119_46 rfl ?_)))
  refine i80 (As := [.ref x1, .int (wI x2), .int (wI x4)]) (rest := []) c_119_48 mi_121 rfl rfl (Nat.le_of_ble_eq_true rfl) (Nat.le_of_ble_eq_true rfl) (lo (c := 53) (kd := 109) (n := 0) rfl (by decide)) (q_121 (a := a1) (PE := PE2) (MI := MI3) (TK := TK4) (OD := OD5) (tk := tk6) hx1 p7 p8 p9 p10 p11 p12 p13 p14 p15 (fun v16 q17 q18 => ?_))
  have t := t v16 q17 q18
  show wi (d + 8) 119 51 [.ref 53, .ref x1, .int (wI x2), .int (wI x3), .int (wI x4), y5, y6, y7, y8] [.int (wI v16)] S σ τ Q
  obtain ⟨r19, t⟩ := t
  refine i6 (L' := [.ref 53, .ref x1, .int (wI x2), .int (wI x3), .int (wI x4), .int (wI v16), y6, y7, y8]) c_119_51 rfl (i3 c_119_53 rfl ?_)
  refine i36 c_119_55 r19 rfl (fun hc => ?_) (fun hc => ?_)
  · have t := iT t hc
    have ha20 : (0 : Int) < v16 := hc
    obtain ⟨r21, t⟩ := t
    refine i5 c_119_59 rfl (i45 c_119_60 (lo (lyt_0 hx1) (by have := tw_b hx1; omega)) (lro (lrt_6 hx1)) (i3 c_119_63 rfl (i1 c_119_64 (wi_ok (fun K22 => ?_)))))
    refine i80 (As := [.int (wI x3), .int (wI 1)]) (rest := []) c_119_65 mi_55 rfl rfl (Nat.le_of_ble_eq_true rfl) (Nat.le_of_ble_eq_true rfl) (lo (lyt_13 hx1) (by have := tw_b hx1; omega)) (q_at (ow_orders hx1) r21 (by decide) ?_)
    show wi (d + 8) 119 68 [.ref 53, .ref x1, .int (wI x2), .int (wI x3), .int (wI x4), .int (wI v16), y6, y7, y8] [.int (wI (rt_ (σ (x1 + 13) 2) (σ (x1 + 14)) 6 1 x3))] S σ τ Q
    refine i5 c_119_68 rfl (i45 c_119_69 (lo (lyt_0 hx1) (by have := tw_b hx1; omega)) (lro (lrt_6 hx1)) (i3 c_119_72 rfl (i1 c_119_73 ?_)))
    refine i80 (As := [.int (wI x3), .int (wI 5)]) (rest := [.int (wI (rt_ (σ (x1 + 13) 2) (σ (x1 + 14)) 6 1 x3))]) c_119_74 mi_55 rfl rfl (Nat.le_of_ble_eq_true rfl) (Nat.le_of_ble_eq_true rfl) (lo (lyt_13 hx1) (by have := tw_b hx1; omega)) (q_at (ow_orders hx1) r21 (by decide) ?_)
    show wi (d + 8) 119 77 [.ref 53, .ref x1, .int (wI x2), .int (wI x3), .int (wI x4), .int (wI v16), y6, y7, y8] [.int (wI (rt_ (σ (x1 + 13) 2) (σ (x1 + 14)) 6 5 x3)), .int (wI (rt_ (σ (x1 + 13) 2) (σ (x1 + 14)) 6 1 x3))] S σ τ Q
    obtain ⟨r23, t⟩ := t
    obtain ⟨r24, t⟩ := t
    refine i11 c_119_77 (i6 (L' := [.ref 53, .ref x1, .int (wI x2), .int (wI x3), .int (wI x4), .int (wI v16), .int (wI ((rt_ (σ (x1 + 13) 2) (σ (x1 + 14)) 6 1 x3) - (rt_ (σ (x1 + 13) 2) (σ (x1 + 14)) 6 5 x3))), y7, y8]) c_119_78 rfl (i3 c_119_80 rfl (i3 c_119_82 rfl (i74 c_119_84 (Nat.le_of_ble_eq_true rfl) (by omega) r19 r23 (i6 (L' := [.ref 53, .ref x1, .int (wI x2), .int (wI x3), .int (wI x4), .int (wI v16), .int (wI ((rt_ (σ (x1 + 13) 2) (σ (x1 + 14)) 6 1 x3) - (rt_ (σ (x1 + 13) 2) (σ (x1 + 14)) 6 5 x3))), .int (wI (min v16 ((rt_ (σ (x1 + 13) 2) (σ (x1 + 14)) 6 1 x3) - (rt_ (σ (x1 + 13) 2) (σ (x1 + 14)) 6 5 x3)))), y8]) c_119_87 rfl (i1 c_119_89 (i3 c_119_90 rfl (i12 c_119_92 (i3 c_119_93 rfl ?_)))))))))
    refine i37 c_119_95 r24 r19 rfl (fun hc => ?_) (fun hc => ?_)
    · have t := iT t hc
      have ha25 : (2 * (min v16 ((rt_ (σ (x1 + 13) 2) (σ (x1 + 14)) 6 1 x3) - (rt_ (σ (x1 + 13) 2) (σ (x1 + 14)) 6 5 x3)))) < v16 := hc
      exact t
    · have t := iF t hc
      have ha25 : ¬ ((2 * (min v16 ((rt_ (σ (x1 + 13) 2) (σ (x1 + 14)) 6 1 x3) - (rt_ (σ (x1 + 13) 2) (σ (x1 + 14)) 6 5 x3)))) < v16) := hc
      refine i5 c_119_98 rfl (i43 (v := σ 53 5) c_119_99 (lo (c := 53) (kd := 109) (n := 0) rfl (by decide)) rfl (i5 c_119_102 rfl (i43 (v := σ x1 12) c_119_103 (lo (lyt_0 hx1) (by have := tw_b hx1; omega)) rfl ?_)))
      refine i37 c_119_106 (rge_ K22 rfl) (rge_ K22 rfl) rfl (fun hc => ?_) (fun hc => ?_)
      · have t := iT t hc
        have ha26 : (σ x1 12) < (σ 53 5) := hc
        exact t
      · have t := iF t hc
        have ha26 : ¬ ((σ x1 12) < (σ 53 5)) := hc
        refine i1 c_119_109 (i38 c_119_110 rfl t)
  · have t := iF t hc
    have ha20 : ¬ ((0 : Int) < v16) := hc
    exact i94 c_119_58 t
set_option maxRecDepth 20000 in
theorem u_119_113 {d : Nat} {S : zS} {σ τ : zI} {Q : zQ} {x1 : Nat} {x2 : Int} {x3 : Int} {x4 : Int} {x5 : Int} {x6 : Int} {x7 : Int} {y8 : Value} (hx1 : tw x1) (t : wi (d + 8) 119 114 [.ref 53, .ref x1, .int (wI x2), .int (wI x3), .int (wI x4), .int (wI x5), .int (wI x6), .int (wI x7), y8] [.int (wI 0)] S σ τ Q) : wi (d + 8) 119 113 [.ref 53, .ref x1, .int (wI x2), .int (wI x3), .int (wI x4), .int (wI x5), .int (wI x6), .int (wI x7), y8] [] S σ τ Q := by
  refine i1 c_119_113 t
set_option maxRecDepth 20000 in
theorem u_119_114 {d : Nat} {S : zS} {σ τ : zI} {Q : zQ} {x1 : Nat} {x2 : Int} {x3 : Int} {x4 : Int} {x5 : Int} {x6 : Int} {x7 : Int} {y8 : Value} {s0 : Int} (hx1 : tw x1) (t : (rg x3) ∧ (0 ≤ x3 ∧ x3 < (σ (x1 + 13) 2)) ∧ ∃ w4 : Int, wI w4 = wI ((σ (x1 + 14) (x3 * 6 + 5)) + x7) ∧ rg w4 ∧ (rg x2) ∧ (0 ≤ x2 ∧ x2 < (σ (x1 + 5) 2)) ∧ ∃ w9 : Int, wI w9 = wI x7 ∧ rg w9 ∧ (rg s0) ∧ if s0 = 0 then (wi (d + 8) 119 167 [.ref 53, .ref x1, .int (wI x2), .int (wI x3), .int (wI x4), .int (wI x5), .int (wI x6), .int (wI x7), .int (wI s0)] [.int (wI 1), .int (wI 7), .int (wI x2), .ref (x1 + 5)] S (uc (uc σ (x1 + 14) (u1 (σ (x1 + 14)) (x3 * 6 + 5) w4)) (x1 + 6) (u1 (u1 (σ (x1 + 6)) (x2 * 13 + 12) w9) (x2 * 13 + 8) x3)) τ Q) else (wi (d + 8) 119 167 [.ref 53, .ref x1, .int (wI x2), .int (wI x3), .int (wI x4), .int (wI x5), .int (wI x6), .int (wI x7), .int (wI s0)] [.int (wI 2), .int (wI 7), .int (wI x2), .ref (x1 + 5)] S (uc (uc σ (x1 + 14) (u1 (σ (x1 + 14)) (x3 * 6 + 5) w4)) (x1 + 6) (u1 (u1 (σ (x1 + 6)) (x2 * 13 + 12) w9) (x2 * 13 + 8) x3)) τ Q)) : wi (d + 8) 119 114 [.ref 53, .ref x1, .int (wI x2), .int (wI x3), .int (wI x4), .int (wI x5), .int (wI x6), .int (wI x7), y8] [.int (wI s0)] S σ τ Q := by
  obtain ⟨r1, t⟩ := t
  obtain ⟨b2, t⟩ := t
  refine i6 (L' := [.ref 53, .ref x1, .int (wI x2), .int (wI x3), .int (wI x4), .int (wI x5), .int (wI x6), .int (wI x7), .int (wI s0)]) c_119_114 rfl (i5 c_119_116 rfl (i45 c_119_117 (lo (lyt_0 hx1) (by have := tw_b hx1; omega)) (lro (lrt_6 hx1)) (i3 c_119_120 rfl (i1 c_119_121 (i3 c_119_122 rfl (wi_ok (fun K3 => ?_)))))))
  obtain ⟨w4, e5, r6, t⟩ := t
  refine i80 (As := [.int (wI x3), .int (wI 5), .int (wI x7)]) (rest := []) c_119_124 mi_57 rfl rfl (Nat.le_of_ble_eq_true rfl) (Nat.le_of_ble_eq_true rfl) (lo (lyt_13 hx1) (by have := tw_b hx1; omega)) (q_raise (v2 := w4) (ow_orders hx1) r1 b2 (by decide) e5 r6 ?_)
  show wi (d + 8) 119 127 [.ref 53, .ref x1, .int (wI x2), .int (wI x3), .int (wI x4), .int (wI x5), .int (wI x6), .int (wI x7), .int (wI s0)] [] S (uc σ (x1 + 14) (u1 (σ (x1 + 14)) (x3 * 6 + 5) w4)) τ Q
  obtain ⟨r7, t⟩ := t
  obtain ⟨b8, t⟩ := t
  obtain ⟨w9, e10, r11, t⟩ := t
  refine i5 c_119_127 rfl (i45 c_119_128 (lo (lyt_0 hx1) (by have := tw_b hx1; omega)) (lro (lrt_2 hx1)) (i3 c_119_131 rfl (i1 c_119_132 (i3 c_119_134 rfl ?_))))
  refine i80 (As := [.int (wI x2), .int (wI 12), .int (wI x7)]) (rest := []) c_119_136 mi_56 rfl rfl (Nat.le_of_ble_eq_true rfl) (Nat.le_of_ble_eq_true rfl) (lo (lyt_5 hx1) (by have := tw_b hx1; omega)) (q_put (v2 := w9) (ow_mills hx1) r7 (show 0 ≤ x2 ∧ x2 < (uc σ (x1 + 14) (u1 (σ (x1 + 14)) (x3 * 6 + 5) w4)) (x1 + 5) 2 by rw [(congrFun (uc_ns rfl (by have := tw_b hx1; have := tw_b hx1; omega)) _)]; exact b8) (by decide) e10 r11 ?_)
  show wi (d + 8) 119 139 [.ref 53, .ref x1, .int (wI x2), .int (wI x3), .int (wI x4), .int (wI x5), .int (wI x6), .int (wI x7), .int (wI s0)] [] S (uc (uc σ (x1 + 14) (u1 (σ (x1 + 14)) (x3 * 6 + 5) w4)) (x1 + 6) (u1 ((uc σ (x1 + 14) (u1 (σ (x1 + 14)) (x3 * 6 + 5) w4)) (x1 + 6)) (x2 * 13 + 12) w9)) τ Q
  refine wi_s (σ1 := uc (uc σ (x1 + 14) (u1 (σ (x1 + 14)) (x3 * 6 + 5) w4)) (x1 + 6) (u1 (σ (x1 + 6)) (x2 * 13 + 12) w9)) (wr_ (uc_ns rfl (by have := tw_b hx1; have := tw_b hx1; omega)) rfl) (i5 c_119_139 rfl (i45 c_119_140 (lo (lyt_0 hx1) (by have := tw_b hx1; omega)) (lro (lrt_2 hx1)) (i3 c_119_143 rfl (i1 c_119_144 (i3 c_119_146 rfl ?_)))))
  refine i80 (As := [.int (wI x2), .int (wI 8), .int (wI x3)]) (rest := []) c_119_147 mi_56 rfl rfl (Nat.le_of_ble_eq_true rfl) (Nat.le_of_ble_eq_true rfl) (lo (lyt_5 hx1) (by have := tw_b hx1; omega)) (q_put (v2 := x3) (ow_mills hx1) r7 (show 0 ≤ x2 ∧ x2 < (uc (uc σ (x1 + 14) (u1 (σ (x1 + 14)) (x3 * 6 + 5) w4)) (x1 + 6) (u1 (σ (x1 + 6)) (x2 * 13 + 12) w9)) (x1 + 5) 2 by rw [(congrFun (uc_ns (uc_ns rfl (by have := tw_b hx1; have := tw_b hx1; omega)) (by have := tw_b hx1; have := tw_b hx1; omega)) _)]; exact b8) (by decide) rfl r1 ?_)
  show wi (d + 8) 119 150 [.ref 53, .ref x1, .int (wI x2), .int (wI x3), .int (wI x4), .int (wI x5), .int (wI x6), .int (wI x7), .int (wI s0)] [] S (uc (uc (uc σ (x1 + 14) (u1 (σ (x1 + 14)) (x3 * 6 + 5) w4)) (x1 + 6) (u1 (σ (x1 + 6)) (x2 * 13 + 12) w9)) (x1 + 6) (u1 ((uc (uc σ (x1 + 14) (u1 (σ (x1 + 14)) (x3 * 6 + 5) w4)) (x1 + 6) (u1 (σ (x1 + 6)) (x2 * 13 + 12) w9)) (x1 + 6)) (x2 * 13 + 8) x3)) τ Q
  obtain ⟨r12, t⟩ := t
  refine wi_s (σ1 := uc (uc σ (x1 + 14) (u1 (σ (x1 + 14)) (x3 * 6 + 5) w4)) (x1 + 6) (u1 (u1 (σ (x1 + 6)) (x2 * 13 + 12) w9) (x2 * 13 + 8) x3)) (wr_ (uc_s _ _ _) (uc_uc _ _ _ _)) (i5 c_119_150 rfl (i45 c_119_151 (lo (lyt_0 hx1) (by have := tw_b hx1; omega)) (lro (lrt_2 hx1)) (i3 c_119_154 rfl (i1 c_119_155 (i3 c_119_157 rfl ?_)))))
  refine i36 c_119_159 r12 rfl (fun hc => ?_) (fun hc => ?_)
  · have t := iT t hc
    have ha13 : s0 = 0 := hc
    refine i1 c_119_166 t
  · have t := iF t hc
    have ha13 : ¬ (s0 = 0) := hc
    refine i1 c_119_162 (i38 c_119_163 rfl t)
set_option maxRecDepth 20000 in
theorem u_119_167 {d : Nat} {S : zS} {σ τ : zI} {Q : zQ} {x1 : Nat} {x2 : Int} {x3 : Int} {x4 : Int} {x5 : Int} {x6 : Int} {x7 : Int} {x8 : Int} {s1 : Int} {s2 : Int} {s3 : Int} (hx1 : tw x1) (t : (rg s1) ∧ (0 ≤ s2 ∧ s2 < 13 ∧ s2 < 1000) ∧ (0 ≤ s1 ∧ s1 < (σ (x1 + 5) 2)) ∧ ∃ w4 : Int, wI w4 = wI s3 ∧ rg w4 ∧ Q none S (uc σ (x1 + 6) (u1 (σ (x1 + 6)) (s1 * 13 + s2) w4)) τ) : wi (d + 8) 119 167 [.ref 53, .ref x1, .int (wI x2), .int (wI x3), .int (wI x4), .int (wI x5), .int (wI x6), .int (wI x7), .int (wI x8)] [.int (wI s3), .int (wI s2), .int (wI s1), .ref (x1 + 5)] S σ τ Q := by
  obtain ⟨r1, t⟩ := t
  obtain ⟨k2, t⟩ := t
  obtain ⟨b3, t⟩ := t
  obtain ⟨w4, e5, r6, t⟩ := t
  refine i80 (As := [.int (wI s1), .int (wI s2), .int (wI s3)]) (rest := []) c_119_167 mi_56 rfl rfl (Nat.le_of_ble_eq_true rfl) (Nat.le_of_ble_eq_true rfl) (lo (lyt_5 hx1) (by have := tw_b hx1; omega)) (q_put (v2 := w4) (ow_mills hx1) r1 b3 k2 e5 r6 ?_)
  show wi (d + 8) 119 170 [.ref 53, .ref x1, .int (wI x2), .int (wI x3), .int (wI x4), .int (wI x5), .int (wI x6), .int (wI x7), .int (wI x8)] [] S (uc σ (x1 + 6) (u1 (σ (x1 + 6)) (s1 * 13 + s2) w4)) τ Q
  exact i94 c_119_170 t
theorem q_119 {d : Nat} {S : zS} {σ τ : zI} {Q : zQ} {tn : Nat} {m : Int} {o : Int} {a : Int → Int} (htn : tw tn) (p0 : CT1 σ tn a m) (p1 : Jv a) (p2 : jv_T a) (p3 : a 0 ≤ 399) (p4 : 0 ≤ m ∧ m < a 1) (p5 : wk_O a m) (p6 : o = wk_bo a (wk_T a m) m) (p7 : σ 53 5 = wk_ct a) (p8 : (∀ p, 0 ≤ p → p < a 4 → σ 60 p = wk_h a p)) (t : ∀ (σ1 : zI), (∀ c, c ≠ tn + 6 → c ≠ tn + 12 → c ≠ tn + 14 → σ1 c = σ c) → CT1 σ1 tn a (m + 1) → Q none S σ1 τ) : wc (d + 8) 119 [.ref 53, .ref tn, .int (wI m), .int (wI o)] S σ τ Q := by
  have hC := jC p1
  unfold jv_C at hC
  have tb := tw_b htn
  have hM := jM p1 m p4.1 p4.2
  have ob := wk_ok_b p1 p2 p3 p4 p5
  rw [← p6] at ob
  have ekd : wk_kd a (wk_T a m) m = a (4372 + 8 * o) := by rw [p6]; rfl
  have elt : wk_lt a (wk_T a m) m = a (4372 + 8 * o + 1) - wk_T a m o := by rw [p6]; rfl
  have Tb := wk_T_b p1 p2 p3 m p4.1 (by omega) o (by omega) (by omega)
  have hOr := (jO p1).1 o (by omega) (by omega)
  unfold CT1 at p0
  have cm := (cs_M p0).1
  have co := (cs_O p0).1
  have cp := (cs_P p0).1
  -- CAN
  have can : ∀ σ' : zI, (∀ c, c ≠ tn + 6 → c ≠ tn + 12 → c ≠ tn + 14 → σ' c = σ c) → CS σ' tn a (PE1 a (m + 1)) (t2 (MI1 a m) m 7 (a (4372 + 8 * o))) (TKc a m) (OD1 a m) → ∀ y5 y6 y7 y8, wi (d + 8) 119 43 [.ref 53, .ref tn, .int (wI m), .int (wI o), .int (wI (a (4372 + 8 * o))), y5, y6, y7, y8] [] S σ' τ Q := fun σ' f cs y5 y6 y7 y8 => by
    have o1 : rt_ (a 7) (σ' (tn + 14)) 6 1 o = a (4372 + 8 * o + 1) := by
      have := vo cs (o := o) (k := 1) ob.1 (by omega)
      rw [(cs_O cs).1] at this
      rw [this, OD1_k (by omega)]
    have o5 : rt_ (a 7) (σ' (tn + 14)) 6 5 o = wk_T a m o := by
      have := vo cs (o := o) (k := 5) ob.1 (by omega)
      rw [(cs_O cs).1] at this
      rw [this, OD1_5 (by omega)]
    have c12 : σ' tn 12 = a 12 := (cs_R cs).1.2.2.2.2.1
    refine u_119_43 htn ?_
    refine ⟨a, PE1 a (m + 1), t2 (MI1 a m) m 7 (a (4372 + 8 * o)), TKc a m, OD1 a m, wk_T a m, cs, p1, p2, sP_1, sM_t sM_1 (by omega), p4, ⟨by rw [ekd], by omega⟩, fun p q0 q1 hw => PE1_7 p4.1 p5 q1 hw, ?_, fun v hv vb => ⟨by omega, ?_⟩⟩
    · rw [f 60 (by omega) (by omega) (by omega)]; exact p8
    rw [(cs_O cs).1, o1, o5, c12, f 53 (by omega) (by omega) (by omega), p7]
    refine ifI (fun e => ?_) (fun e => ?_)
    · have hD : wk_D a m := ⟨p5, by omega⟩
      have db := wk_D_b p1 p2 p3 p4 hD
      have etk : min v (a (4372 + 8 * o + 1) - wk_T a m o) = wk_tk a (wk_T a m) m := by
        unfold wk_tk
        rw [← hv, elt]
        split <;> omega
      rw [etk]
      have last : ∀ (s0 h : Int), (h = if wk_can a (wk_T a m) m ≤ 2 * wk_tk a (wk_T a m) m ∧ wk_ct a ≤ a 12 then 2 else 1) → (s0 = 0 ∧ h = 1 ∨ s0 = 1 ∧ h = 2) → ∀ x6 y8, wi (d + 8) 119 114 [.ref 53, .ref tn, .int (wI m), .int (wI o), .int (wI (a (4372 + 8 * o))), .int (wI v), .int (wI x6), .int (wI (wk_tk a (wk_T a m) m)), y8] [.int (wI s0)] S σ' τ Q := fun s0 h hh hs x6 y8 => by
        refine u_119_114 htn ?_
        have w5 : σ' (tn + 14) (o * 6 + 5) = wk_T a m o := by
          have := (cs_O cs).2 o 5 (by omega) (by omega) (by omega) (by omega)
          rw [this, OD1_5 (by omega)]
        rw [(cs_O cs).1, (cs_M cs).1, w5]
        have fin : ∀ x8, wi (d + 8) 119 167 [.ref 53, .ref tn, .int (wI m), .int (wI o), .int (wI (a (4372 + 8 * o))), .int (wI v), .int (wI x6), .int (wI (wk_tk a (wk_T a m) m)), .int (wI x8)] [.int (wI h), .int (wI 7), .int (wI m), .ref (tn + 5)] S (uc (uc σ' (tn + 14) (u1 (σ' (tn + 14)) (o * 6 + 5) (wk_T a m o + wk_tk a (wk_T a m) m))) (tn + 6) (u1 (u1 (σ' (tn + 6)) (m * 13 + 12) (wk_tk a (wk_T a m) m)) (m * 13 + 8) o)) τ Q := fun x8 => by
          refine u_119_167 htn ?_
          rw [uc_n (by omega), uc_n (by omega), (cs_M cs).1]
          refine ⟨by omega, by omega, by omega, h, rfl, by omega, ?_⟩
          rw [uc_s, uc_uc]
          refine t _ (fun c h1 h2 h3 => by rw [uc_n h1, uc_n h3]; exact f c h1 h2 h3) ?_
          refine CS_of cs (fun c hc => by rw [uc_n (by omega), uc_n (by omega)]) ?_ ?_ ?_
          · rw [uc_n (by omega), uc_n (by omega)]; exact (cs_P cs).2
          · rw [uc_s]
            refine FM_c (fun x c _ _ _ _ => ?_) (fun x _ _ => TKc_D hD x) (FM_u (m := m) (v := h) (show mcR 7 8 by omega) (FM_u (m := m) (v := o) (show mcR 8 9 by omega) (FM_t (m := m) (v := wk_tk a (wk_T a m) m) (cs_M cs).2)))
            have := MI1_D hD hh x c
            rw [← p6, ekd] at this
            rw [← this]
            by_cases c11 : x = m ∧ c = 11
            · omega
            · unfold t2
              repeat' split
              all_goals first | rfl | (exfalso; omega)
          · rw [uc_n (by omega), uc_s]
            refine FO_c (fun x c _ _ _ _ => ?_) (FO_u (o := o) (c := 5) (v := wk_T a m o + wk_tk a (wk_T a m) m) (by omega) (cs_O cs).2)
            have := OD1_D p4.1 hD (by omega) x c
            rw [← p6] at this
            exact this
        refine ⟨by omega, by omega, wk_T a m o + wk_tk a (wk_T a m) m, rfl, by omega, by omega, by omega, wk_tk a (wk_T a m) m, rfl, by omega, by omega, ifI (fun e1 => ?_) (fun e1 => ?_)⟩
        · have e2 : h = 1 := by omega
          subst e2; exact fin _
        · have e2 : h = 2 := by omega
          subst e2; exact fin _
      refine ⟨by omega, by omega, by omega, ifI (fun e1 => u_119_113 htn (last 0 1 ?_ (by omega) _ _)) (fun e1 => ifI (fun e2 => u_119_113 htn (last 0 1 ?_ (by omega) _ _)) (fun e2 => last 1 2 ?_ (by omega) _ _))⟩
      · rw [if_neg (by omega)]
      · rw [if_neg (by omega)]
      · rw [if_pos (by omega)]
    · have hD : ¬ wk_D a m := fun q => q.2 (by omega)
      refine t σ' f ?_
      refine CS_c (fun _ _ _ _ _ _ => rfl) (fun x c _ _ _ _ => ?_) (fun x _ _ => (TKc_no hD x).symm) (fun x c _ _ _ _ => (OD1_no p4.1 hD x c).symm) cs
      rw [← ekd]
      exact MI1_ls p4.2 p5 hD x c
  refine wc_of mi_119 rfl (u_119_0 htn ?_)
  have k0 : rt_ (σ (tn + 13) 2) (σ (tn + 14)) 6 0 o = a (4372 + 8 * o) := by rw [vo p0 ob.1 (k := 0) (by omega), OD1_k (by omega), Int.add_zero]
  have l7 : MI1 a m m 7 = a (3300 + 16 * m + 7) := by rw [MI1_0]; unfold MI0; rw [if_neg (by omega)]
  rw [k0, vm p0 p4 (show mcR 6 7 by omega), l7, cm]
  refine ⟨by omega, by omega, ifI (fun e => ?_) (fun e => ⟨by omega, ?_⟩)⟩
  · refine can σ (fun _ _ _ _ => rfl) ?_ _ _ _ _
    exact CS_c (fun x c _ _ _ _ => (PE1_no (Or.inr (by rw [ekd]; exact e.symm)) x c).symm) (fun x c _ _ _ _ => (t2_id (by rw [l7]; exact e) x c).symm) (fun _ _ _ => rfl) (fun _ _ _ _ _ _ => rfl) p0
  · have cs1 : CS (uc σ (tn + 6) (u1 (σ (tn + 6)) (m * 13 + 6) (a (4372 + 8 * o)))) tn a (PE1 a m) (t2 (MI1 a m) m 7 (a (4372 + 8 * o))) (TKc a m) (OD1 a m) := by
      refine CS_of p0 (fun c hc => uc_n (by omega)) ?_ ?_ ?_
      · rw [uc_n (by omega)]; exact (cs_P p0).2
      · rw [uc_s]; exact FM_u (show mcR 6 7 by omega) (cs_M p0).2
      · rw [uc_n (by omega)]; exact (cs_O p0).2
    refine ⟨a, PE1 a m, t2 (MI1 a m) m 7 (a (4372 + 8 * o)), TKc a m, OD1 a m, cs1, by omega, fun p q0 q1 => sP_1 p 4 (by omega) (by omega) (by omega) (by omega) (by omega) (by omega), fun σ2 f2 cp2 _ => ?_⟩
    refine can σ2 (fun c h1 h2 h3 => by rw [f2 c h2, uc_n h1]) ?_ _ _ _ _
    refine CS_of cs1 (fun c hc => f2 c (by omega)) (FP_c (fun p c q0 q1 _ _ => ?_) cp2.2) (by rw [f2 (tn + 6) (by omega)]; exact (cs_M cs1).2) (by rw [f2 (tn + 14) (by omega)]; exact (cs_O cs1).2)
    have hP := jP p1 p q0 q1
    rw [← PE1_r p4.1 p5 (by rw [ekd]; exact fun z => e z.symm)]
    unfold PEd PEr
    by_cases x : c = 7 ∧ a (3652 + 12 * p + 4) = m
    · rw [if_pos x]
      by_cases y : wk_wv a m p
      · rw [if_pos ⟨x.1, q1, y⟩]
      · rw [if_neg (fun z => y z.2.2)]
        obtain ⟨rfl, x2⟩ := x
        unfold PE1 PE0
        rw [if_neg (by omega), if_neg (by omega)]
        have := hP.2.2.2.2.2.2.2.2.2.2.2.2.2.1
        omega
    · rw [if_neg x, if_neg (fun z => x ⟨z.1, z.2.2.1⟩)]
-- method 116: MillTown$Week.takeOrders(LMillTown$Town;)V
theorem c_116_0 : pg_cd 116 0 = (1, 1, 0, 0, 0) := by decide +kernel
theorem c_116_1 : pg_cd 116 1 = (6, 1, 0, 2, 0) := by decide +kernel
theorem c_116_2 : pg_cd 116 2 = (3, 1, 0, 2, 0) := by decide +kernel
theorem c_116_3 : pg_cd 116 3 = (5, 1, 0, 1, 0) := by decide +kernel
theorem c_116_4 : pg_cd 116 4 = (45, 8, 115, 2, 0) := by decide +kernel
theorem c_116_7 : pg_cd 116 7 = (43, 4, 121, 2, 0) := by decide +kernel
theorem c_116_10 : pg_cd 116 10 = (37, 3, 0, 3, 40) := by decide +kernel
theorem c_116_13 : pg_cd 116 13 = (5, 1, 0, 1, 0) := by decide +kernel
theorem c_116_14 : pg_cd 116 14 = (3, 1, 0, 2, 0) := by decide +kernel
theorem c_116_15 : pg_cd 116 15 = (81, 111, 128, 0, 0) := by decide +kernel
theorem c_116_18 : pg_cd 116 18 = (36, 3, 0, 0, 12) := by decide +kernel
theorem c_116_21 : pg_cd 116 21 = (5, 1, 0, 0, 0) := by decide +kernel
theorem c_116_22 : pg_cd 116 22 = (5, 1, 0, 1, 0) := by decide +kernel
theorem c_116_23 : pg_cd 116 23 = (3, 1, 0, 2, 0) := by decide +kernel
theorem c_116_24 : pg_cd 116 24 = (80, 118, 150, 0, 0) := by decide +kernel
theorem c_116_27 : pg_cd 116 27 = (38, 3, 0, 0, 4) := by decide +kernel
theorem c_116_30 : pg_cd 116 30 = (1, 1, 0, 0, (-1)) := by decide +kernel
theorem c_116_31 : pg_cd 116 31 = (6, 1, 0, 3, 0) := by decide +kernel
theorem c_116_32 : pg_cd 116 32 = (3, 1, 0, 3, 0) := by decide +kernel
theorem c_116_33 : pg_cd 116 33 = (1, 1, 0, 0, (-1)) := by decide +kernel
theorem c_116_34 : pg_cd 116 34 = (37, 3, 0, 0, 10) := by decide +kernel
theorem c_116_37 : pg_cd 116 37 = (5, 1, 0, 0, 0) := by decide +kernel
theorem c_116_38 : pg_cd 116 38 = (5, 1, 0, 1, 0) := by decide +kernel
theorem c_116_39 : pg_cd 116 39 = (3, 1, 0, 2, 0) := by decide +kernel
theorem c_116_40 : pg_cd 116 40 = (3, 1, 0, 3, 0) := by decide +kernel
theorem c_116_41 : pg_cd 116 41 = (80, 119, 154, 0, 0) := by decide +kernel
theorem c_116_44 : pg_cd 116 44 = (9, 3, 0, 2, 1) := by decide +kernel
theorem c_116_47 : pg_cd 116 47 = (38, 3, 0, 0, (-45)) := by decide +kernel
theorem c_116_50 : pg_cd 116 50 = (94, 0, 0, 0, 0) := by decide +kernel
theorem mi_116 : pg_mc 116 = 9 ∧ pg_na 116 = 1 ∧ pg_mx 116 = 4 := by decide +kernel
set_option maxRecDepth 20000 in
theorem u_116_0 {d : Nat} {S : zS} {σ τ : zI} {Q : zQ} {x1 : Nat} (hx1 : tw x1) (t : wi (d + 9) 116 2 [.ref 53, .ref x1, .int (wI 0), .retAddr 0] [] S σ τ Q) : wi (d + 9) 116 0 [.ref 53, .ref x1, .retAddr 0, .retAddr 0] [] S σ τ Q := by
  refine i1 c_116_0 (i6 (L' := [.ref 53, .ref x1, .int (wI 0), .retAddr 0]) c_116_1 rfl t)
set_option maxRecDepth 20000 in
theorem u_116_2 {d : Nat} {S : zS} {σ τ : zI} {Q : zQ} {x1 : Nat} {x2 : Int} {y3 : Value} (hx1 : tw x1) (t : (rg x2) ∧ if (σ (x1 + 5) 2) ≤ x2 then (Q none S σ τ) else (∃ a4 : Int → Int, ∃ PE5 : Int → Int → Int, ∃ MI6 : Int → Int → Int, ∃ TK7 : Int → Int, ∃ OD8 : Int → Int → Int, (CS σ x1 a4 PE5 MI6 TK7 OD8) ∧ (0 ≤ x2 ∧ x2 < a4 1) ∧ if MI6 x2 5 = 0 ∧ MI6 x2 6 = 0 then (∃ a12 : Int → Int, ∃ PE13 : Int → Int → Int, ∃ MI14 : Int → Int → Int, ∃ TK15 : Int → Int, (CS σ x1 a12 PE13 MI14 TK15 (OD1 a12 x2)) ∧ (Jv a12) ∧ (jv_T a12) ∧ (a12 0 ≤ 399) ∧ (0 ≤ x2 ∧ x2 < a12 1) ∧ (wk_cr a12 x2) ∧ (MI14 x2 3 = a12 (3300 + 16 * x2 + 3)) ∧ (σ 53 5 = wk_ct a12) ∧ (PYk σ a12) ∧ (rg (if wk_ok a12 (wk_T a12 x2) x2 then wk_bo a12 (wk_T a12 x2) x2 else -1)) ∧ if (if wk_ok a12 (wk_T a12 x2) x2 then wk_bo a12 (wk_T a12 x2) x2 else -1) = (-1) then (wi (d + 9) 116 2 [.ref 53, .ref x1, .int (wI (x2 + 1)), .int (wI (if wk_ok a12 (wk_T a12 x2) x2 then wk_bo a12 (wk_T a12 x2) x2 else -1))] [] S σ τ Q) else (∃ a27 : Int → Int, (CT1 σ x1 a27 x2) ∧ (Jv a27) ∧ (jv_T a27) ∧ (a27 0 ≤ 399) ∧ (0 ≤ x2 ∧ x2 < a27 1) ∧ (wk_O a27 x2) ∧ ((if wk_ok a12 (wk_T a12 x2) x2 then wk_bo a12 (wk_T a12 x2) x2 else -1) = wk_bo a27 (wk_T a27 x2) x2) ∧ (σ 53 5 = wk_ct a27) ∧ (∀ p, 0 ≤ p → p < a27 4 → σ 60 p = wk_h a27 p) ∧ ∀ (σ137 : zI), (∀ c, c ≠ x1 + 6 → c ≠ x1 + 12 → c ≠ x1 + 14 → σ137 c = σ c) → CT1 σ137 x1 a27 (x2 + 1) → wi (d + 9) 116 2 [.ref 53, .ref x1, .int (wI (x2 + 1)), .int (wI (if wk_ok a12 (wk_T a12 x2) x2 then wk_bo a12 (wk_T a12 x2) x2 else -1))] [] S σ137 τ Q)) else (wi (d + 9) 116 2 [.ref 53, .ref x1, .int (wI (x2 + 1)), .int (wI (-1))] [] S σ τ Q))) : wi (d + 9) 116 2 [.ref 53, .ref x1, .int (wI x2), y3] [] S σ τ Q := by
  refine i3 c_116_2 rfl (i5 c_116_3 rfl (i45 c_116_4 (lo (lyt_0 hx1) (by have := tw_b hx1; omega)) (lro (lrt_2 hx1)) (wi_ok (fun K1 => ?_))))
  obtain ⟨r2, t⟩ := t
  refine i43 (v := σ (x1 + 5) 2) c_116_7 (lo (lyt_5 hx1) (by have := tw_b hx1; omega)) rfl ?_
  refine i37 c_116_10 r2 (rge_ K1 rfl) rfl (fun hc => ?_) (fun hc => ?_)
  · have t := iT t hc
    have ha3 : (σ (x1 + 5) 2) ≤ x2 := hc
    exact i94 c_116_50 t
  · have t := iF t hc
    have ha3 : ¬ ((σ (x1 + 5) 2) ≤ x2) := hc
    obtain ⟨a4, t⟩ := t
    obtain ⟨PE5, t⟩ := t
    obtain ⟨MI6, t⟩ := t
    obtain ⟨TK7, t⟩ := t
    obtain ⟨OD8, t⟩ := t
    obtain ⟨p9, t⟩ := t
    obtain ⟨p10, t⟩ := t
    refine i5 c_116_13 rfl (i3 c_116_14 rfl ?_)
    refine i81 (As := [.ref x1, .int (wI x2)]) (rest := []) c_116_15 mi_111 rfl rfl (Nat.le_of_ble_eq_true rfl) (Nat.le_of_ble_eq_true rfl) (q_111 (a := a4) (PE := PE5) (MI := MI6) (TK := TK7) (OD := OD8) hx1 p9 p10 ?_)
    show wi (d + 9) 116 18 [.ref 53, .ref x1, .int (wI x2), y3] [.int (wI (if MI6 x2 5 = 0 ∧ MI6 x2 6 = 0 then 1 else 0))] S σ τ Q
    refine i36e c_116_18 rfl (fun hc => ?_) (fun hc => ?_)
    · have t := iT t hc
      have ha11 : MI6 x2 5 = 0 ∧ MI6 x2 6 = 0 := hc
      obtain ⟨a12, t⟩ := t
      obtain ⟨PE13, t⟩ := t
      obtain ⟨MI14, t⟩ := t
      obtain ⟨TK15, t⟩ := t
      obtain ⟨p16, t⟩ := t
      obtain ⟨p17, t⟩ := t
      obtain ⟨p18, t⟩ := t
      obtain ⟨p19, t⟩ := t
      obtain ⟨p20, t⟩ := t
      obtain ⟨p21, t⟩ := t
      obtain ⟨p22, t⟩ := t
      obtain ⟨p23, t⟩ := t
      obtain ⟨p24, t⟩ := t
      refine i5 c_116_21 rfl (i5 c_116_22 rfl (i3 c_116_23 rfl ?_))
      refine i80 (As := [.ref x1, .int (wI x2)]) (rest := []) c_116_24 mi_118 rfl rfl (Nat.le_of_ble_eq_true rfl) (Nat.le_of_ble_eq_true rfl) (lo (c := 53) (kd := 109) (n := 0) rfl (by decide)) (q_118 (a := a12) (PE := PE13) (MI := MI14) (TK := TK15) hx1 p16 p17 p18 p19 p20 p21 p22 p23 p24 ?_)
      show wi (d + 9) 116 27 [.ref 53, .ref x1, .int (wI x2), y3] [.int (wI (if wk_ok a12 (wk_T a12 x2) x2 then wk_bo a12 (wk_T a12 x2) x2 else -1))] S σ τ Q
      obtain ⟨r25, t⟩ := t
      refine i38 c_116_27 rfl (i6 (L' := [.ref 53, .ref x1, .int (wI x2), .int (wI (if wk_ok a12 (wk_T a12 x2) x2 then wk_bo a12 (wk_T a12 x2) x2 else -1))]) c_116_31 rfl (i3 c_116_32 rfl (i1 c_116_33 ?_)))
      refine i37 c_116_34 r25 (by decide) rfl (fun hc => ?_) (fun hc => ?_)
      · have t := iT t hc
        have ha26 : (if wk_ok a12 (wk_T a12 x2) x2 then wk_bo a12 (wk_T a12 x2) x2 else -1) = (-1) := hc
        refine i9 (L' := [.ref 53, .ref x1, .int (wI (x2 + 1)), .int (wI (if wk_ok a12 (wk_T a12 x2) x2 then wk_bo a12 (wk_T a12 x2) x2 else -1))]) c_116_44 rfl rfl (i38 c_116_47 rfl t)
      · have t := iF t hc
        have ha26 : ¬ ((if wk_ok a12 (wk_T a12 x2) x2 then wk_bo a12 (wk_T a12 x2) x2 else -1) = (-1)) := hc
        obtain ⟨a27, t⟩ := t
        obtain ⟨p28, t⟩ := t
        obtain ⟨p29, t⟩ := t
        obtain ⟨p30, t⟩ := t
        obtain ⟨p31, t⟩ := t
        obtain ⟨p32, t⟩ := t
        obtain ⟨p33, t⟩ := t
        obtain ⟨p34, t⟩ := t
        obtain ⟨p35, t⟩ := t
        obtain ⟨p36, t⟩ := t
        refine i5 c_116_37 rfl (i5 c_116_38 rfl (i3 c_116_39 rfl (i3 c_116_40 rfl ?_)))
        refine i80 (As := [.ref x1, .int (wI x2), .int (wI (if wk_ok a12 (wk_T a12 x2) x2 then wk_bo a12 (wk_T a12 x2) x2 else -1))]) (rest := []) c_116_41 mi_119 rfl rfl (Nat.le_of_ble_eq_true rfl) (Nat.le_of_ble_eq_true rfl) (lo (c := 53) (kd := 109) (n := 0) rfl (by decide)) (q_119 (a := a27) hx1 p28 p29 p30 p31 p32 p33 p34 p35 p36 (fun σ137 q38 q39 => ?_))
        have t := t σ137 q38 q39
        show wi (d + 9) 116 44 [.ref 53, .ref x1, .int (wI x2), .int (wI (if wk_ok a12 (wk_T a12 x2) x2 then wk_bo a12 (wk_T a12 x2) x2 else -1))] [] S σ137 τ Q
        refine i9 (L' := [.ref 53, .ref x1, .int (wI (x2 + 1)), .int (wI (if wk_ok a12 (wk_T a12 x2) x2 then wk_bo a12 (wk_T a12 x2) x2 else -1))]) c_116_44 rfl rfl (i38 c_116_47 rfl t)
    · have t := iF t hc
      have ha11 : ¬ (MI6 x2 5 = 0 ∧ MI6 x2 6 = 0) := hc
      refine i1 c_116_30 (i6 (L' := [.ref 53, .ref x1, .int (wI x2), .int (wI (-1))]) c_116_31 rfl (i3 c_116_32 rfl (i1 c_116_33 (i37k (pc1 := 44) c_116_34 (by decide) (i9 (L' := [.ref 53, .ref x1, .int (wI (x2 + 1)), .int (wI (-1))]) c_116_44 rfl rfl (i38 c_116_47 rfl t))))))
theorem q_116 {d : Nat} {S : zS} {σ τ : zI} {Q : zQ} {tn : Nat} {a : Int → Int} (htn : tw tn) (p0 : CT1 σ tn a 0) (p1 : Jv a) (p2 : jv_T a) (p3 : a 0 ≤ 399) (p4 : σ 53 5 = wk_ct a) (p5 : PYk σ a) (p6 : (∀ p, 0 ≤ p → p < a 4 → σ 60 p = wk_h a p)) (t : ∀ (σ1 : zI), (∀ c, c ≠ tn + 6 → c ≠ tn + 12 → c ≠ tn + 14 → σ1 c = σ c) → CT1 σ1 tn a (a 1) → Q none S σ1 τ) : wc (d + 9) 116 [.ref 53, .ref tn] S σ τ Q := by
  have hC := jC p1
  unfold jv_C at hC
  have tb := tw_b htn
  refine wc_of mi_116 rfl (u_116_0 htn ?_)
  have key : ∀ m, 0 ≤ m → m ≤ a 1 → ∀ σ' : zI, (∀ c, c ≠ tn + 6 → c ≠ tn + 12 → c ≠ tn + 14 → σ' c = σ c) → CT1 σ' tn a m → ∀ y3, wi (d + 9) 116 2 [.ref 53, .ref tn, .int (wI m), y3] [] S σ' τ Q := by
    refine lp_up (fun m m0 m1 ih => ?_)
    intro σ' f cs y3
    refine u_116_2 htn ?_
    have cs' := cs
    unfold CT1 at cs'
    rw [(cs_M cs').1]
    refine ⟨by omega, ifI (fun e => ?_) (fun e => ?_)⟩
    · have e : m = a 1 := by omega
      subst e
      exact t σ' f cs
    · have ih := ih (by omega)
      have i5 : MI1 a m m 5 = a (3300 + 16 * m + 5) := by rw [MI1_0]; unfold MI0; rw [if_neg (by omega)]
      have i6 : MI1 a m m 6 = a (3300 + 16 * m + 6) := by rw [MI1_0]; unfold MI0; rw [if_neg (by omega)]
      have no : ¬ wk_O a m → ∀ y3, wi (d + 9) 116 2 [.ref 53, .ref tn, .int (wI (m + 1)), y3] [] S σ' τ Q := fun hO y3 => by
        refine ih σ' f ?_ _
        exact CS_c (fun x c _ _ _ _ => (PE1_no (Or.inl hO) x c).symm) (fun x c _ _ _ _ => (MI1_no (by omega) hO x c).symm) (fun x _ _ => (TKc_no (fun q => hO q.1) x).symm) (fun x c _ _ _ _ => (OD1_no m0 (fun q => hO q.1) x c).symm) cs'
      refine ⟨a, _, _, _, _, cs', ⟨m0, by omega⟩, ?_⟩
      rw [i5, i6]
      refine ifI (fun e1 => ?_) (fun e1 => no (fun q => e1 q.1) _)
      refine ⟨a, _, _, _, cs', p1, p2, p3, ⟨m0, by omega⟩, e1, sM_1 m 3 (by omega) (by omega) (by omega), by rw [f 53 (by omega) (by omega) (by omega)]; exact p4, ?_, ?_⟩
      · intro o x o0 o1 x0 x1 op cr
        rw [f 62 (by omega) (by omega) (by omega)]; exact p5 o x o0 o1 x0 x1 op cr
      by_cases hO : wk_O a m
      · have ob := wk_ok_b p1 p2 p3 ⟨m0, by omega⟩ hO
        rw [if_pos (show wk_ok a (wk_T a m) m from hO)]
        refine ⟨by omega, ifI (fun e2 => by omega) (fun e2 => ?_)⟩
        refine ⟨a, cs, p1, p2, p3, ⟨m0, by omega⟩, hO, rfl, by rw [f 53 (by omega) (by omega) (by omega)]; exact p4, by rw [f 60 (by omega) (by omega) (by omega)]; exact p6, fun σ2 f2 ct => ?_⟩
        exact ih σ2 (fun c h1 h2 h3 => by rw [f2 c h1 h2 h3]; exact f c h1 h2 h3) ct _
      · rw [if_neg (show ¬ wk_ok a (wk_T a m) m from hO)]
        exact ⟨by omega, ifI (fun _ => no hO _) (fun e2 => absurd rfl e2)⟩
  exact key 0 (by omega) (by omega) σ (fun _ _ _ _ => rfl) p0 _
