/-! ===== a WEEK of the class: it begins (segments printed by wip/whole, contracts own work) ===== -/
theorem fc_v13 {f : Int → Int} {k v n row c : Int} (hk : 0 ≤ k ∧ k < 13) (hn : 0 ≤ n) (hc : 0 ≤ c ∧ c < 13) (hr : 0 ≤ row) : fc_ f 13 k v n (row * 13 + c) = if c = k ∧ row < n then v else f (row * 13 + c) := by
  have key : ∀ m : Nat, fI (fun (row : Int) (g : Int → Int) => u1 g (row * ((13 : Nat) : Int) + k) v) (m : Int) f (row * 13 + c) = if c = k ∧ row < m then v else f (row * 13 + c) := by
    intro m
    induction m with
    | zero => rw [if_neg (by omega)]; rfl
    | succ m ih =>
      rw [show ((m + 1 : Nat) : Int) = (m : Int) + 1 by omega, fI_s (by omega)]
      by_cases e : c = k ∧ row = m
      · obtain ⟨rfl, rfl⟩ := e
        rw [if_pos (by omega)]
        exact u1_s _ _ _
      · rw [u1_n (by omega), ih]
        by_cases e2 : c = k ∧ row < (m : Int)
        · rw [if_pos e2, if_pos (by omega)]
        · rw [if_neg e2, if_neg (by omega)]
  have := key n.toNat
  rw [Int.toNat_of_nonneg hn] at this
  exact this
theorem fc_v6 {f : Int → Int} {k v n row c : Int} (hk : 0 ≤ k ∧ k < 6) (hn : 0 ≤ n) (hc : 0 ≤ c ∧ c < 6) (hr : 0 ≤ row) : fc_ f 6 k v n (row * 6 + c) = if c = k ∧ row < n then v else f (row * 6 + c) := by
  have key : ∀ m : Nat, fI (fun (row : Int) (g : Int → Int) => u1 g (row * ((6 : Nat) : Int) + k) v) (m : Int) f (row * 6 + c) = if c = k ∧ row < m then v else f (row * 6 + c) := by
    intro m
    induction m with
    | zero => rw [if_neg (by omega)]; rfl
    | succ m ih =>
      rw [show ((m + 1 : Nat) : Int) = (m : Int) + 1 by omega, fI_s (by omega)]
      by_cases e : c = k ∧ row = m
      · obtain ⟨rfl, rfl⟩ := e
        rw [if_pos (by omega)]
        exact u1_s _ _ _
      · rw [u1_n (by omega), ih]
        by_cases e2 : c = k ∧ row < (m : Int)
        · rw [if_pos e2, if_pos (by omega)]
        · rw [if_neg e2, if_neg (by omega)]
  have := key n.toNat
  rw [Int.toNat_of_nonneg hn] at this
  exact this
/-- which column of MILLS shows which -/
abbrev mcR (k c : Int) : Prop := (k = 0 ∧ c = 0) ∨ (k = 2 ∧ c = 2) ∨ (k = 3 ∧ c = 4) ∨ (k = 4 ∧ c = 5) ∨ (k = 5 ∧ c = 6) ∨ (k = 6 ∧ c = 7) ∨ (k = 7 ∧ c = 8) ∨ (k = 8 ∧ c = 9) ∨ (k = 9 ∧ c = 10) ∨ (k = 10 ∧ c = 1) ∨ (k = 11 ∧ c = 3)
def cT_P (σ : zI) (t : Nat) (a : Int → Int) (PE : Int → Int → Int) : Prop := σ (t + 11) 2 = a 4 ∧ ∀ p c, 0 ≤ p → p < a 4 → 0 ≤ c → c ≤ 7 → σ (t + 12) (p * 9 + c) = PE p c
def cT_M (σ : zI) (t : Nat) (a : Int → Int) (MI : Int → Int → Int) (TK : Int → Int) : Prop := σ (t + 5) 2 = a 1 ∧ ∀ m, 0 ≤ m → m < a 1 → (∀ k c, mcR k c → σ (t + 6) (m * 13 + k) = MI m c) ∧ σ (t + 6) (m * 13 + 12) = TK m
def cT_O (σ : zI) (t : Nat) (a : Int → Int) (OD : Int → Int → Int) : Prop := σ (t + 13) 2 = a 7 ∧ ∀ o c, 0 ≤ o → o < a 7 → 0 ≤ c → c ≤ 5 → σ (t + 14) (o * 6 + c) = OD o c
/-- what a WEEK does not change in a town before HOMES come -/
def cT_R (σ : zI) (t : Nat) (a : Int → Int) : Prop := rT_S σ t a ∧ rT_K σ t a ∧ rT_W σ t a ∧ rT_Q σ t a ∧ rT_H σ t a ∧ rT_F σ t a
/-- a town while a WEEK goes by -/
def CS (σ : zI) (t : Nat) (a : Int → Int) (PE MI : Int → Int → Int) (TK : Int → Int) (OD : Int → Int → Int) : Prop := cT_R σ t a ∧ cT_P σ t a PE ∧ cT_M σ t a MI TK ∧ cT_O σ t a OD
section CSL
variable {σ σ' : zI} {t : Nat} {a : Int → Int} {PE MI OD PE' MI' OD' : Int → Int → Int} {TK TK' : Int → Int}
theorem cs_R (h : CS σ t a PE MI TK OD) : cT_R σ t a := h.1
theorem cs_P (h : CS σ t a PE MI TK OD) : cT_P σ t a PE := h.2.1
theorem cs_M (h : CS σ t a PE MI TK OD) : cT_M σ t a MI TK := h.2.2.1
theorem cs_O (h : CS σ t a PE MI TK OD) : cT_O σ t a OD := h.2.2.2
theorem cR_f (f : ∀ c, (t ≤ c ∧ c ≤ t + 16) ∧ c ≠ t + 6 ∧ c ≠ t + 12 ∧ c ≠ t + 14 → σ' c = σ c) (q : cT_R σ t a) : cT_R σ' t a := by
  obtain ⟨q1, q2, q3, q4, q5, q6⟩ := q
  unfold cT_R rT_S rT_K rT_W rT_Q rT_H rT_F at *
  rw [f t (by omega), f (t + 1) (by omega), f (t + 2) (by omega), f (t + 3) (by omega), f (t + 4) (by omega), f (t + 7) (by omega), f (t + 8) (by omega), f (t + 9) (by omega), f (t + 10) (by omega), f (t + 15) (by omega), f (t + 16) (by omega)]
  exact ⟨q1, q2, q3, q4, q5, q6⟩
theorem cP_f (f1 : σ' (t + 11) = σ (t + 11)) (f2 : σ' (t + 12) = σ (t + 12)) (q : cT_P σ t a PE) : cT_P σ' t a PE := by
  unfold cT_P at *
  rw [f1, f2]; exact q
theorem cM_f (f1 : σ' (t + 5) = σ (t + 5)) (f2 : σ' (t + 6) = σ (t + 6)) (q : cT_M σ t a MI TK) : cT_M σ' t a MI TK := by
  unfold cT_M at *
  rw [f1, f2]; exact q
theorem cO_f (f1 : σ' (t + 13) = σ (t + 13)) (f2 : σ' (t + 14) = σ (t + 14)) (q : cT_O σ t a OD) : cT_O σ' t a OD := by
  unfold cT_O at *
  rw [f1, f2]; exact q
/-- the same cells of the town -/
theorem CS_f (f : ∀ c, t ≤ c ∧ c ≤ t + 16 → σ' c = σ c) (q : CS σ t a PE MI TK OD) : CS σ' t a PE MI TK OD :=
  ⟨cR_f (fun c hc => f c hc.1) q.1, cP_f (f _ (by omega)) (f _ (by omega)) q.2.1, cM_f (f _ (by omega)) (f _ (by omega)) q.2.2.1, cO_f (f _ (by omega)) (f _ (by omega)) q.2.2.2⟩
theorem CS_c (h1 : ∀ p c, 0 ≤ p → p < a 4 → 0 ≤ c → c ≤ 7 → PE p c = PE' p c) (h2 : ∀ m c, 0 ≤ m → m < a 1 → 0 ≤ c → c ≤ 10 → MI m c = MI' m c) (h4 : ∀ m, 0 ≤ m → m < a 1 → TK m = TK' m) (h3 : ∀ o c, 0 ≤ o → o < a 7 → 0 ≤ c → c ≤ 5 → OD o c = OD' o c) (q : CS σ t a PE MI TK OD) : CS σ t a PE' MI' TK' OD' :=
  ⟨q.1, ⟨q.2.1.1, fun p c p0 p1 c0 c1 => by rw [q.2.1.2 p c p0 p1 c0 c1]; exact h1 p c p0 p1 c0 c1⟩, ⟨q.2.2.1.1, fun m m0 m1 => ⟨fun k c hk => by rw [(q.2.2.1.2 m m0 m1).1 k c hk]; exact h2 m c m0 m1 (by omega) (by omega), by rw [(q.2.2.1.2 m m0 m1).2]; exact h4 m m0 m1⟩⟩, ⟨q.2.2.2.1, fun o c o0 o1 c0 c1 => by rw [q.2.2.2.2 o c o0 o1 c0 c1]; exact h3 o c o0 o1 c0 c1⟩⟩
theorem vp (h : CS σ t a PE MI TK OD) {p k : Int} (hp : 0 ≤ p ∧ p < a 4) (hk : 0 ≤ k ∧ k ≤ 7) : rt_ (σ (t + 11) 2) (σ (t + 12)) 9 k p = PE p k := by
  have q := h.2.1
  rw [rt_p ⟨hp.1, by rw [q.1]; exact hp.2⟩]
  exact q.2 p k hp.1 hp.2 hk.1 hk.2
theorem vm (h : CS σ t a PE MI TK OD) {m k c : Int} (hm : 0 ≤ m ∧ m < a 1) (hk : mcR k c) : rt_ (σ (t + 5) 2) (σ (t + 6)) 13 k m = MI m c := by
  have q := h.2.2.1
  rw [rt_p ⟨hm.1, by rw [q.1]; exact hm.2⟩]
  exact (q.2 m hm.1 hm.2).1 k c hk
theorem vtk (h : CS σ t a PE MI TK OD) {m : Int} (hm : 0 ≤ m ∧ m < a 1) : rt_ (σ (t + 5) 2) (σ (t + 6)) 13 12 m = TK m := by
  have q := h.2.2.1
  rw [rt_p ⟨hm.1, by rw [q.1]; exact hm.2⟩]
  exact (q.2 m hm.1 hm.2).2
theorem vo (h : CS σ t a PE MI TK OD) {o k : Int} (ho : 0 ≤ o ∧ o < a 7) (hk : 0 ≤ k ∧ k ≤ 5) : rt_ (σ (t + 13) 2) (σ (t + 14)) 6 k o = OD o k := by
  have q := h.2.2.2
  rw [rt_p ⟨ho.1, by rw [q.1]; exact ho.2⟩]
  exact q.2 o k ho.1 ho.2 hk.1 hk.2
theorem vk (h : CS σ t a PE MI TK OD) {r k : Int} (hr : 0 ≤ r ∧ r ≤ 5) (hk : 0 ≤ k ∧ k ≤ 4) : rt_ (σ (t + 1) 2) (σ (t + 2)) 6 k r = a (20 + 8 * r + (k + 1)) := by
  have q := h.1.2.1
  rw [rt_p ⟨hr.1, by rw [q.1]; omega⟩]
  have x := q.2 r hr.1 hr.2
  rcases (show k = 0 ∨ k = 1 ∨ k = 2 ∨ k = 3 ∨ k = 4 by omega) with rfl | rfl | rfl | rfl | rfl
  · exact x.1
  · exact x.2.1
  · exact x.2.2.1
  · exact x.2.2.2.1
  · exact x.2.2.2.2.1
/-- one place of a table set -/
theorem up_P {p c v : Int} (hp : 0 ≤ p ∧ p < a 4) (hc : 0 ≤ c ∧ c ≤ 7) (q : cT_P σ t a PE) : cT_P (uc σ (t + 12) (u1 (σ (t + 12)) (p * 9 + c) v)) t a (t2 PE p c v) := by
  refine ⟨by rw [uc_n (by omega)]; exact q.1, fun p' c' p0 p1 c0 c1 => ?_⟩
  rw [uc_s]
  by_cases e : p' = p ∧ c' = c
  · obtain ⟨rfl, rfl⟩ := e
    rw [u1_s, t2_s]
  · rw [u1_n (by omega), t2_n e]; exact q.2 p' c' p0 p1 c0 c1
theorem up_M {m k c v : Int} (hm : 0 ≤ m ∧ m < a 1) (hk : mcR k c) (q : cT_M σ t a MI TK) : cT_M (uc σ (t + 6) (u1 (σ (t + 6)) (m * 13 + k) v)) t a (t2 MI m c v) TK := by
  refine ⟨by rw [uc_n (by omega)]; exact q.1, fun m' m0 m1 => ⟨fun k' c' hk' => ?_, ?_⟩⟩
  · rw [uc_s]
    by_cases e : m' = m ∧ k' = k
    · obtain ⟨rfl, rfl⟩ := e
      rw [u1_s, show c' = c by omega, t2_s]
    · rw [u1_n (by omega), t2_n (by omega)]; exact (q.2 m' m0 m1).1 k' c' hk'
  · rw [uc_s, u1_n (by omega)]; exact (q.2 m' m0 m1).2
theorem up_T {m v : Int} (hm : 0 ≤ m ∧ m < a 1) (q : cT_M σ t a MI TK) : cT_M (uc σ (t + 6) (u1 (σ (t + 6)) (m * 13 + 12) v)) t a MI (u1 TK m v) := by
  refine ⟨by rw [uc_n (by omega)]; exact q.1, fun m' m0 m1 => ⟨fun k' c' hk' => ?_, ?_⟩⟩
  · rw [uc_s, u1_n (by omega)]; exact (q.2 m' m0 m1).1 k' c' hk'
  · rw [uc_s]
    by_cases e : m' = m
    · subst e; rw [u1_s, u1_s]
    · rw [u1_n (by omega), u1_n e]; exact (q.2 m' m0 m1).2
theorem up_O {o c v : Int} (ho : 0 ≤ o ∧ o < a 7) (hc : 0 ≤ c ∧ c ≤ 5) (q : cT_O σ t a OD) : cT_O (uc σ (t + 14) (u1 (σ (t + 14)) (o * 6 + c) v)) t a (t2 OD o c v) := by
  refine ⟨by rw [uc_n (by omega)]; exact q.1, fun p' c' p0 p1 c0 c1 => ?_⟩
  rw [uc_s]
  by_cases e : p' = o ∧ c' = c
  · obtain ⟨rfl, rfl⟩ := e
    rw [u1_s, t2_s]
  · rw [u1_n (by omega), t2_n e]; exact q.2 p' c' p0 p1 c0 c1
/-- the numbers that a town shows when its tables are so -/
theorem CS_RT (h8 : ∀ p, 0 ≤ p → p < a 4 → σ (t + 12) (p * 9 + 8) = a (3652 + 12 * p + 8)) (hb : (0 ≤ a 0 ∧ a 0 ≤ 400) ∧ (0 ≤ a 1 ∧ a 1 ≤ 8) ∧ a 2 ≤ 4 ∧ a 3 ≤ 24 ∧ (a 4 ≤ 60) ∧ (a 7 ≤ 80)) (q : CS σ t a (fun p c => a (3652 + 12 * p + c)) MI TK OD) : RT σ t (As a (fun p c => a (3652 + 12 * p + c)) MI OD) := by
  have k : ∀ k, k < 3300 ∨ 3428 ≤ k ∧ k < 3652 ∨ 5012 ≤ k → As a (fun p c => a (3652 + 12 * p + c)) MI OD k = a k := fun k hk => As_k hk
  have kp : ∀ k, 3652 ≤ k → k < 3652 + 12 * a 4 → As a (fun p c => a (3652 + 12 * p + c)) MI OD k = a k := fun k k0 k1 => by
    have := As_p (a := a) (PE := fun p c => a (3652 + 12 * p + c)) (MI := MI) (OD := OD) (m := (k - 3652) / 12) (c := (k - 3652) % 12) (by omega) (by omega)
    rw [show 3652 + 12 * ((k - 3652) / 12) + (k - 3652) % 12 = k by omega] at this
    exact this
  obtain ⟨⟨q1, q2, q3, q4, q5, q6⟩, qp, qm, qo⟩ := q
  refine ⟨gS rfl (fun x x0 x1 => k x (by omega)) q1, gK rfl rfl (fun x x0 x1 => k x (by omega)) q2, gW rfl rfl (fun x x0 x1 => k x (by omega)) (fun x x0 x1 => k x (by omega)) q3, ?_, gQ rfl rfl (k 2 (by omega)) (k 3 (by omega)) (fun x x0 x1 => k x (by omega)) (fun x x0 x1 => k x (by omega)) q4, gH rfl rfl (k 0 (by omega)) (k 3 (by omega)) (k 4 (by omega)) (fun x x0 x1 => k x (by omega)) kp (fun x x0 x1 => k x (by omega)) (by omega) q5, ?_, ?_, gF rfl rfl (k 6 (by omega)) (fun x x0 x1 => k x (by omega)) q6⟩
  · refine ⟨by rw [k 1 (by omega)]; exact qm.1, fun m m0 m1 => ?_⟩
    rw [k 1 (by omega)] at m1
    have x := (qm.2 m m0 m1).1
    simp (disch := omega) only [As_m]
    exact ⟨x 0 0 (by omega), x 2 2 (by omega), x 3 4 (by omega), x 4 5 (by omega), x 5 6 (by omega), x 6 7 (by omega), x 7 8 (by omega), x 8 9 (by omega), x 9 10 (by omega), x 10 1 (by omega), x 11 3 (by omega)⟩
  · refine ⟨by rw [k 4 (by omega)]; exact qp.1, fun p p0 p1 c c0 c1 => ?_⟩
    rw [k 4 (by omega)] at p1
    rw [As_p (by omega) (by omega)]
    by_cases e : c = 8
    · subst e; exact h8 p p0 p1
    · exact qp.2 p c p0 p1 c0 (by omega)
  · refine ⟨by rw [k 7 (by omega)]; exact qo.1, fun o o0 o1 => ?_⟩
    rw [k 7 (by omega)] at o1
    rw [As_o0 (by omega)]
    simp (disch := omega) only [As_o]
    exact ⟨qo.2 o 0 o0 o1 (by omega) (by omega), qo.2 o 1 o0 o1 (by omega) (by omega), qo.2 o 2 o0 o1 (by omega) (by omega), qo.2 o 3 o0 o1 (by omega) (by omega), qo.2 o 4 o0 o1 (by omega) (by omega)⟩
end CSL
-- method 108: MillTown$Week.clearTotals()V
theorem c_108_0 : pg_cd 108 0 = (5, 1, 0, 0, 0) := by decide +kernel
theorem c_108_1 : pg_cd 108 1 = (1, 1, 0, 0, 0) := by decide +kernel
theorem c_108_2 : pg_cd 108 2 = (46, 9, 35, 6, 0) := by decide +kernel
theorem c_108_5 : pg_cd 108 5 = (5, 1, 0, 0, 0) := by decide +kernel
theorem c_108_6 : pg_cd 108 6 = (1, 1, 0, 0, 0) := by decide +kernel
theorem c_108_7 : pg_cd 108 7 = (46, 9, 39, 7, 0) := by decide +kernel
theorem c_108_10 : pg_cd 108 10 = (5, 1, 0, 0, 0) := by decide +kernel
theorem c_108_11 : pg_cd 108 11 = (1, 1, 0, 0, 0) := by decide +kernel
theorem c_108_12 : pg_cd 108 12 = (46, 9, 42, 8, 0) := by decide +kernel
theorem c_108_15 : pg_cd 108 15 = (5, 1, 0, 0, 0) := by decide +kernel
theorem c_108_16 : pg_cd 108 16 = (1, 1, 0, 0, 0) := by decide +kernel
theorem c_108_17 : pg_cd 108 17 = (46, 9, 45, 9, 0) := by decide +kernel
theorem c_108_20 : pg_cd 108 20 = (94, 0, 0, 0, 0) := by decide +kernel
theorem mi_108 : pg_mc 108 = 9 ∧ pg_na 108 = 0 ∧ pg_mx 108 = 1 := by decide +kernel
set_option maxRecDepth 20000 in
theorem u_108_0 {d : Nat} {S : zS} {σ τ : zI} {Q : zQ} (t : Q none S (uc σ 53 (u1 (u1 (u1 (u1 (σ 53) 6 0) 7 0) 8 0) 9 0)) τ) : wi (d + 0) 108 0 [.ref 53] [] S σ τ Q := by
  refine i5 c_108_0 rfl (i1 c_108_1 (i46 (σ1 := uc σ 53 (u1 (σ 53) 6 0)) c_108_2 (lo (c := 53) (kd := 109) (n := 0) rfl (by decide)) (by decide) rfl (by decide) (wr_ rfl rfl) (i5 c_108_5 rfl (i1 c_108_6 (i46 (σ1 := uc σ 53 (u1 (u1 (σ 53) 6 0) 7 0)) c_108_7 (lo (c := 53) (kd := 109) (n := 0) rfl (by decide)) (by decide) rfl (by decide) (wr_ (uc_s _ _ _) (uc_uc _ _ _ _)) (i5 c_108_10 rfl (i1 c_108_11 (i46 (σ1 := uc σ 53 (u1 (u1 (u1 (σ 53) 6 0) 7 0) 8 0)) c_108_12 (lo (c := 53) (kd := 109) (n := 0) rfl (by decide)) (by decide) rfl (by decide) (wr_ (uc_s _ _ _) (uc_uc _ _ _ _)) (i5 c_108_15 rfl (i1 c_108_16 (i46 (σ1 := uc σ 53 (u1 (u1 (u1 (u1 (σ 53) 6 0) 7 0) 8 0) 9 0)) c_108_17 (lo (c := 53) (kd := 109) (n := 0) rfl (by decide)) (by decide) rfl (by decide) (wr_ (uc_s _ _ _) (uc_uc _ _ _ _)) ?_)))))))))))
  exact i94 c_108_20 t
theorem q_108 {d : Nat} {S : zS} {σ τ : zI} {Q : zQ} (t : Q none S (uc σ 53 (u1 (u1 (u1 (u1 (σ 53) 6 0) 7 0) 8 0) 9 0)) τ) : wc (d + 0) 108 [.ref 53] S σ τ Q := by
  exact wc_of mi_108 rfl (u_108_0 t)
/-- what begin of the class leaves -/
def BC (a : Int → Int) (t : Nat) (σ σ1 : zI) : Prop := CS σ1 t a (fun p c => a (3652 + 12 * p + c)) (MI0 a) (fun _ => 0) (OD1 a 0) ∧ (σ1 53 5 = wk_ct a ∧ ∀ k, k ≠ 5 → σ1 53 k = σ 53 k) ∧ (∀ p, 0 ≤ p → p < 60 → σ1 60 p = 0 ∧ σ1 61 p = 0) ∧ (∀ k, 0 ≤ k → k < 48 → σ1 62 k = -1) ∧ (∀ c, c ≠ 53 → c ≠ 60 → c ≠ 61 → c ≠ 62 → c ≠ t + 6 → c ≠ t + 14 → σ1 c = σ c)
-- method 110: MillTown$Week.begin(LMillTown$Town;)V
theorem c_110_0 : pg_cd 110 0 = (5, 1, 0, 0, 0) := by decide +kernel
theorem c_110_1 : pg_cd 110 1 = (5, 1, 0, 1, 0) := by decide +kernel
theorem c_110_2 : pg_cd 110 2 = (1, 1, 0, 0, 0) := by decide +kernel
theorem c_110_3 : pg_cd 110 3 = (5, 1, 0, 1, 0) := by decide +kernel
theorem c_110_4 : pg_cd 110 4 = (43, 8, 48, 8, 0) := by decide +kernel
theorem c_110_7 : pg_cd 110 7 = (80, 90, 92, 0, 0) := by decide +kernel
theorem c_110_10 : pg_cd 110 10 = (46, 9, 96, 5, 0) := by decide +kernel
theorem c_110_13 : pg_cd 110 13 = (5, 1, 0, 0, 0) := by decide +kernel
theorem c_110_14 : pg_cd 110 14 = (45, 9, 25, 2, 0) := by decide +kernel
theorem c_110_17 : pg_cd 110 17 = (1, 1, 0, 0, 0) := by decide +kernel
theorem c_110_18 : pg_cd 110 18 = (81, 329, 99, 0, 0) := by decide +kernel
theorem c_110_21 : pg_cd 110 21 = (5, 1, 0, 0, 0) := by decide +kernel
theorem c_110_22 : pg_cd 110 22 = (45, 9, 29, 3, 0) := by decide +kernel
theorem c_110_25 : pg_cd 110 25 = (1, 1, 0, 0, 0) := by decide +kernel
theorem c_110_26 : pg_cd 110 26 = (81, 329, 99, 0, 0) := by decide +kernel
theorem c_110_29 : pg_cd 110 29 = (5, 1, 0, 0, 0) := by decide +kernel
theorem c_110_30 : pg_cd 110 30 = (45, 9, 32, 4, 0) := by decide +kernel
theorem c_110_33 : pg_cd 110 33 = (1, 1, 0, 0, (-1)) := by decide +kernel
theorem c_110_34 : pg_cd 110 34 = (81, 329, 99, 0, 0) := by decide +kernel
theorem c_110_37 : pg_cd 110 37 = (5, 1, 0, 1, 0) := by decide +kernel
theorem c_110_38 : pg_cd 110 38 = (45, 8, 105, 6, 0) := by decide +kernel
theorem c_110_41 : pg_cd 110 41 = (1, 1, 0, 0, 5) := by decide +kernel
theorem c_110_42 : pg_cd 110 42 = (1, 1, 0, 0, 0) := by decide +kernel
theorem c_110_43 : pg_cd 110 43 = (80, 59, 109, 0, 0) := by decide +kernel
theorem c_110_46 : pg_cd 110 46 = (5, 1, 0, 1, 0) := by decide +kernel
theorem c_110_47 : pg_cd 110 47 = (45, 8, 115, 2, 0) := by decide +kernel
theorem c_110_50 : pg_cd 110 50 = (1, 2, 0, 0, 7) := by decide +kernel
theorem c_110_52 : pg_cd 110 52 = (1, 1, 0, 0, 0) := by decide +kernel
theorem c_110_53 : pg_cd 110 53 = (80, 59, 109, 0, 0) := by decide +kernel
theorem c_110_56 : pg_cd 110 56 = (5, 1, 0, 1, 0) := by decide +kernel
theorem c_110_57 : pg_cd 110 57 = (45, 8, 115, 2, 0) := by decide +kernel
theorem c_110_60 : pg_cd 110 60 = (1, 2, 0, 0, 8) := by decide +kernel
theorem c_110_62 : pg_cd 110 62 = (1, 1, 0, 0, (-1)) := by decide +kernel
theorem c_110_63 : pg_cd 110 63 = (80, 59, 109, 0, 0) := by decide +kernel
theorem c_110_66 : pg_cd 110 66 = (5, 1, 0, 1, 0) := by decide +kernel
theorem c_110_67 : pg_cd 110 67 = (45, 8, 115, 2, 0) := by decide +kernel
theorem c_110_70 : pg_cd 110 70 = (1, 2, 0, 0, 9) := by decide +kernel
theorem c_110_72 : pg_cd 110 72 = (1, 1, 0, 0, 0) := by decide +kernel
theorem c_110_73 : pg_cd 110 73 = (80, 59, 109, 0, 0) := by decide +kernel
theorem c_110_76 : pg_cd 110 76 = (5, 1, 0, 1, 0) := by decide +kernel
theorem c_110_77 : pg_cd 110 77 = (45, 8, 115, 2, 0) := by decide +kernel
theorem c_110_80 : pg_cd 110 80 = (1, 2, 0, 0, 12) := by decide +kernel
theorem c_110_82 : pg_cd 110 82 = (1, 1, 0, 0, 0) := by decide +kernel
theorem c_110_83 : pg_cd 110 83 = (80, 59, 109, 0, 0) := by decide +kernel
theorem c_110_86 : pg_cd 110 86 = (94, 0, 0, 0, 0) := by decide +kernel
theorem mi_110 : pg_mc 110 = 9 ∧ pg_na 110 = 1 ∧ pg_mx 110 = 2 := by decide +kernel
set_option maxRecDepth 20000 in
theorem u_110_0 {d : Nat} {S : zS} {σ τ : zI} {Q : zQ} {x1 : Nat} (hx1 : tw x1) (t : ∃ a2 : Int → Int, (RT σ x1 a2) ∧ (((0 : Int) ≤ 0 ∧ 0 ≤ (7 : Int)) ∧ (-1 : Int) ≤ (σ x1 8) ∧ (σ x1 8) ≤ (399 : Int)) ∧ ∃ w5 : Int, wI w5 = wI (r_pr a2 0 (σ x1 8)) ∧ rg w5 ∧ wi (d + 8) 110 37 [.ref 53, .ref x1] [] S (uc (uc (uc (uc σ 53 (u1 (σ 53) 5 w5)) 60 (fl_ ((σ 60)) 0 60 0)) 61 (fl_ ((σ 61)) 0 60 0)) 62 (fl_ ((σ 62)) 0 48 (-1))) τ Q) : wi (d + 8) 110 0 [.ref 53, .ref x1] [] S σ τ Q := by
  refine i5 c_110_0 rfl (i5 c_110_1 rfl (i1 c_110_2 (i5 c_110_3 rfl (wi_ok (fun K1 => ?_)))))
  obtain ⟨a2, t⟩ := t
  obtain ⟨p3, t⟩ := t
  obtain ⟨p4, t⟩ := t
  refine i43 (v := σ x1 8) c_110_4 (lo (lyt_0 hx1) (by have := tw_b hx1; omega)) rfl ?_
  refine i80 (As := [.int (wI 0), .int (wI (σ x1 8))]) (rest := [.ref 53]) c_110_7 mi_90 rfl rfl (Nat.le_of_ble_eq_true rfl) (Nat.le_of_ble_eq_true rfl) (lo (lyt_0 hx1) (by have := tw_b hx1; omega)) (q_90i (a := a2) hx1 p3 p4 ?_)
  show wi (d + 8) 110 10 [.ref 53, .ref x1] [.int (wI (r_pr a2 0 (σ x1 8))), .ref 53] S σ τ Q
  obtain ⟨w5, e6, r7, t⟩ := t
  refine i46 (σ1 := uc σ 53 (u1 (σ 53) 5 w5)) c_110_10 (lo (c := 53) (kd := 109) (n := 0) rfl (by decide)) (by decide) e6 r7 (wr_ rfl rfl) (i5 c_110_13 rfl (i45 c_110_14 (lo (c := 53) (kd := 109) (n := 0) rfl (by decide)) (lro (c := 53) (k := 2) (j := 60) (by decide)) (i1 c_110_17 ?_)))
  refine i81 (As := [.ref 60, .int (wI 0)]) (rest := []) c_110_18 mi_329 rfl rfl (Nat.le_of_ble_eq_true rfl) (Nat.le_of_ble_eq_true rfl) (q_329 ⟨fun _ _ => (lo (c := 60) (kd := 0) (n := 60) rfl (by decide)), (by decide)⟩ (by decide) (by decide) ?_)
  show wi (d + 8) 110 21 [.ref 53, .ref x1] [] S (uc (uc σ 53 (u1 (σ 53) 5 w5)) 60 (fl_ ((uc σ 53 (u1 (σ 53) 5 w5)) 60) 0 60 0)) τ Q
  refine wi_s (σ1 := uc (uc σ 53 (u1 (σ 53) 5 w5)) 60 (fl_ ((σ 60)) 0 60 0)) (by simp only [(show (uc σ 53 (u1 (σ 53) 5 w5)) 60 = σ 60 from (uc_ns rfl (by decide)))]) (i5 c_110_21 rfl (i45 c_110_22 (lo (c := 53) (kd := 109) (n := 0) rfl (by decide)) (lro (c := 53) (k := 3) (j := 61) (by decide)) (i1 c_110_25 ?_)))
  refine i81 (As := [.ref 61, .int (wI 0)]) (rest := []) c_110_26 mi_329 rfl rfl (Nat.le_of_ble_eq_true rfl) (Nat.le_of_ble_eq_true rfl) (q_329 ⟨fun _ _ => (lo (c := 61) (kd := 0) (n := 60) rfl (by decide)), (by decide)⟩ (by decide) (by decide) ?_)
  show wi (d + 8) 110 29 [.ref 53, .ref x1] [] S (uc (uc (uc σ 53 (u1 (σ 53) 5 w5)) 60 (fl_ ((σ 60)) 0 60 0)) 61 (fl_ ((uc (uc σ 53 (u1 (σ 53) 5 w5)) 60 (fl_ ((σ 60)) 0 60 0)) 61) 0 60 0)) τ Q
  refine wi_s (σ1 := uc (uc (uc σ 53 (u1 (σ 53) 5 w5)) 60 (fl_ ((σ 60)) 0 60 0)) 61 (fl_ ((σ 61)) 0 60 0)) (by simp only [(show (uc (uc σ 53 (u1 (σ 53) 5 w5)) 60 (fl_ ((σ 60)) 0 60 0)) 61 = σ 61 from (uc_ns (uc_ns rfl (by decide)) (by decide)))]) (i5 c_110_29 rfl (i45 c_110_30 (lo (c := 53) (kd := 109) (n := 0) rfl (by decide)) (lro (c := 53) (k := 4) (j := 62) (by decide)) (i1 c_110_33 ?_)))
  refine i81 (As := [.ref 62, .int (wI (-1))]) (rest := []) c_110_34 mi_329 rfl rfl (Nat.le_of_ble_eq_true rfl) (Nat.le_of_ble_eq_true rfl) (q_329 ⟨fun _ _ => (lo (c := 62) (kd := 0) (n := 48) rfl (by decide)), (by decide)⟩ (by decide) (by decide) ?_)
  show wi (d + 8) 110 37 [.ref 53, .ref x1] [] S (uc (uc (uc (uc σ 53 (u1 (σ 53) 5 w5)) 60 (fl_ ((σ 60)) 0 60 0)) 61 (fl_ ((σ 61)) 0 60 0)) 62 (fl_ ((uc (uc (uc σ 53 (u1 (σ 53) 5 w5)) 60 (fl_ ((σ 60)) 0 60 0)) 61 (fl_ ((σ 61)) 0 60 0)) 62) 0 48 (-1))) τ Q
  refine wi_s (σ1 := uc (uc (uc (uc σ 53 (u1 (σ 53) 5 w5)) 60 (fl_ ((σ 60)) 0 60 0)) 61 (fl_ ((σ 61)) 0 60 0)) 62 (fl_ ((σ 62)) 0 48 (-1))) (by simp only [(show (uc (uc (uc σ 53 (u1 (σ 53) 5 w5)) 60 (fl_ ((σ 60)) 0 60 0)) 61 (fl_ ((σ 61)) 0 60 0)) 62 = σ 62 from (uc_ns (uc_ns (uc_ns rfl (by decide)) (by decide)) (by decide)))]) t
set_option maxRecDepth 20000 in
theorem u_110_37 {d : Nat} {S : zS} {σ τ : zI} {Q : zQ} {x1 : Nat} (hx1 : tw x1) (t : ((0 : Int) ≤ 5 ∧ 5 < ((6 : Nat) : Int) ∧ 5 < (1000 : Int)) ∧ ((0 : Int) ≤ 7 ∧ 7 < ((13 : Nat) : Int) ∧ 7 < (1000 : Int)) ∧ ((0 : Int) ≤ 8 ∧ 8 < ((13 : Nat) : Int) ∧ 8 < (1000 : Int)) ∧ ((0 : Int) ≤ 9 ∧ 9 < ((13 : Nat) : Int) ∧ 9 < (1000 : Int)) ∧ ((0 : Int) ≤ 12 ∧ 12 < ((13 : Nat) : Int) ∧ 12 < (1000 : Int)) ∧ Q none S (uc (uc σ (x1 + 14) (fc_ ((σ (x1 + 14))) 6 5 0 ((σ (x1 + 13)) 2))) (x1 + 6) (fc_ ((fc_ ((fc_ ((fc_ ((σ (x1 + 6))) 13 7 0 ((σ (x1 + 5)) 2))) 13 8 (-1) ((σ (x1 + 5)) 2))) 13 9 0 ((σ (x1 + 5)) 2))) 13 12 0 ((σ (x1 + 5)) 2))) τ) : wi (d + 8) 110 37 [.ref 53, .ref x1] [] S σ τ Q := by
  obtain ⟨p1, t⟩ := t
  refine i5 c_110_37 rfl (i45 c_110_38 (lo (lyt_0 hx1) (by have := tw_b hx1; omega)) (lro (lrt_6 hx1)) (i1 c_110_41 (i1 c_110_42 ?_)))
  refine i80 (As := [.int (wI 5), .int (wI 0)]) (rest := []) c_110_43 mi_59 rfl rfl (Nat.le_of_ble_eq_true rfl) (Nat.le_of_ble_eq_true rfl) (lo (lyt_13 hx1) (by have := tw_b hx1; omega)) (q_59 (ow_orders hx1) p1 (by decide) ?_)
  show wi (d + 8) 110 46 [.ref 53, .ref x1] [] S (uc σ (x1 + 14) (fc_ ((σ (x1 + 14))) 6 5 0 ((σ (x1 + 13)) 2))) τ Q
  obtain ⟨p2, t⟩ := t
  refine i5 c_110_46 rfl (i45 c_110_47 (lo (lyt_0 hx1) (by have := tw_b hx1; omega)) (lro (lrt_2 hx1)) (i1 c_110_50 (i1 c_110_52 ?_)))
  refine i80 (As := [.int (wI 7), .int (wI 0)]) (rest := []) c_110_53 mi_59 rfl rfl (Nat.le_of_ble_eq_true rfl) (Nat.le_of_ble_eq_true rfl) (lo (lyt_5 hx1) (by have := tw_b hx1; omega)) (q_59 (ow_mills hx1) p2 (by decide) ?_)
  show wi (d + 8) 110 56 [.ref 53, .ref x1] [] S (uc (uc σ (x1 + 14) (fc_ ((σ (x1 + 14))) 6 5 0 ((σ (x1 + 13)) 2))) (x1 + 6) (fc_ ((uc σ (x1 + 14) (fc_ ((σ (x1 + 14))) 6 5 0 ((σ (x1 + 13)) 2))) (x1 + 6)) 13 7 0 ((uc σ (x1 + 14) (fc_ ((σ (x1 + 14))) 6 5 0 ((σ (x1 + 13)) 2))) (x1 + 5) 2))) τ Q
  obtain ⟨p3, t⟩ := t
  refine wi_s (σ1 := uc (uc σ (x1 + 14) (fc_ ((σ (x1 + 14))) 6 5 0 ((σ (x1 + 13)) 2))) (x1 + 6) (fc_ ((σ (x1 + 6))) 13 7 0 ((σ (x1 + 5)) 2))) (by simp only [(show (uc σ (x1 + 14) (fc_ ((σ (x1 + 14))) 6 5 0 ((σ (x1 + 13)) 2))) (x1 + 5) = σ (x1 + 5) from (uc_ns rfl (by have := tw_b hx1; have := tw_b hx1; omega))), (show (uc σ (x1 + 14) (fc_ ((σ (x1 + 14))) 6 5 0 ((σ (x1 + 13)) 2))) (x1 + 6) = σ (x1 + 6) from (uc_ns rfl (by have := tw_b hx1; have := tw_b hx1; omega)))]) (i5 c_110_56 rfl (i45 c_110_57 (lo (lyt_0 hx1) (by have := tw_b hx1; omega)) (lro (lrt_2 hx1)) (i1 c_110_60 (i1 c_110_62 ?_))))
  refine i80 (As := [.int (wI 8), .int (wI (-1))]) (rest := []) c_110_63 mi_59 rfl rfl (Nat.le_of_ble_eq_true rfl) (Nat.le_of_ble_eq_true rfl) (lo (lyt_5 hx1) (by have := tw_b hx1; omega)) (q_59 (ow_mills hx1) p3 (by decide) ?_)
  show wi (d + 8) 110 66 [.ref 53, .ref x1] [] S (uc (uc (uc σ (x1 + 14) (fc_ ((σ (x1 + 14))) 6 5 0 ((σ (x1 + 13)) 2))) (x1 + 6) (fc_ ((σ (x1 + 6))) 13 7 0 ((σ (x1 + 5)) 2))) (x1 + 6) (fc_ ((uc (uc σ (x1 + 14) (fc_ ((σ (x1 + 14))) 6 5 0 ((σ (x1 + 13)) 2))) (x1 + 6) (fc_ ((σ (x1 + 6))) 13 7 0 ((σ (x1 + 5)) 2))) (x1 + 6)) 13 8 (-1) ((uc (uc σ (x1 + 14) (fc_ ((σ (x1 + 14))) 6 5 0 ((σ (x1 + 13)) 2))) (x1 + 6) (fc_ ((σ (x1 + 6))) 13 7 0 ((σ (x1 + 5)) 2))) (x1 + 5) 2))) τ Q
  obtain ⟨p4, t⟩ := t
  refine wi_s (σ1 := uc (uc σ (x1 + 14) (fc_ ((σ (x1 + 14))) 6 5 0 ((σ (x1 + 13)) 2))) (x1 + 6) (fc_ ((fc_ ((σ (x1 + 6))) 13 7 0 ((σ (x1 + 5)) 2))) 13 8 (-1) ((σ (x1 + 5)) 2))) (by funext j; by_cases h0 : j = x1 + 14 <;> by_cases h1 : j = x1 + 6 <;> simp [uc, h0, h1]) (i5 c_110_66 rfl (i45 c_110_67 (lo (lyt_0 hx1) (by have := tw_b hx1; omega)) (lro (lrt_2 hx1)) (i1 c_110_70 (i1 c_110_72 ?_))))
  refine i80 (As := [.int (wI 9), .int (wI 0)]) (rest := []) c_110_73 mi_59 rfl rfl (Nat.le_of_ble_eq_true rfl) (Nat.le_of_ble_eq_true rfl) (lo (lyt_5 hx1) (by have := tw_b hx1; omega)) (q_59 (ow_mills hx1) p4 (by decide) ?_)
  show wi (d + 8) 110 76 [.ref 53, .ref x1] [] S (uc (uc (uc σ (x1 + 14) (fc_ ((σ (x1 + 14))) 6 5 0 ((σ (x1 + 13)) 2))) (x1 + 6) (fc_ ((fc_ ((σ (x1 + 6))) 13 7 0 ((σ (x1 + 5)) 2))) 13 8 (-1) ((σ (x1 + 5)) 2))) (x1 + 6) (fc_ ((uc (uc σ (x1 + 14) (fc_ ((σ (x1 + 14))) 6 5 0 ((σ (x1 + 13)) 2))) (x1 + 6) (fc_ ((fc_ ((σ (x1 + 6))) 13 7 0 ((σ (x1 + 5)) 2))) 13 8 (-1) ((σ (x1 + 5)) 2))) (x1 + 6)) 13 9 0 ((uc (uc σ (x1 + 14) (fc_ ((σ (x1 + 14))) 6 5 0 ((σ (x1 + 13)) 2))) (x1 + 6) (fc_ ((fc_ ((σ (x1 + 6))) 13 7 0 ((σ (x1 + 5)) 2))) 13 8 (-1) ((σ (x1 + 5)) 2))) (x1 + 5) 2))) τ Q
  obtain ⟨p5, t⟩ := t
  refine wi_s (σ1 := uc (uc σ (x1 + 14) (fc_ ((σ (x1 + 14))) 6 5 0 ((σ (x1 + 13)) 2))) (x1 + 6) (fc_ ((fc_ ((fc_ ((σ (x1 + 6))) 13 7 0 ((σ (x1 + 5)) 2))) 13 8 (-1) ((σ (x1 + 5)) 2))) 13 9 0 ((σ (x1 + 5)) 2))) (by funext j; by_cases h0 : j = x1 + 14 <;> by_cases h1 : j = x1 + 6 <;> simp [uc, h0, h1]) (i5 c_110_76 rfl (i45 c_110_77 (lo (lyt_0 hx1) (by have := tw_b hx1; omega)) (lro (lrt_2 hx1)) (i1 c_110_80 (i1 c_110_82 ?_))))
  refine i80 (As := [.int (wI 12), .int (wI 0)]) (rest := []) c_110_83 mi_59 rfl rfl (Nat.le_of_ble_eq_true rfl) (Nat.le_of_ble_eq_true rfl) (lo (lyt_5 hx1) (by have := tw_b hx1; omega)) (q_59 (ow_mills hx1) p5 (by decide) ?_)
  show wi (d + 8) 110 86 [.ref 53, .ref x1] [] S (uc (uc (uc σ (x1 + 14) (fc_ ((σ (x1 + 14))) 6 5 0 ((σ (x1 + 13)) 2))) (x1 + 6) (fc_ ((fc_ ((fc_ ((σ (x1 + 6))) 13 7 0 ((σ (x1 + 5)) 2))) 13 8 (-1) ((σ (x1 + 5)) 2))) 13 9 0 ((σ (x1 + 5)) 2))) (x1 + 6) (fc_ ((uc (uc σ (x1 + 14) (fc_ ((σ (x1 + 14))) 6 5 0 ((σ (x1 + 13)) 2))) (x1 + 6) (fc_ ((fc_ ((fc_ ((σ (x1 + 6))) 13 7 0 ((σ (x1 + 5)) 2))) 13 8 (-1) ((σ (x1 + 5)) 2))) 13 9 0 ((σ (x1 + 5)) 2))) (x1 + 6)) 13 12 0 ((uc (uc σ (x1 + 14) (fc_ ((σ (x1 + 14))) 6 5 0 ((σ (x1 + 13)) 2))) (x1 + 6) (fc_ ((fc_ ((fc_ ((σ (x1 + 6))) 13 7 0 ((σ (x1 + 5)) 2))) 13 8 (-1) ((σ (x1 + 5)) 2))) 13 9 0 ((σ (x1 + 5)) 2))) (x1 + 5) 2))) τ Q
  refine wi_s (σ1 := uc (uc σ (x1 + 14) (fc_ ((σ (x1 + 14))) 6 5 0 ((σ (x1 + 13)) 2))) (x1 + 6) (fc_ ((fc_ ((fc_ ((fc_ ((σ (x1 + 6))) 13 7 0 ((σ (x1 + 5)) 2))) 13 8 (-1) ((σ (x1 + 5)) 2))) 13 9 0 ((σ (x1 + 5)) 2))) 13 12 0 ((σ (x1 + 5)) 2))) (by funext j; by_cases h0 : j = x1 + 14 <;> by_cases h1 : j = x1 + 6 <;> simp [uc, h0, h1]) ?_
  exact i94 c_110_86 t
theorem q_110 {d : Nat} {S : zS} {σ τ : zI} {Q : zQ} {tn : Nat} {a : Int → Int} (htn : tw tn) (p0 : RT σ tn a) (p1 : Jv a) (p2 : a 0 ≤ 399) (t : ∀ (σ1 : zI), BC a tn σ σ1 → Q none S σ1 τ) : wc (d + 8) 110 [.ref 53, .ref tn] S σ τ Q := by
  have hC := jC p1
  unfold jv_C at hC
  have tb := tw_b htn
  have c0 : σ tn 8 = a 0 := (tS p0).1
  have ct := wk_ct_b p1 p2
  refine wc_of mi_110 rfl (u_110_0 htn ?_)
  rw [c0]
  refine ⟨a, p0, by omega, wk_ct a, rfl, by omega, u_110_37 htn ⟨by omega, by omega, by omega, by omega, by omega, ?_⟩⟩
  have e13 : ∀ c, c ≠ 53 → c ≠ 60 → c ≠ 61 → c ≠ 62 → (uc (uc (uc (uc σ 53 (u1 (σ 53) 5 (wk_ct a))) 60 (fl_ (σ 60) 0 60 0)) 61 (fl_ (σ 61) 0 60 0)) 62 (fl_ (σ 62) 0 48 (-1))) c = σ c := fun c h1 h2 h3 h4 => by rw [uc_n h4, uc_n h3, uc_n h2, uc_n h1]
  have cm := cM p0
  have co := cO p0
  rw [e13 (tn + 14) (by omega) (by omega) (by omega) (by omega), e13 (tn + 13) (by omega) (by omega) (by omega) (by omega), e13 (tn + 6) (by omega) (by omega) (by omega) (by omega), e13 (tn + 5) (by omega) (by omega) (by omega) (by omega), cm, co]
  refine t _ ⟨⟨?_, ?_, ?_, ?_⟩, ?_, fun p q0 q1 => ?_, fun k k0 k1 => ?_, fun c h1 h2 h3 h4 h5 h6 => ?_⟩
  · refine cR_f (σ := σ) (fun c hc => ?_) ⟨tS p0, tK p0, tW p0, tQ p0, tH p0, tF p0⟩
    rw [uc_n (by omega), uc_n (by omega), e13 c (by omega) (by omega) (by omega) (by omega)]
  · refine cP_f (σ := σ) ?_ ?_ ⟨(tP p0).1, fun p c q0 q1 c0 c1 => (tP p0).2 p q0 q1 c c0 (by omega)⟩
    · rw [uc_n (by omega), uc_n (by omega), e13 _ (by omega) (by omega) (by omega) (by omega)]
    · rw [uc_n (by omega), uc_n (by omega), e13 _ (by omega) (by omega) (by omega) (by omega)]
  · refine ⟨by rw [uc_n (by omega), uc_n (by omega), e13 _ (by omega) (by omega) (by omega) (by omega)]; exact cm, fun m m0 m1 => ?_⟩
    rw [uc_s]
    have x := (tM p0).2 m m0 m1
    refine ⟨fun k c hk => ?_, ?_⟩
    · rw [fc_v13 (by omega) (by omega) (by omega) m0, if_neg (by omega), fc_v13 (by omega) (by omega) (by omega) m0]
      unfold MI0
      by_cases k9 : k = 9
      · rw [if_pos (by omega), if_pos (by omega), if_neg (by omega)]
      · rw [if_neg (by omega), fc_v13 (by omega) (by omega) (by omega) m0]
        by_cases k8 : k = 8
        · rw [if_pos (by omega), if_pos (by omega), if_pos (by omega)]
        · rw [if_neg (by omega), fc_v13 (by omega) (by omega) (by omega) m0]
          by_cases k7 : k = 7
          · rw [if_pos (by omega), if_pos (by omega), if_neg (by omega)]
          · rw [if_neg (by omega), if_neg (by omega)]
            rcases hk with ⟨rfl, rfl⟩ | ⟨rfl, rfl⟩ | ⟨rfl, rfl⟩ | ⟨rfl, rfl⟩ | ⟨rfl, rfl⟩ | ⟨rfl, rfl⟩ | ⟨rfl, rfl⟩ | ⟨rfl, rfl⟩ | ⟨rfl, rfl⟩ | ⟨rfl, rfl⟩ | ⟨rfl, rfl⟩
            · exact x.1
            · exact x.2.1
            · exact x.2.2.1
            · exact x.2.2.2.1
            · exact x.2.2.2.2.1
            · exact x.2.2.2.2.2.1
            · omega
            · omega
            · omega
            · exact x.2.2.2.2.2.2.2.2.2.1
            · exact x.2.2.2.2.2.2.2.2.2.2
    · rw [fc_v13 (by omega) (by omega) (by omega) m0, if_pos (by omega)]
  · refine ⟨by rw [uc_n (by omega), uc_n (by omega), e13 _ (by omega) (by omega) (by omega) (by omega)]; exact co, fun o c o0 o1 c0 c1 => ?_⟩
    have x := (tO p0).2 o o0 o1
    rw [uc_n (by omega), uc_s, fc_v6 (by omega) (by omega) (by omega) o0]
    unfold OD1
    by_cases c5 : c = 5
    · rw [if_pos (by omega), if_pos (by omega), wk_T_0]
    · rw [if_neg (by omega), if_neg (by omega)]
      rcases (show c = 0 ∨ c = 1 ∨ c = 2 ∨ c = 3 ∨ c = 4 by omega) with rfl | rfl | rfl | rfl | rfl
      · rw [Int.add_zero (4372 + 8 * o)]; exact x.1
      · exact x.2.1
      · exact x.2.2.1
      · exact x.2.2.2.1
      · exact x.2.2.2.2
  · rw [uc_n (by omega), uc_n (by omega), uc_n (by decide), uc_n (by decide), uc_n (by decide), uc_s, u1_s]
    exact ⟨rfl, fun k hk => u1_n hk⟩
  · rw [uc_n (by omega), uc_n (by omega), uc_n (by decide), uc_n (by decide), uc_s, uc_n (show (61 : Nat) ≠ tn + 6 by omega), uc_n (show (61 : Nat) ≠ tn + 14 by omega), uc_n (by decide), uc_s, fl_in (by omega) (by omega), fl_in (by omega) (by omega)]
    exact ⟨rfl, rfl⟩
  · rw [uc_n (by omega), uc_n (by omega), uc_s, fl_in (by omega) (by omega)]
  · rw [uc_n h5, uc_n h6]; exact e13 c h1 h2 h3 h4
