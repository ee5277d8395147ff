/-! ===== the reference reads: small methods (segments printed by wip/whole, contracts own work) ===== -/
/-- code written from a place on -/
def WRL (a : Int → Int) (B : Int) : Int → List (Int × Int) → Prop
  | _, [] => True
  | i, x :: t => (a (B + 2 * i) = x.1 ∧ a (B + 2 * i + 1) = x.2) ∧ WRL a B (i + 1) t
theorem WRL_f {a b : Int → Int} {B : Int} : ∀ (L : List (Int × Int)) (i : Int), (∀ k, B + 2 * i ≤ k → k < B + 2 * (i + L.length) → b k = a k) → WRL a B i L → WRL b B i L
  | [], _, _, _ => trivial
  | x :: t, i, f, h => by
    have hl : ((x :: t).length : Int) = (t.length : Int) + 1 := by rw [List.length_cons]; omega
    exact ⟨⟨by rw [f _ (by omega) (by omega)]; exact h.1.1, by rw [f _ (by omega) (by omega)]; exact h.1.2⟩, WRL_f t (i + 1) (fun k k0 k1 => f k (by omega) (by omega)) h.2⟩
theorem WRL_a {a : Int → Int} {B : Int} : ∀ (L M : List (Int × Int)) (i : Int), WRL a B i L → WRL a B (i + L.length) M → WRL a B i (L ++ M)
  | [], M, i, _, h => by
    have : i + (([] : List (Int × Int)).length : Int) = i := by rw [List.length_nil]; omega
    rw [this] at h
    exact h
  | x :: t, M, i, g, h => by
    have hl : ((x :: t).length : Int) = (t.length : Int) + 1 := by rw [List.length_cons]; omega
    refine ⟨g.1, WRL_a t M (i + 1) g.2 ?_⟩
    rw [show i + 1 + (t.length : Int) = i + ((x :: t).length : Int) by omega]
    exact h
/-- what reading changes: so much code is written -/
def PF (σ σ1 τ τ1 : zI) (L : List (Int × Int)) : Prop := (σ1 83 14 = σ 83 14 + L.length ∧ WRL (σ1 84) (σ 83 12 + 200) (σ 83 14) L ∧ ∀ k, k < σ 83 12 + 200 + 2 * σ 83 14 ∨ σ 83 12 + 200 + 2 * (σ 83 14 + L.length) ≤ k → σ1 84 k = σ 84 k) ∧ (∀ c, c ≠ 83 → c ≠ 84 → c ≠ 88 → σ1 c = σ c) ∧ (∀ k, k < 7 ∨ (11 ≤ k ∧ k < 14) ∨ k = 15 ∨ 18 < k → σ1 83 k = σ 83 k) ∧ (∀ c, c ≠ 83 → τ1 c = τ c) ∧ ∀ k, k ≠ 11 → τ1 83 k = τ 83 k
section PFS
variable {σ σ1 σ2 τ τ1 τ2 : zI} {L M : List (Int × Int)}
theorem PF_t (h : PF σ σ1 τ τ1 L) (g : PF σ1 σ2 τ1 τ2 M) : PF σ σ2 τ τ2 (L ++ M) := by
  obtain ⟨⟨h1, h2, h3⟩, h4, h5, h6, h7⟩ := h
  obtain ⟨⟨g1, g2, g3⟩, g4, g5, g6, g7⟩ := g
  have e12 : σ1 83 12 = σ 83 12 := h5 12 (by omega)
  have hl : ((L ++ M).length : Int) = (L.length : Int) + (M.length : Int) := by rw [List.length_append]; omega
  rw [e12, h1] at g2 g3
  refine ⟨⟨by rw [g1, h1, hl]; omega, WRL_a L M _ (WRL_f L _ (fun k k0 k1 => g3 k (by omega)) h2) g2, fun k hk => ?_⟩, fun c c1 c2 c3 => (g4 c c1 c2 c3).trans (h4 c c1 c2 c3), fun k hk => (g5 k hk).trans (h5 k hk), fun c hc => (g6 c hc).trans (h6 c hc), fun k hk => (g7 k hk).trans (h7 k hk)⟩
  rw [g3 k (by omega)]
  exact h3 k (by omega)
theorem PF_k (h4 : ∀ c, c ≠ 83 → c ≠ 88 → σ1 c = σ c) (h5 : ∀ k, k < 7 ∨ (11 ≤ k ∧ k < 16) ∨ 18 < k → σ1 83 k = σ 83 k) (h6 : ∀ c, c ≠ 83 → τ1 c = τ c) (h7 : ∀ k, k ≠ 11 → τ1 83 k = τ 83 k) : PF σ σ1 τ τ1 [] := by
  refine ⟨⟨?_, trivial, fun k _ => by rw [h4 84 (by decide) (by decide)]⟩, fun c c1 c2 c3 => h4 c c1 c3, fun k hk => h5 k (by omega), h6, h7⟩
  rw [h5 14 (by omega), List.length_nil]
  omega
theorem PF_0 : PF σ σ τ τ [] := PF_k (fun _ _ _ => rfl) (fun _ _ => rfl) (fun _ _ => rfl) (fun _ _ => rfl)
theorem PF_F (h : FK σ σ1 τ τ1) : PF σ σ1 τ τ1 [] := PF_k (fun c h1 _ => h.1 c h1) (fun k hk => h.2.1 k (by omega)) h.2.2.1 h.2.2.2
theorem PF_n (h : PF σ σ1 τ τ1 L) (g : PF σ1 σ2 τ1 τ2 []) : PF σ σ2 τ τ2 L := by
  have := PF_t h g
  rw [List.append_nil] at this
  exact this
end PFS
/-- one step of code -/
def EM (σ σ1 : zI) (o v : Int) : Prop := (∀ τ, PF σ σ1 τ τ [(o, v)]) ∧ (∀ c, c ≠ 83 → c ≠ 84 → σ1 c = σ c) ∧ ∀ k, k ≠ 14 → σ1 83 k = σ 83 k
/-- room for code -/
abbrev EB (σ : zI) : Prop := (5500 ≤ σ 83 12 ∧ σ 83 12 ≤ 21460) ∧ 0 ≤ σ 83 14 ∧ σ 83 14 ≤ 310
/-- the pile, its top first -/
def PLs (f : Int → Int) : List Int → Prop
  | [] => True
  | x :: t => f t.length = x ∧ PLs f t
def PIL (σ : zI) (π : List Int) : Prop := σ 83 16 = π.length ∧ PLs (σ 88) π
theorem PLs_f {f g : Int → Int} : ∀ π : List Int, (∀ k, 0 ≤ k → k < π.length → g k = f k) → PLs f π → PLs g π
  | [], _, _ => trivial
  | x :: t, h, p => by
    have hl : ((x :: t).length : Int) = (t.length : Int) + 1 := by rw [List.length_cons]; omega
    exact ⟨by rw [h _ (by omega) (by omega)]; exact p.1, PLs_f t (fun k k0 k1 => h k k0 (by omega)) p.2⟩
def dm : List Int → List Int
  | [] => []
  | x :: t => if x = 2 then dm t else x :: t
def eM : List Int → List (Int × Int)
  | [] => []
  | x :: t => if x = 2 then (2, 0) :: eM t else []
def ds (l : Int) : List Int → List Int
  | [] => []
  | x :: t => if x < 40 ∧ l ≤ x then ds l t else x :: t
def eSt (l : Int) : List Int → List (Int × Int)
  | [] => []
  | x :: t => if x < 40 ∧ l ≤ x then (x, 0) :: eSt l t else []
theorem dm_l : ∀ π : List Int, (dm π).length + (eM π).length = π.length
  | [] => rfl
  | x :: t => by
    unfold dm eM
    split
    · rw [List.length_cons, List.length_cons, ← dm_l t]; omega
    · rfl
theorem ds_l (l : Int) : ∀ π : List Int, (ds l π).length + (eSt l π).length = π.length
  | [] => rfl
  | x :: t => by
    unfold ds eSt
    split
    · rw [List.length_cons, List.length_cons, ← ds_l l t]; omega
    · rfl
-- method 232: MillTownModel.w3(III)J
theorem c_232_0 : pg_cd 232 0 = (3, 1, 0, 0, 0) := by decide +kernel
theorem c_232_1 : pg_cd 232 1 = (31, 1, 0, 0, 0) := by decide +kernel
theorem c_232_2 : pg_cd 232 2 = (1, 2, 0, 0, 8) := by decide +kernel
theorem c_232_4 : pg_cd 232 4 = (32, 1, 0, 0, 0) := by decide +kernel
theorem c_232_5 : pg_cd 232 5 = (3, 1, 0, 1, 0) := by decide +kernel
theorem c_232_6 : pg_cd 232 6 = (31, 1, 0, 0, 0) := by decide +kernel
theorem c_232_7 : pg_cd 232 7 = (25, 1, 0, 0, 0) := by decide +kernel
theorem c_232_8 : pg_cd 232 8 = (1, 2, 0, 0, 8) := by decide +kernel
theorem c_232_10 : pg_cd 232 10 = (32, 1, 0, 0, 0) := by decide +kernel
theorem c_232_11 : pg_cd 232 11 = (3, 1, 0, 2, 0) := by decide +kernel
theorem c_232_12 : pg_cd 232 12 = (31, 1, 0, 0, 0) := by decide +kernel
theorem c_232_13 : pg_cd 232 13 = (25, 1, 0, 0, 0) := by decide +kernel
theorem c_232_14 : pg_cd 232 14 = (92, 0, 0, 0, 0) := by decide +kernel
theorem mi_232 : pg_mc 232 = 12 ∧ pg_na 232 = 3 ∧ pg_mx 232 = 3 := by decide +kernel
set_option maxRecDepth 20000 in
theorem u_232_0 {d : Nat} {S : zS} {σ τ : zI} {Q : zQ} {x0 : Int} {x1 : Int} {x2 : Int} (t : (rg x0) ∧ (rg x1) ∧ (rg x2) ∧ Q (some (.long (wJ (jor (jshl (jor (jshl x0 8) x1) 8) x2)))) S σ τ) : wi (d + 0) 232 0 [.int (wI x0), .int (wI x1), .int (wI x2)] [] S σ τ Q := by
  obtain ⟨r1, t⟩ := t
  obtain ⟨r2, t⟩ := t
  obtain ⟨r3, t⟩ := t
  refine i3 c_232_0 rfl (i31 c_232_1 r1 (i1 c_232_2 (i32 c_232_4 (i3 c_232_5 rfl (i31 c_232_6 r2 (i25 c_232_7 (i1 c_232_8 (i32 c_232_10 (i3 c_232_11 rfl (i31 c_232_12 r3 (i25 c_232_13 ?_)))))))))))
  exact i92 c_232_14 t
theorem q_232 {d : Nat} {S : zS} {σ τ : zI} {Q : zQ} {a : Int} {b : Int} {c : Int} (p0 : (0 ≤ a ∧ a ≤ 127) ∧ (0 ≤ b ∧ b ≤ 127) ∧ (0 ≤ c ∧ c ≤ 127)) (t : Q (some (.long (wJ (a * 65536 + b * 256 + c)))) S σ τ) : wc (d + 0) 232 [.int (wI a), .int (wI b), .int (wI c)] S σ τ Q := by
  refine wc_of mi_232 rfl (u_232_0 ⟨by omega, by omega, by omega, ?_⟩)
  rw [jor_sh (w := a) (c := b) (by omega) (by omega), jor_sh (w := a * 256 + b) (by omega) (by omega), show (a * 256 + b) * 256 + c = a * 65536 + b * 256 + c by omega]
  exact t
-- method 234: MillTownModel.w4(IIII)J
theorem c_234_0 : pg_cd 234 0 = (3, 1, 0, 0, 0) := by decide +kernel
theorem c_234_1 : pg_cd 234 1 = (3, 1, 0, 1, 0) := by decide +kernel
theorem c_234_2 : pg_cd 234 2 = (3, 1, 0, 2, 0) := by decide +kernel
theorem c_234_3 : pg_cd 234 3 = (81, 232, 160, 0, 0) := by decide +kernel
theorem c_234_6 : pg_cd 234 6 = (1, 2, 0, 0, 8) := by decide +kernel
theorem c_234_8 : pg_cd 234 8 = (32, 1, 0, 0, 0) := by decide +kernel
theorem c_234_9 : pg_cd 234 9 = (3, 1, 0, 3, 0) := by decide +kernel
theorem c_234_10 : pg_cd 234 10 = (31, 1, 0, 0, 0) := by decide +kernel
theorem c_234_11 : pg_cd 234 11 = (25, 1, 0, 0, 0) := by decide +kernel
theorem c_234_12 : pg_cd 234 12 = (92, 0, 0, 0, 0) := by decide +kernel
theorem mi_234 : pg_mc 234 = 12 ∧ pg_na 234 = 4 ∧ pg_mx 234 = 4 := by decide +kernel
set_option maxRecDepth 20000 in
theorem u_234_0 {d : Nat} {S : zS} {σ τ : zI} {Q : zQ} {x0 : Int} {x1 : Int} {x2 : Int} {x3 : Int} (t : (((0 : Int) ≤ x0 ∧ x0 ≤ (127 : Int)) ∧ ((0 : Int) ≤ x1 ∧ x1 ≤ (127 : Int)) ∧ ((0 : Int) ≤ x2 ∧ x2 ≤ (127 : Int))) ∧ (rg x3) ∧ Q (some (.long (wJ (jor (jshl (x0 * 65536 + x1 * 256 + x2) 8) x3)))) S σ τ) : wi (d + 1) 234 0 [.int (wI x0), .int (wI x1), .int (wI x2), .int (wI x3)] [] S σ τ Q := by
  obtain ⟨p1, t⟩ := t
  refine i3 c_234_0 rfl (i3 c_234_1 rfl (i3 c_234_2 rfl ?_))
  refine i81 (As := [.int (wI x0), .int (wI x1), .int (wI x2)]) (rest := []) c_234_3 mi_232 rfl rfl (Nat.le_of_ble_eq_true rfl) (Nat.le_of_ble_eq_true rfl) (q_232 p1 ?_)
  show wi (d + 1) 234 6 [.int (wI x0), .int (wI x1), .int (wI x2), .int (wI x3)] [.long (wJ (x0 * 65536 + x1 * 256 + x2))] S σ τ Q
  obtain ⟨r2, t⟩ := t
  refine i1 c_234_6 (i32 c_234_8 (i3 c_234_9 rfl (i31 c_234_10 r2 (i25 c_234_11 ?_))))
  exact i92 c_234_12 t
theorem q_234 {d : Nat} {S : zS} {σ τ : zI} {Q : zQ} {c0 : Int} {c1 : Int} {c2 : Int} {c3 : Int} (p0 : ((0 : Int) ≤ c0 ∧ c0 ≤ (127 : Int)) ∧ ((0 : Int) ≤ c1 ∧ c1 ≤ (127 : Int)) ∧ ((0 : Int) ≤ c2 ∧ c2 ≤ (127 : Int)) ∧ ((0 : Int) ≤ c3 ∧ c3 ≤ (127 : Int))) (t : Q (some (.long (wJ ((c0 * 65536 + c1 * 256 + c2) * 256 + c3)))) S σ τ) : wc (d + 1) 234 [.int (wI c0), .int (wI c1), .int (wI c2), .int (wI c3)] S σ τ Q := by
  refine wc_of mi_234 rfl (u_234_0 ⟨by omega, by omega, ?_⟩)
  rw [jor_sh (by omega) (by omega)]
  exact t
-- method 233: MillTownModel.w5(IIIII)J
theorem c_233_0 : pg_cd 233 0 = (3, 1, 0, 0, 0) := by decide +kernel
theorem c_233_1 : pg_cd 233 1 = (3, 1, 0, 1, 0) := by decide +kernel
theorem c_233_2 : pg_cd 233 2 = (3, 1, 0, 2, 0) := by decide +kernel
theorem c_233_3 : pg_cd 233 3 = (81, 232, 160, 0, 0) := by decide +kernel
theorem c_233_6 : pg_cd 233 6 = (1, 2, 0, 0, 8) := by decide +kernel
theorem c_233_8 : pg_cd 233 8 = (32, 1, 0, 0, 0) := by decide +kernel
theorem c_233_9 : pg_cd 233 9 = (3, 1, 0, 3, 0) := by decide +kernel
theorem c_233_10 : pg_cd 233 10 = (31, 1, 0, 0, 0) := by decide +kernel
theorem c_233_11 : pg_cd 233 11 = (25, 1, 0, 0, 0) := by decide +kernel
theorem c_233_12 : pg_cd 233 12 = (1, 2, 0, 0, 8) := by decide +kernel
theorem c_233_14 : pg_cd 233 14 = (32, 1, 0, 0, 0) := by decide +kernel
theorem c_233_15 : pg_cd 233 15 = (3, 2, 0, 4, 0) := by decide +kernel
theorem c_233_17 : pg_cd 233 17 = (31, 1, 0, 0, 0) := by decide +kernel
theorem c_233_18 : pg_cd 233 18 = (25, 1, 0, 0, 0) := by decide +kernel
theorem c_233_19 : pg_cd 233 19 = (92, 0, 0, 0, 0) := by decide +kernel
theorem mi_233 : pg_mc 233 = 12 ∧ pg_na 233 = 5 ∧ pg_mx 233 = 5 := by decide +kernel
set_option maxRecDepth 20000 in
theorem u_233_0 {d : Nat} {S : zS} {σ τ : zI} {Q : zQ} {x0 : Int} {x1 : Int} {x2 : Int} {x3 : Int} {x4 : Int} (t : (((0 : Int) ≤ x0 ∧ x0 ≤ (127 : Int)) ∧ ((0 : Int) ≤ x1 ∧ x1 ≤ (127 : Int)) ∧ ((0 : Int) ≤ x2 ∧ x2 ≤ (127 : Int))) ∧ (rg x3) ∧ (rg x4) ∧ Q (some (.long (wJ (jor (jshl (jor (jshl (x0 * 65536 + x1 * 256 + x2) 8) x3) 8) x4)))) S σ τ) : wi (d + 1) 233 0 [.int (wI x0), .int (wI x1), .int (wI x2), .int (wI x3), .int (wI x4)] [] S σ τ Q := by
  obtain ⟨p1, t⟩ := t
  refine i3 c_233_0 rfl (i3 c_233_1 rfl (i3 c_233_2 rfl ?_))
  refine i81 (As := [.int (wI x0), .int (wI x1), .int (wI x2)]) (rest := []) c_233_3 mi_232 rfl rfl (Nat.le_of_ble_eq_true rfl) (Nat.le_of_ble_eq_true rfl) (q_232 p1 ?_)
  show wi (d + 1) 233 6 [.int (wI x0), .int (wI x1), .int (wI x2), .int (wI x3), .int (wI x4)] [.long (wJ (x0 * 65536 + x1 * 256 + x2))] S σ τ Q
  obtain ⟨r2, t⟩ := t
  obtain ⟨r3, t⟩ := t
  refine i1 c_233_6 (i32 c_233_8 (i3 c_233_9 rfl (i31 c_233_10 r2 (i25 c_233_11 (i1 c_233_12 (i32 c_233_14 (i3 c_233_15 rfl (i31 c_233_17 r3 (i25 c_233_18 ?_)))))))))
  exact i92 c_233_19 t
theorem q_233 {d : Nat} {S : zS} {σ τ : zI} {Q : zQ} {c0 : Int} {c1 : Int} {c2 : Int} {c3 : Int} {c4 : Int} (p0 : ((0 : Int) ≤ c0 ∧ c0 ≤ (127 : Int)) ∧ ((0 : Int) ≤ c1 ∧ c1 ≤ (127 : Int)) ∧ ((0 : Int) ≤ c2 ∧ c2 ≤ (127 : Int)) ∧ ((0 : Int) ≤ c3 ∧ c3 ≤ (127 : Int)) ∧ ((0 : Int) ≤ c4 ∧ c4 ≤ (127 : Int))) (t : Q (some (.long (wJ (((c0 * 65536 + c1 * 256 + c2) * 256 + c3) * 256 + c4)))) S σ τ) : wc (d + 1) 233 [.int (wI c0), .int (wI c1), .int (wI c2), .int (wI c3), .int (wI c4)] S σ τ Q := by
  refine wc_of mi_233 rfl (u_233_0 ⟨by omega, by omega, by omega, ?_⟩)
  rw [jor_sh (w := c0 * 65536 + c1 * 256 + c2) (c := c3) (by omega) (by omega), jor_sh (by omega) (by omega)]
  exact t
-- method 251: MillTownModel.addWord()J
theorem c_251_0 : pg_cd 251 0 = (1, 2, 0, 0, 97) := by decide +kernel
theorem c_251_2 : pg_cd 251 2 = (1, 2, 0, 0, 100) := by decide +kernel
theorem c_251_4 : pg_cd 251 4 = (1, 2, 0, 0, 100) := by decide +kernel
theorem c_251_6 : pg_cd 251 6 = (81, 232, 160, 0, 0) := by decide +kernel
theorem c_251_9 : pg_cd 251 9 = (92, 0, 0, 0, 0) := by decide +kernel
theorem mi_251 : pg_mc 251 = 12 ∧ pg_na 251 = 0 ∧ pg_mx 251 = 1 := by decide +kernel
set_option maxRecDepth 20000 in
theorem u_251_0 {d : Nat} {S : zS} {σ τ : zI} {Q : zQ} (t : (((0 : Int) ≤ 97 ∧ 97 ≤ (127 : Int)) ∧ ((0 : Int) ≤ 100 ∧ 100 ≤ (127 : Int)) ∧ ((0 : Int) ≤ 100 ∧ 100 ≤ (127 : Int))) ∧ Q (some (.long (wJ (97 * 65536 + 100 * 256 + 100)))) S σ τ) : wi (d + 2) 251 0 [.ref 83] [] S σ τ Q := by
  obtain ⟨p1, t⟩ := t
  refine i1 c_251_0 (i1 c_251_2 (i1 c_251_4 ?_))
  refine i81 (As := [.int (wI 97), .int (wI 100), .int (wI 100)]) (rest := []) c_251_6 mi_232 rfl rfl (Nat.le_of_ble_eq_true rfl) (Nat.le_of_ble_eq_true rfl) (q_232 p1 ?_)
  show wi (d + 2) 251 9 [.ref 83] [.long (wJ (97 * 65536 + 100 * 256 + 100))] S σ τ Q
  exact i92 c_251_9 t
theorem q_251 {d : Nat} {S : zS} {σ τ : zI} {Q : zQ} (t : Q (some (.long (wJ 6382692))) S σ τ) : wc (d + 2) 251 [.ref 83] S σ τ Q := by
  refine wc_of mi_251 rfl (u_251_0 ⟨by decide, ?_⟩)
  exact t
-- method 252: MillTownModel.takeWord()J
theorem c_252_0 : pg_cd 252 0 = (1, 2, 0, 0, 116) := by decide +kernel
theorem c_252_2 : pg_cd 252 2 = (1, 2, 0, 0, 97) := by decide +kernel
theorem c_252_4 : pg_cd 252 4 = (1, 2, 0, 0, 107) := by decide +kernel
theorem c_252_6 : pg_cd 252 6 = (1, 2, 0, 0, 101) := by decide +kernel
theorem c_252_8 : pg_cd 252 8 = (81, 234, 195, 0, 0) := by decide +kernel
theorem c_252_11 : pg_cd 252 11 = (92, 0, 0, 0, 0) := by decide +kernel
theorem mi_252 : pg_mc 252 = 12 ∧ pg_na 252 = 0 ∧ pg_mx 252 = 1 := by decide +kernel
set_option maxRecDepth 20000 in
theorem u_252_0 {d : Nat} {S : zS} {σ τ : zI} {Q : zQ} (t : (((0 : Int) ≤ 116 ∧ 116 ≤ (127 : Int)) ∧ ((0 : Int) ≤ 97 ∧ 97 ≤ (127 : Int)) ∧ ((0 : Int) ≤ 107 ∧ 107 ≤ (127 : Int)) ∧ ((0 : Int) ≤ 101 ∧ 101 ≤ (127 : Int))) ∧ Q (some (.long (wJ ((116 * 65536 + 97 * 256 + 107) * 256 + 101)))) S σ τ) : wi (d + 2) 252 0 [.ref 83] [] S σ τ Q := by
  obtain ⟨p1, t⟩ := t
  refine i1 c_252_0 (i1 c_252_2 (i1 c_252_4 (i1 c_252_6 ?_)))
  refine i81 (As := [.int (wI 116), .int (wI 97), .int (wI 107), .int (wI 101)]) (rest := []) c_252_8 mi_234 rfl rfl (Nat.le_of_ble_eq_true rfl) (Nat.le_of_ble_eq_true rfl) (q_234 p1 ?_)
  show wi (d + 2) 252 11 [.ref 83] [.long (wJ ((116 * 65536 + 97 * 256 + 107) * 256 + 101))] S σ τ Q
  exact i92 c_252_11 t
theorem q_252 {d : Nat} {S : zS} {σ τ : zI} {Q : zQ} (t : Q (some (.long (wJ 1952541541))) S σ τ) : wc (d + 2) 252 [.ref 83] S σ τ Q := by
  refine wc_of mi_252 rfl (u_252_0 ⟨by decide, ?_⟩)
  exact t
-- method 235: MillTownModel.isWord(J)Z
theorem c_235_0 : pg_cd 235 0 = (5, 1, 0, 0, 0) := by decide +kernel
theorem c_235_1 : pg_cd 235 1 = (43, 12, 144, 9, 0) := by decide +kernel
theorem c_235_4 : pg_cd 235 4 = (1, 1, 0, 0, 2) := by decide +kernel
theorem c_235_5 : pg_cd 235 5 = (37, 3, 0, 1, 16) := by decide +kernel
theorem c_235_8 : pg_cd 235 8 = (5, 1, 0, 0, 0) := by decide +kernel
theorem c_235_9 : pg_cd 235 9 = (44, 12, 156, 11, 0) := by decide +kernel
theorem c_235_12 : pg_cd 235 12 = (4, 1, 0, 1, 0) := by decide +kernel
theorem c_235_13 : pg_cd 235 13 = (28, 1, 0, 0, 0) := by decide +kernel
theorem c_235_14 : pg_cd 235 14 = (36, 3, 0, 1, 7) := by decide +kernel
theorem c_235_17 : pg_cd 235 17 = (1, 1, 0, 0, 1) := by decide +kernel
theorem c_235_18 : pg_cd 235 18 = (38, 3, 0, 0, 4) := by decide +kernel
theorem c_235_21 : pg_cd 235 21 = (1, 1, 0, 0, 0) := by decide +kernel
theorem c_235_22 : pg_cd 235 22 = (91, 0, 0, 0, 0) := by decide +kernel
theorem mi_235 : pg_mc 235 = 12 ∧ pg_na 235 = 1 ∧ pg_mx 235 = 3 := by decide +kernel
set_option maxRecDepth 20000 in
theorem u_235_0 {d : Nat} {S : zS} {σ τ : zI} {Q : zQ} {x1 : Int} (t : if (σ 83 9) = 2 then ((rj x1) ∧ if (τ 83 11) = x1 then (Q (some (.int (wI 1))) S σ τ) else (Q (some (.int (wI 0))) S σ τ)) else (Q (some (.int (wI 0))) S σ τ)) : wi (d + 0) 235 0 [.ref 83, .long (wJ x1), .retAddr 0] [] S σ τ Q := by
  refine i5 c_235_0 rfl (wi_ok (fun K1 => ?_))
  refine i43 (v := σ 83 9) c_235_1 (lo (c := 83) (kd := 112) (n := 0) rfl (by decide)) rfl (i1 c_235_4 ?_)
  refine i37 c_235_5 (rge_ K1 rfl) (by decide) rfl (fun hc => ?_) (fun hc => ?_)
  · have t := iF t hc
    have ha2 : ¬ ((σ 83 9) = 2) := hc
    refine i1 c_235_21 ?_
    exact i91 c_235_22 (by decide) t
  · have t := iT t (Decidable.not_not.mp hc)
    have ha2 : (σ 83 9) = 2 := Decidable.not_not.mp hc
    obtain ⟨r3, t⟩ := t
    refine i5 c_235_8 rfl (i44 (v := τ 83 11) c_235_9 (lo (c := 83) (kd := 112) (n := 0) rfl (by decide)) rfl (i4 c_235_12 rfl (i28 c_235_13 ?_)))
    refine i36l c_235_14 (rje_ K1 rfl) r3 rfl (fun hc => ?_) (fun hc => ?_)
    · have t := iF t hc
      have ha4 : ¬ ((τ 83 11) = x1) := hc
      refine i1 c_235_21 ?_
      exact i91 c_235_22 (by decide) t
    · have t := iT t (Decidable.not_not.mp hc)
      have ha4 : (τ 83 11) = x1 := Decidable.not_not.mp hc
      refine i1 c_235_17 (i38 c_235_18 rfl ?_)
      exact i91 c_235_22 (by decide) t
theorem q_235 {d : Nat} {S : zS} {σ τ : zI} {Q : zQ} {w : Int} (p0 : rj w) (t : Q (some (.int (wI (if σ 83 9 = 2 ∧ τ 83 11 = w then 1 else 0)))) S σ τ) : wc (d + 0) 235 [.ref 83, .long (wJ w)] S σ τ Q := by
  refine wc_of mi_235 rfl (u_235_0 (ifI (fun e => ⟨p0, ifI (fun e2 => ?_) (fun e2 => ?_)⟩) (fun e => ?_)))
  · rw [if_pos ⟨e, e2⟩] at t; exact t
  · rw [if_neg (fun z => e2 z.2)] at t; exact t
  · rw [if_neg (fun z => e z.1)] at t; exact t
-- method 238: MillTownModel.emit(II)V
theorem c_238_0 : pg_cd 238 0 = (5, 1, 0, 0, 0) := by decide +kernel
theorem c_238_1 : pg_cd 238 1 = (45, 12, 8, 0, 0) := by decide +kernel
theorem c_238_4 : pg_cd 238 4 = (5, 1, 0, 0, 0) := by decide +kernel
theorem c_238_5 : pg_cd 238 5 = (43, 12, 171, 12, 0) := by decide +kernel
theorem c_238_8 : pg_cd 238 8 = (1, 3, 0, 0, 200) := by decide +kernel
theorem c_238_11 : pg_cd 238 11 = (10, 1, 0, 0, 0) := by decide +kernel
theorem c_238_12 : pg_cd 238 12 = (1, 1, 0, 0, 2) := by decide +kernel
theorem c_238_13 : pg_cd 238 13 = (5, 1, 0, 0, 0) := by decide +kernel
theorem c_238_14 : pg_cd 238 14 = (43, 12, 174, 14, 0) := by decide +kernel
theorem c_238_17 : pg_cd 238 17 = (12, 1, 0, 0, 0) := by decide +kernel
theorem c_238_18 : pg_cd 238 18 = (10, 1, 0, 0, 0) := by decide +kernel
theorem c_238_19 : pg_cd 238 19 = (3, 1, 0, 1, 0) := by decide +kernel
theorem c_238_20 : pg_cd 238 20 = (54, 1, 0, 0, 0) := by decide +kernel
theorem c_238_21 : pg_cd 238 21 = (5, 1, 0, 0, 0) := by decide +kernel
theorem c_238_22 : pg_cd 238 22 = (45, 12, 8, 0, 0) := by decide +kernel
theorem c_238_25 : pg_cd 238 25 = (5, 1, 0, 0, 0) := by decide +kernel
theorem c_238_26 : pg_cd 238 26 = (43, 12, 171, 12, 0) := by decide +kernel
theorem c_238_29 : pg_cd 238 29 = (1, 3, 0, 0, 200) := by decide +kernel
theorem c_238_32 : pg_cd 238 32 = (10, 1, 0, 0, 0) := by decide +kernel
theorem c_238_33 : pg_cd 238 33 = (1, 1, 0, 0, 2) := by decide +kernel
theorem c_238_34 : pg_cd 238 34 = (5, 1, 0, 0, 0) := by decide +kernel
theorem c_238_35 : pg_cd 238 35 = (43, 12, 174, 14, 0) := by decide +kernel
theorem c_238_38 : pg_cd 238 38 = (12, 1, 0, 0, 0) := by decide +kernel
theorem c_238_39 : pg_cd 238 39 = (10, 1, 0, 0, 0) := by decide +kernel
theorem c_238_40 : pg_cd 238 40 = (1, 1, 0, 0, 1) := by decide +kernel
theorem c_238_41 : pg_cd 238 41 = (10, 1, 0, 0, 0) := by decide +kernel
theorem c_238_42 : pg_cd 238 42 = (3, 1, 0, 2, 0) := by decide +kernel
theorem c_238_43 : pg_cd 238 43 = (54, 1, 0, 0, 0) := by decide +kernel
theorem c_238_44 : pg_cd 238 44 = (5, 1, 0, 0, 0) := by decide +kernel
theorem c_238_45 : pg_cd 238 45 = (33, 1, 0, 0, 0) := by decide +kernel
theorem c_238_46 : pg_cd 238 46 = (43, 12, 174, 14, 0) := by decide +kernel
theorem c_238_49 : pg_cd 238 49 = (1, 1, 0, 0, 1) := by decide +kernel
theorem c_238_50 : pg_cd 238 50 = (10, 1, 0, 0, 0) := by decide +kernel
theorem c_238_51 : pg_cd 238 51 = (46, 12, 174, 14, 0) := by decide +kernel
theorem c_238_54 : pg_cd 238 54 = (94, 0, 0, 0, 0) := by decide +kernel
theorem mi_238 : pg_mc 238 = 12 ∧ pg_na 238 = 2 ∧ pg_mx 238 = 3 := by decide +kernel
set_option maxRecDepth 20000 in
theorem u_238_0 {d : Nat} {S : zS} {σ τ : zI} {Q : zQ} {x1 : Int} {x2 : Int} (t : (0 ≤ ((σ 83 12) + 200) + (2 * (σ 83 14)) ∧ ((σ 83 12) + 200) + (2 * (σ 83 14)) < 112300) ∧ ∃ w3 : Int, wI w3 = wI x1 ∧ rg w3 ∧ (0 ≤ (((σ 83 12) + 200) + (2 * (σ 83 14))) + 1 ∧ (((σ 83 12) + 200) + (2 * (σ 83 14))) + 1 < 112300) ∧ ∃ w8 : Int, wI w8 = wI x2 ∧ rg w8 ∧ ∃ w12 : Int, wI w12 = wI ((σ 83 14) + 1) ∧ rg w12 ∧ Q none S (uc (uc σ 84 (u1 (u1 (σ 84) (((σ 83 12) + 200) + (2 * (σ 83 14))) w3) ((((σ 83 12) + 200) + (2 * (σ 83 14))) + 1) w8)) 83 (u1 (σ 83) 14 w12)) τ) : wi (d + 0) 238 0 [.ref 83, .int (wI x1), .int (wI x2)] [] S σ τ Q := by
  refine i5 c_238_0 rfl (i45 c_238_1 (lo (c := 83) (kd := 112) (n := 0) rfl (by decide)) (lro (c := 83) (k := 0) (j := 84) (by decide)) (i5 c_238_4 rfl (wi_ok (fun K1 => ?_))))
  obtain ⟨r2, t⟩ := t
  obtain ⟨w3, e4, r5, t⟩ := t
  refine i43 (v := σ 83 12) c_238_5 (lo (c := 83) (kd := 112) (n := 0) rfl (by decide)) rfl (i1 c_238_8 (i10 c_238_11 (i1 c_238_12 (i5 c_238_13 rfl (i43 (v := σ 83 14) c_238_14 (lo (c := 83) (kd := 112) (n := 0) rfl (by decide)) rfl (i12 c_238_17 (i10 c_238_18 (i3 c_238_19 rfl (i54 (σ1 := uc σ 84 (u1 (σ 84) (((σ 83 12) + 200) + (2 * (σ 83 14))) w3)) c_238_20 (lo (c := 84) (kd := 0) (n := 112300) rfl (by decide)) (by decide) r2 (by decide) e4 r5 (wr_ rfl rfl) (i5 c_238_21 rfl (i45 c_238_22 (lo (c := 83) (kd := 112) (n := 0) rfl (by decide)) (lro (c := 83) (k := 0) (j := 84) (by decide)) (i5 c_238_25 rfl (wi_ok (fun K6 => ?_))))))))))))))
  obtain ⟨r7, t⟩ := t
  obtain ⟨w8, e9, r10, t⟩ := t
  refine i43 (v := σ 83 12) c_238_26 (lo (c := 83) (kd := 112) (n := 0) rfl (by decide)) (congrFun (uc_ns rfl (by decide)) _) (i1 c_238_29 (i10 c_238_32 (i1 c_238_33 (i5 c_238_34 rfl (i43 (v := σ 83 14) c_238_35 (lo (c := 83) (kd := 112) (n := 0) rfl (by decide)) (congrFun (uc_ns rfl (by decide)) _) (i12 c_238_38 (i10 c_238_39 (i1 c_238_40 (i10 c_238_41 (i3 c_238_42 rfl (i54 (σ1 := uc σ 84 (u1 (u1 (σ 84) (((σ 83 12) + 200) + (2 * (σ 83 14))) w3) ((((σ 83 12) + 200) + (2 * (σ 83 14))) + 1) w8)) c_238_43 (lo (c := 84) (kd := 0) (n := 112300) rfl (by decide)) (by decide) r7 (by decide) e9 r10 (wr_ (uc_s _ _ _) (uc_uc _ _ _ _)) (i5 c_238_44 rfl (i33a c_238_45 (wi_ok (fun K11 => ?_)))))))))))))))
  obtain ⟨w12, e13, r14, t⟩ := t
  refine i43 (v := σ 83 14) c_238_46 (lo (c := 83) (kd := 112) (n := 0) rfl (by decide)) (congrFun (uc_ns rfl (by decide)) _) (i1 c_238_49 (i10 c_238_50 (i46 (σ1 := uc (uc σ 84 (u1 (u1 (σ 84) (((σ 83 12) + 200) + (2 * (σ 83 14))) w3) ((((σ 83 12) + 200) + (2 * (σ 83 14))) + 1) w8)) 83 (u1 (σ 83) 14 w12)) c_238_51 (lo (c := 83) (kd := 112) (n := 0) rfl (by decide)) (by decide) e13 r14 (wr_ (uc_ns rfl (by decide)) rfl) ?_)))
  exact i94 c_238_54 t
theorem q_238 {d : Nat} {S : zS} {σ τ : zI} {Q : zQ} {o : Int} {v : Int} (p0 : rg o) (p1 : rg v) (p2 : EB σ) (t : ∀ (σ1 : zI), EM σ σ1 o v → Q none S σ1 τ) : wc (d + 0) 238 [.ref 83, .int (wI o), .int (wI v)] S σ τ Q := by
  refine wc_of mi_238 rfl (u_238_0 ⟨by omega, o, rfl, p0, by omega, v, rfl, p1, σ 83 14 + 1, rfl, by omega, t _ ⟨fun τ => ⟨⟨?_, ⟨⟨?_, ?_⟩, trivial⟩, fun k hk => ?_⟩, fun c h1 h2 h3 => ?_, fun k hk => ?_, fun _ _ => rfl, fun _ _ => rfl⟩, fun c h1 h2 => ?_, fun k hk => ?_⟩⟩)
  · rw [uc_s, u1_s]; rfl
  · rw [uc_n (by decide), uc_s, u1_n (by omega), u1_s]
  · rw [uc_n (by decide), uc_s, u1_s]
  · have hl : (([(o, v)] : List (Int × Int)).length : Int) = 1 := rfl
    rw [hl] at hk
    rw [uc_n (by decide), uc_s, u1_n (by omega), u1_n (by omega)]
  · rw [uc_n h1, uc_n h2]
  · rw [uc_s, u1_n (by omega)]
  · rw [uc_n h1, uc_n h2]
  · rw [uc_s, u1_n hk]
-- method 239: MillTownModel.push(I)V
theorem c_239_0 : pg_cd 239 0 = (5, 1, 0, 0, 0) := by decide +kernel
theorem c_239_1 : pg_cd 239 1 = (45, 12, 30, 15, 0) := by decide +kernel
theorem c_239_4 : pg_cd 239 4 = (5, 1, 0, 0, 0) := by decide +kernel
theorem c_239_5 : pg_cd 239 5 = (43, 12, 177, 16, 0) := by decide +kernel
theorem c_239_8 : pg_cd 239 8 = (3, 1, 0, 1, 0) := by decide +kernel
theorem c_239_9 : pg_cd 239 9 = (54, 1, 0, 0, 0) := by decide +kernel
theorem c_239_10 : pg_cd 239 10 = (5, 1, 0, 0, 0) := by decide +kernel
theorem c_239_11 : pg_cd 239 11 = (33, 1, 0, 0, 0) := by decide +kernel
theorem c_239_12 : pg_cd 239 12 = (43, 12, 177, 16, 0) := by decide +kernel
theorem c_239_15 : pg_cd 239 15 = (1, 1, 0, 0, 1) := by decide +kernel
theorem c_239_16 : pg_cd 239 16 = (10, 1, 0, 0, 0) := by decide +kernel
theorem c_239_17 : pg_cd 239 17 = (46, 12, 177, 16, 0) := by decide +kernel
theorem c_239_20 : pg_cd 239 20 = (94, 0, 0, 0, 0) := by decide +kernel
theorem mi_239 : pg_mc 239 = 12 ∧ pg_na 239 = 1 ∧ pg_mx 239 = 2 := by decide +kernel
set_option maxRecDepth 20000 in
theorem u_239_0 {d : Nat} {S : zS} {σ τ : zI} {Q : zQ} {x1 : Int} (t : (0 ≤ σ 83 16 ∧ σ 83 16 < 160) ∧ ∃ w3 : Int, wI w3 = wI x1 ∧ rg w3 ∧ ∃ w7 : Int, wI w7 = wI ((σ 83 16) + 1) ∧ rg w7 ∧ Q none S (uc (uc σ 88 (u1 (σ 88) (σ 83 16) w3)) 83 (u1 (σ 83) 16 w7)) τ) : wi (d + 0) 239 0 [.ref 83, .int (wI x1)] [] S σ τ Q := by
  refine i5 c_239_0 rfl (i45 c_239_1 (lo (c := 83) (kd := 112) (n := 0) rfl (by decide)) (lro (c := 83) (k := 15) (j := 88) (by decide)) (i5 c_239_4 rfl (wi_ok (fun K1 => ?_))))
  obtain ⟨r2, t⟩ := t
  obtain ⟨w3, e4, r5, t⟩ := t
  refine i43 (v := σ 83 16) c_239_5 (lo (c := 83) (kd := 112) (n := 0) rfl (by decide)) rfl (i3 c_239_8 rfl (i54 (σ1 := uc σ 88 (u1 (σ 88) (σ 83 16) w3)) c_239_9 (lo (c := 88) (kd := 0) (n := 160) rfl (by decide)) (by decide) r2 (by decide) e4 r5 (wr_ rfl rfl) (i5 c_239_10 rfl (i33a c_239_11 (wi_ok (fun K6 => ?_))))))
  obtain ⟨w7, e8, r9, t⟩ := t
  refine i43 (v := σ 83 16) c_239_12 (lo (c := 83) (kd := 112) (n := 0) rfl (by decide)) (congrFun (uc_ns rfl (by decide)) _) (i1 c_239_15 (i10 c_239_16 (i46 (σ1 := uc (uc σ 88 (u1 (σ 88) (σ 83 16) w3)) 83 (u1 (σ 83) 16 w7)) c_239_17 (lo (c := 83) (kd := 112) (n := 0) rfl (by decide)) (by decide) e8 r9 (wr_ (uc_ns rfl (by decide)) rfl) ?_)))
  exact i94 c_239_20 t
theorem q_239 {d : Nat} {S : zS} {σ τ : zI} {Q : zQ} {o : Int} (p0 : rg o) (p1 : 0 ≤ σ 83 16 ∧ σ 83 16 ≤ 150) (t : Q none S (uc (uc σ 88 (u1 (σ 88) (σ 83 16) o)) 83 (u1 (σ 83) 16 (σ 83 16 + 1))) τ) : wc (d + 0) 239 [.ref 83, .int (wI o)] S σ τ Q := by
  exact wc_of mi_239 rfl (u_239_0 ⟨by omega, o, rfl, p0, σ 83 16 + 1, rfl, by omega, t⟩)
theorem EB_f {σ σ1 : zI} (h : EB σ) (e12 : σ1 83 12 = σ 83 12) (e14 : 0 ≤ σ1 83 14 ∧ σ1 83 14 ≤ 310) : EB σ1 := ⟨by rw [e12]; exact h.1, e14⟩
/-- fields of reading set -/
theorem PF_u {σ τ : zI} {f : Int → Int} (h : ∀ k, k < 7 ∨ (11 ≤ k ∧ k < 16) ∨ 18 < k → f k = σ 83 k) : PF σ (uc σ 83 f) τ τ [] := PF_k (fun c h1 _ => uc_n h1) (fun k hk => by rw [uc_s]; exact h k hk) (fun _ _ => rfl) (fun _ _ => rfl)
/-- MINUS signs are put behind what they stand before -/
def WHo (σ σ1 : zI) (π : List Int) : Prop := (∀ τ, PF σ σ1 τ τ (eM π)) ∧ PIL σ1 (dm π) ∧ σ1 83 17 = σ 83 17 - (eM π).length ∧ σ1 83 18 = 1 ∧ (∀ c, c ≠ 83 → c ≠ 84 → σ1 c = σ c) ∧ ∀ k, k < 14 ∨ k = 15 ∨ 18 < k → σ1 83 k = σ 83 k
def SE (σ σ1 : zI) (l : Int) (π : List Int) : Prop := (∀ τ, PF σ σ1 τ τ (eSt l π)) ∧ PIL σ1 (ds l π) ∧ (∀ c, c ≠ 83 → c ≠ 84 → σ1 c = σ c) ∧ ∀ k, k < 14 ∨ k = 15 ∨ 16 < k → σ1 83 k = σ 83 k
-- method 240: MillTownModel.whole()V
theorem c_240_0 : pg_cd 240 0 = (5, 1, 0, 0, 0) := by decide +kernel
theorem c_240_1 : pg_cd 240 1 = (1, 1, 0, 0, 1) := by decide +kernel
theorem c_240_2 : pg_cd 240 2 = (47, 12, 180, 18, 0) := by decide +kernel
theorem c_240_5 : pg_cd 240 5 = (5, 1, 0, 0, 0) := by decide +kernel
theorem c_240_6 : pg_cd 240 6 = (43, 12, 177, 16, 0) := by decide +kernel
theorem c_240_9 : pg_cd 240 9 = (36, 3, 0, 5, 47) := by decide +kernel
theorem c_240_12 : pg_cd 240 12 = (5, 1, 0, 0, 0) := by decide +kernel
theorem c_240_13 : pg_cd 240 13 = (45, 12, 30, 15, 0) := by decide +kernel
theorem c_240_16 : pg_cd 240 16 = (5, 1, 0, 0, 0) := by decide +kernel
theorem c_240_17 : pg_cd 240 17 = (43, 12, 177, 16, 0) := by decide +kernel
theorem c_240_20 : pg_cd 240 20 = (1, 1, 0, 0, 1) := by decide +kernel
theorem c_240_21 : pg_cd 240 21 = (11, 1, 0, 0, 0) := by decide +kernel
theorem c_240_22 : pg_cd 240 22 = (50, 1, 0, 0, 0) := by decide +kernel
theorem c_240_23 : pg_cd 240 23 = (1, 1, 0, 0, 2) := by decide +kernel
theorem c_240_24 : pg_cd 240 24 = (37, 3, 0, 1, 32) := by decide +kernel
theorem c_240_27 : pg_cd 240 27 = (5, 1, 0, 0, 0) := by decide +kernel
theorem c_240_28 : pg_cd 240 28 = (33, 1, 0, 0, 0) := by decide +kernel
theorem c_240_29 : pg_cd 240 29 = (43, 12, 177, 16, 0) := by decide +kernel
theorem c_240_32 : pg_cd 240 32 = (1, 1, 0, 0, 1) := by decide +kernel
theorem c_240_33 : pg_cd 240 33 = (11, 1, 0, 0, 0) := by decide +kernel
theorem c_240_34 : pg_cd 240 34 = (46, 12, 177, 16, 0) := by decide +kernel
theorem c_240_37 : pg_cd 240 37 = (5, 1, 0, 0, 0) := by decide +kernel
theorem c_240_38 : pg_cd 240 38 = (33, 1, 0, 0, 0) := by decide +kernel
theorem c_240_39 : pg_cd 240 39 = (43, 12, 184, 17, 0) := by decide +kernel
theorem c_240_42 : pg_cd 240 42 = (1, 1, 0, 0, 1) := by decide +kernel
theorem c_240_43 : pg_cd 240 43 = (11, 1, 0, 0, 0) := by decide +kernel
theorem c_240_44 : pg_cd 240 44 = (46, 12, 184, 17, 0) := by decide +kernel
theorem c_240_47 : pg_cd 240 47 = (5, 1, 0, 0, 0) := by decide +kernel
theorem c_240_48 : pg_cd 240 48 = (1, 1, 0, 0, 2) := by decide +kernel
theorem c_240_49 : pg_cd 240 49 = (1, 1, 0, 0, 0) := by decide +kernel
theorem c_240_50 : pg_cd 240 50 = (80, 238, 187, 0, 0) := by decide +kernel
theorem c_240_53 : pg_cd 240 53 = (38, 3, 0, 0, (-48)) := by decide +kernel
theorem c_240_56 : pg_cd 240 56 = (94, 0, 0, 0, 0) := by decide +kernel
theorem mi_240 : pg_mc 240 = 12 ∧ pg_na 240 = 0 ∧ pg_mx 240 = 1 := by decide +kernel
set_option maxRecDepth 20000 in
theorem u_240_0 {d : Nat} {S : zS} {σ τ : zI} {Q : zQ} (t : wi (d + 2) 240 5 [.ref 83] [] S (uc σ 83 (u1 (σ 83) 18 1)) τ Q) : wi (d + 2) 240 0 [.ref 83] [] S σ τ Q := by
  refine i5 c_240_0 rfl (i1 c_240_1 (i47 (σ1 := uc σ 83 (u1 (σ 83) 18 1)) c_240_2 (lo (c := 83) (kd := 112) (n := 0) rfl (by decide)) (by decide) rfl (by decide) (wr_ rfl rfl) t))
set_option maxRecDepth 20000 in
theorem u_240_5 {d : Nat} {S : zS} {σ τ : zI} {Q : zQ} (t : if (σ 83 16) ≤ 0 then (Q none S σ τ) else ((0 ≤ (σ 83 16) - 1 ∧ (σ 83 16) - 1 < 160) ∧ if (σ 88 ((σ 83 16) - 1)) = 2 then (∃ w5 : Int, wI w5 = wI ((σ 83 16) - 1) ∧ rg w5 ∧ ∃ w9 : Int, wI w9 = wI ((σ 83 17) - 1) ∧ rg w9 ∧ (EB (uc σ 83 (u1 (u1 (σ 83) 16 w5) 17 w9))) ∧ ∀ (σ113 : zI), EM (uc σ 83 (u1 (u1 (σ 83) 16 w5) 17 w9)) σ113 2 0 → wi (d + 2) 240 5 [.ref 83] [] S σ113 τ Q) else (Q none S σ τ))) : wi (d + 2) 240 5 [.ref 83] [] S σ τ Q := by
  refine i5 c_240_5 rfl (wi_ok (fun K1 => ?_))
  refine i43 (v := σ 83 16) c_240_6 (lo (c := 83) (kd := 112) (n := 0) rfl (by decide)) rfl ?_
  refine i36 c_240_9 (rge_ K1 rfl) rfl (fun hc => ?_) (fun hc => ?_)
  · have t := iT t hc
    have ha2 : (σ 83 16) ≤ 0 := hc
    exact i94 c_240_56 t
  · have t := iF t hc
    have ha2 : ¬ ((σ 83 16) ≤ 0) := hc
    obtain ⟨r3, t⟩ := t
    refine i5 c_240_12 rfl (i45 c_240_13 (lo (c := 83) (kd := 112) (n := 0) rfl (by decide)) (lro (c := 83) (k := 15) (j := 88) (by decide)) (i5 c_240_16 rfl (i43 (v := σ 83 16) c_240_17 (lo (c := 83) (kd := 112) (n := 0) rfl (by decide)) rfl (i1 c_240_20 (i11 c_240_21 (i50 (v := σ 88 ((σ 83 16) - 1)) c_240_22 (lo (c := 88) (kd := 0) (n := 160) rfl (by decide)) (by decide) r3 rfl (i1 c_240_23 ?_)))))))
    refine i37 c_240_24 (rge_ K1 rfl) (by decide) rfl (fun hc => ?_) (fun hc => ?_)
    · have t := iF t hc
      have ha4 : ¬ ((σ 88 ((σ 83 16) - 1)) = 2) := hc
      exact i94 c_240_56 t
    · have t := iT t (Decidable.not_not.mp hc)
      have ha4 : (σ 88 ((σ 83 16) - 1)) = 2 := Decidable.not_not.mp hc
      obtain ⟨w5, e6, r7, t⟩ := t
      refine i5 c_240_27 rfl (i33a c_240_28 (i43 (v := σ 83 16) c_240_29 (lo (c := 83) (kd := 112) (n := 0) rfl (by decide)) rfl (i1 c_240_32 (i11 c_240_33 (i46 (σ1 := uc σ 83 (u1 (σ 83) 16 w5)) c_240_34 (lo (c := 83) (kd := 112) (n := 0) rfl (by decide)) (by decide) e6 r7 (wr_ rfl rfl) (i5 c_240_37 rfl (i33a c_240_38 (wi_ok (fun K8 => ?_)))))))))
      obtain ⟨w9, e10, r11, t⟩ := t
      obtain ⟨p12, t⟩ := t
      refine i43 (v := σ 83 17) c_240_39 (lo (c := 83) (kd := 112) (n := 0) rfl (by decide)) ((congrFun (uc_s _ _ _) _).trans (u1_n (by decide))) (i1 c_240_42 (i11 c_240_43 (i46 (σ1 := uc σ 83 (u1 (u1 (σ 83) 16 w5) 17 w9)) c_240_44 (lo (c := 83) (kd := 112) (n := 0) rfl (by decide)) (by decide) e10 r11 (wr_ (uc_s _ _ _) (uc_uc _ _ _ _)) (i5 c_240_47 rfl (i1 c_240_48 (i1 c_240_49 ?_))))))
      refine i80 (As := [.int (wI 2), .int (wI 0)]) (rest := []) c_240_50 mi_238 rfl rfl (Nat.le_of_ble_eq_true rfl) (Nat.le_of_ble_eq_true rfl) (lo (c := 83) (kd := 112) (n := 0) rfl (by decide)) (q_238 (by decide) (by decide) p12 (fun σ113 q14 => ?_))
      have t := t σ113 q14
      show wi (d + 2) 240 53 [.ref 83] [] S σ113 τ Q
      refine i38 c_240_53 rfl t
theorem q_240 {d : Nat} {S : zS} {σ τ : zI} {Q : zQ} {pl : List Int} (p0 : PIL σ pl) (p1 : pl.length ≤ 150) (p2 : EB σ) (p3 : σ 83 14 + pl.length ≤ 300) (p4 : 0 ≤ σ 83 17 ∧ σ 83 17 ≤ 1000) (t : ∀ (σ1 : zI), WHo σ σ1 pl → Q none S σ1 τ) : wc (d + 2) 240 [.ref 83] S σ τ Q := by
  have lp : ∀ (π : List Int) (σ : zI), PIL σ π → π.length ≤ 150 → EB σ → σ 83 14 + π.length ≤ 300 → -1000 ≤ σ 83 17 - π.length ∧ σ 83 17 ≤ 1000 → σ 83 18 = 1 → (∀ σ1, WHo σ σ1 π → Q none S σ1 τ) → wi (d + 2) 240 5 [.ref 83] [] S σ τ Q := by
    intro π
    induction π with
    | nil =>
      intro σ p l e b o h18 t
      have p16 : σ 83 16 = 0 := p.1
      exact u_240_5 (ifI (fun _ => t σ ⟨fun τ => PF_0, p, by show σ 83 17 = σ 83 17 - 0; omega, h18, fun _ _ _ => rfl, fun _ _ => rfl⟩) (fun z => by omega))
    | cons x π ih =>
      intro σ p l e b o h18 t
      have hl : ((x :: π).length : Int) = (π.length : Int) + 1 := by rw [List.length_cons]; omega
      have p16 : σ 83 16 = (π.length : Int) + 1 := by rw [p.1, hl]
      have px : σ 88 (π.length : Int) = x := p.2.1
      have e16 : σ 83 16 - 1 = π.length := by omega
      have lb : (π.length : Int) + 1 ≤ 150 := by have := l; rw [List.length_cons] at this; omega
      rw [hl] at b o
      refine u_240_5 ?_
      rw [e16, px]
      refine ifI (fun z => by omega) (fun _ => ⟨by omega, ifI (fun ex => ?_) (fun ex => ?_)⟩)
      · refine ⟨(π.length : Int), rfl, by omega, σ 83 17 - 1, rfl, by omega, ?_, fun σ2 em => ?_⟩
        · exact EB_f e (by rw [uc_s, u1_n (by omega), u1_n (by omega)]) (by rw [uc_s, u1_n (by omega), u1_n (by omega)]; omega)
        obtain ⟨m1, m2, m3⟩ := em
        have q : ∀ k, k ≠ 14 → k ≠ 16 → k ≠ 17 → σ2 83 k = σ 83 k := fun k k1 k2 k3 => by rw [m3 k k1, uc_s, u1_n k3, u1_n k2]
        have q14 : σ2 83 14 = σ 83 14 + 1 := by
          have := (m1 τ).1.1
          rw [uc_s, u1_n (by omega), u1_n (by omega)] at this
          exact this
        have q16 : σ2 83 16 = π.length := by rw [m3 16 (by omega), uc_s, u1_n (by omega), u1_s]
        have q17 : σ2 83 17 = σ 83 17 - 1 := by rw [m3 17 (by omega), uc_s, u1_s]
        have q88 : σ2 88 = σ 88 := by rw [m2 88 (by decide) (by decide), uc_n (by decide)]
        have h0 : ∀ τ, PF σ σ2 τ τ [(2, 0)] := fun τ => by
          have := PF_t (PF_u (σ := σ) (τ := τ) (f := u1 (u1 (σ 83) 16 π.length) 17 (σ 83 17 - 1)) (fun k hk => by rw [u1_n (by omega), u1_n (by omega)])) (m1 τ)
          exact this
        have eM' : eM (x :: π) = (2, 0) :: eM π := if_pos ex
        have dm' : dm (x :: π) = dm π := if_pos ex
        refine ih σ2 ⟨q16, by rw [q88]; exact p.2.2⟩ (by have := l; rw [List.length_cons] at this; omega) (EB_f e (q 12 (by omega) (by omega) (by omega)) (by omega)) (by rw [q14]; omega) (by rw [q17]; omega) (by rw [q 18 (by omega) (by omega) (by omega)]; exact h18) (fun σ1 w => t σ1 ?_)
        obtain ⟨w1, w2, w3, w4, w5, w6⟩ := w
        refine ⟨fun τ => by rw [eM']; exact PF_t (h0 τ) (w1 τ), by rw [dm']; exact w2, ?_, w4, fun c h1 h2 => ?_, fun k hk => ?_⟩
        · rw [w3, q17, eM', List.length_cons]; omega
        · rw [w5 c h1 h2, m2 c h1 h2, uc_n h1]
        · rw [w6 k hk, q k (by omega) (by omega) (by omega)]
      · have eM' : eM (x :: π) = [] := if_neg ex
        have dm' : dm (x :: π) = x :: π := if_neg ex
        exact t σ ⟨fun τ => by rw [eM']; exact PF_0, by rw [dm']; exact p, by rw [eM']; show σ 83 17 = σ 83 17 - 0; omega, h18, fun _ _ _ => rfl, fun _ _ => rfl⟩
  refine wc_of mi_240 rfl (u_240_0 (lp pl _ ?_ p1 ?_ ?_ ?_ ?_ (fun σ1 w => t σ1 ?_)))
  · exact ⟨by rw [uc_s, u1_n (by omega)]; exact p0.1, by rw [uc_n (by decide)]; exact p0.2⟩
  · exact EB_f p2 (by rw [uc_s, u1_n (by omega)]) (by rw [uc_s, u1_n (by omega)]; exact p2.2)
  · rw [uc_s, u1_n (by omega)]; exact p3
  · rw [uc_s, u1_n (by omega)]; omega
  · rw [uc_s, u1_s]
  · obtain ⟨w1, w2, w3, w4, w5, w6⟩ := w
    refine ⟨fun τ => ?_, w2, by rw [w3, uc_s, u1_n (by omega)], w4, fun c h1 h2 => by rw [w5 c h1 h2, uc_n h1], fun k hk => by rw [w6 k hk, uc_s, u1_n (by omega)]⟩
    exact PF_t (PF_u (σ := σ) (τ := τ) (f := u1 (σ 83) 18 1) (fun k hk => u1_n (by omega))) (w1 τ)
-- method 241: MillTownModel.settle(I)V
theorem c_241_0 : pg_cd 241 0 = (5, 1, 0, 0, 0) := by decide +kernel
theorem c_241_1 : pg_cd 241 1 = (43, 12, 177, 16, 0) := by decide +kernel
theorem c_241_4 : pg_cd 241 4 = (36, 3, 0, 5, 61) := by decide +kernel
theorem c_241_7 : pg_cd 241 7 = (5, 1, 0, 0, 0) := by decide +kernel
theorem c_241_8 : pg_cd 241 8 = (45, 12, 30, 15, 0) := by decide +kernel
theorem c_241_11 : pg_cd 241 11 = (5, 1, 0, 0, 0) := by decide +kernel
theorem c_241_12 : pg_cd 241 12 = (43, 12, 177, 16, 0) := by decide +kernel
theorem c_241_15 : pg_cd 241 15 = (1, 1, 0, 0, 1) := by decide +kernel
theorem c_241_16 : pg_cd 241 16 = (11, 1, 0, 0, 0) := by decide +kernel
theorem c_241_17 : pg_cd 241 17 = (50, 1, 0, 0, 0) := by decide +kernel
theorem c_241_18 : pg_cd 241 18 = (1, 2, 0, 0, 40) := by decide +kernel
theorem c_241_20 : pg_cd 241 20 = (37, 3, 0, 3, 45) := by decide +kernel
theorem c_241_23 : pg_cd 241 23 = (5, 1, 0, 0, 0) := by decide +kernel
theorem c_241_24 : pg_cd 241 24 = (45, 12, 30, 15, 0) := by decide +kernel
theorem c_241_27 : pg_cd 241 27 = (5, 1, 0, 0, 0) := by decide +kernel
theorem c_241_28 : pg_cd 241 28 = (43, 12, 177, 16, 0) := by decide +kernel
theorem c_241_31 : pg_cd 241 31 = (1, 1, 0, 0, 1) := by decide +kernel
theorem c_241_32 : pg_cd 241 32 = (11, 1, 0, 0, 0) := by decide +kernel
theorem c_241_33 : pg_cd 241 33 = (50, 1, 0, 0, 0) := by decide +kernel
theorem c_241_34 : pg_cd 241 34 = (3, 1, 0, 1, 0) := by decide +kernel
theorem c_241_35 : pg_cd 241 35 = (37, 3, 0, 2, 30) := by decide +kernel
theorem c_241_38 : pg_cd 241 38 = (5, 1, 0, 0, 0) := by decide +kernel
theorem c_241_39 : pg_cd 241 39 = (33, 1, 0, 0, 0) := by decide +kernel
theorem c_241_40 : pg_cd 241 40 = (43, 12, 177, 16, 0) := by decide +kernel
theorem c_241_43 : pg_cd 241 43 = (1, 1, 0, 0, 1) := by decide +kernel
theorem c_241_44 : pg_cd 241 44 = (11, 1, 0, 0, 0) := by decide +kernel
theorem c_241_45 : pg_cd 241 45 = (46, 12, 177, 16, 0) := by decide +kernel
theorem c_241_48 : pg_cd 241 48 = (5, 1, 0, 0, 0) := by decide +kernel
theorem c_241_49 : pg_cd 241 49 = (5, 1, 0, 0, 0) := by decide +kernel
theorem c_241_50 : pg_cd 241 50 = (45, 12, 30, 15, 0) := by decide +kernel
theorem c_241_53 : pg_cd 241 53 = (5, 1, 0, 0, 0) := by decide +kernel
theorem c_241_54 : pg_cd 241 54 = (43, 12, 177, 16, 0) := by decide +kernel
theorem c_241_57 : pg_cd 241 57 = (50, 1, 0, 0, 0) := by decide +kernel
theorem c_241_58 : pg_cd 241 58 = (1, 1, 0, 0, 0) := by decide +kernel
theorem c_241_59 : pg_cd 241 59 = (80, 238, 187, 0, 0) := by decide +kernel
theorem c_241_62 : pg_cd 241 62 = (38, 3, 0, 0, (-62)) := by decide +kernel
theorem c_241_65 : pg_cd 241 65 = (94, 0, 0, 0, 0) := by decide +kernel
theorem mi_241 : pg_mc 241 = 12 ∧ pg_na 241 = 1 ∧ pg_mx 241 = 2 := by decide +kernel
set_option maxRecDepth 20000 in
theorem u_241_0 {d : Nat} {S : zS} {σ τ : zI} {Q : zQ} {x1 : Int} (t : if (σ 83 16) ≤ 0 then (Q none S σ τ) else ((0 ≤ (σ 83 16) - 1 ∧ (σ 83 16) - 1 < 160) ∧ if (40 : Int) ≤ (σ 88 ((σ 83 16) - 1)) then (Q none S σ τ) else ((rg x1) ∧ if (σ 88 ((σ 83 16) - 1)) < x1 then (Q none S σ τ) else (∃ w7 : Int, wI w7 = wI ((σ 83 16) - 1) ∧ rg w7 ∧ (0 ≤ w7 ∧ w7 < 160) ∧ (EB (uc σ 83 (u1 (σ 83) 16 w7))) ∧ ∀ (σ113 : zI), EM (uc σ 83 (u1 (σ 83) 16 w7)) σ113 (σ 88 w7) 0 → wi (d + 2) 241 0 [.ref 83, .int (wI x1)] [] S σ113 τ Q)))) : wi (d + 2) 241 0 [.ref 83, .int (wI x1)] [] S σ τ Q := by
  refine i5 c_241_0 rfl (wi_ok (fun K1 => ?_))
  refine i43 (v := σ 83 16) c_241_1 (lo (c := 83) (kd := 112) (n := 0) rfl (by decide)) rfl ?_
  refine i36 c_241_4 (rge_ K1 rfl) rfl (fun hc => ?_) (fun hc => ?_)
  · have t := iT t hc
    have ha2 : (σ 83 16) ≤ 0 := hc
    exact i94 c_241_65 t
  · have t := iF t hc
    have ha2 : ¬ ((σ 83 16) ≤ 0) := hc
    obtain ⟨r3, t⟩ := t
    refine i5 c_241_7 rfl (i45 c_241_8 (lo (c := 83) (kd := 112) (n := 0) rfl (by decide)) (lro (c := 83) (k := 15) (j := 88) (by decide)) (i5 c_241_11 rfl (i43 (v := σ 83 16) c_241_12 (lo (c := 83) (kd := 112) (n := 0) rfl (by decide)) rfl (i1 c_241_15 (i11 c_241_16 (i50 (v := σ 88 ((σ 83 16) - 1)) c_241_17 (lo (c := 88) (kd := 0) (n := 160) rfl (by decide)) (by decide) r3 rfl (i1 c_241_18 ?_)))))))
    refine i37 c_241_20 (rge_ K1 rfl) (by decide) rfl (fun hc => ?_) (fun hc => ?_)
    · have t := iT t hc
      have ha4 : (40 : Int) ≤ (σ 88 ((σ 83 16) - 1)) := hc
      exact i94 c_241_65 t
    · have t := iF t hc
      have ha4 : ¬ ((40 : Int) ≤ (σ 88 ((σ 83 16) - 1))) := hc
      obtain ⟨r5, t⟩ := t
      refine i5 c_241_23 rfl (i45 c_241_24 (lo (c := 83) (kd := 112) (n := 0) rfl (by decide)) (lro (c := 83) (k := 15) (j := 88) (by decide)) (i5 c_241_27 rfl (i43 (v := σ 83 16) c_241_28 (lo (c := 83) (kd := 112) (n := 0) rfl (by decide)) rfl (i1 c_241_31 (i11 c_241_32 (i50 (v := σ 88 ((σ 83 16) - 1)) c_241_33 (lo (c := 88) (kd := 0) (n := 160) rfl (by decide)) (by decide) r3 rfl (i3 c_241_34 rfl ?_)))))))
      refine i37 c_241_35 (rge_ K1 rfl) r5 rfl (fun hc => ?_) (fun hc => ?_)
      · have t := iT t hc
        have ha6 : (σ 88 ((σ 83 16) - 1)) < x1 := hc
        exact i94 c_241_65 t
      · have t := iF t hc
        have ha6 : ¬ ((σ 88 ((σ 83 16) - 1)) < x1) := hc
        obtain ⟨w7, e8, r9, t⟩ := t
        refine i5 c_241_38 rfl (i33a c_241_39 (i43 (v := σ 83 16) c_241_40 (lo (c := 83) (kd := 112) (n := 0) rfl (by decide)) rfl (i1 c_241_43 (i11 c_241_44 (i46 (σ1 := uc σ 83 (u1 (σ 83) 16 w7)) c_241_45 (lo (c := 83) (kd := 112) (n := 0) rfl (by decide)) (by decide) e8 r9 (wr_ rfl rfl) (i5 c_241_48 rfl (i5 c_241_49 rfl (i45 c_241_50 (lo (c := 83) (kd := 112) (n := 0) rfl (by decide)) (lro (c := 83) (k := 15) (j := 88) (by decide)) (i5 c_241_53 rfl (wi_ok (fun K10 => ?_)))))))))))
        obtain ⟨r11, t⟩ := t
        obtain ⟨p12, t⟩ := t
        refine i43 (v := w7) c_241_54 (lo (c := 83) (kd := 112) (n := 0) rfl (by decide)) ((congrFun (uc_s _ _ _) _).trans (u1_s _ _ _)) (i50 (v := σ 88 w7) c_241_57 (lo (c := 88) (kd := 0) (n := 160) rfl (by decide)) (by decide) r11 (congrFun (uc_ns rfl (by decide)) _) (i1 c_241_58 ?_))
        refine i80 (As := [.int (wI (σ 88 w7)), .int (wI 0)]) (rest := []) c_241_59 mi_238 rfl rfl (Nat.le_of_ble_eq_true rfl) (Nat.le_of_ble_eq_true rfl) (lo (c := 83) (kd := 112) (n := 0) rfl (by decide)) (q_238 (rge_ K10 (congrFun (uc_ns rfl (by decide)) _)) (by decide) p12 (fun σ113 q14 => ?_))
        have t := t σ113 q14
        show wi (d + 2) 241 62 [.ref 83, .int (wI x1)] [] S σ113 τ Q
        refine i38 c_241_62 rfl t
theorem q_241 {d : Nat} {S : zS} {σ τ : zI} {Q : zQ} {l : Int} {pl : List Int} (p0 : rg l) (p1 : PIL σ pl) (p2 : pl.length ≤ 150) (p3 : EB σ) (p4 : σ 83 14 + pl.length ≤ 300) (t : ∀ (σ1 : zI), SE σ σ1 l pl → Q none S σ1 τ) : wc (d + 2) 241 [.ref 83, .int (wI l)] S σ τ Q := by
  have lp : ∀ (π : List Int) (σ : zI), PIL σ π → π.length ≤ 150 → EB σ → σ 83 14 + π.length ≤ 300 → (∀ σ1, SE σ σ1 l π → Q none S σ1 τ) → wi (d + 2) 241 0 [.ref 83, .int (wI l)] [] S σ τ Q := by
    intro π
    induction π with
    | nil =>
      intro σ p lb e b t
      have p16 : σ 83 16 = 0 := p.1
      exact u_241_0 (ifI (fun _ => t σ ⟨fun τ => PF_0, p, fun _ _ _ => rfl, fun _ _ => rfl⟩) (fun z => by omega))
    | cons x π ih =>
      intro σ p lb e b t
      have hl : ((x :: π).length : Int) = (π.length : Int) + 1 := by rw [List.length_cons]; omega
      have p16 : σ 83 16 = (π.length : Int) + 1 := by rw [p.1, hl]
      have px : σ 88 (π.length : Int) = x := p.2.1
      have e16 : σ 83 16 - 1 = π.length := by omega
      have lb1 : (π.length : Int) + 1 ≤ 150 := by have := lb; rw [List.length_cons] at this; omega
      rw [hl] at b
      have stop : ¬ (x < 40 ∧ l ≤ x) → Q none S σ τ := fun n => by
        have e1 : eSt l (x :: π) = [] := if_neg n
        have e2 : ds l (x :: π) = x :: π := if_neg n
        exact t σ ⟨fun τ => by rw [e1]; exact PF_0, by rw [e2]; exact p, fun _ _ _ => rfl, fun _ _ => rfl⟩
      refine wi_ok fun K => ?_
      have rx := kO_r K 88 (π.length : Int)
      rw [px] at rx
      refine u_241_0 ?_
      rw [e16, px]
      refine ifI (fun z => by omega) (fun _ => ⟨by omega, ifI (fun ex => stop (fun z => by omega)) (fun ex => ⟨p0, ifI (fun ey => stop (fun z => by omega)) (fun ey => ⟨(π.length : Int), rfl, by omega, by omega, ?_, fun σ2 em => ?_⟩)⟩)⟩)
      · exact EB_f e (by rw [uc_s, u1_n (by omega)]) (by rw [uc_s, u1_n (by omega)]; omega)
      rw [px] at em
      have yes : x < 40 ∧ l ≤ x := by omega
      obtain ⟨m1, m2, m3⟩ := em
      have q : ∀ k, k ≠ 14 → k ≠ 16 → σ2 83 k = σ 83 k := fun k k1 k2 => by rw [m3 k k1, uc_s, u1_n k2]
      have q14 : σ2 83 14 = σ 83 14 + 1 := by
        have := (m1 τ).1.1
        rw [uc_s, u1_n (by omega)] at this
        exact this
      have q16 : σ2 83 16 = π.length := by rw [m3 16 (by omega), uc_s, u1_s]
      have q88 : σ2 88 = σ 88 := by rw [m2 88 (by decide) (by decide), uc_n (by decide)]
      have h0 : ∀ τ, PF σ σ2 τ τ [(x, 0)] := fun τ => by
        have := PF_t (PF_u (σ := σ) (τ := τ) (f := u1 (σ 83) 16 π.length) (fun k hk => u1_n (by omega))) (m1 τ)
        exact this
      have eSt' : eSt l (x :: π) = (x, 0) :: eSt l π := if_pos yes
      have ds' : ds l (x :: π) = ds l π := if_pos yes
      refine ih σ2 ⟨q16, by rw [q88]; exact p.2.2⟩ (by have := lb; rw [List.length_cons] at this; omega) (EB_f e (q 12 (by omega) (by omega)) (by omega)) (by rw [q14]; omega) (fun σ1 w => t σ1 ?_)
      obtain ⟨w1, w2, w5, w6⟩ := w
      refine ⟨fun τ => by rw [eSt']; exact PF_t (h0 τ) (w1 τ), by rw [ds']; exact w2, fun c h1 h2 => ?_, fun k hk => ?_⟩
      · rw [w5 c h1 h2, m2 c h1 h2, uc_n h1]
      · rw [w6 k hk, q k (by omega) (by omega)]
  exact wc_of mi_241 rfl (lp pl σ p1 p2 p3 p4 t)
