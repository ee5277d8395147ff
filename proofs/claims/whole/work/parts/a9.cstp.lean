/-! ===== the class reads: steps written (segments printed by wip/whole, contracts own work) ===== -/
/-- steps in a TEXT of the class -/
def CWL (f : Int → Int) : Int → List (Int × Int) → Prop
  | _, [] => True
  | i, y :: t => f i = stE y.1 y.2 ∧ CWL f (i + 1) t
theorem CWL_f {f g : Int → Int} : ∀ (L : List (Int × Int)) (i : Int), (∀ k, i ≤ k → k < i + L.length → g k = f k) → CWL f i L → CWL g i L
  | [], _, _, _ => trivial
  | y :: t, i, h, p => by
    have hl : ((y :: t).length : Int) = (t.length : Int) + 1 := by rw [List.length_cons]; omega
    exact ⟨by rw [h i (by omega) (by omega)]; exact p.1, CWL_f t (i + 1) (fun k k0 k1 => h k (by omega) (by omega)) p.2⟩
theorem CWL_a {f : Int → Int} : ∀ (L M : List (Int × Int)) (i : Int), CWL f i L → CWL f (i + L.length) M → CWL f i (L ++ M)
  | [], M, i, _, h => by
    have : i + (([] : List (Int × Int)).length : Int) = i := by rw [List.length_nil]; omega
    rw [this] at h
    exact h
  | y :: t, M, i, g, h => by
    have hl : ((y :: t).length : Int) = (t.length : Int) + 1 := by rw [List.length_cons]; omega
    refine ⟨g.1, CWL_a t M (i + 1) g.2 ?_⟩
    rw [show i + 1 + (t.length : Int) = i + ((y :: t).length : Int) by omega]
    exact h
/-- what reading into a TEXT leaves alone, also behind a fault -/
def CJ (x : Nat) (σ σ1 : zI) : Prop := (∀ c, c ≠ x → c ≠ x + 3 → c ≠ 63 → σ1 c = σ c) ∧ (∀ k, k ≠ 2 → σ1 x k = σ x k) ∧ (∀ k, k < 3 ∨ 6 < k → σ1 63 k = σ 63 k) ∧ (0 ≤ σ x 2 ∧ σ x 2 ≤ 300 → 0 ≤ σ1 x 2 ∧ σ1 x 2 ≤ 300)
/-- steps written -/
def CW (x : Nat) (σ σ1 : zI) (L : List (Int × Int)) : Prop := σ1 x 2 = σ x 2 + L.length ∧ CWL (σ1 (x + 3)) (σ x 2) L ∧ ∀ k, k < σ x 2 → σ1 (x + 3) k = σ (x + 3) k
section CWS
variable {x : Nat} {σ σ1 σ2 : zI} {L M : List (Int × Int)}
theorem CJ_0 : CJ x σ σ := ⟨fun _ _ _ _ => rfl, fun _ _ => rfl, fun _ _ => rfl, fun h => h⟩
theorem CJ_t (h : CJ x σ σ1) (g : CJ x σ1 σ2) : CJ x σ σ2 := ⟨fun c h1 h2 h3 => (g.1 c h1 h2 h3).trans (h.1 c h1 h2 h3), fun k hk => (g.2.1 k hk).trans (h.2.1 k hk), fun k hk => (g.2.2.1 k hk).trans (h.2.2.1 k hk), fun hh => g.2.2.2 (h.2.2.2 hh)⟩
theorem CJ_k (hx : 63 < x) (h : CK σ σ1) : CJ x σ σ1 := ⟨fun c _ _ h3 => h.1 c h3, fun k _ => by rw [h.1 x (by omega)], h.2, fun hh => by rw [h.1 x (by omega)]; exact hh⟩
theorem CW_0 : CW x σ σ [] := ⟨by rw [List.length_nil]; omega, trivial, fun _ _ => rfl⟩
theorem CW_k (hx : 63 < x) (h : CK σ σ1) : CW x σ σ1 [] := ⟨by rw [h.1 x (by omega), List.length_nil]; omega, trivial, fun k _ => by rw [h.1 (x + 3) (by omega)]⟩
theorem CW_t (h : CW x σ σ1 L) (g : CW x σ1 σ2 M) : CW x σ σ2 (L ++ M) := by
  obtain ⟨h1, h2, h3⟩ := h
  obtain ⟨g1, g2, g3⟩ := g
  have hl : ((L ++ M).length : Int) = (L.length : Int) + (M.length : Int) := by rw [List.length_append]; omega
  rw [h1] at g2 g3
  exact ⟨by rw [g1, h1, hl]; omega, CWL_a L M _ (CWL_f L _ (fun k k0 k1 => g3 k (by omega)) h2) g2, fun k hk => by rw [g3 k (by omega), h3 k hk]⟩
/-- the class stands where it stood -/
theorem CR_j {T : Int → Int} {n s : Int} (hx : 63 < x) (h : CR T n s σ) (j : CJ x σ σ1) (e : σ1 63 = σ 63) (h64 : x ≠ 64 ∧ x ≠ 65 ∧ x ≠ 66) : CR T n s σ1 := by
  obtain ⟨cnt, i, ct, hi, hs, h3, h4, h5⟩ := h
  exact ⟨cnt, i, CT_f ct (j.1 64 (by omega) (by omega) (by omega)) (j.1 65 (by omega) (by omega) (by omega)) (j.1 66 (by omega) (by omega) (by omega)), hi, hs, by rw [e]; exact h3, by rw [e]; exact h4, by rw [e]; exact h5⟩
end CWS
-- method 84: MillTown$Text.addStep(II)V
theorem c_84_0 : pg_cd 84 0 = (5, 1, 0, 0, 0) := by decide +kernel
theorem c_84_1 : pg_cd 84 1 = (43, 7, 28, 2, 0) := by decide +kernel
theorem c_84_4 : pg_cd 84 4 = (5, 1, 0, 0, 0) := by decide +kernel
theorem c_84_5 : pg_cd 84 5 = (45, 7, 20, 1, 0) := by decide +kernel
theorem c_84_8 : pg_cd 84 8 = (58, 0, 0, 0, 0) := by decide +kernel
theorem c_84_9 : pg_cd 84 9 = (37, 3, 0, 3, 29) := by decide +kernel
theorem c_84_12 : pg_cd 84 12 = (5, 1, 0, 0, 0) := by decide +kernel
theorem c_84_13 : pg_cd 84 13 = (45, 7, 20, 1, 0) := by decide +kernel
theorem c_84_16 : pg_cd 84 16 = (5, 1, 0, 0, 0) := by decide +kernel
theorem c_84_17 : pg_cd 84 17 = (43, 7, 28, 2, 0) := by decide +kernel
theorem c_84_20 : pg_cd 84 20 = (3, 1, 0, 1, 0) := by decide +kernel
theorem c_84_21 : pg_cd 84 21 = (1, 3, 0, 0, 10000) := by decide +kernel
theorem c_84_24 : pg_cd 84 24 = (12, 1, 0, 0, 0) := by decide +kernel
theorem c_84_25 : pg_cd 84 25 = (3, 1, 0, 2, 0) := by decide +kernel
theorem c_84_26 : pg_cd 84 26 = (10, 1, 0, 0, 0) := by decide +kernel
theorem c_84_27 : pg_cd 84 27 = (54, 1, 0, 0, 0) := by decide +kernel
theorem c_84_28 : pg_cd 84 28 = (5, 1, 0, 0, 0) := by decide +kernel
theorem c_84_29 : pg_cd 84 29 = (33, 1, 0, 0, 0) := by decide +kernel
theorem c_84_30 : pg_cd 84 30 = (43, 7, 28, 2, 0) := by decide +kernel
theorem c_84_33 : pg_cd 84 33 = (1, 1, 0, 0, 1) := by decide +kernel
theorem c_84_34 : pg_cd 84 34 = (10, 1, 0, 0, 0) := by decide +kernel
theorem c_84_35 : pg_cd 84 35 = (46, 7, 28, 2, 0) := by decide +kernel
theorem c_84_38 : pg_cd 84 38 = (94, 0, 0, 0, 0) := by decide +kernel
theorem mi_84 : pg_mc 84 = 7 ∧ pg_na 84 = 2 ∧ pg_mx 84 = 3 := by decide +kernel
set_option maxRecDepth 20000 in
theorem u_84_0 {d : Nat} {S : zS} {σ τ : zI} {Q : zQ} {x0 : Nat} {x1 : Int} {x2 : Int} (hx0 : oT S x0) (t : if (300 : Int) ≤ (σ x0 2) then (Q none S σ τ) else ((0 ≤ σ x0 2 ∧ σ x0 2 < 300) ∧ ∃ w4 : Int, wI w4 = wI ((x1 * 10000) + x2) ∧ rg w4 ∧ ∃ w8 : Int, wI w8 = wI ((σ x0 2) + 1) ∧ rg w8 ∧ Q none S (uc (uc σ (x0 + 3) (u1 (σ (x0 + 3)) (σ x0 2) w4)) x0 (u1 (σ x0) 2 w8)) τ)) : wi (d + 3) 84 0 [.ref x0, .int (wI x1), .int (wI x2)] [] S σ τ Q := by
  refine i5 c_84_0 rfl (wi_ok (fun K1 => ?_))
  refine i43 (v := σ x0 2) c_84_1 (fun _ => oT_0 hx0) rfl (i5 c_84_4 rfl (i45 c_84_5 (fun _ => oT_0 hx0) (fun _ => oT_r1 hx0) (i58 (v := 300) c_84_8 (fun _ => oT_3 hx0) rfl ?_)))
  refine i37 c_84_9 (rge_ K1 rfl) (by decide) rfl (fun hc => ?_) (fun hc => ?_)
  · have t := iT t hc
    have ha2 : (300 : Int) ≤ (σ x0 2) := hc
    exact i94 c_84_38 t
  · have t := iF t hc
    have ha2 : ¬ ((300 : Int) ≤ (σ x0 2)) := hc
    obtain ⟨r3, t⟩ := t
    obtain ⟨w4, e5, r6, t⟩ := t
    refine i5 c_84_12 rfl (i45 c_84_13 (fun _ => oT_0 hx0) (fun _ => oT_r1 hx0) (i5 c_84_16 rfl (i43 (v := σ x0 2) c_84_17 (fun _ => oT_0 hx0) rfl (i3 c_84_20 rfl (i1 c_84_21 (i12 c_84_24 (i3 c_84_25 rfl (i10 c_84_26 (i54 (σ1 := uc σ (x0 + 3) (u1 (σ (x0 + 3)) (σ x0 2) w4)) c_84_27 (fun _ => oT_3 hx0) (by decide) r3 (isR_b (by have := oT_b hx0; omega)) e5 r6 (wr_ rfl rfl) (i5 c_84_28 rfl (i33a c_84_29 (wi_ok (fun K7 => ?_)))))))))))))
    obtain ⟨w8, e9, r10, t⟩ := t
    refine i43 (v := σ x0 2) c_84_30 (fun _ => oT_0 hx0) (congrFun (uc_ns rfl (by have := oT_b hx0; have := oT_b hx0; omega)) _) (i1 c_84_33 (i10 c_84_34 (i46 (σ1 := uc (uc σ (x0 + 3) (u1 (σ (x0 + 3)) (σ x0 2) w4)) x0 (u1 (σ x0) 2 w8)) c_84_35 (fun _ => oT_0 hx0) (isR_b (by have := oT_b hx0; omega)) e9 r10 (wr_ (uc_ns rfl (by have := oT_b hx0; have := oT_b hx0; omega)) rfl) ?_)))
    exact i94 c_84_38 t
theorem q_84 {d : Nat} {S : zS} {σ τ : zI} {Q : zQ} {x : Nat} {o : Int} {v : Int} (hx : oT S x) (p0 : 0 ≤ σ x 2 ∧ σ x 2 ≤ 300) (p1 : rg (o * 10000 + v)) (t : ∀ (σ1 : zI), CJ x σ σ1 → σ1 63 = σ 63 → (σ x 2 < 300 → σ1 x 2 = σ x 2 + 1 ∧ σ1 (x + 3) = u1 (σ (x + 3)) (σ x 2) (o * 10000 + v)) → Q none S σ1 τ) : wc (d + 3) 84 [.ref x, .int (wI o), .int (wI v)] S σ τ Q := by
  have xb := oT_b hx
  refine wc_of mi_84 rfl (u_84_0 hx (ifI (fun e => t σ CJ_0 rfl (fun z => by omega)) (fun e => ⟨by omega, o * 10000 + v, rfl, p1, σ x 2 + 1, rfl, by omega, ?_⟩)))
  refine t _ ⟨fun c h1 h2 h3 => ?_, fun k hk => ?_, fun k hk => ?_, fun _ => ?_⟩ ?_ (fun _ => ⟨?_, ?_⟩)
  · rw [uc_n h1, uc_n h2]
  · rw [uc_s, u1_n hk]
  · rw [uc_n (by omega), uc_n (by omega)]
  · rw [uc_s, u1_s]; omega
  · rw [uc_n (by omega), uc_n (by omega)]
  · rw [uc_s, u1_s]
  · rw [uc_n (by omega), uc_s]
theorem CW_1 {x : Nat} {σ σ1 : zI} {v : Int} {y : Int × Int} (h : σ1 x 2 = σ x 2 + 1 ∧ σ1 (x + 3) = u1 (σ (x + 3)) (σ x 2) v) (e : v = stE y.1 y.2) : CW x σ σ1 [y] := by
  refine ⟨?_, ⟨?_, trivial⟩, fun k hk => ?_⟩
  · rw [h.1]; rfl
  · rw [h.2, u1_s, e]
  · rw [h.2, u1_n (by omega)]
