/-! ===== weeks, of both (segments printed by wip/whole, contracts own work) ===== -/
def r_wsN (a : Int → Int) : Nat → Int → Int
  | 0 => a
  | n + 1 => r_week (r_wsN a n)
def r_ws (a : Int → Int) (n : Int) : Int → Int := r_wsN a n.toNat
theorem r_ws_0 {a : Int → Int} : r_ws a 0 = a := rfl
theorem r_ws_s {a : Int → Int} {n : Int} (h : 0 ≤ n) : r_ws a (n + 1) = r_week (r_ws a n) := by
  unfold r_ws
  have e : (n + 1).toNat = n.toNat + 1 := by omega
  rw [e]
  rfl
section WS
variable {a : Int → Int}
theorem eL_tr {b c : Int → Int} (h1 : eL a b) (h2 : eL b c) : eL a c := fun k hk => (h2 k hk).trans (h1 k hk)
/-- WEEKS on end -/
theorem WP_ws (h : WP a) (hP : PT a ≤ 600000000) : ∀ n, 0 ≤ n → a 0 + n ≤ 400 → WP (r_ws a n) ∧ PT (r_ws a n) ≤ PT a ∧ r_ws a n 0 = a 0 + n ∧ eL a (r_ws a n) := by
  have key : ∀ n : Nat, a 0 + (n : Int) ≤ 400 → WP (r_ws a n) ∧ PT (r_ws a n) ≤ PT a ∧ r_ws a n 0 = a 0 + n ∧ eL a (r_ws a n) := by
    intro n
    induction n with
    | zero =>
      intro _
      rw [show ((0 : Nat) : Int) = 0 from rfl, r_ws_0]
      exact ⟨h, Int.le_refl _, by omega, fun _ _ => rfl⟩
    | succ n ih =>
      intro hn
      obtain ⟨i1, i2, i3, i4⟩ := ih (by omega)
      rw [show ((n + 1 : Nat) : Int) = (n : Int) + 1 by omega, r_ws_s (by omega)]
      have i0 : r_ws a n 0 ≤ 399 := by omega
      have := PT_w i1 i0
      refine ⟨WP_w i1 i0 (by omega), by omega, ?_, eL_tr i4 (eL_w i1 i0)⟩
      rw [rW_0]; omega
  intro n n0
  have := key n.toNat
  rw [Int.toNat_of_nonneg n0] at this
  exact this
end WS
/-- books and TEXTS that can still be made -/
def fB (S : zS) : Int := sI (fun k => if (S.2.2.2 59 k.toNat).isNone = true then 1 else 0) 400
def fT (S : zS) : Int := sI (fun k => if (S.2.2.2 55 k.toNat).isNone = true then 1 else 0) 20
/-- room is left -/
def RO (S : zS) : Prop := (S.1 : Int) + 8 * fB S + 4 * fT S ≤ 4000 ∧ (S.2.1 : Int) + 233 * fB S + 600 * fT S ≤ 4000000
theorem RO_op {S S1 : zS} {w : Int} {y : Nat} (r : RO S) (op : OP S S1 w y) (hw : 0 ≤ w ∧ w < 400) (s : 100 ≤ S.1) : RO S1 := by
  rcases op.2.2.2.2.2 with e | ⟨e1, e2, e3, e4⟩
  · rw [e]; exact r
  · have q := op.2.2.2.2.1
    have b : fB S1 = fB S + -1 := by
      refine sI_1 (c := w) hw (fun p p0 p1 pn => ?_) ?_
      · try dsimp only
        rw [q 59 p.toNat (by omega) (by omega)]
      · try dsimp only
        rw [op.1, e1]
        rfl
    have t : fT S1 = fT S := sI_c (fun p p0 p1 => by rw [q 55 p.toNat (by omega) (by omega)])
    unfold RO at *
    rw [b, t, e3, e4]
    omega
/-- WEEKS from one on go by: what stays -/
def GW (S S1 : zS) (σ σ1 : zI) (tn : Nat) (lo : Int) : Prop := (S.1 ≤ S1.1 ∧ (∀ c, c < S.1 → S1.2.2.1 c = S.2.2.1 c) ∧ (∀ c k : Nat, c < S.1 → c ≠ 59 ∨ (k : Int) < lo → S1.2.2.2 c k = S.2.2.2 c k) ∧ (RO S → RO S1)) ∧ (∀ c, c < S.1 → c < 53 ∨ 62 < c ∨ c = 55 ∨ c = 56 ∨ c = 57 ∨ c = 58 ∨ c = 59 → c < tn ∨ tn + 16 < c → (∀ w y, lo ≤ w → w < 400 → S1.2.2.2 59 w.toNat = some y → c < y ∨ y + 7 < c) → σ1 c = σ c) ∧ ∀ k, k < 3 ∨ 4 < k → σ1 54 k = σ 54 k
section GWS
variable {S S1 S2 : zS} {σ σ1 σ2 : zI} {tn y : Nat} {lo w : Int} {a : Int → Int}
theorem GW_0 : GW S S σ σ tn lo := ⟨⟨Nat.le_refl _, fun _ _ => rfl, fun _ _ _ _ => rfl, id⟩, fun _ _ _ _ _ => rfl, fun _ _ => rfl⟩
theorem GW_s (g : GW S S1 σ σ1 tn lo) (op : OP S1 S2 w y) (pw : PW S1 σ1 σ2 tn y) (hw : lo ≤ w ∧ w < 400) (h0 : 0 ≤ lo) (s : 100 ≤ S.1) : GW S S2 σ σ2 tn lo := by
  obtain ⟨⟨g1, g2, g3, g4⟩, g5, g6⟩ := g
  refine ⟨⟨Nat.le_trans g1 op.2.2.1, fun c hc => ?_, fun c k hc hk => ?_, fun r => RO_op (g4 r) op (by omega) (by omega)⟩, fun c h1 h2 h3 h4 => ?_, fun k hk => ?_⟩
  · rw [op.2.2.2.1 c (by omega)]; exact g2 c hc
  · rw [op.2.2.2.2.1 c k (by omega) (by omega)]; exact g3 c k hc hk
  · rw [pw.1 c (by omega) (h4 w y hw.1 hw.2 op.1) h2 h3]
    refine g5 c h1 h2 h3 (fun v y' v0 v1 hv => ?_)
    by_cases e : v = w
    · subst e
      rcases op.2.2.2.2.2 with q | ⟨q, _⟩
      · rw [← q] at hv
        exact h4 v y' v0 v1 hv
      · rw [hv] at q; cases q
    · refine h4 v y' v0 v1 ?_
      rw [op.2.2.2.2.1 59 v.toNat (by omega) (by omega)]; exact hv
  · rw [pw.2 k hk]; exact g6 k hk
theorem oK_gw {i kd n : Nat} (g : GW S S1 σ σ1 tn lo) (h : oK S i kd n) : oK S1 i kd n := ⟨h.1, by have := g.1.1; have := h.2.1; omega, by rw [g.1.2.1 i h.2.1]; exact h.2.2⟩
theorem oT_gw {x : Nat} (g : GW S S1 σ σ1 tn lo) (h : oT S x) : oT S1 x := by
  have b := oT_b h
  have r := g.1.2.2.1
  refine ⟨h.1, oK_gw g (oT_0 h), oK_gw g (oT_1 h), oK_gw g (oT_2 h), oK_gw g (oT_3 h), ?_, ?_, ?_⟩
  · rw [r _ _ (oT_0 h).2.1 (by omega)]; exact oT_r0 h
  · rw [r _ _ (oT_0 h).2.1 (by omega)]; exact oT_r1 h
  · rw [r _ _ (oT_1 h).2.1 (by omega)]; exact oT_r2 h
theorem oB_gw (g : GW S S1 σ σ1 tn lo) (h : oB S y) : oB S1 y := by
  have b := oB_b h
  have r := g.1.2.2.1
  refine ⟨h.1, oK_gw g (oB_0 h), ⟨oK_gw g (oB_1 h), oK_gw g (oB_2 h), oK_gw g (oB_3 h), oK_gw g (oB_4 h), oK_gw g (oB_5 h), oK_gw g (oB_6 h), oK_gw g (oB_7 h)⟩, fun k hk => ?_⟩
  rw [r _ _ (oB_0 h).2.1 (by omega)]; exact h.2.2.2 k hk
/-- books of WEEKS before -/
theorem BX_gw (h : BX S σ a) (g : GW S S1 σ σ1 tn lo) (zb : zB S1) (h0 : a 0 ≤ lo ∧ a 0 ≤ 400) (s : 100 ≤ S.1) (htn : tn ≤ 36) : BX S1 σ1 a := by
  refine ⟨zb, fun w w0 w1 => ?_⟩
  obtain ⟨y, q1, q2, q3⟩ := h.2 w w0 w1
  have q1' : S1.2.2.2 59 w.toNat = some y := by rw [g.1.2.2.1 59 w.toNat (by omega) (by omega)]; exact q1
  have q2' := oB_gw g q2
  have b := oB_b q2
  have l := (oB_7 q2).2.1
  refine ⟨y, q1', q2', BK_f q3 (fun c h1 h2 => g.2.1 c (by omega) (by omega) (by omega) (fun v y' v0 v1 hv => ?_))⟩
  have ne : y ≠ y' := fun e => by
    have := zb.2 w.toNat v.toNat y (by omega) (by omega) q1' (by rw [e]; exact hv)
    omega
  have := oB_dj q2' (zb.1 v.toNat y' (by omega) hv) ne
  omega
theorem RX_gw (h : RX S σ a) (g : GW S S1 σ σ1 tn lo) (zb : zB S1) (s : 100 ≤ S.1) (htn : tn ≤ 36) : RX S1 σ1 a := by
  refine ⟨h.1, fun n n0 n1 => ?_⟩
  obtain ⟨x, q1, q2, q3⟩ := h.2 n n0 n1
  have q2' := oT_gw g q2
  have b := oT_b q2
  have l := (oT_3 q2).2.1
  refine ⟨x, by rw [g.1.2.2.1 55 n.toNat (by omega) (by omega)]; exact q1, q2', TX_f q3 (fun c h1 h2 => g.2.1 c (by omega) (by omega) (by omega) (fun v y' v0 v1 hv => ?_))⟩
  have := oBT_dj (zb.1 v.toNat y' (by omega) hv) q2'
  omega
end GWS
abbrev k_wks (a : Int → Int) (n : Int) : Prop := (1 ≤ n ∧ n ≤ 52) ∧ a 0 + n ≤ 400
def r_wks (a : Int → Int) (n : Int) : Int → Int := if k_wks a n then r_ws a n else a
def v_wks (a : Int → Int) (n : Int) : Int := if k_wks a n then a 0 + n else -1
theorem FW_tr {σ σ1 σ2 : zI} (h1 : FW σ σ1) (h2 : FW σ1 σ2) : FW σ σ2 := ⟨fun c c1 c2 c3 c4 c5 c6 => by rw [h2.1 c c1 c2 c3 c4 c5 c6]; exact h1.1 c c1 c2 c3 c4 c5 c6, fun k hk => by rw [h2.2 k hk]; exact h1.2 k hk⟩
theorem FW_0 {σ : zI} : FW σ σ := ⟨fun _ _ _ _ _ _ _ => rfl, fun _ _ => rfl⟩
-- method 294: MillTownModel.weeks(I)I
theorem c_294_0 : pg_cd 294 0 = (3, 1, 0, 1, 0) := by decide +kernel
theorem c_294_1 : pg_cd 294 1 = (1, 1, 0, 0, 1) := by decide +kernel
theorem c_294_2 : pg_cd 294 2 = (1, 2, 0, 0, 52) := by decide +kernel
theorem c_294_4 : pg_cd 294 4 = (81, 196, 76, 0, 0) := by decide +kernel
theorem c_294_7 : pg_cd 294 7 = (36, 3, 0, 0, 17) := by decide +kernel
theorem c_294_10 : pg_cd 294 10 = (5, 1, 0, 0, 0) := by decide +kernel
theorem c_294_11 : pg_cd 294 11 = (45, 12, 8, 0, 0) := by decide +kernel
theorem c_294_14 : pg_cd 294 14 = (1, 1, 0, 0, 0) := by decide +kernel
theorem c_294_15 : pg_cd 294 15 = (50, 1, 0, 0, 0) := by decide +kernel
theorem c_294_16 : pg_cd 294 16 = (3, 1, 0, 1, 0) := by decide +kernel
theorem c_294_17 : pg_cd 294 17 = (10, 1, 0, 0, 0) := by decide +kernel
theorem c_294_18 : pg_cd 294 18 = (1, 3, 0, 0, 400) := by decide +kernel
theorem c_294_21 : pg_cd 294 21 = (37, 3, 0, 5, 5) := by decide +kernel
theorem c_294_24 : pg_cd 294 24 = (1, 1, 0, 0, (-1)) := by decide +kernel
theorem c_294_25 : pg_cd 294 25 = (90, 0, 0, 0, 0) := by decide +kernel
theorem c_294_26 : pg_cd 294 26 = (1, 1, 0, 0, 0) := by decide +kernel
theorem c_294_27 : pg_cd 294 27 = (6, 1, 0, 2, 0) := by decide +kernel
theorem c_294_28 : pg_cd 294 28 = (3, 1, 0, 2, 0) := by decide +kernel
theorem c_294_29 : pg_cd 294 29 = (3, 1, 0, 1, 0) := by decide +kernel
theorem c_294_30 : pg_cd 294 30 = (37, 3, 0, 3, 13) := by decide +kernel
theorem c_294_33 : pg_cd 294 33 = (5, 1, 0, 0, 0) := by decide +kernel
theorem c_294_34 : pg_cd 294 34 = (80, 293, 408, 0, 0) := by decide +kernel
theorem c_294_37 : pg_cd 294 37 = (9, 3, 0, 2, 1) := by decide +kernel
theorem c_294_40 : pg_cd 294 40 = (38, 3, 0, 0, (-12)) := by decide +kernel
theorem c_294_43 : pg_cd 294 43 = (5, 1, 0, 0, 0) := by decide +kernel
theorem c_294_44 : pg_cd 294 44 = (45, 12, 8, 0, 0) := by decide +kernel
theorem c_294_47 : pg_cd 294 47 = (1, 1, 0, 0, 0) := by decide +kernel
theorem c_294_48 : pg_cd 294 48 = (50, 1, 0, 0, 0) := by decide +kernel
theorem c_294_49 : pg_cd 294 49 = (90, 0, 0, 0, 0) := by decide +kernel
theorem mi_294 : pg_mc 294 = 12 ∧ pg_na 294 = 1 ∧ pg_mx 294 = 3 := by decide +kernel
set_option maxRecDepth 20000 in
theorem u_294_0 {d : Nat} {S : zS} {σ τ : zI} {Q : zQ} {x1 : Int} (t : (rg x1) ∧ if 1 ≤ x1 ∧ x1 ≤ 52 then ((rg ((σ 84 0) + x1)) ∧ if ((σ 84 0) + x1) ≤ 400 then (wi (d + 20) 294 28 [.ref 83, .int (wI x1), .int (wI 0)] [] S σ τ Q) else (Q (some (.int (wI (-1)))) S σ τ)) else (Q (some (.int (wI (-1)))) S σ τ)) : wi (d + 20) 294 0 [.ref 83, .int (wI x1), .retAddr 0] [] S σ τ Q := by
  obtain ⟨r1, t⟩ := t
  refine i3 c_294_0 rfl (i1 c_294_1 (i1 c_294_2 ?_))
  refine i81 (As := [.int (wI x1), .int (wI 1), .int (wI 52)]) (rest := []) c_294_4 mi_196 rfl rfl (Nat.le_of_ble_eq_true rfl) (Nat.le_of_ble_eq_true rfl) (q_196 r1 (by decide) (by decide) ?_)
  show wi (d + 20) 294 7 [.ref 83, .int (wI x1), .retAddr 0] [.int (wI (if 1 ≤ x1 ∧ x1 ≤ 52 then 1 else 0))] S σ τ Q
  refine i36e c_294_7 rfl (fun hc => ?_) (fun hc => ?_)
  · have t := iT t hc
    have ha2 : 1 ≤ x1 ∧ x1 ≤ 52 := hc
    refine i5 c_294_10 rfl (i45 c_294_11 (lo (c := 83) (kd := 112) (n := 0) rfl (by decide)) (lro (c := 83) (k := 0) (j := 84) (by decide)) (i1 c_294_14 (wi_ok (fun K3 => ?_))))
    obtain ⟨r4, t⟩ := t
    refine i50 (v := σ 84 0) c_294_15 (lo (c := 84) (kd := 0) (n := 112300) rfl (by decide)) (by decide) (by decide) rfl (i3 c_294_16 rfl (i10 c_294_17 (i1 c_294_18 ?_)))
    refine i37 c_294_21 r4 (by decide) rfl (fun hc => ?_) (fun hc => ?_)
    · have t := iT t hc
      have ha5 : ((σ 84 0) + x1) ≤ 400 := hc
      refine i1 c_294_26 (i6 (L' := [.ref 83, .int (wI x1), .int (wI 0)]) c_294_27 rfl t)
    · have t := iF t hc
      have ha5 : ¬ (((σ 84 0) + x1) ≤ 400) := hc
      refine i1 c_294_24 ?_
      exact i90 c_294_25 t
  · have t := iF t hc
    have ha2 : ¬ (1 ≤ x1 ∧ x1 ≤ 52) := hc
    refine i1 c_294_24 ?_
    exact i90 c_294_25 t
set_option maxRecDepth 20000 in
theorem u_294_28 {d : Nat} {S : zS} {σ τ : zI} {Q : zQ} {x1 : Int} {x2 : Int} (t : (rg x2) ∧ (rg x1) ∧ if x1 ≤ x2 then (Q (some (.int (wI (σ 84 0)))) S σ τ) else (∃ a5 : Int → Int, (σ 84 = a5) ∧ (Jv a5) ∧ (jv_T a5) ∧ (jv_E a5) ∧ (a5 0 ≤ 399) ∧ (jv_U a5) ∧ (jv_B a5) ∧ ∀ (σ113 : zI) (τ114 : zI), FW σ σ113 → σ113 83 31 = zw (σ 83 31 + wk_pd a5 (a5 1)) → σ113 84 = r_week a5 → wi (d + 20) 294 28 [.ref 83, .int (wI x1), .int (wI (x2 + 1))] [] S σ113 τ114 Q)) : wi (d + 20) 294 28 [.ref 83, .int (wI x1), .int (wI x2)] [] S σ τ Q := by
  obtain ⟨r1, t⟩ := t
  obtain ⟨r2, t⟩ := t
  refine i3 c_294_28 rfl (i3 c_294_29 rfl ?_)
  refine i37 c_294_30 r1 r2 rfl (fun hc => ?_) (fun hc => ?_)
  · have t := iT t hc
    have ha3 : x1 ≤ x2 := hc
    refine i5 c_294_43 rfl (i45 c_294_44 (lo (c := 83) (kd := 112) (n := 0) rfl (by decide)) (lro (c := 83) (k := 0) (j := 84) (by decide)) (i1 c_294_47 (wi_ok (fun K4 => ?_))))
    refine i50 (v := σ 84 0) c_294_48 (lo (c := 84) (kd := 0) (n := 112300) rfl (by decide)) (by decide) (by decide) rfl ?_
    exact i90 c_294_49 t
  · have t := iF t hc
    have ha3 : ¬ (x1 ≤ x2) := hc
    obtain ⟨a5, t⟩ := t
    obtain ⟨p6, t⟩ := t
    obtain ⟨p7, t⟩ := t
    obtain ⟨p8, t⟩ := t
    obtain ⟨p9, t⟩ := t
    obtain ⟨p10, t⟩ := t
    obtain ⟨p11, t⟩ := t
    obtain ⟨p12, t⟩ := t
    refine i5 c_294_33 rfl ?_
    refine i80 (As := []) (rest := []) c_294_34 mi_293 rfl rfl (Nat.le_of_ble_eq_true rfl) (Nat.le_of_ble_eq_true rfl) (lo (c := 83) (kd := 112) (n := 0) rfl (by decide)) (q_293 (a := a5) p6 p7 p8 p9 p10 p11 p12 (fun σ113 τ114 q15 q16 q17 => ?_))
    have t := t σ113 τ114 q15 q16 q17
    show wi (d + 20) 294 37 [.ref 83, .int (wI x1), .int (wI x2)] [] S σ113 τ114 Q
    refine i9 (L' := [.ref 83, .int (wI x1), .int (wI (x2 + 1))]) c_294_37 rfl rfl (i38 c_294_40 rfl t)
theorem q_294 {d : Nat} {S : zS} {σ τ : zI} {Q : zQ} {n : Int} {a : Int → Int} (p0 : σ 84 = a) (p1 : WP a) (p2 : PT a ≤ 600000000) (p3 : rg n) (t : ∀ (σ1 : zI) (τ1 : zI), FW σ σ1 → σ1 84 = r_wks a n → Q (some (.int (wI (v_wks a n)))) S σ1 τ1) : wc (d + 20) 294 [.ref 83, .int (wI n)] S σ τ Q := by
  have hC := jC p1.1
  unfold jv_C at hC
  refine wc_of mi_294 rfl (u_294_0 ?_)
  rw [p0]
  unfold v_wks r_wks at t
  refine ⟨p3, ifI (fun e1 => ⟨by omega, ifI (fun e2 => ?_) (fun e2 => ?_)⟩) (fun e1 => ?_)⟩
  · have k : k_wks a n := ⟨e1, e2⟩
    rw [if_pos k, if_pos k] at t
    have ws := fun i i0 i1 => WP_ws p1 p2 i i0 (show a 0 + i ≤ 400 from i1)
    have loop : ∀ i, 0 ≤ i → i ≤ n → ∀ σ' τ', FW σ σ' → σ' 84 = r_ws a i → wi (d + 20) 294 28 [.ref 83, .int (wI n), .int (wI i)] [] S σ' τ' Q := by
      refine lp_up (fun i i0 i1 ih => ?_)
      intro σ' τ' f g
      have w := ws i i0 (by omega)
      refine u_294_28 ⟨by omega, p3, ifI (fun e => ?_) (fun e => ?_)⟩
      · have e : i = n := by omega
        subst e
        rw [g, w.2.2.1]
        exact t σ' τ' f g
      · refine ⟨_, g, w.1.1, w.1.2.1, w.1.2.2.1, by omega, w.1.2.2.2.1, w.1.2.2.2.2.1, fun σ2 τ2 f2 _ g2 => ih (by omega) σ2 τ2 (FW_tr f f2) (by rw [r_ws_s i0]; exact g2)⟩
    exact loop 0 (by omega) (by omega) σ τ FW_0 (by rw [r_ws_0]; exact p0)
  · have k : ¬ k_wks a n := fun z => e2 z.2
    rw [if_neg k, if_neg k] at t
    exact t σ τ FW_0 p0
  · have k : ¬ k_wks a n := fun z => e1 z.1
    rw [if_neg k, if_neg k] at t
    exact t σ τ FW_0 p0
-- method 170: MillTown.weeks(I)I
theorem c_170_0 : pg_cd 170 0 = (3, 1, 0, 1, 0) := by decide +kernel
theorem c_170_1 : pg_cd 170 1 = (1, 1, 0, 0, 1) := by decide +kernel
theorem c_170_2 : pg_cd 170 2 = (1, 2, 0, 0, 52) := by decide +kernel
theorem c_170_4 : pg_cd 170 4 = (81, 141, 85, 0, 0) := by decide +kernel
theorem c_170_7 : pg_cd 170 7 = (36, 3, 0, 0, 18) := by decide +kernel
theorem c_170_10 : pg_cd 170 10 = (5, 1, 0, 0, 0) := by decide +kernel
theorem c_170_11 : pg_cd 170 11 = (45, 11, 12, 0, 0) := by decide +kernel
theorem c_170_14 : pg_cd 170 14 = (43, 8, 193, 8, 0) := by decide +kernel
theorem c_170_17 : pg_cd 170 17 = (3, 1, 0, 1, 0) := by decide +kernel
theorem c_170_18 : pg_cd 170 18 = (10, 1, 0, 0, 0) := by decide +kernel
theorem c_170_19 : pg_cd 170 19 = (1, 3, 0, 0, 400) := by decide +kernel
theorem c_170_22 : pg_cd 170 22 = (37, 3, 0, 5, 5) := by decide +kernel
theorem c_170_25 : pg_cd 170 25 = (1, 1, 0, 0, (-1)) := by decide +kernel
theorem c_170_26 : pg_cd 170 26 = (90, 0, 0, 0, 0) := by decide +kernel
theorem c_170_27 : pg_cd 170 27 = (1, 1, 0, 0, 0) := by decide +kernel
theorem c_170_28 : pg_cd 170 28 = (6, 1, 0, 2, 0) := by decide +kernel
theorem c_170_29 : pg_cd 170 29 = (3, 1, 0, 2, 0) := by decide +kernel
theorem c_170_30 : pg_cd 170 30 = (3, 1, 0, 1, 0) := by decide +kernel
theorem c_170_31 : pg_cd 170 31 = (37, 3, 0, 3, 20) := by decide +kernel
theorem c_170_34 : pg_cd 170 34 = (5, 1, 0, 0, 0) := by decide +kernel
theorem c_170_35 : pg_cd 170 35 = (45, 11, 25, 3, 0) := by decide +kernel
theorem c_170_38 : pg_cd 170 38 = (5, 1, 0, 0, 0) := by decide +kernel
theorem c_170_39 : pg_cd 170 39 = (45, 11, 12, 0, 0) := by decide +kernel
theorem c_170_42 : pg_cd 170 42 = (80, 109, 240, 0, 0) := by decide +kernel
theorem c_170_45 : pg_cd 170 45 = (9, 3, 0, 2, 1) := by decide +kernel
theorem c_170_48 : pg_cd 170 48 = (38, 3, 0, 0, (-19)) := by decide +kernel
theorem c_170_51 : pg_cd 170 51 = (5, 1, 0, 0, 0) := by decide +kernel
theorem c_170_52 : pg_cd 170 52 = (45, 11, 12, 0, 0) := by decide +kernel
theorem c_170_55 : pg_cd 170 55 = (43, 8, 193, 8, 0) := by decide +kernel
theorem c_170_58 : pg_cd 170 58 = (90, 0, 0, 0, 0) := by decide +kernel
theorem mi_170 : pg_mc 170 = 11 ∧ pg_na 170 = 1 ∧ pg_mx 170 = 3 := by decide +kernel
set_option maxRecDepth 20000 in
theorem u_170_0 {d : Nat} {S : zS} {σ τ : zI} {Q : zQ} {x1 : Int} (t : (rg x1) ∧ if 1 ≤ x1 ∧ x1 ≤ 52 then ((rg ((σ 2 8) + x1)) ∧ if ((σ 2 8) + x1) ≤ 400 then (wi (d + 20) 170 29 [.ref 1, .int (wI x1), .int (wI 0)] [] S σ τ Q) else (Q (some (.int (wI (-1)))) S σ τ)) else (Q (some (.int (wI (-1)))) S σ τ)) : wi (d + 20) 170 0 [.ref 1, .int (wI x1), .retAddr 0] [] S σ τ Q := by
  obtain ⟨r1, t⟩ := t
  refine i3 c_170_0 rfl (i1 c_170_1 (i1 c_170_2 ?_))
  refine i81 (As := [.int (wI x1), .int (wI 1), .int (wI 52)]) (rest := []) c_170_4 mi_141 rfl rfl (Nat.le_of_ble_eq_true rfl) (Nat.le_of_ble_eq_true rfl) (q_141 r1 (by decide) (by decide) ?_)
  show wi (d + 20) 170 7 [.ref 1, .int (wI x1), .retAddr 0] [.int (wI (if 1 ≤ x1 ∧ x1 ≤ 52 then 1 else 0))] S σ τ Q
  refine i36e c_170_7 rfl (fun hc => ?_) (fun hc => ?_)
  · have t := iT t hc
    have ha2 : 1 ≤ x1 ∧ x1 ≤ 52 := hc
    refine i5 c_170_10 rfl (i45 c_170_11 (lo (c := 1) (kd := 111) (n := 0) rfl (by decide)) (lro (c := 1) (k := 0) (j := 2) (by decide)) (wi_ok (fun K3 => ?_)))
    obtain ⟨r4, t⟩ := t
    refine i43 (v := σ 2 8) c_170_14 (lo (c := 2) (kd := 108) (n := 0) rfl (by decide)) rfl (i3 c_170_17 rfl (i10 c_170_18 (i1 c_170_19 ?_)))
    refine i37 c_170_22 r4 (by decide) rfl (fun hc => ?_) (fun hc => ?_)
    · have t := iT t hc
      have ha5 : ((σ 2 8) + x1) ≤ 400 := hc
      refine i1 c_170_27 (i6 (L' := [.ref 1, .int (wI x1), .int (wI 0)]) c_170_28 rfl t)
    · have t := iF t hc
      have ha5 : ¬ (((σ 2 8) + x1) ≤ 400) := hc
      refine i1 c_170_25 ?_
      exact i90 c_170_26 t
  · have t := iF t hc
    have ha2 : ¬ (1 ≤ x1 ∧ x1 ≤ 52) := hc
    refine i1 c_170_25 ?_
    exact i90 c_170_26 t
set_option maxRecDepth 20000 in
theorem u_170_29 {d : Nat} {S : zS} {σ τ : zI} {Q : zQ} {x1 : Int} {x2 : Int} (t : (rg x2) ∧ (rg x1) ∧ if x1 ≤ x2 then (Q (some (.int (wI (σ 2 8)))) S σ τ) else (wc (d + 19) 109 [.ref 53, .ref 2] S σ τ (fun r S1 σ1 τ1 => wi (d + 20) 170 45 [.ref 1, .int (wI x1), .int (wI x2)] (r.toList ++ []) S1 σ1 τ1 Q))) : wi (d + 20) 170 29 [.ref 1, .int (wI x1), .int (wI x2)] [] S σ τ Q := by
  obtain ⟨r1, t⟩ := t
  obtain ⟨r2, t⟩ := t
  refine i3 c_170_29 rfl (i3 c_170_30 rfl ?_)
  refine i37 c_170_31 r1 r2 rfl (fun hc => ?_) (fun hc => ?_)
  · have t := iT t hc
    have ha3 : x1 ≤ x2 := hc
    refine i5 c_170_51 rfl (i45 c_170_52 (lo (c := 1) (kd := 111) (n := 0) rfl (by decide)) (lro (c := 1) (k := 0) (j := 2) (by decide)) (wi_ok (fun K4 => ?_)))
    refine i43 (v := σ 2 8) c_170_55 (lo (c := 2) (kd := 108) (n := 0) rfl (by decide)) rfl ?_
    exact i90 c_170_58 t
  · have t := iF t hc
    have ha3 : ¬ (x1 ≤ x2) := hc
    refine i5 c_170_34 rfl (i45 c_170_35 (lo (c := 1) (kd := 111) (n := 0) rfl (by decide)) (lro (c := 1) (k := 3) (j := 53) (by decide)) (i5 c_170_38 rfl (i45 c_170_39 (lo (c := 1) (kd := 111) (n := 0) rfl (by decide)) (lro (c := 1) (k := 0) (j := 2) (by decide)) ?_)))
    exact i80 (As := [.ref 2]) (rest := []) c_170_42 mi_109 rfl rfl (Nat.le_of_ble_eq_true rfl) (Nat.le_of_ble_eq_true rfl) (lo (c := 53) (kd := 109) (n := 0) rfl (by decide)) t
set_option maxRecDepth 20000 in
theorem u_170_45 {d : Nat} {S : zS} {σ τ : zI} {Q : zQ} {x1 : Int} {x2 : Int} (t : wi (d + 20) 170 29 [.ref 1, .int (wI x1), .int (wI (x2 + 1))] [] S σ τ Q) : wi (d + 20) 170 45 [.ref 1, .int (wI x1), .int (wI x2)] [] S σ τ Q := by
  refine i9 (L' := [.ref 1, .int (wI x1), .int (wI (x2 + 1))]) c_170_45 rfl rfl (i38 c_170_48 rfl t)
theorem q_170 {d : Nat} {S : zS} {σ τ : zI} {Q : zQ} {n : Int} {a : Int → Int} (p0 : RT σ 2 a) (p1 : RX S σ a) (p2 : BX S σ a) (p3 : WP a) (p4 : PT a ≤ 600000000) (p5 : rg n) (t : ∀ S1 σ1 τ1, GW S S1 σ σ1 2 (a 0) → RT σ1 2 (r_wks a n) → RX S1 σ1 (r_wks a n) → BX S1 σ1 (r_wks a n) → Q (some (.int (wI (v_wks a n)))) S1 σ1 τ1) : wc (d + 20) 170 [.ref 1, .int (wI n)] S σ τ Q := by
  refine wc_ok fun K => ?_
  have s100 := K.1.1
  have hC := jC p3.1
  unfold jv_C at hC
  have c0 : σ 2 8 = a 0 := (tS p0).1
  refine wc_of mi_170 rfl (u_170_0 ?_)
  rw [c0]
  unfold v_wks r_wks at t
  refine ⟨p5, ifI (fun e1 => ⟨by omega, ifI (fun e2 => ?_) (fun e2 => ?_)⟩) (fun e1 => ?_)⟩
  · have k : k_wks a n := ⟨e1, e2⟩
    rw [if_pos k, if_pos k] at t
    have ws := fun i i0 i1 => WP_ws p3 p4 i i0 (show a 0 + i ≤ 400 from i1)
    have loop : ∀ i, 0 ≤ i → i ≤ n → ∀ S' σ' τ', GW S S' σ σ' 2 (a 0) → RT σ' 2 (r_ws a i) → RX S' σ' (r_ws a i) → BX S' σ' (r_ws a i) → wi (d + 20) 170 29 [.ref 1, .int (wI n), .int (wI i)] [] S' σ' τ' Q := by
      refine lp_up (fun i i0 i1 ih => ?_)
      intro S' σ' τ' g r x b
      have w := ws i i0 (by omega)
      refine u_170_29 ⟨by omega, p5, ifI (fun e => ?_) (fun e => ?_)⟩
      · have e : i = n := by omega
        subst e
        have c1 : σ' 2 8 = r_ws a i 0 := (tS r).1
        rw [c1, w.2.2.1]
        exact t S' σ' τ' g r x b
      · refine q_109 (d := d + 5) tw_2 r x b w.1 (by omega) (fun S2 σ2 τ2 y op r2 x2 b2 pw _ => ?_)
        show wi (d + 20) 170 45 [.ref 1, .int (wI n), .int (wI i)] [] S2 σ2 τ2 Q
        have g2 := GW_s g op pw (by omega) (by omega) s100
        rw [← r_ws_s i0] at r2 x2 b2
        exact u_170_45 (ih (by omega) S2 σ2 τ2 g2 r2 x2 b2)
    exact loop 0 (by omega) (by omega) S σ τ GW_0 (by rw [r_ws_0]; exact p0) (by rw [r_ws_0]; exact p1) (by rw [r_ws_0]; exact p2)
  · have k : ¬ k_wks a n := fun z => e2 z.2
    rw [if_neg k, if_neg k] at t
    exact t S σ τ GW_0 p0 p1 p2
  · have k : ¬ k_wks a n := fun z => e1 z.1
    rw [if_neg k, if_neg k] at t
    exact t S σ τ GW_0 p0 p1 p2
