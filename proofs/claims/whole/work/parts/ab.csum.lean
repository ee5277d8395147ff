/-! ===== the class reads: SUMS (segments printed by wip/whole, contracts own work) ===== -/
section CSM
variable {S : zS}
/-- the rest of a SUM behind a fault -/
theorem fs_97 {d x : Nat} {o x3 x4 x5 : Int} {y6 : Value} {σ τ : zI} {Q : zQ} (hx : oT S x) (fl : CFS σ) (hb : 0 ≤ σ x 2 ∧ σ x 2 ≤ 300) (h3 : 0 ≤ x3 ∧ x3 ≤ 100) (h4 : 0 ≤ x4 ∧ x4 ≤ 300) (K : ∀ σ1, CJ x σ σ1 → σ1 63 = σ 63 → Q none S σ1 τ) : wi (d + 8) 50 97 [.ref 63, .ref x, .int (wI o), .int (wI x3), .int (wI x4), .int (wI x5), y6] [] S σ τ Q := by
  have f2 := fl.2
  have tb0 : TB (fun _ => 0) 0 := ⟨by omega, fun k _ _ => by omega⟩
  have e125 : ∀ (x3' : Int) (σ' : zI), 0 ≤ x3' ∧ x3' ≤ 100 → CJ x σ σ' → σ' 63 = σ 63 → wi (d + 8) 50 125 [.ref 63, .ref x, .int (wI o), .int (wI x3'), .int (wI x4), .int (wI x5), y6] [] S σ' τ Q := by
    intro x3' σ' hx3 cj e
    have f : CFS σ' := by unfold CFS; rw [e]; exact fl
    refine u_50_125 hx ⟨fun _ => 0, 0, 0, Or.inr f, fun cr => absurd (CR_b cr).2.2.2.1 f.1, by omega, tb0, fun σ2 xp => ?_⟩
    rw [xp.2.1 f]
    exact u_50_5 hx ⟨by omega, ifI (fun _ => u_50_136 hx (K σ' cj e)) (fun _ => ifI (fun z => absurd z f.1) (fun _ => u_50_136 hx (K σ' cj e)))⟩
  refine u_50_97 hx ⟨by omega, ifI (fun _ => ifI (fun _ => e125 _ σ (by omega) CJ_0 rfl) (fun _ => ifI (fun _ => e125 _ σ (by omega) CJ_0 rfl) (fun _ => K σ CJ_0 rfl))) (fun _ => ⟨hb, by omega, fun σ1 cj e _ => ?_⟩)⟩
  have e4 : σ1 63 4 = σ 63 4 := by rw [e]
  exact ifI (fun _ => e125 _ σ1 (by omega) cj e) (fun _ => ifI (fun _ => e125 _ σ1 (by omega) cj e) (fun _ => K σ1 cj e))
theorem fs_31 {d x : Nat} {o x3 x4 x5 : Int} {y6 : Value} {σ τ : zI} {Q : zQ} (hx : oT S x) (fl : CFS σ) (hb : 0 ≤ σ x 2 ∧ σ x 2 ≤ 300) (h3 : 0 ≤ x3 ∧ x3 ≤ 100) (h4 : 0 ≤ x4 ∧ x4 ≤ 300) (h5 : rg x5) (K : ∀ σ1, CJ x σ σ1 → σ1 63 = σ 63 → Q none S σ1 τ) : wi (d + 8) 50 31 [.ref 63, .ref x, .int (wI o), .int (wI x3), .int (wI x4), .int (wI x5), y6] [] S σ τ Q :=
  u_50_31 hx ⟨h5, ifI (fun _ => fs_97 hx fl hb h3 h4 K) (fun _ => ifI (fun z => absurd z fl.1) (fun _ => fs_97 hx fl hb h3 h4 K))⟩
/-- what reading comes to in the class -/
def CO (x : Nat) (T : Int → Int) (n : Int) (R : RR) (σ σ1 : zI) : Prop := CJ x σ σ1 ∧ (R.1 = 0 → CR T n R.2.1 σ1 ∧ CW x σ σ1 R.2.2) ∧ (R.1 ≠ 0 → CD R.1 R.2.1 σ1)
def OneP (S : zS) (T : Int → Int) (n : Int) (k : Nat) : Prop := ∀ (d x : Nat) (s : Int) (σ τ : zI) (Q : zQ), oT S x → CR T n s σ → (0 ≤ σ x 2 ∧ σ x 2 ≤ s) → (∀ σ1, CO x T n (oneK T n k s) σ σ1 → Q none S σ1 τ) → wc (d + 2 * k + 8) 51 [.ref 63, .ref x, .int (wI (8 - k))] S σ τ Q
def SumP (S : zS) (T : Int → Int) (n : Int) (k : Nat) : Prop := ∀ (d x : Nat) (s : Int) (σ τ : zI) (Q : zQ), oT S x → CR T n s σ → (0 ≤ σ x 2 ∧ σ x 2 ≤ s) → (∀ σ1, CO x T n (sumO T n (oneK T n k) s) σ σ1 → Q none S σ1 τ) → wc (d + 2 * k + 9) 50 [.ref 63, .ref x, .int (wI (8 - k))] S σ τ Q
end CSM
section CSN
variable {S : zS} {T : Int → Int} {n : Int} {k : Nat}
theorem cr_no {s : Int} {σ : zI} (fl : CFS σ) : ¬ CR T n s σ := fun cr => absurd (CR_b cr).2.2.2.1 fl.1
theorem CO_ok {x : Nat} {R : RR} {e : Int} {L : List (Int × Int)} {σ σ1 : zI} (h : R = (0, e, L)) (cj : CJ x σ σ1) (cr : CR T n e σ1) (cw : CW x σ σ1 L) : CO x T n R σ σ1 := by
  subst h
  exact ⟨cj, fun _ => ⟨cr, cw⟩, fun z => absurd rfl z⟩
theorem CO_er {x : Nat} {R : RR} {r e : Int} {M : List (Int × Int)} {σ σ1 : zI} (h : R = (r, e, M)) (hr : r ≠ 0) (cj : CJ x σ σ1) (cd : CD r e σ1) : CO x T n R σ σ1 := by
  subst h
  exact ⟨cj, fun z => absurd z hr, fun _ => cd⟩
theorem stE_s {t : Int} (h : t = 29 ∨ t = 30 ∨ t = 31 ∨ t = 32) : t * 10000 + 0 = stE (t - 26) 0 := by
  rcases h with rfl | rfl | rfl | rfl <;> decide
theorem len_a (L M : List (Int × Int)) : ((L ++ M).length : Int) = (L.length : Int) + (M.length : Int) := by rw [List.length_append]; omega
theorem len_1 (y : Int × Int) : (([y] : List (Int × Int)).length : Int) = 1 := rfl
/-- the terms of a SUM -/
theorem c_trm (hT : TB T n) (hk : k ≤ 8) (one : OneP S T n k) {d x : Nat} {x3 x4 : Int} {σ0 τ : zI} {Q : zQ} (hx : oT S x) (h3 : 0 ≤ x3 ∧ x3 ≤ 100) (h4 : 0 ≤ x4 ∧ x4 ≤ 300) (h0 : 0 ≤ σ0 x 2) : ∀ (m : Nat) (x5 s : Int) (L : List (Int × Int)) (y6 : Value) (σ : zI), CR T n s σ → CJ x σ0 σ → CW x σ0 σ L → σ0 x 2 + L.length ≤ s → x5 + m = 301 → 0 ≤ x5 → x5 ≤ s → ((termO T n (oneK T n k) m s L).1 = 0 → ∀ (x5 : Int) (y : Value) (σ1 : zI), CR T n (termO T n (oneK T n k) m s L).2.1 σ1 → CJ x σ0 σ1 → CW x σ0 σ1 (termO T n (oneK T n k) m s L).2.2 → wi (d + 2 * k + 9) 50 97 [.ref 63, .ref x, .int (wI (8 - k)), .int (wI x3), .int (wI x4), .int (wI x5), y] [] S σ1 τ Q) → ((termO T n (oneK T n k) m s L).1 ≠ 0 → ∀ σ1, CJ x σ0 σ1 → CD (termO T n (oneK T n k) m s L).1 (termO T n (oneK T n k) m s L).2.1 σ1 → Q none S σ1 τ) → wi (d + 2 * k + 9) 50 31 [.ref 63, .ref x, .int (wI (8 - k)), .int (wI x3), .int (wI x4), .int (wI x5), y6] [] S σ τ Q
  | 0, x5, s, L, y6, σ, cr, cj, cw, hl, hm, hx5, hms, ok, er => by
    have := CR_s cr hT.1.1
    have := hT.1.2
    omega
  | m + 1, x5, s, L, y6, σ, cr, cj, cw, hl, hm, hx5, hms, ok, er => by
    have xb := oT_b hx
    have n3 := hT.1.2
    have sb := CR_s cr hT.1.1
    have cb := CR_b cr
    have c4 := cb.2.2.1
    have c5 := cb.2.2.2.1
    have hc0 := cw.1
    refine u_50_31 hx ⟨by omega, ifI (fun z => by omega) (fun _ => ?_)⟩
    rw [if_pos c5]
    by_cases c : tk T n s = 31 ∨ tk T n s = 32
    · have sn := tk_n (T := T) (n := n) (s := s) (by omega)
      have nb := nx_b (T := T) sn
      have go : wi (d + 2 * k + 9) 50 66 [.ref 63, .ref x, .int (wI (8 - k)), .int (wI x3), .int (wI x4), .int (wI x5), y6] [] S σ τ Q := by
        refine u_50_66 hx ⟨T, n, s, Or.inl cr, fun _ => by omega, hT, fun σ1 xp => ?_⟩
        have cr1 := (xp.2.2 cr).1 c4.symm
        have cj1 := CJ_t cj (CJ_k (x := x) (by omega) xp.1)
        have cw1 := CW_t cw (CW_k (x := x) (by omega) xp.1)
        rw [List.append_nil] at cw1
        have b1 := cw1.1
        refine one d x (nx T n s) σ1 τ _ hx cr1 (by omega) (fun σ2 co => ?_)
        have cj2 := CJ_t cj1 co.1
        refine u_50_84 hx ⟨cj2.2.2.2 (by omega), by omega, fun σ3 cj3 e3 w3 => ?_⟩
        by_cases e : (oneK T n k (nx T n s)).1 = 0
        · have ro := (oneK_ok (T := T) n3 k hk (nx T n s) (by omega) (by omega)).1 e
          obtain ⟨cr2, cw2⟩ := co.2.1 e
          rw [termO_z c e] at ok er
          have cw2' := CW_t cw1 cw2
          have b2 := cw2'.1
          have cl := len_a L (oneK T n k (nx T n s)).2.2
          have cl2 := len_a (L ++ (oneK T n k (nx T n s)).2.2) [(tk T n s - 26, 0)]
          have cl3 := len_1 (tk T n s - 26, 0)
          have cw3 := CW_t cw2' (CW_1 (y := (tk T n s - 26, 0)) (w3 (by omega)) (by rw [c4]; exact stE_s (by omega)))
          exact c_trm hT hk one hx h3 h4 h0 m (x5 + 1) _ _ _ σ3 (CR_j (by omega) cr2 cj3 e3 (by omega)) (CJ_t cj2 cj3) cw3 (by omega) (by omega) (by omega) (by omega) ok er
        · rw [termO_y c e] at er
          have cd := co.2.2 e
          have fl : CFS σ3 := by unfold CFS; rw [e3]; exact CD_F cd e
          refine fs_31 hx fl (cj3.2.2.2 (cj2.2.2.2 (by omega))) h3 h4 (by omega) (fun σ4 cj4 e4 => er e σ4 (CJ_t (CJ_t cj2 cj3) cj4) ?_)
          unfold CD
          rw [e4, e3]
          exact cd
      rcases c with c | c
      · rw [if_pos (by omega)]; exact go
      · rw [if_neg (by omega), if_pos (by omega)]; exact go
    · rw [if_neg (by omega), if_neg (by omega)]
      rw [termO_n c] at ok
      exact ok rfl _ y6 σ cr cj cw
/-- a SUM -/
theorem c_sml (hT : TB T n) (hk : k ≤ 8) (one : OneP S T n k) {d x : Nat} {σ0 τ : zI} {Q : zQ} (hx : oT S x) (h0 : 0 ≤ σ0 x 2) : ∀ (m : Nat) (x4 s jn : Int) (L : List (Int × Int)) (y5 y6 : Value) (σ : zI), CR T n s σ → CJ x σ0 σ → CW x σ0 σ L → (jn = 0 ∨ jn = 29 ∨ jn = 30) → σ0 x 2 + L.length + (jnO jn).length ≤ s → x4 + m = 301 → 0 ≤ x4 → x4 ≤ s → (∀ σ1, CO x T n (sumL T n (oneK T n k) m s L jn) σ0 σ1 → Q none S σ1 τ) → wi (d + 2 * k + 9) 50 5 [.ref 63, .ref x, .int (wI (8 - k)), .int (wI jn), .int (wI x4), y5, y6] [] S σ τ Q
  | 0, x4, s, jn, L, y5, y6, σ, cr, cj, cw, hj, hl, hm, hx4, hms, K => by
    have := CR_s cr hT.1.1
    have := hT.1.2
    omega
  | m + 1, x4, s, jn, L, y5, y6, σ, cr, cj, cw, hj, hl, hm, hx4, hms, K => by
    have xb := oT_b hx
    have n3 := hT.1.2
    have sb := CR_s cr hT.1.1
    have cb := CR_b cr
    have c5 := cb.2.2.2.1
    have b0 := cw.1
    refine u_50_5 hx ⟨by omega, ifI (fun z => by omega) (fun _ => ?_)⟩
    rw [if_pos c5]
    refine one d x s σ τ _ hx cr (by omega) (fun σ1 co => u_50_28 hx ?_)
    have cj1 := CJ_t cj co.1
    by_cases e : (oneK T n k s).1 = 0
    · have ro := (oneK_ok (T := T) n3 k hk s (by omega) (by omega)).1 e
      obtain ⟨cr1, cw1⟩ := co.2.1 e
      obtain ⟨R, hR⟩ : ∃ R, R = termO T n (oneK T n k) 301 (oneK T n k s).2.1 (oneK T n k s).2.2 := ⟨_, rfl⟩
      have tok := termO_ok (T := T) (oneK_ok (T := T) n3 k hk) 301 (oneK T n k s).2.1 (oneK T n k s).2.2 s (by omega) (by omega) (by omega) (by omega) (by omega)
      have tm := c_trm (d := d) (τ := τ) (Q := Q) (x3 := jn) (x4 := x4) (σ0 := σ) hT hk one hx (by omega) (by omega) (by omega) 301 0 _ _ y6 σ1 cr1 co.1 cw1 (by omega) (by omega) (by omega) (by omega)
      rw [← hR] at tm tok
      refine tm (fun e2 x5 y σ2 cr2 cj2 cw2 => ?_) (fun e2 σ2 cj2 cd => K σ2 (CO_er (sumL_b hR e e2) e2 (CJ_t cj cj2) cd))
      have tk2 := tok.1 e2
      have cb2 := CR_b cr2
      have c4 := cb2.2.2.1
      have tkb := (rk_tk (s := R.2.1) hT (by omega)).2.2.2.2.2.1
      have cw2' := CW_t cw cw2
      have b2 := cw2'.1
      have l2 := len_a L R.2.2
      have fin : ∀ (σ3 : zI), CR T n R.2.1 σ3 → CJ x σ0 σ3 → CW x σ0 σ3 (L ++ R.2.2 ++ jnO jn) → if (σ3 63 4) = 29 then (wi (d + 2 * k + 9) 50 125 [.ref 63, .ref x, .int (wI (8 - k)), .int (wI (σ3 63 4)), .int (wI x4), .int (wI x5), y] [] S σ3 τ Q) else (if (σ3 63 4) = 30 then (wi (d + 2 * k + 9) 50 125 [.ref 63, .ref x, .int (wI (8 - k)), .int (wI (σ3 63 4)), .int (wI x4), .int (wI x5), y] [] S σ3 τ Q) else (Q none S σ3 τ)) := by
        intro σ3 cr3 cj3 cw3
        have cb3 := CR_b cr3
        have c43 := cb3.2.2.1
        have l3 := len_a (L ++ R.2.2) (jnO jn)
        by_cases c : tk T n R.2.1 = 29 ∨ tk T n R.2.1 = 30
        · have sn := tk_n (T := T) (n := n) (s := R.2.1) (by omega)
          have nb := nx_b (T := T) sn
          rw [sumL_c hR e e2 c] at K
          have jl := jnO_l (tk T n R.2.1)
          have go : wi (d + 2 * k + 9) 50 125 [.ref 63, .ref x, .int (wI (8 - k)), .int (wI (σ3 63 4)), .int (wI x4), .int (wI x5), y] [] S σ3 τ Q := by
            refine u_50_125 hx ⟨T, n, R.2.1, Or.inl cr3, fun _ => by omega, by omega, hT, fun σ4 xp => ?_⟩
            have cr4 := (xp.2.2 cr3).1 c43.symm
            have cw4 := CW_t cw3 (CW_k (x := x) (by omega) xp.1)
            rw [List.append_nil] at cw4
            rw [c43]
            exact c_sml hT hk one hx h0 m (x4 + 1) _ _ _ _ _ σ4 cr4 (CJ_t cj3 (CJ_k (by omega) xp.1)) cw4 (by omega) (by omega) (by omega) (by omega) (by omega) K
          exact ifI (fun _ => go) (fun _ => ifI (fun _ => go) (fun _ => by omega))
        · exact ifI (fun _ => by omega) (fun _ => ifI (fun _ => by omega) (fun _ => K σ3 (CO_ok (sumL_d hR e e2 c) cj3 cr3 cw3)))
      refine u_50_97 hx ⟨by omega, ifI (fun z => ?_) (fun z => ⟨(CJ_t cj cj2).2.2.2 (by omega), by omega, fun σ3 cj3 e3 w3 => ?_⟩)⟩
      · refine fin σ2 cr2 (CJ_t cj cj2) ?_
        rw [show jnO jn = [] from if_pos z, List.append_nil]
        exact cw2'
      · have jz : jnO jn = [(jn - 26, 0)] := if_neg z
        have jl : ((jnO jn).length : Int) = 1 := by rw [jz]; rfl
        refine fin σ3 (CR_j (by omega) cr2 cj3 e3 (by omega)) (CJ_t (CJ_t cj cj2) cj3) ?_
        rw [jz]
        exact CW_t cw2' (CW_1 (y := (jn - 26, 0)) (w3 (by omega)) (stE_s (by omega)))
    · have cd := co.2.2 e
      refine fs_31 hx (CD_F cd e) (cj1.2.2.2 (by omega)) (by omega) (by omega) (by omega) (fun σ2 cj2 e2 => K σ2 (CO_er (sumL_a e) e (CJ_t cj1 cj2) ?_))
      unfold CD
      rw [e2]
      exact cd
theorem c_sum (hT : TB T n) (hk : k ≤ 8) (one : OneP S T n k) : SumP S T n k := by
  intro d x s σ τ Q hx cr hb K
  refine wc_of mi_50 rfl (u_50_0 hx ?_)
  have j0 : ((jnO 0).length : Int) = 0 := rfl
  have l0 : (([] : List (Int × Int)).length : Int) = 0 := rfl
  exact c_sml hT hk one hx hb.1 301 0 s 0 [] _ _ σ cr CJ_0 CW_0 (by omega) (by omega) (by omega) (by omega) (by omega) K
end CSN
