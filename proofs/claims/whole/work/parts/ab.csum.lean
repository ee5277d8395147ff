/-! ===== the class reads: SUMS (segments printed by wip/whole, contracts own work) ===== -/
section CSM
variable {S : zS}
/-- the rest of a SUM behind a fault -/
theorem fs_97 {d x : Nat} {o x3 x4 x5 : Int} {y6 : Value} {σ τ : zI} {Q : zQ} (hx : oT S x) (fl : CFS σ) (hb : 0 ≤ σ x 2 ∧ σ x 2 ≤ 300) (h3 : 0 ≤ x3 ∧ x3 ≤ 100) (h4 : 0 ≤ x4 ∧ x4 ≤ 300) (K : ∀ σ1, CJ x σ σ1 → σ1 63 = σ 63 → Q none S σ1 τ) : wi (d + 8) 50 97 [.ref 63, .ref x, .int (wI o), .int (wI x3), .int (wI x4), .int (wI x5), y6] [] S σ τ Q := by
  have f2 := fl.2
  have tb0 : TB (fun _ => 0) 0 := ⟨by omega, fun k _ _ => by omega⟩
  have e125 : ∀ (x3' : Int) (σ' : zI), 0 ≤ x3' ∧ x3' ≤ 100 → CJ x σ σ' → σ' 63 = σ 63 → wi (d + 8) 50 125 [.ref 63, .ref x, .int (wI o), .int (wI x3'), .int (wI x4), .int (wI x5), y6] [] S σ' τ Q := by
    intro x3' σ' hx3 cj e
    have f : CFS σ' := by unfold CFS; rw [e]; exact fl
    refine u_50_125 hx ⟨fun _ => 0, 0, 0, Or.inr f, fun cr => absurd (CR_b cr).2.2.2.1 f.1, by omega, tb0, fun σ2 xp => ?_⟩
    rw [xp.2.1 f]
    exact u_50_5 hx ⟨by omega, ifI (fun _ => u_50_136 hx (K σ' cj e)) (fun _ => ifI (fun z => absurd z f.1) (fun _ => u_50_136 hx (K σ' cj e)))⟩
  refine u_50_97 hx ⟨by omega, ifI (fun _ => ifI (fun _ => e125 _ σ (by omega) CJ_0 rfl) (fun _ => ifI (fun _ => e125 _ σ (by omega) CJ_0 rfl) (fun _ => K σ CJ_0 rfl))) (fun _ => ⟨hb, by omega, fun σ1 cj e _ => ?_⟩)⟩
  have e4 : σ1 63 4 = σ 63 4 := by rw [e]
  exact ifI (fun _ => e125 _ σ1 (by omega) cj e) (fun _ => ifI (fun _ => e125 _ σ1 (by omega) cj e) (fun _ => K σ1 cj e))
theorem fs_31 {d x : Nat} {o x3 x4 x5 : Int} {y6 : Value} {σ τ : zI} {Q : zQ} (hx : oT S x) (fl : CFS σ) (hb : 0 ≤ σ x 2 ∧ σ x 2 ≤ 300) (h3 : 0 ≤ x3 ∧ x3 ≤ 100) (h4 : 0 ≤ x4 ∧ x4 ≤ 300) (h5 : rg x5) (K : ∀ σ1, CJ x σ σ1 → σ1 63 = σ 63 → Q none S σ1 τ) : wi (d + 8) 50 31 [.ref 63, .ref x, .int (wI o), .int (wI x3), .int (wI x4), .int (wI x5), y6] [] S σ τ Q :=
  u_50_31 hx ⟨h5, ifI (fun _ => fs_97 hx fl hb h3 h4 K) (fun _ => ifI (fun z => absurd z fl.1) (fun _ => fs_97 hx fl hb h3 h4 K))⟩
/-- what reading comes to in the class -/
def CO (x : Nat) (T : Int → Int) (n : Int) (R : RR) (σ σ1 : zI) : Prop := CJ x σ σ1 ∧ (R.1 = 0 → CR T n R.2.1 σ1 ∧ CW x σ σ1 R.2.2) ∧ (R.1 ≠ 0 → CD R.1 R.2.1 σ1)
def OneP (S : zS) (T : Int → Int) (n : Int) (k : Nat) : Prop := ∀ (d x : Nat) (s : Int) (σ τ : zI) (Q : zQ), oT S x → CR T n s σ → (0 ≤ σ x 2 ∧ σ x 2 ≤ s) → (∀ σ1, CO x T n (oneK T n k s) σ σ1 → Q none S σ1 τ) → wc (d + 2 * k + 8) 51 [.ref 63, .ref x, .int (wI (8 - k))] S σ τ Q
def SumP (S : zS) (T : Int → Int) (n : Int) (k : Nat) : Prop := ∀ (d x : Nat) (s : Int) (σ τ : zI) (Q : zQ), oT S x → CR T n s σ → (0 ≤ σ x 2 ∧ σ x 2 ≤ s) → (∀ σ1, CO x T n (sumO T n (oneK T n k) s) σ σ1 → Q none S σ1 τ) → wc (d + 2 * k + 9) 50 [.ref 63, .ref x, .int (wI (8 - k))] S σ τ Q
end CSM
