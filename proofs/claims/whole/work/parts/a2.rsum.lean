/-! ===== the reference reads: SUMS (segments printed by wip/whole, contracts own work) ===== -/
section SMS
variable {T : Int → Int} {n : Int}
theorem termO_y {one : Int → RR} {m : Nat} {s : Int} {L : List (Int × Int)} (c : tk T n s = 31 ∨ tk T n s = 32) (e : (one (nx T n s)).1 ≠ 0) : termO T n one (m + 1) s L = ((one (nx T n s)).1, (one (nx T n s)).2.1, []) := by
  unfold termO
  rw [if_pos c, if_pos e]
theorem termO_z {one : Int → RR} {m : Nat} {s : Int} {L : List (Int × Int)} (c : tk T n s = 31 ∨ tk T n s = 32) (e : (one (nx T n s)).1 = 0) : termO T n one (m + 1) s L = termO T n one m (one (nx T n s)).2.1 (L ++ (one (nx T n s)).2.2 ++ [(tk T n s - 26, 0)]) := by
  conv => lhs; unfold termO
  rw [if_pos c, if_neg (by omega)]
theorem termO_n {one : Int → RR} {m : Nat} {s : Int} {L : List (Int × Int)} (c : ¬ (tk T n s = 31 ∨ tk T n s = 32)) : termO T n one (m + 1) s L = (0, s, L) := by
  unfold termO
  rw [if_neg c]
theorem sumL_a {one : Int → RR} {m : Nat} {s jn : Int} {L : List (Int × Int)} (e : (one s).1 ≠ 0) : sumL T n one (m + 1) s L jn = ((one s).1, (one s).2.1, []) := by
  unfold sumL
  rw [if_pos e]
theorem sumL_b {one : Int → RR} {m : Nat} {s jn : Int} {L : List (Int × Int)} {R : RR} (hR : R = termO T n one 301 (one s).2.1 (one s).2.2) (e : (one s).1 = 0) (e2 : R.1 ≠ 0) : sumL T n one (m + 1) s L jn = (R.1, R.2.1, []) := by
  subst hR
  unfold sumL
  rw [if_neg (by omega), if_pos e2]
theorem sumL_c {one : Int → RR} {m : Nat} {s jn : Int} {L : List (Int × Int)} {R : RR} (hR : R = termO T n one 301 (one s).2.1 (one s).2.2) (e : (one s).1 = 0) (e2 : R.1 = 0) (c : tk T n R.2.1 = 29 ∨ tk T n R.2.1 = 30) : sumL T n one (m + 1) s L jn = sumL T n one m (nx T n R.2.1) (L ++ R.2.2 ++ jnO jn) (tk T n R.2.1) := by
  subst hR
  conv => lhs; unfold sumL
  rw [if_neg (by omega), if_neg (by omega), if_pos c]
  rfl
theorem sumL_d {one : Int → RR} {m : Nat} {s jn : Int} {L : List (Int × Int)} {R : RR} (hR : R = termO T n one 301 (one s).2.1 (one s).2.2) (e : (one s).1 = 0) (e2 : R.1 = 0) (c : ¬ (tk T n R.2.1 = 29 ∨ tk T n R.2.1 = 30)) : sumL T n one (m + 1) s L jn = (0, R.2.1, L ++ R.2.2 ++ jnO jn) := by
  subst hR
  unfold sumL
  rw [if_neg (by omega), if_neg (by omega), if_neg c]
  rfl
theorem ds_53 : ∀ π : List Int, ds 3 π = ds 3 (ds 5 π) ∧ eSt 3 π = eSt 5 π ++ eSt 3 (ds 5 π)
  | [] => ⟨rfl, rfl⟩
  | x :: t => by
    have i := ds_53 t
    by_cases c : x < 40 ∧ 5 ≤ x
    · have a1 : ds 5 (x :: t) = ds 5 t := if_pos c
      have a2 : ds 3 (x :: t) = ds 3 t := if_pos (by omega)
      have a3 : eSt 5 (x :: t) = (x, 0) :: eSt 5 t := if_pos c
      have a4 : eSt 3 (x :: t) = (x, 0) :: eSt 3 t := if_pos (by omega)
      rw [a1, a2, a3, a4]
      exact ⟨i.1, by rw [i.2]; rfl⟩
    · have a1 : ds 5 (x :: t) = x :: t := if_neg c
      have a3 : eSt 5 (x :: t) = [] := if_neg c
      rw [a1, a3]
      exact ⟨rfl, rfl⟩
theorem hpar_s (l : Int) : ∀ π : List Int, hpar (ds l π) = hpar π
  | [] => rfl
  | x :: t => by
    by_cases c : x < 40 ∧ l ≤ x
    · have a1 : ds l (x :: t) = ds l t := if_pos c
      have a2 : hpar (x :: t) = (decide (40 ≤ x) || hpar t) := rfl
      rw [a1, a2, hpar_s l t, decide_eq_false (by omega)]
      rfl
    · have a1 : ds l (x :: t) = x :: t := if_neg c
      rw [a1]
/-- the reference reads a SUM: so many more may be open -/
def ST (T : Int → Int) (n k s : Int) (π : List Int) (σ τ : zI) : Prop := TR T n s σ τ ∧ PIL σ π ∧ EB σ ∧ σ 83 14 + π.length < s ∧ σ 83 17 = 8 - k
theorem ST_m {k k1 s s1 : Int} {π π1 : List Int} {L : List (Int × Int)} {σ τ σ1 τ1 : zI} (h : ST T n k s π σ τ) (hT : TB T n) (pf : PF σ σ1 τ τ1 L) (tr : TR T n s1 σ1 τ1) (pi : PIL σ1 π1) (hl : (L.length : Int) + π1.length ≤ π.length + (s1 - s)) (h17 : σ1 83 17 = 8 - k1) : ST T n k1 s1 π1 σ1 τ1 := by
  obtain ⟨h1, h2, h3, h4, h5⟩ := h
  have e14 := pf.1.1
  have e12 := pf.2.2.1 12 (by omega)
  have := tr.1
  have := hT.1
  exact ⟨tr, pi, EB_f h3 e12 (by have := h3.2; omega), by omega, h17⟩
/-- a fault ends it -/
def FC (T : Int → Int) (n : Int) (S : zS) (Q : zQ) (σ τ : zI) (R : RR) : Prop := R.1 ≠ 0 → ∀ σ1 τ1 L, PF σ σ1 τ τ1 L → σ1 83 14 ≤ 310 → TR T n R.2.1 σ1 τ1 → Q (some (.int (wI R.1))) S σ1 τ1
theorem FC_t {S : zS} {Q : zQ} {σ τ σ1 τ1 : zI} {R R' : RR} {M : List (Int × Int)} (h : FC T n S Q σ τ R) (pf : PF σ σ1 τ τ1 M) (e : R'.1 ≠ 0 → R.1 = R'.1 ∧ R.2.1 = R'.2.1) : FC T n S Q σ1 τ1 R' := by
  intro hr σ2 τ2 L p2 b tr
  have := e hr
  rw [← this.1]
  exact h (by rw [this.1]; exact hr) σ2 τ2 _ (PF_t pf p2) b (by rw [this.2]; exact tr)
end SMS
-- method 247: MillTownModel.sum()I
theorem c_247_0 : pg_cd 247 0 = (5, 1, 0, 0, 0) := by decide +kernel
theorem c_247_1 : pg_cd 247 1 = (1, 1, 0, 0, 0) := by decide +kernel
theorem c_247_2 : pg_cd 247 2 = (46, 12, 177, 16, 0) := by decide +kernel
theorem c_247_5 : pg_cd 247 5 = (5, 1, 0, 0, 0) := by decide +kernel
theorem c_247_6 : pg_cd 247 6 = (1, 1, 0, 0, 0) := by decide +kernel
theorem c_247_7 : pg_cd 247 7 = (47, 12, 180, 18, 0) := by decide +kernel
theorem c_247_10 : pg_cd 247 10 = (5, 1, 0, 0, 0) := by decide +kernel
theorem c_247_11 : pg_cd 247 11 = (43, 12, 180, 18, 0) := by decide +kernel
theorem c_247_14 : pg_cd 247 14 = (36, 3, 0, 0, 10) := by decide +kernel
theorem c_247_17 : pg_cd 247 17 = (5, 1, 0, 0, 0) := by decide +kernel
theorem c_247_18 : pg_cd 247 18 = (80, 245, 216, 0, 0) := by decide +kernel
theorem c_247_21 : pg_cd 247 21 = (36, 3, 0, 0, 31) := by decide +kernel
theorem c_247_24 : pg_cd 247 24 = (5, 1, 0, 0, 0) := by decide +kernel
theorem c_247_25 : pg_cd 247 25 = (43, 12, 180, 18, 0) := by decide +kernel
theorem c_247_28 : pg_cd 247 28 = (36, 3, 0, 0, 10) := by decide +kernel
theorem c_247_31 : pg_cd 247 31 = (5, 1, 0, 0, 0) := by decide +kernel
theorem c_247_32 : pg_cd 247 32 = (80, 246, 219, 0, 0) := by decide +kernel
theorem c_247_35 : pg_cd 247 35 = (38, 3, 0, 0, 7) := by decide +kernel
theorem c_247_38 : pg_cd 247 38 = (5, 1, 0, 0, 0) := by decide +kernel
theorem c_247_39 : pg_cd 247 39 = (80, 243, 222, 0, 0) := by decide +kernel
theorem c_247_42 : pg_cd 247 42 = (6, 1, 0, 1, 0) := by decide +kernel
theorem c_247_43 : pg_cd 247 43 = (3, 1, 0, 1, 0) := by decide +kernel
theorem c_247_44 : pg_cd 247 44 = (36, 3, 0, 0, 5) := by decide +kernel
theorem c_247_47 : pg_cd 247 47 = (3, 1, 0, 1, 0) := by decide +kernel
theorem c_247_48 : pg_cd 247 48 = (90, 0, 0, 0, 0) := by decide +kernel
theorem c_247_49 : pg_cd 247 49 = (38, 3, 0, 0, (-39)) := by decide +kernel
theorem c_247_52 : pg_cd 247 52 = (5, 1, 0, 0, 0) := by decide +kernel
theorem c_247_53 : pg_cd 247 53 = (1, 1, 0, 0, 3) := by decide +kernel
theorem c_247_54 : pg_cd 247 54 = (80, 241, 213, 0, 0) := by decide +kernel
theorem c_247_57 : pg_cd 247 57 = (5, 1, 0, 0, 0) := by decide +kernel
theorem c_247_58 : pg_cd 247 58 = (43, 12, 177, 16, 0) := by decide +kernel
theorem c_247_61 : pg_cd 247 61 = (36, 3, 0, 5, 7) := by decide +kernel
theorem c_247_64 : pg_cd 247 64 = (1, 1, 0, 0, 1) := by decide +kernel
theorem c_247_65 : pg_cd 247 65 = (38, 3, 0, 0, 4) := by decide +kernel
theorem c_247_68 : pg_cd 247 68 = (1, 1, 0, 0, 0) := by decide +kernel
theorem c_247_69 : pg_cd 247 69 = (90, 0, 0, 0, 0) := by decide +kernel
theorem mi_247 : pg_mc 247 = 12 ∧ pg_na 247 = 0 ∧ pg_mx 247 = 2 := by decide +kernel
set_option maxRecDepth 20000 in
theorem u_247_0 {d : Nat} {S : zS} {σ τ : zI} {Q : zQ} (t : wi (d + 9) 247 10 [.ref 83, .retAddr 0] [] S (uc σ 83 (u1 (u1 (σ 83) 16 0) 18 0)) τ Q) : wi (d + 9) 247 0 [.ref 83, .retAddr 0] [] S σ τ Q := by
  refine i5 c_247_0 rfl (i1 c_247_1 (i46 (σ1 := uc σ 83 (u1 (σ 83) 16 0)) c_247_2 (lo (c := 83) (kd := 112) (n := 0) rfl (by decide)) (by decide) rfl (by decide) (wr_ rfl rfl) (i5 c_247_5 rfl (i1 c_247_6 (i47 (σ1 := uc σ 83 (u1 (u1 (σ 83) 16 0) 18 0)) c_247_7 (lo (c := 83) (kd := 112) (n := 0) rfl (by decide)) (by decide) rfl (by decide) (wr_ (uc_s _ _ _) (uc_uc _ _ _ _)) t)))))
set_option maxRecDepth 20000 in
theorem u_247_10 {d : Nat} {S : zS} {σ τ : zI} {Q : zQ} {y1 : Value} (t : if (σ 83 18) = 0 then (∃ pl4 : List Int, ∃ T5 : Int → Int, ∃ n6 : Int, ∃ s7 : Int, (TB T5 n6) ∧ (TR T5 n6 s7 σ τ) ∧ (PIL σ pl4) ∧ (pl4.length ≤ 150) ∧ (EB σ) ∧ (σ 83 14 + pl4.length ≤ 299) ∧ (0 ≤ σ 83 17 ∧ σ 83 17 ≤ 8) ∧ ∀ (r15 : Int) (σ116 : zI) (τ117 : zI), 0 ≤ r15 → r15 ≤ 3 → BO T5 n6 s7 pl4 σ τ r15 σ116 τ117 → (rg r15) ∧ if r15 = 0 then (wi (d + 9) 247 10 [.ref 83, .int (wI r15)] [] S σ116 τ117 Q) else (Q (some (.int (wI r15))) S σ116 τ117)) else (∃ pl23 : List Int, ∃ T24 : Int → Int, ∃ n25 : Int, ∃ s26 : Int, (TB T24 n25) ∧ (TR T24 n25 s26 σ τ) ∧ (PIL σ pl23) ∧ (pl23.length ≤ 150) ∧ if gon (tk T24 n25 s26) pl23 then (∃ pl33 : List Int, ∃ T34 : Int → Int, ∃ n35 : Int, ∃ s36 : Int, (TB T34 n35) ∧ (TR T34 n35 s36 σ τ) ∧ (PIL σ pl33) ∧ (pl33.length ≤ 150) ∧ (EB σ) ∧ (σ 83 14 + pl33.length ≤ 299) ∧ (0 ≤ σ 83 17 ∧ σ 83 17 ≤ 8) ∧ (gon (tk T34 n35 s36) pl33) ∧ (hpar pl33 = true → 1 ≤ σ 83 17) ∧ ∀ (r46 : Int) (σ147 : zI) (τ148 : zI), 0 ≤ r46 → r46 ≤ 3 → BH T34 n35 s36 pl33 σ τ r46 σ147 τ148 → (rg r46) ∧ if r46 = 0 then (wi (d + 9) 247 10 [.ref 83, .int (wI r46)] [] S σ147 τ148 Q) else (Q (some (.int (wI r46))) S σ147 τ148)) else (∃ pl54 : List Int, (PIL σ pl54) ∧ (pl54.length ≤ 150) ∧ (EB σ) ∧ (σ 83 14 + pl54.length ≤ 300) ∧ ∀ (σ159 : zI), SE σ σ159 3 pl54 → if (σ159 83 16) ≤ 0 then (Q (some (.int (wI 0))) S σ159 τ) else (Q (some (.int (wI 1))) S σ159 τ)))) : wi (d + 9) 247 10 [.ref 83, y1] [] S σ τ Q := by
  refine i5 c_247_10 rfl (wi_ok (fun K1 => ?_))
  refine i43 (v := σ 83 18) c_247_11 (lo (c := 83) (kd := 112) (n := 0) rfl (by decide)) rfl ?_
  refine i36 c_247_14 (rge_ K1 rfl) rfl (fun hc => ?_) (fun hc => ?_)
  · have t := iT t hc
    have ha2 : (σ 83 18) = 0 := hc
    refine i5 c_247_24 rfl (i43 (v := σ 83 18) c_247_25 (lo (c := 83) (kd := 112) (n := 0) rfl (by decide)) rfl ?_)
    refine i36 c_247_28 (rge_ K1 rfl) rfl (fun _ => ?_) (fun hc => absurd (show (σ 83 18) = 0 by omega) hc)
    obtain ⟨pl4, t⟩ := t
    obtain ⟨T5, t⟩ := t
    obtain ⟨n6, t⟩ := t
    obtain ⟨s7, t⟩ := t
    obtain ⟨p8, t⟩ := t
    obtain ⟨p9, t⟩ := t
    obtain ⟨p10, t⟩ := t
    obtain ⟨p11, t⟩ := t
    obtain ⟨p12, t⟩ := t
    obtain ⟨p13, t⟩ := t
    obtain ⟨p14, t⟩ := t
    refine i5 c_247_38 rfl ?_
    refine i80 (As := []) (rest := []) c_247_39 mi_243 rfl rfl (Nat.le_of_ble_eq_true rfl) (Nat.le_of_ble_eq_true rfl) (lo (c := 83) (kd := 112) (n := 0) rfl (by decide)) (q_243 (pl := pl4) (T := T5) (n := n6) (s := s7) p8 p9 p10 p11 p12 p13 p14 (fun r15 σ116 τ117 q18 q19 q20 => ?_))
    have t := t r15 σ116 τ117 q18 q19 q20
    show wi (d + 9) 247 42 [.ref 83, y1] [.int (wI r15)] S σ116 τ117 Q
    obtain ⟨r21, t⟩ := t
    refine i6 (L' := [.ref 83, .int (wI r15)]) c_247_42 rfl (i3 c_247_43 rfl ?_)
    refine i36 c_247_44 r21 rfl (fun hc => ?_) (fun hc => ?_)
    · have t := iT t hc
      have ha22 : r15 = 0 := hc
      refine i38 c_247_49 rfl t
    · have t := iF t hc
      have ha22 : ¬ (r15 = 0) := hc
      refine i3 c_247_47 rfl ?_
      exact i90 c_247_48 t
  · have t := iF t hc
    have ha2 : ¬ ((σ 83 18) = 0) := hc
    obtain ⟨pl23, t⟩ := t
    obtain ⟨T24, t⟩ := t
    obtain ⟨n25, t⟩ := t
    obtain ⟨s26, t⟩ := t
    obtain ⟨p27, t⟩ := t
    obtain ⟨p28, t⟩ := t
    obtain ⟨p29, t⟩ := t
    obtain ⟨p30, t⟩ := t
    refine i5 c_247_17 rfl ?_
    refine i80 (As := []) (rest := []) c_247_18 mi_245 rfl rfl (Nat.le_of_ble_eq_true rfl) (Nat.le_of_ble_eq_true rfl) (lo (c := 83) (kd := 112) (n := 0) rfl (by decide)) (q_245 (pl := pl23) (T := T24) (n := n25) (s := s26) p27 p28 p29 p30 ?_)
    show wi (d + 9) 247 21 [.ref 83, y1] [.int (wI (if gon (tk T24 n25 s26) pl23 then 1 else 0))] S σ τ Q
    refine i36e c_247_21 rfl (fun hc => ?_) (fun hc => ?_)
    · have t := iT t hc
      have ha31 : gon (tk T24 n25 s26) pl23 := hc
      refine i5 c_247_24 rfl (i43 (v := σ 83 18) c_247_25 (lo (c := 83) (kd := 112) (n := 0) rfl (by decide)) rfl ?_)
      refine i36 c_247_28 (rge_ K1 rfl) rfl (fun hc => absurd hc (show ¬ ((σ 83 18) = 0) by omega)) (fun _ => ?_)
      obtain ⟨pl33, t⟩ := t
      obtain ⟨T34, t⟩ := t
      obtain ⟨n35, t⟩ := t
      obtain ⟨s36, t⟩ := t
      obtain ⟨p37, t⟩ := t
      obtain ⟨p38, t⟩ := t
      obtain ⟨p39, t⟩ := t
      obtain ⟨p40, t⟩ := t
      obtain ⟨p41, t⟩ := t
      obtain ⟨p42, t⟩ := t
      obtain ⟨p43, t⟩ := t
      obtain ⟨p44, t⟩ := t
      obtain ⟨p45, t⟩ := t
      refine i5 c_247_31 rfl ?_
      refine i80 (As := []) (rest := []) c_247_32 mi_246 rfl rfl (Nat.le_of_ble_eq_true rfl) (Nat.le_of_ble_eq_true rfl) (lo (c := 83) (kd := 112) (n := 0) rfl (by decide)) (q_246 (pl := pl33) (T := T34) (n := n35) (s := s36) p37 p38 p39 p40 p41 p42 p43 p44 p45 (fun r46 σ147 τ148 q49 q50 q51 => ?_))
      have t := t r46 σ147 τ148 q49 q50 q51
      show wi (d + 9) 247 35 [.ref 83, y1] [.int (wI r46)] S σ147 τ148 Q
      obtain ⟨r52, t⟩ := t
      refine i38 c_247_35 rfl (i6 (L' := [.ref 83, .int (wI r46)]) c_247_42 rfl (i3 c_247_43 rfl ?_))
      refine i36 c_247_44 r52 rfl (fun hc => ?_) (fun hc => ?_)
      · have t := iT t hc
        have ha53 : r46 = 0 := hc
        refine i38 c_247_49 rfl t
      · have t := iF t hc
        have ha53 : ¬ (r46 = 0) := hc
        refine i3 c_247_47 rfl ?_
        exact i90 c_247_48 t
    · have t := iF t hc
      have ha31 : ¬ (gon (tk T24 n25 s26) pl23) := hc
      obtain ⟨pl54, t⟩ := t
      obtain ⟨p55, t⟩ := t
      obtain ⟨p56, t⟩ := t
      obtain ⟨p57, t⟩ := t
      obtain ⟨p58, t⟩ := t
      refine i5 c_247_52 rfl (i1 c_247_53 ?_)
      refine i80 (As := [.int (wI 3)]) (rest := []) c_247_54 mi_241 rfl rfl (Nat.le_of_ble_eq_true rfl) (Nat.le_of_ble_eq_true rfl) (lo (c := 83) (kd := 112) (n := 0) rfl (by decide)) (q_241 (pl := pl54) (by decide) p55 p56 p57 p58 (fun σ159 q60 => ?_))
      have t := t σ159 q60
      show wi (d + 9) 247 57 [.ref 83, y1] [] S σ159 τ Q
      refine i5 c_247_57 rfl (wi_ok (fun K61 => ?_))
      refine i43 (v := σ159 83 16) c_247_58 (lo (c := 83) (kd := 112) (n := 0) rfl (by decide)) rfl ?_
      refine i36 c_247_61 (rge_ K61 rfl) rfl (fun hc => ?_) (fun hc => ?_)
      · have t := iT t hc
        have ha62 : (σ159 83 16) ≤ 0 := hc
        refine i1 c_247_68 ?_
        exact i90 c_247_69 t
      · have t := iF t hc
        have ha62 : ¬ ((σ159 83 16) ≤ 0) := hc
        refine i1 c_247_64 (i38 c_247_65 rfl ?_)
        exact i90 c_247_69 t
section SMC
variable {T : Int → Int} {n : Int} {d : Nat} {S : zS} {Q : zQ} {σ τ : zI} {y : Value} {π : List Int} {k s : Int}
theorem sum_a (hT : TB T n) (st : ST T n k s π σ τ) (hk : 0 ≤ k ∧ k ≤ 8) (hl : (π.length : Int) ≤ 150) (h18 : σ 83 18 = 0) (K : ∀ r σ1 τ1, 0 ≤ r → r ≤ 3 → BO T n s π σ τ r σ1 τ1 → if r = 0 then ∀ y', wi (d + 9) 247 10 [.ref 83, y'] [] S σ1 τ1 Q else Q (some (.int (wI r))) S σ1 τ1) : wi (d + 9) 247 10 [.ref 83, y] [] S σ τ Q := by
  obtain ⟨h1, h2, h3, h4, h5⟩ := st
  have := h1.1
  have := hT.1
  refine u_247_10 (ifI (fun _ => ⟨π, T, n, s, hT, h1, h2, by omega, h3, by omega, by omega, fun r σ1 τ1 r0 r1 bo => ⟨by omega, ?_⟩⟩) (fun z => absurd h18 z))
  have := K r σ1 τ1 r0 r1 bo
  by_cases c : r = 0
  · rw [if_pos c] at this ⊢
    exact this _
  · rw [if_neg c] at this ⊢
    exact this
theorem sum_b (hT : TB T n) (st : ST T n k s π σ τ) (hk : 0 ≤ k ∧ k ≤ 8) (hl : (π.length : Int) ≤ 150) (h18 : σ 83 18 = 1) (g : gon (tk T n s) π) (hp : hpar π = true → k ≤ 7) (K : ∀ r σ1 τ1, 0 ≤ r → r ≤ 3 → BH T n s π σ τ r σ1 τ1 → if r = 0 then ∀ y', wi (d + 9) 247 10 [.ref 83, y'] [] S σ1 τ1 Q else Q (some (.int (wI r))) S σ1 τ1) : wi (d + 9) 247 10 [.ref 83, y] [] S σ τ Q := by
  obtain ⟨h1, h2, h3, h4, h5⟩ := st
  have := h1.1
  have := hT.1
  refine u_247_10 (ifI (fun z => by omega) (fun _ => ⟨π, T, n, s, hT, h1, h2, by omega, ifI (fun _ => ⟨π, T, n, s, hT, h1, h2, by omega, h3, by omega, by omega, g, fun z => by have := hp z; omega, fun r σ1 τ1 r0 r1 bh => ⟨by omega, ?_⟩⟩) (fun z => absurd g z)⟩))
  have := K r σ1 τ1 r0 r1 bh
  by_cases c : r = 0
  · rw [if_pos c] at this ⊢
    exact this _
  · rw [if_neg c] at this ⊢
    exact this
theorem sum_c (hT : TB T n) (st : ST T n k s π σ τ) (hk : 0 ≤ k ∧ k ≤ 8) (hl : (π.length : Int) ≤ 150) (h18 : σ 83 18 = 1) (g : ¬ gon (tk T n s) π) (K : ∀ σ1, SE σ σ1 3 π → if σ1 83 16 ≤ 0 then Q (some (.int (wI 0))) S σ1 τ else Q (some (.int (wI 1))) S σ1 τ) : wi (d + 9) 247 10 [.ref 83, y] [] S σ τ Q := by
  obtain ⟨h1, h2, h3, h4, h5⟩ := st
  have := h1.1
  have := hT.1
  exact u_247_10 (ifI (fun z => by omega) (fun _ => ⟨π, T, n, s, hT, h1, h2, by omega, ifI (fun z => absurd z g) (fun _ => ⟨π, h2, by omega, h3, by omega, K⟩)⟩))
end SMC
section SMD
variable (T : Int → Int) (n : Int) (d : Nat) (S : zS) (Q : zQ) (k : Nat)
def OneC : Prop := ∀ (s : Int) (π : List Int) (y : Value) (σ τ : zI), ST T n k s π σ τ → σ 83 18 = 0 → (π.length : Int) ≤ 3 * (8 - k) + 2 → ((oneK T n k s).1 = 0 → ∀ y' σ1 τ1, PF σ σ1 τ τ1 ((oneK T n k s).2.2 ++ eM π) → ST T n (k + (eM π).length) (oneK T n k s).2.1 (dm π) σ1 τ1 → σ1 83 18 = 1 → wi (d + 9) 247 10 [.ref 83, y'] [] S σ1 τ1 Q) → FC T n S Q σ τ (oneK T n k s) → wi (d + 9) 247 10 [.ref 83, y] [] S σ τ Q
def SumC : Prop := ∀ (s : Int) (β : List Int) (y : Value) (σ τ : zI), ST T n k s β σ τ → σ 83 18 = 0 → (β.length : Int) ≤ 3 * (8 - k) → (∀ x ρ, β = x :: ρ → 40 ≤ x) → (hpar β = true → (k : Int) ≤ 7) → ((sumO T n (oneK T n k) s).1 = 0 → ∀ y' σ1 τ1 π L, PF σ σ1 τ τ1 L → L ++ eSt 3 π = (sumO T n (oneK T n k) s).2.2 → ds 3 π = β → (π.length : Int) ≤ β.length + 2 → ST T n k (sumO T n (oneK T n k) s).2.1 π σ1 τ1 → σ1 83 18 = 1 → wi (d + 9) 247 10 [.ref 83, y'] [] S σ1 τ1 Q) → FC T n S Q σ τ (sumO T n (oneK T n k) s) → wi (d + 9) 247 10 [.ref 83, y] [] S σ τ Q
end SMD
section SME
variable {T : Int → Int} {n : Int} {d : Nat} {S : zS} {Q : zQ} {k : Nat}
theorem term_C (hT : TB T n) (hk : k ≤ 8) (one : OneC T n d S Q k) {B : List Int} (hB : eSt 5 B = [] ∧ ds 5 B = B) (hl : (B.length : Int) ≤ 3 * (8 - k) + 1) (hp : hpar B = true → (k : Int) ≤ 7) : ∀ (m : Nat) (s : Int) (L La : List (Int × Int)) (π : List Int) (y : Value) (σ τ : zI), n - s < m → ST T n k s π σ τ → σ 83 18 = 1 → ds 5 π = B → (π.length : Int) ≤ B.length + 1 → La ++ eSt 5 π = L → ((termO T n (oneK T n k) m s L).1 = 0 → ∀ y' σ1 τ1 π1 M, PF σ σ1 τ τ1 M → La ++ M ++ eSt 5 π1 = (termO T n (oneK T n k) m s L).2.2 → ds 5 π1 = B → (π1.length : Int) ≤ B.length + 1 → ST T n k (termO T n (oneK T n k) m s L).2.1 π1 σ1 τ1 → σ1 83 18 = 1 → wi (d + 9) 247 10 [.ref 83, y'] [] S σ1 τ1 Q) → FC T n S Q σ τ (termO T n (oneK T n k) m s L) → wi (d + 9) 247 10 [.ref 83, y] [] S σ τ Q
  | 0, s, L, La, π, y, σ, τ, hm, st, _, _, _, _, _, _ => by
    have := st.1.1
    omega
  | m + 1, s, L, La, π, y, σ, τ, hm, st, h18, hd, hπ, hL, ok, fc => by
    by_cases c : tk T n s = 31 ∨ tk T n s = 32
    · have sn := tk_n (T := T) (n := n) (s := s) (by omega)
      have nb := nx_b (T := T) sn
      have n3 := hT.1.2
      refine sum_b hT st (by omega) (by omega) h18 (by unfold gon; omega) (fun z => hp (by rw [← hd, hpar_s]; exact z)) (fun r σ1 τ1 r0 r1 bh => ?_)
      rcases bh with ⟨l, rfl, hl5, pf, tr, pi, h17, e18⟩ | ⟨x, ρ, _, h⟩
      · have l5 : l = 5 := by omega
        subst l5
        rw [hd] at pi
        have dl := ds_l 5 π
        rw [hd] at dl
        have cl : (((tk T n s - 26) :: B).length : Int) = (B.length : Int) + 1 := by rw [List.length_cons]; omega
        have m0 : eM ((tk T n s - 26) :: B) = [] := if_neg (by omega)
        have m1 : dm ((tk T n s - 26) :: B) = (tk T n s - 26) :: B := if_neg (by omega)
        have st1 : ST T n k (nx T n s) ((tk T n s - 26) :: B) σ1 τ1 := ST_m st hT pf tr pi (by omega) (by rw [h17]; exact st.2.2.2.2)
        rw [if_pos rfl]
        intro y'
        refine one (nx T n s) _ y' σ1 τ1 st1 e18 (by omega) (fun e y2 σ2 τ2 pf2 st2 f18 => ?_) (FC_t fc pf (fun e => by rw [termO_y c e]; exact ⟨rfl, rfl⟩))
        rw [m0, List.append_nil] at pf2
        rw [m0, m1] at st2
        have ro := (oneK_ok (T := T) n3 k hk (nx T n s) (by have := st.1.1; omega) (by omega)).1 e
        have e5 : eSt 5 ((tk T n s - 26) :: B) = [(tk T n s - 26, 0)] := by
          have : eSt 5 ((tk T n s - 26) :: B) = (tk T n s - 26, 0) :: eSt 5 B := if_pos (by omega)
          rw [this, hB.1]
        have d5 : ds 5 ((tk T n s - 26) :: B) = B := by
          have : ds 5 ((tk T n s - 26) :: B) = ds 5 B := if_pos (by omega)
          rw [this, hB.2]
        rw [termO_z c e] at ok fc
        refine term_C hT hk one hB hl hp m _ _ (La ++ eSt 5 π ++ (oneK T n k (nx T n s)).2.2) _ y2 σ2 τ2 (by omega) (by simpa using st2) f18 d5 (by omega) (by rw [e5, hL]) (fun e' y3 σ3 τ3 π3 M pf3 h1 h2 h3 h4 h5 => ?_) (FC_t fc (PF_t pf pf2) (fun _ => ⟨rfl, rfl⟩))
        refine ok e' y3 σ3 τ3 π3 _ (PF_t (PF_t pf pf2) pf3) ?_ h2 h3 h4 h5
        rw [← h1]
        simp only [List.append_assoc]
      · omega
    · rw [termO_n c] at ok fc
      exact ok rfl y σ τ π [] PF_0 (by rw [List.append_nil]; exact hL) hd hπ st h18
/-- signs behind which a term stands -/
def jnP (jn : Int) : List Int := if jn = 0 then [] else [jn - 26]
theorem suml_C (hT : TB T n) (hk : k ≤ 8) (one : OneC T n d S Q k) {β : List Int} (hb : ∀ x ρ, β = x :: ρ → 40 ≤ x) (hl : (β.length : Int) ≤ 3 * (8 - k)) (hp : hpar β = true → (k : Int) ≤ 7) : ∀ (m : Nat) (s : Int) (Lp : List (Int × Int)) (jn : Int) (y : Value) (σ τ : zI), n - s < m → ST T n k s (jnP jn ++ β) σ τ → σ 83 18 = 0 → (jn = 0 ∨ jn = 29 ∨ jn = 30) → ((sumL T n (oneK T n k) m s Lp jn).1 = 0 → ∀ y' σ1 τ1 π L, PF σ σ1 τ τ1 L → Lp ++ L ++ eSt 3 π = (sumL T n (oneK T n k) m s Lp jn).2.2 → ds 3 π = β → (π.length : Int) ≤ β.length + 2 → ST T n k (sumL T n (oneK T n k) m s Lp jn).2.1 π σ1 τ1 → σ1 83 18 = 1 → wi (d + 9) 247 10 [.ref 83, y'] [] S σ1 τ1 Q) → FC T n S Q σ τ (sumL T n (oneK T n k) m s Lp jn) → wi (d + 9) 247 10 [.ref 83, y] [] S σ τ Q
  | 0, s, Lp, jn, y, σ, τ, hm, st, _, _, _, _ => by
    have := st.1.1
    omega
  | m + 1, s, Lp, jn, y, σ, τ, hm, st, h18, hj, ok, fc => by
    have n3 := hT.1.2
    have s01 := st.1.1
    have b3 : eSt 3 β = [] ∧ ds 3 β = β := by
      cases β with
      | nil => exact ⟨rfl, rfl⟩
      | cons x ρ =>
        have := hb x ρ rfl
        exact ⟨if_neg (by omega), if_neg (by omega)⟩
    have b5 : (eSt 5 (jnP jn ++ β) = [] ∧ ds 5 (jnP jn ++ β) = jnP jn ++ β) ∧ (eM (jnP jn ++ β) = [] ∧ dm (jnP jn ++ β) = jnP jn ++ β) ∧ (eSt 3 (jnP jn ++ β) = jnO jn ∧ ds 3 (jnP jn ++ β) = β) ∧ ((jnP jn ++ β).length : Int) ≤ β.length + 1 ∧ hpar (jnP jn ++ β) = hpar β := by
      by_cases j0 : jn = 0
      · have j1 : jnP jn = [] := if_pos j0
        have j2 : jnO jn = [] := if_pos j0
        rw [j1, j2, List.nil_append]
        cases β with
        | nil => exact ⟨⟨rfl, rfl⟩, ⟨rfl, rfl⟩, ⟨rfl, rfl⟩, by omega, rfl⟩
        | cons x ρ =>
          have := hb x ρ rfl
          exact ⟨⟨if_neg (by omega), if_neg (by omega)⟩, ⟨if_neg (by omega), if_neg (by omega)⟩, b3, by omega, rfl⟩
      · have j1 : jnP jn = [jn - 26] := if_neg j0
        have j2 : jnO jn = [(jn - 26, 0)] := if_neg j0
        rw [j1, j2, List.singleton_append]
        have a1 : eSt 3 ((jn - 26) :: β) = (jn - 26, 0) :: eSt 3 β := if_pos (by omega)
        have a2 : ds 3 ((jn - 26) :: β) = ds 3 β := if_pos (by omega)
        have a3 : hpar ((jn - 26) :: β) = (decide (40 ≤ jn - 26) || hpar β) := rfl
        refine ⟨⟨if_neg (by omega), if_neg (by omega)⟩, ⟨if_neg (by omega), if_neg (by omega)⟩, ⟨by rw [a1, b3.1], by rw [a2, b3.2]⟩, ?_, ?_⟩
        · rw [List.length_cons]; omega
        · rw [a3, decide_eq_false (by omega)]; rfl
    obtain ⟨B5, BM, B3, BL, BH_⟩ := b5
    refine one s (jnP jn ++ β) y σ τ st h18 (by omega) (fun e y1 σ1 τ1 pf1 st1 e18 => ?_) (FC_t fc PF_0 (fun e => by rw [sumL_a e]; exact ⟨rfl, rfl⟩))
    rw [BM.1, List.append_nil] at pf1
    rw [BM.1, BM.2] at st1
    have ro := (oneK_ok (T := T) n3 k hk s (by omega) (by omega)).1 e
    obtain ⟨R, hR⟩ : ∃ R, R = termO T n (oneK T n k) 301 (oneK T n k s).2.1 (oneK T n k s).2.2 := ⟨_, rfl⟩
    refine term_C hT hk one B5 (by omega) (fun z => hp (by rw [← BH_]; exact z)) 301 (oneK T n k s).2.1 (oneK T n k s).2.2 (oneK T n k s).2.2 (jnP jn ++ β) y1 σ1 τ1 (by omega) (by simpa using st1) e18 B5.2 (by omega) (by rw [B5.1, List.append_nil]) (fun e2 y2 σ2 τ2 π2 M pf2 hM hd2 hl2 st2 f18 => ?_) (FC_t fc pf1 (fun e2 => by rw [← hR] at e2 ⊢; rw [sumL_b hR e e2]; exact ⟨rfl, rfl⟩))
    rw [← hR] at e2 hM st2
    have hs := ds_53 π2
    rw [hd2, B3.1, B3.2] at hs
    have to := (termO_ok (T := T) (oneK_ok (T := T) n3 k hk) 301 (oneK T n k s).2.1 (oneK T n k s).2.2 s (by omega) (by omega) (by omega) (by omega) (by omega)).1 (by rw [← hR]; exact e2)
    rw [← hR] at to
    have hpi : hpar π2 = true → (k : Int) ≤ 7 := fun z => hp (by rw [← BH_, ← hd2, hpar_s]; exact z)
    by_cases c : tk T n R.2.1 = 29 ∨ tk T n R.2.1 = 30
    · have nb := nx_b (T := T) (tk_n (T := T) (n := n) (s := R.2.1) (by omega))
      have ec := sumL_c (m := m) (L := Lp) (jn := jn) hR e e2 c
      rw [ec] at ok fc
      refine sum_b hT st2 (by omega) (by omega) f18 (by unfold gon; omega) hpi (fun r σ3 τ3 r0 r1 bh => ?_)
      rcases bh with ⟨l, rfl, hl3, pf3, tr3, pi3, h17, g18⟩ | ⟨x, ρ, _, h⟩
      · have l3 : l = 3 := by omega
        subst l3
        rw [hs.1] at pi3
        have dl := ds_l 3 π2
        rw [hs.1] at dl
        have j1 : jnP (tk T n R.2.1) = [tk T n R.2.1 - 26] := if_neg (by omega)
        have cl : (((tk T n R.2.1 - 26) :: β).length : Int) = (β.length : Int) + 1 := by rw [List.length_cons]; omega
        have st3 : ST T n k (nx T n R.2.1) ((tk T n R.2.1 - 26) :: β) σ3 τ3 := ST_m st2 hT pf3 tr3 pi3 (by omega) (by rw [h17]; exact st2.2.2.2.2)
        rw [if_pos rfl]
        intro y3
        have pfa := PF_t (PF_t pf1 pf2) pf3
        refine suml_C hT hk one hb hl hp m (nx T n R.2.1) _ (tk T n R.2.1) y3 σ3 τ3 (by omega) (by rw [j1]; exact st3) g18 (by omega) (fun e4 y4 σ4 τ4 π4 L4 pf4 hL4 hd4 hl4 st4 k18 => ?_) (FC_t fc pfa (fun _ => ⟨rfl, rfl⟩))
        refine ok e4 y4 σ4 τ4 π4 _ (PF_t pfa pf4) ?_ hd4 hl4 st4 k18
        rw [← hL4, ← hM, hs.2]
        simp only [List.append_assoc]
      · omega
    · have ec := sumL_d (m := m) (L := Lp) (jn := jn) hR e e2 c
      rw [ec] at ok fc
      refine ok rfl y2 σ2 τ2 π2 _ (PF_t pf1 pf2) ?_ hs.1 (by omega) st2 f18
      show _ = Lp ++ R.2.2 ++ jnO jn
      rw [← hM, hs.2]
      simp only [List.append_assoc]
theorem sum_C (hT : TB T n) (hk : k ≤ 8) (one : OneC T n d S Q k) : SumC T n d S Q k := by
  intro s β y σ τ st h18 hl hb hp ok fc
  have n3 := hT.1.2
  have s01 := st.1.1
  have j0 : jnP 0 = [] := rfl
  refine suml_C hT hk one hb hl hp 301 s [] 0 y σ τ (by omega) (by rw [j0, List.nil_append]; exact st) h18 (Or.inl rfl) (fun e y1 σ1 τ1 π L pf hL hd hl1 st1 e18 => ?_) fc
  exact ok e y1 σ1 τ1 π L pf (by rw [← List.nil_append L]; exact hL) hd hl1 st1 e18
theorem pc_l (x : Int) : ((pc x).length : Int) ≤ 1 := by
  unfold pc
  split
  · rw [List.length_cons, List.length_nil]; omega
  · rw [List.length_nil]; omega
/-- a SUM to the closing sign -/
theorem par_C (hT : TB T n) (hk : (k : Int) ≤ 7) (sc : SumC T n d S Q k) {x : Int} {π : List Int} (hx : 40 ≤ x) (hx2 : x ≠ 41 ∧ x ≠ 42) {s : Int} {y : Value} {σ τ : zI} (st : ST T n k s (x :: π) σ τ) (h18 : σ 83 18 = 0) (hl : (π.length : Int) + 1 ≤ 3 * (8 - k)) (ok : (parO T n (oneK T n k) s).1 = 0 → ∀ y' σ1 τ1, PF σ σ1 τ τ1 ((parO T n (oneK T n k) s).2.2 ++ (pc x ++ eM π)) → ST T n (k + 1 + (eM π).length) (parO T n (oneK T n k) s).2.1 (dm π) σ1 τ1 → σ1 83 18 = 1 → wi (d + 9) 247 10 [.ref 83, y'] [] S σ1 τ1 Q) (fc : FC T n S Q σ τ (parO T n (oneK T n k) s)) : wi (d + 9) 247 10 [.ref 83, y] [] S σ τ Q := by
  have n3 := hT.1.2
  have s01 := st.1.1
  have cl : ((x :: π).length : Int) = (π.length : Int) + 1 := by rw [List.length_cons]; omega
  have hpx : hpar (x :: π) = true := by
    have : hpar (x :: π) = (decide (40 ≤ x) || hpar π) := rfl
    rw [this, decide_eq_true hx]; rfl
  have so := sumO_ok (T := T) n3 (oneK_ok (T := T) n3 k (by omega)) s01.1 s01.2
  refine sc s (x :: π) y σ τ st h18 (by omega) (fun a b z => by injection z with z1 z2; omega) (fun _ => hk) (fun e y1 σ1 τ1 π1 L pf hL hd hl1 st1 e18 => ?_) (FC_t fc PF_0 (fun e => by unfold parO; rw [if_pos e]; exact ⟨rfl, rfl⟩))
  have s1 := so.1 e
  have hp1 : hpar π1 = true := by rw [← hpar_s 3 π1, hd]; exact hpx
  have dl := ds_l 3 π1
  rw [hd] at dl
  have b14 := st1.2.2.2.1
  by_cases c34 : tk T n (sumO T n (oneK T n k) s).2.1 = 34
  · have nb := nx_b (T := T) (tk_n (T := T) (n := n) (s := (sumO T n (oneK T n k) s).2.1) (by omega))
    have ep : parO T n (oneK T n k) s = (0, nx T n (sumO T n (oneK T n k) s).2.1, (sumO T n (oneK T n k) s).2.2) := by
      unfold parO
      rw [if_neg (by omega), if_pos c34]
    rw [ep] at ok
    refine sum_b hT st1 (by omega) (by omega) e18 (Or.inr (Or.inr (Or.inr (Or.inr ⟨Or.inl c34, hp1⟩)))) (fun _ => hk) (fun r σ2 τ2 r0 r1 bh => ?_)
    rcases bh with ⟨l, rfl, hl3, _⟩ | ⟨x', ρ, hd', h⟩
    · omega
    rw [hd] at hd'
    injection hd' with hx' hρ
    subst hx' hρ
    rcases h with ⟨h, _⟩ | ⟨h, _⟩ | ⟨_, _, _, rfl, pf2, tr2, pi2, h17, f18⟩
    · omega
    · omega
    · rw [if_pos rfl]
      intro y2
      have dml := dm_l π
      have pcl := pc_l x
      refine ok rfl y2 σ2 τ2 ?_ (ST_m st1 hT pf2 tr2 pi2 ?_ ?_) f18
      · show PF σ σ2 τ τ2 ((sumO T n (oneK T n k) s).2.2 ++ (pc x ++ eM π))
        rw [← hL, List.append_assoc]
        exact PF_t pf pf2
      · rw [List.length_append, List.length_append]; show _ ≤ _ + (nx T n (sumO T n (oneK T n k) s).2.1 - _); omega
      · rw [h17, st1.2.2.2.2]; omega
  · have ep : parO T n (oneK T n k) s = (1, (sumO T n (oneK T n k) s).2.1, []) := by
      unfold parO
      rw [if_neg (by omega), if_neg c34]
    rw [ep] at fc
    have bad : ∀ σ2 τ2, PF σ1 σ2 τ1 τ2 (eSt 3 π1) → TR T n (sumO T n (oneK T n k) s).2.1 σ2 τ2 → Q (some (.int (wI 1))) S σ2 τ2 := fun σ2 τ2 pf2 tr2 => fc (show (1 : Int) ≠ 0 by decide) σ2 τ2 _ (PF_t pf pf2) (by have := pf2.1.1; omega) tr2
    by_cases c35 : tk T n (sumO T n (oneK T n k) s).2.1 = 35
    · refine sum_b hT st1 (by omega) (by omega) e18 (Or.inr (Or.inr (Or.inr (Or.inr ⟨Or.inr c35, hp1⟩)))) (fun _ => hk) (fun r σ2 τ2 r0 r1 bh => ?_)
      rcases bh with ⟨l, rfl, hl3, _⟩ | ⟨x', ρ, hd', h⟩
      · omega
      rw [hd] at hd'
      injection hd' with hx' hρ
      subst hx' hρ
      rcases h with ⟨_, h, _⟩ | ⟨_, rfl, pf2, tr2⟩ | ⟨h, _⟩
      · omega
      · rw [if_neg (by decide)]
        exact bad σ2 τ2 pf2 tr2
      · omega
    · refine sum_c hT st1 (by omega) (by omega) e18 (fun g => by unfold gon at g; omega) (fun σ2 se => ?_)
      have d0 := se.2.1.1
      rw [hd] at d0
      rw [if_neg (by omega)]
      exact bad σ2 τ1 (se.1 τ1) (TR_se st1.1 se)
theorem one_C (hT : TB T n) : ∀ k : Nat, k ≤ 8 → OneC T n d S Q k
  | k, hk => by
    intro s π y σ τ st h18 hl ok fc
    have n3 := hT.1.2
    have s01 := st.1.1
    have o17 : σ 83 17 = 8 - k := st.2.2.2.2
    have b14 := st.2.2.2.1
    have dml := dm_l π
    refine sum_a hT st (by omega) (by omega) h18 (fun r σ1 τ1 r0 r1 bo => ?_)
    rcases bo with ⟨rfl, x, lf, pf, tr, pi, h17, e18⟩ | ⟨rfl, w, e, op, n8, pf, tr, pi, h17, e18⟩ | ⟨hr, e, er, pf, tr⟩
    · rw [if_pos rfl]
      intro y1
      have nb := nx_b (T := T) (lfV_n lf)
      rw [oneK_v lf] at ok
      refine ok rfl y1 σ1 τ1 pf (ST_m st hT pf tr pi ?_ ?_) e18
      · rw [List.length_cons]; show _ ≤ _ + (nx T n s - s); omega
      · rw [h17, o17]; omega
    · rw [if_pos rfl]
      intro y1
      cases k with
      | zero => exact absurd o17 n8
      | succ k =>
        have eb := opV_b op
        have ih := one_C hT k (by omega)
        have sc := sum_C hT (by omega) ih
        have cl : ((w :: π).length : Int) = (π.length : Int) + 1 := by rw [List.length_cons]; omega
        have l0 : (([] : List (Int × Int)).length : Int) = 0 := rfl
        have st1 : ST T n k e (w :: π) σ1 τ1 := ST_m st hT pf tr pi (by omega) (by omega)
        rw [oneK_o op] at ok fc
        unfold opO at ok fc
        have f18 : σ1 83 18 = 0 := by omega
        by_cases c2 : w = 2
        · rw [if_pos c2] at ok fc
          have a1 : eM (w :: π) = (2, 0) :: eM π := if_pos c2
          have a2 : dm (w :: π) = dm π := if_pos c2
          refine ih e (w :: π) y1 σ1 τ1 st1 f18 (by omega) (fun e1 y2 σ2 τ2 pf2 st2 g18 => ?_) (FC_t fc pf (fun e1 => by unfold negO; rw [if_pos e1]; exact ⟨rfl, rfl⟩))
          rw [a1] at pf2 st2
          rw [a2] at st2
          have ep : negO (oneK T n k) e = (0, (oneK T n k e).2.1, (oneK T n k e).2.2 ++ [(2, 0)]) := by
            unfold negO
            rw [if_neg (by omega)]
          rw [ep] at ok
          refine ok rfl y2 σ2 τ2 ?_ ?_ g18
          · show PF σ σ2 τ τ2 ((oneK T n k e).2.2 ++ [(2, 0)] ++ eM π)
            rw [List.append_assoc]
            have pp := PF_t pf pf2
            rw [List.nil_append] at pp
            exact pp
          · have : ((k + 1 : Nat) : Int) + (eM π).length = k + ((((2 : Int), (0 : Int)) :: eM π).length : Int) := by rw [List.length_cons]; omega
            rw [this]
            exact st2
        rw [if_neg c2] at ok fc
        by_cases c4 : w = 40
        · rw [if_pos c4] at ok fc
          subst c4
          refine par_C hT (by omega) sc (by omega) (by omega) st1 f18 (by omega) (fun e1 y2 σ2 τ2 pf2 st2 g18 => ?_) (FC_t fc pf (fun _ => ⟨rfl, rfl⟩))
          have p40 : pc 40 = [] := if_neg (by omega)
          have pp := PF_t pf pf2
          rw [p40, List.nil_append, List.nil_append] at pp
          refine ok e1 y2 σ2 τ2 pp ?_ g18
          have : ((k + 1 : Nat) : Int) + (eM π).length = (k : Int) + 1 + (eM π).length := by omega
          rw [this]
          exact st2
        rw [if_neg c4] at ok fc
        have w4 : w = 41 ∨ w = 42 := by rcases op with ⟨h, _⟩ | ⟨h, _⟩ | ⟨h, h2, _⟩ <;> omega
        have hpx : hpar (w :: π) = true := by
          have : hpar (w :: π) = (decide (40 ≤ w) || hpar π) := rfl
          rw [this, decide_eq_true (by omega)]; rfl
        have so := sumO_ok (T := T) n3 (oneK_ok (T := T) n3 k (by omega)) (s := e) (by omega) eb.2
        refine sc e (w :: π) y1 σ1 τ1 st1 f18 (by omega) (fun a b z => by injection z with z1 z2; omega) (fun _ => by omega) (fun e1 y2 σ2 τ2 π2 L pf2 hL hd hl2 st2 g18 => ?_) (FC_t fc pf (fun e1 => by unfold pairO; rw [if_pos e1]; exact ⟨rfl, rfl⟩))
        have s1 := so.1 e1
        have hp1 : hpar π2 = true := by rw [← hpar_s 3 π2, hd]; exact hpx
        have dl := ds_l 3 π2
        rw [hd] at dl
        have c14 := st2.2.2.2.1
        have s02 := st2.1.1
        by_cases c35 : tk T n (sumO T n (oneK T n k) e).2.1 = 35
        · have nb := nx_b (T := T) (tk_n (T := T) (n := n) (s := (sumO T n (oneK T n k) e).2.1) (by omega))
          refine sum_b hT st2 (by omega) (by omega) g18 (Or.inr (Or.inr (Or.inr (Or.inr ⟨Or.inr c35, hp1⟩)))) (fun _ => by omega) (fun r σ3 τ3 r0 r1 bh => ?_)
          rcases bh with ⟨l, rfl, hl3, _⟩ | ⟨x', ρ, hd', h⟩
          · omega
          rw [hd] at hd'
          injection hd' with hx' hρ
          subst hx' hρ
          rcases h with ⟨_, _, rfl, pf3, tr3, pi3, h17', h18'⟩ | ⟨h, _⟩ | ⟨h, _⟩
          · rw [if_pos rfl]
            intro y3
            have cl3 : (((w + 2) :: π).length : Int) = (π.length : Int) + 1 := by rw [List.length_cons]; omega
            have st3 : ST T n k (nx T n (sumO T n (oneK T n k) e).2.1) ((w + 2) :: π) σ3 τ3 := ST_m st2 hT pf3 tr3 pi3 (by omega) (by rw [h17', st2.2.2.2.2])
            have pfa := PF_t (PF_t pf pf2) pf3
            refine par_C hT (by omega) sc (by omega) (by omega) st3 h18' (by omega) (fun e4 y4 σ4 τ4 pf4 st4 k18 => ?_) (FC_t fc pfa (fun e4 => by unfold pairO; rw [if_neg (by omega), if_pos c35, if_pos e4]; exact ⟨rfl, rfl⟩))
            have ep : pairO T n (oneK T n k) e (w - 34) = (0, (parO T n (oneK T n k) (nx T n (sumO T n (oneK T n k) e).2.1)).2.1, (sumO T n (oneK T n k) e).2.2 ++ (parO T n (oneK T n k) (nx T n (sumO T n (oneK T n k) e).2.1)).2.2 ++ [(w - 34, 0)]) := by
              unfold pairO
              rw [if_neg (by omega), if_pos c35, if_neg (by omega)]
            have ec : pc (w + 2) = [(w - 34, 0)] := by
              unfold pc
              rw [if_pos (by omega)]
              rcases w4 with h | h <;> (subst h; rfl)
            rw [ep] at ok
            rw [ec] at pf4
            refine ok rfl y4 σ4 τ4 ?_ ?_ k18
            · show PF σ σ4 τ τ4 ((sumO T n (oneK T n k) e).2.2 ++ (parO T n (oneK T n k) (nx T n (sumO T n (oneK T n k) e).2.1)).2.2 ++ [(w - 34, 0)] ++ eM π)
              have := PF_t pfa pf4
              rw [← hL]
              simpa only [List.append_assoc, List.nil_append] using this
            · have : ((k + 1 : Nat) : Int) + (eM π).length = (k : Int) + 1 + (eM π).length := by omega
              rw [this]
              exact st4
          · omega
          · omega
        · have ep : pairO T n (oneK T n k) e (w - 34) = (1, (sumO T n (oneK T n k) e).2.1, []) := by
            unfold pairO
            rw [if_neg (by omega), if_neg c35]
          rw [ep] at fc
          have bad : ∀ σ3 τ3, PF σ2 σ3 τ2 τ3 (eSt 3 π2) → TR T n (sumO T n (oneK T n k) e).2.1 σ3 τ3 → Q (some (.int (wI 1))) S σ3 τ3 := fun σ3 τ3 pf3 tr3 => fc (show (1 : Int) ≠ 0 by decide) σ3 τ3 _ (PF_t (PF_t pf pf2) pf3) (by have := pf3.1.1; omega) tr3
          by_cases c34 : tk T n (sumO T n (oneK T n k) e).2.1 = 34
          · refine sum_b hT st2 (by omega) (by omega) g18 (Or.inr (Or.inr (Or.inr (Or.inr ⟨Or.inl c34, hp1⟩)))) (fun _ => by omega) (fun r σ3 τ3 r0 r1 bh => ?_)
            rcases bh with ⟨l, rfl, hl3, _⟩ | ⟨x', ρ, hd', h⟩
            · omega
            rw [hd] at hd'
            injection hd' with hx' hρ
            subst hx' hρ
            rcases h with ⟨h, _⟩ | ⟨_, rfl, pf3, tr3⟩ | ⟨_, h1, h2, _⟩
            · omega
            · rw [if_neg (by decide)]
              exact bad σ3 τ3 pf3 tr3
            · omega
          · refine sum_c hT st2 (by omega) (by omega) g18 (fun g => by unfold gon at g; omega) (fun σ3 se => ?_)
            have d0 := se.2.1.1
            rw [hd] at d0
            rw [if_neg (by omega)]
            exact bad σ3 τ2 (se.1 τ2) (TR_se st2.1 se)
    · rw [if_neg hr]
      have er2 : erV T n s (8 - k) r e := by rw [← o17]; exact er
      rw [oneK_e er2 hk] at fc
      have l0 : (([] : List (Int × Int)).length : Int) = 0 := rfl
      exact fc hr σ1 τ1 [] pf (by have := pf.1.1; omega) tr
end SME
theorem q_247 {d : Nat} {S : zS} {σ τ : zI} {Q : zQ} {T : Int → Int} {n : Int} {s : Int} {k : Nat} (p0 : TB T n) (p1 : TR T n s σ τ) (p2 : EB σ) (p3 : σ 83 14 < s) (p4 : k ≤ 8) (p5 : σ 83 17 = 8 - k) (t : ∀ (σ1 : zI) (τ1 : zI), 0 ≤ (sumO T n (oneK T n k) s).1 ∧ (sumO T n (oneK T n k) s).1 ≤ 3 → TR T n (sumO T n (oneK T n k) s).2.1 σ1 τ1 → ((sumO T n (oneK T n k) s).1 = 0 → PF σ σ1 τ τ1 (sumO T n (oneK T n k) s).2.2 ∧ σ1 83 17 = 8 - k) → σ1 83 14 ≤ 310 → ((∀ c, c ≠ 83 → c ≠ 84 → c ≠ 88 → σ1 c = σ c) ∧ (∀ k, k < 7 ∨ (11 ≤ k ∧ k < 14) ∨ k = 15 ∨ 18 < k → σ1 83 k = σ 83 k) ∧ (∀ c, c ≠ 83 → τ1 c = τ c) ∧ ∀ k, k ≠ 11 → τ1 83 k = τ 83 k) → (∃ L, PF σ σ1 τ τ1 L) → Q (some (.int (wI ((sumO T n (oneK T n k) s).1)))) S σ1 τ1) : wc (d + 9) 247 [.ref 83] S σ τ Q := by
  have ne : ∀ y : Value, wi (d + 9) 247 10 [.ref 83, y] [] S (uc σ 83 (u1 (u1 (σ 83) 16 0) 18 0)) τ Q := by
    intro y
    have n3 := p0.1.2
    have q : ∀ k, k ≠ 16 → k ≠ 18 → (uc σ 83 (u1 (u1 (σ 83) 16 0) 18 0)) 83 k = σ 83 k := fun k h1 h2 => by rw [uc_s, u1_n h2, u1_n h1]
    have pf0 : PF σ (uc σ 83 (u1 (u1 (σ 83) 16 0) 18 0)) τ τ [] := PF_u (fun k hk => by rw [u1_n (by omega), u1_n (by omega)])
    have tr0 : TR T n s (uc σ 83 (u1 (u1 (σ 83) 16 0) 18 0)) τ := TR_f p1 (uc_n (by decide)) (fun k hk => q k (by omega) (by omega)) rfl
    have l0 : (([] : List Int).length : Int) = 0 := rfl
    have st : ST T n k s [] (uc σ 83 (u1 (u1 (σ 83) 16 0) 18 0)) τ := ⟨tr0, ⟨by rw [uc_s, u1_n (by omega), u1_s]; rfl, trivial⟩, EB_f p2 (q 12 (by omega) (by omega)) (by rw [q 14 (by omega) (by omega)]; exact p2.2), by rw [q 14 (by omega) (by omega), l0]; omega, by rw [q 17 (by omega) (by omega)]; omega⟩
    have so := sumO_ok (T := T) n3 (oneK_ok (T := T) n3 k (by omega)) p1.1.1 p1.1.2
    refine sum_C p0 (by omega) (one_C p0 k (by omega)) s [] y _ τ st (by rw [uc_s, u1_s]) (by rw [l0]; omega) (fun x ρ z => by cases z) (fun z => by cases z) (fun e y' σ1 τ1 π L pf hL hd hl st1 h18 => ?_) (fun e σ1 τ1 L pf b tr => t σ1 τ1 (by have := so.2 e; omega) tr (fun z => absurd z e) b (PF_t pf0 pf).2 ⟨L, PF_t pf0 pf⟩)
    have s1 := so.1 e
    refine sum_c p0 st1 (by omega) (by rw [l0] at hl; omega) h18 (fun g => ?_) (fun σ2 se => ?_)
    · unfold gon at g
      rw [← hpar_s 3 π, hd] at g
      rcases g with g | g | g | g | g
      · omega
      · omega
      · omega
      · omega
      · cases g.2
    · have d0 := se.2.1.1
      rw [hd, l0] at d0
      rw [if_pos (by omega)]
      have pf2 : PF σ σ2 τ τ1 (sumO T n (oneK T n k) s).2.2 := by
        rw [← hL]
        exact PF_t (PF_t pf0 pf) (se.1 τ1)
      have e14 := pf2.1.1
      have := t σ2 τ1 (by omega) (TR_se st1.1 se) (fun _ => ⟨pf2, by rw [se.2.2.2 17 (by omega), st1.2.2.2.2]⟩) (by have := p1.1; omega) pf2.2 ⟨_, pf2⟩
      rw [e] at this
      exact this
  exact wc_of mi_247 rfl (u_247_0 (ne _))
