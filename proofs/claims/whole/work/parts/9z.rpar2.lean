/-! ===== the reference reads: one step (segments printed by wip/whole, contracts own work) ===== -/
section TRS
variable {T : Int → Int} {n s : Int} {σ σ1 τ τ1 : zI}
theorem TR_f (h : TR T n s σ τ) (f1 : σ1 87 = σ 87) (f2 : ∀ k, k = 4 ∨ k = 7 ∨ k = 8 ∨ k = 9 ∨ k = 10 → σ1 83 k = σ 83 k) (f3 : τ1 83 11 = τ 83 11) : TR T n s σ1 τ1 := by
  obtain ⟨h1, h2, h3, h4, h5, h6, h7⟩ := h
  unfold TR
  rw [f1, f2 4 (by omega), f2 7 (by omega), f2 8 (by omega), f2 9 (by omega), f2 10 (by omega), f3]
  exact ⟨h1, h2, h3, h4, h5, h6, h7⟩
theorem TR_em {o v : Int} (h : TR T n s σ τ) (e : EM σ σ1 o v) : TR T n s σ1 τ := TR_f h (e.2.1 87 (by decide) (by decide)) (fun k hk => e.2.2 k (by omega)) rfl
theorem TR_wh {pl : List Int} (h : TR T n s σ τ) (e : WHo σ σ1 pl) : TR T n s σ1 τ := TR_f h (e.2.2.2.2.1 87 (by decide) (by decide)) (fun k hk => e.2.2.2.2.2 k (by omega)) rfl
theorem TR_se {l : Int} {pl : List Int} (h : TR T n s σ τ) (e : SE σ σ1 l pl) : TR T n s σ1 τ := TR_f h (e.2.2.1 87 (by decide) (by decide)) (fun k hk => e.2.2.2 k (by omega)) rfl
theorem TR_u {f : Int → Int} (h : TR T n s σ τ) (f2 : ∀ k, k = 4 ∨ k = 7 ∨ k = 8 ∨ k = 9 ∨ k = 10 → f k = σ 83 k) : TR T n s (uc σ 83 f) τ := TR_f h (uc_n (by decide)) (fun k hk => by rw [uc_s]; exact f2 k hk) rfl
end TRS
def hpar : List Int → Bool
  | [] => false
  | x :: t => decide (40 ≤ x) || hpar t
theorem hpar_i {f : Int → Int} : ∀ π : List Int, PLs f π → (hpar π = true ↔ ∃ k : Int, (0 ≤ k ∧ k < π.length) ∧ 40 ≤ f k)
  | [], _ => by
    constructor
    · intro h; cases h
    · rintro ⟨k, hk, _⟩
      have : (([] : List Int).length : Int) = 0 := rfl
      omega
  | x :: t, p => by
    have i := hpar_i t p.2
    have hl : ((x :: t).length : Int) = (t.length : Int) + 1 := by rw [List.length_cons]; omega
    have e : hpar (x :: t) = true ↔ (40 ≤ x ∨ hpar t = true) := by
      show (decide (40 ≤ x) || hpar t) = true ↔ _
      rw [Bool.or_eq_true, decide_eq_true_iff]
    rw [e, i]
    constructor
    · rintro (h | ⟨k, hk, h⟩)
      · exact ⟨(t.length : Int), by omega, by rw [p.1]; exact h⟩
      · exact ⟨k, by omega, h⟩
    · rintro ⟨k, hk, h⟩
      by_cases c : k = t.length
      · rw [c, p.1] at h; exact Or.inl h
      · exact Or.inr ⟨k, by omega, h⟩
abbrev gon (t : Int) (pl : List Int) : Prop := t = 29 ∨ t = 30 ∨ t = 31 ∨ t = 32 ∨ ((t = 34 ∨ t = 35) ∧ hpar pl = true)
def nmo (t : Int) : Int := if 17 ≤ t ∧ t ≤ 20 then t - 16 else -1
theorem q_231t {d : Nat} {S : zS} {σ τ : zI} {Q : zQ} {T : Int → Int} {n : Int} {s : Int} (p0 : TB T n) (p1 : TR T n s σ τ) (p2 : s < n) (t : ∀ (σ1 : zI) (τ1 : zI), FK σ σ1 τ τ1 → TR T n (nx T n s) σ1 τ1 → Q none S σ1 τ1) : wc (d + 5) 231 [.ref 83] S σ τ Q := by
  have eb := tE_b (T := T) p2
  obtain ⟨h1, h2, h3, h4, h5, h6, h7⟩ := id p1
  refine q_231 (by rw [h2.1, h2.2]; exact p0) (by rw [h4, h2.2]; omega) (fun σ1 τ1 fk tr => t σ1 τ1 fk ?_)
  rw [h2.1, h2.2, h4] at tr
  exact tr
-- method 242: MillTownModel.nameOf()I
theorem c_242_0 : pg_cd 242 0 = (5, 1, 0, 0, 0) := by decide +kernel
theorem c_242_1 : pg_cd 242 1 = (43, 12, 144, 9, 0) := by decide +kernel
theorem c_242_4 : pg_cd 242 4 = (1, 1, 0, 0, 2) := by decide +kernel
theorem c_242_5 : pg_cd 242 5 = (37, 3, 0, 0, 5) := by decide +kernel
theorem c_242_8 : pg_cd 242 8 = (1, 1, 0, 0, (-1)) := by decide +kernel
theorem c_242_9 : pg_cd 242 9 = (90, 0, 0, 0, 0) := by decide +kernel
theorem c_242_10 : pg_cd 242 10 = (5, 1, 0, 0, 0) := by decide +kernel
theorem c_242_11 : pg_cd 242 11 = (44, 12, 156, 11, 0) := by decide +kernel
theorem c_242_14 : pg_cd 242 14 = (1, 2, 0, 0, 112) := by decide +kernel
theorem c_242_16 : pg_cd 242 16 = (1, 2, 0, 0, 105) := by decide +kernel
theorem c_242_18 : pg_cd 242 18 = (1, 2, 0, 0, 99) := by decide +kernel
theorem c_242_20 : pg_cd 242 20 = (1, 2, 0, 0, 107) := by decide +kernel
theorem c_242_22 : pg_cd 242 22 = (1, 2, 0, 0, 115) := by decide +kernel
theorem c_242_24 : pg_cd 242 24 = (81, 233, 191, 0, 0) := by decide +kernel
theorem c_242_27 : pg_cd 242 27 = (28, 1, 0, 0, 0) := by decide +kernel
theorem c_242_28 : pg_cd 242 28 = (36, 3, 0, 1, 7) := by decide +kernel
theorem c_242_31 : pg_cd 242 31 = (1, 1, 0, 0, 1) := by decide +kernel
theorem c_242_32 : pg_cd 242 32 = (38, 3, 0, 0, 75) := by decide +kernel
theorem c_242_35 : pg_cd 242 35 = (5, 1, 0, 0, 0) := by decide +kernel
theorem c_242_36 : pg_cd 242 36 = (44, 12, 156, 11, 0) := by decide +kernel
theorem c_242_39 : pg_cd 242 39 = (1, 2, 0, 0, 119) := by decide +kernel
theorem c_242_41 : pg_cd 242 41 = (1, 2, 0, 0, 105) := by decide +kernel
theorem c_242_43 : pg_cd 242 43 = (1, 2, 0, 0, 100) := by decide +kernel
theorem c_242_45 : pg_cd 242 45 = (1, 2, 0, 0, 116) := by decide +kernel
theorem c_242_47 : pg_cd 242 47 = (1, 2, 0, 0, 104) := by decide +kernel
theorem c_242_49 : pg_cd 242 49 = (81, 233, 191, 0, 0) := by decide +kernel
theorem c_242_52 : pg_cd 242 52 = (28, 1, 0, 0, 0) := by decide +kernel
theorem c_242_53 : pg_cd 242 53 = (36, 3, 0, 1, 7) := by decide +kernel
theorem c_242_56 : pg_cd 242 56 = (1, 1, 0, 0, 2) := by decide +kernel
theorem c_242_57 : pg_cd 242 57 = (38, 3, 0, 0, 50) := by decide +kernel
theorem c_242_60 : pg_cd 242 60 = (5, 1, 0, 0, 0) := by decide +kernel
theorem c_242_61 : pg_cd 242 61 = (44, 12, 156, 11, 0) := by decide +kernel
theorem c_242_64 : pg_cd 242 64 = (1, 2, 0, 0, 121) := by decide +kernel
theorem c_242_66 : pg_cd 242 66 = (1, 2, 0, 0, 97) := by decide +kernel
theorem c_242_68 : pg_cd 242 68 = (1, 2, 0, 0, 114) := by decide +kernel
theorem c_242_70 : pg_cd 242 70 = (1, 2, 0, 0, 110) := by decide +kernel
theorem c_242_72 : pg_cd 242 72 = (81, 234, 195, 0, 0) := by decide +kernel
theorem c_242_75 : pg_cd 242 75 = (28, 1, 0, 0, 0) := by decide +kernel
theorem c_242_76 : pg_cd 242 76 = (36, 3, 0, 1, 7) := by decide +kernel
theorem c_242_79 : pg_cd 242 79 = (1, 1, 0, 0, 3) := by decide +kernel
theorem c_242_80 : pg_cd 242 80 = (38, 3, 0, 0, 27) := by decide +kernel
theorem c_242_83 : pg_cd 242 83 = (5, 1, 0, 0, 0) := by decide +kernel
theorem c_242_84 : pg_cd 242 84 = (44, 12, 156, 11, 0) := by decide +kernel
theorem c_242_87 : pg_cd 242 87 = (1, 2, 0, 0, 104) := by decide +kernel
theorem c_242_89 : pg_cd 242 89 = (1, 2, 0, 0, 97) := by decide +kernel
theorem c_242_91 : pg_cd 242 91 = (1, 2, 0, 0, 114) := by decide +kernel
theorem c_242_93 : pg_cd 242 93 = (1, 2, 0, 0, 100) := by decide +kernel
theorem c_242_95 : pg_cd 242 95 = (81, 234, 195, 0, 0) := by decide +kernel
theorem c_242_98 : pg_cd 242 98 = (28, 1, 0, 0, 0) := by decide +kernel
theorem c_242_99 : pg_cd 242 99 = (36, 3, 0, 1, 7) := by decide +kernel
theorem c_242_102 : pg_cd 242 102 = (1, 1, 0, 0, 4) := by decide +kernel
theorem c_242_103 : pg_cd 242 103 = (38, 3, 0, 0, 4) := by decide +kernel
theorem c_242_106 : pg_cd 242 106 = (1, 1, 0, 0, (-1)) := by decide +kernel
theorem c_242_107 : pg_cd 242 107 = (90, 0, 0, 0, 0) := by decide +kernel
theorem mi_242 : pg_mc 242 = 12 ∧ pg_na 242 = 0 ∧ pg_mx 242 = 1 := by decide +kernel
set_option maxRecDepth 20000 in
theorem u_242_0 {d : Nat} {S : zS} {σ τ : zI} {Q : zQ} (t : if (σ 83 9) = 2 then ((((0 : Int) ≤ 112 ∧ 112 ≤ (127 : Int)) ∧ ((0 : Int) ≤ 105 ∧ 105 ≤ (127 : Int)) ∧ ((0 : Int) ≤ 99 ∧ 99 ≤ (127 : Int)) ∧ ((0 : Int) ≤ 107 ∧ 107 ≤ (127 : Int)) ∧ ((0 : Int) ≤ 115 ∧ 115 ≤ (127 : Int))) ∧ (rj (((112 * 65536 + 105 * 256 + 99) * 256 + 107) * 256 + 115)) ∧ if (τ 83 11) = (((112 * 65536 + 105 * 256 + 99) * 256 + 107) * 256 + 115) then (Q (some (.int (wI 1))) S σ τ) else ((((0 : Int) ≤ 119 ∧ 119 ≤ (127 : Int)) ∧ ((0 : Int) ≤ 105 ∧ 105 ≤ (127 : Int)) ∧ ((0 : Int) ≤ 100 ∧ 100 ≤ (127 : Int)) ∧ ((0 : Int) ≤ 116 ∧ 116 ≤ (127 : Int)) ∧ ((0 : Int) ≤ 104 ∧ 104 ≤ (127 : Int))) ∧ (rj (((119 * 65536 + 105 * 256 + 100) * 256 + 116) * 256 + 104)) ∧ if (τ 83 11) = (((119 * 65536 + 105 * 256 + 100) * 256 + 116) * 256 + 104) then (Q (some (.int (wI 2))) S σ τ) else ((((0 : Int) ≤ 121 ∧ 121 ≤ (127 : Int)) ∧ ((0 : Int) ≤ 97 ∧ 97 ≤ (127 : Int)) ∧ ((0 : Int) ≤ 114 ∧ 114 ≤ (127 : Int)) ∧ ((0 : Int) ≤ 110 ∧ 110 ≤ (127 : Int))) ∧ (rj ((121 * 65536 + 97 * 256 + 114) * 256 + 110)) ∧ if (τ 83 11) = ((121 * 65536 + 97 * 256 + 114) * 256 + 110) then (Q (some (.int (wI 3))) S σ τ) else ((((0 : Int) ≤ 104 ∧ 104 ≤ (127 : Int)) ∧ ((0 : Int) ≤ 97 ∧ 97 ≤ (127 : Int)) ∧ ((0 : Int) ≤ 114 ∧ 114 ≤ (127 : Int)) ∧ ((0 : Int) ≤ 100 ∧ 100 ≤ (127 : Int))) ∧ (rj ((104 * 65536 + 97 * 256 + 114) * 256 + 100)) ∧ if (τ 83 11) = ((104 * 65536 + 97 * 256 + 114) * 256 + 100) then (Q (some (.int (wI 4))) S σ τ) else (Q (some (.int (wI (-1)))) S σ τ))))) else (Q (some (.int (wI (-1)))) S σ τ)) : wi (d + 3) 242 0 [.ref 83] [] S σ τ Q := by
  refine i5 c_242_0 rfl (wi_ok (fun K1 => ?_))
  refine i43 (v := σ 83 9) c_242_1 (lo (c := 83) (kd := 112) (n := 0) rfl (by decide)) rfl (i1 c_242_4 ?_)
  refine i37 c_242_5 (rge_ K1 rfl) (by decide) rfl (fun hc => ?_) (fun hc => ?_)
  · have t := iT t hc
    have ha2 : (σ 83 9) = 2 := hc
    obtain ⟨p3, t⟩ := t
    refine i5 c_242_10 rfl (i44 (v := τ 83 11) c_242_11 (lo (c := 83) (kd := 112) (n := 0) rfl (by decide)) rfl (i1 c_242_14 (i1 c_242_16 (i1 c_242_18 (i1 c_242_20 (i1 c_242_22 ?_))))))
    refine i81 (As := [.int (wI 112), .int (wI 105), .int (wI 99), .int (wI 107), .int (wI 115)]) (rest := [.long (wJ (τ 83 11))]) c_242_24 mi_233 rfl rfl (Nat.le_of_ble_eq_true rfl) (Nat.le_of_ble_eq_true rfl) (q_233 p3 ?_)
    show wi (d + 3) 242 27 [.ref 83] [.long (wJ (((112 * 65536 + 105 * 256 + 99) * 256 + 107) * 256 + 115)), .long (wJ (τ 83 11))] S σ τ Q
    obtain ⟨r4, t⟩ := t
    refine i28 c_242_27 ?_
    refine i36l c_242_28 (rje_ K1 rfl) r4 rfl (fun hc => ?_) (fun hc => ?_)
    · have t := iF t hc
      have ha5 : ¬ ((τ 83 11) = (((112 * 65536 + 105 * 256 + 99) * 256 + 107) * 256 + 115)) := hc
      obtain ⟨p6, t⟩ := t
      refine i5 c_242_35 rfl (i44 (v := τ 83 11) c_242_36 (lo (c := 83) (kd := 112) (n := 0) rfl (by decide)) rfl (i1 c_242_39 (i1 c_242_41 (i1 c_242_43 (i1 c_242_45 (i1 c_242_47 ?_))))))
      refine i81 (As := [.int (wI 119), .int (wI 105), .int (wI 100), .int (wI 116), .int (wI 104)]) (rest := [.long (wJ (τ 83 11))]) c_242_49 mi_233 rfl rfl (Nat.le_of_ble_eq_true rfl) (Nat.le_of_ble_eq_true rfl) (q_233 p6 ?_)
      show wi (d + 3) 242 52 [.ref 83] [.long (wJ (((119 * 65536 + 105 * 256 + 100) * 256 + 116) * 256 + 104)), .long (wJ (τ 83 11))] S σ τ Q
      obtain ⟨r7, t⟩ := t
      refine i28 c_242_52 ?_
      refine i36l c_242_53 (rje_ K1 rfl) r7 rfl (fun hc => ?_) (fun hc => ?_)
      · have t := iF t hc
        have ha8 : ¬ ((τ 83 11) = (((119 * 65536 + 105 * 256 + 100) * 256 + 116) * 256 + 104)) := hc
        obtain ⟨p9, t⟩ := t
        refine i5 c_242_60 rfl (i44 (v := τ 83 11) c_242_61 (lo (c := 83) (kd := 112) (n := 0) rfl (by decide)) rfl (i1 c_242_64 (i1 c_242_66 (i1 c_242_68 (i1 c_242_70 ?_)))))
        refine i81 (As := [.int (wI 121), .int (wI 97), .int (wI 114), .int (wI 110)]) (rest := [.long (wJ (τ 83 11))]) c_242_72 mi_234 rfl rfl (Nat.le_of_ble_eq_true rfl) (Nat.le_of_ble_eq_true rfl) (q_234 p9 ?_)
        show wi (d + 3) 242 75 [.ref 83] [.long (wJ ((121 * 65536 + 97 * 256 + 114) * 256 + 110)), .long (wJ (τ 83 11))] S σ τ Q
        obtain ⟨r10, t⟩ := t
        refine i28 c_242_75 ?_
        refine i36l c_242_76 (rje_ K1 rfl) r10 rfl (fun hc => ?_) (fun hc => ?_)
        · have t := iF t hc
          have ha11 : ¬ ((τ 83 11) = ((121 * 65536 + 97 * 256 + 114) * 256 + 110)) := hc
          obtain ⟨p12, t⟩ := t
          refine i5 c_242_83 rfl (i44 (v := τ 83 11) c_242_84 (lo (c := 83) (kd := 112) (n := 0) rfl (by decide)) rfl (i1 c_242_87 (i1 c_242_89 (i1 c_242_91 (i1 c_242_93 ?_)))))
          refine i81 (As := [.int (wI 104), .int (wI 97), .int (wI 114), .int (wI 100)]) (rest := [.long (wJ (τ 83 11))]) c_242_95 mi_234 rfl rfl (Nat.le_of_ble_eq_true rfl) (Nat.le_of_ble_eq_true rfl) (q_234 p12 ?_)
          show wi (d + 3) 242 98 [.ref 83] [.long (wJ ((104 * 65536 + 97 * 256 + 114) * 256 + 100)), .long (wJ (τ 83 11))] S σ τ Q
          obtain ⟨r13, t⟩ := t
          refine i28 c_242_98 ?_
          refine i36l c_242_99 (rje_ K1 rfl) r13 rfl (fun hc => ?_) (fun hc => ?_)
          · have t := iF t hc
            have ha14 : ¬ ((τ 83 11) = ((104 * 65536 + 97 * 256 + 114) * 256 + 100)) := hc
            refine i1 c_242_106 ?_
            exact i90 c_242_107 t
          · have t := iT t (Decidable.not_not.mp hc)
            have ha14 : (τ 83 11) = ((104 * 65536 + 97 * 256 + 114) * 256 + 100) := Decidable.not_not.mp hc
            refine i1 c_242_102 (i38 c_242_103 rfl ?_)
            exact i90 c_242_107 t
        · have t := iT t (Decidable.not_not.mp hc)
          have ha11 : (τ 83 11) = ((121 * 65536 + 97 * 256 + 114) * 256 + 110) := Decidable.not_not.mp hc
          refine i1 c_242_79 (i38 c_242_80 rfl ?_)
          exact i90 c_242_107 t
      · have t := iT t (Decidable.not_not.mp hc)
        have ha8 : (τ 83 11) = (((119 * 65536 + 105 * 256 + 100) * 256 + 116) * 256 + 104) := Decidable.not_not.mp hc
        refine i1 c_242_56 (i38 c_242_57 rfl ?_)
        exact i90 c_242_107 t
    · have t := iT t (Decidable.not_not.mp hc)
      have ha5 : (τ 83 11) = (((112 * 65536 + 105 * 256 + 99) * 256 + 107) * 256 + 115) := Decidable.not_not.mp hc
      refine i1 c_242_31 (i38 c_242_32 rfl ?_)
      exact i90 c_242_107 t
  · have t := iF t hc
    have ha2 : ¬ ((σ 83 9) = 2) := hc
    refine i1 c_242_8 ?_
    exact i90 c_242_9 t
theorem q_242 {d : Nat} {S : zS} {σ τ : zI} {Q : zQ} {T : Int → Int} {n : Int} {s : Int} (p0 : TB T n) (p1 : TR T n s σ τ) (t : Q (some (.int (wI (nmo (tk T n s))))) S σ τ) : wc (d + 3) 242 [.ref 83] S σ τ Q := by
  have r := rk_tk p0 p1.1
  have w17 := TR_w p1 p0 (t := 17) (v := ((112 * 65536 + 105 * 256 + 99) * 256 + 107) * 256 + 115) (by omega) (fun x => by rw [wcd_17]; omega)
  have w18 := TR_w p1 p0 (t := 18) (v := ((119 * 65536 + 105 * 256 + 100) * 256 + 116) * 256 + 104) (by omega) (fun x => by rw [wcd_18]; omega)
  have w19 := TR_w p1 p0 (t := 19) (v := (121 * 65536 + 97 * 256 + 114) * 256 + 110) (by omega) (fun x => by rw [wcd_19]; omega)
  have w20 := TR_w p1 p0 (t := 20) (v := (104 * 65536 + 97 * 256 + 114) * 256 + 100) (by omega) (fun x => by rw [wcd_20]; omega)
  have no : ¬ (17 ≤ tk T n s ∧ tk T n s ≤ 20) → Q (some (.int (wI (-1)))) S σ τ := fun h => by
    unfold nmo at t
    rw [if_neg h] at t; exact t
  have yes : ∀ k, tk T n s = k → 17 ≤ k → k ≤ 20 → Q (some (.int (wI (k - 16)))) S σ τ := fun k e h1 h2 => by
    unfold nmo at t
    rw [if_pos (by omega), e] at t; exact t
  refine wc_of mi_242 rfl (u_242_0 (ifI (fun e => ⟨by decide, by decide, ifI (fun e1 => yes 17 (w17.mp ⟨e, e1⟩) (by omega) (by omega)) (fun e1 => ⟨by decide, by decide, ifI (fun e2 => yes 18 (w18.mp ⟨e, e2⟩) (by omega) (by omega)) (fun e2 => ⟨by decide, by decide, ifI (fun e3 => yes 19 (w19.mp ⟨e, e3⟩) (by omega) (by omega)) (fun e3 => ⟨by decide, by decide, ifI (fun e4 => yes 20 (w20.mp ⟨e, e4⟩) (by omega) (by omega)) (fun e4 => no (fun z => ?_))⟩)⟩)⟩)⟩) (fun e => no (fun z => ?_))))
  · rcases (show tk T n s = 17 ∨ tk T n s = 18 ∨ tk T n s = 19 ∨ tk T n s = 20 by omega) with h | h | h | h
    · exact e1 (w17.mpr h).2
    · exact e2 (w18.mpr h).2
    · exact e3 (w19.mpr h).2
    · exact e4 (w20.mpr h).2
  · have := r.2.2.1 (by rw [← p1.2.2.2.2.1]; exact e)
    omega
-- method 244: MillTownModel.hasParen()Z
theorem c_244_0 : pg_cd 244 0 = (1, 1, 0, 0, 0) := by decide +kernel
theorem c_244_1 : pg_cd 244 1 = (6, 1, 0, 1, 0) := by decide +kernel
theorem c_244_2 : pg_cd 244 2 = (3, 1, 0, 1, 0) := by decide +kernel
theorem c_244_3 : pg_cd 244 3 = (5, 1, 0, 0, 0) := by decide +kernel
theorem c_244_4 : pg_cd 244 4 = (43, 12, 177, 16, 0) := by decide +kernel
theorem c_244_7 : pg_cd 244 7 = (37, 3, 0, 3, 22) := by decide +kernel
theorem c_244_10 : pg_cd 244 10 = (5, 1, 0, 0, 0) := by decide +kernel
theorem c_244_11 : pg_cd 244 11 = (45, 12, 30, 15, 0) := by decide +kernel
theorem c_244_14 : pg_cd 244 14 = (3, 1, 0, 1, 0) := by decide +kernel
theorem c_244_15 : pg_cd 244 15 = (50, 1, 0, 0, 0) := by decide +kernel
theorem c_244_16 : pg_cd 244 16 = (1, 2, 0, 0, 40) := by decide +kernel
theorem c_244_18 : pg_cd 244 18 = (37, 3, 0, 2, 5) := by decide +kernel
theorem c_244_21 : pg_cd 244 21 = (1, 1, 0, 0, 1) := by decide +kernel
theorem c_244_22 : pg_cd 244 22 = (91, 0, 0, 0, 0) := by decide +kernel
theorem c_244_23 : pg_cd 244 23 = (9, 3, 0, 1, 1) := by decide +kernel
theorem c_244_26 : pg_cd 244 26 = (38, 3, 0, 0, (-24)) := by decide +kernel
theorem c_244_29 : pg_cd 244 29 = (1, 1, 0, 0, 0) := by decide +kernel
theorem c_244_30 : pg_cd 244 30 = (91, 0, 0, 0, 0) := by decide +kernel
theorem mi_244 : pg_mc 244 = 12 ∧ pg_na 244 = 0 ∧ pg_mx 244 = 2 := by decide +kernel
set_option maxRecDepth 20000 in
theorem u_244_0 {d : Nat} {S : zS} {σ τ : zI} {Q : zQ} (t : wi (d + 3) 244 2 [.ref 83, .int (wI 0)] [] S σ τ Q) : wi (d + 3) 244 0 [.ref 83, .retAddr 0] [] S σ τ Q := by
  refine i1 c_244_0 (i6 (L' := [.ref 83, .int (wI 0)]) c_244_1 rfl t)
set_option maxRecDepth 20000 in
theorem u_244_2 {d : Nat} {S : zS} {σ τ : zI} {Q : zQ} {x1 : Int} (t : (rg x1) ∧ if (σ 83 16) ≤ x1 then (Q (some (.int (wI 0))) S σ τ) else ((0 ≤ x1 ∧ x1 < 160) ∧ if (σ 88 x1) < 40 then (wi (d + 3) 244 2 [.ref 83, .int (wI (x1 + 1))] [] S σ τ Q) else (Q (some (.int (wI 1))) S σ τ))) : wi (d + 3) 244 2 [.ref 83, .int (wI x1)] [] S σ τ Q := by
  refine i3 c_244_2 rfl (i5 c_244_3 rfl (wi_ok (fun K1 => ?_)))
  obtain ⟨r2, t⟩ := t
  refine i43 (v := σ 83 16) c_244_4 (lo (c := 83) (kd := 112) (n := 0) rfl (by decide)) rfl ?_
  refine i37 c_244_7 r2 (rge_ K1 rfl) rfl (fun hc => ?_) (fun hc => ?_)
  · have t := iT t hc
    have ha3 : (σ 83 16) ≤ x1 := hc
    refine i1 c_244_29 ?_
    exact i91 c_244_30 (by decide) t
  · have t := iF t hc
    have ha3 : ¬ ((σ 83 16) ≤ x1) := hc
    obtain ⟨r4, t⟩ := t
    refine i5 c_244_10 rfl (i45 c_244_11 (lo (c := 83) (kd := 112) (n := 0) rfl (by decide)) (lro (c := 83) (k := 15) (j := 88) (by decide)) (i3 c_244_14 rfl (i50 (v := σ 88 x1) c_244_15 (lo (c := 88) (kd := 0) (n := 160) rfl (by decide)) (by decide) r4 rfl (i1 c_244_16 ?_))))
    refine i37 c_244_18 (rge_ K1 rfl) (by decide) rfl (fun hc => ?_) (fun hc => ?_)
    · have t := iT t hc
      have ha5 : (σ 88 x1) < 40 := hc
      refine i9 (L' := [.ref 83, .int (wI (x1 + 1))]) c_244_23 rfl rfl (i38 c_244_26 rfl t)
    · have t := iF t hc
      have ha5 : ¬ ((σ 88 x1) < 40) := hc
      refine i1 c_244_21 ?_
      exact i91 c_244_22 (by decide) t
theorem q_244 {d : Nat} {S : zS} {σ τ : zI} {Q : zQ} {pl : List Int} (p0 : PIL σ pl) (p1 : pl.length ≤ 150) (t : Q (some (.int (wI (if hpar pl = true then 1 else 0)))) S σ τ) : wc (d + 3) 244 [.ref 83] S σ τ Q := by
  have i := hpar_i pl p0.2
  have l : (pl.length : Int) ≤ 150 := by omega
  have lp : ∀ k, 0 ≤ k → k ≤ (pl.length : Int) → (∀ j, 0 ≤ j → j < k → σ 88 j < 40) → wi (d + 3) 244 2 [.ref 83, .int (wI k)] [] S σ τ Q := by
    refine lp_up (fun k k0 k1 ih => ?_)
    intro h
    refine u_244_2 ⟨by omega, ifI (fun e => ?_) (fun e => ⟨?_, ifI (fun c => ih ?_ (fun j j0 j1 => ?_)) (fun c => ?_)⟩)⟩
    · rw [if_neg (fun z => by
        obtain ⟨j, hj, hf⟩ := i.mp z
        have := h j hj.1 (by have := p0.1; omega)
        omega)] at t
      exact t
    · have := p0.1; omega
    · have := p0.1; omega
    · by_cases x : j = k
      · rw [x]; exact c
      · exact h j j0 (by omega)
    · rw [if_pos (i.mpr ⟨k, ⟨k0, by have := p0.1; omega⟩, by omega⟩)] at t
      exact t
  exact wc_of mi_244 rfl (u_244_0 (lp 0 (by omega) (by omega) (fun j j0 j1 => by omega)))
-- method 245: MillTownModel.goesOn()Z
theorem c_245_0 : pg_cd 245 0 = (5, 1, 0, 0, 0) := by decide +kernel
theorem c_245_1 : pg_cd 245 1 = (43, 12, 144, 9, 0) := by decide +kernel
theorem c_245_4 : pg_cd 245 4 = (1, 2, 0, 0, 43) := by decide +kernel
theorem c_245_6 : pg_cd 245 6 = (37, 3, 0, 0, 55) := by decide +kernel
theorem c_245_9 : pg_cd 245 9 = (5, 1, 0, 0, 0) := by decide +kernel
theorem c_245_10 : pg_cd 245 10 = (43, 12, 144, 9, 0) := by decide +kernel
theorem c_245_13 : pg_cd 245 13 = (1, 2, 0, 0, 45) := by decide +kernel
theorem c_245_15 : pg_cd 245 15 = (37, 3, 0, 0, 46) := by decide +kernel
theorem c_245_18 : pg_cd 245 18 = (5, 1, 0, 0, 0) := by decide +kernel
theorem c_245_19 : pg_cd 245 19 = (43, 12, 144, 9, 0) := by decide +kernel
theorem c_245_22 : pg_cd 245 22 = (1, 2, 0, 0, 42) := by decide +kernel
theorem c_245_24 : pg_cd 245 24 = (37, 3, 0, 0, 37) := by decide +kernel
theorem c_245_27 : pg_cd 245 27 = (5, 1, 0, 0, 0) := by decide +kernel
theorem c_245_28 : pg_cd 245 28 = (43, 12, 144, 9, 0) := by decide +kernel
theorem c_245_31 : pg_cd 245 31 = (1, 2, 0, 0, 47) := by decide +kernel
theorem c_245_33 : pg_cd 245 33 = (37, 3, 0, 0, 28) := by decide +kernel
theorem c_245_36 : pg_cd 245 36 = (5, 1, 0, 0, 0) := by decide +kernel
theorem c_245_37 : pg_cd 245 37 = (43, 12, 144, 9, 0) := by decide +kernel
theorem c_245_40 : pg_cd 245 40 = (1, 2, 0, 0, 44) := by decide +kernel
theorem c_245_42 : pg_cd 245 42 = (37, 3, 0, 0, 12) := by decide +kernel
theorem c_245_45 : pg_cd 245 45 = (5, 1, 0, 0, 0) := by decide +kernel
theorem c_245_46 : pg_cd 245 46 = (43, 12, 144, 9, 0) := by decide +kernel
theorem c_245_49 : pg_cd 245 49 = (1, 2, 0, 0, 41) := by decide +kernel
theorem c_245_51 : pg_cd 245 51 = (37, 3, 0, 1, 14) := by decide +kernel
theorem c_245_54 : pg_cd 245 54 = (5, 1, 0, 0, 0) := by decide +kernel
theorem c_245_55 : pg_cd 245 55 = (80, 244, 209, 0, 0) := by decide +kernel
theorem c_245_58 : pg_cd 245 58 = (36, 3, 0, 0, 7) := by decide +kernel
theorem c_245_61 : pg_cd 245 61 = (1, 1, 0, 0, 1) := by decide +kernel
theorem c_245_62 : pg_cd 245 62 = (38, 3, 0, 0, 4) := by decide +kernel
theorem c_245_65 : pg_cd 245 65 = (1, 1, 0, 0, 0) := by decide +kernel
theorem c_245_66 : pg_cd 245 66 = (91, 0, 0, 0, 0) := by decide +kernel
theorem mi_245 : pg_mc 245 = 12 ∧ pg_na 245 = 0 ∧ pg_mx 245 = 1 := by decide +kernel
set_option maxRecDepth 20000 in
theorem u_245_0 {d : Nat} {S : zS} {σ τ : zI} {Q : zQ} (t : if (σ 83 9) = 43 then (Q (some (.int (wI 1))) S σ τ) else (if (σ 83 9) = 45 then (Q (some (.int (wI 1))) S σ τ) else (if (σ 83 9) = 42 then (Q (some (.int (wI 1))) S σ τ) else (if (σ 83 9) = 47 then (Q (some (.int (wI 1))) S σ τ) else (if (σ 83 9) = 44 then (∃ pl7 : List Int, (PIL σ pl7) ∧ (pl7.length ≤ 150) ∧ if hpar pl7 = true then (Q (some (.int (wI 1))) S σ τ) else (Q (some (.int (wI 0))) S σ τ)) else (if (σ 83 9) = 41 then (∃ pl12 : List Int, (PIL σ pl12) ∧ (pl12.length ≤ 150) ∧ if hpar pl12 = true then (Q (some (.int (wI 1))) S σ τ) else (Q (some (.int (wI 0))) S σ τ)) else (Q (some (.int (wI 0))) S σ τ))))))) : wi (d + 4) 245 0 [.ref 83] [] S σ τ Q := by
  refine i5 c_245_0 rfl (wi_ok (fun K1 => ?_))
  refine i43 (v := σ 83 9) c_245_1 (lo (c := 83) (kd := 112) (n := 0) rfl (by decide)) rfl (i1 c_245_4 ?_)
  refine i37 c_245_6 (rge_ K1 rfl) (by decide) rfl (fun hc => ?_) (fun hc => ?_)
  · have t := iT t hc
    have ha2 : (σ 83 9) = 43 := hc
    refine i1 c_245_61 (i38 c_245_62 rfl ?_)
    exact i91 c_245_66 (by decide) t
  · have t := iF t hc
    have ha2 : ¬ ((σ 83 9) = 43) := hc
    refine i5 c_245_9 rfl (i43 (v := σ 83 9) c_245_10 (lo (c := 83) (kd := 112) (n := 0) rfl (by decide)) rfl (i1 c_245_13 ?_))
    refine i37 c_245_15 (rge_ K1 rfl) (by decide) rfl (fun hc => ?_) (fun hc => ?_)
    · have t := iT t hc
      have ha3 : (σ 83 9) = 45 := hc
      refine i1 c_245_61 (i38 c_245_62 rfl ?_)
      exact i91 c_245_66 (by decide) t
    · have t := iF t hc
      have ha3 : ¬ ((σ 83 9) = 45) := hc
      refine i5 c_245_18 rfl (i43 (v := σ 83 9) c_245_19 (lo (c := 83) (kd := 112) (n := 0) rfl (by decide)) rfl (i1 c_245_22 ?_))
      refine i37 c_245_24 (rge_ K1 rfl) (by decide) rfl (fun hc => ?_) (fun hc => ?_)
      · have t := iT t hc
        have ha4 : (σ 83 9) = 42 := hc
        refine i1 c_245_61 (i38 c_245_62 rfl ?_)
        exact i91 c_245_66 (by decide) t
      · have t := iF t hc
        have ha4 : ¬ ((σ 83 9) = 42) := hc
        refine i5 c_245_27 rfl (i43 (v := σ 83 9) c_245_28 (lo (c := 83) (kd := 112) (n := 0) rfl (by decide)) rfl (i1 c_245_31 ?_))
        refine i37 c_245_33 (rge_ K1 rfl) (by decide) rfl (fun hc => ?_) (fun hc => ?_)
        · have t := iT t hc
          have ha5 : (σ 83 9) = 47 := hc
          refine i1 c_245_61 (i38 c_245_62 rfl ?_)
          exact i91 c_245_66 (by decide) t
        · have t := iF t hc
          have ha5 : ¬ ((σ 83 9) = 47) := hc
          refine i5 c_245_36 rfl (i43 (v := σ 83 9) c_245_37 (lo (c := 83) (kd := 112) (n := 0) rfl (by decide)) rfl (i1 c_245_40 ?_))
          refine i37 c_245_42 (rge_ K1 rfl) (by decide) rfl (fun hc => ?_) (fun hc => ?_)
          · have t := iT t hc
            have ha6 : (σ 83 9) = 44 := hc
            obtain ⟨pl7, t⟩ := t
            obtain ⟨p8, t⟩ := t
            obtain ⟨p9, t⟩ := t
            refine i5 c_245_54 rfl ?_
            refine i80 (As := []) (rest := []) c_245_55 mi_244 rfl rfl (Nat.le_of_ble_eq_true rfl) (Nat.le_of_ble_eq_true rfl) (lo (c := 83) (kd := 112) (n := 0) rfl (by decide)) (q_244 (pl := pl7) p8 p9 ?_)
            show wi (d + 4) 245 58 [.ref 83] [.int (wI (if hpar pl7 = true then 1 else 0))] S σ τ Q
            refine i36e c_245_58 rfl (fun hc => ?_) (fun hc => ?_)
            · have t := iT t hc
              have ha10 : hpar pl7 = true := hc
              refine i1 c_245_61 (i38 c_245_62 rfl ?_)
              exact i91 c_245_66 (by decide) t
            · have t := iF t hc
              have ha10 : ¬ (hpar pl7 = true) := hc
              refine i1 c_245_65 ?_
              exact i91 c_245_66 (by decide) t
          · have t := iF t hc
            have ha6 : ¬ ((σ 83 9) = 44) := hc
            refine i5 c_245_45 rfl (i43 (v := σ 83 9) c_245_46 (lo (c := 83) (kd := 112) (n := 0) rfl (by decide)) rfl (i1 c_245_49 ?_))
            refine i37 c_245_51 (rge_ K1 rfl) (by decide) rfl (fun hc => ?_) (fun hc => ?_)
            · have t := iF t hc
              have ha11 : ¬ ((σ 83 9) = 41) := hc
              refine i1 c_245_65 ?_
              exact i91 c_245_66 (by decide) t
            · have t := iT t (Decidable.not_not.mp hc)
              have ha11 : (σ 83 9) = 41 := Decidable.not_not.mp hc
              obtain ⟨pl12, t⟩ := t
              obtain ⟨p13, t⟩ := t
              obtain ⟨p14, t⟩ := t
              refine i5 c_245_54 rfl ?_
              refine i80 (As := []) (rest := []) c_245_55 mi_244 rfl rfl (Nat.le_of_ble_eq_true rfl) (Nat.le_of_ble_eq_true rfl) (lo (c := 83) (kd := 112) (n := 0) rfl (by decide)) (q_244 (pl := pl12) p13 p14 ?_)
              show wi (d + 4) 245 58 [.ref 83] [.int (wI (if hpar pl12 = true then 1 else 0))] S σ τ Q
              refine i36e c_245_58 rfl (fun hc => ?_) (fun hc => ?_)
              · have t := iT t hc
                have ha15 : hpar pl12 = true := hc
                refine i1 c_245_61 (i38 c_245_62 rfl ?_)
                exact i91 c_245_66 (by decide) t
              · have t := iF t hc
                have ha15 : ¬ (hpar pl12 = true) := hc
                refine i1 c_245_65 ?_
                exact i91 c_245_66 (by decide) t
theorem q_245 {d : Nat} {S : zS} {σ τ : zI} {Q : zQ} {pl : List Int} {T : Int → Int} {n : Int} {s : Int} (p0 : TB T n) (p1 : TR T n s σ τ) (p2 : PIL σ pl) (p3 : pl.length ≤ 150) (t : Q (some (.int (wI (if gon (tk T n s) pl then 1 else 0)))) S σ τ) : wc (d + 4) 245 [.ref 83] S σ τ Q := by
  obtain ⟨⟨r0, r1, r23, r24, r25, r26, r27, r28, r29, r30, r31, r32, r33, r34, r35, r36⟩, _, _, _, _, _, _⟩ := rk_tk p0 p1.1
  have k9 := p1.2.2.2.2.1
  have yes : gon (tk T n s) pl → Q (some (.int (wI 1))) S σ τ := fun h => by rw [if_pos h] at t; exact t
  have no : ¬ gon (tk T n s) pl → Q (some (.int (wI 0))) S σ τ := fun h => by rw [if_neg h] at t; exact t
  refine wc_of mi_245 rfl (u_245_0 ?_)
  rw [k9]
  refine ifI (fun e => yes (Or.inl (r29.mp e))) (fun e1 => ifI (fun e => yes (Or.inr (Or.inl (r30.mp e)))) (fun e2 => ifI (fun e => yes (Or.inr (Or.inr (Or.inl (r31.mp e))))) (fun e3 => ifI (fun e => yes (Or.inr (Or.inr (Or.inr (Or.inl (r32.mp e)))))) (fun e4 => ifI (fun e => ⟨pl, p2, p3, ifI (fun h => yes (Or.inr (Or.inr (Or.inr (Or.inr ⟨Or.inr (r35.mp e), h⟩))))) (fun h => no (fun z => ?_))⟩) (fun e5 => ifI (fun e => ⟨pl, p2, p3, ifI (fun h => yes (Or.inr (Or.inr (Or.inr (Or.inr ⟨Or.inl (r34.mp e), h⟩))))) (fun h => no (fun z => ?_))⟩) (fun e6 => no (fun z => ?_))))))) 
  · rcases z with z | z | z | z | z
    · exact e1 (r29.mpr z)
    · exact e2 (r30.mpr z)
    · exact e3 (r31.mpr z)
    · exact e4 (r32.mpr z)
    · exact h z.2
  · rcases z with z | z | z | z | z
    · exact e1 (r29.mpr z)
    · exact e2 (r30.mpr z)
    · exact e3 (r31.mpr z)
    · exact e4 (r32.mpr z)
    · exact h z.2
  · rcases z with z | z | z | z | z
    · exact e1 (r29.mpr z)
    · exact e2 (r30.mpr z)
    · exact e3 (r31.mpr z)
    · exact e4 (r32.mpr z)
    · rcases z.1 with z | z
      · exact e6 (r34.mpr z)
      · exact e5 (r35.mpr z)
