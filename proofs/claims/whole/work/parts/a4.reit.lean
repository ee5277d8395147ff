/-! ===== the reference reads: EITHERS (segments printed by wip/whole, contracts own work) ===== -/
section ETS
variable {T : Int → Int} {n : Int}
theorem anO_l (an : Int) : ((anO an).length : Int) ≤ 1 := by
  unfold anO
  split
  · rw [List.length_nil]; omega
  · rw [List.length_cons, List.length_nil]; omega
theorem orO_l (an : Int) : ((orO an).length : Int) ≤ 1 := by
  unfold orO
  split
  · rw [List.length_nil]; omega
  · rw [List.length_cons, List.length_nil]; omega
theorem eitO_ok (n3 : n ≤ 300) : ∀ (m : Nat) (s : Int) (L : List (Int × Int)) (an o s0 : Int), 0 ≤ s0 → s0 ≤ s → s ≤ n → n - s < m → (L.length : Int) + (anO an).length + (orO o).length ≤ s - s0 → ((eitO T n m s L an o).1 = 0 → s < (eitO T n m s L an o).2.1 ∧ (eitO T n m s L an o).2.1 ≤ n ∧ ((eitO T n m s L an o).2.2.length : Int) ≤ (eitO T n m s L an o).2.1 - s0) ∧ ((eitO T n m s L an o).1 ≠ 0 → s ≤ (eitO T n m s L an o).2.1 ∧ (eitO T n m s L an o).2.1 ≤ n ∧ 1 ≤ (eitO T n m s L an o).1 ∧ (eitO T n m s L an o).1 ≤ 3)
  | 0, s, L, an, o, s0, h0, h1, h2, h3, h4 => by omega
  | m + 1, s, L, an, o, s0, h0, h1, h2, h3, h4 => by
    unfold eitO
    have a := askO_ok (T := T) n3 (s := s) (by omega) h2
    generalize askO T n s = A at a ⊢
    by_cases e : A.1 ≠ 0
    · rw [if_pos e]
      exact ⟨fun z => absurd z e, fun _ => a.2 e⟩
    rw [if_neg e]
    have a1 := a.1 (by omega)
    by_cases c1 : tk T n A.2.1 = 15
    · rw [if_pos c1]
      have nb := nx_b (T := T) (tk_n (T := T) (n := n) (s := A.2.1) (by omega))
      have l1 := anO_l 1
      have ih := eitO_ok n3 m (nx T n A.2.1) (L ++ A.2.2 ++ anO an) 1 o s0 h0 (by omega) (by omega) (by omega) (by
        rw [List.length_append, List.length_append]; omega)
      generalize eitO T n m (nx T n A.2.1) (L ++ A.2.2 ++ anO an) 1 o = R at ih ⊢
      refine ⟨fun z => ?_, fun z => ?_⟩
      · have := ih.1 z
        omega
      · have := ih.2 z
        omega
    rw [if_neg c1]
    by_cases c2 : tk T n A.2.1 = 14
    · rw [if_pos c2]
      have nb := nx_b (T := T) (tk_n (T := T) (n := n) (s := A.2.1) (by omega))
      have l1 := orO_l 1
      have l0 : ((anO 0).length : Int) = 0 := rfl
      have ih := eitO_ok n3 m (nx T n A.2.1) (L ++ A.2.2 ++ anO an ++ orO o) 0 1 s0 h0 (by omega) (by omega) (by omega) (by
        rw [List.length_append, List.length_append, List.length_append]; omega)
      generalize eitO T n m (nx T n A.2.1) (L ++ A.2.2 ++ anO an ++ orO o) 0 1 = R at ih ⊢
      refine ⟨fun z => ?_, fun z => ?_⟩
      · have := ih.1 z
        omega
      · have := ih.2 z
        omega
    rw [if_neg c2]
    refine ⟨fun _ => ⟨a1.1, a1.2.1, ?_⟩, fun z => absurd rfl z⟩
    show ((L ++ A.2.2 ++ anO an ++ orO o).length : Int) ≤ A.2.1 - s0
    rw [List.length_append, List.length_append, List.length_append]
    omega
end ETS
-- method 250: MillTownModel.either()I
theorem c_250_0 : pg_cd 250 0 = (1, 1, 0, 0, 0) := by decide +kernel
theorem c_250_1 : pg_cd 250 1 = (6, 1, 0, 1, 0) := by decide +kernel
theorem c_250_2 : pg_cd 250 2 = (1, 1, 0, 0, 0) := by decide +kernel
theorem c_250_3 : pg_cd 250 3 = (6, 1, 0, 2, 0) := by decide +kernel
theorem c_250_4 : pg_cd 250 4 = (1, 1, 0, 0, 1) := by decide +kernel
theorem c_250_5 : pg_cd 250 5 = (6, 1, 0, 3, 0) := by decide +kernel
theorem c_250_6 : pg_cd 250 6 = (3, 1, 0, 3, 0) := by decide +kernel
theorem c_250_7 : pg_cd 250 7 = (36, 3, 0, 0, 112) := by decide +kernel
theorem c_250_10 : pg_cd 250 10 = (5, 1, 0, 0, 0) := by decide +kernel
theorem c_250_11 : pg_cd 250 11 = (80, 249, 231, 0, 0) := by decide +kernel
theorem c_250_14 : pg_cd 250 14 = (6, 2, 0, 4, 0) := by decide +kernel
theorem c_250_16 : pg_cd 250 16 = (3, 2, 0, 4, 0) := by decide +kernel
theorem c_250_18 : pg_cd 250 18 = (36, 3, 0, 0, 6) := by decide +kernel
theorem c_250_21 : pg_cd 250 21 = (3, 2, 0, 4, 0) := by decide +kernel
theorem c_250_23 : pg_cd 250 23 = (90, 0, 0, 0, 0) := by decide +kernel
theorem c_250_24 : pg_cd 250 24 = (3, 1, 0, 1, 0) := by decide +kernel
theorem c_250_25 : pg_cd 250 25 = (36, 3, 0, 0, 10) := by decide +kernel
theorem c_250_28 : pg_cd 250 28 = (5, 1, 0, 0, 0) := by decide +kernel
theorem c_250_29 : pg_cd 250 29 = (1, 2, 0, 0, 21) := by decide +kernel
theorem c_250_31 : pg_cd 250 31 = (1, 1, 0, 0, 0) := by decide +kernel
theorem c_250_32 : pg_cd 250 32 = (80, 238, 187, 0, 0) := by decide +kernel
theorem c_250_35 : pg_cd 250 35 = (5, 1, 0, 0, 0) := by decide +kernel
theorem c_250_36 : pg_cd 250 36 = (1, 2, 0, 0, 97) := by decide +kernel
theorem c_250_38 : pg_cd 250 38 = (1, 2, 0, 0, 110) := by decide +kernel
theorem c_250_40 : pg_cd 250 40 = (1, 2, 0, 0, 100) := by decide +kernel
theorem c_250_42 : pg_cd 250 42 = (81, 232, 160, 0, 0) := by decide +kernel
theorem c_250_45 : pg_cd 250 45 = (80, 235, 164, 0, 0) := by decide +kernel
theorem c_250_48 : pg_cd 250 48 = (6, 1, 0, 1, 0) := by decide +kernel
theorem c_250_49 : pg_cd 250 49 = (5, 1, 0, 0, 0) := by decide +kernel
theorem c_250_50 : pg_cd 250 50 = (43, 12, 144, 9, 0) := by decide +kernel
theorem c_250_53 : pg_cd 250 53 = (1, 1, 0, 0, 2) := by decide +kernel
theorem c_250_54 : pg_cd 250 54 = (37, 3, 0, 1, 18) := by decide +kernel
theorem c_250_57 : pg_cd 250 57 = (5, 1, 0, 0, 0) := by decide +kernel
theorem c_250_58 : pg_cd 250 58 = (44, 12, 156, 11, 0) := by decide +kernel
theorem c_250_61 : pg_cd 250 61 = (2, 3, 234, 0, 28530) := by decide +kernel
theorem c_250_64 : pg_cd 250 64 = (28, 1, 0, 0, 0) := by decide +kernel
theorem c_250_65 : pg_cd 250 65 = (36, 3, 0, 1, 7) := by decide +kernel
theorem c_250_68 : pg_cd 250 68 = (1, 1, 0, 0, 1) := by decide +kernel
theorem c_250_69 : pg_cd 250 69 = (38, 3, 0, 0, 4) := by decide +kernel
theorem c_250_72 : pg_cd 250 72 = (1, 1, 0, 0, 0) := by decide +kernel
theorem c_250_73 : pg_cd 250 73 = (6, 2, 0, 5, 0) := by decide +kernel
theorem c_250_75 : pg_cd 250 75 = (3, 1, 0, 1, 0) := by decide +kernel
theorem c_250_76 : pg_cd 250 76 = (36, 3, 0, 1, 17) := by decide +kernel
theorem c_250_79 : pg_cd 250 79 = (3, 1, 0, 2, 0) := by decide +kernel
theorem c_250_80 : pg_cd 250 80 = (36, 3, 0, 0, 10) := by decide +kernel
theorem c_250_83 : pg_cd 250 83 = (5, 1, 0, 0, 0) := by decide +kernel
theorem c_250_84 : pg_cd 250 84 = (1, 2, 0, 0, 22) := by decide +kernel
theorem c_250_86 : pg_cd 250 86 = (1, 1, 0, 0, 0) := by decide +kernel
theorem c_250_87 : pg_cd 250 87 = (80, 238, 187, 0, 0) := by decide +kernel
theorem c_250_90 : pg_cd 250 90 = (3, 2, 0, 5, 0) := by decide +kernel
theorem c_250_92 : pg_cd 250 92 = (6, 1, 0, 2, 0) := by decide +kernel
theorem c_250_93 : pg_cd 250 93 = (3, 1, 0, 1, 0) := by decide +kernel
theorem c_250_94 : pg_cd 250 94 = (36, 3, 0, 1, 8) := by decide +kernel
theorem c_250_97 : pg_cd 250 97 = (3, 2, 0, 5, 0) := by decide +kernel
theorem c_250_99 : pg_cd 250 99 = (36, 3, 0, 0, 7) := by decide +kernel
theorem c_250_102 : pg_cd 250 102 = (1, 1, 0, 0, 1) := by decide +kernel
theorem c_250_103 : pg_cd 250 103 = (38, 3, 0, 0, 4) := by decide +kernel
theorem c_250_106 : pg_cd 250 106 = (1, 1, 0, 0, 0) := by decide +kernel
theorem c_250_107 : pg_cd 250 107 = (6, 1, 0, 3, 0) := by decide +kernel
theorem c_250_108 : pg_cd 250 108 = (3, 1, 0, 3, 0) := by decide +kernel
theorem c_250_109 : pg_cd 250 109 = (36, 3, 0, 0, 7) := by decide +kernel
theorem c_250_112 : pg_cd 250 112 = (5, 1, 0, 0, 0) := by decide +kernel
theorem c_250_113 : pg_cd 250 113 = (80, 231, 168, 0, 0) := by decide +kernel
theorem c_250_116 : pg_cd 250 116 = (38, 3, 0, 0, (-110)) := by decide +kernel
theorem c_250_119 : pg_cd 250 119 = (1, 1, 0, 0, 0) := by decide +kernel
theorem c_250_120 : pg_cd 250 120 = (90, 0, 0, 0, 0) := by decide +kernel
theorem mi_250 : pg_mc 250 = 12 ∧ pg_na 250 = 0 ∧ pg_mx 250 = 6 := by decide +kernel
set_option maxRecDepth 20000 in
theorem u_250_0 {d : Nat} {S : zS} {σ τ : zI} {Q : zQ} (t : wi (d + 11) 250 6 [.ref 83, .int (wI 0), .int (wI 0), .int (wI 1), .retAddr 0, .retAddr 0] [] S σ τ Q) : wi (d + 11) 250 0 [.ref 83, .retAddr 0, .retAddr 0, .retAddr 0, .retAddr 0, .retAddr 0] [] S σ τ Q := by
  refine i1 c_250_0 (i6 (L' := [.ref 83, .int (wI 0), .retAddr 0, .retAddr 0, .retAddr 0, .retAddr 0]) c_250_1 rfl (i1 c_250_2 (i6 (L' := [.ref 83, .int (wI 0), .int (wI 0), .retAddr 0, .retAddr 0, .retAddr 0]) c_250_3 rfl (i1 c_250_4 (i6 (L' := [.ref 83, .int (wI 0), .int (wI 0), .int (wI 1), .retAddr 0, .retAddr 0]) c_250_5 rfl t)))))
set_option maxRecDepth 20000 in
theorem u_250_6 {d : Nat} {S : zS} {σ τ : zI} {Q : zQ} {x1 : Int} {x2 : Int} {x3 : Int} {y4 : Value} {y5 : Value} (t : (rg x3) ∧ if x3 = 0 then (Q (some (.int (wI 0))) S σ τ) else (∃ T3 : Int → Int, ∃ n4 : Int, ∃ s5 : Int, (TB T3 n4) ∧ (TR T3 n4 s5 σ τ) ∧ (EB σ) ∧ (σ 83 14 < s5) ∧ (σ 83 17 = 0) ∧ ∀ (σ111 : zI) (τ112 : zI), 0 ≤ (askO T3 n4 s5).1 ∧ (askO T3 n4 s5).1 ≤ 3 → OF T3 n4 σ τ (askO T3 n4 s5) σ111 τ112 → (rg ((askO T3 n4 s5).1)) ∧ if ((askO T3 n4 s5).1) = 0 then ((rg x1) ∧ if x1 = 0 then ((((0 : Int) ≤ 97 ∧ 97 ≤ (127 : Int)) ∧ ((0 : Int) ≤ 110 ∧ 110 ≤ (127 : Int)) ∧ ((0 : Int) ≤ 100 ∧ 100 ≤ (127 : Int))) ∧ (rj (97 * 65536 + 110 * 256 + 100)) ∧ if (σ111 83 9) = 2 then (if (τ112 83 11) = 28530 then (wi (d + 11) 250 73 [.ref 83, .int (wI (if σ111 83 9 = 2 ∧ τ112 83 11 = (97 * 65536 + 110 * 256 + 100) then 1 else 0)), .int (wI x2), .int (wI x3), .int (wI ((askO T3 n4 s5).1)), y5] [.int (wI 1)] S σ111 τ112 Q) else (wi (d + 11) 250 72 [.ref 83, .int (wI (if σ111 83 9 = 2 ∧ τ112 83 11 = (97 * 65536 + 110 * 256 + 100) then 1 else 0)), .int (wI x2), .int (wI x3), .int (wI ((askO T3 n4 s5).1)), y5] [] S σ111 τ112 Q)) else (wi (d + 11) 250 72 [.ref 83, .int (wI (if σ111 83 9 = 2 ∧ τ112 83 11 = (97 * 65536 + 110 * 256 + 100) then 1 else 0)), .int (wI x2), .int (wI x3), .int (wI ((askO T3 n4 s5).1)), y5] [] S σ111 τ112 Q)) else ((EB σ111) ∧ ∀ (σ125 : zI), EM σ111 σ125 21 0 → (((0 : Int) ≤ 97 ∧ 97 ≤ (127 : Int)) ∧ ((0 : Int) ≤ 110 ∧ 110 ≤ (127 : Int)) ∧ ((0 : Int) ≤ 100 ∧ 100 ≤ (127 : Int))) ∧ (rj (97 * 65536 + 110 * 256 + 100)) ∧ if (σ125 83 9) = 2 then (if (τ112 83 11) = 28530 then (wi (d + 11) 250 73 [.ref 83, .int (wI (if σ125 83 9 = 2 ∧ τ112 83 11 = (97 * 65536 + 110 * 256 + 100) then 1 else 0)), .int (wI x2), .int (wI x3), .int (wI ((askO T3 n4 s5).1)), y5] [.int (wI 1)] S σ125 τ112 Q) else (wi (d + 11) 250 72 [.ref 83, .int (wI (if σ125 83 9 = 2 ∧ τ112 83 11 = (97 * 65536 + 110 * 256 + 100) then 1 else 0)), .int (wI x2), .int (wI x3), .int (wI ((askO T3 n4 s5).1)), y5] [] S σ125 τ112 Q)) else (wi (d + 11) 250 72 [.ref 83, .int (wI (if σ125 83 9 = 2 ∧ τ112 83 11 = (97 * 65536 + 110 * 256 + 100) then 1 else 0)), .int (wI x2), .int (wI x3), .int (wI ((askO T3 n4 s5).1)), y5] [] S σ125 τ112 Q))) else (Q (some (.int (wI ((askO T3 n4 s5).1)))) S σ111 τ112))) : wi (d + 11) 250 6 [.ref 83, .int (wI x1), .int (wI x2), .int (wI x3), y4, y5] [] S σ τ Q := by
  obtain ⟨r1, t⟩ := t
  refine i3 c_250_6 rfl ?_
  refine i36 c_250_7 r1 rfl (fun hc => ?_) (fun hc => ?_)
  · have t := iT t hc
    have ha2 : x3 = 0 := hc
    refine i1 c_250_119 ?_
    exact i90 c_250_120 t
  · have t := iF t hc
    have ha2 : ¬ (x3 = 0) := hc
    obtain ⟨T3, t⟩ := t
    obtain ⟨n4, t⟩ := t
    obtain ⟨s5, t⟩ := t
    obtain ⟨p6, t⟩ := t
    obtain ⟨p7, t⟩ := t
    obtain ⟨p8, t⟩ := t
    obtain ⟨p9, t⟩ := t
    obtain ⟨p10, t⟩ := t
    refine i5 c_250_10 rfl ?_
    refine i80 (As := []) (rest := []) c_250_11 mi_249 rfl rfl (Nat.le_of_ble_eq_true rfl) (Nat.le_of_ble_eq_true rfl) (lo (c := 83) (kd := 112) (n := 0) rfl (by decide)) (q_249 (T := T3) (n := n4) (s := s5) p6 p7 p8 p9 p10 (fun σ111 τ112 q13 q14 => ?_))
    have t := t σ111 τ112 q13 q14
    show wi (d + 11) 250 14 [.ref 83, .int (wI x1), .int (wI x2), .int (wI x3), y4, y5] [.int (wI ((askO T3 n4 s5).1))] S σ111 τ112 Q
    obtain ⟨r15, t⟩ := t
    refine i6 (L' := [.ref 83, .int (wI x1), .int (wI x2), .int (wI x3), .int (wI ((askO T3 n4 s5).1)), y5]) c_250_14 rfl (i3 c_250_16 rfl ?_)
    refine i36 c_250_18 r15 rfl (fun hc => ?_) (fun hc => ?_)
    · have t := iT t hc
      have ha16 : ((askO T3 n4 s5).1) = 0 := hc
      obtain ⟨r17, t⟩ := t
      refine i3 c_250_24 rfl ?_
      refine i36 c_250_25 r17 rfl (fun hc => ?_) (fun hc => ?_)
      · have t := iT t hc
        have ha18 : x1 = 0 := hc
        obtain ⟨p19, t⟩ := t
        refine i5 c_250_35 rfl (i1 c_250_36 (i1 c_250_38 (i1 c_250_40 ?_)))
        refine i81 (As := [.int (wI 97), .int (wI 110), .int (wI 100)]) (rest := [.ref 83]) c_250_42 mi_232 rfl rfl (Nat.le_of_ble_eq_true rfl) (Nat.le_of_ble_eq_true rfl) (q_232 p19 ?_)
        show wi (d + 11) 250 45 [.ref 83, .int (wI x1), .int (wI x2), .int (wI x3), .int (wI ((askO T3 n4 s5).1)), y5] [.long (wJ (97 * 65536 + 110 * 256 + 100)), .ref 83] S σ111 τ112 Q
        obtain ⟨p20, t⟩ := t
        refine i80 (As := [.long (wJ (97 * 65536 + 110 * 256 + 100))]) (rest := []) c_250_45 mi_235 rfl rfl (Nat.le_of_ble_eq_true rfl) (Nat.le_of_ble_eq_true rfl) (lo (c := 83) (kd := 112) (n := 0) rfl (by decide)) (q_235 p20 ?_)
        show wi (d + 11) 250 48 [.ref 83, .int (wI x1), .int (wI x2), .int (wI x3), .int (wI ((askO T3 n4 s5).1)), y5] [.int (wI (if σ111 83 9 = 2 ∧ τ112 83 11 = (97 * 65536 + 110 * 256 + 100) then 1 else 0))] S σ111 τ112 Q
        refine i6 (L' := [.ref 83, .int (wI (if σ111 83 9 = 2 ∧ τ112 83 11 = (97 * 65536 + 110 * 256 + 100) then 1 else 0)), .int (wI x2), .int (wI x3), .int (wI ((askO T3 n4 s5).1)), y5]) c_250_48 rfl (i5 c_250_49 rfl (wi_ok (fun K21 => ?_)))
        refine i43 (v := σ111 83 9) c_250_50 (lo (c := 83) (kd := 112) (n := 0) rfl (by decide)) rfl (i1 c_250_53 ?_)
        refine i37 c_250_54 (rge_ K21 rfl) (by decide) rfl (fun hc => ?_) (fun hc => ?_)
        · have t := iF t hc
          have ha22 : ¬ ((σ111 83 9) = 2) := hc
          exact t
        · have t := iT t (Decidable.not_not.mp hc)
          have ha22 : (σ111 83 9) = 2 := Decidable.not_not.mp hc
          refine i5 c_250_57 rfl (i44 (v := τ112 83 11) c_250_58 (lo (c := 83) (kd := 112) (n := 0) rfl (by decide)) rfl (i2 c_250_61 (i28 c_250_64 ?_)))
          refine i36l c_250_65 (rje_ K21 rfl) (by decide) rfl (fun hc => ?_) (fun hc => ?_)
          · have t := iF t hc
            have ha23 : ¬ ((τ112 83 11) = 28530) := hc
            exact t
          · have t := iT t (Decidable.not_not.mp hc)
            have ha23 : (τ112 83 11) = 28530 := Decidable.not_not.mp hc
            refine i1 c_250_68 (i38 c_250_69 rfl t)
      · have t := iF t hc
        have ha18 : ¬ (x1 = 0) := hc
        obtain ⟨p24, t⟩ := t
        refine i5 c_250_28 rfl (i1 c_250_29 (i1 c_250_31 ?_))
        refine i80 (As := [.int (wI 21), .int (wI 0)]) (rest := []) c_250_32 mi_238 rfl rfl (Nat.le_of_ble_eq_true rfl) (Nat.le_of_ble_eq_true rfl) (lo (c := 83) (kd := 112) (n := 0) rfl (by decide)) (q_238 (by decide) (by decide) p24 (fun σ125 q26 => ?_))
        have t := t σ125 q26
        show wi (d + 11) 250 35 [.ref 83, .int (wI x1), .int (wI x2), .int (wI x3), .int (wI ((askO T3 n4 s5).1)), y5] [] S σ125 τ112 Q
        obtain ⟨p27, t⟩ := t
        refine i5 c_250_35 rfl (i1 c_250_36 (i1 c_250_38 (i1 c_250_40 ?_)))
        refine i81 (As := [.int (wI 97), .int (wI 110), .int (wI 100)]) (rest := [.ref 83]) c_250_42 mi_232 rfl rfl (Nat.le_of_ble_eq_true rfl) (Nat.le_of_ble_eq_true rfl) (q_232 p27 ?_)
        show wi (d + 11) 250 45 [.ref 83, .int (wI x1), .int (wI x2), .int (wI x3), .int (wI ((askO T3 n4 s5).1)), y5] [.long (wJ (97 * 65536 + 110 * 256 + 100)), .ref 83] S σ125 τ112 Q
        obtain ⟨p28, t⟩ := t
        refine i80 (As := [.long (wJ (97 * 65536 + 110 * 256 + 100))]) (rest := []) c_250_45 mi_235 rfl rfl (Nat.le_of_ble_eq_true rfl) (Nat.le_of_ble_eq_true rfl) (lo (c := 83) (kd := 112) (n := 0) rfl (by decide)) (q_235 p28 ?_)
        show wi (d + 11) 250 48 [.ref 83, .int (wI x1), .int (wI x2), .int (wI x3), .int (wI ((askO T3 n4 s5).1)), y5] [.int (wI (if σ125 83 9 = 2 ∧ τ112 83 11 = (97 * 65536 + 110 * 256 + 100) then 1 else 0))] S σ125 τ112 Q
        refine i6 (L' := [.ref 83, .int (wI (if σ125 83 9 = 2 ∧ τ112 83 11 = (97 * 65536 + 110 * 256 + 100) then 1 else 0)), .int (wI x2), .int (wI x3), .int (wI ((askO T3 n4 s5).1)), y5]) c_250_48 rfl (i5 c_250_49 rfl (wi_ok (fun K29 => ?_)))
        refine i43 (v := σ125 83 9) c_250_50 (lo (c := 83) (kd := 112) (n := 0) rfl (by decide)) rfl (i1 c_250_53 ?_)
        refine i37 c_250_54 (rge_ K29 rfl) (by decide) rfl (fun hc => ?_) (fun hc => ?_)
        · have t := iF t hc
          have ha30 : ¬ ((σ125 83 9) = 2) := hc
          exact t
        · have t := iT t (Decidable.not_not.mp hc)
          have ha30 : (σ125 83 9) = 2 := Decidable.not_not.mp hc
          refine i5 c_250_57 rfl (i44 (v := τ112 83 11) c_250_58 (lo (c := 83) (kd := 112) (n := 0) rfl (by decide)) rfl (i2 c_250_61 (i28 c_250_64 ?_)))
          refine i36l c_250_65 (rje_ K29 rfl) (by decide) rfl (fun hc => ?_) (fun hc => ?_)
          · have t := iF t hc
            have ha31 : ¬ ((τ112 83 11) = 28530) := hc
            exact t
          · have t := iT t (Decidable.not_not.mp hc)
            have ha31 : (τ112 83 11) = 28530 := Decidable.not_not.mp hc
            refine i1 c_250_68 (i38 c_250_69 rfl t)
    · have t := iF t hc
      have ha16 : ¬ (((askO T3 n4 s5).1) = 0) := hc
      refine i3 c_250_21 rfl ?_
      exact i90 c_250_23 t
set_option maxRecDepth 20000 in
theorem u_250_72 {d : Nat} {S : zS} {σ τ : zI} {Q : zQ} {x1 : Int} {x2 : Int} {x3 : Int} {x4 : Int} {y5 : Value} (t : wi (d + 11) 250 73 [.ref 83, .int (wI x1), .int (wI x2), .int (wI x3), .int (wI x4), y5] [.int (wI 0)] S σ τ Q) : wi (d + 11) 250 72 [.ref 83, .int (wI x1), .int (wI x2), .int (wI x3), .int (wI x4), y5] [] S σ τ Q := by
  refine i1 c_250_72 t
set_option maxRecDepth 20000 in
theorem u_250_73 {d : Nat} {S : zS} {σ τ : zI} {Q : zQ} {x1 : Int} {x2 : Int} {x3 : Int} {x4 : Int} {y5 : Value} {s0 : Int} (t : (rg x1) ∧ if x1 = 0 then ((rg x2) ∧ if x2 = 0 then (wi (d + 11) 250 93 [.ref 83, .int (wI x1), .int (wI s0), .int (wI x3), .int (wI x4), .int (wI s0)] [] S σ τ Q) else ((EB σ) ∧ ∀ (σ16 : zI), EM σ σ16 22 0 → wi (d + 11) 250 93 [.ref 83, .int (wI x1), .int (wI s0), .int (wI x3), .int (wI x4), .int (wI s0)] [] S σ16 τ Q)) else (wi (d + 11) 250 93 [.ref 83, .int (wI x1), .int (wI x2), .int (wI x3), .int (wI x4), .int (wI s0)] [] S σ τ Q)) : wi (d + 11) 250 73 [.ref 83, .int (wI x1), .int (wI x2), .int (wI x3), .int (wI x4), y5] [.int (wI s0)] S σ τ Q := by
  obtain ⟨r1, t⟩ := t
  refine i6 (L' := [.ref 83, .int (wI x1), .int (wI x2), .int (wI x3), .int (wI x4), .int (wI s0)]) c_250_73 rfl (i3 c_250_75 rfl ?_)
  refine i36 c_250_76 r1 rfl (fun hc => ?_) (fun hc => ?_)
  · have t := iF t hc
    have ha2 : ¬ (x1 = 0) := hc
    exact t
  · have t := iT t (Decidable.not_not.mp hc)
    have ha2 : x1 = 0 := Decidable.not_not.mp hc
    obtain ⟨r3, t⟩ := t
    refine i3 c_250_79 rfl ?_
    refine i36 c_250_80 r3 rfl (fun hc => ?_) (fun hc => ?_)
    · have t := iT t hc
      have ha4 : x2 = 0 := hc
      refine i3 c_250_90 rfl (i6 (L' := [.ref 83, .int (wI x1), .int (wI s0), .int (wI x3), .int (wI x4), .int (wI s0)]) c_250_92 rfl t)
    · have t := iF t hc
      have ha4 : ¬ (x2 = 0) := hc
      obtain ⟨p5, t⟩ := t
      refine i5 c_250_83 rfl (i1 c_250_84 (i1 c_250_86 ?_))
      refine i80 (As := [.int (wI 22), .int (wI 0)]) (rest := []) c_250_87 mi_238 rfl rfl (Nat.le_of_ble_eq_true rfl) (Nat.le_of_ble_eq_true rfl) (lo (c := 83) (kd := 112) (n := 0) rfl (by decide)) (q_238 (by decide) (by decide) p5 (fun σ16 q7 => ?_))
      have t := t σ16 q7
      show wi (d + 11) 250 90 [.ref 83, .int (wI x1), .int (wI x2), .int (wI x3), .int (wI x4), .int (wI s0)] [] S σ16 τ Q
      refine i3 c_250_90 rfl (i6 (L' := [.ref 83, .int (wI x1), .int (wI s0), .int (wI x3), .int (wI x4), .int (wI s0)]) c_250_92 rfl t)
set_option maxRecDepth 20000 in
theorem u_250_93 {d : Nat} {S : zS} {σ τ : zI} {Q : zQ} {x1 : Int} {x2 : Int} {x3 : Int} {x4 : Int} {x5 : Int} (t : (rg x1) ∧ if x1 = 0 then ((rg x5) ∧ if x5 = 0 then (wi (d + 11) 250 107 [.ref 83, .int (wI x1), .int (wI x2), .int (wI x3), .int (wI x4), .int (wI x5)] [.int (wI 0)] S σ τ Q) else (wi (d + 11) 250 102 [.ref 83, .int (wI x1), .int (wI x2), .int (wI x3), .int (wI x4), .int (wI x5)] [] S σ τ Q)) else (wi (d + 11) 250 102 [.ref 83, .int (wI x1), .int (wI x2), .int (wI x3), .int (wI x4), .int (wI x5)] [] S σ τ Q)) : wi (d + 11) 250 93 [.ref 83, .int (wI x1), .int (wI x2), .int (wI x3), .int (wI x4), .int (wI x5)] [] S σ τ Q := by
  obtain ⟨r1, t⟩ := t
  refine i3 c_250_93 rfl ?_
  refine i36 c_250_94 r1 rfl (fun hc => ?_) (fun hc => ?_)
  · have t := iF t hc
    have ha2 : ¬ (x1 = 0) := hc
    exact t
  · have t := iT t (Decidable.not_not.mp hc)
    have ha2 : x1 = 0 := Decidable.not_not.mp hc
    obtain ⟨r3, t⟩ := t
    refine i3 c_250_97 rfl ?_
    refine i36 c_250_99 r3 rfl (fun hc => ?_) (fun hc => ?_)
    · have t := iT t hc
      have ha4 : x5 = 0 := hc
      refine i1 c_250_106 t
    · have t := iF t hc
      have ha4 : ¬ (x5 = 0) := hc
      exact t
set_option maxRecDepth 20000 in
theorem u_250_102 {d : Nat} {S : zS} {σ τ : zI} {Q : zQ} {x1 : Int} {x2 : Int} {x3 : Int} {x4 : Int} {x5 : Int} (t : wi (d + 11) 250 107 [.ref 83, .int (wI x1), .int (wI x2), .int (wI x3), .int (wI x4), .int (wI x5)] [.int (wI 1)] S σ τ Q) : wi (d + 11) 250 102 [.ref 83, .int (wI x1), .int (wI x2), .int (wI x3), .int (wI x4), .int (wI x5)] [] S σ τ Q := by
  refine i1 c_250_102 (i38 c_250_103 rfl t)
set_option maxRecDepth 20000 in
theorem u_250_107 {d : Nat} {S : zS} {σ τ : zI} {Q : zQ} {x1 : Int} {x2 : Int} {x3 : Int} {x4 : Int} {x5 : Int} {s0 : Int} (t : (rg s0) ∧ if s0 = 0 then (wi (d + 11) 250 6 [.ref 83, .int (wI x1), .int (wI x2), .int (wI s0), .int (wI x4), .int (wI x5)] [] S σ τ Q) else (∃ T3 : Int → Int, ∃ n4 : Int, ∃ s5 : Int, (TB T3 n4) ∧ (TR T3 n4 s5 σ τ) ∧ (s5 < n4) ∧ ∀ (σ19 : zI) (τ110 : zI), FK σ σ19 τ τ110 → TR T3 n4 (nx T3 n4 s5) σ19 τ110 → wi (d + 11) 250 6 [.ref 83, .int (wI x1), .int (wI x2), .int (wI s0), .int (wI x4), .int (wI x5)] [] S σ19 τ110 Q)) : wi (d + 11) 250 107 [.ref 83, .int (wI x1), .int (wI x2), .int (wI x3), .int (wI x4), .int (wI x5)] [.int (wI s0)] S σ τ Q := by
  obtain ⟨r1, t⟩ := t
  refine i6 (L' := [.ref 83, .int (wI x1), .int (wI x2), .int (wI s0), .int (wI x4), .int (wI x5)]) c_250_107 rfl (i3 c_250_108 rfl ?_)
  refine i36 c_250_109 r1 rfl (fun hc => ?_) (fun hc => ?_)
  · have t := iT t hc
    have ha2 : s0 = 0 := hc
    refine i38 c_250_116 rfl t
  · have t := iF t hc
    have ha2 : ¬ (s0 = 0) := hc
    obtain ⟨T3, t⟩ := t
    obtain ⟨n4, t⟩ := t
    obtain ⟨s5, t⟩ := t
    obtain ⟨p6, t⟩ := t
    obtain ⟨p7, t⟩ := t
    obtain ⟨p8, t⟩ := t
    refine i5 c_250_112 rfl ?_
    refine i80 (As := []) (rest := []) c_250_113 mi_231 rfl rfl (Nat.le_of_ble_eq_true rfl) (Nat.le_of_ble_eq_true rfl) (lo (c := 83) (kd := 112) (n := 0) rfl (by decide)) (q_231t (T := T3) (n := n4) (s := s5) p6 p7 p8 (fun σ19 τ110 q11 q12 => ?_))
    have t := t σ19 τ110 q11 q12
    show wi (d + 11) 250 116 [.ref 83, .int (wI x1), .int (wI x2), .int (wI s0), .int (wI x4), .int (wI x5)] [] S σ19 τ110 Q
    refine i38 c_250_116 rfl t
theorem q_250 {d : Nat} {S : zS} {σ τ : zI} {Q : zQ} {T : Int → Int} {n : Int} {s : Int} (p0 : TB T n) (p1 : TR T n s σ τ) (p2 : EB σ) (p3 : σ 83 14 < s) (p4 : σ 83 17 = 0) (t : ∀ (σ1 : zI) (τ1 : zI), 0 ≤ (eitO T n 301 s [] 0 0).1 ∧ (eitO T n 301 s [] 0 0).1 ≤ 3 → OF T n σ τ (eitO T n 301 s [] 0 0) σ1 τ1 → Q (some (.int (wI ((eitO T n 301 s [] 0 0).1)))) S σ1 τ1) : wc (d + 11) 250 [.ref 83] S σ τ Q := by
  have n3 := p0.1.2
  have s01 := p1.1
  have l0 : (([] : List (Int × Int)).length : Int) = 0 := rfl
  have la0 : ((anO 0).length : Int) = 0 := rfl
  have lo0 : ((orO 0).length : Int) = 0 := rfl
  have ek := eitO_ok (T := T) n3 301 s [] 0 0 s s01.1 (by omega) s01.2 (by omega) (by omega)
  have lp : ∀ (m : Nat) (s' : Int) (L : List (Int × Int)) (an o : Int) (σ' τ' : zI) (y4 y5 : Value), n - s' < m → eitO T n 301 s [] 0 0 = eitO T n m s' L an o → (an = 0 ∨ an = 1) → (o = 0 ∨ o = 1) → PF σ σ' τ τ' L → TR T n s' σ' τ' → σ' 83 17 = 0 → σ' 83 14 + (anO an).length + (orO o).length < s' → wi (d + 11) 250 6 [.ref 83, .int (wI an), .int (wI o), .int (wI 1), y4, y5] [] S σ' τ' Q := by
    intro m
    induction m with
    | zero =>
      intro s' L an o σ' τ' y4 y5 hm
      intro _ _ _ _ tr
      have := tr.1
      omega
    | succ m ih =>
      intro s' L an o σ' τ' y4 y5 hm he han ho pf tr h17 room
      have ts := tr.1
      have ak := askO_ok (T := T) n3 (s := s') (by omega) (by omega)
      have an0 : 0 ≤ ((anO an).length : Int) ∧ 0 ≤ ((orO o).length : Int) := by omega
      have EB' : EB σ' := PF_EB p2 pf (by omega)
      refine u_250_6 ⟨by omega, ifI (fun z => absurd z (by decide)) (fun _ => ⟨T, n, s', p0, tr, EB', by omega, h17, fun σ1 τ1 rb of => ⟨by omega, ifI (fun e => ?_) (fun e => ?_)⟩⟩)⟩
      · obtain ⟨tr1, ok1, _⟩ := of
        obtain ⟨pf1, g17⟩ := ok1 e
        have a1 := ak.1 e
        have a14 := pf1.1.1
        have pfa := PF_t pf pf1
        have nxt : ∀ (L' : List (Int × Int)) (an' o' x4 x5 : Int) (σ3 τ3 : zI), PF σ σ3 τ τ3 L' → TR T n (askO T n s').2.1 σ3 τ3 → σ3 83 17 = 0 → tk T n (askO T n s').2.1 ≠ 1 → eitO T n 301 s [] 0 0 = eitO T n m (nx T n (askO T n s').2.1) L' an' o' → (an' = 0 ∨ an' = 1) → (o' = 0 ∨ o' = 1) → σ3 83 14 + (anO an').length + (orO o').length ≤ (askO T n s').2.1 → wi (d + 11) 250 107 [.ref 83, .int (wI an'), .int (wI o'), .int (wI 1), .int (wI x4), .int (wI x5)] [.int (wI 1)] S σ3 τ3 Q := by
          intro L' an' o' x4 x5 σ3 τ3 pf3 tr3 k17 k1 he' h1 h2 h3
          have sn := tk_n (T := T) (n := n) k1
          have nb := nx_b (T := T) sn
          refine u_250_107 ⟨by omega, ifI (fun z => absurd z (by decide)) (fun _ => ⟨T, n, _, p0, tr3, sn, fun σ4 τ4 fk tr4 => ?_⟩)⟩
          exact ih _ L' an' o' σ4 τ4 _ _ (by omega) he' h1 h2 (PF_n pf3 (PF_F fk)) tr4 (by rw [fk.2.1 17 (by omega)]; exact k17) (by rw [fk.2.1 14 (by omega)]; omega)
        have stop : ∀ (L' : List (Int × Int)) (o' x4 x5 : Int) (σ3 τ3 : zI), PF σ σ3 τ τ3 L' → TR T n (askO T n s').2.1 σ3 τ3 → σ3 83 17 = 0 → eitO T n 301 s [] 0 0 = (0, (askO T n s').2.1, L') → σ3 83 14 ≤ 310 → wi (d + 11) 250 107 [.ref 83, .int (wI 0), .int (wI o'), .int (wI 1), .int (wI x4), .int (wI x5)] [.int (wI 0)] S σ3 τ3 Q := by
          intro L' o' x4 x5 σ3 τ3 pf3 tr3 k17 he' b
          refine u_250_107 ⟨by omega, ifI (fun _ => u_250_6 ⟨by omega, ifI (fun _ => ?_) (fun z => absurd rfl z)⟩) (fun z => absurd rfl z)⟩
          have h := t σ3 τ3
          rw [he'] at h
          exact h (by show (0 : Int) ≤ 0 ∧ (0 : Int) ≤ 3; omega) ⟨tr3, fun _ => ⟨pf3, by rw [k17, p4]⟩, L', pf3, b⟩
        have he0 : eitO T n (m + 1) s' L an o = if tk T n (askO T n s').2.1 = 15 then eitO T n m (nx T n (askO T n s').2.1) (L ++ (askO T n s').2.2 ++ anO an) 1 o else if tk T n (askO T n s').2.1 = 14 then eitO T n m (nx T n (askO T n s').2.1) (L ++ (askO T n s').2.2 ++ anO an ++ orO o) 0 1 else (0, (askO T n s').2.1, L ++ (askO T n s').2.2 ++ anO an ++ orO o) := by
          conv => lhs; unfold eitO
          exact if_neg (by omega)
        rw [he0] at he
        have ol := orO_l o
        have at73 : ∀ (σ2 τ2 : zI) (x4 : Int) (y5 : Value) (r0 : Int), PF σ σ2 τ τ2 (L ++ (askO T n s').2.2 ++ anO an) → TR T n (askO T n s').2.1 σ2 τ2 → σ2 83 17 = 0 → EB σ2 → σ2 83 14 + (orO o).length < (askO T n s').2.1 → r0 = (if tk T n (askO T n s').2.1 = 14 then 1 else 0) → wi (d + 11) 250 73 [.ref 83, .int (wI (if tk T n (askO T n s').2.1 = 15 then 1 else 0)), .int (wI o), .int (wI 1), .int (wI x4), y5] [.int (wI r0)] S σ2 τ2 Q := by
          intro σ2 τ2 x4 y5 r0 pf2 tr2 k17 eb rm hr0
          have tb := tr2.1
          by_cases c15 : tk T n (askO T n s').2.1 = 15
          · rw [if_pos c15] at he ⊢
            rw [if_neg (by omega)] at hr0
            subst hr0
            refine u_250_73 ⟨by omega, ifI (fun z => absurd z (by decide)) (fun _ => u_250_93 ⟨by omega, ifI (fun z => absurd z (by decide)) (fun _ => u_250_102 (nxt _ 1 o _ _ σ2 τ2 pf2 tr2 k17 (by omega) he (Or.inr rfl) ho ?_))⟩)⟩
            have := anO_l 1
            omega
          · rw [if_neg c15] at he ⊢
            have o2 : ∀ (σ3 : zI) , PF σ σ3 τ τ2 (L ++ (askO T n s').2.2 ++ anO an ++ orO o) → TR T n (askO T n s').2.1 σ3 τ2 → σ3 83 17 = 0 → σ3 83 14 < (askO T n s').2.1 → wi (d + 11) 250 93 [.ref 83, .int (wI 0), .int (wI r0), .int (wI 1), .int (wI x4), .int (wI r0)] [] S σ3 τ2 Q := by
              intro σ3 pf3 tr3 j17 rm3
              by_cases c14 : tk T n (askO T n s').2.1 = 14
              · rw [if_pos c14] at he hr0
                subst hr0
                refine u_250_93 ⟨by omega, ifI (fun _ => ⟨by omega, ifI (fun z => absurd z (by decide)) (fun _ => u_250_102 (nxt _ 0 1 _ _ σ3 τ2 pf3 tr3 j17 (by omega) he (Or.inl rfl) (Or.inr rfl) ?_))⟩) (fun z => absurd rfl z)⟩
                have := orO_l 1
                omega
              · rw [if_neg c14] at he hr0
                subst hr0
                exact u_250_93 ⟨by omega, ifI (fun _ => ⟨by omega, ifI (fun _ => stop _ 0 _ _ σ3 τ2 pf3 tr3 j17 he (by omega)) (fun z => absurd rfl z)⟩) (fun z => absurd rfl z)⟩
            refine u_250_73 ⟨by omega, ifI (fun _ => ⟨by omega, ifI (fun o0 => ?_) (fun o0 => ⟨eb, fun σ3 em => ?_⟩)⟩) (fun z => absurd rfl z)⟩
            · refine o2 σ2 ?_ tr2 k17 (by omega)
              rw [show orO o = [] from if_pos o0, List.append_nil]
              exact pf2
            · have e1 : orO o = [(22, 0)] := if_neg o0
              have l1 : ((orO o).length : Int) = 1 := by rw [e1]; rfl
              refine o2 σ3 ?_ (TR_em tr2 em) (by rw [em.2.2 17 (by omega)]; exact k17) (by have := em14 em; omega)
              rw [e1]
              exact PF_t pf2 (em.1 τ2)
        have body : ∀ (σ2 τ2 : zI) (x4 : Int) (y5 : Value), PF σ σ2 τ τ2 (L ++ (askO T n s').2.2 ++ anO an) → TR T n (askO T n s').2.1 σ2 τ2 → σ2 83 17 = 0 → EB σ2 → σ2 83 14 + (orO o).length < (askO T n s').2.1 → if (σ2 83 9) = 2 then (if (τ2 83 11) = 28530 then (wi (d + 11) 250 73 [.ref 83, .int (wI (if σ2 83 9 = 2 ∧ τ2 83 11 = (97 * 65536 + 110 * 256 + 100) then 1 else 0)), .int (wI o), .int (wI 1), .int (wI x4), y5] [.int (wI 1)] S σ2 τ2 Q) else (wi (d + 11) 250 72 [.ref 83, .int (wI (if σ2 83 9 = 2 ∧ τ2 83 11 = (97 * 65536 + 110 * 256 + 100) then 1 else 0)), .int (wI o), .int (wI 1), .int (wI x4), y5] [] S σ2 τ2 Q)) else (wi (d + 11) 250 72 [.ref 83, .int (wI (if σ2 83 9 = 2 ∧ τ2 83 11 = (97 * 65536 + 110 * 256 + 100) then 1 else 0)), .int (wI o), .int (wI 1), .int (wI x4), y5] [] S σ2 τ2 Q) := by
          intro σ2 τ2 x4 y5 pf2 tr2 k17 eb rm
          have w15 := TR_w tr2 p0 (t := 15) (v := 97 * 65536 + 110 * 256 + 100) (by omega) (fun x => by rw [wcd_15]; omega)
          have w14 := TR_w tr2 p0 (t := 14) (v := 28530) (by omega) (fun x => by rw [wcd_14])
          have ei : (if σ2 83 9 = 2 ∧ τ2 83 11 = (97 * 65536 + 110 * 256 + 100) then (1 : Int) else 0) = (if tk T n (askO T n s').2.1 = 15 then 1 else 0) := by
            by_cases c : tk T n (askO T n s').2.1 = 15
            · rw [if_pos c, if_pos (w15.mpr c)]
            · rw [if_neg c, if_neg (fun z => c (w15.mp z))]
          rw [ei]
          have no : ¬ (σ2 83 9 = 2 ∧ τ2 83 11 = 28530) → wi (d + 11) 250 72 [.ref 83, .int (wI (if tk T n (askO T n s').2.1 = 15 then 1 else 0)), .int (wI o), .int (wI 1), .int (wI x4), y5] [] S σ2 τ2 Q := fun h => u_250_72 (at73 σ2 τ2 x4 y5 0 pf2 tr2 k17 eb rm (if_neg (fun z => h (w14.mpr z))).symm)
          exact ifI (fun h1 => ifI (fun h2 => at73 σ2 τ2 x4 y5 1 pf2 tr2 k17 eb rm (if_pos (w14.mp ⟨h1, h2⟩)).symm) (fun h2 => no (fun z => h2 z.2))) (fun h1 => no (fun z => h1 z.1))
        have EB1 : EB σ1 := PF_EB EB' pf1 (by omega)
        refine ⟨by omega, ifI (fun z => ⟨by omega, by decide, body σ1 τ1 _ _ ?_ tr1 (by rw [g17]; exact h17) EB1 (by omega)⟩) (fun z => ⟨EB1, fun σ2 em => ⟨by omega, by decide, body σ2 τ1 _ _ ?_ (TR_em tr1 em) ?_ ?_ ?_⟩⟩)⟩
        · rw [show anO an = [] from if_pos z, List.append_nil]
          exact pfa
        · rw [show anO an = [(21, 0)] from if_neg z]
          exact PF_t pfa (em.1 τ1)
        · rw [em.2.2 17 (by omega), g17]; exact h17
        · exact EB_f EB1 (em.2.2 12 (by omega)) (by have := em14 em; have := EB1.2; omega)
        · have l1 : ((anO an).length : Int) = 1 := by rw [show anO an = [(21, 0)] from if_neg z]; rfl
          have := em14 em
          omega
      · obtain ⟨tr1, _, L1, pf1, b1⟩ := of
        have he0 : eitO T n (m + 1) s' L an o = ((askO T n s').1, (askO T n s').2.1, []) := by
          conv => lhs; unfold eitO
          exact if_pos e
        rw [he0] at he
        have h := t σ1 τ1
        rw [he] at h
        exact h rb ⟨tr1, fun z => absurd z e, _, PF_t pf pf1, b1⟩
  exact wc_of mi_250 rfl (u_250_0 (lp 301 s [] 0 0 σ τ _ _ (by omega) rfl (Or.inl rfl) (Or.inl rfl) PF_0 p1 p4 (by omega)))
