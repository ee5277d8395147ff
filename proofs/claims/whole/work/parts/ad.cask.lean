/-! ===== the class reads: ASKS (segments printed by wip/whole, contracts own work) ===== -/
theorem q_50 {d : Nat} {S : zS} {σ τ : zI} {Q : zQ} {x : Nat} {o : Int} {T : Int → Int} {n : Int} {s : Int} (hx : oT S x) (p0 : CR T n s σ ∨ CFS σ) (p1 : TB T n) (p2 : rg o) (p3 : CR T n s σ → (0 : Int) ≤ o ∧ o ≤ (8 : Int)) (p4 : 0 ≤ σ x 2 ∧ σ x 2 ≤ 300) (p5 : CR T n s σ → σ x 2 ≤ s) (t : ∀ (σ1 : zI), CJ x σ σ1 → (CFS σ → σ1 = σ) → (CR T n s σ → CO x T n (sumO T n (oneK T n ((8 : Int) - o).toNat) s) σ σ1) → Q none S σ1 τ) : wc (d + 25) 50 [.ref 63, .ref x, .int (wI o)] S σ τ Q := by
  rcases p0 with cr | fl
  · have o8 := p3 cr
    have hk : ((8 - o).toNat : Int) = 8 - o := by omega
    rw [show d + 25 = (d + 16 - 2 * (8 - o).toNat) + 2 * (8 - o).toNat + 9 by omega, show o = 8 - ((8 - o).toNat : Int) by omega]
    have h := c_sum p1 (k := (8 - o).toNat) (by omega) (c_one (S := S) p1 _ (by omega)) (d + 16 - 2 * (8 - o).toNat) x s σ τ Q hx cr ⟨p4.1, p5 cr⟩ (fun σ1 co => t σ1 co.1 (fun fl => absurd cr (cr_no fl)) (fun _ => co))
    rw [show (8 - (8 - ((8 - o).toNat : Int))).toNat = (8 - o).toNat by omega]
    exact h
  · exact f_sum (d + 17) x o σ τ Q hx fl (t σ CJ_0 (fun _ => rfl) (fun cr => absurd cr (cr_no fl)))
-- method 49: MillTown$Reader.readAsk(LMillTown$Text;)V
theorem c_49_0 : pg_cd 49 0 = (1, 1, 0, 0, 0) := by decide +kernel
theorem c_49_1 : pg_cd 49 1 = (6, 1, 0, 2, 0) := by decide +kernel
theorem c_49_2 : pg_cd 49 2 = (1, 1, 0, 0, 0) := by decide +kernel
theorem c_49_3 : pg_cd 49 3 = (6, 1, 0, 3, 0) := by decide +kernel
theorem c_49_4 : pg_cd 49 4 = (3, 1, 0, 3, 0) := by decide +kernel
theorem c_49_5 : pg_cd 49 5 = (1, 2, 0, 0, 8) := by decide +kernel
theorem c_49_7 : pg_cd 49 7 = (37, 3, 0, 4, 45) := by decide +kernel
theorem c_49_10 : pg_cd 49 10 = (5, 1, 0, 0, 0) := by decide +kernel
theorem c_49_11 : pg_cd 49 11 = (43, 3, 21, 5, 0) := by decide +kernel
theorem c_49_14 : pg_cd 49 14 = (36, 3, 0, 1, 38) := by decide +kernel
theorem c_49_17 : pg_cd 49 17 = (5, 1, 0, 0, 0) := by decide +kernel
theorem c_49_18 : pg_cd 49 18 = (43, 3, 46, 4, 0) := by decide +kernel
theorem c_49_21 : pg_cd 49 21 = (1, 2, 0, 0, 16) := by decide +kernel
theorem c_49_23 : pg_cd 49 23 = (37, 3, 0, 1, 29) := by decide +kernel
theorem c_49_26 : pg_cd 49 26 = (3, 1, 0, 2, 0) := by decide +kernel
theorem c_49_27 : pg_cd 49 27 = (1, 2, 0, 0, 8) := by decide +kernel
theorem c_49_29 : pg_cd 49 29 = (37, 3, 0, 1, 8) := by decide +kernel
theorem c_49_32 : pg_cd 49 32 = (5, 1, 0, 0, 0) := by decide +kernel
theorem c_49_33 : pg_cd 49 33 = (1, 1, 0, 0, 3) := by decide +kernel
theorem c_49_34 : pg_cd 49 34 = (80, 43, 49, 0, 0) := by decide +kernel
theorem c_49_37 : pg_cd 49 37 = (5, 1, 0, 0, 0) := by decide +kernel
theorem c_49_38 : pg_cd 49 38 = (1, 2, 0, 0, 16) := by decide +kernel
theorem c_49_40 : pg_cd 49 40 = (80, 44, 101, 0, 0) := by decide +kernel
theorem c_49_43 : pg_cd 49 43 = (9, 3, 0, 2, 1) := by decide +kernel
theorem c_49_46 : pg_cd 49 46 = (9, 3, 0, 3, 1) := by decide +kernel
theorem c_49_49 : pg_cd 49 49 = (38, 3, 0, 0, (-45)) := by decide +kernel
theorem c_49_52 : pg_cd 49 52 = (5, 1, 0, 0, 0) := by decide +kernel
theorem c_49_53 : pg_cd 49 53 = (5, 1, 0, 1, 0) := by decide +kernel
theorem c_49_54 : pg_cd 49 54 = (3, 1, 0, 2, 0) := by decide +kernel
theorem c_49_55 : pg_cd 49 55 = (80, 50, 120, 0, 0) := by decide +kernel
theorem c_49_58 : pg_cd 49 58 = (5, 1, 0, 0, 0) := by decide +kernel
theorem c_49_59 : pg_cd 49 59 = (43, 3, 46, 4, 0) := by decide +kernel
theorem c_49_62 : pg_cd 49 62 = (6, 1, 0, 3, 0) := by decide +kernel
theorem c_49_63 : pg_cd 49 63 = (3, 1, 0, 3, 0) := by decide +kernel
theorem c_49_64 : pg_cd 49 64 = (1, 2, 0, 0, 23) := by decide +kernel
theorem c_49_66 : pg_cd 49 66 = (37, 3, 0, 2, 9) := by decide +kernel
theorem c_49_69 : pg_cd 49 69 = (3, 1, 0, 3, 0) := by decide +kernel
theorem c_49_70 : pg_cd 49 70 = (1, 2, 0, 0, 28) := by decide +kernel
theorem c_49_72 : pg_cd 49 72 = (37, 3, 0, 5, 8) := by decide +kernel
theorem c_49_75 : pg_cd 49 75 = (5, 1, 0, 0, 0) := by decide +kernel
theorem c_49_76 : pg_cd 49 76 = (1, 1, 0, 0, 1) := by decide +kernel
theorem c_49_77 : pg_cd 49 77 = (80, 43, 49, 0, 0) := by decide +kernel
theorem c_49_80 : pg_cd 49 80 = (5, 1, 0, 0, 0) := by decide +kernel
theorem c_49_81 : pg_cd 49 81 = (3, 1, 0, 3, 0) := by decide +kernel
theorem c_49_82 : pg_cd 49 82 = (80, 44, 101, 0, 0) := by decide +kernel
theorem c_49_85 : pg_cd 49 85 = (5, 1, 0, 0, 0) := by decide +kernel
theorem c_49_86 : pg_cd 49 86 = (5, 1, 0, 1, 0) := by decide +kernel
theorem c_49_87 : pg_cd 49 87 = (3, 1, 0, 2, 0) := by decide +kernel
theorem c_49_88 : pg_cd 49 88 = (80, 50, 120, 0, 0) := by decide +kernel
theorem c_49_91 : pg_cd 49 91 = (5, 1, 0, 1, 0) := by decide +kernel
theorem c_49_92 : pg_cd 49 92 = (3, 1, 0, 3, 0) := by decide +kernel
theorem c_49_93 : pg_cd 49 93 = (1, 1, 0, 0, 0) := by decide +kernel
theorem c_49_94 : pg_cd 49 94 = (80, 84, 127, 0, 0) := by decide +kernel
theorem c_49_97 : pg_cd 49 97 = (1, 1, 0, 0, 0) := by decide +kernel
theorem c_49_98 : pg_cd 49 98 = (6, 2, 0, 4, 0) := by decide +kernel
theorem c_49_100 : pg_cd 49 100 = (3, 2, 0, 4, 0) := by decide +kernel
theorem c_49_102 : pg_cd 49 102 = (3, 1, 0, 2, 0) := by decide +kernel
theorem c_49_103 : pg_cd 49 103 = (37, 3, 0, 3, 16) := by decide +kernel
theorem c_49_106 : pg_cd 49 106 = (5, 1, 0, 1, 0) := by decide +kernel
theorem c_49_107 : pg_cd 49 107 = (1, 2, 0, 0, 16) := by decide +kernel
theorem c_49_109 : pg_cd 49 109 = (1, 1, 0, 0, 0) := by decide +kernel
theorem c_49_110 : pg_cd 49 110 = (80, 84, 127, 0, 0) := by decide +kernel
theorem c_49_113 : pg_cd 49 113 = (9, 3, 0, 4, 1) := by decide +kernel
theorem c_49_116 : pg_cd 49 116 = (38, 3, 0, 0, (-16)) := by decide +kernel
theorem c_49_119 : pg_cd 49 119 = (94, 0, 0, 0, 0) := by decide +kernel
theorem mi_49 : pg_mc 49 = 3 ∧ pg_na 49 = 1 ∧ pg_mx 49 = 5 := by decide +kernel
set_option maxRecDepth 20000 in
theorem u_49_0 {d : Nat} {S : zS} {σ τ : zI} {Q : zQ} {x1 : Nat} (hx1 : oT S x1) (t : wi (d + 26) 49 4 [.ref 63, .ref x1, .int (wI 0), .int (wI 0), .retAddr 0] [] S σ τ Q) : wi (d + 26) 49 0 [.ref 63, .ref x1, .retAddr 0, .retAddr 0, .retAddr 0] [] S σ τ Q := by
  refine i1 c_49_0 (i6 (L' := [.ref 63, .ref x1, .int (wI 0), .retAddr 0, .retAddr 0]) c_49_1 rfl (i1 c_49_2 (i6 (L' := [.ref 63, .ref x1, .int (wI 0), .int (wI 0), .retAddr 0]) c_49_3 rfl t)))
set_option maxRecDepth 20000 in
theorem u_49_4 {d : Nat} {S : zS} {σ τ : zI} {Q : zQ} {x1 : Nat} {x2 : Int} {x3 : Int} {y4 : Value} (hx1 : oT S x1) (t : (rg x3) ∧ if (8 : Int) < x3 then (wi (d + 26) 49 52 [.ref 63, .ref x1, .int (wI x2), .int (wI x3), y4] [] S σ τ Q) else (if (σ 63 5) = 0 then (if (σ 63 4) = 16 then ((rg x2) ∧ if x2 = 8 then (∃ T16 : Int → Int, ∃ n17 : Int, ∃ s18 : Int, (CR T16 n17 s18 σ ∨ CFS σ) ∧ (TB T16 n17) ∧ ∀ (σ121 : zI), CK σ σ121 → (CFS σ → σ121 = σ) → (CR T16 n17 s18 σ → CD 3 s18 σ121) → ∃ T25 : Int → Int, ∃ n26 : Int, ∃ s27 : Int, (CR T25 n26 s27 σ121 ∨ CFS σ121) ∧ (CR T25 n26 s27 σ121 → (1 : Int) ≠ 16) ∧ (TB T25 n26) ∧ ∀ (σ131 : zI), XP T25 n26 s27 16 σ121 σ131 → wi (d + 26) 49 4 [.ref 63, .ref x1, .int (wI (x2 + 1)), .int (wI (x3 + 1)), y4] [] S σ131 τ Q) else (∃ T8 : Int → Int, ∃ n9 : Int, ∃ s10 : Int, (CR T8 n9 s10 σ ∨ CFS σ) ∧ (CR T8 n9 s10 σ → (1 : Int) ≠ 16) ∧ (TB T8 n9) ∧ ∀ (σ114 : zI), XP T8 n9 s10 16 σ σ114 → wi (d + 26) 49 4 [.ref 63, .ref x1, .int (wI (x2 + 1)), .int (wI (x3 + 1)), y4] [] S σ114 τ Q)) else (wi (d + 26) 49 52 [.ref 63, .ref x1, .int (wI x2), .int (wI x3), y4] [] S σ τ Q)) else (wi (d + 26) 49 52 [.ref 63, .ref x1, .int (wI x2), .int (wI x3), y4] [] S σ τ Q))) : wi (d + 26) 49 4 [.ref 63, .ref x1, .int (wI x2), .int (wI x3), y4] [] S σ τ Q := by
  obtain ⟨r1, t⟩ := t
  refine i3 c_49_4 rfl (i1 c_49_5 ?_)
  refine i37 c_49_7 r1 (by decide) rfl (fun hc => ?_) (fun hc => ?_)
  · have t := iT t hc
    have ha2 : (8 : Int) < x3 := hc
    exact t
  · have t := iF t hc
    have ha2 : ¬ ((8 : Int) < x3) := hc
    refine i5 c_49_10 rfl (wi_ok (fun K3 => ?_))
    refine i43 (v := σ 63 5) c_49_11 (lo (c := 63) (kd := 103) (n := 0) rfl (by decide)) rfl ?_
    refine i36 c_49_14 (rge_ K3 rfl) rfl (fun hc => ?_) (fun hc => ?_)
    · have t := iF t hc
      have ha4 : ¬ ((σ 63 5) = 0) := hc
      exact t
    · have t := iT t (Decidable.not_not.mp hc)
      have ha4 : (σ 63 5) = 0 := Decidable.not_not.mp hc
      refine i5 c_49_17 rfl (i43 (v := σ 63 4) c_49_18 (lo (c := 63) (kd := 103) (n := 0) rfl (by decide)) rfl (i1 c_49_21 ?_))
      refine i37 c_49_23 (rge_ K3 rfl) (by decide) rfl (fun hc => ?_) (fun hc => ?_)
      · have t := iF t hc
        have ha5 : ¬ ((σ 63 4) = 16) := hc
        exact t
      · have t := iT t (Decidable.not_not.mp hc)
        have ha5 : (σ 63 4) = 16 := Decidable.not_not.mp hc
        obtain ⟨r6, t⟩ := t
        refine i3 c_49_26 rfl (i1 c_49_27 ?_)
        refine i37 c_49_29 r6 (by decide) rfl (fun hc => ?_) (fun hc => ?_)
        · have t := iF t hc
          have ha7 : ¬ (x2 = 8) := hc
          obtain ⟨T8, t⟩ := t
          obtain ⟨n9, t⟩ := t
          obtain ⟨s10, t⟩ := t
          obtain ⟨p11, t⟩ := t
          obtain ⟨p12, t⟩ := t
          obtain ⟨p13, t⟩ := t
          refine i5 c_49_37 rfl (i1 c_49_38 ?_)
          refine i80 (As := [.int (wI 16)]) (rest := []) c_49_40 mi_44 rfl rfl (Nat.le_of_ble_eq_true rfl) (Nat.le_of_ble_eq_true rfl) (lo (c := 63) (kd := 103) (n := 0) rfl (by decide)) (q_44 (T := T8) (n := n9) (s := s10) p11 p12 (by decide) p13 (fun σ114 q15 => ?_))
          have t := t σ114 q15
          show wi (d + 26) 49 43 [.ref 63, .ref x1, .int (wI x2), .int (wI x3), y4] [] S σ114 τ Q
          refine i9 (L' := [.ref 63, .ref x1, .int (wI (x2 + 1)), .int (wI x3), y4]) c_49_43 rfl rfl (i9 (L' := [.ref 63, .ref x1, .int (wI (x2 + 1)), .int (wI (x3 + 1)), y4]) c_49_46 rfl rfl (i38 c_49_49 rfl t))
        · have t := iT t (Decidable.not_not.mp hc)
          have ha7 : x2 = 8 := Decidable.not_not.mp hc
          obtain ⟨T16, t⟩ := t
          obtain ⟨n17, t⟩ := t
          obtain ⟨s18, t⟩ := t
          obtain ⟨p19, t⟩ := t
          obtain ⟨p20, t⟩ := t
          refine i5 c_49_32 rfl (i1 c_49_33 ?_)
          refine i80 (As := [.int (wI 3)]) (rest := []) c_49_34 mi_43 rfl rfl (Nat.le_of_ble_eq_true rfl) (Nat.le_of_ble_eq_true rfl) (lo (c := 63) (kd := 103) (n := 0) rfl (by decide)) (q_43 (T := T16) (n := n17) (s := s18) p19 (by decide) p20 (fun σ121 q22 q23 q24 => ?_))
          have t := t σ121 q22 q23 q24
          show wi (d + 26) 49 37 [.ref 63, .ref x1, .int (wI x2), .int (wI x3), y4] [] S σ121 τ Q
          obtain ⟨T25, t⟩ := t
          obtain ⟨n26, t⟩ := t
          obtain ⟨s27, t⟩ := t
          obtain ⟨p28, t⟩ := t
          obtain ⟨p29, t⟩ := t
          obtain ⟨p30, t⟩ := t
          refine i5 c_49_37 rfl (i1 c_49_38 ?_)
          refine i80 (As := [.int (wI 16)]) (rest := []) c_49_40 mi_44 rfl rfl (Nat.le_of_ble_eq_true rfl) (Nat.le_of_ble_eq_true rfl) (lo (c := 63) (kd := 103) (n := 0) rfl (by decide)) (q_44 (T := T25) (n := n26) (s := s27) p28 p29 (by decide) p30 (fun σ131 q32 => ?_))
          have t := t σ131 q32
          show wi (d + 26) 49 43 [.ref 63, .ref x1, .int (wI x2), .int (wI x3), y4] [] S σ131 τ Q
          refine i9 (L' := [.ref 63, .ref x1, .int (wI (x2 + 1)), .int (wI x3), y4]) c_49_43 rfl rfl (i9 (L' := [.ref 63, .ref x1, .int (wI (x2 + 1)), .int (wI (x3 + 1)), y4]) c_49_46 rfl rfl (i38 c_49_49 rfl t))
set_option maxRecDepth 20000 in
theorem u_49_52 {d : Nat} {S : zS} {σ τ : zI} {Q : zQ} {x1 : Nat} {x2 : Int} {x3 : Int} {y4 : Value} (hx1 : oT S x1) (t : ∃ T1 : Int → Int, ∃ n2 : Int, ∃ s3 : Int, (CR T1 n2 s3 σ ∨ CFS σ) ∧ (TB T1 n2) ∧ (rg x2) ∧ (CR T1 n2 s3 σ → (0 : Int) ≤ x2 ∧ x2 ≤ (8 : Int)) ∧ (0 ≤ σ x1 2 ∧ σ x1 2 ≤ 300) ∧ (CR T1 n2 s3 σ → σ x1 2 ≤ s3) ∧ ∀ (σ110 : zI), CJ x1 σ σ110 → (CFS σ → σ110 = σ) → (CR T1 n2 s3 σ → CO x1 T1 n2 (sumO T1 n2 (oneK T1 n2 ((8 : Int) - x2).toNat) s3) σ σ110) → if (σ110 63 4) < 23 then (wi (d + 26) 49 75 [.ref 63, .ref x1, .int (wI x2), .int (wI (σ110 63 4)), y4] [] S σ110 τ Q) else (if (σ110 63 4) ≤ 28 then (∃ T17 : Int → Int, ∃ n18 : Int, ∃ s19 : Int, (CR T17 n18 s19 σ110 ∨ CFS σ110) ∧ (CR T17 n18 s19 σ110 → (1 : Int) ≠ (σ110 63 4)) ∧ (TB T17 n18) ∧ ∀ (σ123 : zI), XP T17 n18 s19 (σ110 63 4) σ110 σ123 → ∃ T25 : Int → Int, ∃ n26 : Int, ∃ s27 : Int, (CR T25 n26 s27 σ123 ∨ CFS σ123) ∧ (TB T25 n26) ∧ (CR T25 n26 s27 σ123 → (0 : Int) ≤ x2 ∧ x2 ≤ (8 : Int)) ∧ (0 ≤ σ123 x1 2 ∧ σ123 x1 2 ≤ 300) ∧ (CR T25 n26 s27 σ123 → σ123 x1 2 ≤ s27) ∧ ∀ (σ133 : zI), CJ x1 σ123 σ133 → (CFS σ123 → σ133 = σ123) → (CR T25 n26 s27 σ123 → CO x1 T25 n26 (sumO T25 n26 (oneK T25 n26 ((8 : Int) - x2).toNat) s27) σ123 σ133) → (0 ≤ σ133 x1 2 ∧ σ133 x1 2 ≤ 300) ∧ (rg ((σ110 63 4) * 10000 + 0)) ∧ ∀ (σ139 : zI), CJ x1 σ133 σ139 → σ139 63 = σ133 63 → (σ133 x1 2 < 300 → σ139 x1 2 = σ133 x1 2 + 1 ∧ σ139 (x1 + 3) = u1 (σ133 (x1 + 3)) (σ133 x1 2) ((σ110 63 4) * 10000 + 0)) → wi (d + 26) 49 100 [.ref 63, .ref x1, .int (wI x2), .int (wI (σ110 63 4)), .int (wI 0)] [] S σ139 τ Q) else (wi (d + 26) 49 75 [.ref 63, .ref x1, .int (wI x2), .int (wI (σ110 63 4)), y4] [] S σ110 τ Q))) : wi (d + 26) 49 52 [.ref 63, .ref x1, .int (wI x2), .int (wI x3), y4] [] S σ τ Q := by
  obtain ⟨T1, t⟩ := t
  obtain ⟨n2, t⟩ := t
  obtain ⟨s3, t⟩ := t
  obtain ⟨p4, t⟩ := t
  obtain ⟨p5, t⟩ := t
  obtain ⟨r6, t⟩ := t
  obtain ⟨p7, t⟩ := t
  obtain ⟨p8, t⟩ := t
  obtain ⟨p9, t⟩ := t
  refine i5 c_49_52 rfl (i5 c_49_53 rfl (i3 c_49_54 rfl ?_))
  refine i80 (As := [.ref x1, .int (wI x2)]) (rest := []) c_49_55 mi_50 rfl rfl (Nat.le_of_ble_eq_true rfl) (Nat.le_of_ble_eq_true rfl) (lo (c := 63) (kd := 103) (n := 0) rfl (by decide)) (q_50 (T := T1) (n := n2) (s := s3) hx1 p4 p5 r6 p7 p8 p9 (fun σ110 q11 q12 q13 => ?_))
  have t := t σ110 q11 q12 q13
  show wi (d + 26) 49 58 [.ref 63, .ref x1, .int (wI x2), .int (wI x3), y4] [] S σ110 τ Q
  refine i5 c_49_58 rfl (wi_ok (fun K14 => ?_))
  refine i43 (v := σ110 63 4) c_49_59 (lo (c := 63) (kd := 103) (n := 0) rfl (by decide)) rfl (i6 (L' := [.ref 63, .ref x1, .int (wI x2), .int (wI (σ110 63 4)), y4]) c_49_62 rfl (i3 c_49_63 rfl (i1 c_49_64 ?_)))
  refine i37 c_49_66 (rge_ K14 rfl) (by decide) rfl (fun hc => ?_) (fun hc => ?_)
  · have t := iT t hc
    have ha15 : (σ110 63 4) < 23 := hc
    exact t
  · have t := iF t hc
    have ha15 : ¬ ((σ110 63 4) < 23) := hc
    refine i3 c_49_69 rfl (i1 c_49_70 ?_)
    refine i37 c_49_72 (rge_ K14 rfl) (by decide) rfl (fun hc => ?_) (fun hc => ?_)
    · have t := iT t hc
      have ha16 : (σ110 63 4) ≤ 28 := hc
      obtain ⟨T17, t⟩ := t
      obtain ⟨n18, t⟩ := t
      obtain ⟨s19, t⟩ := t
      obtain ⟨p20, t⟩ := t
      obtain ⟨p21, t⟩ := t
      obtain ⟨p22, t⟩ := t
      refine i5 c_49_80 rfl (i3 c_49_81 rfl ?_)
      refine i80 (As := [.int (wI (σ110 63 4))]) (rest := []) c_49_82 mi_44 rfl rfl (Nat.le_of_ble_eq_true rfl) (Nat.le_of_ble_eq_true rfl) (lo (c := 63) (kd := 103) (n := 0) rfl (by decide)) (q_44 (T := T17) (n := n18) (s := s19) p20 p21 (rge_ K14 rfl) p22 (fun σ123 q24 => ?_))
      have t := t σ123 q24
      show wi (d + 26) 49 85 [.ref 63, .ref x1, .int (wI x2), .int (wI (σ110 63 4)), y4] [] S σ123 τ Q
      obtain ⟨T25, t⟩ := t
      obtain ⟨n26, t⟩ := t
      obtain ⟨s27, t⟩ := t
      obtain ⟨p28, t⟩ := t
      obtain ⟨p29, t⟩ := t
      obtain ⟨p30, t⟩ := t
      obtain ⟨p31, t⟩ := t
      obtain ⟨p32, t⟩ := t
      refine i5 c_49_85 rfl (i5 c_49_86 rfl (i3 c_49_87 rfl ?_))
      refine i80 (As := [.ref x1, .int (wI x2)]) (rest := []) c_49_88 mi_50 rfl rfl (Nat.le_of_ble_eq_true rfl) (Nat.le_of_ble_eq_true rfl) (lo (c := 63) (kd := 103) (n := 0) rfl (by decide)) (q_50 (T := T25) (n := n26) (s := s27) hx1 p28 p29 r6 p30 p31 p32 (fun σ133 q34 q35 q36 => ?_))
      have t := t σ133 q34 q35 q36
      show wi (d + 26) 49 91 [.ref 63, .ref x1, .int (wI x2), .int (wI (σ110 63 4)), y4] [] S σ133 τ Q
      obtain ⟨p37, t⟩ := t
      obtain ⟨p38, t⟩ := t
      refine i5 c_49_91 rfl (i3 c_49_92 rfl (i1 c_49_93 ?_))
      refine i80 (As := [.int (wI (σ110 63 4)), .int (wI 0)]) (rest := []) c_49_94 mi_84 rfl rfl (Nat.le_of_ble_eq_true rfl) (Nat.le_of_ble_eq_true rfl) (fun _ => oT_0 hx1) (q_84 hx1 p37 p38 (fun σ139 q40 q41 q42 => ?_))
      have t := t σ139 q40 q41 q42
      show wi (d + 26) 49 97 [.ref 63, .ref x1, .int (wI x2), .int (wI (σ110 63 4)), y4] [] S σ139 τ Q
      refine i1 c_49_97 (i6 (L' := [.ref 63, .ref x1, .int (wI x2), .int (wI (σ110 63 4)), .int (wI 0)]) c_49_98 rfl t)
    · have t := iF t hc
      have ha16 : ¬ ((σ110 63 4) ≤ 28) := hc
      exact t
set_option maxRecDepth 20000 in
theorem u_49_75 {d : Nat} {S : zS} {σ τ : zI} {Q : zQ} {x1 : Nat} {x2 : Int} {x3 : Int} {y4 : Value} (hx1 : oT S x1) (t : ∃ T1 : Int → Int, ∃ n2 : Int, ∃ s3 : Int, (CR T1 n2 s3 σ ∨ CFS σ) ∧ (TB T1 n2) ∧ ∀ (σ16 : zI), CK σ σ16 → (CFS σ → σ16 = σ) → (CR T1 n2 s3 σ → CD 1 s3 σ16) → ∃ T10 : Int → Int, ∃ n11 : Int, ∃ s12 : Int, (CR T10 n11 s12 σ16 ∨ CFS σ16) ∧ (CR T10 n11 s12 σ16 → (1 : Int) ≠ x3) ∧ (rg x3) ∧ (TB T10 n11) ∧ ∀ (σ117 : zI), XP T10 n11 s12 x3 σ16 σ117 → ∃ T19 : Int → Int, ∃ n20 : Int, ∃ s21 : Int, (CR T19 n20 s21 σ117 ∨ CFS σ117) ∧ (TB T19 n20) ∧ (rg x2) ∧ (CR T19 n20 s21 σ117 → (0 : Int) ≤ x2 ∧ x2 ≤ (8 : Int)) ∧ (0 ≤ σ117 x1 2 ∧ σ117 x1 2 ≤ 300) ∧ (CR T19 n20 s21 σ117 → σ117 x1 2 ≤ s21) ∧ ∀ (σ128 : zI), CJ x1 σ117 σ128 → (CFS σ117 → σ128 = σ117) → (CR T19 n20 s21 σ117 → CO x1 T19 n20 (sumO T19 n20 (oneK T19 n20 ((8 : Int) - x2).toNat) s21) σ117 σ128) → (0 ≤ σ128 x1 2 ∧ σ128 x1 2 ≤ 300) ∧ (rg (x3 * 10000 + 0)) ∧ ∀ (σ134 : zI), CJ x1 σ128 σ134 → σ134 63 = σ128 63 → (σ128 x1 2 < 300 → σ134 x1 2 = σ128 x1 2 + 1 ∧ σ134 (x1 + 3) = u1 (σ128 (x1 + 3)) (σ128 x1 2) (x3 * 10000 + 0)) → wi (d + 26) 49 100 [.ref 63, .ref x1, .int (wI x2), .int (wI x3), .int (wI 0)] [] S σ134 τ Q) : wi (d + 26) 49 75 [.ref 63, .ref x1, .int (wI x2), .int (wI x3), y4] [] S σ τ Q := by
  obtain ⟨T1, t⟩ := t
  obtain ⟨n2, t⟩ := t
  obtain ⟨s3, t⟩ := t
  obtain ⟨p4, t⟩ := t
  obtain ⟨p5, t⟩ := t
  refine i5 c_49_75 rfl (i1 c_49_76 ?_)
  refine i80 (As := [.int (wI 1)]) (rest := []) c_49_77 mi_43 rfl rfl (Nat.le_of_ble_eq_true rfl) (Nat.le_of_ble_eq_true rfl) (lo (c := 63) (kd := 103) (n := 0) rfl (by decide)) (q_43 (T := T1) (n := n2) (s := s3) p4 (by decide) p5 (fun σ16 q7 q8 q9 => ?_))
  have t := t σ16 q7 q8 q9
  show wi (d + 26) 49 80 [.ref 63, .ref x1, .int (wI x2), .int (wI x3), y4] [] S σ16 τ Q
  obtain ⟨T10, t⟩ := t
  obtain ⟨n11, t⟩ := t
  obtain ⟨s12, t⟩ := t
  obtain ⟨p13, t⟩ := t
  obtain ⟨p14, t⟩ := t
  obtain ⟨r15, t⟩ := t
  obtain ⟨p16, t⟩ := t
  refine i5 c_49_80 rfl (i3 c_49_81 rfl ?_)
  refine i80 (As := [.int (wI x3)]) (rest := []) c_49_82 mi_44 rfl rfl (Nat.le_of_ble_eq_true rfl) (Nat.le_of_ble_eq_true rfl) (lo (c := 63) (kd := 103) (n := 0) rfl (by decide)) (q_44 (T := T10) (n := n11) (s := s12) p13 p14 r15 p16 (fun σ117 q18 => ?_))
  have t := t σ117 q18
  show wi (d + 26) 49 85 [.ref 63, .ref x1, .int (wI x2), .int (wI x3), y4] [] S σ117 τ Q
  obtain ⟨T19, t⟩ := t
  obtain ⟨n20, t⟩ := t
  obtain ⟨s21, t⟩ := t
  obtain ⟨p22, t⟩ := t
  obtain ⟨p23, t⟩ := t
  obtain ⟨r24, t⟩ := t
  obtain ⟨p25, t⟩ := t
  obtain ⟨p26, t⟩ := t
  obtain ⟨p27, t⟩ := t
  refine i5 c_49_85 rfl (i5 c_49_86 rfl (i3 c_49_87 rfl ?_))
  refine i80 (As := [.ref x1, .int (wI x2)]) (rest := []) c_49_88 mi_50 rfl rfl (Nat.le_of_ble_eq_true rfl) (Nat.le_of_ble_eq_true rfl) (lo (c := 63) (kd := 103) (n := 0) rfl (by decide)) (q_50 (T := T19) (n := n20) (s := s21) hx1 p22 p23 r24 p25 p26 p27 (fun σ128 q29 q30 q31 => ?_))
  have t := t σ128 q29 q30 q31
  show wi (d + 26) 49 91 [.ref 63, .ref x1, .int (wI x2), .int (wI x3), y4] [] S σ128 τ Q
  obtain ⟨p32, t⟩ := t
  obtain ⟨p33, t⟩ := t
  refine i5 c_49_91 rfl (i3 c_49_92 rfl (i1 c_49_93 ?_))
  refine i80 (As := [.int (wI x3), .int (wI 0)]) (rest := []) c_49_94 mi_84 rfl rfl (Nat.le_of_ble_eq_true rfl) (Nat.le_of_ble_eq_true rfl) (fun _ => oT_0 hx1) (q_84 hx1 p32 p33 (fun σ134 q35 q36 q37 => ?_))
  have t := t σ134 q35 q36 q37
  show wi (d + 26) 49 97 [.ref 63, .ref x1, .int (wI x2), .int (wI x3), y4] [] S σ134 τ Q
  refine i1 c_49_97 (i6 (L' := [.ref 63, .ref x1, .int (wI x2), .int (wI x3), .int (wI 0)]) c_49_98 rfl t)
set_option maxRecDepth 20000 in
theorem u_49_100 {d : Nat} {S : zS} {σ τ : zI} {Q : zQ} {x1 : Nat} {x2 : Int} {x3 : Int} {x4 : Int} (hx1 : oT S x1) (t : (rg x4) ∧ (rg x2) ∧ if x2 ≤ x4 then (Q none S σ τ) else ((0 ≤ σ x1 2 ∧ σ x1 2 ≤ 300) ∧ (rg (16 * 10000 + 0)) ∧ ∀ (σ16 : zI), CJ x1 σ σ16 → σ16 63 = σ 63 → (σ x1 2 < 300 → σ16 x1 2 = σ x1 2 + 1 ∧ σ16 (x1 + 3) = u1 (σ (x1 + 3)) (σ x1 2) (16 * 10000 + 0)) → wi (d + 26) 49 100 [.ref 63, .ref x1, .int (wI x2), .int (wI x3), .int (wI (x4 + 1))] [] S σ16 τ Q)) : wi (d + 26) 49 100 [.ref 63, .ref x1, .int (wI x2), .int (wI x3), .int (wI x4)] [] S σ τ Q := by
  obtain ⟨r1, t⟩ := t
  obtain ⟨r2, t⟩ := t
  refine i3 c_49_100 rfl (i3 c_49_102 rfl ?_)
  refine i37 c_49_103 r1 r2 rfl (fun hc => ?_) (fun hc => ?_)
  · have t := iT t hc
    have ha3 : x2 ≤ x4 := hc
    exact i94 c_49_119 t
  · have t := iF t hc
    have ha3 : ¬ (x2 ≤ x4) := hc
    obtain ⟨p4, t⟩ := t
    obtain ⟨p5, t⟩ := t
    refine i5 c_49_106 rfl (i1 c_49_107 (i1 c_49_109 ?_))
    refine i80 (As := [.int (wI 16), .int (wI 0)]) (rest := []) c_49_110 mi_84 rfl rfl (Nat.le_of_ble_eq_true rfl) (Nat.le_of_ble_eq_true rfl) (fun _ => oT_0 hx1) (q_84 hx1 p4 p5 (fun σ16 q7 q8 q9 => ?_))
    have t := t σ16 q7 q8 q9
    show wi (d + 26) 49 113 [.ref 63, .ref x1, .int (wI x2), .int (wI x3), .int (wI x4)] [] S σ16 τ Q
    refine i9 (L' := [.ref 63, .ref x1, .int (wI x2), .int (wI x3), .int (wI (x4 + 1))]) c_49_113 rfl rfl (i38 c_49_116 rfl t)
section CAK
variable {S : zS} {T : Int → Int} {n : Int}
theorem askK_1 {k : Nat} {c s : Int} {A : RR} (hA : A = sumO T n (oneK T n k) s) (e : A.1 ≠ 0) : askK T n k c s = (A.1, A.2.1, []) := by
  subst hA
  exact if_pos e
theorem askK_2 {k : Nat} {c s : Int} {A : RR} (hA : A = sumO T n (oneK T n k) s) (e : A.1 = 0) (c1 : ¬ (23 ≤ tk T n A.2.1 ∧ tk T n A.2.1 ≤ 28)) : askK T n k c s = (1, A.2.1, []) := by
  subst hA
  unfold askK
  rw [if_neg (fun z => z e), if_neg c1]
theorem askK_3 {k : Nat} {c s : Int} {A B : RR} (hA : A = sumO T n (oneK T n k) s) (e : A.1 = 0) (c1 : 23 ≤ tk T n A.2.1 ∧ tk T n A.2.1 ≤ 28) (hB : B = sumO T n (oneK T n k) (nx T n A.2.1)) (f : B.1 ≠ 0) : askK T n k c s = (B.1, B.2.1, []) := by
  subst hB
  subst hA
  unfold askK
  rw [if_neg (fun z => z e), if_pos c1, if_pos f]
theorem askK_4 {k : Nat} {c s : Int} {A B : RR} (hA : A = sumO T n (oneK T n k) s) (e : A.1 = 0) (c1 : 23 ≤ tk T n A.2.1 ∧ tk T n A.2.1 ≤ 28) (hB : B = sumO T n (oneK T n k) (nx T n A.2.1)) (f : B.1 = 0) : askK T n k c s = (0, B.2.1, A.2.2 ++ B.2.2 ++ [(tk T n A.2.1 - 13, 0)] ++ List.replicate c.toNat (20, 0)) := by
  subst hB
  subst hA
  unfold askK
  rw [if_neg (fun z => z e), if_pos c1, if_neg (fun z => z f)]
theorem notO_y {k : Nat} {s c : Int} (h : tk T n s = 16) : notO T n (k + 1) s c = notO T n k (nx T n s) (c + 1) := if_pos h
theorem notO_n {k : Nat} {s c : Int} (h : tk T n s ≠ 16) : notO T n k s c = (0, s, c) := by
  cases k <;> exact if_neg h
theorem notO_z {s c : Int} (h : tk T n s = 16) : notO T n 0 s c = (3, s, c) := if_pos h
theorem CO_k {x : Nat} {R : RR} {σ0 σ σ1 : zI} (cj : CJ x σ0 σ) (cw : CW x σ0 σ []) (co : CO x T n R σ σ1) : CO x T n R σ0 σ1 := ⟨CJ_t cj co.1, fun e => ⟨(co.2.1 e).1, by have := CW_t cw (co.2.1 e).2; rw [List.nil_append] at this; exact this⟩, co.2.2⟩
theorem stE_w {t : Int} (h : 23 ≤ t ∧ t ≤ 28) : t * 10000 + 0 = stE (t - 13) 0 := by
  have : t = 23 ∨ t = 24 ∨ t = 25 ∨ t = 26 ∨ t = 27 ∨ t = 28 := by omega
  rcases this with rfl | rfl | rfl | rfl | rfl | rfl <;> decide
/-- NOTS written -/
theorem a_100 {d x : Nat} {x3 : Int} {τ : zI} {Q : zQ} (hx : oT S x) : ∀ (m : Nat) (x2 x4 : Int) (σ : zI), x4 + m = x2 → 0 ≤ x4 → x2 ≤ 9 → 0 ≤ σ x 2 ∧ σ x 2 ≤ 300 → (∀ σ1, CJ x σ σ1 → σ1 63 = σ 63 → (σ x 2 + m ≤ 300 → CW x σ σ1 (List.replicate m (20, 0))) → Q none S σ1 τ) → wi (d + 26) 49 100 [.ref 63, .ref x, .int (wI x2), .int (wI x3), .int (wI x4)] [] S σ τ Q
  | 0, x2, x4, σ, hm, h4, h2, hb, K => u_49_100 hx ⟨by omega, by omega, ifI (fun _ => K σ CJ_0 rfl (fun _ => CW_0)) (fun z => by omega)⟩
  | m + 1, x2, x4, σ, hm, h4, h2, hb, K => u_49_100 hx ⟨by omega, by omega, ifI (fun z => by omega) (fun _ => ⟨hb, by omega, fun σ1 cj e w => a_100 hx m x2 (x4 + 1) σ1 (by omega) (by omega) h2 (cj.2.2.2 hb) (fun σ2 cj2 e2 w2 => K σ2 (CJ_t cj cj2) (e2.trans e) (fun h => by
      have w1 := w (by omega)
      have c1 := CW_1 (x := x) (σ := σ) (σ1 := σ1) (y := (20, 0)) w1 (by decide)
      have c2 := CW_t c1 (w2 (by omega))
      exact c2))⟩)⟩
/-- behind a sign that is none of the compares -/
theorem g_75 {d x : Nat} {x2 x3 s : Int} {y : Value} {σ τ : zI} {Q : zQ} (hT : TB T n) (hx : oT S x) (pc : CR T n s σ ∨ CFS σ) (hb : 0 ≤ σ x 2 ∧ σ x 2 ≤ 300) (h2 : 0 ≤ x2 ∧ x2 ≤ 9) (h3 : 0 ≤ x3 ∧ x3 ≤ 100) (K : ∀ σ1, CJ x σ σ1 → (CFS σ → σ1 63 = σ 63) → (CR T n s σ → CD 1 s σ1) → Q none S σ1 τ) : wi (d + 26) 49 75 [.ref 63, .ref x, .int (wI x2), .int (wI x3), y] [] S σ τ Q := by
  have xb := oT_b hx
  refine u_49_75 hx ⟨T, n, s, pc, hT, fun σ1 ck f1 cd => ?_⟩
  have cj1 := CJ_k (x := x) (by omega) ck
  have fl : CFS σ1 := by
    rcases pc with cr | fl
    · exact CD_F (cd cr) (by decide)
    · rw [f1 fl]; exact fl
  have hb1 := cj1.2.2.2 hb
  refine ⟨fun _ => 0, 0, 0, Or.inr fl, fun z => absurd z (cr_no fl), by omega, TB_0, fun σ2 xp => ?_⟩
  rw [xp.2.1 fl]
  refine ⟨fun _ => 0, 0, 0, Or.inr fl, TB_0, by omega, fun z => absurd z (cr_no fl), hb1, fun z => absurd z (cr_no fl), fun σ3 _ f3 _ => ?_⟩
  rw [f3 fl]
  exact ⟨hb1, by omega, fun σ4 cj4 e4 _ => a_100 hx x2.toNat x2 0 σ4 (by omega) (by omega) (by omega) (cj4.2.2.2 hb1) (fun σ5 cj5 e5 _ => K σ5 (CJ_t (CJ_t cj1 cj4) cj5) (fun z => by rw [e5, e4, f1 z]) (fun cr => CD_e (cd cr) (e5.trans e4)))⟩
theorem f_52 {d x : Nat} {x2 x3 : Int} {y : Value} {σ τ : zI} {Q : zQ} (hx : oT S x) (fl : CFS σ) (hb : 0 ≤ σ x 2 ∧ σ x 2 ≤ 300) (h2 : 0 ≤ x2 ∧ x2 ≤ 9) (K : ∀ σ1, CJ x σ σ1 → σ1 63 = σ 63 → Q none S σ1 τ) : wi (d + 26) 49 52 [.ref 63, .ref x, .int (wI x2), .int (wI x3), y] [] S σ τ Q := by
  have fb := fl.2
  refine u_49_52 hx ⟨fun _ => 0, 0, 0, Or.inr fl, TB_0, by omega, fun z => absurd z (cr_no fl), hb, fun z => absurd z (cr_no fl), fun σ1 _ f1 _ => ?_⟩
  rw [f1 fl]
  have g : wi (d + 26) 49 75 [.ref 63, .ref x, .int (wI x2), .int (wI (σ 63 4)), y] [] S σ τ Q := g_75 (s := 0) TB_0 hx (Or.inr fl) hb h2 (by omega) (fun σ2 cj e _ => K σ2 cj (e fl))
  refine ifI (fun _ => g) (fun _ => ifI (fun _ => ⟨fun _ => 0, 0, 0, Or.inr fl, fun z => absurd z (cr_no fl), TB_0, fun σ2 xp => ?_⟩) (fun _ => g))
  rw [xp.2.1 fl]
  refine ⟨fun _ => 0, 0, 0, Or.inr fl, TB_0, fun z => absurd z (cr_no fl), hb, fun z => absurd z (cr_no fl), fun σ3 _ f3 _ => ?_⟩
  rw [f3 fl]
  exact ⟨hb, by omega, fun σ4 cj4 e4 _ => a_100 hx x2.toNat x2 0 σ4 (by omega) (by omega) (by omega) (cj4.2.2.2 hb) (fun σ5 cj5 e5 _ => K σ5 (CJ_t cj4 cj5) (e5.trans e4))⟩
theorem c_52 {d x : Nat} {c s x3 : Int} {y : Value} {σ τ : zI} {Q : zQ} (hT : TB T n) (hx : oT S x) (hc : 0 ≤ c ∧ c ≤ 8) (cr : CR T n s σ) (hb : 0 ≤ σ x 2) (hl : σ x 2 + c ≤ s) (K : ∀ σ1, CO x T n (askK T n (8 - c).toNat c s) σ σ1 → Q none S σ1 τ) : wi (d + 26) 49 52 [.ref 63, .ref x, .int (wI c), .int (wI x3), y] [] S σ τ Q := by
  have xb := oT_b hx
  have n3 := hT.1.2
  have sb := CR_s cr hT.1.1
  refine u_49_52 hx ⟨T, n, s, Or.inl cr, hT, by omega, fun _ => hc, by omega, fun _ => by omega, fun σ1 cj1 _ co => ?_⟩
  replace co := co cr
  have rok := oneK_ok (T := T) n3 (8 - c).toNat (by omega)
  have so := sumO_ok (T := T) n3 rok (s := s) (by omega) (by omega)
  obtain ⟨A, hA⟩ : ∃ A, A = sumO T n (oneK T n (8 - c).toNat) s := ⟨_, rfl⟩
  rw [← hA] at co so
  have hb1 := cj1.2.2.2 (by omega)
  by_cases e : A.1 = 0
  · obtain ⟨cr1, cw1⟩ := co.2.1 e
    have so1 := so.1 e
    have c41 := (CR_b cr1).2.2.1
    have b1 := cw1.1
    by_cases c23 : 23 ≤ tk T n A.2.1 ∧ tk T n A.2.1 ≤ 28
    · have sn := tk_n (T := T) (n := n) (s := A.2.1) (by omega)
      have nb := nx_b (T := T) sn
      refine ifI (fun z => by omega) (fun _ => ifI (fun _ => ⟨T, n, _, Or.inl cr1, fun _ => by omega, hT, fun σ2 xp => ?_⟩) (fun z => by omega))
      have cr2 := (xp.2.2 cr1).1 c41.symm
      have cj2 := CJ_t cj1 (CJ_k (x := x) (by omega) xp.1)
      have cw2 := CW_t cw1 (CW_k (x := x) (by omega) xp.1)
      rw [List.append_nil] at cw2
      have b2 := cw2.1
      refine ⟨T, n, _, Or.inl cr2, hT, fun _ => hc, by omega, fun _ => by omega, fun σ3 cj3 _ co3 => ?_⟩
      replace co3 := co3 cr2
      have so3 := sumO_ok (T := T) n3 rok (s := nx T n A.2.1) (by omega) (by omega)
      obtain ⟨B, hB⟩ : ∃ B, B = sumO T n (oneK T n (8 - c).toNat) (nx T n A.2.1) := ⟨_, rfl⟩
      rw [← hB] at co3 so3
      have cj3' := CJ_t cj2 cj3
      have hb3 := cj3'.2.2.2 (by omega)
      refine ⟨hb3, by omega, fun σ4 cj4 e4 w4 => a_100 hx c.toNat c 0 σ4 (by omega) (by omega) (by omega) (cj4.2.2.2 hb3) (fun σ5 cj5 e5 w5 => K σ5 ?_)⟩
      have cj5' := CJ_t (CJ_t cj3' cj4) cj5
      by_cases f : B.1 = 0
      · obtain ⟨cr3, cw3⟩ := co3.2.1 f
        have so3' := so3.1 f
        have cw3' := CW_t cw2 cw3
        have b3 := cw3'.1
        have l3 := len_a A.2.2 B.2.2
        have cw4 := CW_t cw3' (CW_1 (y := (tk T n A.2.1 - 13, 0)) (w4 (by omega)) (by rw [c41]; exact stE_w c23))
        have b4 := cw4.1
        have l4 := len_a (A.2.2 ++ B.2.2) [(tk T n A.2.1 - 13, 0)]
        have l1 := len_1 (tk T n A.2.1 - 13, 0)
        have cw5 := CW_t cw4 (w5 (by omega))
        exact CO_ok (askK_4 hA e c23 hB f) cj5' (CR_j (by omega) (CR_j (by omega) cr3 cj4 e4 (by omega)) cj5 e5 (by omega)) cw5
      · exact CO_er (askK_3 hA e c23 hB f) f cj5' (CD_e (co3.2.2 f) (e5.trans e4))
    · have tkb := (rk_tk (s := A.2.1) hT (by omega)).2.2.2.2.2.1
      have g : wi (d + 26) 49 75 [.ref 63, .ref x, .int (wI c), .int (wI (σ1 63 4)), y] [] S σ1 τ Q := g_75 hT hx (Or.inl cr1) hb1 (by omega) (by omega) (fun σ2 cj _ cd => K σ2 (CO_er (askK_2 hA e c23) (by decide) (CJ_t cj1 cj) (cd cr1)))
      exact ifI (fun _ => g) (fun _ => ifI (fun z => by omega) (fun _ => g))
  · have cd := co.2.2 e
    have fl := CD_F cd e
    have fb := fl.2
    have fin : ∀ σ2, CJ x σ1 σ2 → σ2 63 = σ1 63 → Q none S σ2 τ := fun σ2 cj e2 => K σ2 (CO_er (askK_1 hA e) e (CJ_t cj1 cj) (CD_e cd e2))
    have g : wi (d + 26) 49 75 [.ref 63, .ref x, .int (wI c), .int (wI (σ1 63 4)), y] [] S σ1 τ Q := g_75 (s := 0) TB_0 hx (Or.inr fl) hb1 (by omega) (by omega) (fun σ2 cj e _ => fin σ2 cj (e fl))
    refine ifI (fun _ => g) (fun _ => ifI (fun _ => ⟨fun _ => 0, 0, 0, Or.inr fl, fun z => absurd z (cr_no fl), TB_0, fun σ2 xp => ?_⟩) (fun _ => g))
    rw [xp.2.1 fl]
    refine ⟨fun _ => 0, 0, 0, Or.inr fl, TB_0, fun z => absurd z (cr_no fl), hb1, fun z => absurd z (cr_no fl), fun σ3 _ f3 _ => ?_⟩
    rw [f3 fl]
    exact ⟨hb1, by omega, fun σ4 cj4 e4 _ => a_100 hx c.toNat c 0 σ4 (by omega) (by omega) (by omega) (cj4.2.2.2 hb1) (fun σ5 cj5 e5 _ => fin σ5 (CJ_t cj4 cj5) (e5.trans e4))⟩
theorem c_4 {d x : Nat} {σ0 τ : zI} {Q : zQ} (hT : TB T n) (hx : oT S x) (h0 : 0 ≤ σ0 x 2) : ∀ (k : Nat) (c s : Int) (y : Value) (σ : zI), c + k = 8 → 0 ≤ c → CR T n s σ → CJ x σ0 σ → CW x σ0 σ [] → σ0 x 2 + c ≤ s → (∀ σ1, CO x T n (if (notO T n k s c).1 ≠ 0 then ((notO T n k s c).1, (notO T n k s c).2.1, []) else askK T n (8 - (notO T n k s c).2.2).toNat (notO T n k s c).2.2 (notO T n k s c).2.1) σ0 σ1 → Q none S σ1 τ) → wi (d + 26) 49 4 [.ref 63, .ref x, .int (wI c), .int (wI c), y] [] S σ τ Q
  | k, c, s, y, σ, hk, hc, cr, cj, cw, hl, K => by
    have xb := oT_b hx
    have n3 := hT.1.2
    have sb := CR_s cr hT.1.1
    have cb := CR_b cr
    have c4 := cb.2.2.1
    have c5 := cb.2.2.2.1
    have b0 := cw.1
    have l0 : (([] : List (Int × Int)).length : Int) = 0 := rfl
    refine u_49_4 hx ⟨by omega, ifI (fun z => by omega) (fun _ => ?_)⟩
    rw [if_pos c5]
    by_cases t16 : tk T n s = 16
    · refine ifI (fun _ => ⟨by omega, ?_⟩) (fun z => by omega)
      cases k with
      | zero =>
        rw [notO_z t16, if_pos (show (3 : Int) ≠ 0 by decide)] at K
        refine ifI (fun _ => ⟨T, n, s, Or.inl cr, hT, fun σ1 ck _ cd => ?_⟩) (fun z => by omega)
        have cd1 := cd cr
        have fl := CD_F cd1 (by decide)
        have cj1 := CJ_t cj (CJ_k (x := x) (by omega) ck)
        refine ⟨fun _ => 0, 0, 0, Or.inr fl, fun z => absurd z (cr_no fl), TB_0, fun σ2 xp => ?_⟩
        rw [xp.2.1 fl]
        refine u_49_4 hx ⟨by omega, ifI (fun _ => ?_) (fun z => by omega)⟩
        exact f_52 hx fl (cj1.2.2.2 (by omega)) (by omega) (fun σ3 cj3 e3 => K σ3 (CO_er (r := 3) rfl (by decide) (CJ_t cj1 cj3) (CD_e cd1 e3)))
      | succ k =>
        have sn := tk_n (T := T) (n := n) (s := s) (by omega)
        have nb := nx_b (T := T) sn
        rw [notO_y t16] at K
        refine ifI (fun z => by omega) (fun _ => ⟨T, n, s, Or.inl cr, fun _ => by decide, hT, fun σ1 xp => ?_⟩)
        have cw1 := CW_t cw (CW_k (x := x) (by omega) xp.1)
        rw [List.append_nil] at cw1
        exact c_4 hT hx h0 k (c + 1) _ y σ1 (by omega) (by omega) ((xp.2.2 cr).1 t16) (CJ_t cj (CJ_k (x := x) (by omega) xp.1)) cw1 (by omega) K
    · rw [notO_n t16, if_neg (show ¬ ((0 : Int) ≠ 0) by decide)] at K
      refine ifI (fun z => by omega) (fun _ => c_52 hT hx (by omega) cr (by omega) (by omega) (fun σ1 co => K σ1 (CO_k cj cw co)))
end CAK
theorem q_49 {d : Nat} {S : zS} {σ τ : zI} {Q : zQ} {x : Nat} {T : Int → Int} {n : Int} {s : Int} (hx : oT S x) (p0 : CR T n s σ) (p1 : TB T n) (p2 : 0 ≤ σ x 2 ∧ σ x 2 ≤ s) (t : ∀ (σ1 : zI), CO x T n (askO T n s) σ σ1 → Q none S σ1 τ) : wc (d + 26) 49 [.ref 63, .ref x] S σ τ Q := by
  exact wc_of mi_49 rfl (u_49_0 hx (c_4 p1 hx p2.1 8 0 s _ σ (by omega) (by omega) p0 CJ_0 CW_0 (by omega) (fun σ1 co => t σ1 co)))
