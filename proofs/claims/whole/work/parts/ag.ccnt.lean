/-! ===== the class reads: CLAUSES that count (segments printed by wip/whole, contracts own work) ===== -/
-- method 47: MillTown$Reader.readCounted(LMillTown$Text;)V
theorem c_47_0 : pg_cd 47 0 = (5, 1, 0, 0, 0) := by decide +kernel
theorem c_47_1 : pg_cd 47 1 = (43, 3, 46, 4, 0) := by decide +kernel
theorem c_47_4 : pg_cd 47 4 = (6, 1, 0, 2, 0) := by decide +kernel
theorem c_47_5 : pg_cd 47 5 = (5, 1, 0, 1, 0) := by decide +kernel
theorem c_47_6 : pg_cd 47 6 = (3, 1, 0, 2, 0) := by decide +kernel
theorem c_47_7 : pg_cd 47 7 = (80, 82, 104, 0, 0) := by decide +kernel
theorem c_47_10 : pg_cd 47 10 = (6, 1, 0, 3, 0) := by decide +kernel
theorem c_47_11 : pg_cd 47 11 = (5, 1, 0, 0, 0) := by decide +kernel
theorem c_47_12 : pg_cd 47 12 = (3, 1, 0, 2, 0) := by decide +kernel
theorem c_47_13 : pg_cd 47 13 = (80, 44, 101, 0, 0) := by decide +kernel
theorem c_47_16 : pg_cd 47 16 = (5, 1, 0, 1, 0) := by decide +kernel
theorem c_47_17 : pg_cd 47 17 = (45, 7, 53, 0, 0) := by decide +kernel
theorem c_47_20 : pg_cd 47 20 = (3, 1, 0, 3, 0) := by decide +kernel
theorem c_47_21 : pg_cd 47 21 = (1, 1, 0, 0, 5) := by decide +kernel
theorem c_47_22 : pg_cd 47 22 = (5, 1, 0, 1, 0) := by decide +kernel
theorem c_47_23 : pg_cd 47 23 = (43, 7, 115, 2, 0) := by decide +kernel
theorem c_47_26 : pg_cd 47 26 = (80, 56, 111, 0, 0) := by decide +kernel
theorem c_47_29 : pg_cd 47 29 = (3, 1, 0, 2, 0) := by decide +kernel
theorem c_47_30 : pg_cd 47 30 = (1, 1, 0, 0, 4) := by decide +kernel
theorem c_47_31 : pg_cd 47 31 = (37, 3, 0, 1, 22) := by decide +kernel
theorem c_47_34 : pg_cd 47 34 = (5, 1, 0, 1, 0) := by decide +kernel
theorem c_47_35 : pg_cd 47 35 = (45, 7, 53, 0, 0) := by decide +kernel
theorem c_47_38 : pg_cd 47 38 = (3, 1, 0, 3, 0) := by decide +kernel
theorem c_47_39 : pg_cd 47 39 = (1, 1, 0, 0, 1) := by decide +kernel
theorem c_47_40 : pg_cd 47 40 = (5, 1, 0, 0, 0) := by decide +kernel
theorem c_47_41 : pg_cd 47 41 = (1, 1, 0, 0, 0) := by decide +kernel
theorem c_47_42 : pg_cd 47 42 = (1, 2, 0, 0, 29) := by decide +kernel
theorem c_47_44 : pg_cd 47 44 = (80, 45, 108, 0, 0) := by decide +kernel
theorem c_47_47 : pg_cd 47 47 = (80, 56, 111, 0, 0) := by decide +kernel
theorem c_47_50 : pg_cd 47 50 = (38, 3, 0, 0, 13) := by decide +kernel
theorem c_47_53 : pg_cd 47 53 = (3, 1, 0, 2, 0) := by decide +kernel
theorem c_47_54 : pg_cd 47 54 = (1, 1, 0, 0, 5) := by decide +kernel
theorem c_47_55 : pg_cd 47 55 = (37, 3, 0, 1, 8) := by decide +kernel
theorem c_47_58 : pg_cd 47 58 = (5, 1, 0, 0, 0) := by decide +kernel
theorem c_47_59 : pg_cd 47 59 = (5, 1, 0, 1, 0) := by decide +kernel
theorem c_47_60 : pg_cd 47 60 = (80, 48, 117, 0, 0) := by decide +kernel
theorem c_47_63 : pg_cd 47 63 = (3, 1, 0, 2, 0) := by decide +kernel
theorem c_47_64 : pg_cd 47 64 = (1, 1, 0, 0, 3) := by decide +kernel
theorem c_47_65 : pg_cd 47 65 = (37, 3, 0, 0, 16) := by decide +kernel
theorem c_47_68 : pg_cd 47 68 = (5, 1, 0, 0, 0) := by decide +kernel
theorem c_47_69 : pg_cd 47 69 = (43, 3, 46, 4, 0) := by decide +kernel
theorem c_47_72 : pg_cd 47 72 = (1, 2, 0, 0, 11) := by decide +kernel
theorem c_47_74 : pg_cd 47 74 = (37, 3, 0, 1, 7) := by decide +kernel
theorem c_47_77 : pg_cd 47 77 = (1, 1, 0, 0, 1) := by decide +kernel
theorem c_47_78 : pg_cd 47 78 = (38, 3, 0, 0, 4) := by decide +kernel
theorem c_47_81 : pg_cd 47 81 = (1, 1, 0, 0, 0) := by decide +kernel
theorem c_47_82 : pg_cd 47 82 = (6, 2, 0, 4, 0) := by decide +kernel
theorem c_47_84 : pg_cd 47 84 = (5, 1, 0, 1, 0) := by decide +kernel
theorem c_47_85 : pg_cd 47 85 = (45, 7, 53, 0, 0) := by decide +kernel
theorem c_47_88 : pg_cd 47 88 = (3, 1, 0, 3, 0) := by decide +kernel
theorem c_47_89 : pg_cd 47 89 = (1, 1, 0, 0, 4) := by decide +kernel
theorem c_47_90 : pg_cd 47 90 = (3, 2, 0, 4, 0) := by decide +kernel
theorem c_47_92 : pg_cd 47 92 = (36, 3, 0, 0, 8) := by decide +kernel
theorem c_47_95 : pg_cd 47 95 = (1, 2, 0, 0, 30) := by decide +kernel
theorem c_47_97 : pg_cd 47 97 = (38, 3, 0, 0, 5) := by decide +kernel
theorem c_47_100 : pg_cd 47 100 = (1, 2, 0, 0, 29) := by decide +kernel
theorem c_47_102 : pg_cd 47 102 = (80, 56, 111, 0, 0) := by decide +kernel
theorem c_47_105 : pg_cd 47 105 = (3, 1, 0, 2, 0) := by decide +kernel
theorem c_47_106 : pg_cd 47 106 = (1, 1, 0, 0, 3) := by decide +kernel
theorem c_47_107 : pg_cd 47 107 = (37, 3, 0, 0, 19) := by decide +kernel
theorem c_47_110 : pg_cd 47 110 = (5, 1, 0, 0, 0) := by decide +kernel
theorem c_47_111 : pg_cd 47 111 = (3, 2, 0, 4, 0) := by decide +kernel
theorem c_47_113 : pg_cd 47 113 = (36, 3, 0, 0, 8) := by decide +kernel
theorem c_47_116 : pg_cd 47 116 = (1, 2, 0, 0, 11) := by decide +kernel
theorem c_47_118 : pg_cd 47 118 = (38, 3, 0, 0, 5) := by decide +kernel
theorem c_47_121 : pg_cd 47 121 = (1, 2, 0, 0, 10) := by decide +kernel
theorem c_47_123 : pg_cd 47 123 = (80, 44, 101, 0, 0) := by decide +kernel
theorem c_47_126 : pg_cd 47 126 = (5, 1, 0, 1, 0) := by decide +kernel
theorem c_47_127 : pg_cd 47 127 = (45, 7, 53, 0, 0) := by decide +kernel
theorem c_47_130 : pg_cd 47 130 = (3, 1, 0, 3, 0) := by decide +kernel
theorem c_47_131 : pg_cd 47 131 = (1, 2, 0, 0, 6) := by decide +kernel
theorem c_47_133 : pg_cd 47 133 = (5, 1, 0, 1, 0) := by decide +kernel
theorem c_47_134 : pg_cd 47 134 = (43, 7, 115, 2, 0) := by decide +kernel
theorem c_47_137 : pg_cd 47 137 = (80, 56, 111, 0, 0) := by decide +kernel
theorem c_47_140 : pg_cd 47 140 = (5, 1, 0, 0, 0) := by decide +kernel
theorem c_47_141 : pg_cd 47 141 = (5, 1, 0, 1, 0) := by decide +kernel
theorem c_47_142 : pg_cd 47 142 = (1, 1, 0, 0, 0) := by decide +kernel
theorem c_47_143 : pg_cd 47 143 = (80, 50, 120, 0, 0) := by decide +kernel
theorem c_47_146 : pg_cd 47 146 = (5, 1, 0, 1, 0) := by decide +kernel
theorem c_47_147 : pg_cd 47 147 = (45, 7, 53, 0, 0) := by decide +kernel
theorem c_47_150 : pg_cd 47 150 = (3, 1, 0, 3, 0) := by decide +kernel
theorem c_47_151 : pg_cd 47 151 = (1, 2, 0, 0, 7) := by decide +kernel
theorem c_47_153 : pg_cd 47 153 = (5, 1, 0, 1, 0) := by decide +kernel
theorem c_47_154 : pg_cd 47 154 = (43, 7, 115, 2, 0) := by decide +kernel
theorem c_47_157 : pg_cd 47 157 = (80, 56, 111, 0, 0) := by decide +kernel
theorem c_47_160 : pg_cd 47 160 = (5, 1, 0, 0, 0) := by decide +kernel
theorem c_47_161 : pg_cd 47 161 = (1, 2, 0, 0, 36) := by decide +kernel
theorem c_47_163 : pg_cd 47 163 = (80, 44, 101, 0, 0) := by decide +kernel
theorem c_47_166 : pg_cd 47 166 = (94, 0, 0, 0, 0) := by decide +kernel
theorem mi_47 : pg_mc 47 = 3 ∧ pg_na 47 = 1 ∧ pg_mx 47 = 5 := by decide +kernel
set_option maxRecDepth 20000 in
theorem u_47_0 {d : Nat} {S : zS} {σ τ : zI} {Q : zQ} {x1 : Nat} (hx1 : oT S x1) (t : (oW S σ (x1 + 1) 8 192) ∧ (0 ≤ σ (x1 + 1) 2 ∧ σ (x1 + 1) 2 < 24) ∧ (3 ≤ (σ 63 4) ∧ (σ 63 4) ≤ 9) ∧ ∀ (σ15 : zI), OPN x1 (σ 63 4) σ σ15 → ∃ T7 : Int → Int, ∃ n8 : Int, ∃ s9 : Int, (CR T7 n8 s9 σ15 ∨ CFS σ15) ∧ (CR T7 n8 s9 σ15 → (1 : Int) ≠ (σ 63 4)) ∧ (TB T7 n8) ∧ ∀ (σ113 : zI), XP T7 n8 s9 (σ 63 4) σ15 σ113 → (oW S σ113 (x1 + 1) 8 192) ∧ (rg (σ (x1 + 1) 2)) ∧ (0 ≤ σ (x1 + 1) 2 ∧ σ (x1 + 1) 2 < (σ113 (x1 + 1) 2)) ∧ if (σ 63 4) = 4 then (∃ T29 : Int → Int, ∃ n30 : Int, ∃ s31 : Int, (CR T29 n30 s31 (uc σ113 (x1 + 2) (u1 (σ113 (x1 + 2)) ((σ (x1 + 1) 2) * 8 + 5) (σ113 x1 2))) ∨ CFS (uc σ113 (x1 + 2) (u1 (σ113 (x1 + 2)) ((σ (x1 + 1) 2) * 8 + 5) (σ113 x1 2)))) ∧ (TB T29 n30) ∧ (CR T29 n30 s31 (uc σ113 (x1 + 2) (u1 (σ113 (x1 + 2)) ((σ (x1 + 1) 2) * 8 + 5) (σ113 x1 2))) → (0 : Int) ≤ 0 ∧ 29 ≤ (9999 : Int)) ∧ ∀ (v35 : Int) (σ136 : zI), rg v35 → CK (uc σ113 (x1 + 2) (u1 (σ113 (x1 + 2)) ((σ (x1 + 1) 2) * 8 + 5) (σ113 x1 2))) σ136 → (CFS (uc σ113 (x1 + 2) (u1 (σ113 (x1 + 2)) ((σ (x1 + 1) 2) * 8 + 5) (σ113 x1 2))) → σ136 = (uc σ113 (x1 + 2) (u1 (σ113 (x1 + 2)) ((σ (x1 + 1) 2) * 8 + 5) (σ113 x1 2)))) → (CR T29 n30 s31 (uc σ113 (x1 + 2) (u1 (σ113 (x1 + 2)) ((σ (x1 + 1) 2) * 8 + 5) (σ113 x1 2))) → ((numO T29 n30 0 29 0 s31).1 = 0 → CR T29 n30 (nx T29 n30 s31) σ136 ∧ v35 = nm T29 n30 s31) ∧ ((numO T29 n30 0 29 0 s31).1 ≠ 0 → CD (numO T29 n30 0 29 0 s31).1 (numO T29 n30 0 29 0 s31).2.1 σ136)) → (oW S σ136 (x1 + 1) 8 192) ∧ (0 ≤ σ (x1 + 1) 2 ∧ σ (x1 + 1) 2 < (σ136 (x1 + 1) 2)) ∧ ∃ w43 : Int, wI w43 = wI v35 ∧ rg w43 ∧ wi (d + 28) 47 63 [.ref 63, .ref x1, .int (wI (σ 63 4)), .int (wI (σ (x1 + 1) 2)), .retAddr 0] [] S (uc σ136 (x1 + 2) (u1 (σ136 (x1 + 2)) ((σ (x1 + 1) 2) * 8 + 1) w43)) τ Q) else (if (σ 63 4) = 5 then (∃ T21 : Int → Int, ∃ n22 : Int, ∃ s23 : Int, (CR T21 n22 s23 (uc σ113 (x1 + 2) (u1 (σ113 (x1 + 2)) ((σ (x1 + 1) 2) * 8 + 5) (σ113 x1 2)))) ∧ (TB T21 n22) ∧ (0 ≤ (uc σ113 (x1 + 2) (u1 (σ113 (x1 + 2)) ((σ (x1 + 1) 2) * 8 + 5) (σ113 x1 2))) x1 2 ∧ (uc σ113 (x1 + 2) (u1 (σ113 (x1 + 2)) ((σ (x1 + 1) 2) * 8 + 5) (σ113 x1 2))) x1 2 ≤ s23) ∧ ∀ (σ127 : zI), CO x1 T21 n22 (eitO T21 n22 301 s23 [] 0 0) (uc σ113 (x1 + 2) (u1 (σ113 (x1 + 2)) ((σ (x1 + 1) 2) * 8 + 5) (σ113 x1 2))) σ127 → wi (d + 28) 47 63 [.ref 63, .ref x1, .int (wI (σ 63 4)), .int (wI (σ (x1 + 1) 2)), .retAddr 0] [] S σ127 τ Q) else (wi (d + 28) 47 63 [.ref 63, .ref x1, .int (wI (σ 63 4)), .int (wI (σ (x1 + 1) 2)), .retAddr 0] [] S (uc σ113 (x1 + 2) (u1 (σ113 (x1 + 2)) ((σ (x1 + 1) 2) * 8 + 5) (σ113 x1 2))) τ Q))) : wi (d + 28) 47 0 [.ref 63, .ref x1, .retAddr 0, .retAddr 0, .retAddr 0] [] S σ τ Q := by
  refine i5 c_47_0 rfl (wi_ok (fun K1 => ?_))
  obtain ⟨p2, t⟩ := t
  obtain ⟨p3, t⟩ := t
  obtain ⟨p4, t⟩ := t
  refine i43 (v := σ 63 4) c_47_1 (lo (c := 63) (kd := 103) (n := 0) rfl (by decide)) rfl (i6 (L' := [.ref 63, .ref x1, .int (wI (σ 63 4)), .retAddr 0, .retAddr 0]) c_47_4 rfl (i5 c_47_5 rfl (i3 c_47_6 rfl ?_)))
  refine i80 (As := [.int (wI (σ 63 4))]) (rest := []) c_47_7 mi_82 rfl rfl (Nat.le_of_ble_eq_true rfl) (Nat.le_of_ble_eq_true rfl) (fun _ => oT_0 hx1) (q_82 hx1 p2 p3 p4 (fun σ15 q6 => ?_))
  have t := t σ15 q6
  show wi (d + 28) 47 10 [.ref 63, .ref x1, .int (wI (σ 63 4)), .retAddr 0, .retAddr 0] [.int (wI (σ (x1 + 1) 2))] S σ15 τ Q
  obtain ⟨T7, t⟩ := t
  obtain ⟨n8, t⟩ := t
  obtain ⟨s9, t⟩ := t
  obtain ⟨p10, t⟩ := t
  obtain ⟨p11, t⟩ := t
  obtain ⟨p12, t⟩ := t
  refine i6 (L' := [.ref 63, .ref x1, .int (wI (σ 63 4)), .int (wI (σ (x1 + 1) 2)), .retAddr 0]) c_47_10 rfl (i5 c_47_11 rfl (i3 c_47_12 rfl ?_))
  refine i80 (As := [.int (wI (σ 63 4))]) (rest := []) c_47_13 mi_44 rfl rfl (Nat.le_of_ble_eq_true rfl) (Nat.le_of_ble_eq_true rfl) (lo (c := 63) (kd := 103) (n := 0) rfl (by decide)) (q_44 (T := T7) (n := n8) (s := s9) p10 p11 (rge_ K1 rfl) p12 (fun σ113 q14 => ?_))
  have t := t σ113 q14
  show wi (d + 28) 47 16 [.ref 63, .ref x1, .int (wI (σ 63 4)), .int (wI (σ (x1 + 1) 2)), .retAddr 0] [] S σ113 τ Q
  refine i5 c_47_16 rfl (i45 c_47_17 (fun _ => oT_0 hx1) (fun _ => oT_r0 hx1) (i3 c_47_20 rfl (i1 c_47_21 (i5 c_47_22 rfl (wi_ok (fun K15 => ?_))))))
  obtain ⟨o16, t⟩ := t
  obtain ⟨r17, t⟩ := t
  obtain ⟨b18, t⟩ := t
  refine i43 (v := σ113 x1 2) c_47_23 (fun _ => oT_0 hx1) rfl ?_
  refine i80 (As := [.int (wI (σ (x1 + 1) 2)), .int (wI 5), .int (wI (σ113 x1 2))]) (rest := []) c_47_26 mi_56 rfl rfl (Nat.le_of_ble_eq_true rfl) (Nat.le_of_ble_eq_true rfl) (fun _ => oT_1 hx1) (q_put (v2 := σ113 x1 2) (fun _ => o16) r17 b18 (by decide) rfl (rge_ K15 rfl) ?_)
  show wi (d + 28) 47 29 [.ref 63, .ref x1, .int (wI (σ 63 4)), .int (wI (σ (x1 + 1) 2)), .retAddr 0] [] S (uc σ113 (x1 + 2) (u1 (σ113 (x1 + 2)) ((σ (x1 + 1) 2) * 8 + 5) (σ113 x1 2))) τ Q
  refine i3 c_47_29 rfl (i1 c_47_30 ?_)
  refine i37 c_47_31 (rge_ K1 rfl) (by decide) rfl (fun hc => ?_) (fun hc => ?_)
  · have t := iF t hc
    have ha19 : ¬ ((σ 63 4) = 4) := hc
    refine i3 c_47_53 rfl (i1 c_47_54 ?_)
    refine i37 c_47_55 (rge_ K1 rfl) (by decide) rfl (fun hc => ?_) (fun hc => ?_)
    · have t := iF t hc
      have ha20 : ¬ ((σ 63 4) = 5) := hc
      exact t
    · have t := iT t (Decidable.not_not.mp hc)
      have ha20 : (σ 63 4) = 5 := Decidable.not_not.mp hc
      obtain ⟨T21, t⟩ := t
      obtain ⟨n22, t⟩ := t
      obtain ⟨s23, t⟩ := t
      obtain ⟨p24, t⟩ := t
      obtain ⟨p25, t⟩ := t
      obtain ⟨p26, t⟩ := t
      refine i5 c_47_58 rfl (i5 c_47_59 rfl ?_)
      refine i80 (As := [.ref x1]) (rest := []) c_47_60 mi_48 rfl rfl (Nat.le_of_ble_eq_true rfl) (Nat.le_of_ble_eq_true rfl) (lo (c := 63) (kd := 103) (n := 0) rfl (by decide)) (q_48 (T := T21) (n := n22) (s := s23) hx1 p24 p25 p26 (fun σ127 q28 => ?_))
      have t := t σ127 q28
      show wi (d + 28) 47 63 [.ref 63, .ref x1, .int (wI (σ 63 4)), .int (wI (σ (x1 + 1) 2)), .retAddr 0] [] S σ127 τ Q
      exact t
  · have t := iT t (Decidable.not_not.mp hc)
    have ha19 : (σ 63 4) = 4 := Decidable.not_not.mp hc
    obtain ⟨T29, t⟩ := t
    obtain ⟨n30, t⟩ := t
    obtain ⟨s31, t⟩ := t
    obtain ⟨p32, t⟩ := t
    obtain ⟨p33, t⟩ := t
    obtain ⟨p34, t⟩ := t
    refine i5 c_47_34 rfl (i45 c_47_35 (fun _ => oT_0 hx1) (fun _ => oT_r0 hx1) (i3 c_47_38 rfl (i1 c_47_39 (i5 c_47_40 rfl (i1 c_47_41 (i1 c_47_42 ?_))))))
    refine i80 (As := [.int (wI 0), .int (wI 29)]) (rest := [.int (wI 1), .int (wI (σ (x1 + 1) 2)), .ref (x1 + 1)]) c_47_44 mi_45 rfl rfl (Nat.le_of_ble_eq_true rfl) (Nat.le_of_ble_eq_true rfl) (lo (c := 63) (kd := 103) (n := 0) rfl (by decide)) (q_45 (T := T29) (n := n30) (s := s31) p32 p33 (by decide) (by decide) p34 (fun v35 σ136 q37 q38 q39 q40 => ?_))
    have t := t v35 σ136 q37 q38 q39 q40
    show wi (d + 28) 47 47 [.ref 63, .ref x1, .int (wI (σ 63 4)), .int (wI (σ (x1 + 1) 2)), .retAddr 0] [.int (wI v35), .int (wI 1), .int (wI (σ (x1 + 1) 2)), .ref (x1 + 1)] S σ136 τ Q
    obtain ⟨o41, t⟩ := t
    obtain ⟨b42, t⟩ := t
    obtain ⟨w43, e44, r45, t⟩ := t
    refine i80 (As := [.int (wI (σ (x1 + 1) 2)), .int (wI 1), .int (wI v35)]) (rest := []) c_47_47 mi_56 rfl rfl (Nat.le_of_ble_eq_true rfl) (Nat.le_of_ble_eq_true rfl) (fun _ => oT_1 hx1) (q_put (v2 := w43) (fun _ => o41) r17 b42 (by decide) e44 r45 ?_)
    show wi (d + 28) 47 50 [.ref 63, .ref x1, .int (wI (σ 63 4)), .int (wI (σ (x1 + 1) 2)), .retAddr 0] [] S (uc σ136 (x1 + 2) (u1 (σ136 (x1 + 2)) ((σ (x1 + 1) 2) * 8 + 1) w43)) τ Q
    refine i38 c_47_50 rfl t
set_option maxRecDepth 20000 in
theorem u_47_63 {d : Nat} {S : zS} {σ τ : zI} {Q : zQ} {x1 : Nat} {x2 : Int} {x3 : Int} {y4 : Value} (hx1 : oT S x1) (t : (rg x2) ∧ if x2 = 3 then (wi (d + 28) 47 81 [.ref 63, .ref x1, .int (wI x2), .int (wI x3), y4] [] S σ τ Q) else (if (σ 63 4) = 11 then (wi (d + 28) 47 82 [.ref 63, .ref x1, .int (wI x2), .int (wI x3), y4] [.int (wI 1)] S σ τ Q) else (wi (d + 28) 47 81 [.ref 63, .ref x1, .int (wI x2), .int (wI x3), y4] [] S σ τ Q))) : wi (d + 28) 47 63 [.ref 63, .ref x1, .int (wI x2), .int (wI x3), y4] [] S σ τ Q := by
  obtain ⟨r1, t⟩ := t
  refine i3 c_47_63 rfl (i1 c_47_64 ?_)
  refine i37 c_47_65 r1 (by decide) rfl (fun hc => ?_) (fun hc => ?_)
  · have t := iT t hc
    have ha2 : x2 = 3 := hc
    exact t
  · have t := iF t hc
    have ha2 : ¬ (x2 = 3) := hc
    refine i5 c_47_68 rfl (wi_ok (fun K3 => ?_))
    refine i43 (v := σ 63 4) c_47_69 (lo (c := 63) (kd := 103) (n := 0) rfl (by decide)) rfl (i1 c_47_72 ?_)
    refine i37 c_47_74 (rge_ K3 rfl) (by decide) rfl (fun hc => ?_) (fun hc => ?_)
    · have t := iF t hc
      have ha4 : ¬ ((σ 63 4) = 11) := hc
      exact t
    · have t := iT t (Decidable.not_not.mp hc)
      have ha4 : (σ 63 4) = 11 := Decidable.not_not.mp hc
      refine i1 c_47_77 (i38 c_47_78 rfl t)
set_option maxRecDepth 20000 in
theorem u_47_81 {d : Nat} {S : zS} {σ τ : zI} {Q : zQ} {x1 : Nat} {x2 : Int} {x3 : Int} {y4 : Value} (hx1 : oT S x1) (t : wi (d + 28) 47 82 [.ref 63, .ref x1, .int (wI x2), .int (wI x3), y4] [.int (wI 0)] S σ τ Q) : wi (d + 28) 47 81 [.ref 63, .ref x1, .int (wI x2), .int (wI x3), y4] [] S σ τ Q := by
  refine i1 c_47_81 t
set_option maxRecDepth 20000 in
theorem u_47_82 {d : Nat} {S : zS} {σ τ : zI} {Q : zQ} {x1 : Nat} {x2 : Int} {x3 : Int} {y4 : Value} {s0 : Int} (hx1 : oT S x1) (t : (rg s0) ∧ if s0 = 0 then (wi (d + 28) 47 102 [.ref 63, .ref x1, .int (wI x2), .int (wI x3), .int (wI s0)] [.int (wI 29), .int (wI 4), .int (wI x3), .ref (x1 + 1)] S σ τ Q) else (wi (d + 28) 47 102 [.ref 63, .ref x1, .int (wI x2), .int (wI x3), .int (wI s0)] [.int (wI 30), .int (wI 4), .int (wI x3), .ref (x1 + 1)] S σ τ Q)) : wi (d + 28) 47 82 [.ref 63, .ref x1, .int (wI x2), .int (wI x3), y4] [.int (wI s0)] S σ τ Q := by
  obtain ⟨r1, t⟩ := t
  refine i6 (L' := [.ref 63, .ref x1, .int (wI x2), .int (wI x3), .int (wI s0)]) c_47_82 rfl (i5 c_47_84 rfl (i45 c_47_85 (fun _ => oT_0 hx1) (fun _ => oT_r0 hx1) (i3 c_47_88 rfl (i1 c_47_89 (i3 c_47_90 rfl ?_)))))
  refine i36 c_47_92 r1 rfl (fun hc => ?_) (fun hc => ?_)
  · have t := iT t hc
    have ha2 : s0 = 0 := hc
    refine i1 c_47_100 t
  · have t := iF t hc
    have ha2 : ¬ (s0 = 0) := hc
    refine i1 c_47_95 (i38 c_47_97 rfl t)
set_option maxRecDepth 20000 in
theorem u_47_102 {d : Nat} {S : zS} {σ τ : zI} {Q : zQ} {x1 : Nat} {x2 : Int} {x3 : Int} {x4 : Int} {s1 : Int} {s2 : Int} {s3 : Int} (hx1 : oT S x1) (t : (oW S σ (x1 + 1) 8 192) ∧ (rg s1) ∧ (0 ≤ s2 ∧ s2 < 8 ∧ s2 < 1000) ∧ (0 ≤ s1 ∧ s1 < (σ (x1 + 1) 2)) ∧ ∃ w5 : Int, wI w5 = wI s3 ∧ rg w5 ∧ (rg x2) ∧ if x2 = 3 then ((rg x3) ∧ (0 ≤ x3 ∧ x3 < (σ (x1 + 1) 2)) ∧ ∃ T13 : Int → Int, ∃ n14 : Int, ∃ s15 : Int, (CR T13 n14 s15 (uc σ (x1 + 2) (u1 (u1 (σ (x1 + 2)) (s1 * 8 + s2) w5) (x3 * 8 + 6) (σ x1 2))) ∨ CFS (uc σ (x1 + 2) (u1 (u1 (σ (x1 + 2)) (s1 * 8 + s2) w5) (x3 * 8 + 6) (σ x1 2)))) ∧ (TB T13 n14) ∧ (CR T13 n14 s15 (uc σ (x1 + 2) (u1 (u1 (σ (x1 + 2)) (s1 * 8 + s2) w5) (x3 * 8 + 6) (σ x1 2))) → (0 : Int) ≤ 0 ∧ 0 ≤ (8 : Int)) ∧ (0 ≤ (uc σ (x1 + 2) (u1 (u1 (σ (x1 + 2)) (s1 * 8 + s2) w5) (x3 * 8 + 6) (σ x1 2))) x1 2 ∧ (uc σ (x1 + 2) (u1 (u1 (σ (x1 + 2)) (s1 * 8 + s2) w5) (x3 * 8 + 6) (σ x1 2))) x1 2 ≤ 300) ∧ (CR T13 n14 s15 (uc σ (x1 + 2) (u1 (u1 (σ (x1 + 2)) (s1 * 8 + s2) w5) (x3 * 8 + 6) (σ x1 2))) → (uc σ (x1 + 2) (u1 (u1 (σ (x1 + 2)) (s1 * 8 + s2) w5) (x3 * 8 + 6) (σ x1 2))) x1 2 ≤ s15) ∧ ∀ (σ121 : zI), CJ x1 (uc σ (x1 + 2) (u1 (u1 (σ (x1 + 2)) (s1 * 8 + s2) w5) (x3 * 8 + 6) (σ x1 2))) σ121 → (CFS (uc σ (x1 + 2) (u1 (u1 (σ (x1 + 2)) (s1 * 8 + s2) w5) (x3 * 8 + 6) (σ x1 2))) → σ121 = (uc σ (x1 + 2) (u1 (u1 (σ (x1 + 2)) (s1 * 8 + s2) w5) (x3 * 8 + 6) (σ x1 2)))) → (CR T13 n14 s15 (uc σ (x1 + 2) (u1 (u1 (σ (x1 + 2)) (s1 * 8 + s2) w5) (x3 * 8 + 6) (σ x1 2))) → CO x1 T13 n14 (sumO T13 n14 (oneK T13 n14 ((8 : Int) - 0).toNat) s15) (uc σ (x1 + 2) (u1 (u1 (σ (x1 + 2)) (s1 * 8 + s2) w5) (x3 * 8 + 6) (σ x1 2))) σ121) → (oW S σ121 (x1 + 1) 8 192) ∧ (0 ≤ x3 ∧ x3 < (σ121 (x1 + 1) 2)) ∧ ∃ T28 : Int → Int, ∃ n29 : Int, ∃ s30 : Int, (CR T28 n29 s30 (uc σ121 (x1 + 2) (u1 (σ121 (x1 + 2)) (x3 * 8 + 7) (σ121 x1 2))) ∨ CFS (uc σ121 (x1 + 2) (u1 (σ121 (x1 + 2)) (x3 * 8 + 7) (σ121 x1 2)))) ∧ (CR T28 n29 s30 (uc σ121 (x1 + 2) (u1 (σ121 (x1 + 2)) (x3 * 8 + 7) (σ121 x1 2))) → (1 : Int) ≠ 36) ∧ (TB T28 n29) ∧ ∀ (σ134 : zI), XP T28 n29 s30 36 (uc σ121 (x1 + 2) (u1 (σ121 (x1 + 2)) (x3 * 8 + 7) (σ121 x1 2))) σ134 → Q none S σ134 τ) else ((rg x4) ∧ if x4 = 0 then (wi (d + 28) 47 123 [.ref 63, .ref x1, .int (wI x2), .int (wI x3), .int (wI x4)] [.int (wI 10), .ref 63] S (uc σ (x1 + 2) (u1 (σ (x1 + 2)) (s1 * 8 + s2) w5)) τ Q) else (wi (d + 28) 47 123 [.ref 63, .ref x1, .int (wI x2), .int (wI x3), .int (wI x4)] [.int (wI 11), .ref 63] S (uc σ (x1 + 2) (u1 (σ (x1 + 2)) (s1 * 8 + s2) w5)) τ Q))) : wi (d + 28) 47 102 [.ref 63, .ref x1, .int (wI x2), .int (wI x3), .int (wI x4)] [.int (wI s3), .int (wI s2), .int (wI s1), .ref (x1 + 1)] S σ τ Q := by
  obtain ⟨o1, t⟩ := t
  obtain ⟨r2, t⟩ := t
  obtain ⟨k3, t⟩ := t
  obtain ⟨b4, t⟩ := t
  obtain ⟨w5, e6, r7, t⟩ := t
  refine i80 (As := [.int (wI s1), .int (wI s2), .int (wI s3)]) (rest := []) c_47_102 mi_56 rfl rfl (Nat.le_of_ble_eq_true rfl) (Nat.le_of_ble_eq_true rfl) (fun _ => oT_1 hx1) (q_put (v2 := w5) (fun _ => o1) r2 b4 k3 e6 r7 ?_)
  show wi (d + 28) 47 105 [.ref 63, .ref x1, .int (wI x2), .int (wI x3), .int (wI x4)] [] S (uc σ (x1 + 2) (u1 (σ (x1 + 2)) (s1 * 8 + s2) w5)) τ Q
  obtain ⟨r8, t⟩ := t
  refine i3 c_47_105 rfl (i1 c_47_106 ?_)
  refine i37 c_47_107 r8 (by decide) rfl (fun hc => ?_) (fun hc => ?_)
  · have t := iT t hc
    have ha9 : x2 = 3 := hc
    refine i5 c_47_126 rfl (i45 c_47_127 (fun _ => oT_0 hx1) (fun _ => oT_r0 hx1) (i3 c_47_130 rfl (i1 c_47_131 (i5 c_47_133 rfl (wi_ok (fun K10 => ?_))))))
    obtain ⟨r11, t⟩ := t
    obtain ⟨b12, t⟩ := t
    refine i43 (v := σ x1 2) c_47_134 (fun _ => oT_0 hx1) (congrFun (uc_ns rfl (by have := oT_b hx1; have := oT_b hx1; omega)) _) ?_
    refine i80 (As := [.int (wI x3), .int (wI 6), .int (wI (σ x1 2))]) (rest := []) c_47_137 mi_56 rfl rfl (Nat.le_of_ble_eq_true rfl) (Nat.le_of_ble_eq_true rfl) (fun _ => oT_1 hx1) (q_put (v2 := σ x1 2) (fun _ => (oWl o1 (by have := oT_b hx1; have := oT_b hx1; omega))) r11 (show 0 ≤ x3 ∧ x3 < (uc σ (x1 + 2) (u1 (σ (x1 + 2)) (s1 * 8 + s2) w5)) (x1 + 1) 2 by rw [(congrFun (uc_ns rfl (by have := oT_b hx1; have := oT_b hx1; omega)) _)]; exact b12) (by decide) rfl (rge_ K10 (congrFun (uc_ns rfl (by have := oT_b hx1; have := oT_b hx1; omega)) _)) ?_)
    show wi (d + 28) 47 140 [.ref 63, .ref x1, .int (wI x2), .int (wI x3), .int (wI x4)] [] S (uc (uc σ (x1 + 2) (u1 (σ (x1 + 2)) (s1 * 8 + s2) w5)) (x1 + 2) (u1 ((uc σ (x1 + 2) (u1 (σ (x1 + 2)) (s1 * 8 + s2) w5)) (x1 + 2)) (x3 * 8 + 6) (σ x1 2))) τ Q
    obtain ⟨T13, t⟩ := t
    obtain ⟨n14, t⟩ := t
    obtain ⟨s15, t⟩ := t
    obtain ⟨p16, t⟩ := t
    obtain ⟨p17, t⟩ := t
    obtain ⟨p18, t⟩ := t
    obtain ⟨p19, t⟩ := t
    obtain ⟨p20, t⟩ := t
    refine wi_s (σ1 := uc σ (x1 + 2) (u1 (u1 (σ (x1 + 2)) (s1 * 8 + s2) w5) (x3 * 8 + 6) (σ x1 2))) (wr_ (uc_s _ _ _) (uc_uc _ _ _ _)) (i5 c_47_140 rfl (i5 c_47_141 rfl (i1 c_47_142 ?_)))
    refine i80 (As := [.ref x1, .int (wI 0)]) (rest := []) c_47_143 mi_50 rfl rfl (Nat.le_of_ble_eq_true rfl) (Nat.le_of_ble_eq_true rfl) (lo (c := 63) (kd := 103) (n := 0) rfl (by decide)) (q_50 (T := T13) (n := n14) (s := s15) hx1 p16 p17 (by decide) p18 p19 p20 (fun σ121 q22 q23 q24 => ?_))
    have t := t σ121 q22 q23 q24
    show wi (d + 28) 47 146 [.ref 63, .ref x1, .int (wI x2), .int (wI x3), .int (wI x4)] [] S σ121 τ Q
    refine i5 c_47_146 rfl (i45 c_47_147 (fun _ => oT_0 hx1) (fun _ => oT_r0 hx1) (i3 c_47_150 rfl (i1 c_47_151 (i5 c_47_153 rfl (wi_ok (fun K25 => ?_))))))
    obtain ⟨o26, t⟩ := t
    obtain ⟨b27, t⟩ := t
    refine i43 (v := σ121 x1 2) c_47_154 (fun _ => oT_0 hx1) rfl ?_
    refine i80 (As := [.int (wI x3), .int (wI 7), .int (wI (σ121 x1 2))]) (rest := []) c_47_157 mi_56 rfl rfl (Nat.le_of_ble_eq_true rfl) (Nat.le_of_ble_eq_true rfl) (fun _ => oT_1 hx1) (q_put (v2 := σ121 x1 2) (fun _ => o26) r11 b27 (by decide) rfl (rge_ K25 rfl) ?_)
    show wi (d + 28) 47 160 [.ref 63, .ref x1, .int (wI x2), .int (wI x3), .int (wI x4)] [] S (uc σ121 (x1 + 2) (u1 (σ121 (x1 + 2)) (x3 * 8 + 7) (σ121 x1 2))) τ Q
    obtain ⟨T28, t⟩ := t
    obtain ⟨n29, t⟩ := t
    obtain ⟨s30, t⟩ := t
    obtain ⟨p31, t⟩ := t
    obtain ⟨p32, t⟩ := t
    obtain ⟨p33, t⟩ := t
    refine i5 c_47_160 rfl (i1 c_47_161 ?_)
    refine i80 (As := [.int (wI 36)]) (rest := []) c_47_163 mi_44 rfl rfl (Nat.le_of_ble_eq_true rfl) (Nat.le_of_ble_eq_true rfl) (lo (c := 63) (kd := 103) (n := 0) rfl (by decide)) (q_44 (T := T28) (n := n29) (s := s30) p31 p32 (by decide) p33 (fun σ134 q35 => ?_))
    have t := t σ134 q35
    show wi (d + 28) 47 166 [.ref 63, .ref x1, .int (wI x2), .int (wI x3), .int (wI x4)] [] S σ134 τ Q
    exact i94 c_47_166 t
  · have t := iF t hc
    have ha9 : ¬ (x2 = 3) := hc
    obtain ⟨r36, t⟩ := t
    refine i5 c_47_110 rfl (i3 c_47_111 rfl ?_)
    refine i36 c_47_113 r36 rfl (fun hc => ?_) (fun hc => ?_)
    · have t := iT t hc
      have ha37 : x4 = 0 := hc
      refine i1 c_47_121 t
    · have t := iF t hc
      have ha37 : ¬ (x4 = 0) := hc
      refine i1 c_47_116 (i38 c_47_118 rfl t)
set_option maxRecDepth 20000 in
theorem u_47_123 {d : Nat} {S : zS} {σ τ : zI} {Q : zQ} {x1 : Nat} {x2 : Int} {x3 : Int} {x4 : Int} {s1 : Int} (hx1 : oT S x1) (t : ∃ T1 : Int → Int, ∃ n2 : Int, ∃ s3 : Int, (CR T1 n2 s3 σ ∨ CFS σ) ∧ (CR T1 n2 s3 σ → (1 : Int) ≠ s1) ∧ (rg s1) ∧ (TB T1 n2) ∧ ∀ (σ18 : zI), XP T1 n2 s3 s1 σ σ18 → (oW S σ18 (x1 + 1) 8 192) ∧ (rg x3) ∧ (0 ≤ x3 ∧ x3 < (σ18 (x1 + 1) 2)) ∧ ∃ T14 : Int → Int, ∃ n15 : Int, ∃ s16 : Int, (CR T14 n15 s16 (uc σ18 (x1 + 2) (u1 (σ18 (x1 + 2)) (x3 * 8 + 6) (σ18 x1 2))) ∨ CFS (uc σ18 (x1 + 2) (u1 (σ18 (x1 + 2)) (x3 * 8 + 6) (σ18 x1 2)))) ∧ (TB T14 n15) ∧ (CR T14 n15 s16 (uc σ18 (x1 + 2) (u1 (σ18 (x1 + 2)) (x3 * 8 + 6) (σ18 x1 2))) → (0 : Int) ≤ 0 ∧ 0 ≤ (8 : Int)) ∧ (0 ≤ (uc σ18 (x1 + 2) (u1 (σ18 (x1 + 2)) (x3 * 8 + 6) (σ18 x1 2))) x1 2 ∧ (uc σ18 (x1 + 2) (u1 (σ18 (x1 + 2)) (x3 * 8 + 6) (σ18 x1 2))) x1 2 ≤ 300) ∧ (CR T14 n15 s16 (uc σ18 (x1 + 2) (u1 (σ18 (x1 + 2)) (x3 * 8 + 6) (σ18 x1 2))) → (uc σ18 (x1 + 2) (u1 (σ18 (x1 + 2)) (x3 * 8 + 6) (σ18 x1 2))) x1 2 ≤ s16) ∧ ∀ (σ122 : zI), CJ x1 (uc σ18 (x1 + 2) (u1 (σ18 (x1 + 2)) (x3 * 8 + 6) (σ18 x1 2))) σ122 → (CFS (uc σ18 (x1 + 2) (u1 (σ18 (x1 + 2)) (x3 * 8 + 6) (σ18 x1 2))) → σ122 = (uc σ18 (x1 + 2) (u1 (σ18 (x1 + 2)) (x3 * 8 + 6) (σ18 x1 2)))) → (CR T14 n15 s16 (uc σ18 (x1 + 2) (u1 (σ18 (x1 + 2)) (x3 * 8 + 6) (σ18 x1 2))) → CO x1 T14 n15 (sumO T14 n15 (oneK T14 n15 ((8 : Int) - 0).toNat) s16) (uc σ18 (x1 + 2) (u1 (σ18 (x1 + 2)) (x3 * 8 + 6) (σ18 x1 2))) σ122) → (oW S σ122 (x1 + 1) 8 192) ∧ (0 ≤ x3 ∧ x3 < (σ122 (x1 + 1) 2)) ∧ ∃ T29 : Int → Int, ∃ n30 : Int, ∃ s31 : Int, (CR T29 n30 s31 (uc σ122 (x1 + 2) (u1 (σ122 (x1 + 2)) (x3 * 8 + 7) (σ122 x1 2))) ∨ CFS (uc σ122 (x1 + 2) (u1 (σ122 (x1 + 2)) (x3 * 8 + 7) (σ122 x1 2)))) ∧ (CR T29 n30 s31 (uc σ122 (x1 + 2) (u1 (σ122 (x1 + 2)) (x3 * 8 + 7) (σ122 x1 2))) → (1 : Int) ≠ 36) ∧ (TB T29 n30) ∧ ∀ (σ135 : zI), XP T29 n30 s31 36 (uc σ122 (x1 + 2) (u1 (σ122 (x1 + 2)) (x3 * 8 + 7) (σ122 x1 2))) σ135 → Q none S σ135 τ) : wi (d + 28) 47 123 [.ref 63, .ref x1, .int (wI x2), .int (wI x3), .int (wI x4)] [.int (wI s1), .ref 63] S σ τ Q := by
  obtain ⟨T1, t⟩ := t
  obtain ⟨n2, t⟩ := t
  obtain ⟨s3, t⟩ := t
  obtain ⟨p4, t⟩ := t
  obtain ⟨p5, t⟩ := t
  obtain ⟨r6, t⟩ := t
  obtain ⟨p7, t⟩ := t
  refine i80 (As := [.int (wI s1)]) (rest := []) c_47_123 mi_44 rfl rfl (Nat.le_of_ble_eq_true rfl) (Nat.le_of_ble_eq_true rfl) (lo (c := 63) (kd := 103) (n := 0) rfl (by decide)) (q_44 (T := T1) (n := n2) (s := s3) p4 p5 r6 p7 (fun σ18 q9 => ?_))
  have t := t σ18 q9
  show wi (d + 28) 47 126 [.ref 63, .ref x1, .int (wI x2), .int (wI x3), .int (wI x4)] [] S σ18 τ Q
  refine i5 c_47_126 rfl (i45 c_47_127 (fun _ => oT_0 hx1) (fun _ => oT_r0 hx1) (i3 c_47_130 rfl (i1 c_47_131 (i5 c_47_133 rfl (wi_ok (fun K10 => ?_))))))
  obtain ⟨o11, t⟩ := t
  obtain ⟨r12, t⟩ := t
  obtain ⟨b13, t⟩ := t
  refine i43 (v := σ18 x1 2) c_47_134 (fun _ => oT_0 hx1) rfl ?_
  refine i80 (As := [.int (wI x3), .int (wI 6), .int (wI (σ18 x1 2))]) (rest := []) c_47_137 mi_56 rfl rfl (Nat.le_of_ble_eq_true rfl) (Nat.le_of_ble_eq_true rfl) (fun _ => oT_1 hx1) (q_put (v2 := σ18 x1 2) (fun _ => o11) r12 b13 (by decide) rfl (rge_ K10 rfl) ?_)
  show wi (d + 28) 47 140 [.ref 63, .ref x1, .int (wI x2), .int (wI x3), .int (wI x4)] [] S (uc σ18 (x1 + 2) (u1 (σ18 (x1 + 2)) (x3 * 8 + 6) (σ18 x1 2))) τ Q
  obtain ⟨T14, t⟩ := t
  obtain ⟨n15, t⟩ := t
  obtain ⟨s16, t⟩ := t
  obtain ⟨p17, t⟩ := t
  obtain ⟨p18, t⟩ := t
  obtain ⟨p19, t⟩ := t
  obtain ⟨p20, t⟩ := t
  obtain ⟨p21, t⟩ := t
  refine i5 c_47_140 rfl (i5 c_47_141 rfl (i1 c_47_142 ?_))
  refine i80 (As := [.ref x1, .int (wI 0)]) (rest := []) c_47_143 mi_50 rfl rfl (Nat.le_of_ble_eq_true rfl) (Nat.le_of_ble_eq_true rfl) (lo (c := 63) (kd := 103) (n := 0) rfl (by decide)) (q_50 (T := T14) (n := n15) (s := s16) hx1 p17 p18 (by decide) p19 p20 p21 (fun σ122 q23 q24 q25 => ?_))
  have t := t σ122 q23 q24 q25
  show wi (d + 28) 47 146 [.ref 63, .ref x1, .int (wI x2), .int (wI x3), .int (wI x4)] [] S σ122 τ Q
  refine i5 c_47_146 rfl (i45 c_47_147 (fun _ => oT_0 hx1) (fun _ => oT_r0 hx1) (i3 c_47_150 rfl (i1 c_47_151 (i5 c_47_153 rfl (wi_ok (fun K26 => ?_))))))
  obtain ⟨o27, t⟩ := t
  obtain ⟨b28, t⟩ := t
  refine i43 (v := σ122 x1 2) c_47_154 (fun _ => oT_0 hx1) rfl ?_
  refine i80 (As := [.int (wI x3), .int (wI 7), .int (wI (σ122 x1 2))]) (rest := []) c_47_157 mi_56 rfl rfl (Nat.le_of_ble_eq_true rfl) (Nat.le_of_ble_eq_true rfl) (fun _ => oT_1 hx1) (q_put (v2 := σ122 x1 2) (fun _ => o27) r12 b28 (by decide) rfl (rge_ K26 rfl) ?_)
  show wi (d + 28) 47 160 [.ref 63, .ref x1, .int (wI x2), .int (wI x3), .int (wI x4)] [] S (uc σ122 (x1 + 2) (u1 (σ122 (x1 + 2)) (x3 * 8 + 7) (σ122 x1 2))) τ Q
  obtain ⟨T29, t⟩ := t
  obtain ⟨n30, t⟩ := t
  obtain ⟨s31, t⟩ := t
  obtain ⟨p32, t⟩ := t
  obtain ⟨p33, t⟩ := t
  obtain ⟨p34, t⟩ := t
  refine i5 c_47_160 rfl (i1 c_47_161 ?_)
  refine i80 (As := [.int (wI 36)]) (rest := []) c_47_163 mi_44 rfl rfl (Nat.le_of_ble_eq_true rfl) (Nat.le_of_ble_eq_true rfl) (lo (c := 63) (kd := 103) (n := 0) rfl (by decide)) (q_44 (T := T29) (n := n30) (s := s31) p32 p33 (by decide) p34 (fun σ135 q36 => ?_))
  have t := t σ135 q36
  show wi (d + 28) 47 166 [.ref 63, .ref x1, .int (wI x2), .int (wI x3), .int (wI x4)] [] S σ135 τ Q
  exact i94 c_47_166 t
section CCN
variable {T : Int → Int} {n : Int} {S : zS}
theorem GS_a11 {s q c v : Int} {σ σ1 : zI} {R : RW} {F : Prop} {f : Int → RW} (h : GSt T n s σ R (bnd (addO T n q c v s) f) F) (e : σ 63 4 = 11) (xp : XP T n s 11 σ σ1) : GSt T n (nx T n s) σ1 R (bnd (smO T n q c (nx T n s)) f) (F ∧ tk T n s = 11) := by
  rcases h with ⟨h1, h2, h3⟩ | ⟨h1, h2⟩
  · have t11 : tk T n s = 11 := by rw [← (CR_b h1).2.2.1]; exact e
    have ea : addO T n q c v s = bnd (0, nx T n s, [], [(q, v + 1)]) (smO T n q c) := by unfold addO; rw [if_neg (by omega), if_pos t11]
    rw [ea] at h2
    exact Or.inl ⟨(xp.2.2 h1).1 t11, SM_t h2 (SM_t SM_as (SM_2 rfl)), h3, t11⟩
  · exact Or.inr ⟨h1, by rw [xp.2.1 (CD_F h2 h1)]; exact h2⟩
theorem GS_a10 {s q c v : Int} {σ σ1 : zI} {R : RW} {F : Prop} {f : Int → RW} (h : GSt T n s σ R (bnd (addO T n q c v s) f) F) (e : σ 63 4 ≠ 11) (xp : XP T n s 10 σ σ1) : GSt T n (nx T n s) σ1 R (bnd (smO T n q c (nx T n s)) f) (F ∧ tk T n s = 10) := by
  rcases h with ⟨h1, h2, h3⟩ | ⟨h1, h2⟩
  · have t11 : tk T n s ≠ 11 := by rw [← (CR_b h1).2.2.1]; exact e
    by_cases t10 : tk T n s = 10
    · have ea : addO T n q c v s = bnd (0, nx T n s, [], []) (smO T n q c) := by unfold addO; rw [if_pos t10]
      rw [ea] at h2
      exact Or.inl ⟨(xp.2.2 h1).1 t10, SM_t h2 (SM_t SM_as (SM_2 rfl)), h3, t10⟩
    · have ea : addO T n q c v s = (1, s, [], []) := by unfold addO; rw [if_neg t10, if_neg t11]
      rw [ea] at h2
      have sm := SM_t h2 (SM_1 (f := f) (A := (1, s, [], [])) (show (1 : Int) ≠ 0 by decide))
      have r1 : R.1 = 1 := sm.1
      have r2 : R.2.1 = s := sm.2
      exact Or.inr ⟨by rw [r1]; decide, by rw [r1, r2]; exact (xp.2.2 h1).2 t10⟩
  · exact Or.inr ⟨h1, by rw [xp.2.1 (CD_F h2 h1)]; exact h2⟩
/-- what stands fast behind the opening -/
def OB (S : zS) (x : Nat) (m : Int) (σ1 : zI) : Prop := oT S x ∧ σ1 (x + 1) 0 = 8 ∧ σ1 (x + 1) 2 = m + 1 ∧ (0 ≤ m ∧ m < 24) ∧ (0 ≤ σ1 x 2 ∧ σ1 x 2 ≤ 300)
theorem OB_w {x : Nat} {m : Int} {σ1 σ' : zI} (o : OB S x m σ1) (cl : CL x m σ1 σ') : oW S σ' (x + 1) 8 192 := by
  obtain ⟨o1, o2, o3, o4, o5⟩ := o
  exact CL_w o1 cl o2 (by omega)
theorem OB_c {x : Nat} {m : Int} {σ1 σ' : zI} (o : OB S x m σ1) (cl : CL x m σ1 σ') : 0 ≤ m ∧ m < σ' (x + 1) 2 := by
  obtain ⟨o1, o2, o3, o4, o5⟩ := o
  have xb := oT_b o1
  rw [cl.1 (x + 1) (by omega) (by omega) (by omega) (by omega), o3]
  omega
theorem OB_b {x : Nat} {m : Int} {σ1 σ' : zI} (o : OB S x m σ1) (cl : CL x m σ1 σ') : 0 ≤ σ' x 2 ∧ σ' x 2 ≤ 300 := cl.2.2.2.1 o.2.2.2.2
/-- the end of a CLAUSE: its SUM, its sign -/
def EndC (T : Int → Int) (n : Int) (x : Nat) (m q c s : Int) (σ1 σ : zI) (R : RW) (F : Prop) (L : List (Int × Int)) (row : Int → Int) (σ9 : zI) : Prop := ∃ d1 : Int, CL x m σ1 σ9 ∧ σ9 (x + 2) = u1 (u1 row (m * 8 + 6) (σ x 2)) (m * 8 + 7) d1 ∧ (R.1 = 0 → CR T n R.2.1 σ9 ∧ F ∧ (sumO T n (oneK T n 8) s).1 = 0 ∧ tk T n (sumO T n (oneK T n 8) s).2.1 = 36 ∧ CW x σ1 σ9 (L ++ (sumO T n (oneK T n 8) s).2.2) ∧ d1 = c + (sumO T n (oneK T n 8) s).2.2.length) ∧ (R.1 ≠ 0 → CD R.1 R.2.1 σ9)
theorem EndC_i {x : Nat} {m q c s : Int} {σ1 σ σd σ9 : zI} {R : RW} {F : Prop} {L : List (Int × Int)} {row : Int → Int} (hx : 100 ≤ x) (ob : OB S x m σ1) (g : GSt T n s σ R (bnd (smO T n q c s) (nedO T n 36)) F) (cl : CL x m σ1 σ) (hr : σ (x + 2) = row) (hF : F → CW x σ1 σ L ∧ c = σ x 2 ∧ σ x 2 ≤ s) (cj : CJ x (uc σ (x + 2) (u1 (σ (x + 2)) (m * 8 + 6) (σ x 2))) σd) (fs : CFS (uc σ (x + 2) (u1 (σ (x + 2)) (m * 8 + 6) (σ x 2))) → σd = uc σ (x + 2) (u1 (σ (x + 2)) (m * 8 + 6) (σ x 2))) (co : CR T n s (uc σ (x + 2) (u1 (σ (x + 2)) (m * 8 + 6) (σ x 2))) → CO x T n (sumO T n (oneK T n 8) s) (uc σ (x + 2) (u1 (σ (x + 2)) (m * 8 + 6) (σ x 2))) σd) : CL x m σ1 σd ∧ (CR T n (sumO T n (oneK T n 8) s).2.1 (uc σd (x + 2) (u1 (σd (x + 2)) (m * 8 + 7) (σd x 2))) ∨ CFS (uc σd (x + 2) (u1 (σd (x + 2)) (m * 8 + 7) (σd x 2)))) ∧ (XP T n (sumO T n (oneK T n 8) s).2.1 36 (uc σd (x + 2) (u1 (σd (x + 2)) (m * 8 + 7) (σd x 2))) σ9 → EndC T n x m q c s σ1 σ R F L row σ9) := by
  have gu := GS_u (σ1 := uc σ (x + 2) (u1 (σ (x + 2)) (m * 8 + 6) (σ x 2))) g (fun c h1 h2 => uc_n (by omega))
  have gs := GS_sum (x := x) gu fs co
  have clu := CL_t cl (CL_u (x := x) (m := m) (k := m * 8 + 6) (v := σ x 2) (by omega) (by omega))
  have cld := CL_t clu (CL_j (x := x) (m := m) (by omega) cj)
  have gd := GS_u (σ1 := uc σd (x + 2) (u1 (σd (x + 2)) (m * 8 + 7) (σd x 2))) gs (fun c h1 h2 => uc_n (by omega))
  have cld' := CL_t cld (CL_u (x := x) (m := m) (k := m * 8 + 7) (v := σd x 2) (by omega) (by omega))
  refine ⟨cld, GS_c gd, fun xp => ⟨σd x 2, CL_t cld' (CL_k (by omega) xp.1), ?_, fun z => ?_, (GS_end gd xp).2⟩⟩
  · rw [xp.1.1 _ (by omega), uc_s, cj.1 (x + 2) (by omega) (by omega) (by omega), uc_s, hr]
  · obtain ⟨cr, ⟨f, e, cw⟩, e36, _⟩ := (GS_end gd xp).1 z
    obtain ⟨cwF, hc, hl⟩ := hF f
    have cw2 := CW_t (CW_u (f := u1 (σ (x + 2)) (m * 8 + 6) (σ x 2)) cwF) cw
    have b := cw.1
    rw [uc_n (by omega)] at b
    have cw3 := CW_t (CW_u (f := u1 (σd (x + 2)) (m * 8 + 7) (σd x 2)) cw2) (CW_k (x := x) (by omega) xp.1)
    rw [List.append_nil] at cw3
    exact ⟨cr, f, e, e36, cw3, by omega⟩
/-- add or take, and its SUM -/
theorem c_123 {d x : Nat} {m q c s tt w x4 : Int} {σ1 σ τ : zI} {Q : zQ} {R : RW} {G : Prop} {L : List (Int × Int)} {row : Int → Int} (hT : TB T n) (ob : OB S x m σ1) (hw : w = 10 ∨ w = 11) (pc : CR T n s σ ∨ CFS σ) (gw : ∀ σ', XP T n s w σ σ' → GSt T n (nx T n s) σ' R (bnd (smO T n q c (nx T n s)) (nedO T n 36)) G) (cl : CL x m σ1 σ) (hr : σ (x + 2) = row) (hG : G → CW x σ1 σ L ∧ c = σ x 2 ∧ σ x 2 ≤ s ∧ tk T n s = w) (K : ∀ σ0 σ9, σ0 x 2 = σ x 2 → EndC T n x m q c (nx T n s) σ1 σ0 R G L row σ9 → Q none S σ9 τ) : wi (d + 28) 47 123 [.ref 63, .ref x, .int (wI tt), .int (wI m), .int (wI x4)] [.int (wI w), .ref 63] S σ τ Q := by
  have hx := ob.1
  have xb := oT_b hx
  have ob4 := ob.2.2.2.1
  refine u_47_123 hx ⟨T, n, s, pc, fun _ => by omega, by omega, hT, fun σb xp => ?_⟩
  have gb := gw σb xp
  have clb := CL_t cl (CL_k (m := m) (x := x) (by omega) xp.1)
  have eb : σb x = σ x := xp.1.1 _ (by omega)
  have hrb : σb (x + 2) = row := (xp.1.1 _ (by omega)).trans hr
  have hGb : G → CW x σ1 σb L ∧ c = σb x 2 ∧ σb x 2 ≤ nx T n s := fun g => by
    obtain ⟨h1, h2, h3, h4⟩ := hG g
    have cw := CW_t h1 (CW_k (x := x) (by omega) xp.1)
    rw [List.append_nil] at cw
    have nb := nx_b (T := T) (tk_n (T := T) (n := n) (s := s) (by omega))
    rw [eb]
    exact ⟨cw, h2, by omega⟩
  have clb' := CL_t clb (CL_u (x := x) (m := m) (k := m * 8 + 6) (v := σb x 2) (by omega) (by omega))
  have gu := GS_u (σ1 := uc σb (x + 2) (u1 (σb (x + 2)) (m * 8 + 6) (σb x 2))) gb (fun c h1 h2 => uc_n (by omega))
  refine ⟨OB_w ob clb, by omega, OB_c ob clb, T, n, nx T n s, GS_c gu, hT, fun _ => by omega, OB_b ob clb', fun cr => ?_, fun σd cj fs co => ?_⟩
  · rw [uc_n (by omega)]
    exact (hGb (GS_l gu cr)).2.2
  · have ee := fun σ9 => EndC_i (σ9 := σ9) xb ob gb clb hrb hGb cj fs co
    exact ⟨OB_w ob (ee σ).1, OB_c ob (ee σ).1, T, n, _, (ee σ).2.1, fun _ => by decide, hT, fun σ9 xp9 => K σb σ9 (by rw [eb]) ((ee σ9).2.2 xp9)⟩
theorem c_63 {d x : Nat} {m q c v s tt : Int} {y4 : Value} {σ1 σ τ : zI} {Q : zQ} {R : RW} {F : Prop} {L : List (Int × Int)} {row : Int → Int} (hT : TB T n) (ob : OB S x m σ1) (ht : tt = 4 ∨ tt = 5) (g : GSt T n s σ R (bnd (addO T n q c v s) (nedO T n 36)) F) (cl : CL x m σ1 σ) (hr : σ (x + 2) = row) (hF : F → CW x σ1 σ L ∧ c = σ x 2 ∧ σ x 2 ≤ s) (K : ∀ (b : Bool) σ0 σ9, σ0 x 2 = σ x 2 → EndC T n x m q c (nx T n s) σ1 σ0 R (F ∧ tk T n s = if b then 11 else 10) L (u1 row (m * 8 + 4) (if b then 30 else 29)) σ9 → Q none S σ9 τ) : wi (d + 28) 47 63 [.ref 63, .ref x, .int (wI tt), .int (wI m), y4] [] S σ τ Q := by
  have hx := ob.1
  have xb := oT_b hx
  have ob4 := ob.2.2.2.1
  have go : ∀ (v' : Int) (b : Bool) (w x4 : Int), v' = (if b then 30 else 29) → w = (if b then 11 else 10) → ((σ 63 4 = 11) ↔ b = true) → wi (d + 28) 47 123 [.ref 63, .ref x, .int (wI tt), .int (wI m), .int (wI x4)] [.int (wI w), .ref 63] S (uc σ (x + 2) (u1 (σ (x + 2)) (m * 8 + 4) v')) τ Q := by
    intro v' b w x4 hv hw hb
    have gu := GS_u (σ1 := uc σ (x + 2) (u1 (σ (x + 2)) (m * 8 + 4) v')) g (fun c h1 h2 => uc_n (by omega))
    have clu := CL_t cl (CL_u (x := x) (m := m) (k := m * 8 + 4) (v := v') (by omega) (by omega))
    have e63 : uc σ (x + 2) (u1 (σ (x + 2)) (m * 8 + 4) v') 63 4 = σ 63 4 := by rw [uc_n (by omega)]
    refine c_123 (q := q) (c := c) (R := R) (G := F ∧ tk T n s = if b then 11 else 10) (L := L) hT ob (by cases b <;> simp at hw <;> omega) (GS_c gu) (fun σ' xp => ?_) clu (by rw [uc_s, hr]) (fun gg => ?_) (fun σ0 σ9 h0 en => ?_)
    · cases b
      · have hw' : w = 10 := hw
        rw [hw'] at xp
        exact GS_a10 gu (by rw [e63]; intro z; exact absurd (hb.mp z) (by decide)) xp
      · have hw' : w = 11 := hw
        rw [hw'] at xp
        exact GS_a11 gu (by rw [e63]; exact hb.mpr rfl) xp
    · obtain ⟨h1, h2, h3⟩ := hF gg.1
      rw [uc_n (by omega)]
      exact ⟨CW_u h1, h2, h3, by rw [hw]; exact gg.2⟩
    · rw [uc_n (by omega)] at h0
      rw [hv] at en
      exact K b σ0 σ9 h0 en
  refine u_47_63 hx ⟨by omega, ifI (fun z => by omega) (fun _ => ifI (fun h11 => ?_) (fun h11 => u_47_81 hx ?_))⟩
  · refine u_47_82 hx ⟨by omega, ifI (fun z => absurd z (by decide)) (fun _ => ?_)⟩
    exact u_47_102 hx ⟨OB_w ob cl, by omega, by omega, OB_c ob cl, 30, rfl, by omega, by omega, ifI (fun z => by omega) (fun _ => ⟨by omega, ifI (fun z => absurd z (by decide)) (fun _ => go 30 true 11 1 rfl rfl ⟨fun _ => rfl, fun _ => h11⟩)⟩)⟩
  · refine u_47_82 hx ⟨by omega, ifI (fun _ => ?_) (fun z => absurd rfl z)⟩
    exact u_47_102 hx ⟨OB_w ob cl, by omega, by omega, OB_c ob cl, 29, rfl, by omega, by omega, ifI (fun z => by omega) (fun _ => ⟨by omega, ifI (fun _ => go 29 false 10 0 rfl rfl ⟨fun z => absurd z h11, fun z => absurd z (by decide)⟩) (fun z => absurd rfl z)⟩)⟩
end CCN
theorem q_47 {d : Nat} {S : zS} {σ τ : zI} {Q : zQ} {x : Nat} {T : Int → Int} {n : Int} {s : Int} {m : Int} {q : Int} (hx : oT S x) (p0 : CR T n s σ) (p1 : TB T n) (p2 : 3 ≤ tk T n s ∧ tk T n s ≤ 5) (p3 : σ (x + 1) 0 = 8) (p4 : σ (x + 1) 2 = m ∧ 0 ≤ m ∧ m < 24) (p5 : 0 ≤ σ x 2 ∧ σ x 2 ≤ s) (t : ∀ (σ1 : zI), CLS x T n m q s σ σ1 → Q none S σ1 τ) : wc (d + 28) 47 [.ref 63, .ref x] S σ τ Q := by
  obtain ⟨pm, pm0, pm1⟩ := p4
  have xb := oT_b hx
  have n3 := p1.1.2
  have sb := CR_s p0 p1.1.1
  have c4 := (CR_b p0).2.2.1
  have sn := tk_n (T := T) (n := n) (s := s) (by omega)
  have nb := nx_b (T := T) sn
  have p5' : 0 ≤ σ x 2 ∧ σ x 2 ≤ 300 := by omega
  refine wc_of mi_47 rfl (u_47_0 hx ?_)
  rw [c4, pm]
  refine ⟨CL_w hx (m := m) CL_0 p3 (by omega), by omega, by omega, fun σ1 op => ?_⟩
  have cr1 : CR T n s σ1 := CR_f p0 (fun c h1 h2 => op.1 c (by omega) (by omega) (by omega))
  refine ⟨T, n, s, Or.inl cr1, fun _ => by omega, p1, fun σ2 xp => ?_⟩
  have st := srt_t (t := tk T n s) (by omega)
  obtain ⟨R, hR⟩ : ∃ R, R = clsO T n m q (σ x 2) s := ⟨_, rfl⟩
  have cr2 := (xp.2.2 cr1).1 rfl
  have g2 : GSt T n (nx T n s) σ2 R (bnd (bodyO T n q (σ x 2) (tk T n s) (nx T n s)) (nedO T n 36)) True := Or.inl ⟨cr2, by rw [hR]; exact cl_sm (by omega) st.1, trivial⟩
  have cl2 : CL x m σ1 σ2 := CL_k (by omega) xp.1
  have cw2 : CW x σ1 σ2 [] := CW_k (by omega) xp.1
  have e2 : σ2 (x + 2) = σ1 (x + 2) := xp.1.1 _ (by omega)
  have b2 : σ1 x 2 = σ x 2 := by rw [op.2.2.2.2, u1_n (by decide)]
  have b3 : σ1 (x + 3) = σ (x + 3) := op.1 _ (by omega) (by omega) (by omega)
  have b4 : σ2 x 2 = σ x 2 := by rw [xp.1.1 x (by omega)]; exact b2
  have ob : OB S x m σ1 := ⟨hx, by rw [op.2.1, u1_n (by decide)]; exact p3, by rw [op.2.1, u1_s, pm], ⟨pm0, pm1⟩, by rw [b2]; exact p5'⟩
  have r0 : σ1 (x + 2) (m * 8 + 0) = tk T n s := by
    have := op.2.2.2.1
    rw [pm] at this
    rw [show m * 8 + 0 = 8 * m by omega, this]
  have fin : ∀ σ', CL x m σ1 σ' → (R.1 = 0 → CR T n R.2.1 σ' ∧ CW x σ1 σ' R.2.2.1 ∧ ∀ g, TC (σ' (x + 2)) m (wrs g R.2.2.2) q) → (R.1 ≠ 0 → CD R.1 R.2.1 σ') → Q none S σ' τ := fun σ' cl ok er => t σ' ⟨CLS_f (by omega) rfl pm p5' op cl, by rw [← hR]; exact fun z => ⟨(ok z).1, CW_o (ok z).2.1 b2 b3, (ok z).2.2⟩, by rw [← hR]; exact er⟩
  rw [b4]
  -- behind the place of its ASK
  have cl3 := CL_t cl2 (CL_u (σ := σ2) (x := x) (m := m) (k := m * 8 + 5) (v := σ x 2) (by omega) (by omega))
  have cw3 := CW_u (f := u1 (σ2 (x + 2)) (m * 8 + 5) (σ x 2)) cw2
  have g3 := GS_u (σ1 := uc σ2 (x + 2) (u1 (σ2 (x + 2)) (m * 8 + 5) (σ x 2))) g2 (fun c h1 h2 => uc_n (by omega))
  have cr3 : CR T n (nx T n s) (uc σ2 (x + 2) (u1 (σ2 (x + 2)) (m * 8 + 5) (σ x 2))) := CR_f cr2 (fun c h1 h2 => uc_n (by omega))
  have e3 : uc σ2 (x + 2) (u1 (σ2 (x + 2)) (m * 8 + 5) (σ x 2)) (x + 2) = u1 (σ1 (x + 2)) (m * 8 + 5) (σ x 2) := by rw [uc_s, e2]
  have b5 : uc σ2 (x + 2) (u1 (σ2 (x + 2)) (m * 8 + 5) (σ x 2)) x 2 = σ x 2 := by rw [uc_n (by omega), b4]
  obtain ⟨σ3, hσ3⟩ : ∃ σ3, σ3 = uc σ2 (x + 2) (u1 (σ2 (x + 2)) (m * 8 + 5) (σ x 2)) := ⟨_, rfl⟩
  rw [← hσ3] at cl3 cw3 g3 cr3 e3 b5 ⊢
  refine ⟨OB_w ob cl2, by omega, OB_c ob cl2, ifI (fun h4 => ?_) (fun h4 => ifI (fun h5 => ?_) (fun h5 => ?_))⟩
  · rw [h4, bo_4] at g3
    have g3' := GS_m g3 (fun _ => SM_as)
    refine ⟨T, n, _, GS_c g3', p1, fun _ => by omega, fun v σ4 rv ck4 fs4 p4' => ?_⟩
    have g4 := GS_num g3' fs4 p4'
    have cl4 := CL_t cl3 (CL_k (m := m) (x := x) (by omega) ck4)
    have cw4 := CW_t cw3 (CW_k (x := x) (by omega) ck4)
    have cl4' := CL_t cl4 (CL_u (x := x) (m := m) (k := m * 8 + 1) (v := v) (by omega) (by omega))
    have cw4' := CW_u (f := u1 (σ4 (x + 2)) (m * 8 + 1) v) cw4
    have g4' := GS_u (σ1 := uc σ4 (x + 2) (u1 (σ4 (x + 2)) (m * 8 + 1) v)) g4 (fun c h1 h2 => uc_n (by omega))
    have e4 : uc σ4 (x + 2) (u1 (σ4 (x + 2)) (m * 8 + 1) v) (x + 2) = u1 (u1 (σ1 (x + 2)) (m * 8 + 5) (σ x 2)) (m * 8 + 1) v := by rw [uc_s, ck4.1 _ (by omega), e3]
    have b6 : uc σ4 (x + 2) (u1 (σ4 (x + 2)) (m * 8 + 1) v) x 2 = σ x 2 := by rw [uc_n (by omega), ck4.1 x (by omega), b5]
    refine ⟨OB_w ob cl4, OB_c ob cl4, v, rfl, rv, c_63 p1 ob (by omega) g4' cl4' e4 (fun F => ⟨cw4', b6.symm, ?_⟩) (fun b σ0 σ9 h0 en => ?_)⟩
    · rw [b6]
      have nb2 := nx_b (T := T) (tk_n (T := T) (n := n) (s := nx T n s) (by omega))
      omega
    · obtain ⟨d1, en1, en2, en3, en4⟩ := en
      refine fin σ9 en1 (fun z => ?_) en4
      obtain ⟨cr, ⟨⟨_, f1, f2, f3, f4⟩, f5⟩, a0, a36, cw, hd⟩ := en3 z
      have ad := ad_v (T := T) (n := n) (q := q) (c := σ x 2) (v := 2) (s := nx T n (nx T n s)) (by cases b <;> simp at f5 <;> omega) a0
      have bo := bnd_v (f := addO T n q (σ x 2) 2) (nu_v (j := q + 1) f2 ⟨f3, f4⟩) ad
      have ec := cl_v (T := T) (n := n) (m := m) (q := q) (c := σ x 2) (s := s) (by omega) st.1 (by rw [h4, bo_4]; exact bo) a36
      rw [← hR, h4] at ec
      refine ⟨cr, ?_, fun g => ?_⟩
      · rw [ec]; exact cw
      · rw [ec]
        have tb : (if tk T n (nx T n (nx T n s)) = 11 then [(q, (2 : Int) + 1)] else []) = if b then [(q, (2 : Int) + 1)] else [] := by
          rw [f5]; cases b <;> rfl
        show TC (σ9 (x + 2)) m (wrs g ((q, srtO 4) :: ([(q + 1, nm T n (nx T n s))] ++ ((if tk T n (nx T n (nx T n s)) = 11 then [(q, (2 : Int) + 1)] else []) ++ [(q + 6, σ x 2), (q + 7, σ x 2 + (sumO T n (oneK T n 8) (nx T n (nx T n (nx T n s)))).2.2.length)])))) q
        rw [tb, ← hd, ← f1]
        refine TC_4 b ?_ ?_ ?_ ?_ ?_ g
        · rw [en2, u1_n (by omega), u1_n (by omega), u1_n (by omega), u1_n (by omega), u1_n (by omega), r0, h4]
        · rw [en2, u1_n (by omega), u1_n (by omega), u1_n (by omega), u1_s]
        · rw [en2, u1_n (by omega), u1_n (by omega), u1_s]
        · rw [en2, u1_n (by omega), u1_s, h0, b6]
        · rw [en2, u1_s]
  · rw [h5, bo_5] at g3
    have g3' := GS_m g3 (fun _ => SM_as)
    refine ⟨T, n, _, cr3, p1, by rw [b5]; omega, fun σ4 co => ?_⟩
    have g4 := GS_eit g3' cr3 co
    have cl4 := CL_t cl3 (CL_j (m := m) (x := x) (by omega) co.1)
    have e4 : σ4 (x + 2) = u1 (σ1 (x + 2)) (m * 8 + 5) (σ x 2) := by rw [co.1.1 (x + 2) (by omega) (by omega) (by omega), e3]
    have ok := eitO_ok (T := T) n3 301 (nx T n s) [] 0 0 (nx T n s) (by omega) (by omega) (by omega) (by omega) (by show (0 : Int) + 0 + 0 ≤ _; omega)
    obtain ⟨B, hB⟩ : ∃ B, B = eitO T n 301 (nx T n s) [] 0 0 := ⟨_, rfl⟩
    rw [← hB] at g4 ok
    refine c_63 p1 ob (by omega) g4 cl4 e4 (L := B.2.2) (fun F => ?_) (fun b σ0 σ9 h0 en => ?_)
    · obtain ⟨_, e, cw⟩ := F
      have c5 := CW_t cw3 cw
      have c6 := cw.1
      have o := ok.1 e
      rw [b5] at c6
      exact ⟨c5, by omega, by omega⟩
    · obtain ⟨d1, en1, en2, en3, en4⟩ := en
      refine fin σ9 en1 (fun z => ?_) en4
      obtain ⟨cr, ⟨⟨_, f1, f2⟩, f5⟩, a0, a36, cw, hd⟩ := en3 z
      have c6 := f2.1
      rw [b5] at c6
      have ad := ad_v (T := T) (n := n) (q := q) (c := σ x 2 + B.2.2.length) (v := 4) (s := B.2.1) (by cases b <;> simp at f5 <;> omega) a0
      have ei := ei_v (T := T) (n := n) (q := q) (c := σ x 2) (s := nx T n s) (by rw [← hB]; exact f1)
      rw [← hB] at ei
      have bo := bnd_v (f := addO T n q (σ x 2 + B.2.2.length) 4) ei ad
      have ec := cl_v (T := T) (n := n) (m := m) (q := q) (c := σ x 2) (s := s) (by omega) st.1 (by rw [h5, bo_5, ← hB]; exact bo) a36
      rw [← hR, h5] at ec
      refine ⟨cr, ?_, fun g => ?_⟩
      · rw [ec]; exact cw
      · rw [ec]
        have tb : (if tk T n B.2.1 = 11 then [(q, (4 : Int) + 1)] else []) = if b then [(q, (4 : Int) + 1)] else [] := by
          rw [f5]; cases b <;> rfl
        show TC (σ9 (x + 2)) m (wrs g ((q, srtO 5) :: ([(q + 4, σ x 2), (q + 5, σ x 2 + B.2.2.length)] ++ ((if tk T n B.2.1 = 11 then [(q, (4 : Int) + 1)] else []) ++ [(q + 6, σ x 2 + B.2.2.length), (q + 7, σ x 2 + B.2.2.length + (sumO T n (oneK T n 8) (nx T n B.2.1)).2.2.length)])))) q
        rw [tb, ← hd]
        refine TC_5 b ?_ ?_ ?_ ?_ ?_ g
        · rw [en2, u1_n (by omega), u1_n (by omega), u1_n (by omega), u1_n (by omega), r0, h5]
        · rw [en2, u1_n (by omega), u1_n (by omega), u1_n (by omega), u1_s]
        · rw [en2, u1_n (by omega), u1_n (by omega), u1_s]
        · rw [en2, u1_n (by omega), u1_s, h0, c6]
        · rw [en2, u1_s]
  · have h3 : tk T n s = 3 := by omega
    rw [h3, bo_3] at g3
    rw [h3]
    refine u_47_63 hx ⟨by omega, ifI (fun _ => u_47_81 hx (u_47_82 hx ⟨by omega, ifI (fun _ => ?_) (fun z => absurd rfl z)⟩)) (fun z => absurd rfl z)⟩
    have g4 := GS_u (σ1 := uc σ3 (x + 2) (u1 (σ3 (x + 2)) (m * 8 + 4) 29)) g3 (fun c h1 h2 => uc_n (by omega))
    have cl4 := CL_t cl3 (CL_u (x := x) (m := m) (k := m * 8 + 4) (v := 29) (by omega) (by omega))
    have cw4 := CW_u (f := u1 (σ3 (x + 2)) (m * 8 + 4) 29) cw3
    have e4 : uc σ3 (x + 2) (u1 (σ3 (x + 2)) (m * 8 + 4) 29) (x + 2) = u1 (u1 (σ1 (x + 2)) (m * 8 + 5) (σ x 2)) (m * 8 + 4) 29 := by rw [uc_s, e3]
    have b6 : uc σ3 (x + 2) (u1 (σ3 (x + 2)) (m * 8 + 4) 29) x 2 = σ x 2 := by rw [uc_n (by omega), b5]
    have uu : uc σ3 (x + 2) (u1 (u1 (σ3 (x + 2)) (m * 8 + 4) 29) (m * 8 + 6) (σ x 2)) = uc (uc σ3 (x + 2) (u1 (σ3 (x + 2)) (m * 8 + 4) 29)) (x + 2) (u1 (uc σ3 (x + 2) (u1 (σ3 (x + 2)) (m * 8 + 4) 29) (x + 2)) (m * 8 + 6) (uc σ3 (x + 2) (u1 (σ3 (x + 2)) (m * 8 + 4) 29) x 2)) := by rw [b6, uc_s, uc_uc]
    refine u_47_102 hx ⟨OB_w ob cl3, by omega, by omega, OB_c ob cl3, 29, rfl, by omega, by omega, ifI (fun _ => ?_) (fun z => absurd rfl z)⟩
    rw [b5, uu]
    obtain ⟨σ4, hσ4⟩ : ∃ σ4, σ4 = uc σ3 (x + 2) (u1 (σ3 (x + 2)) (m * 8 + 4) 29) := ⟨_, rfl⟩
    rw [← hσ4] at g4 cl4 cw4 e4 b6 ⊢
    have cl4' := CL_t cl4 (CL_u (x := x) (m := m) (k := m * 8 + 6) (v := σ4 x 2) (by omega) (by omega))
    have gu := GS_u (σ1 := uc σ4 (x + 2) (u1 (σ4 (x + 2)) (m * 8 + 6) (σ4 x 2))) g4 (fun c h1 h2 => uc_n (by omega))
    have hF : True → CW x σ1 σ4 [] ∧ σ x 2 = σ4 x 2 ∧ σ4 x 2 ≤ nx T n s := fun _ => ⟨cw4, b6.symm, by omega⟩
    refine ⟨by omega, by have := OB_c ob cl3; omega, T, n, _, GS_c gu, p1, fun _ => by omega, OB_b ob cl4', fun cr => by rw [uc_n (by omega)]; exact (hF trivial).2.2, fun σd cj fs co => ?_⟩
    have ee := fun σ9 => EndC_i (σ9 := σ9) xb ob g4 cl4 e4 hF cj fs co
    refine ⟨OB_w ob (ee σ).1, OB_c ob (ee σ).1, T, n, _, (ee σ).2.1, fun _ => by decide, p1, fun σ9 xp9 => ?_⟩
    obtain ⟨d1, en1, en2, en3, en4⟩ := (ee σ9).2.2 xp9
    refine fin σ9 en1 (fun z => ?_) en4
    obtain ⟨cr, _, a0, a36, cw, hd⟩ := en3 z
    have ec := cl_v (T := T) (n := n) (m := m) (q := q) (c := σ x 2) (s := s) (by omega) st.1 (by rw [h3, bo_3]; exact sm_v a0) a36
    rw [← hR, h3] at ec
    refine ⟨cr, ?_, fun g => ?_⟩
    · rw [ec]; exact cw
    · rw [ec]
      show TC (σ9 (x + 2)) m (wrs g [(q, srtO 3), (q + 6, σ x 2), (q + 7, σ x 2 + (sumO T n (oneK T n 8) (nx T n s)).2.2.length)]) q
      rw [← hd]
      refine TC_3 ?_ ?_ ?_ ?_ g
      · rw [en2, u1_n (by omega), u1_n (by omega), u1_n (by omega), u1_n (by omega), r0, h3]
      · rw [en2, u1_n (by omega), u1_n (by omega), u1_s]
      · rw [en2, u1_n (by omega), u1_s, b6]
      · rw [en2, u1_s]
