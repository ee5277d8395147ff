/-! ===== the class reads: EITHERS (segments printed by wip/whole, contracts own work) ===== -/
-- method 48: MillTown$Reader.readEither(LMillTown$Text;)V
theorem c_48_0 : pg_cd 48 0 = (1, 1, 0, 0, 0) := by decide +kernel
theorem c_48_1 : pg_cd 48 1 = (6, 1, 0, 2, 0) := by decide +kernel
theorem c_48_2 : pg_cd 48 2 = (1, 1, 0, 0, 0) := by decide +kernel
theorem c_48_3 : pg_cd 48 3 = (6, 1, 0, 3, 0) := by decide +kernel
theorem c_48_4 : pg_cd 48 4 = (1, 1, 0, 0, 0) := by decide +kernel
theorem c_48_5 : pg_cd 48 5 = (6, 2, 0, 4, 0) := by decide +kernel
theorem c_48_7 : pg_cd 48 7 = (3, 2, 0, 4, 0) := by decide +kernel
theorem c_48_9 : pg_cd 48 9 = (5, 1, 0, 0, 0) := by decide +kernel
theorem c_48_10 : pg_cd 48 10 = (45, 3, 9, 0, 0) := by decide +kernel
theorem c_48_13 : pg_cd 48 13 = (58, 0, 0, 0, 0) := by decide +kernel
theorem c_48_14 : pg_cd 48 14 = (37, 3, 0, 3, 102) := by decide +kernel
theorem c_48_17 : pg_cd 48 17 = (5, 1, 0, 0, 0) := by decide +kernel
theorem c_48_18 : pg_cd 48 18 = (43, 3, 21, 5, 0) := by decide +kernel
theorem c_48_21 : pg_cd 48 21 = (36, 3, 0, 1, 95) := by decide +kernel
theorem c_48_24 : pg_cd 48 24 = (5, 1, 0, 0, 0) := by decide +kernel
theorem c_48_25 : pg_cd 48 25 = (5, 1, 0, 1, 0) := by decide +kernel
theorem c_48_26 : pg_cd 48 26 = (80, 49, 124, 0, 0) := by decide +kernel
theorem c_48_29 : pg_cd 48 29 = (3, 1, 0, 2, 0) := by decide +kernel
theorem c_48_30 : pg_cd 48 30 = (36, 3, 0, 0, 10) := by decide +kernel
theorem c_48_33 : pg_cd 48 33 = (5, 1, 0, 1, 0) := by decide +kernel
theorem c_48_34 : pg_cd 48 34 = (1, 2, 0, 0, 15) := by decide +kernel
theorem c_48_36 : pg_cd 48 36 = (1, 1, 0, 0, 0) := by decide +kernel
theorem c_48_37 : pg_cd 48 37 = (80, 84, 127, 0, 0) := by decide +kernel
theorem c_48_40 : pg_cd 48 40 = (5, 1, 0, 0, 0) := by decide +kernel
theorem c_48_41 : pg_cd 48 41 = (43, 3, 46, 4, 0) := by decide +kernel
theorem c_48_44 : pg_cd 48 44 = (1, 2, 0, 0, 15) := by decide +kernel
theorem c_48_46 : pg_cd 48 46 = (37, 3, 0, 1, 7) := by decide +kernel
theorem c_48_49 : pg_cd 48 49 = (1, 1, 0, 0, 1) := by decide +kernel
theorem c_48_50 : pg_cd 48 50 = (38, 3, 0, 0, 4) := by decide +kernel
theorem c_48_53 : pg_cd 48 53 = (1, 1, 0, 0, 0) := by decide +kernel
theorem c_48_54 : pg_cd 48 54 = (6, 1, 0, 2, 0) := by decide +kernel
theorem c_48_55 : pg_cd 48 55 = (3, 1, 0, 2, 0) := by decide +kernel
theorem c_48_56 : pg_cd 48 56 = (36, 3, 0, 1, 14) := by decide +kernel
theorem c_48_59 : pg_cd 48 59 = (3, 1, 0, 3, 0) := by decide +kernel
theorem c_48_60 : pg_cd 48 60 = (36, 3, 0, 0, 10) := by decide +kernel
theorem c_48_63 : pg_cd 48 63 = (5, 1, 0, 1, 0) := by decide +kernel
theorem c_48_64 : pg_cd 48 64 = (1, 2, 0, 0, 14) := by decide +kernel
theorem c_48_66 : pg_cd 48 66 = (1, 1, 0, 0, 0) := by decide +kernel
theorem c_48_67 : pg_cd 48 67 = (80, 84, 127, 0, 0) := by decide +kernel
theorem c_48_70 : pg_cd 48 70 = (3, 1, 0, 2, 0) := by decide +kernel
theorem c_48_71 : pg_cd 48 71 = (36, 3, 0, 0, 7) := by decide +kernel
theorem c_48_74 : pg_cd 48 74 = (3, 1, 0, 3, 0) := by decide +kernel
theorem c_48_75 : pg_cd 48 75 = (38, 3, 0, 0, 17) := by decide +kernel
theorem c_48_78 : pg_cd 48 78 = (5, 1, 0, 0, 0) := by decide +kernel
theorem c_48_79 : pg_cd 48 79 = (43, 3, 46, 4, 0) := by decide +kernel
theorem c_48_82 : pg_cd 48 82 = (1, 2, 0, 0, 14) := by decide +kernel
theorem c_48_84 : pg_cd 48 84 = (37, 3, 0, 1, 7) := by decide +kernel
theorem c_48_87 : pg_cd 48 87 = (1, 1, 0, 0, 1) := by decide +kernel
theorem c_48_88 : pg_cd 48 88 = (38, 3, 0, 0, 4) := by decide +kernel
theorem c_48_91 : pg_cd 48 91 = (1, 1, 0, 0, 0) := by decide +kernel
theorem c_48_92 : pg_cd 48 92 = (6, 1, 0, 3, 0) := by decide +kernel
theorem c_48_93 : pg_cd 48 93 = (3, 1, 0, 2, 0) := by decide +kernel
theorem c_48_94 : pg_cd 48 94 = (36, 3, 0, 1, 8) := by decide +kernel
theorem c_48_97 : pg_cd 48 97 = (3, 1, 0, 3, 0) := by decide +kernel
theorem c_48_98 : pg_cd 48 98 = (36, 3, 0, 1, 4) := by decide +kernel
theorem c_48_101 : pg_cd 48 101 = (94, 0, 0, 0, 0) := by decide +kernel
theorem c_48_102 : pg_cd 48 102 = (5, 1, 0, 0, 0) := by decide +kernel
theorem c_48_103 : pg_cd 48 103 = (5, 1, 0, 0, 0) := by decide +kernel
theorem c_48_104 : pg_cd 48 104 = (43, 3, 46, 4, 0) := by decide +kernel
theorem c_48_107 : pg_cd 48 107 = (80, 44, 101, 0, 0) := by decide +kernel
theorem c_48_110 : pg_cd 48 110 = (9, 3, 0, 4, 1) := by decide +kernel
theorem c_48_113 : pg_cd 48 113 = (38, 3, 0, 0, (-106)) := by decide +kernel
theorem c_48_116 : pg_cd 48 116 = (94, 0, 0, 0, 0) := by decide +kernel
theorem mi_48 : pg_mc 48 = 3 ∧ pg_na 48 = 1 ∧ pg_mx 48 = 5 := by decide +kernel
set_option maxRecDepth 20000 in
theorem u_48_0 {d : Nat} {S : zS} {σ τ : zI} {Q : zQ} {x1 : Nat} (hx1 : oT S x1) (t : wi (d + 27) 48 7 [.ref 63, .ref x1, .int (wI 0), .int (wI 0), .int (wI 0)] [] S σ τ Q) : wi (d + 27) 48 0 [.ref 63, .ref x1, .retAddr 0, .retAddr 0, .retAddr 0] [] S σ τ Q := by
  refine i1 c_48_0 (i6 (L' := [.ref 63, .ref x1, .int (wI 0), .retAddr 0, .retAddr 0]) c_48_1 rfl (i1 c_48_2 (i6 (L' := [.ref 63, .ref x1, .int (wI 0), .int (wI 0), .retAddr 0]) c_48_3 rfl (i1 c_48_4 (i6 (L' := [.ref 63, .ref x1, .int (wI 0), .int (wI 0), .int (wI 0)]) c_48_5 rfl t)))))
set_option maxRecDepth 20000 in
theorem u_48_7 {d : Nat} {S : zS} {σ τ : zI} {Q : zQ} {x1 : Nat} {x2 : Int} {x3 : Int} {x4 : Int} (hx1 : oT S x1) (t : (rg x4) ∧ if (301 : Int) ≤ x4 then (wi (d + 27) 48 116 [.ref 63, .ref x1, .int (wI x2), .int (wI x3), .int (wI x4)] [] S σ τ Q) else (if (σ 63 5) = 0 then (∃ T5 : Int → Int, ∃ n6 : Int, ∃ s7 : Int, (CR T5 n6 s7 σ) ∧ (TB T5 n6) ∧ (0 ≤ σ x1 2 ∧ σ x1 2 ≤ s7) ∧ ∀ (σ111 : zI), CO x1 T5 n6 (askO T5 n6 s7) σ σ111 → (rg x2) ∧ if x2 = 0 then (if (σ111 63 4) = 15 then (wi (d + 27) 48 54 [.ref 63, .ref x1, .int (wI x2), .int (wI x3), .int (wI x4)] [.int (wI 1)] S σ111 τ Q) else (wi (d + 27) 48 54 [.ref 63, .ref x1, .int (wI x2), .int (wI x3), .int (wI x4)] [.int (wI 0)] S σ111 τ Q)) else ((0 ≤ σ111 x1 2 ∧ σ111 x1 2 ≤ 300) ∧ (rg (15 * 10000 + 0)) ∧ ∀ (σ119 : zI), CJ x1 σ111 σ119 → σ119 63 = σ111 63 → (σ111 x1 2 < 300 → σ119 x1 2 = σ111 x1 2 + 1 ∧ σ119 (x1 + 3) = u1 (σ111 (x1 + 3)) (σ111 x1 2) (15 * 10000 + 0)) → if (σ119 63 4) = 15 then (wi (d + 27) 48 54 [.ref 63, .ref x1, .int (wI x2), .int (wI x3), .int (wI x4)] [.int (wI 1)] S σ119 τ Q) else (wi (d + 27) 48 54 [.ref 63, .ref x1, .int (wI x2), .int (wI x3), .int (wI x4)] [.int (wI 0)] S σ119 τ Q))) else (wi (d + 27) 48 116 [.ref 63, .ref x1, .int (wI x2), .int (wI x3), .int (wI x4)] [] S σ τ Q))) : wi (d + 27) 48 7 [.ref 63, .ref x1, .int (wI x2), .int (wI x3), .int (wI x4)] [] S σ τ Q := by
  obtain ⟨r1, t⟩ := t
  refine i3 c_48_7 rfl (i5 c_48_9 rfl (i45 c_48_10 (lo (c := 63) (kd := 103) (n := 0) rfl (by decide)) (lro (c := 63) (k := 0) (j := 64) (by decide)) (i58 (v := 301) c_48_13 (lo (c := 64) (kd := 0) (n := 301) rfl (by decide)) rfl ?_)))
  refine i37 c_48_14 r1 (by decide) rfl (fun hc => ?_) (fun hc => ?_)
  · have t := iT t hc
    have ha2 : (301 : Int) ≤ x4 := hc
    exact t
  · have t := iF t hc
    have ha2 : ¬ ((301 : Int) ≤ x4) := hc
    refine i5 c_48_17 rfl (wi_ok (fun K3 => ?_))
    refine i43 (v := σ 63 5) c_48_18 (lo (c := 63) (kd := 103) (n := 0) rfl (by decide)) rfl ?_
    refine i36 c_48_21 (rge_ K3 rfl) rfl (fun hc => ?_) (fun hc => ?_)
    · have t := iF t hc
      have ha4 : ¬ ((σ 63 5) = 0) := hc
      exact t
    · have t := iT t (Decidable.not_not.mp hc)
      have ha4 : (σ 63 5) = 0 := Decidable.not_not.mp hc
      obtain ⟨T5, t⟩ := t
      obtain ⟨n6, t⟩ := t
      obtain ⟨s7, t⟩ := t
      obtain ⟨p8, t⟩ := t
      obtain ⟨p9, t⟩ := t
      obtain ⟨p10, t⟩ := t
      refine i5 c_48_24 rfl (i5 c_48_25 rfl ?_)
      refine i80 (As := [.ref x1]) (rest := []) c_48_26 mi_49 rfl rfl (Nat.le_of_ble_eq_true rfl) (Nat.le_of_ble_eq_true rfl) (lo (c := 63) (kd := 103) (n := 0) rfl (by decide)) (q_49 (T := T5) (n := n6) (s := s7) hx1 p8 p9 p10 (fun σ111 q12 => ?_))
      have t := t σ111 q12
      show wi (d + 27) 48 29 [.ref 63, .ref x1, .int (wI x2), .int (wI x3), .int (wI x4)] [] S σ111 τ Q
      obtain ⟨r13, t⟩ := t
      refine i3 c_48_29 rfl ?_
      refine i36 c_48_30 r13 rfl (fun hc => ?_) (fun hc => ?_)
      · have t := iT t hc
        have ha14 : x2 = 0 := hc
        refine i5 c_48_40 rfl (wi_ok (fun K15 => ?_))
        refine i43 (v := σ111 63 4) c_48_41 (lo (c := 63) (kd := 103) (n := 0) rfl (by decide)) rfl (i1 c_48_44 ?_)
        refine i37 c_48_46 (rge_ K15 rfl) (by decide) rfl (fun hc => ?_) (fun hc => ?_)
        · have t := iF t hc
          have ha16 : ¬ ((σ111 63 4) = 15) := hc
          refine i1 c_48_53 t
        · have t := iT t (Decidable.not_not.mp hc)
          have ha16 : (σ111 63 4) = 15 := Decidable.not_not.mp hc
          refine i1 c_48_49 (i38 c_48_50 rfl t)
      · have t := iF t hc
        have ha14 : ¬ (x2 = 0) := hc
        obtain ⟨p17, t⟩ := t
        obtain ⟨p18, t⟩ := t
        refine i5 c_48_33 rfl (i1 c_48_34 (i1 c_48_36 ?_))
        refine i80 (As := [.int (wI 15), .int (wI 0)]) (rest := []) c_48_37 mi_84 rfl rfl (Nat.le_of_ble_eq_true rfl) (Nat.le_of_ble_eq_true rfl) (fun _ => oT_0 hx1) (q_84 hx1 p17 p18 (fun σ119 q20 q21 q22 => ?_))
        have t := t σ119 q20 q21 q22
        show wi (d + 27) 48 40 [.ref 63, .ref x1, .int (wI x2), .int (wI x3), .int (wI x4)] [] S σ119 τ Q
        refine i5 c_48_40 rfl (wi_ok (fun K23 => ?_))
        refine i43 (v := σ119 63 4) c_48_41 (lo (c := 63) (kd := 103) (n := 0) rfl (by decide)) rfl (i1 c_48_44 ?_)
        refine i37 c_48_46 (rge_ K23 rfl) (by decide) rfl (fun hc => ?_) (fun hc => ?_)
        · have t := iF t hc
          have ha24 : ¬ ((σ119 63 4) = 15) := hc
          refine i1 c_48_53 t
        · have t := iT t (Decidable.not_not.mp hc)
          have ha24 : (σ119 63 4) = 15 := Decidable.not_not.mp hc
          refine i1 c_48_49 (i38 c_48_50 rfl t)
set_option maxRecDepth 20000 in
theorem u_48_54 {d : Nat} {S : zS} {σ τ : zI} {Q : zQ} {x1 : Nat} {x2 : Int} {x3 : Int} {x4 : Int} {s0 : Int} (hx1 : oT S x1) (t : (rg s0) ∧ if s0 = 0 then ((rg x3) ∧ if x3 = 0 then (wi (d + 27) 48 70 [.ref 63, .ref x1, .int (wI s0), .int (wI x3), .int (wI x4)] [] S σ τ Q) else ((0 ≤ σ x1 2 ∧ σ x1 2 ≤ 300) ∧ (rg (14 * 10000 + 0)) ∧ ∀ (σ17 : zI), CJ x1 σ σ17 → σ17 63 = σ 63 → (σ x1 2 < 300 → σ17 x1 2 = σ x1 2 + 1 ∧ σ17 (x1 + 3) = u1 (σ (x1 + 3)) (σ x1 2) (14 * 10000 + 0)) → wi (d + 27) 48 70 [.ref 63, .ref x1, .int (wI s0), .int (wI x3), .int (wI x4)] [] S σ17 τ Q)) else (wi (d + 27) 48 70 [.ref 63, .ref x1, .int (wI s0), .int (wI x3), .int (wI x4)] [] S σ τ Q)) : wi (d + 27) 48 54 [.ref 63, .ref x1, .int (wI x2), .int (wI x3), .int (wI x4)] [.int (wI s0)] S σ τ Q := by
  obtain ⟨r1, t⟩ := t
  refine i6 (L' := [.ref 63, .ref x1, .int (wI s0), .int (wI x3), .int (wI x4)]) c_48_54 rfl (i3 c_48_55 rfl ?_)
  refine i36 c_48_56 r1 rfl (fun hc => ?_) (fun hc => ?_)
  · have t := iF t hc
    have ha2 : ¬ (s0 = 0) := hc
    exact t
  · have t := iT t (Decidable.not_not.mp hc)
    have ha2 : s0 = 0 := Decidable.not_not.mp hc
    obtain ⟨r3, t⟩ := t
    refine i3 c_48_59 rfl ?_
    refine i36 c_48_60 r3 rfl (fun hc => ?_) (fun hc => ?_)
    · have t := iT t hc
      have ha4 : x3 = 0 := hc
      exact t
    · have t := iF t hc
      have ha4 : ¬ (x3 = 0) := hc
      obtain ⟨p5, t⟩ := t
      obtain ⟨p6, t⟩ := t
      refine i5 c_48_63 rfl (i1 c_48_64 (i1 c_48_66 ?_))
      refine i80 (As := [.int (wI 14), .int (wI 0)]) (rest := []) c_48_67 mi_84 rfl rfl (Nat.le_of_ble_eq_true rfl) (Nat.le_of_ble_eq_true rfl) (fun _ => oT_0 hx1) (q_84 hx1 p5 p6 (fun σ17 q8 q9 q10 => ?_))
      have t := t σ17 q8 q9 q10
      show wi (d + 27) 48 70 [.ref 63, .ref x1, .int (wI s0), .int (wI x3), .int (wI x4)] [] S σ17 τ Q
      exact t
set_option maxRecDepth 20000 in
theorem u_48_70 {d : Nat} {S : zS} {σ τ : zI} {Q : zQ} {x1 : Nat} {x2 : Int} {x3 : Int} {x4 : Int} (hx1 : oT S x1) (t : (rg x2) ∧ if x2 = 0 then (if (σ 63 4) = 14 then (wi (d + 27) 48 92 [.ref 63, .ref x1, .int (wI x2), .int (wI x3), .int (wI x4)] [.int (wI 1)] S σ τ Q) else (wi (d + 27) 48 92 [.ref 63, .ref x1, .int (wI x2), .int (wI x3), .int (wI x4)] [.int (wI 0)] S σ τ Q)) else (wi (d + 27) 48 92 [.ref 63, .ref x1, .int (wI x2), .int (wI x3), .int (wI x4)] [.int (wI x3)] S σ τ Q)) : wi (d + 27) 48 70 [.ref 63, .ref x1, .int (wI x2), .int (wI x3), .int (wI x4)] [] S σ τ Q := by
  obtain ⟨r1, t⟩ := t
  refine i3 c_48_70 rfl ?_
  refine i36 c_48_71 r1 rfl (fun hc => ?_) (fun hc => ?_)
  · have t := iT t hc
    have ha2 : x2 = 0 := hc
    refine i5 c_48_78 rfl (wi_ok (fun K3 => ?_))
    refine i43 (v := σ 63 4) c_48_79 (lo (c := 63) (kd := 103) (n := 0) rfl (by decide)) rfl (i1 c_48_82 ?_)
    refine i37 c_48_84 (rge_ K3 rfl) (by decide) rfl (fun hc => ?_) (fun hc => ?_)
    · have t := iF t hc
      have ha4 : ¬ ((σ 63 4) = 14) := hc
      refine i1 c_48_91 t
    · have t := iT t (Decidable.not_not.mp hc)
      have ha4 : (σ 63 4) = 14 := Decidable.not_not.mp hc
      refine i1 c_48_87 (i38 c_48_88 rfl t)
  · have t := iF t hc
    have ha2 : ¬ (x2 = 0) := hc
    refine i3 c_48_74 rfl (i38 c_48_75 rfl t)
set_option maxRecDepth 20000 in
theorem u_48_92 {d : Nat} {S : zS} {σ τ : zI} {Q : zQ} {x1 : Nat} {x2 : Int} {x3 : Int} {x4 : Int} {s0 : Int} (hx1 : oT S x1) (t : (rg x2) ∧ if x2 = 0 then ((rg s0) ∧ if s0 = 0 then (Q none S σ τ) else (wi (d + 27) 48 102 [.ref 63, .ref x1, .int (wI x2), .int (wI s0), .int (wI x4)] [] S σ τ Q)) else (wi (d + 27) 48 102 [.ref 63, .ref x1, .int (wI x2), .int (wI s0), .int (wI x4)] [] S σ τ Q)) : wi (d + 27) 48 92 [.ref 63, .ref x1, .int (wI x2), .int (wI x3), .int (wI x4)] [.int (wI s0)] S σ τ Q := by
  obtain ⟨r1, t⟩ := t
  refine i6 (L' := [.ref 63, .ref x1, .int (wI x2), .int (wI s0), .int (wI x4)]) c_48_92 rfl (i3 c_48_93 rfl ?_)
  refine i36 c_48_94 r1 rfl (fun hc => ?_) (fun hc => ?_)
  · have t := iF t hc
    have ha2 : ¬ (x2 = 0) := hc
    exact t
  · have t := iT t (Decidable.not_not.mp hc)
    have ha2 : x2 = 0 := Decidable.not_not.mp hc
    obtain ⟨r3, t⟩ := t
    refine i3 c_48_97 rfl ?_
    refine i36 c_48_98 r3 rfl (fun hc => ?_) (fun hc => ?_)
    · have t := iF t hc
      have ha4 : ¬ (s0 = 0) := hc
      exact t
    · have t := iT t (Decidable.not_not.mp hc)
      have ha4 : s0 = 0 := Decidable.not_not.mp hc
      exact i94 c_48_101 t
set_option maxRecDepth 20000 in
theorem u_48_102 {d : Nat} {S : zS} {σ τ : zI} {Q : zQ} {x1 : Nat} {x2 : Int} {x3 : Int} {x4 : Int} (hx1 : oT S x1) (t : ∃ T2 : Int → Int, ∃ n3 : Int, ∃ s4 : Int, (CR T2 n3 s4 σ ∨ CFS σ) ∧ (CR T2 n3 s4 σ → (1 : Int) ≠ (σ 63 4)) ∧ (TB T2 n3) ∧ ∀ (σ18 : zI), XP T2 n3 s4 (σ 63 4) σ σ18 → wi (d + 27) 48 7 [.ref 63, .ref x1, .int (wI x2), .int (wI x3), .int (wI (x4 + 1))] [] S σ18 τ Q) : wi (d + 27) 48 102 [.ref 63, .ref x1, .int (wI x2), .int (wI x3), .int (wI x4)] [] S σ τ Q := by
  refine i5 c_48_102 rfl (i5 c_48_103 rfl (wi_ok (fun K1 => ?_)))
  obtain ⟨T2, t⟩ := t
  obtain ⟨n3, t⟩ := t
  obtain ⟨s4, t⟩ := t
  obtain ⟨p5, t⟩ := t
  obtain ⟨p6, t⟩ := t
  obtain ⟨p7, t⟩ := t
  refine i43 (v := σ 63 4) c_48_104 (lo (c := 63) (kd := 103) (n := 0) rfl (by decide)) rfl ?_
  refine i80 (As := [.int (wI (σ 63 4))]) (rest := []) c_48_107 mi_44 rfl rfl (Nat.le_of_ble_eq_true rfl) (Nat.le_of_ble_eq_true rfl) (lo (c := 63) (kd := 103) (n := 0) rfl (by decide)) (q_44 (T := T2) (n := n3) (s := s4) p5 p6 (rge_ K1 rfl) p7 (fun σ18 q9 => ?_))
  have t := t σ18 q9
  show wi (d + 27) 48 110 [.ref 63, .ref x1, .int (wI x2), .int (wI x3), .int (wI x4)] [] S σ18 τ Q
  refine i9 (L' := [.ref 63, .ref x1, .int (wI x2), .int (wI x3), .int (wI (x4 + 1))]) c_48_110 rfl rfl (i38 c_48_113 rfl t)
set_option maxRecDepth 20000 in
theorem u_48_116 {d : Nat} {S : zS} {σ τ : zI} {Q : zQ} {x1 : Nat} {x2 : Int} {x3 : Int} {x4 : Int} (hx1 : oT S x1) (t : Q none S σ τ) : wi (d + 27) 48 116 [.ref 63, .ref x1, .int (wI x2), .int (wI x3), .int (wI x4)] [] S σ τ Q := by
  exact i94 c_48_116 t
section CEI
variable {S : zS} {T : Int → Int} {n : Int}
theorem eitO_1 {m : Nat} {s an o : Int} {L : List (Int × Int)} {R : RR} (hR : R = askO T n s) (e : R.1 ≠ 0) : eitO T n (m + 1) s L an o = (R.1, R.2.1, []) := by
  subst hR
  exact if_pos e
theorem eitO_2 {m : Nat} {s an o : Int} {L : List (Int × Int)} {R : RR} (hR : R = askO T n s) (e : R.1 = 0) (c : tk T n R.2.1 = 15) : eitO T n (m + 1) s L an o = eitO T n m (nx T n R.2.1) (L ++ R.2.2 ++ anO an) 1 o := by
  subst hR
  conv => lhs; unfold eitO
  rw [if_neg (fun z => z e), if_pos c]
theorem eitO_3 {m : Nat} {s an o : Int} {L : List (Int × Int)} {R : RR} (hR : R = askO T n s) (e : R.1 = 0) (c : tk T n R.2.1 = 14) : eitO T n (m + 1) s L an o = eitO T n m (nx T n R.2.1) (L ++ R.2.2 ++ anO an ++ orO o) 0 1 := by
  subst hR
  conv => lhs; unfold eitO
  rw [if_neg (fun z => z e), if_neg (by omega), if_pos c]
theorem eitO_4 {m : Nat} {s an o : Int} {L : List (Int × Int)} {R : RR} (hR : R = askO T n s) (e : R.1 = 0) (c : tk T n R.2.1 ≠ 15) (c2 : tk T n R.2.1 ≠ 14) : eitO T n (m + 1) s L an o = (0, R.2.1, L ++ R.2.2 ++ anO an ++ orO o) := by
  subst hR
  conv => lhs; unfold eitO
  rw [if_neg (fun z => z e), if_neg c, if_neg c2]
section FE
variable {d x : Nat} {x2 x3 x4 s0 : Int} {σ τ : zI} {Q : zQ}
theorem f_102 (hx : oT S x) (fl : CFS σ) (h4 : 0 ≤ x4 ∧ x4 ≤ 400) (K : Q none S σ τ) : wi (d + 27) 48 102 [.ref 63, .ref x, .int (wI x2), .int (wI x3), .int (wI x4)] [] S σ τ Q := by
  refine u_48_102 hx ⟨fun _ => 0, 0, 0, Or.inr fl, fun z => absurd z (cr_no fl), TB_0, fun σ2 xp => ?_⟩
  rw [xp.2.1 fl]
  exact u_48_7 hx ⟨by omega, ifI (fun _ => u_48_116 hx K) (fun _ => ifI (fun z => absurd z fl.1) (fun _ => u_48_116 hx K))⟩
theorem f_92 (hx : oT S x) (fl : CFS σ) (h2 : rg x2) (h0 : rg s0) (h4 : 0 ≤ x4 ∧ x4 ≤ 400) (K : Q none S σ τ) : wi (d + 27) 48 92 [.ref 63, .ref x, .int (wI x2), .int (wI x3), .int (wI x4)] [.int (wI s0)] S σ τ Q :=
  u_48_92 hx ⟨h2, ifI (fun _ => ⟨h0, ifI (fun _ => K) (fun _ => f_102 hx fl h4 K)⟩) (fun _ => f_102 hx fl h4 K)⟩
theorem f_70 (hx : oT S x) (fl : CFS σ) (h2 : rg x2) (h3 : rg x3) (h4 : 0 ≤ x4 ∧ x4 ≤ 400) (K : Q none S σ τ) : wi (d + 27) 48 70 [.ref 63, .ref x, .int (wI x2), .int (wI x3), .int (wI x4)] [] S σ τ Q :=
  u_48_70 hx ⟨h2, ifI (fun _ => ifI (fun _ => f_92 hx fl h2 (by omega) h4 K) (fun _ => f_92 hx fl h2 (by omega) h4 K)) (fun _ => f_92 hx fl h2 h3 h4 K)⟩
theorem f_54 (hx : oT S x) (fl : CFS σ) (hb : 0 ≤ σ x 2 ∧ σ x 2 ≤ 300) (h0 : rg s0) (h3 : rg x3) (h4 : 0 ≤ x4 ∧ x4 ≤ 400) (K : ∀ σ1, CJ x σ σ1 → σ1 63 = σ 63 → Q none S σ1 τ) : wi (d + 27) 48 54 [.ref 63, .ref x, .int (wI x2), .int (wI x3), .int (wI x4)] [.int (wI s0)] S σ τ Q :=
  u_48_54 hx ⟨h0, ifI (fun _ => ⟨h3, ifI (fun _ => f_70 hx fl h0 h3 h4 (K σ CJ_0 rfl)) (fun _ => ⟨hb, by omega, fun σ1 cj e _ => f_70 hx (CFS_e fl e) h0 h3 h4 (K σ1 cj e)⟩)⟩) (fun _ => f_70 hx fl h0 h3 h4 (K σ CJ_0 rfl))⟩
end FE
theorem c_7 {d x : Nat} {σ0 τ : zI} {Q : zQ} (hT : TB T n) (hx : oT S x) (h0 : 0 ≤ σ0 x 2) : ∀ (m : Nat) (x4 s an o : Int) (L : List (Int × Int)) (σ : zI), CR T n s σ → CJ x σ0 σ → CW x σ0 σ L → (an = 0 ∨ an = 1) → (o = 0 ∨ o = 1) → σ0 x 2 + L.length + (anO an).length + (orO o).length ≤ s → x4 + m = 301 → 0 ≤ x4 → x4 ≤ s → (∀ σ1, CO x T n (eitO T n m s L an o) σ0 σ1 → Q none S σ1 τ) → wi (d + 27) 48 7 [.ref 63, .ref x, .int (wI an), .int (wI o), .int (wI x4)] [] S σ τ Q
  | 0, x4, s, an, o, L, σ, cr, cj, cw, ha, hoo, hl, hm, hx4, hms, K => by
    have := CR_s cr hT.1.1
    have := hT.1.2
    omega
  | m + 1, x4, s, an, o, L, σ, cr, cj, cw, ha, hoo, hl, hm, hx4, hms, K => by
    have xb := oT_b hx
    have n3 := hT.1.2
    have sb := CR_s cr hT.1.1
    have c5 := (CR_b cr).2.2.2.1
    have b0 := cw.1
    have al := anO_l an
    have ol := orO_l o
    refine u_48_7 hx ⟨by omega, ifI (fun z => by omega) (fun _ => ?_)⟩
    rw [if_pos c5]
    refine ⟨T, n, s, cr, hT, by omega, fun σ1 co => ⟨by omega, ?_⟩⟩
    have cj1 := CJ_t cj co.1
    have hb1 := cj1.2.2.2 (by omega)
    have ao := askO_ok (T := T) n3 (s := s) (by omega) (by omega)
    obtain ⟨R, hR⟩ : ∃ R, R = askO T n s := ⟨_, rfl⟩
    rw [← hR] at co ao
    by_cases e : R.1 = 0
    · obtain ⟨cr1, cw1⟩ := co.2.1 e
      have ao1 := ao.1 e
      have cw1' := CW_t cw cw1
      have b1 := cw1'.1
      have l1 := len_a L R.2.2
      have l2 := len_a (L ++ R.2.2) (anO an)
      have l3 := len_a (L ++ R.2.2 ++ anO an) (orO o)
      have fin2 : ∀ σ3, CR T n R.2.1 σ3 → CJ x σ0 σ3 → CW x σ0 σ3 (L ++ R.2.2 ++ anO an ++ orO o) → tk T n R.2.1 ≠ 15 → wi (d + 27) 48 70 [.ref 63, .ref x, .int (wI 0), .int (wI o), .int (wI x4)] [] S σ3 τ Q := by
        intro σ3 cr3 cj3 cw3 c15
        have c43 := (CR_b cr3).2.2.1
        refine u_48_70 hx ⟨by omega, ifI (fun _ => ifI (fun c14 => ?_) (fun c14 => ?_)) (fun z => absurd rfl z)⟩
        · have c14' : tk T n R.2.1 = 14 := by omega
          have sn := tk_n (T := T) (n := n) (s := R.2.1) (by omega)
          have nb := nx_b (T := T) sn
          rw [eitO_3 hR e c14'] at K
          refine u_48_92 hx ⟨by omega, ifI (fun _ => ⟨by omega, ifI (fun z => absurd z (by decide)) (fun _ => ?_)⟩) (fun z => absurd rfl z)⟩
          refine u_48_102 hx ⟨T, n, R.2.1, Or.inl cr3, fun _ => by omega, hT, fun σ4 xp => ?_⟩
          have cw4 := CW_t cw3 (CW_k (x := x) (by omega) xp.1)
          rw [List.append_nil] at cw4
          have a0 : ((anO 0).length : Int) = 0 := rfl
          have o1 : ((orO 1).length : Int) = 1 := rfl
          exact c_7 hT hx h0 m (x4 + 1) _ 0 1 _ σ4 ((xp.2.2 cr3).1 c43.symm) (CJ_t cj3 (CJ_k (x := x) (by omega) xp.1)) cw4 (by omega) (by omega) (by omega) (by omega) (by omega) (by omega) K
        · refine u_48_92 hx ⟨by omega, ifI (fun _ => ⟨by omega, ifI (fun _ => ?_) (fun z => absurd rfl z)⟩) (fun z => absurd rfl z)⟩
          exact K σ3 (CO_ok (eitO_4 hR e c15 (by omega)) cj3 cr3 cw3)
      have fin : ∀ σ2, CR T n R.2.1 σ2 → CJ x σ0 σ2 → CW x σ0 σ2 (L ++ R.2.2 ++ anO an) → if (σ2 63 4) = 15 then (wi (d + 27) 48 54 [.ref 63, .ref x, .int (wI an), .int (wI o), .int (wI x4)] [.int (wI 1)] S σ2 τ Q) else (wi (d + 27) 48 54 [.ref 63, .ref x, .int (wI an), .int (wI o), .int (wI x4)] [.int (wI 0)] S σ2 τ Q) := by
        intro σ2 cr2 cj2 cw2
        have c42 := (CR_b cr2).2.2.1
        have b2 := cw2.1
        have hb2 := cj2.2.2.2 (by omega)
        refine ifI (fun c => ?_) (fun c => ?_)
        · have c15 : tk T n R.2.1 = 15 := by omega
          have sn := tk_n (T := T) (n := n) (s := R.2.1) (by omega)
          have nb := nx_b (T := T) sn
          rw [eitO_2 hR e c15] at K
          refine u_48_54 hx ⟨by omega, ifI (fun z => absurd z (by decide)) (fun _ => u_48_70 hx ⟨by omega, ifI (fun z => absurd z (by decide)) (fun _ => u_48_92 hx ⟨by omega, ifI (fun z => absurd z (by decide)) (fun _ => ?_)⟩)⟩)⟩
          refine u_48_102 hx ⟨T, n, R.2.1, Or.inl cr2, fun _ => by omega, hT, fun σ4 xp => ?_⟩
          have cw4 := CW_t cw2 (CW_k (x := x) (by omega) xp.1)
          rw [List.append_nil] at cw4
          have a1 : ((anO 1).length : Int) = 1 := rfl
          exact c_7 hT hx h0 m (x4 + 1) _ 1 o _ σ4 ((xp.2.2 cr2).1 c42.symm) (CJ_t cj2 (CJ_k (x := x) (by omega) xp.1)) cw4 (by omega) hoo (by omega) (by omega) (by omega) (by omega) K
        · refine u_48_54 hx ⟨by omega, ifI (fun _ => ⟨by omega, ifI (fun z => ?_) (fun z => ⟨hb2, by omega, fun σ3 cj3 e3 w3 => ?_⟩)⟩) (fun z => absurd rfl z)⟩
          · refine fin2 σ2 cr2 cj2 ?_ (by omega)
            rw [show orO o = [] from if_pos z, List.append_nil]
            exact cw2
          · have oz : orO o = [(22, 0)] := if_neg z
            have ol1 : ((orO o).length : Int) = 1 := by rw [oz]; rfl
            refine fin2 σ3 (CR_j (by omega) cr2 cj3 e3 (by omega)) (CJ_t cj2 cj3) ?_ (by omega)
            rw [oz]
            exact CW_t cw2 (CW_1 (y := (22, 0)) (w3 (by omega)) (by decide))
      refine ifI (fun z => ?_) (fun z => ⟨hb1, by omega, fun σ2 cj2 e2 w2 => ?_⟩)
      · refine fin σ1 cr1 cj1 ?_
        rw [show anO an = [] from if_pos z, List.append_nil]
        exact cw1'
      · have az : anO an = [(21, 0)] := if_neg z
        have al1 : ((anO an).length : Int) = 1 := by rw [az]; rfl
        refine fin σ2 (CR_j (by omega) cr1 cj2 e2 (by omega)) (CJ_t cj1 cj2) ?_
        rw [az]
        exact CW_t cw1' (CW_1 (y := (21, 0)) (w2 (by omega)) (by decide))
    · have cd := co.2.2 e
      have fl := CD_F cd e
      have fin : ∀ σ2, CJ x σ1 σ2 → σ2 63 = σ1 63 → Q none S σ2 τ := fun σ2 cj2 e2 => K σ2 (CO_er (eitO_1 hR e) e (CJ_t cj1 cj2) (CD_e cd e2))
      refine ifI (fun _ => ifI (fun _ => f_54 hx fl hb1 (by omega) (by omega) (by omega) fin) (fun _ => f_54 hx fl hb1 (by omega) (by omega) (by omega) fin)) (fun _ => ⟨hb1, by omega, fun σ2 cj2 e2 _ => ?_⟩)
      have fl2 := CFS_e fl e2
      have fin' : ∀ σ3, CJ x σ2 σ3 → σ3 63 = σ2 63 → Q none S σ3 τ := fun σ3 cj3 e3 => fin σ3 (CJ_t cj2 cj3) (e3.trans e2)
      exact ifI (fun _ => f_54 hx fl2 (cj2.2.2.2 hb1) (by omega) (by omega) (by omega) fin') (fun _ => f_54 hx fl2 (cj2.2.2.2 hb1) (by omega) (by omega) (by omega) fin')
end CEI
theorem q_48 {d : Nat} {S : zS} {σ τ : zI} {Q : zQ} {x : Nat} {T : Int → Int} {n : Int} {s : Int} (hx : oT S x) (p0 : CR T n s σ) (p1 : TB T n) (p2 : 0 ≤ σ x 2 ∧ σ x 2 ≤ s) (t : ∀ (σ1 : zI), CO x T n (eitO T n 301 s [] 0 0) σ σ1 → Q none S σ1 τ) : wc (d + 27) 48 [.ref 63, .ref x] S σ τ Q := by
  have a0 : ((anO 0).length : Int) = 0 := rfl
  have o0 : ((orO 0).length : Int) = 0 := rfl
  have l0 : (([] : List (Int × Int)).length : Int) = 0 := rfl
  exact wc_of mi_48 rfl (u_48_0 hx (c_7 p1 hx p2.1 301 0 s 0 0 [] σ p0 CJ_0 CW_0 (by omega) (by omega) (by omega) (by omega) (by omega) (by omega) (fun σ1 co => t σ1 co)))
