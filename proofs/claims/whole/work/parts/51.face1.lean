/-! ===== the class: what is told to it (segments printed by wip/whole, contracts own work) ===== -/
def F2 (σ σ1 : zI) : Prop := ∀ c, c < 2 ∨ 18 < c → σ1 c = σ c
theorem tl_2 {σ : zI} {a : Int → Int} (h : RT σ 2 a) : (σ 3 2 = 6 ∧ σ 5 2 = 8) ∧ σ 7 2 = a 1 ∧ σ 9 2 = a 2 ∧ σ 11 2 = a 3 ∧ σ 13 2 = a 4 ∧ σ 15 2 = a 7 ∧ σ 17 2 = a 6 := ⟨⟨cK h, cW h⟩, cM h, cQ h, cH h, cP h, cO h, cF h⟩
theorem tl_S {σ : zI} {a : Int → Int} (h : RT σ 2 a) : σ 2 8 = a 0 ∧ σ 2 9 = a 5 ∧ σ 2 10 = a 15 ∧ σ 2 11 = a 11 ∧ σ 2 12 = a 12 ∧ σ 2 13 = a 8 ∧ σ 2 14 = a 9 ∧ σ 2 15 = a 10 ∧ σ 2 16 = a 13 ∧ σ 2 17 = a 14 := tS h
-- method 145: MillTown.kind(IIIIII)Z
theorem c_145_0 : pg_cd 145 0 = (3, 1, 0, 1, 0) := by decide +kernel
theorem c_145_1 : pg_cd 145 1 = (1, 1, 0, 0, 0) := by decide +kernel
theorem c_145_2 : pg_cd 145 2 = (1, 1, 0, 0, 5) := by decide +kernel
theorem c_145_3 : pg_cd 145 3 = (81, 141, 85, 0, 0) := by decide +kernel
theorem c_145_6 : pg_cd 145 6 = (36, 3, 0, 0, 63) := by decide +kernel
theorem c_145_9 : pg_cd 145 9 = (3, 1, 0, 2, 0) := by decide +kernel
theorem c_145_10 : pg_cd 145 10 = (1, 2, 0, 0, 10) := by decide +kernel
theorem c_145_12 : pg_cd 145 12 = (1, 3, 0, 0, 200) := by decide +kernel
theorem c_145_15 : pg_cd 145 15 = (81, 141, 85, 0, 0) := by decide +kernel
theorem c_145_18 : pg_cd 145 18 = (36, 3, 0, 0, 51) := by decide +kernel
theorem c_145_21 : pg_cd 145 21 = (3, 1, 0, 3, 0) := by decide +kernel
theorem c_145_22 : pg_cd 145 22 = (1, 2, 0, 0, 20) := by decide +kernel
theorem c_145_24 : pg_cd 145 24 = (1, 2, 0, 0, 60) := by decide +kernel
theorem c_145_26 : pg_cd 145 26 = (81, 141, 85, 0, 0) := by decide +kernel
theorem c_145_29 : pg_cd 145 29 = (36, 3, 0, 0, 40) := by decide +kernel
theorem c_145_32 : pg_cd 145 32 = (3, 2, 0, 4, 0) := by decide +kernel
theorem c_145_34 : pg_cd 145 34 = (1, 1, 0, 0, 1) := by decide +kernel
theorem c_145_35 : pg_cd 145 35 = (1, 2, 0, 0, 50) := by decide +kernel
theorem c_145_37 : pg_cd 145 37 = (81, 141, 85, 0, 0) := by decide +kernel
theorem c_145_40 : pg_cd 145 40 = (36, 3, 0, 0, 29) := by decide +kernel
theorem c_145_43 : pg_cd 145 43 = (3, 2, 0, 5, 0) := by decide +kernel
theorem c_145_45 : pg_cd 145 45 = (1, 1, 0, 0, 0) := by decide +kernel
theorem c_145_46 : pg_cd 145 46 = (1, 2, 0, 0, 9) := by decide +kernel
theorem c_145_48 : pg_cd 145 48 = (81, 141, 85, 0, 0) := by decide +kernel
theorem c_145_51 : pg_cd 145 51 = (36, 3, 0, 0, 18) := by decide +kernel
theorem c_145_54 : pg_cd 145 54 = (3, 2, 0, 6, 0) := by decide +kernel
theorem c_145_56 : pg_cd 145 56 = (1, 1, 0, 0, 0) := by decide +kernel
theorem c_145_57 : pg_cd 145 57 = (1, 2, 89, 0, 1073741823) := by decide +kernel
theorem c_145_59 : pg_cd 145 59 = (81, 141, 85, 0, 0) := by decide +kernel
theorem c_145_62 : pg_cd 145 62 = (36, 3, 0, 0, 7) := by decide +kernel
theorem c_145_65 : pg_cd 145 65 = (1, 1, 0, 0, 1) := by decide +kernel
theorem c_145_66 : pg_cd 145 66 = (38, 3, 0, 0, 4) := by decide +kernel
theorem c_145_69 : pg_cd 145 69 = (1, 1, 0, 0, 0) := by decide +kernel
theorem c_145_70 : pg_cd 145 70 = (6, 2, 0, 7, 0) := by decide +kernel
theorem c_145_72 : pg_cd 145 72 = (3, 2, 0, 7, 0) := by decide +kernel
theorem c_145_74 : pg_cd 145 74 = (36, 3, 0, 0, 14) := by decide +kernel
theorem c_145_77 : pg_cd 145 77 = (5, 1, 0, 0, 0) := by decide +kernel
theorem c_145_78 : pg_cd 145 78 = (45, 11, 12, 0, 0) := by decide +kernel
theorem c_145_81 : pg_cd 145 81 = (3, 1, 0, 1, 0) := by decide +kernel
theorem c_145_82 : pg_cd 145 82 = (80, 89, 90, 0, 0) := by decide +kernel
theorem c_145_85 : pg_cd 145 85 = (36, 3, 0, 0, 5) := by decide +kernel
theorem c_145_88 : pg_cd 145 88 = (1, 1, 0, 0, 0) := by decide +kernel
theorem c_145_89 : pg_cd 145 89 = (91, 0, 0, 0, 0) := by decide +kernel
theorem c_145_90 : pg_cd 145 90 = (5, 1, 0, 0, 0) := by decide +kernel
theorem c_145_91 : pg_cd 145 91 = (45, 11, 12, 0, 0) := by decide +kernel
theorem c_145_94 : pg_cd 145 94 = (3, 1, 0, 1, 0) := by decide +kernel
theorem c_145_95 : pg_cd 145 95 = (3, 1, 0, 2, 0) := by decide +kernel
theorem c_145_96 : pg_cd 145 96 = (3, 1, 0, 3, 0) := by decide +kernel
theorem c_145_97 : pg_cd 145 97 = (3, 2, 0, 4, 0) := by decide +kernel
theorem c_145_99 : pg_cd 145 99 = (3, 2, 0, 5, 0) := by decide +kernel
theorem c_145_101 : pg_cd 145 101 = (3, 2, 0, 6, 0) := by decide +kernel
theorem c_145_103 : pg_cd 145 103 = (80, 88, 93, 0, 0) := by decide +kernel
theorem c_145_106 : pg_cd 145 106 = (1, 1, 0, 0, 1) := by decide +kernel
theorem c_145_107 : pg_cd 145 107 = (91, 0, 0, 0, 0) := by decide +kernel
theorem mi_145 : pg_mc 145 = 11 ∧ pg_na 145 = 6 ∧ pg_mx 145 = 8 := by decide +kernel
set_option maxRecDepth 20000 in
theorem u_145_0 {d : Nat} {S : zS} {σ τ : zI} {Q : zQ} {x1 : Int} {x2 : Int} {x3 : Int} {x4 : Int} {x5 : Int} {x6 : Int} (t : (rg x1) ∧ if 0 ≤ x1 ∧ x1 ≤ 5 then ((rg x2) ∧ if 10 ≤ x2 ∧ x2 ≤ 200 then ((rg x3) ∧ if 20 ≤ x3 ∧ x3 ≤ 60 then ((rg x4) ∧ if 1 ≤ x4 ∧ x4 ≤ 50 then ((rg x5) ∧ if 0 ≤ x5 ∧ x5 ≤ 9 then ((rg x6) ∧ if 0 ≤ x6 ∧ x6 ≤ 1073741823 then (∃ a13 : Int → Int, (RT σ 2 a13) ∧ (jv_O a13) ∧ (0 ≤ x1 ∧ x1 ≤ 5) ∧ if a13 (20 + 8 * x1 + 7) = 1 then (Q (some (.int (wI 0))) S σ τ) else ((0 ≤ x1 ∧ x1 < σ 3 2) ∧ Q (some (.int (wI 1))) S (uc σ 4 (u1 (u1 (u1 (u1 (u1 ((σ 4)) (x1 * 6 + 0) x2) (x1 * 6 + 1) x3) (x1 * 6 + 2) x4) (x1 * 6 + 3) x5) (x1 * 6 + 4) x6)) τ)) else (Q (some (.int (wI 0))) S σ τ)) else (Q (some (.int (wI 0))) S σ τ)) else (Q (some (.int (wI 0))) S σ τ)) else (Q (some (.int (wI 0))) S σ τ)) else (Q (some (.int (wI 0))) S σ τ)) else (Q (some (.int (wI 0))) S σ τ)) : wi (d + 8) 145 0 [.ref 1, .int (wI x1), .int (wI x2), .int (wI x3), .int (wI x4), .int (wI x5), .int (wI x6), .retAddr 0] [] S σ τ Q := by
  obtain ⟨r1, t⟩ := t
  refine i3 c_145_0 rfl (i1 c_145_1 (i1 c_145_2 ?_))
  refine i81 (As := [.int (wI x1), .int (wI 0), .int (wI 5)]) (rest := []) c_145_3 mi_141 rfl rfl (Nat.le_of_ble_eq_true rfl) (Nat.le_of_ble_eq_true rfl) (q_141 r1 (by decide) (by decide) ?_)
  show wi (d + 8) 145 6 [.ref 1, .int (wI x1), .int (wI x2), .int (wI x3), .int (wI x4), .int (wI x5), .int (wI x6), .retAddr 0] [.int (wI (if 0 ≤ x1 ∧ x1 ≤ 5 then 1 else 0))] S σ τ Q
  refine i36e c_145_6 rfl (fun hc => ?_) (fun hc => ?_)
  · have t := iT t hc
    have ha2 : 0 ≤ x1 ∧ x1 ≤ 5 := hc
    obtain ⟨r3, t⟩ := t
    refine i3 c_145_9 rfl (i1 c_145_10 (i1 c_145_12 ?_))
    refine i81 (As := [.int (wI x2), .int (wI 10), .int (wI 200)]) (rest := []) c_145_15 mi_141 rfl rfl (Nat.le_of_ble_eq_true rfl) (Nat.le_of_ble_eq_true rfl) (q_141 r3 (by decide) (by decide) ?_)
    show wi (d + 8) 145 18 [.ref 1, .int (wI x1), .int (wI x2), .int (wI x3), .int (wI x4), .int (wI x5), .int (wI x6), .retAddr 0] [.int (wI (if 10 ≤ x2 ∧ x2 ≤ 200 then 1 else 0))] S σ τ Q
    refine i36e c_145_18 rfl (fun hc => ?_) (fun hc => ?_)
    · have t := iT t hc
      have ha4 : 10 ≤ x2 ∧ x2 ≤ 200 := hc
      obtain ⟨r5, t⟩ := t
      refine i3 c_145_21 rfl (i1 c_145_22 (i1 c_145_24 ?_))
      refine i81 (As := [.int (wI x3), .int (wI 20), .int (wI 60)]) (rest := []) c_145_26 mi_141 rfl rfl (Nat.le_of_ble_eq_true rfl) (Nat.le_of_ble_eq_true rfl) (q_141 r5 (by decide) (by decide) ?_)
      show wi (d + 8) 145 29 [.ref 1, .int (wI x1), .int (wI x2), .int (wI x3), .int (wI x4), .int (wI x5), .int (wI x6), .retAddr 0] [.int (wI (if 20 ≤ x3 ∧ x3 ≤ 60 then 1 else 0))] S σ τ Q
      refine i36e c_145_29 rfl (fun hc => ?_) (fun hc => ?_)
      · have t := iT t hc
        have ha6 : 20 ≤ x3 ∧ x3 ≤ 60 := hc
        obtain ⟨r7, t⟩ := t
        refine i3 c_145_32 rfl (i1 c_145_34 (i1 c_145_35 ?_))
        refine i81 (As := [.int (wI x4), .int (wI 1), .int (wI 50)]) (rest := []) c_145_37 mi_141 rfl rfl (Nat.le_of_ble_eq_true rfl) (Nat.le_of_ble_eq_true rfl) (q_141 r7 (by decide) (by decide) ?_)
        show wi (d + 8) 145 40 [.ref 1, .int (wI x1), .int (wI x2), .int (wI x3), .int (wI x4), .int (wI x5), .int (wI x6), .retAddr 0] [.int (wI (if 1 ≤ x4 ∧ x4 ≤ 50 then 1 else 0))] S σ τ Q
        refine i36e c_145_40 rfl (fun hc => ?_) (fun hc => ?_)
        · have t := iT t hc
          have ha8 : 1 ≤ x4 ∧ x4 ≤ 50 := hc
          obtain ⟨r9, t⟩ := t
          refine i3 c_145_43 rfl (i1 c_145_45 (i1 c_145_46 ?_))
          refine i81 (As := [.int (wI x5), .int (wI 0), .int (wI 9)]) (rest := []) c_145_48 mi_141 rfl rfl (Nat.le_of_ble_eq_true rfl) (Nat.le_of_ble_eq_true rfl) (q_141 r9 (by decide) (by decide) ?_)
          show wi (d + 8) 145 51 [.ref 1, .int (wI x1), .int (wI x2), .int (wI x3), .int (wI x4), .int (wI x5), .int (wI x6), .retAddr 0] [.int (wI (if 0 ≤ x5 ∧ x5 ≤ 9 then 1 else 0))] S σ τ Q
          refine i36e c_145_51 rfl (fun hc => ?_) (fun hc => ?_)
          · have t := iT t hc
            have ha10 : 0 ≤ x5 ∧ x5 ≤ 9 := hc
            obtain ⟨r11, t⟩ := t
            refine i3 c_145_54 rfl (i1 c_145_56 (i1 c_145_57 ?_))
            refine i81 (As := [.int (wI x6), .int (wI 0), .int (wI 1073741823)]) (rest := []) c_145_59 mi_141 rfl rfl (Nat.le_of_ble_eq_true rfl) (Nat.le_of_ble_eq_true rfl) (q_141 r11 (by decide) (by decide) ?_)
            show wi (d + 8) 145 62 [.ref 1, .int (wI x1), .int (wI x2), .int (wI x3), .int (wI x4), .int (wI x5), .int (wI x6), .retAddr 0] [.int (wI (if 0 ≤ x6 ∧ x6 ≤ 1073741823 then 1 else 0))] S σ τ Q
            refine i36e c_145_62 rfl (fun hc => ?_) (fun hc => ?_)
            · have t := iT t hc
              have ha12 : 0 ≤ x6 ∧ x6 ≤ 1073741823 := hc
              obtain ⟨a13, t⟩ := t
              obtain ⟨p14, t⟩ := t
              obtain ⟨p15, t⟩ := t
              obtain ⟨p16, t⟩ := t
              refine i1 c_145_65 (i38 c_145_66 rfl (i6 (L' := [.ref 1, .int (wI x1), .int (wI x2), .int (wI x3), .int (wI x4), .int (wI x5), .int (wI x6), .int (wI 1)]) c_145_70 rfl (i3 c_145_72 rfl (i36k (pc1 := 77) c_145_74 (by decide) (i5 c_145_77 rfl (i45 c_145_78 (lo (c := 1) (kd := 111) (n := 0) rfl (by decide)) (lro (c := 1) (k := 0) (j := 2) (by decide)) (i3 c_145_81 rfl ?_)))))))
              refine i80 (As := [.int (wI x1)]) (rest := []) c_145_82 mi_89 rfl rfl (Nat.le_of_ble_eq_true rfl) (Nat.le_of_ble_eq_true rfl) (lo (c := 2) (kd := 108) (n := 0) rfl (by decide)) (q_89 (a := a13) tw_2 p14 p15 p16 ?_)
              show wi (d + 8) 145 85 [.ref 1, .int (wI x1), .int (wI x2), .int (wI x3), .int (wI x4), .int (wI x5), .int (wI x6), .int (wI 1)] [.int (wI (if a13 (20 + 8 * x1 + 7) = 1 then 1 else 0))] S σ τ Q
              refine i36e c_145_85 rfl (fun hc => ?_) (fun hc => ?_)
              · have t := iT t hc
                have ha17 : a13 (20 + 8 * x1 + 7) = 1 := hc
                refine i1 c_145_88 ?_
                exact i91 c_145_89 (by decide) t
              · have t := iF t hc
                have ha17 : ¬ (a13 (20 + 8 * x1 + 7) = 1) := hc
                obtain ⟨p18, t⟩ := t
                refine i5 c_145_90 rfl (i45 c_145_91 (lo (c := 1) (kd := 111) (n := 0) rfl (by decide)) (lro (c := 1) (k := 0) (j := 2) (by decide)) (i3 c_145_94 rfl (i3 c_145_95 rfl (i3 c_145_96 rfl (i3 c_145_97 rfl (i3 c_145_99 rfl (i3 c_145_101 rfl ?_)))))))
                refine i80 (As := [.int (wI x1), .int (wI x2), .int (wI x3), .int (wI x4), .int (wI x5), .int (wI x6)]) (rest := []) c_145_103 mi_88 rfl rfl (Nat.le_of_ble_eq_true rfl) (Nat.le_of_ble_eq_true rfl) (lo (c := 2) (kd := 108) (n := 0) rfl (by decide)) (q_88 tw_2 p18 r3 r5 r7 r9 r11 ?_)
                show wi (d + 8) 145 106 [.ref 1, .int (wI x1), .int (wI x2), .int (wI x3), .int (wI x4), .int (wI x5), .int (wI x6), .int (wI 1)] [] S (uc σ 4 (u1 (u1 (u1 (u1 (u1 ((σ 4)) (x1 * 6 + 0) x2) (x1 * 6 + 1) x3) (x1 * 6 + 2) x4) (x1 * 6 + 3) x5) (x1 * 6 + 4) x6)) τ Q
                refine i1 c_145_106 ?_
                exact i91 c_145_107 (by decide) t
            · have t := iF t hc
              have ha12 : ¬ (0 ≤ x6 ∧ x6 ≤ 1073741823) := hc
              refine i1 c_145_69 (i6 (L' := [.ref 1, .int (wI x1), .int (wI x2), .int (wI x3), .int (wI x4), .int (wI x5), .int (wI x6), .int (wI 0)]) c_145_70 rfl (i3 c_145_72 rfl (i36k (pc1 := 88) c_145_74 (by decide) (i1 c_145_88 ?_))))
              exact i91 c_145_89 (by decide) t
          · have t := iF t hc
            have ha10 : ¬ (0 ≤ x5 ∧ x5 ≤ 9) := hc
            refine i1 c_145_69 (i6 (L' := [.ref 1, .int (wI x1), .int (wI x2), .int (wI x3), .int (wI x4), .int (wI x5), .int (wI x6), .int (wI 0)]) c_145_70 rfl (i3 c_145_72 rfl (i36k (pc1 := 88) c_145_74 (by decide) (i1 c_145_88 ?_))))
            exact i91 c_145_89 (by decide) t
        · have t := iF t hc
          have ha8 : ¬ (1 ≤ x4 ∧ x4 ≤ 50) := hc
          refine i1 c_145_69 (i6 (L' := [.ref 1, .int (wI x1), .int (wI x2), .int (wI x3), .int (wI x4), .int (wI x5), .int (wI x6), .int (wI 0)]) c_145_70 rfl (i3 c_145_72 rfl (i36k (pc1 := 88) c_145_74 (by decide) (i1 c_145_88 ?_))))
          exact i91 c_145_89 (by decide) t
      · have t := iF t hc
        have ha6 : ¬ (20 ≤ x3 ∧ x3 ≤ 60) := hc
        refine i1 c_145_69 (i6 (L' := [.ref 1, .int (wI x1), .int (wI x2), .int (wI x3), .int (wI x4), .int (wI x5), .int (wI x6), .int (wI 0)]) c_145_70 rfl (i3 c_145_72 rfl (i36k (pc1 := 88) c_145_74 (by decide) (i1 c_145_88 ?_))))
        exact i91 c_145_89 (by decide) t
    · have t := iF t hc
      have ha4 : ¬ (10 ≤ x2 ∧ x2 ≤ 200) := hc
      refine i1 c_145_69 (i6 (L' := [.ref 1, .int (wI x1), .int (wI x2), .int (wI x3), .int (wI x4), .int (wI x5), .int (wI x6), .int (wI 0)]) c_145_70 rfl (i3 c_145_72 rfl (i36k (pc1 := 88) c_145_74 (by decide) (i1 c_145_88 ?_))))
      exact i91 c_145_89 (by decide) t
  · have t := iF t hc
    have ha2 : ¬ (0 ≤ x1 ∧ x1 ≤ 5) := hc
    refine i1 c_145_69 (i6 (L' := [.ref 1, .int (wI x1), .int (wI x2), .int (wI x3), .int (wI x4), .int (wI x5), .int (wI x6), .int (wI 0)]) c_145_70 rfl (i3 c_145_72 rfl (i36k (pc1 := 88) c_145_74 (by decide) (i1 c_145_88 ?_))))
    exact i91 c_145_89 (by decide) t
theorem q_145 {d : Nat} {S : zS} {σ τ : zI} {Q : zQ} {k : Int} {picks : Int} {width : Int} {yarn : Int} {hard : Int} {extras : Int} {a : Int → Int} (p0 : RT σ 2 a) (p1 : Jv a) (p2 : jv_Z a) (p3 : rg k) (p4 : rg picks) (p5 : rg width) (p6 : rg yarn) (p7 : rg hard) (p8 : rg extras) (t : ∀ (σ1 : zI), RT σ1 2 (r_kind a k picks width yarn hard extras) → F2 σ σ1 → Q (some (.int (wI (if k_kind a k picks width yarn hard extras then 1 else 0)))) S σ1 τ) : wc (d + 8) 145 [.ref 1, .int (wI k), .int (wI picks), .int (wI width), .int (wI yarn), .int (wI hard), .int (wI extras)] S σ τ Q := by
  have hC := jC p1
  have hC' := hC
  unfold jv_C at hC
  have l2 := tl_2 p0
  have lS := tl_S p0
  have jo := jO p1
  refine wc_of mi_145 rfl (u_145_0 ?_)
  by_cases hk : k_kind a k picks width yarn hard extras
  · rw [if_pos hk] at t
    have er : r_kind a k picks width yarn hard extras = _ := if_pos hk
    simp only [k_kind] at hk
    repeat' (first | refine ⟨a, p0, ?_⟩ | refine ⟨by assumption, ?_⟩ | refine ⟨_, rfl, by omega, ?_⟩ | refine ⟨by omega, ?_⟩ | rw [if_pos (by omega)] | rw [if_neg (by omega)])
    refine t _ ?_ ?_
    · rw [er]
      refine XK p0 hC' (fun c h1 h2 => uc_n h2) ⟨l2.1.1, ?_⟩ (fun k hk => by simp (disch := omega) only [u1_n])
      intro x x0 x1
      have q := (tK p0).2 x x0 x1
      rw [uc_s]
      by_cases e : x = k
      · subst e
        simp (disch := omega) only [u1_n, u1_s]
        exact ⟨trivial, trivial, trivial, trivial, trivial, q.2.2.2.2.2⟩
      · simp (disch := omega) only [u1_n]
        exact q
    · intro c hc
      simp (disch := omega) only [uc_n]
  · rw [if_neg hk] at t
    have er : r_kind a k picks width yarn hard extras = a := if_neg hk
    have t := t σ (by rw [er]; exact p0) (fun _ _ => rfl)
    simp only [k_kind] at hk
    repeat' (first | exact t | refine ⟨a, p0, ?_⟩ | refine ⟨by assumption, ?_⟩ | refine ⟨_, rfl, by omega, ?_⟩ | refine ⟨by omega, ?_⟩ | refine ifI (fun _ => ?_) (fun _ => ?_) | (exfalso; omega))
-- method 146: MillTown.price(III)Z
theorem c_146_0 : pg_cd 146 0 = (3, 1, 0, 1, 0) := by decide +kernel
theorem c_146_1 : pg_cd 146 1 = (1, 1, 0, 0, 0) := by decide +kernel
theorem c_146_2 : pg_cd 146 2 = (1, 2, 0, 0, 7) := by decide +kernel
theorem c_146_4 : pg_cd 146 4 = (81, 141, 85, 0, 0) := by decide +kernel
theorem c_146_7 : pg_cd 146 7 = (36, 3, 0, 0, 25) := by decide +kernel
theorem c_146_10 : pg_cd 146 10 = (3, 1, 0, 2, 0) := by decide +kernel
theorem c_146_11 : pg_cd 146 11 = (81, 142, 97, 0, 0) := by decide +kernel
theorem c_146_14 : pg_cd 146 14 = (36, 3, 0, 0, 18) := by decide +kernel
theorem c_146_17 : pg_cd 146 17 = (3, 1, 0, 3, 0) := by decide +kernel
theorem c_146_18 : pg_cd 146 18 = (1, 1, 0, 0, (-1)) := by decide +kernel
theorem c_146_19 : pg_cd 146 19 = (37, 3, 0, 0, 15) := by decide +kernel
theorem c_146_22 : pg_cd 146 22 = (3, 1, 0, 3, 0) := by decide +kernel
theorem c_146_23 : pg_cd 146 23 = (1, 1, 0, 0, 1) := by decide +kernel
theorem c_146_24 : pg_cd 146 24 = (1, 2, 100, 0, 100000) := by decide +kernel
theorem c_146_26 : pg_cd 146 26 = (81, 141, 85, 0, 0) := by decide +kernel
theorem c_146_29 : pg_cd 146 29 = (36, 3, 0, 1, 5) := by decide +kernel
theorem c_146_32 : pg_cd 146 32 = (1, 1, 0, 0, 0) := by decide +kernel
theorem c_146_33 : pg_cd 146 33 = (91, 0, 0, 0, 0) := by decide +kernel
theorem c_146_34 : pg_cd 146 34 = (5, 1, 0, 0, 0) := by decide +kernel
theorem c_146_35 : pg_cd 146 35 = (45, 11, 12, 0, 0) := by decide +kernel
theorem c_146_38 : pg_cd 146 38 = (45, 8, 101, 1, 0) := by decide +kernel
theorem c_146_41 : pg_cd 146 41 = (3, 1, 0, 1, 0) := by decide +kernel
theorem c_146_42 : pg_cd 146 42 = (3, 1, 0, 2, 0) := by decide +kernel
theorem c_146_43 : pg_cd 146 43 = (3, 1, 0, 3, 0) := by decide +kernel
theorem c_146_44 : pg_cd 146 44 = (80, 56, 104, 0, 0) := by decide +kernel
theorem c_146_47 : pg_cd 146 47 = (1, 1, 0, 0, 1) := by decide +kernel
theorem c_146_48 : pg_cd 146 48 = (91, 0, 0, 0, 0) := by decide +kernel
theorem mi_146 : pg_mc 146 = 11 ∧ pg_na 146 = 3 ∧ pg_mx 146 = 4 := by decide +kernel
set_option maxRecDepth 20000 in
theorem u_146_0 {d : Nat} {S : zS} {σ τ : zI} {Q : zQ} {x1 : Int} {x2 : Int} {x3 : Int} (t : (rg x1) ∧ if 0 ≤ x1 ∧ x1 ≤ 7 then ((rg x2) ∧ if 0 ≤ x2 ∧ x2 ≤ 399 then ((rg x3) ∧ if x3 = (-1) then ((0 ≤ x2 ∧ x2 < 401 ∧ x2 < 1000) ∧ (0 ≤ x1 ∧ x1 < (σ 5 2)) ∧ Q (some (.int (wI 1))) S (uc σ 6 (u1 (σ 6) (x1 * 401 + x2) x3)) τ) else (if 1 ≤ x3 ∧ x3 ≤ 100000 then ((0 ≤ x2 ∧ x2 < 401 ∧ x2 < 1000) ∧ (0 ≤ x1 ∧ x1 < (σ 5 2)) ∧ Q (some (.int (wI 1))) S (uc σ 6 (u1 (σ 6) (x1 * 401 + x2) x3)) τ) else (Q (some (.int (wI 0))) S σ τ))) else (Q (some (.int (wI 0))) S σ τ)) else (Q (some (.int (wI 0))) S σ τ)) : wi (d + 8) 146 0 [.ref 1, .int (wI x1), .int (wI x2), .int (wI x3)] [] S σ τ Q := by
  obtain ⟨r1, t⟩ := t
  refine i3 c_146_0 rfl (i1 c_146_1 (i1 c_146_2 ?_))
  refine i81 (As := [.int (wI x1), .int (wI 0), .int (wI 7)]) (rest := []) c_146_4 mi_141 rfl rfl (Nat.le_of_ble_eq_true rfl) (Nat.le_of_ble_eq_true rfl) (q_141 r1 (by decide) (by decide) ?_)
  show wi (d + 8) 146 7 [.ref 1, .int (wI x1), .int (wI x2), .int (wI x3)] [.int (wI (if 0 ≤ x1 ∧ x1 ≤ 7 then 1 else 0))] S σ τ Q
  refine i36e c_146_7 rfl (fun hc => ?_) (fun hc => ?_)
  · have t := iT t hc
    have ha2 : 0 ≤ x1 ∧ x1 ≤ 7 := hc
    obtain ⟨r3, t⟩ := t
    refine i3 c_146_10 rfl ?_
    refine i81 (As := [.int (wI x2)]) (rest := []) c_146_11 mi_142 rfl rfl (Nat.le_of_ble_eq_true rfl) (Nat.le_of_ble_eq_true rfl) (q_142 r3 ?_)
    show wi (d + 8) 146 14 [.ref 1, .int (wI x1), .int (wI x2), .int (wI x3)] [.int (wI (if 0 ≤ x2 ∧ x2 ≤ 399 then 1 else 0))] S σ τ Q
    refine i36e c_146_14 rfl (fun hc => ?_) (fun hc => ?_)
    · have t := iT t hc
      have ha4 : 0 ≤ x2 ∧ x2 ≤ 399 := hc
      obtain ⟨r5, t⟩ := t
      refine i3 c_146_17 rfl (i1 c_146_18 ?_)
      refine i37 c_146_19 r5 (by decide) rfl (fun hc => ?_) (fun hc => ?_)
      · have t := iT t hc
        have ha6 : x3 = (-1) := hc
        obtain ⟨k7, t⟩ := t
        obtain ⟨b8, t⟩ := t
        refine i5 c_146_34 rfl (i45 c_146_35 (lo (c := 1) (kd := 111) (n := 0) rfl (by decide)) (lro (c := 1) (k := 0) (j := 2) (by decide)) (i45 c_146_38 (lo (c := 2) (kd := 108) (n := 0) rfl (by decide)) (lro (c := 2) (k := 1) (j := 5) (by decide)) (i3 c_146_41 rfl (i3 c_146_42 rfl (i3 c_146_43 rfl ?_)))))
        refine i80 (As := [.int (wI x1), .int (wI x2), .int (wI x3)]) (rest := []) c_146_44 mi_56 rfl rfl (Nat.le_of_ble_eq_true rfl) (Nat.le_of_ble_eq_true rfl) (lo (c := 5) (kd := 104) (n := 0) rfl (by decide)) (q_put (v2 := x3) (ow_wire tw_2) r1 b8 k7 rfl r5 ?_)
        show wi (d + 8) 146 47 [.ref 1, .int (wI x1), .int (wI x2), .int (wI x3)] [] S (uc σ 6 (u1 (σ 6) (x1 * 401 + x2) x3)) τ Q
        refine i1 c_146_47 ?_
        exact i91 c_146_48 (by decide) t
      · have t := iF t hc
        have ha6 : ¬ (x3 = (-1)) := hc
        refine i3 c_146_22 rfl (i1 c_146_23 (i1 c_146_24 ?_))
        refine i81 (As := [.int (wI x3), .int (wI 1), .int (wI 100000)]) (rest := []) c_146_26 mi_141 rfl rfl (Nat.le_of_ble_eq_true rfl) (Nat.le_of_ble_eq_true rfl) (q_141 r5 (by decide) (by decide) ?_)
        show wi (d + 8) 146 29 [.ref 1, .int (wI x1), .int (wI x2), .int (wI x3)] [.int (wI (if 1 ≤ x3 ∧ x3 ≤ 100000 then 1 else 0))] S σ τ Q
        refine i36f c_146_29 rfl (fun hc => ?_) (fun hc => ?_)
        · have t := iT t hc
          have ha9 : 1 ≤ x3 ∧ x3 ≤ 100000 := hc
          obtain ⟨k10, t⟩ := t
          obtain ⟨b11, t⟩ := t
          refine i5 c_146_34 rfl (i45 c_146_35 (lo (c := 1) (kd := 111) (n := 0) rfl (by decide)) (lro (c := 1) (k := 0) (j := 2) (by decide)) (i45 c_146_38 (lo (c := 2) (kd := 108) (n := 0) rfl (by decide)) (lro (c := 2) (k := 1) (j := 5) (by decide)) (i3 c_146_41 rfl (i3 c_146_42 rfl (i3 c_146_43 rfl ?_)))))
          refine i80 (As := [.int (wI x1), .int (wI x2), .int (wI x3)]) (rest := []) c_146_44 mi_56 rfl rfl (Nat.le_of_ble_eq_true rfl) (Nat.le_of_ble_eq_true rfl) (lo (c := 5) (kd := 104) (n := 0) rfl (by decide)) (q_put (v2 := x3) (ow_wire tw_2) r1 b11 k10 rfl r5 ?_)
          show wi (d + 8) 146 47 [.ref 1, .int (wI x1), .int (wI x2), .int (wI x3)] [] S (uc σ 6 (u1 (σ 6) (x1 * 401 + x2) x3)) τ Q
          refine i1 c_146_47 ?_
          exact i91 c_146_48 (by decide) t
        · have t := iF t hc
          have ha9 : ¬ (1 ≤ x3 ∧ x3 ≤ 100000) := hc
          refine i1 c_146_32 ?_
          exact i91 c_146_33 (by decide) t
    · have t := iF t hc
      have ha4 : ¬ (0 ≤ x2 ∧ x2 ≤ 399) := hc
      refine i1 c_146_32 ?_
      exact i91 c_146_33 (by decide) t
  · have t := iF t hc
    have ha2 : ¬ (0 ≤ x1 ∧ x1 ≤ 7) := hc
    refine i1 c_146_32 ?_
    exact i91 c_146_33 (by decide) t
theorem q_146 {d : Nat} {S : zS} {σ τ : zI} {Q : zQ} {what : Int} {week : Int} {v : Int} {a : Int → Int} (p0 : RT σ 2 a) (p1 : Jv a) (p2 : jv_Z a) (p3 : rg what) (p4 : rg week) (p5 : rg v) (t : ∀ (σ1 : zI), RT σ1 2 (r_price a what week v) → F2 σ σ1 → Q (some (.int (wI (if k_price a what week v then 1 else 0)))) S σ1 τ) : wc (d + 8) 146 [.ref 1, .int (wI what), .int (wI week), .int (wI v)] S σ τ Q := by
  have hC := jC p1
  have hC' := hC
  unfold jv_C at hC
  have l2 := tl_2 p0
  refine wc_of mi_146 rfl (u_146_0 ?_)
  by_cases hk : k_price a what week v
  · rw [if_pos hk] at t
    have er : r_price a what week v = _ := if_pos hk
    simp only [k_price] at hk
    have t := t (uc σ 6 (u1 (σ 6) (what * 401 + week) v)) (by
      rw [er]
      refine XW p0 hC' (fun c h1 h2 => uc_n h2) ⟨l2.1.2, ?_⟩ (fun k hk => by simp (disch := omega) only [u1_n])
      intro x x0 x1
      have q := (tW p0).2 x x0 x1
      rw [uc_s]
      refine ⟨fun w w0 w1 => ?_, ?_⟩
      · by_cases e : x = what ∧ w = week
        · obtain ⟨rfl, rfl⟩ := e
          rw [u1_s, u1_s]
        · rw [u1_n (by omega), u1_n (by omega)]
          exact q.1 w w0 w1
      · rw [u1_n (by omega), u1_n (by omega)]
        exact q.2) (fun c hc => uc_n (by omega))
    repeat' (first | exact t | refine ⟨a, p0, ?_⟩ | refine ⟨by assumption, ?_⟩ | refine ⟨_, rfl, by omega, ?_⟩ | refine ⟨by omega, ?_⟩ | refine ifI (fun _ => ?_) (fun _ => ?_) | (exfalso; omega))
  · rw [if_neg hk] at t
    have er : r_price a what week v = a := if_neg hk
    have t := t σ (by rw [er]; exact p0) (fun _ _ => rfl)
    simp only [k_price] at hk
    repeat' (first | exact t | refine ⟨a, p0, ?_⟩ | refine ⟨by assumption, ?_⟩ | refine ⟨_, rfl, by omega, ?_⟩ | refine ⟨by omega, ?_⟩ | refine ifI (fun _ => ?_) (fun _ => ?_) | (exfalso; omega))
-- method 147: MillTown.mean(II)Z
theorem c_147_0 : pg_cd 147 0 = (3, 1, 0, 1, 0) := by decide +kernel
theorem c_147_1 : pg_cd 147 1 = (1, 1, 0, 0, 0) := by decide +kernel
theorem c_147_2 : pg_cd 147 2 = (1, 2, 0, 0, 7) := by decide +kernel
theorem c_147_4 : pg_cd 147 4 = (81, 141, 85, 0, 0) := by decide +kernel
theorem c_147_7 : pg_cd 147 7 = (36, 3, 0, 0, 13) := by decide +kernel
theorem c_147_10 : pg_cd 147 10 = (3, 1, 0, 2, 0) := by decide +kernel
theorem c_147_11 : pg_cd 147 11 = (1, 1, 0, 0, 1) := by decide +kernel
theorem c_147_12 : pg_cd 147 12 = (1, 2, 100, 0, 100000) := by decide +kernel
theorem c_147_14 : pg_cd 147 14 = (81, 141, 85, 0, 0) := by decide +kernel
theorem c_147_17 : pg_cd 147 17 = (36, 3, 0, 1, 5) := by decide +kernel
theorem c_147_20 : pg_cd 147 20 = (1, 1, 0, 0, 0) := by decide +kernel
theorem c_147_21 : pg_cd 147 21 = (91, 0, 0, 0, 0) := by decide +kernel
theorem c_147_22 : pg_cd 147 22 = (5, 1, 0, 0, 0) := by decide +kernel
theorem c_147_23 : pg_cd 147 23 = (45, 11, 12, 0, 0) := by decide +kernel
theorem c_147_26 : pg_cd 147 26 = (45, 8, 101, 1, 0) := by decide +kernel
theorem c_147_29 : pg_cd 147 29 = (3, 1, 0, 1, 0) := by decide +kernel
theorem c_147_30 : pg_cd 147 30 = (1, 3, 0, 0, 400) := by decide +kernel
theorem c_147_33 : pg_cd 147 33 = (3, 1, 0, 2, 0) := by decide +kernel
theorem c_147_34 : pg_cd 147 34 = (80, 56, 104, 0, 0) := by decide +kernel
theorem c_147_37 : pg_cd 147 37 = (1, 1, 0, 0, 1) := by decide +kernel
theorem c_147_38 : pg_cd 147 38 = (91, 0, 0, 0, 0) := by decide +kernel
theorem mi_147 : pg_mc 147 = 11 ∧ pg_na 147 = 2 ∧ pg_mx 147 = 3 := by decide +kernel
set_option maxRecDepth 20000 in
theorem u_147_0 {d : Nat} {S : zS} {σ τ : zI} {Q : zQ} {x1 : Int} {x2 : Int} (t : (rg x1) ∧ if 0 ≤ x1 ∧ x1 ≤ 7 then ((rg x2) ∧ if 1 ≤ x2 ∧ x2 ≤ 100000 then ((0 ≤ x1 ∧ x1 < (σ 5 2)) ∧ Q (some (.int (wI 1))) S (uc σ 6 (u1 (σ 6) (x1 * 401 + 400) x2)) τ) else (Q (some (.int (wI 0))) S σ τ)) else (Q (some (.int (wI 0))) S σ τ)) : wi (d + 8) 147 0 [.ref 1, .int (wI x1), .int (wI x2)] [] S σ τ Q := by
  obtain ⟨r1, t⟩ := t
  refine i3 c_147_0 rfl (i1 c_147_1 (i1 c_147_2 ?_))
  refine i81 (As := [.int (wI x1), .int (wI 0), .int (wI 7)]) (rest := []) c_147_4 mi_141 rfl rfl (Nat.le_of_ble_eq_true rfl) (Nat.le_of_ble_eq_true rfl) (q_141 r1 (by decide) (by decide) ?_)
  show wi (d + 8) 147 7 [.ref 1, .int (wI x1), .int (wI x2)] [.int (wI (if 0 ≤ x1 ∧ x1 ≤ 7 then 1 else 0))] S σ τ Q
  refine i36e c_147_7 rfl (fun hc => ?_) (fun hc => ?_)
  · have t := iT t hc
    have ha2 : 0 ≤ x1 ∧ x1 ≤ 7 := hc
    obtain ⟨r3, t⟩ := t
    refine i3 c_147_10 rfl (i1 c_147_11 (i1 c_147_12 ?_))
    refine i81 (As := [.int (wI x2), .int (wI 1), .int (wI 100000)]) (rest := []) c_147_14 mi_141 rfl rfl (Nat.le_of_ble_eq_true rfl) (Nat.le_of_ble_eq_true rfl) (q_141 r3 (by decide) (by decide) ?_)
    show wi (d + 8) 147 17 [.ref 1, .int (wI x1), .int (wI x2)] [.int (wI (if 1 ≤ x2 ∧ x2 ≤ 100000 then 1 else 0))] S σ τ Q
    refine i36f c_147_17 rfl (fun hc => ?_) (fun hc => ?_)
    · have t := iT t hc
      have ha4 : 1 ≤ x2 ∧ x2 ≤ 100000 := hc
      obtain ⟨b5, t⟩ := t
      refine i5 c_147_22 rfl (i45 c_147_23 (lo (c := 1) (kd := 111) (n := 0) rfl (by decide)) (lro (c := 1) (k := 0) (j := 2) (by decide)) (i45 c_147_26 (lo (c := 2) (kd := 108) (n := 0) rfl (by decide)) (lro (c := 2) (k := 1) (j := 5) (by decide)) (i3 c_147_29 rfl (i1 c_147_30 (i3 c_147_33 rfl ?_)))))
      refine i80 (As := [.int (wI x1), .int (wI 400), .int (wI x2)]) (rest := []) c_147_34 mi_56 rfl rfl (Nat.le_of_ble_eq_true rfl) (Nat.le_of_ble_eq_true rfl) (lo (c := 5) (kd := 104) (n := 0) rfl (by decide)) (q_put (v2 := x2) (ow_wire tw_2) r1 b5 (by decide) rfl r3 ?_)
      show wi (d + 8) 147 37 [.ref 1, .int (wI x1), .int (wI x2)] [] S (uc σ 6 (u1 (σ 6) (x1 * 401 + 400) x2)) τ Q
      refine i1 c_147_37 ?_
      exact i91 c_147_38 (by decide) t
    · have t := iF t hc
      have ha4 : ¬ (1 ≤ x2 ∧ x2 ≤ 100000) := hc
      refine i1 c_147_20 ?_
      exact i91 c_147_21 (by decide) t
  · have t := iF t hc
    have ha2 : ¬ (0 ≤ x1 ∧ x1 ≤ 7) := hc
    refine i1 c_147_20 ?_
    exact i91 c_147_21 (by decide) t
theorem q_147 {d : Nat} {S : zS} {σ τ : zI} {Q : zQ} {what : Int} {v : Int} {a : Int → Int} (p0 : RT σ 2 a) (p1 : Jv a) (p2 : jv_Z a) (p3 : rg what) (p4 : rg v) (t : ∀ (σ1 : zI), RT σ1 2 (r_mean a what v) → F2 σ σ1 → Q (some (.int (wI (if k_mean a what v then 1 else 0)))) S σ1 τ) : wc (d + 8) 147 [.ref 1, .int (wI what), .int (wI v)] S σ τ Q := by
  have hC := jC p1
  have hC' := hC
  unfold jv_C at hC
  have l2 := tl_2 p0
  have lS := tl_S p0
  refine wc_of mi_147 rfl (u_147_0 ?_)
  by_cases hk : k_mean a what v
  · rw [if_pos hk] at t
    have er : r_mean a what v = _ := if_pos hk
    simp only [k_mean] at hk
    repeat' (first | refine ⟨a, p0, ?_⟩ | refine ⟨by assumption, ?_⟩ | refine ⟨_, rfl, by omega, ?_⟩ | refine ⟨by omega, ?_⟩ | rw [if_pos (by omega)] | rw [if_neg (by omega)])
    refine t _ ?_ ?_
    · rw [er]
      refine XW p0 hC' (fun c h1 h2 => uc_n h2) ⟨l2.1.2, ?_⟩ (fun k hk => by simp (disch := omega) only [u1_n])
      intro x x0 x1
      have q := (tW p0).2 x x0 x1
      rw [uc_s]
      refine ⟨fun w w0 w1 => ?_, ?_⟩
      · rw [u1_n (by omega), u1_n (by omega)]
        exact q.1 w w0 w1
      · by_cases e : x = what
        · subst e
          rw [u1_s, u1_s]
        · rw [u1_n (by omega), u1_n (by omega)]
          exact q.2
    · intro c hc
      simp (disch := omega) only [uc_n]
  · rw [if_neg hk] at t
    have er : r_mean a what v = a := if_neg hk
    have t := t σ (by rw [er]; exact p0) (fun _ _ => rfl)
    simp only [k_mean] at hk
    repeat' (first | exact t | refine ⟨a, p0, ?_⟩ | refine ⟨by assumption, ?_⟩ | refine ⟨_, rfl, by omega, ?_⟩ | refine ⟨by omega, ?_⟩ | refine ifI (fun _ => ?_) (fun _ => ?_) | (exfalso; omega))
-- method 149: MillTown.mill(IIII)I
theorem c_149_0 : pg_cd 149 0 = (3, 1, 0, 1, 0) := by decide +kernel
theorem c_149_1 : pg_cd 149 1 = (1, 1, 0, 0, 0) := by decide +kernel
theorem c_149_2 : pg_cd 149 2 = (1, 2, 0, 0, 60) := by decide +kernel
theorem c_149_4 : pg_cd 149 4 = (81, 141, 85, 0, 0) := by decide +kernel
theorem c_149_7 : pg_cd 149 7 = (36, 3, 0, 0, 43) := by decide +kernel
theorem c_149_10 : pg_cd 149 10 = (3, 1, 0, 2, 0) := by decide +kernel
theorem c_149_11 : pg_cd 149 11 = (1, 2, 0, 0, 50) := by decide +kernel
theorem c_149_13 : pg_cd 149 13 = (1, 3, 0, 0, 200) := by decide +kernel
theorem c_149_16 : pg_cd 149 16 = (81, 141, 85, 0, 0) := by decide +kernel
theorem c_149_19 : pg_cd 149 19 = (36, 3, 0, 0, 31) := by decide +kernel
theorem c_149_22 : pg_cd 149 22 = (3, 1, 0, 3, 0) := by decide +kernel
theorem c_149_23 : pg_cd 149 23 = (1, 1, 0, 0, 0) := by decide +kernel
theorem c_149_24 : pg_cd 149 24 = (1, 2, 112, 0, 1000000) := by decide +kernel
theorem c_149_26 : pg_cd 149 26 = (81, 141, 85, 0, 0) := by decide +kernel
theorem c_149_29 : pg_cd 149 29 = (36, 3, 0, 0, 21) := by decide +kernel
theorem c_149_32 : pg_cd 149 32 = (3, 2, 0, 4, 0) := by decide +kernel
theorem c_149_34 : pg_cd 149 34 = (1, 3, 0, 0, (-1000)) := by decide +kernel
theorem c_149_37 : pg_cd 149 37 = (1, 3, 0, 0, 1000) := by decide +kernel
theorem c_149_40 : pg_cd 149 40 = (81, 141, 85, 0, 0) := by decide +kernel
theorem c_149_43 : pg_cd 149 43 = (36, 3, 0, 0, 7) := by decide +kernel
theorem c_149_46 : pg_cd 149 46 = (1, 1, 0, 0, 1) := by decide +kernel
theorem c_149_47 : pg_cd 149 47 = (38, 3, 0, 0, 4) := by decide +kernel
theorem c_149_50 : pg_cd 149 50 = (1, 1, 0, 0, 0) := by decide +kernel
theorem c_149_51 : pg_cd 149 51 = (6, 2, 0, 5, 0) := by decide +kernel
theorem c_149_53 : pg_cd 149 53 = (3, 2, 0, 5, 0) := by decide +kernel
theorem c_149_55 : pg_cd 149 55 = (36, 3, 0, 0, 18) := by decide +kernel
theorem c_149_58 : pg_cd 149 58 = (5, 1, 0, 0, 0) := by decide +kernel
theorem c_149_59 : pg_cd 149 59 = (45, 11, 12, 0, 0) := by decide +kernel
theorem c_149_62 : pg_cd 149 62 = (3, 1, 0, 1, 0) := by decide +kernel
theorem c_149_63 : pg_cd 149 63 = (3, 1, 0, 2, 0) := by decide +kernel
theorem c_149_64 : pg_cd 149 64 = (3, 1, 0, 3, 0) := by decide +kernel
theorem c_149_65 : pg_cd 149 65 = (3, 2, 0, 4, 0) := by decide +kernel
theorem c_149_67 : pg_cd 149 67 = (80, 91, 113, 0, 0) := by decide +kernel
theorem c_149_70 : pg_cd 149 70 = (38, 3, 0, 0, 4) := by decide +kernel
theorem c_149_73 : pg_cd 149 73 = (1, 1, 0, 0, (-1)) := by decide +kernel
theorem c_149_74 : pg_cd 149 74 = (90, 0, 0, 0, 0) := by decide +kernel
theorem mi_149 : pg_mc 149 = 11 ∧ pg_na 149 = 4 ∧ pg_mx 149 = 6 := by decide +kernel
set_option maxRecDepth 20000 in
theorem u_149_0 {d : Nat} {S : zS} {σ τ : zI} {Q : zQ} {x1 : Int} {x2 : Int} {x3 : Int} {x4 : Int} (t : (rg x1) ∧ if 0 ≤ x1 ∧ x1 ≤ 60 then ((rg x2) ∧ if 50 ≤ x2 ∧ x2 ≤ 200 then ((rg x3) ∧ if 0 ≤ x3 ∧ x3 ≤ 1000000 then ((rg x4) ∧ if (-1000) ≤ x4 ∧ x4 ≤ 1000 then (Q (some (.int (wI (if σ 7 2 < 8 then σ 7 2 else -1)))) S (uc (uc σ 8 (if (σ 7) 2 < 8 then u1 (u1 (u1 (u1 (u1 (u1 (fl_ ((σ 8)) ((σ 7) 2 * 13) ((σ 7) 2 * 13 + 13) 0) ((σ 7) 2 * 13 + 0) (x1)) ((σ 7) 2 * 13 + 10) (x2)) ((σ 7) 2 * 13 + 2) (x3)) ((σ 7) 2 * 13 + 11) (x4)) ((σ 7) 2 * 13 + 6) (-1)) ((σ 7) 2 * 13 + 8) (-1) else (σ 8))) 7 (if (σ 7) 2 < 8 then u1 ((σ 7)) 2 ((σ 7) 2 + 1) else (σ 7))) τ) else (Q (some (.int (wI (-1)))) S σ τ)) else (Q (some (.int (wI (-1)))) S σ τ)) else (Q (some (.int (wI (-1)))) S σ τ)) else (Q (some (.int (wI (-1)))) S σ τ)) : wi (d + 8) 149 0 [.ref 1, .int (wI x1), .int (wI x2), .int (wI x3), .int (wI x4), .retAddr 0] [] S σ τ Q := by
  obtain ⟨r1, t⟩ := t
  refine i3 c_149_0 rfl (i1 c_149_1 (i1 c_149_2 ?_))
  refine i81 (As := [.int (wI x1), .int (wI 0), .int (wI 60)]) (rest := []) c_149_4 mi_141 rfl rfl (Nat.le_of_ble_eq_true rfl) (Nat.le_of_ble_eq_true rfl) (q_141 r1 (by decide) (by decide) ?_)
  show wi (d + 8) 149 7 [.ref 1, .int (wI x1), .int (wI x2), .int (wI x3), .int (wI x4), .retAddr 0] [.int (wI (if 0 ≤ x1 ∧ x1 ≤ 60 then 1 else 0))] S σ τ Q
  refine i36e c_149_7 rfl (fun hc => ?_) (fun hc => ?_)
  · have t := iT t hc
    have ha2 : 0 ≤ x1 ∧ x1 ≤ 60 := hc
    obtain ⟨r3, t⟩ := t
    refine i3 c_149_10 rfl (i1 c_149_11 (i1 c_149_13 ?_))
    refine i81 (As := [.int (wI x2), .int (wI 50), .int (wI 200)]) (rest := []) c_149_16 mi_141 rfl rfl (Nat.le_of_ble_eq_true rfl) (Nat.le_of_ble_eq_true rfl) (q_141 r3 (by decide) (by decide) ?_)
    show wi (d + 8) 149 19 [.ref 1, .int (wI x1), .int (wI x2), .int (wI x3), .int (wI x4), .retAddr 0] [.int (wI (if 50 ≤ x2 ∧ x2 ≤ 200 then 1 else 0))] S σ τ Q
    refine i36e c_149_19 rfl (fun hc => ?_) (fun hc => ?_)
    · have t := iT t hc
      have ha4 : 50 ≤ x2 ∧ x2 ≤ 200 := hc
      obtain ⟨r5, t⟩ := t
      refine i3 c_149_22 rfl (i1 c_149_23 (i1 c_149_24 ?_))
      refine i81 (As := [.int (wI x3), .int (wI 0), .int (wI 1000000)]) (rest := []) c_149_26 mi_141 rfl rfl (Nat.le_of_ble_eq_true rfl) (Nat.le_of_ble_eq_true rfl) (q_141 r5 (by decide) (by decide) ?_)
      show wi (d + 8) 149 29 [.ref 1, .int (wI x1), .int (wI x2), .int (wI x3), .int (wI x4), .retAddr 0] [.int (wI (if 0 ≤ x3 ∧ x3 ≤ 1000000 then 1 else 0))] S σ τ Q
      refine i36e c_149_29 rfl (fun hc => ?_) (fun hc => ?_)
      · have t := iT t hc
        have ha6 : 0 ≤ x3 ∧ x3 ≤ 1000000 := hc
        obtain ⟨r7, t⟩ := t
        refine i3 c_149_32 rfl (i1 c_149_34 (i1 c_149_37 ?_))
        refine i81 (As := [.int (wI x4), .int (wI (-1000)), .int (wI 1000)]) (rest := []) c_149_40 mi_141 rfl rfl (Nat.le_of_ble_eq_true rfl) (Nat.le_of_ble_eq_true rfl) (q_141 r7 (by decide) (by decide) ?_)
        show wi (d + 8) 149 43 [.ref 1, .int (wI x1), .int (wI x2), .int (wI x3), .int (wI x4), .retAddr 0] [.int (wI (if (-1000) ≤ x4 ∧ x4 ≤ 1000 then 1 else 0))] S σ τ Q
        refine i36e c_149_43 rfl (fun hc => ?_) (fun hc => ?_)
        · have t := iT t hc
          have ha8 : (-1000) ≤ x4 ∧ x4 ≤ 1000 := hc
          refine i1 c_149_46 (i38 c_149_47 rfl (i6 (L' := [.ref 1, .int (wI x1), .int (wI x2), .int (wI x3), .int (wI x4), .int (wI 1)]) c_149_51 rfl (i3 c_149_53 rfl (i36k (pc1 := 58) c_149_55 (by decide) (i5 c_149_58 rfl (i45 c_149_59 (lo (c := 1) (kd := 111) (n := 0) rfl (by decide)) (lro (c := 1) (k := 0) (j := 2) (by decide)) (i3 c_149_62 rfl (i3 c_149_63 rfl (i3 c_149_64 rfl (i3 c_149_65 rfl ?_))))))))))
          refine i80 (As := [.int (wI x1), .int (wI x2), .int (wI x3), .int (wI x4)]) (rest := []) c_149_67 mi_91 rfl rfl (Nat.le_of_ble_eq_true rfl) (Nat.le_of_ble_eq_true rfl) (lo (c := 2) (kd := 108) (n := 0) rfl (by decide)) (q_91 tw_2 r1 r3 r5 r7 ?_)
          show wi (d + 8) 149 70 [.ref 1, .int (wI x1), .int (wI x2), .int (wI x3), .int (wI x4), .int (wI 1)] [.int (wI (if σ 7 2 < 8 then σ 7 2 else -1))] S (uc (uc σ 8 (if (σ 7) 2 < 8 then u1 (u1 (u1 (u1 (u1 (u1 (fl_ ((σ 8)) ((σ 7) 2 * 13) ((σ 7) 2 * 13 + 13) 0) ((σ 7) 2 * 13 + 0) (x1)) ((σ 7) 2 * 13 + 10) (x2)) ((σ 7) 2 * 13 + 2) (x3)) ((σ 7) 2 * 13 + 11) (x4)) ((σ 7) 2 * 13 + 6) (-1)) ((σ 7) 2 * 13 + 8) (-1) else (σ 8))) 7 (if (σ 7) 2 < 8 then u1 ((σ 7)) 2 ((σ 7) 2 + 1) else (σ 7))) τ Q
          refine i38 c_149_70 rfl ?_
          exact i90 c_149_74 t
        · have t := iF t hc
          have ha8 : ¬ ((-1000) ≤ x4 ∧ x4 ≤ 1000) := hc
          refine i1 c_149_50 (i6 (L' := [.ref 1, .int (wI x1), .int (wI x2), .int (wI x3), .int (wI x4), .int (wI 0)]) c_149_51 rfl (i3 c_149_53 rfl (i36k (pc1 := 73) c_149_55 (by decide) (i1 c_149_73 ?_))))
          exact i90 c_149_74 t
      · have t := iF t hc
        have ha6 : ¬ (0 ≤ x3 ∧ x3 ≤ 1000000) := hc
        refine i1 c_149_50 (i6 (L' := [.ref 1, .int (wI x1), .int (wI x2), .int (wI x3), .int (wI x4), .int (wI 0)]) c_149_51 rfl (i3 c_149_53 rfl (i36k (pc1 := 73) c_149_55 (by decide) (i1 c_149_73 ?_))))
        exact i90 c_149_74 t
    · have t := iF t hc
      have ha4 : ¬ (50 ≤ x2 ∧ x2 ≤ 200) := hc
      refine i1 c_149_50 (i6 (L' := [.ref 1, .int (wI x1), .int (wI x2), .int (wI x3), .int (wI x4), .int (wI 0)]) c_149_51 rfl (i3 c_149_53 rfl (i36k (pc1 := 73) c_149_55 (by decide) (i1 c_149_73 ?_))))
      exact i90 c_149_74 t
  · have t := iF t hc
    have ha2 : ¬ (0 ≤ x1 ∧ x1 ≤ 60) := hc
    refine i1 c_149_50 (i6 (L' := [.ref 1, .int (wI x1), .int (wI x2), .int (wI x3), .int (wI x4), .int (wI 0)]) c_149_51 rfl (i3 c_149_53 rfl (i36k (pc1 := 73) c_149_55 (by decide) (i1 c_149_73 ?_))))
    exact i90 c_149_74 t
theorem q_149 {d : Nat} {S : zS} {σ τ : zI} {Q : zQ} {looms : Int} {speed : Int} {coins : Int} {least : Int} {a : Int → Int} (p0 : RT σ 2 a) (p1 : Jv a) (p2 : jv_Z a) (p3 : rg looms) (p4 : rg speed) (p5 : rg coins) (p6 : rg least) (t : ∀ (σ1 : zI), RT σ1 2 (r_mill a looms speed coins least) → F2 σ σ1 → Q (some (.int (wI (v_mill a looms speed coins least)))) S σ1 τ) : wc (d + 8) 149 [.ref 1, .int (wI looms), .int (wI speed), .int (wI coins), .int (wI least)] S σ τ Q := by
  have hC := jC p1
  have hC' := hC
  unfold jv_C at hC
  have l2 := tl_2 p0
  have lS := tl_S p0
  refine wc_of mi_149 rfl (u_149_0 ?_)
  by_cases hk : k_mill a looms speed coins least
  · unfold v_mill at t
    rw [if_pos hk] at t
    have er : r_mill a looms speed coins least = _ := if_pos hk
    simp only [k_mill] at hk
    repeat' (first | refine ⟨a, p0, ?_⟩ | refine ⟨by assumption, ?_⟩ | refine ⟨_, rfl, by omega, ?_⟩ | refine ⟨by omega, ?_⟩ | rw [if_pos (by omega)] | rw [if_neg (by omega)])
    rw [show a 1 + 1 - 1 = σ 7 2 by omega] at t
    refine t _ ?_ ?_
    · rw [er]
      refine XM p0 hC' (fun c h1 h2 => by rw [uc_n h1, uc_n h2]) ⟨?_, ?_⟩ (fun k hk => by simp (disch := omega) only [u1_n])
      · rw [uc_s, u1_s, u1_s, l2.2.1]
      · intro x x0 x1
        rw [u1_s] at x1
        have z := fun k => p2.1 (a 1) k (by omega) (by omega)
        rw [uc_n (by omega), uc_s]
        by_cases e : x = a 1
        · subst e
          simp (disch := omega) only [u1_n, u1_s, l2.2.1, fl_in, z]
          simp
        · have q := (tM p0).2 x x0 (by omega)
          simp (disch := omega) only [u1_n, l2.2.1, fl_out]
          exact q
    · intro c hc
      simp (disch := omega) only [uc_n]
  · unfold v_mill at t
    rw [if_neg hk] at t
    have er : r_mill a looms speed coins least = a := if_neg hk
    have t := t σ (by rw [er]; exact p0) (fun _ _ => rfl)
    simp only [k_mill] at hk
    repeat' (first | exact t | refine ⟨a, p0, ?_⟩ | refine ⟨by assumption, ?_⟩ | refine ⟨_, rfl, by omega, ?_⟩ | refine ⟨by omega, ?_⟩ | refine ifI (fun _ => ?_) (fun _ => ?_) | (rw [if_neg (show ¬ σ 7 2 < 8 by omega), if_neg (show ¬ σ 7 2 < 8 by omega), if_neg (show ¬ σ 7 2 < 8 by omega), uc_id, uc_id]; exact t) | (exfalso; omega))
-- method 150: MillTown.shop(III)I
theorem c_150_0 : pg_cd 150 0 = (3, 1, 0, 1, 0) := by decide +kernel
theorem c_150_1 : pg_cd 150 1 = (1, 1, 0, 0, 0) := by decide +kernel
theorem c_150_2 : pg_cd 150 2 = (1, 2, 100, 0, 100000) := by decide +kernel
theorem c_150_4 : pg_cd 150 4 = (81, 141, 85, 0, 0) := by decide +kernel
theorem c_150_7 : pg_cd 150 7 = (36, 3, 0, 0, 29) := by decide +kernel
theorem c_150_10 : pg_cd 150 10 = (3, 1, 0, 2, 0) := by decide +kernel
theorem c_150_11 : pg_cd 150 11 = (1, 1, 0, 0, 0) := by decide +kernel
theorem c_150_12 : pg_cd 150 12 = (1, 3, 0, 0, 400) := by decide +kernel
theorem c_150_15 : pg_cd 150 15 = (81, 141, 85, 0, 0) := by decide +kernel
theorem c_150_18 : pg_cd 150 18 = (36, 3, 0, 0, 18) := by decide +kernel
theorem c_150_21 : pg_cd 150 21 = (3, 1, 0, 3, 0) := by decide +kernel
theorem c_150_22 : pg_cd 150 22 = (1, 1, 0, 0, 0) := by decide +kernel
theorem c_150_23 : pg_cd 150 23 = (1, 3, 0, 0, 1000) := by decide +kernel
theorem c_150_26 : pg_cd 150 26 = (81, 141, 85, 0, 0) := by decide +kernel
theorem c_150_29 : pg_cd 150 29 = (36, 3, 0, 0, 7) := by decide +kernel
theorem c_150_32 : pg_cd 150 32 = (1, 1, 0, 0, 1) := by decide +kernel
theorem c_150_33 : pg_cd 150 33 = (38, 3, 0, 0, 4) := by decide +kernel
theorem c_150_36 : pg_cd 150 36 = (1, 1, 0, 0, 0) := by decide +kernel
theorem c_150_37 : pg_cd 150 37 = (6, 2, 0, 4, 0) := by decide +kernel
theorem c_150_39 : pg_cd 150 39 = (3, 2, 0, 4, 0) := by decide +kernel
theorem c_150_41 : pg_cd 150 41 = (36, 3, 0, 0, 16) := by decide +kernel
theorem c_150_44 : pg_cd 150 44 = (5, 1, 0, 0, 0) := by decide +kernel
theorem c_150_45 : pg_cd 150 45 = (45, 11, 12, 0, 0) := by decide +kernel
theorem c_150_48 : pg_cd 150 48 = (3, 1, 0, 1, 0) := by decide +kernel
theorem c_150_49 : pg_cd 150 49 = (3, 1, 0, 2, 0) := by decide +kernel
theorem c_150_50 : pg_cd 150 50 = (3, 1, 0, 3, 0) := by decide +kernel
theorem c_150_51 : pg_cd 150 51 = (80, 92, 117, 0, 0) := by decide +kernel
theorem c_150_54 : pg_cd 150 54 = (38, 3, 0, 0, 4) := by decide +kernel
theorem c_150_57 : pg_cd 150 57 = (1, 1, 0, 0, (-1)) := by decide +kernel
theorem c_150_58 : pg_cd 150 58 = (90, 0, 0, 0, 0) := by decide +kernel
theorem mi_150 : pg_mc 150 = 11 ∧ pg_na 150 = 3 ∧ pg_mx 150 = 5 := by decide +kernel
set_option maxRecDepth 20000 in
theorem u_150_0 {d : Nat} {S : zS} {σ τ : zI} {Q : zQ} {x1 : Int} {x2 : Int} {x3 : Int} (t : (rg x1) ∧ if 0 ≤ x1 ∧ x1 ≤ 100000 then ((rg x2) ∧ if 0 ≤ x2 ∧ x2 ≤ 400 then ((rg x3) ∧ if 0 ≤ x3 ∧ x3 ≤ 1000 then (Q (some (.int (wI (if σ 9 2 < 4 then σ 9 2 else -1)))) S (uc (uc σ 10 (if (σ 9) 2 < 4 then u1 (u1 (u1 (fl_ ((σ 10)) ((σ 9) 2 * 5) ((σ 9) 2 * 5 + 5) 0) ((σ 9) 2 * 5 + 0) (x1)) ((σ 9) 2 * 5 + 3) (x2)) ((σ 9) 2 * 5 + 4) (x3) else (σ 10))) 9 (if (σ 9) 2 < 4 then u1 ((σ 9)) 2 ((σ 9) 2 + 1) else (σ 9))) τ) else (Q (some (.int (wI (-1)))) S σ τ)) else (Q (some (.int (wI (-1)))) S σ τ)) else (Q (some (.int (wI (-1)))) S σ τ)) : wi (d + 8) 150 0 [.ref 1, .int (wI x1), .int (wI x2), .int (wI x3), .retAddr 0] [] S σ τ Q := by
  obtain ⟨r1, t⟩ := t
  refine i3 c_150_0 rfl (i1 c_150_1 (i1 c_150_2 ?_))
  refine i81 (As := [.int (wI x1), .int (wI 0), .int (wI 100000)]) (rest := []) c_150_4 mi_141 rfl rfl (Nat.le_of_ble_eq_true rfl) (Nat.le_of_ble_eq_true rfl) (q_141 r1 (by decide) (by decide) ?_)
  show wi (d + 8) 150 7 [.ref 1, .int (wI x1), .int (wI x2), .int (wI x3), .retAddr 0] [.int (wI (if 0 ≤ x1 ∧ x1 ≤ 100000 then 1 else 0))] S σ τ Q
  refine i36e c_150_7 rfl (fun hc => ?_) (fun hc => ?_)
  · have t := iT t hc
    have ha2 : 0 ≤ x1 ∧ x1 ≤ 100000 := hc
    obtain ⟨r3, t⟩ := t
    refine i3 c_150_10 rfl (i1 c_150_11 (i1 c_150_12 ?_))
    refine i81 (As := [.int (wI x2), .int (wI 0), .int (wI 400)]) (rest := []) c_150_15 mi_141 rfl rfl (Nat.le_of_ble_eq_true rfl) (Nat.le_of_ble_eq_true rfl) (q_141 r3 (by decide) (by decide) ?_)
    show wi (d + 8) 150 18 [.ref 1, .int (wI x1), .int (wI x2), .int (wI x3), .retAddr 0] [.int (wI (if 0 ≤ x2 ∧ x2 ≤ 400 then 1 else 0))] S σ τ Q
    refine i36e c_150_18 rfl (fun hc => ?_) (fun hc => ?_)
    · have t := iT t hc
      have ha4 : 0 ≤ x2 ∧ x2 ≤ 400 := hc
      obtain ⟨r5, t⟩ := t
      refine i3 c_150_21 rfl (i1 c_150_22 (i1 c_150_23 ?_))
      refine i81 (As := [.int (wI x3), .int (wI 0), .int (wI 1000)]) (rest := []) c_150_26 mi_141 rfl rfl (Nat.le_of_ble_eq_true rfl) (Nat.le_of_ble_eq_true rfl) (q_141 r5 (by decide) (by decide) ?_)
      show wi (d + 8) 150 29 [.ref 1, .int (wI x1), .int (wI x2), .int (wI x3), .retAddr 0] [.int (wI (if 0 ≤ x3 ∧ x3 ≤ 1000 then 1 else 0))] S σ τ Q
      refine i36e c_150_29 rfl (fun hc => ?_) (fun hc => ?_)
      · have t := iT t hc
        have ha6 : 0 ≤ x3 ∧ x3 ≤ 1000 := hc
        refine i1 c_150_32 (i38 c_150_33 rfl (i6 (L' := [.ref 1, .int (wI x1), .int (wI x2), .int (wI x3), .int (wI 1)]) c_150_37 rfl (i3 c_150_39 rfl (i36k (pc1 := 44) c_150_41 (by decide) (i5 c_150_44 rfl (i45 c_150_45 (lo (c := 1) (kd := 111) (n := 0) rfl (by decide)) (lro (c := 1) (k := 0) (j := 2) (by decide)) (i3 c_150_48 rfl (i3 c_150_49 rfl (i3 c_150_50 rfl ?_)))))))))
        refine i80 (As := [.int (wI x1), .int (wI x2), .int (wI x3)]) (rest := []) c_150_51 mi_92 rfl rfl (Nat.le_of_ble_eq_true rfl) (Nat.le_of_ble_eq_true rfl) (lo (c := 2) (kd := 108) (n := 0) rfl (by decide)) (q_92 tw_2 r1 r3 r5 ?_)
        show wi (d + 8) 150 54 [.ref 1, .int (wI x1), .int (wI x2), .int (wI x3), .int (wI 1)] [.int (wI (if σ 9 2 < 4 then σ 9 2 else -1))] S (uc (uc σ 10 (if (σ 9) 2 < 4 then u1 (u1 (u1 (fl_ ((σ 10)) ((σ 9) 2 * 5) ((σ 9) 2 * 5 + 5) 0) ((σ 9) 2 * 5 + 0) (x1)) ((σ 9) 2 * 5 + 3) (x2)) ((σ 9) 2 * 5 + 4) (x3) else (σ 10))) 9 (if (σ 9) 2 < 4 then u1 ((σ 9)) 2 ((σ 9) 2 + 1) else (σ 9))) τ Q
        refine i38 c_150_54 rfl ?_
        exact i90 c_150_58 t
      · have t := iF t hc
        have ha6 : ¬ (0 ≤ x3 ∧ x3 ≤ 1000) := hc
        refine i1 c_150_36 (i6 (L' := [.ref 1, .int (wI x1), .int (wI x2), .int (wI x3), .int (wI 0)]) c_150_37 rfl (i3 c_150_39 rfl (i36k (pc1 := 57) c_150_41 (by decide) (i1 c_150_57 ?_))))
        exact i90 c_150_58 t
    · have t := iF t hc
      have ha4 : ¬ (0 ≤ x2 ∧ x2 ≤ 400) := hc
      refine i1 c_150_36 (i6 (L' := [.ref 1, .int (wI x1), .int (wI x2), .int (wI x3), .int (wI 0)]) c_150_37 rfl (i3 c_150_39 rfl (i36k (pc1 := 57) c_150_41 (by decide) (i1 c_150_57 ?_))))
      exact i90 c_150_58 t
  · have t := iF t hc
    have ha2 : ¬ (0 ≤ x1 ∧ x1 ≤ 100000) := hc
    refine i1 c_150_36 (i6 (L' := [.ref 1, .int (wI x1), .int (wI x2), .int (wI x3), .int (wI 0)]) c_150_37 rfl (i3 c_150_39 rfl (i36k (pc1 := 57) c_150_41 (by decide) (i1 c_150_57 ?_))))
    exact i90 c_150_58 t
theorem q_150 {d : Nat} {S : zS} {σ τ : zI} {Q : zQ} {coins : Int} {trust : Int} {rent : Int} {a : Int → Int} (p0 : RT σ 2 a) (p1 : Jv a) (p2 : jv_Z a) (p3 : rg coins) (p4 : rg trust) (p5 : rg rent) (t : ∀ (σ1 : zI), RT σ1 2 (r_shop a coins trust rent) → F2 σ σ1 → Q (some (.int (wI (v_shop a coins trust rent)))) S σ1 τ) : wc (d + 8) 150 [.ref 1, .int (wI coins), .int (wI trust), .int (wI rent)] S σ τ Q := by
  have hC := jC p1
  have hC' := hC
  unfold jv_C at hC
  have l2 := tl_2 p0
  have lS := tl_S p0
  refine wc_of mi_150 rfl (u_150_0 ?_)
  by_cases hk : k_shop a coins trust rent
  · unfold v_shop at t
    rw [if_pos hk] at t
    have er : r_shop a coins trust rent = _ := if_pos hk
    simp only [k_shop] at hk
    repeat' (first | refine ⟨a, p0, ?_⟩ | refine ⟨by assumption, ?_⟩ | refine ⟨_, rfl, by omega, ?_⟩ | refine ⟨by omega, ?_⟩ | rw [if_pos (by omega)] | rw [if_neg (by omega)])
    rw [show a 2 + 1 - 1 = σ 9 2 by omega] at t
    refine t _ ?_ ?_
    · rw [er]
      refine XQ p0 hC' (fun c h1 h2 => by rw [uc_n h1, uc_n h2]) ⟨?_, ?_⟩ (fun k hk => by simp (disch := omega) only [u1_n])
      · rw [uc_s, u1_s, u1_s, l2.2.2.1]
      · intro x x0 x1
        rw [u1_s] at x1
        have z := p2.2.1 (a 2) (by omega) (by omega)
        have jh := jH p1
        rw [uc_n (by omega), uc_s]
        have ed : ∀ s, r_debts (u1 (u1 (u1 (u1 a (3428 + 8 * a 2) coins) (3428 + 8 * a 2 + 1) trust) (3428 + 8 * a 2 + 2) rent) 2 (a 2 + 1)) s = r_debts a s := fun s => gD (by simp (disch := omega) only [u1_n]) (fun k _ _ => by simp (disch := omega) only [u1_n]) s
        rw [ed]
        by_cases e : x = a 2
        · subst e
          have e0 : r_debts a (a 2) = 0 := by
            unfold r_debts
            have : ∀ n : Nat, (n : Int) ≤ a 3 → sN (fun h => if a (3460 + 8 * h + 0) = a 2 then a (3460 + 8 * h + 2) else 0) n = 0 := by
              intro n
              induction n with
              | zero => intro _; rfl
              | succ n ih =>
                intro hn
                have := jh n (by omega) (by omega)
                show sN _ n + (if a (3460 + 8 * (n : Int) + 0) = a 2 then a (3460 + 8 * (n : Int) + 2) else 0) = 0
                rw [ih (by omega), if_neg (by omega)]
                rfl
            exact this (a 3).toNat (by omega)
          rw [e0]
          simp (disch := omega) only [u1_n, u1_s, l2.2.2.1, fl_in, z]
          simp
        · have q := (tQ p0).2 x x0 (by omega)
          simp (disch := omega) only [u1_n, l2.2.2.1, fl_out]
          exact q
    · intro c hc
      simp (disch := omega) only [uc_n]
  · unfold v_shop at t
    rw [if_neg hk] at t
    have er : r_shop a coins trust rent = a := if_neg hk
    have t := t σ (by rw [er]; exact p0) (fun _ _ => rfl)
    simp only [k_shop] at hk
    repeat' (first | exact t | refine ⟨a, p0, ?_⟩ | refine ⟨by assumption, ?_⟩ | refine ⟨_, rfl, by omega, ?_⟩ | refine ⟨by omega, ?_⟩ | refine ifI (fun _ => ?_) (fun _ => ?_) | (rw [if_neg (show ¬ σ 9 2 < 4 by omega), if_neg (show ¬ σ 9 2 < 4 by omega), if_neg (show ¬ σ 9 2 < 4 by omega), uc_id, uc_id]; exact t) | (exfalso; omega))
-- method 151: MillTown.home(II)I
theorem c_151_0 : pg_cd 151 0 = (5, 1, 0, 0, 0) := by decide +kernel
theorem c_151_1 : pg_cd 151 1 = (45, 11, 12, 0, 0) := by decide +kernel
theorem c_151_4 : pg_cd 151 4 = (45, 8, 121, 3, 0) := by decide +kernel
theorem c_151_7 : pg_cd 151 7 = (3, 1, 0, 1, 0) := by decide +kernel
theorem c_151_8 : pg_cd 151 8 = (80, 53, 75, 0, 0) := by decide +kernel
theorem c_151_11 : pg_cd 151 11 = (36, 3, 0, 0, 18) := by decide +kernel
theorem c_151_14 : pg_cd 151 14 = (3, 1, 0, 2, 0) := by decide +kernel
theorem c_151_15 : pg_cd 151 15 = (1, 1, 0, 0, 0) := by decide +kernel
theorem c_151_16 : pg_cd 151 16 = (1, 3, 0, 0, 10000) := by decide +kernel
theorem c_151_19 : pg_cd 151 19 = (81, 141, 85, 0, 0) := by decide +kernel
theorem c_151_22 : pg_cd 151 22 = (36, 3, 0, 0, 7) := by decide +kernel
theorem c_151_25 : pg_cd 151 25 = (1, 1, 0, 0, 1) := by decide +kernel
theorem c_151_26 : pg_cd 151 26 = (38, 3, 0, 0, 4) := by decide +kernel
theorem c_151_29 : pg_cd 151 29 = (1, 1, 0, 0, 0) := by decide +kernel
theorem c_151_30 : pg_cd 151 30 = (6, 1, 0, 3, 0) := by decide +kernel
theorem c_151_31 : pg_cd 151 31 = (3, 1, 0, 3, 0) := by decide +kernel
theorem c_151_32 : pg_cd 151 32 = (36, 3, 0, 0, 15) := by decide +kernel
theorem c_151_35 : pg_cd 151 35 = (5, 1, 0, 0, 0) := by decide +kernel
theorem c_151_36 : pg_cd 151 36 = (45, 11, 12, 0, 0) := by decide +kernel
theorem c_151_39 : pg_cd 151 39 = (3, 1, 0, 1, 0) := by decide +kernel
theorem c_151_40 : pg_cd 151 40 = (3, 1, 0, 2, 0) := by decide +kernel
theorem c_151_41 : pg_cd 151 41 = (80, 93, 124, 0, 0) := by decide +kernel
theorem c_151_44 : pg_cd 151 44 = (38, 3, 0, 0, 4) := by decide +kernel
theorem c_151_47 : pg_cd 151 47 = (1, 1, 0, 0, (-1)) := by decide +kernel
theorem c_151_48 : pg_cd 151 48 = (90, 0, 0, 0, 0) := by decide +kernel
theorem mi_151 : pg_mc 151 = 11 ∧ pg_na 151 = 2 ∧ pg_mx 151 = 4 := by decide +kernel
set_option maxRecDepth 20000 in
theorem u_151_0 {d : Nat} {S : zS} {σ τ : zI} {Q : zQ} {x1 : Int} {x2 : Int} (t : (rg x1) ∧ if 0 ≤ x1 ∧ x1 < (σ 9 2) then ((rg x2) ∧ if 0 ≤ x2 ∧ x2 ≤ 10000 then (Q (some (.int (wI (if σ 11 2 < 24 then σ 11 2 else -1)))) S (uc (uc σ 12 (if (σ 11) 2 < 24 then u1 (u1 (fl_ ((σ 12)) ((σ 11) 2 * 8) ((σ 11) 2 * 8 + 8) 0) ((σ 11) 2 * 8 + 7) (x1)) ((σ 11) 2 * 8 + 0) (x2) else (σ 12))) 11 (if (σ 11) 2 < 24 then u1 ((σ 11)) 2 ((σ 11) 2 + 1) else (σ 11))) τ) else (Q (some (.int (wI (-1)))) S σ τ)) else (Q (some (.int (wI (-1)))) S σ τ)) : wi (d + 8) 151 0 [.ref 1, .int (wI x1), .int (wI x2), .retAddr 0] [] S σ τ Q := by
  obtain ⟨r1, t⟩ := t
  refine i5 c_151_0 rfl (i45 c_151_1 (lo (c := 1) (kd := 111) (n := 0) rfl (by decide)) (lro (c := 1) (k := 0) (j := 2) (by decide)) (i45 c_151_4 (lo (c := 2) (kd := 108) (n := 0) rfl (by decide)) (lro (c := 2) (k := 3) (j := 9) (by decide)) (i3 c_151_7 rfl (wi_ok (fun K2 => ?_)))))
  refine i80 (As := [.int (wI x1)]) (rest := []) c_151_8 mi_53 rfl rfl (Nat.le_of_ble_eq_true rfl) (Nat.le_of_ble_eq_true rfl) (lo (c := 9) (kd := 104) (n := 0) rfl (by decide)) (q_has (ow_shops tw_2) r1 ?_)
  show wi (d + 8) 151 11 [.ref 1, .int (wI x1), .int (wI x2), .retAddr 0] [.int (wI (if 0 ≤ x1 ∧ x1 < σ 9 2 then 1 else 0))] S σ τ Q
  refine i36e c_151_11 rfl (fun hc => ?_) (fun hc => ?_)
  · have t := iT t hc
    have ha3 : 0 ≤ x1 ∧ x1 < (σ 9 2) := hc
    obtain ⟨r4, t⟩ := t
    refine i3 c_151_14 rfl (i1 c_151_15 (i1 c_151_16 ?_))
    refine i81 (As := [.int (wI x2), .int (wI 0), .int (wI 10000)]) (rest := []) c_151_19 mi_141 rfl rfl (Nat.le_of_ble_eq_true rfl) (Nat.le_of_ble_eq_true rfl) (q_141 r4 (by decide) (by decide) ?_)
    show wi (d + 8) 151 22 [.ref 1, .int (wI x1), .int (wI x2), .retAddr 0] [.int (wI (if 0 ≤ x2 ∧ x2 ≤ 10000 then 1 else 0))] S σ τ Q
    refine i36e c_151_22 rfl (fun hc => ?_) (fun hc => ?_)
    · have t := iT t hc
      have ha5 : 0 ≤ x2 ∧ x2 ≤ 10000 := hc
      refine i1 c_151_25 (i38 c_151_26 rfl (i6 (L' := [.ref 1, .int (wI x1), .int (wI x2), .int (wI 1)]) c_151_30 rfl (i3 c_151_31 rfl (i36k (pc1 := 35) c_151_32 (by decide) (i5 c_151_35 rfl (i45 c_151_36 (lo (c := 1) (kd := 111) (n := 0) rfl (by decide)) (lro (c := 1) (k := 0) (j := 2) (by decide)) (i3 c_151_39 rfl (i3 c_151_40 rfl ?_))))))))
      refine i80 (As := [.int (wI x1), .int (wI x2)]) (rest := []) c_151_41 mi_93 rfl rfl (Nat.le_of_ble_eq_true rfl) (Nat.le_of_ble_eq_true rfl) (lo (c := 2) (kd := 108) (n := 0) rfl (by decide)) (q_93 tw_2 r1 r4 ?_)
      show wi (d + 8) 151 44 [.ref 1, .int (wI x1), .int (wI x2), .int (wI 1)] [.int (wI (if σ 11 2 < 24 then σ 11 2 else -1))] S (uc (uc σ 12 (if (σ 11) 2 < 24 then u1 (u1 (fl_ ((σ 12)) ((σ 11) 2 * 8) ((σ 11) 2 * 8 + 8) 0) ((σ 11) 2 * 8 + 7) (x1)) ((σ 11) 2 * 8 + 0) (x2) else (σ 12))) 11 (if (σ 11) 2 < 24 then u1 ((σ 11)) 2 ((σ 11) 2 + 1) else (σ 11))) τ Q
      refine i38 c_151_44 rfl ?_
      exact i90 c_151_48 t
    · have t := iF t hc
      have ha5 : ¬ (0 ≤ x2 ∧ x2 ≤ 10000) := hc
      refine i1 c_151_29 (i6 (L' := [.ref 1, .int (wI x1), .int (wI x2), .int (wI 0)]) c_151_30 rfl (i3 c_151_31 rfl (i36k (pc1 := 47) c_151_32 (by decide) (i1 c_151_47 ?_))))
      exact i90 c_151_48 t
  · have t := iF t hc
    have ha3 : ¬ (0 ≤ x1 ∧ x1 < (σ 9 2)) := hc
    refine i1 c_151_29 (i6 (L' := [.ref 1, .int (wI x1), .int (wI x2), .int (wI 0)]) c_151_30 rfl (i3 c_151_31 rfl (i36k (pc1 := 47) c_151_32 (by decide) (i1 c_151_47 ?_))))
    exact i90 c_151_48 t
theorem q_151 {d : Nat} {S : zS} {σ τ : zI} {Q : zQ} {shop : Int} {coins : Int} {a : Int → Int} (p0 : RT σ 2 a) (p1 : Jv a) (p2 : jv_Z a) (p3 : rg shop) (p4 : rg coins) (t : ∀ (σ1 : zI), RT σ1 2 (r_home a shop coins) → F2 σ σ1 → Q (some (.int (wI (v_home a shop coins)))) S σ1 τ) : wc (d + 8) 151 [.ref 1, .int (wI shop), .int (wI coins)] S σ τ Q := by
  have hC := jC p1
  have hC' := hC
  unfold jv_C at hC
  have l2 := tl_2 p0
  have lS := tl_S p0
  refine wc_of mi_151 rfl (u_151_0 ?_)
  by_cases hk : k_home a shop coins
  · unfold v_home at t
    rw [if_pos hk] at t
    have er : r_home a shop coins = _ := if_pos hk
    simp only [k_home] at hk
    repeat' (first | refine ⟨a, p0, ?_⟩ | refine ⟨by assumption, ?_⟩ | refine ⟨_, rfl, by omega, ?_⟩ | refine ⟨by omega, ?_⟩ | rw [if_pos (by omega)] | rw [if_neg (by omega)])
    rw [show a 3 + 1 - 1 = σ 11 2 by omega] at t
    refine t _ ?_ ?_
    · rw [er]
      have z := p2.2.2.1 (a 3) (by omega) (by omega)
      have zb := p2.2.2.2.2.1
      have jp := jP p1
      refine XH p0 hC' (fun c h1 h2 => by rw [uc_n h1, uc_n h2]) ⟨?_, ?_⟩ (fun s h0 h1 => ?_) (fun k hk => by simp (disch := omega) only [u1_n])
      · rw [uc_s, u1_s, u1_s, l2.2.2.2.1]
      · intro x x0 x1
        rw [u1_s] at x1
        rw [uc_n (by omega), uc_s]
        have en := fun x => gNeed (a := a) (a' := u1 (u1 (u1 a (3460 + 8 * a 3 + 0) shop) (3460 + 8 * a 3 + 1) coins) 3 (a 3 + 1)) (by simp (disch := omega) only [u1_n]) (fun k _ _ => by simp (disch := omega) only [u1_n]) x
        have l : ∀ f, f = 22300 ∨ f = 31900 → r_late (u1 (u1 (u1 a (3460 + 8 * a 3 + 0) shop) (3460 + 8 * a 3 + 1) coins) 3 (a 3 + 1)) f x = r_late a f x := by
          intro f hf
          unfold r_late
          simp (disch := omega) only [u1_n]
        rw [(en x).1, (en x).2, l _ (Or.inl rfl), l _ (Or.inr rfl)]
        by_cases e : x = a 3
        · subst e
          have e1 : r_need a (a 3) = 0 ∧ r_pers a (a 3) = 0 := by
            unfold r_need r_pers
            have : ∀ n : Nat, (n : Int) ≤ a 4 → sN (fun p => if a (3652 + 12 * p + 0) = a 3 then (if 13 ≤ a (3652 + 12 * p + 1) then 4 else 2) else 0) n = 0 ∧ sN (fun p => if a (3652 + 12 * p + 0) = a 3 then 1 else 0) n = 0 := by
              intro n
              induction n with
              | zero => intro _; exact ⟨rfl, rfl⟩
              | succ n ih =>
                intro hn
                have := jp n (by omega) (by omega)
                show sN _ n + (if a (3652 + 12 * (n : Int) + 0) = a 3 then (if 13 ≤ a (3652 + 12 * (n : Int) + 1) then 4 else 2) else 0) = 0 ∧ sN _ n + (if a (3652 + 12 * (n : Int) + 0) = a 3 then 1 else 0) = 0
                rw [(ih (by omega)).1, (ih (by omega)).2, if_neg (by omega), if_neg (by omega)]
                exact ⟨rfl, rfl⟩
            exact this (a 4).toNat (by omega)
          have e2 : r_late a 22300 (a 3) = 0 ∧ r_late a 31900 (a 3) = 0 := by
            unfold r_late
            by_cases c : a 0 = 0
            · rw [if_pos c, if_pos c]; exact ⟨rfl, rfl⟩
            · have q := zb (a 0 - 1) (a 3) (by omega) (by omega) (by omega) (by omega) (by omega)
              rw [if_neg c, if_neg c]; exact ⟨q.1, q.2.1⟩
          rw [e1.1, e1.2, e2.1, e2.2]
          simp (disch := omega) only [u1_n, u1_s, l2.2.2.2.1, fl_in, z.1, z.2]
          simp
        · have q := (tH p0).2 x x0 (by omega)
          simp (disch := omega) only [u1_n, l2.2.2.2.1, fl_out]
          exact q
      · unfold r_debts
        rw [u1_s, sI_s (by omega)]
        have : sI (fun h => if u1 (u1 (u1 a (3460 + 8 * a 3 + 0) shop) (3460 + 8 * a 3 + 1) coins) 3 (a 3 + 1) (3460 + 8 * h + 0) = s then u1 (u1 (u1 a (3460 + 8 * a 3 + 0) shop) (3460 + 8 * a 3 + 1) coins) 3 (a 3 + 1) (3460 + 8 * h + 2) else 0) (a 3) = sI (fun h => if a (3460 + 8 * h + 0) = s then a (3460 + 8 * h + 2) else 0) (a 3) := by
          refine sI_c (fun p q0 q1 => ?_)
          simp (disch := omega) only [u1_n]
        rw [this]
        simp (disch := omega) only [u1_n, u1_s, z.1]
        split <;> omega
    · intro c hc
      simp (disch := omega) only [uc_n]
  · unfold v_home at t
    rw [if_neg hk] at t
    have er : r_home a shop coins = a := if_neg hk
    have t := t σ (by rw [er]; exact p0) (fun _ _ => rfl)
    simp only [k_home] at hk
    repeat' (first | exact t | refine ⟨a, p0, ?_⟩ | refine ⟨by assumption, ?_⟩ | refine ⟨_, rfl, by omega, ?_⟩ | refine ⟨by omega, ?_⟩ | refine ifI (fun _ => ?_) (fun _ => ?_) | (rw [if_neg (show ¬ σ 11 2 < 24 by omega), if_neg (show ¬ σ 11 2 < 24 by omega), if_neg (show ¬ σ 11 2 < 24 by omega), uc_id, uc_id]; exact t) | (exfalso; omega))
-- method 166: MillTown.order(IIIII)I
theorem c_166_0 : pg_cd 166 0 = (3, 1, 0, 1, 0) := by decide +kernel
theorem c_166_1 : pg_cd 166 1 = (1, 1, 0, 0, 0) := by decide +kernel
theorem c_166_2 : pg_cd 166 2 = (1, 1, 0, 0, 5) := by decide +kernel
theorem c_166_3 : pg_cd 166 3 = (81, 141, 85, 0, 0) := by decide +kernel
theorem c_166_6 : pg_cd 166 6 = (36, 3, 0, 0, 56) := by decide +kernel
theorem c_166_9 : pg_cd 166 9 = (3, 1, 0, 2, 0) := by decide +kernel
theorem c_166_10 : pg_cd 166 10 = (1, 1, 0, 0, 1) := by decide +kernel
theorem c_166_11 : pg_cd 166 11 = (1, 3, 0, 0, 500) := by decide +kernel
theorem c_166_14 : pg_cd 166 14 = (81, 141, 85, 0, 0) := by decide +kernel
theorem c_166_17 : pg_cd 166 17 = (36, 3, 0, 0, 45) := by decide +kernel
theorem c_166_20 : pg_cd 166 20 = (3, 1, 0, 3, 0) := by decide +kernel
theorem c_166_21 : pg_cd 166 21 = (1, 1, 0, 0, 1) := by decide +kernel
theorem c_166_22 : pg_cd 166 22 = (1, 3, 0, 0, 10000) := by decide +kernel
theorem c_166_25 : pg_cd 166 25 = (81, 141, 85, 0, 0) := by decide +kernel
theorem c_166_28 : pg_cd 166 28 = (36, 3, 0, 0, 34) := by decide +kernel
theorem c_166_31 : pg_cd 166 31 = (3, 2, 0, 4, 0) := by decide +kernel
theorem c_166_33 : pg_cd 166 33 = (5, 1, 0, 0, 0) := by decide +kernel
theorem c_166_34 : pg_cd 166 34 = (45, 11, 12, 0, 0) := by decide +kernel
theorem c_166_37 : pg_cd 166 37 = (43, 8, 193, 8, 0) := by decide +kernel
theorem c_166_40 : pg_cd 166 40 = (37, 3, 0, 2, 22) := by decide +kernel
theorem c_166_43 : pg_cd 166 43 = (3, 2, 0, 5, 0) := by decide +kernel
theorem c_166_45 : pg_cd 166 45 = (3, 2, 0, 4, 0) := by decide +kernel
theorem c_166_47 : pg_cd 166 47 = (37, 3, 0, 2, 15) := by decide +kernel
theorem c_166_50 : pg_cd 166 50 = (3, 2, 0, 5, 0) := by decide +kernel
theorem c_166_52 : pg_cd 166 52 = (1, 3, 0, 0, 400) := by decide +kernel
theorem c_166_55 : pg_cd 166 55 = (37, 3, 0, 3, 7) := by decide +kernel
theorem c_166_58 : pg_cd 166 58 = (1, 1, 0, 0, 1) := by decide +kernel
theorem c_166_59 : pg_cd 166 59 = (38, 3, 0, 0, 4) := by decide +kernel
theorem c_166_62 : pg_cd 166 62 = (1, 1, 0, 0, 0) := by decide +kernel
theorem c_166_63 : pg_cd 166 63 = (6, 2, 0, 6, 0) := by decide +kernel
theorem c_166_65 : pg_cd 166 65 = (3, 2, 0, 6, 0) := by decide +kernel
theorem c_166_67 : pg_cd 166 67 = (36, 3, 0, 0, 20) := by decide +kernel
theorem c_166_70 : pg_cd 166 70 = (5, 1, 0, 0, 0) := by decide +kernel
theorem c_166_71 : pg_cd 166 71 = (45, 11, 12, 0, 0) := by decide +kernel
theorem c_166_74 : pg_cd 166 74 = (3, 1, 0, 1, 0) := by decide +kernel
theorem c_166_75 : pg_cd 166 75 = (3, 1, 0, 2, 0) := by decide +kernel
theorem c_166_76 : pg_cd 166 76 = (3, 1, 0, 3, 0) := by decide +kernel
theorem c_166_77 : pg_cd 166 77 = (3, 2, 0, 4, 0) := by decide +kernel
theorem c_166_79 : pg_cd 166 79 = (3, 2, 0, 5, 0) := by decide +kernel
theorem c_166_81 : pg_cd 166 81 = (80, 96, 221, 0, 0) := by decide +kernel
theorem c_166_84 : pg_cd 166 84 = (38, 3, 0, 0, 4) := by decide +kernel
theorem c_166_87 : pg_cd 166 87 = (1, 1, 0, 0, (-1)) := by decide +kernel
theorem c_166_88 : pg_cd 166 88 = (90, 0, 0, 0, 0) := by decide +kernel
theorem mi_166 : pg_mc 166 = 11 ∧ pg_na 166 = 5 ∧ pg_mx 166 = 7 := by decide +kernel
set_option maxRecDepth 20000 in
theorem u_166_0 {d : Nat} {S : zS} {σ τ : zI} {Q : zQ} {x1 : Int} {x2 : Int} {x3 : Int} {x4 : Int} {x5 : Int} (t : (rg x1) ∧ if 0 ≤ x1 ∧ x1 ≤ 5 then ((rg x2) ∧ if 1 ≤ x2 ∧ x2 ≤ 500 then ((rg x3) ∧ if 1 ≤ x3 ∧ x3 ≤ 10000 then ((rg x4) ∧ if x4 < (σ 2 8) then (Q (some (.int (wI (-1)))) S σ τ) else ((rg x5) ∧ if x5 < x4 then (Q (some (.int (wI (-1)))) S σ τ) else (if (400 : Int) ≤ x5 then (Q (some (.int (wI (-1)))) S σ τ) else (Q (some (.int (wI (if σ 15 2 < 80 then σ 15 2 else -1)))) S (uc (uc σ 16 (if (σ 15) 2 < 80 then u1 (u1 (u1 (u1 (u1 (fl_ ((σ 16)) ((σ 15) 2 * 6) ((σ 15) 2 * 6 + 6) 0) ((σ 15) 2 * 6 + 0) (x1)) ((σ 15) 2 * 6 + 1) (x2)) ((σ 15) 2 * 6 + 2) (x3)) ((σ 15) 2 * 6 + 3) (x4)) ((σ 15) 2 * 6 + 4) (x5) else (σ 16))) 15 (if (σ 15) 2 < 80 then u1 ((σ 15)) 2 ((σ 15) 2 + 1) else (σ 15))) τ)))) else (Q (some (.int (wI (-1)))) S σ τ)) else (Q (some (.int (wI (-1)))) S σ τ)) else (Q (some (.int (wI (-1)))) S σ τ)) : wi (d + 8) 166 0 [.ref 1, .int (wI x1), .int (wI x2), .int (wI x3), .int (wI x4), .int (wI x5), .retAddr 0] [] S σ τ Q := by
  obtain ⟨r1, t⟩ := t
  refine i3 c_166_0 rfl (i1 c_166_1 (i1 c_166_2 ?_))
  refine i81 (As := [.int (wI x1), .int (wI 0), .int (wI 5)]) (rest := []) c_166_3 mi_141 rfl rfl (Nat.le_of_ble_eq_true rfl) (Nat.le_of_ble_eq_true rfl) (q_141 r1 (by decide) (by decide) ?_)
  show wi (d + 8) 166 6 [.ref 1, .int (wI x1), .int (wI x2), .int (wI x3), .int (wI x4), .int (wI x5), .retAddr 0] [.int (wI (if 0 ≤ x1 ∧ x1 ≤ 5 then 1 else 0))] S σ τ Q
  refine i36e c_166_6 rfl (fun hc => ?_) (fun hc => ?_)
  · have t := iT t hc
    have ha2 : 0 ≤ x1 ∧ x1 ≤ 5 := hc
    obtain ⟨r3, t⟩ := t
    refine i3 c_166_9 rfl (i1 c_166_10 (i1 c_166_11 ?_))
    refine i81 (As := [.int (wI x2), .int (wI 1), .int (wI 500)]) (rest := []) c_166_14 mi_141 rfl rfl (Nat.le_of_ble_eq_true rfl) (Nat.le_of_ble_eq_true rfl) (q_141 r3 (by decide) (by decide) ?_)
    show wi (d + 8) 166 17 [.ref 1, .int (wI x1), .int (wI x2), .int (wI x3), .int (wI x4), .int (wI x5), .retAddr 0] [.int (wI (if 1 ≤ x2 ∧ x2 ≤ 500 then 1 else 0))] S σ τ Q
    refine i36e c_166_17 rfl (fun hc => ?_) (fun hc => ?_)
    · have t := iT t hc
      have ha4 : 1 ≤ x2 ∧ x2 ≤ 500 := hc
      obtain ⟨r5, t⟩ := t
      refine i3 c_166_20 rfl (i1 c_166_21 (i1 c_166_22 ?_))
      refine i81 (As := [.int (wI x3), .int (wI 1), .int (wI 10000)]) (rest := []) c_166_25 mi_141 rfl rfl (Nat.le_of_ble_eq_true rfl) (Nat.le_of_ble_eq_true rfl) (q_141 r5 (by decide) (by decide) ?_)
      show wi (d + 8) 166 28 [.ref 1, .int (wI x1), .int (wI x2), .int (wI x3), .int (wI x4), .int (wI x5), .retAddr 0] [.int (wI (if 1 ≤ x3 ∧ x3 ≤ 10000 then 1 else 0))] S σ τ Q
      refine i36e c_166_28 rfl (fun hc => ?_) (fun hc => ?_)
      · have t := iT t hc
        have ha6 : 1 ≤ x3 ∧ x3 ≤ 10000 := hc
        refine i3 c_166_31 rfl (i5 c_166_33 rfl (i45 c_166_34 (lo (c := 1) (kd := 111) (n := 0) rfl (by decide)) (lro (c := 1) (k := 0) (j := 2) (by decide)) (wi_ok (fun K7 => ?_))))
        obtain ⟨r8, t⟩ := t
        refine i43 (v := σ 2 8) c_166_37 (lo (c := 2) (kd := 108) (n := 0) rfl (by decide)) rfl ?_
        refine i37 c_166_40 r8 (rge_ K7 rfl) rfl (fun hc => ?_) (fun hc => ?_)
        · have t := iT t hc
          have ha9 : x4 < (σ 2 8) := hc
          refine i1 c_166_62 (i6 (L' := [.ref 1, .int (wI x1), .int (wI x2), .int (wI x3), .int (wI x4), .int (wI x5), .int (wI 0)]) c_166_63 rfl (i3 c_166_65 rfl (i36k (pc1 := 87) c_166_67 (by decide) (i1 c_166_87 ?_))))
          exact i90 c_166_88 t
        · have t := iF t hc
          have ha9 : ¬ (x4 < (σ 2 8)) := hc
          obtain ⟨r10, t⟩ := t
          refine i3 c_166_43 rfl (i3 c_166_45 rfl ?_)
          refine i37 c_166_47 r10 r8 rfl (fun hc => ?_) (fun hc => ?_)
          · have t := iT t hc
            have ha11 : x5 < x4 := hc
            refine i1 c_166_62 (i6 (L' := [.ref 1, .int (wI x1), .int (wI x2), .int (wI x3), .int (wI x4), .int (wI x5), .int (wI 0)]) c_166_63 rfl (i3 c_166_65 rfl (i36k (pc1 := 87) c_166_67 (by decide) (i1 c_166_87 ?_))))
            exact i90 c_166_88 t
          · have t := iF t hc
            have ha11 : ¬ (x5 < x4) := hc
            refine i3 c_166_50 rfl (i1 c_166_52 ?_)
            refine i37 c_166_55 r10 (by decide) rfl (fun hc => ?_) (fun hc => ?_)
            · have t := iT t hc
              have ha12 : (400 : Int) ≤ x5 := hc
              refine i1 c_166_62 (i6 (L' := [.ref 1, .int (wI x1), .int (wI x2), .int (wI x3), .int (wI x4), .int (wI x5), .int (wI 0)]) c_166_63 rfl (i3 c_166_65 rfl (i36k (pc1 := 87) c_166_67 (by decide) (i1 c_166_87 ?_))))
              exact i90 c_166_88 t
            · have t := iF t hc
              have ha12 : ¬ ((400 : Int) ≤ x5) := hc
              refine i1 c_166_58 (i38 c_166_59 rfl (i6 (L' := [.ref 1, .int (wI x1), .int (wI x2), .int (wI x3), .int (wI x4), .int (wI x5), .int (wI 1)]) c_166_63 rfl (i3 c_166_65 rfl (i36k (pc1 := 70) c_166_67 (by decide) (i5 c_166_70 rfl (i45 c_166_71 (lo (c := 1) (kd := 111) (n := 0) rfl (by decide)) (lro (c := 1) (k := 0) (j := 2) (by decide)) (i3 c_166_74 rfl (i3 c_166_75 rfl (i3 c_166_76 rfl (i3 c_166_77 rfl (i3 c_166_79 rfl ?_)))))))))))
              refine i80 (As := [.int (wI x1), .int (wI x2), .int (wI x3), .int (wI x4), .int (wI x5)]) (rest := []) c_166_81 mi_96 rfl rfl (Nat.le_of_ble_eq_true rfl) (Nat.le_of_ble_eq_true rfl) (lo (c := 2) (kd := 108) (n := 0) rfl (by decide)) (q_96 tw_2 r1 r3 r5 r8 r10 ?_)
              show wi (d + 8) 166 84 [.ref 1, .int (wI x1), .int (wI x2), .int (wI x3), .int (wI x4), .int (wI x5), .int (wI 1)] [.int (wI (if σ 15 2 < 80 then σ 15 2 else -1))] S (uc (uc σ 16 (if (σ 15) 2 < 80 then u1 (u1 (u1 (u1 (u1 (fl_ ((σ 16)) ((σ 15) 2 * 6) ((σ 15) 2 * 6 + 6) 0) ((σ 15) 2 * 6 + 0) (x1)) ((σ 15) 2 * 6 + 1) (x2)) ((σ 15) 2 * 6 + 2) (x3)) ((σ 15) 2 * 6 + 3) (x4)) ((σ 15) 2 * 6 + 4) (x5) else (σ 16))) 15 (if (σ 15) 2 < 80 then u1 ((σ 15)) 2 ((σ 15) 2 + 1) else (σ 15))) τ Q
              refine i38 c_166_84 rfl ?_
              exact i90 c_166_88 t
      · have t := iF t hc
        have ha6 : ¬ (1 ≤ x3 ∧ x3 ≤ 10000) := hc
        refine i1 c_166_62 (i6 (L' := [.ref 1, .int (wI x1), .int (wI x2), .int (wI x3), .int (wI x4), .int (wI x5), .int (wI 0)]) c_166_63 rfl (i3 c_166_65 rfl (i36k (pc1 := 87) c_166_67 (by decide) (i1 c_166_87 ?_))))
        exact i90 c_166_88 t
    · have t := iF t hc
      have ha4 : ¬ (1 ≤ x2 ∧ x2 ≤ 500) := hc
      refine i1 c_166_62 (i6 (L' := [.ref 1, .int (wI x1), .int (wI x2), .int (wI x3), .int (wI x4), .int (wI x5), .int (wI 0)]) c_166_63 rfl (i3 c_166_65 rfl (i36k (pc1 := 87) c_166_67 (by decide) (i1 c_166_87 ?_))))
      exact i90 c_166_88 t
  · have t := iF t hc
    have ha2 : ¬ (0 ≤ x1 ∧ x1 ≤ 5) := hc
    refine i1 c_166_62 (i6 (L' := [.ref 1, .int (wI x1), .int (wI x2), .int (wI x3), .int (wI x4), .int (wI x5), .int (wI 0)]) c_166_63 rfl (i3 c_166_65 rfl (i36k (pc1 := 87) c_166_67 (by decide) (i1 c_166_87 ?_))))
    exact i90 c_166_88 t
theorem q_166 {d : Nat} {S : zS} {σ τ : zI} {Q : zQ} {kind : Int} {pieces : Int} {price : Int} {from_ : Int} {to : Int} {a : Int → Int} (p0 : RT σ 2 a) (p1 : Jv a) (p2 : jv_Z a) (p3 : rg kind) (p4 : rg pieces) (p5 : rg price) (p6 : rg from_) (p7 : rg to) (t : ∀ (σ1 : zI), RT σ1 2 (r_order a kind pieces price from_ to) → F2 σ σ1 → Q (some (.int (wI (v_order a kind pieces price from_ to)))) S σ1 τ) : wc (d + 8) 166 [.ref 1, .int (wI kind), .int (wI pieces), .int (wI price), .int (wI from_), .int (wI to)] S σ τ Q := by
  have hC := jC p1
  have hC' := hC
  unfold jv_C at hC
  have l2 := tl_2 p0
  have lS := tl_S p0
  refine wc_of mi_166 rfl (u_166_0 ?_)
  by_cases hk : k_order a kind pieces price from_ to
  · unfold v_order at t
    rw [if_pos hk] at t
    have er : r_order a kind pieces price from_ to = _ := if_pos hk
    simp only [k_order] at hk
    repeat' (first | refine ⟨a, p0, ?_⟩ | refine ⟨by assumption, ?_⟩ | refine ⟨_, rfl, by omega, ?_⟩ | refine ⟨by omega, ?_⟩ | rw [if_pos (by omega)] | rw [if_neg (by omega)])
    rw [show a 7 + 1 - 1 = σ 15 2 by omega] at t
    refine t _ ?_ ?_
    · rw [er]
      refine XO p0 hC' (fun c h1 h2 => by rw [uc_n h1, uc_n h2]) ⟨?_, ?_⟩ (fun k j q0 q1 q2 q3 => by simp (disch := omega) only [u1_n]) (fun k hk => by simp (disch := omega) only [u1_n])
      · rw [uc_s, u1_s, u1_s, l2.2.2.2.2.2.1]
      · intro x x0 x1
        rw [u1_s] at x1
        rw [uc_n (by omega), uc_s]
        by_cases e : x = a 7
        · subst e
          simp (disch := omega) only [u1_n, u1_s, l2.2.2.2.2.2.1, fl_in]
          simp
        · have q := (tO p0).2 x x0 (by omega)
          simp (disch := omega) only [u1_n, l2.2.2.2.2.2.1, fl_out]
          exact q
    · intro c hc
      simp (disch := omega) only [uc_n]
  · unfold v_order at t
    rw [if_neg hk] at t
    have er : r_order a kind pieces price from_ to = a := if_neg hk
    have t := t σ (by rw [er]; exact p0) (fun _ _ => rfl)
    simp only [k_order] at hk
    repeat' (first | exact t | refine ⟨a, p0, ?_⟩ | refine ⟨by assumption, ?_⟩ | refine ⟨_, rfl, by omega, ?_⟩ | refine ⟨by omega, ?_⟩ | refine ifI (fun _ => ?_) (fun _ => ?_) | (rw [if_neg (show ¬ σ 15 2 < 80 by omega), if_neg (show ¬ σ 15 2 < 80 by omega), if_neg (show ¬ σ 15 2 < 80 by omega), uc_id, uc_id]; exact t) | (exfalso; omega))
theorem XFp {σ : zI} {t : Nat} {a : Int → Int} {text mill from_ to : Int} (h : RT σ t a) (q : jv_C a) (h6 : a 6 ≤ 60) : RT (uc (uc σ (t + 16) (u1 (u1 (u1 (u1 (u1 (fl_ (σ (t + 16)) (σ (t + 15) 2 * 5) (σ (t + 15) 2 * 5 + 5) 0) (σ (t + 15) 2 * 5 + 0) text) (σ (t + 15) 2 * 5 + 1) mill) (σ (t + 15) 2 * 5 + 2) from_) (σ (t + 15) 2 * 5 + 3) to) (σ (t + 15) 2 * 5 + 4) (σ t 8))) (t + 15) (u1 (σ (t + 15)) 2 (σ (t + 15) 2 + 1))) t (r_put a text mill from_ to) := by
  have hq := q
  unfold jv_C at hq
  have c := cF h
  have c8 : σ t 8 = a 0 := (tS h).1
  unfold r_put
  refine XF h q (fun c h1 h2 => by rw [uc_n h1, uc_n h2]) ⟨?_, ?_⟩ (fun k hk => by simp (disch := omega) only [u1_n])
  · rw [uc_s, u1_s, u1_s, c]
  · intro x x0 x1
    rw [u1_s] at x1
    rw [uc_n (by omega), uc_s]
    by_cases e : x = a 6
    · subst e
      simp (disch := omega) only [u1_n, u1_s, c, fl_in, c8]
      simp
    · have q := (tF h).2 x x0 (by omega)
      simp (disch := omega) only [u1_n, c, fl_out]
      exact q
-- method 161: MillTown.force(IIII)I
theorem c_161_0 : pg_cd 161 0 = (5, 1, 0, 0, 0) := by decide +kernel
theorem c_161_1 : pg_cd 161 1 = (3, 1, 0, 1, 0) := by decide +kernel
theorem c_161_2 : pg_cd 161 2 = (80, 144, 187, 0, 0) := by decide +kernel
theorem c_161_5 : pg_cd 161 5 = (36, 3, 0, 0, 40) := by decide +kernel
theorem c_161_8 : pg_cd 161 8 = (5, 1, 0, 0, 0) := by decide +kernel
theorem c_161_9 : pg_cd 161 9 = (3, 1, 0, 2, 0) := by decide +kernel
theorem c_161_10 : pg_cd 161 10 = (80, 143, 190, 0, 0) := by decide +kernel
theorem c_161_13 : pg_cd 161 13 = (36, 3, 0, 0, 32) := by decide +kernel
theorem c_161_16 : pg_cd 161 16 = (3, 1, 0, 3, 0) := by decide +kernel
theorem c_161_17 : pg_cd 161 17 = (5, 1, 0, 0, 0) := by decide +kernel
theorem c_161_18 : pg_cd 161 18 = (45, 11, 12, 0, 0) := by decide +kernel
theorem c_161_21 : pg_cd 161 21 = (43, 8, 193, 8, 0) := by decide +kernel
theorem c_161_24 : pg_cd 161 24 = (37, 3, 0, 2, 21) := by decide +kernel
theorem c_161_27 : pg_cd 161 27 = (3, 2, 0, 4, 0) := by decide +kernel
theorem c_161_29 : pg_cd 161 29 = (3, 1, 0, 3, 0) := by decide +kernel
theorem c_161_30 : pg_cd 161 30 = (37, 3, 0, 2, 15) := by decide +kernel
theorem c_161_33 : pg_cd 161 33 = (3, 2, 0, 4, 0) := by decide +kernel
theorem c_161_35 : pg_cd 161 35 = (1, 3, 0, 0, 400) := by decide +kernel
theorem c_161_38 : pg_cd 161 38 = (37, 3, 0, 3, 7) := by decide +kernel
theorem c_161_41 : pg_cd 161 41 = (1, 1, 0, 0, 1) := by decide +kernel
theorem c_161_42 : pg_cd 161 42 = (38, 3, 0, 0, 4) := by decide +kernel
theorem c_161_45 : pg_cd 161 45 = (1, 1, 0, 0, 0) := by decide +kernel
theorem c_161_46 : pg_cd 161 46 = (6, 2, 0, 5, 0) := by decide +kernel
theorem c_161_48 : pg_cd 161 48 = (3, 2, 0, 5, 0) := by decide +kernel
theorem c_161_50 : pg_cd 161 50 = (36, 3, 0, 0, 18) := by decide +kernel
theorem c_161_53 : pg_cd 161 53 = (5, 1, 0, 0, 0) := by decide +kernel
theorem c_161_54 : pg_cd 161 54 = (45, 11, 12, 0, 0) := by decide +kernel
theorem c_161_57 : pg_cd 161 57 = (45, 8, 196, 7, 0) := by decide +kernel
theorem c_161_60 : pg_cd 161 60 = (43, 4, 199, 2, 0) := by decide +kernel
theorem c_161_63 : pg_cd 161 63 = (1, 2, 0, 0, 60) := by decide +kernel
theorem c_161_65 : pg_cd 161 65 = (37, 3, 0, 2, 5) := by decide +kernel
theorem c_161_68 : pg_cd 161 68 = (1, 1, 0, 0, (-1)) := by decide +kernel
theorem c_161_69 : pg_cd 161 69 = (90, 0, 0, 0, 0) := by decide +kernel
theorem c_161_70 : pg_cd 161 70 = (5, 1, 0, 0, 0) := by decide +kernel
theorem c_161_71 : pg_cd 161 71 = (45, 11, 12, 0, 0) := by decide +kernel
theorem c_161_74 : pg_cd 161 74 = (3, 1, 0, 1, 0) := by decide +kernel
theorem c_161_75 : pg_cd 161 75 = (3, 1, 0, 2, 0) := by decide +kernel
theorem c_161_76 : pg_cd 161 76 = (3, 1, 0, 3, 0) := by decide +kernel
theorem c_161_77 : pg_cd 161 77 = (3, 2, 0, 4, 0) := by decide +kernel
theorem c_161_79 : pg_cd 161 79 = (80, 95, 202, 0, 0) := by decide +kernel
theorem c_161_82 : pg_cd 161 82 = (90, 0, 0, 0, 0) := by decide +kernel
theorem mi_161 : pg_mc 161 = 11 ∧ pg_na 161 = 4 ∧ pg_mx 161 = 6 := by decide +kernel
set_option maxRecDepth 20000 in
theorem u_161_0 {d : Nat} {S : zS} {σ τ : zI} {Q : zQ} {x1 : Int} {x2 : Int} {x3 : Int} {x4 : Int} (t : (rg x1) ∧ if 0 ≤ x1 ∧ x1 < σ 2 9 then ((rg x2) ∧ if x2 = -1 ∨ 0 ≤ x2 ∧ x2 < σ 7 2 then ((rg x3) ∧ if x3 < (σ 2 8) then (Q (some (.int (wI (-1)))) S σ τ) else ((rg x4) ∧ if x4 < x3 then (Q (some (.int (wI (-1)))) S σ τ) else (if (400 : Int) ≤ x4 then (Q (some (.int (wI (-1)))) S σ τ) else (if (σ 17 2) < 60 then (Q (some (.int (wI (if σ 17 2 < 61 then σ 17 2 else -1)))) S (uc (uc σ 18 (if (σ 17) 2 < 61 then u1 (u1 (u1 (u1 (u1 (fl_ ((σ 18)) ((σ 17) 2 * 5) ((σ 17) 2 * 5 + 5) 0) ((σ 17) 2 * 5 + 0) (x1)) ((σ 17) 2 * 5 + 1) (x2)) ((σ 17) 2 * 5 + 2) (x3)) ((σ 17) 2 * 5 + 3) (x4)) ((σ 17) 2 * 5 + 4) ((σ 2) 8) else (σ 18))) 17 (if (σ 17) 2 < 61 then u1 ((σ 17)) 2 ((σ 17) 2 + 1) else (σ 17))) τ) else (Q (some (.int (wI (-1)))) S σ τ))))) else (Q (some (.int (wI (-1)))) S σ τ)) else (Q (some (.int (wI (-1)))) S σ τ)) : wi (d + 8) 161 0 [.ref 1, .int (wI x1), .int (wI x2), .int (wI x3), .int (wI x4), .retAddr 0] [] S σ τ Q := by
  obtain ⟨r1, t⟩ := t
  refine i5 c_161_0 rfl (i3 c_161_1 rfl ?_)
  refine i80 (As := [.int (wI x1)]) (rest := []) c_161_2 mi_144 rfl rfl (Nat.le_of_ble_eq_true rfl) (Nat.le_of_ble_eq_true rfl) (lo (c := 1) (kd := 111) (n := 0) rfl (by decide)) (q_144 r1 ?_)
  show wi (d + 8) 161 5 [.ref 1, .int (wI x1), .int (wI x2), .int (wI x3), .int (wI x4), .retAddr 0] [.int (wI (if 0 ≤ x1 ∧ x1 < σ 2 9 then 1 else 0))] S σ τ Q
  refine i36e c_161_5 rfl (fun hc => ?_) (fun hc => ?_)
  · have t := iT t hc
    have ha2 : 0 ≤ x1 ∧ x1 < σ 2 9 := hc
    obtain ⟨r3, t⟩ := t
    refine i5 c_161_8 rfl (i3 c_161_9 rfl ?_)
    refine i80 (As := [.int (wI x2)]) (rest := []) c_161_10 mi_143 rfl rfl (Nat.le_of_ble_eq_true rfl) (Nat.le_of_ble_eq_true rfl) (lo (c := 1) (kd := 111) (n := 0) rfl (by decide)) (q_143 r3 ?_)
    show wi (d + 8) 161 13 [.ref 1, .int (wI x1), .int (wI x2), .int (wI x3), .int (wI x4), .retAddr 0] [.int (wI (if x2 = -1 ∨ 0 ≤ x2 ∧ x2 < σ 7 2 then 1 else 0))] S σ τ Q
    refine i36e c_161_13 rfl (fun hc => ?_) (fun hc => ?_)
    · have t := iT t hc
      have ha4 : x2 = -1 ∨ 0 ≤ x2 ∧ x2 < σ 7 2 := hc
      refine i3 c_161_16 rfl (i5 c_161_17 rfl (i45 c_161_18 (lo (c := 1) (kd := 111) (n := 0) rfl (by decide)) (lro (c := 1) (k := 0) (j := 2) (by decide)) (wi_ok (fun K5 => ?_))))
      obtain ⟨r6, t⟩ := t
      refine i43 (v := σ 2 8) c_161_21 (lo (c := 2) (kd := 108) (n := 0) rfl (by decide)) rfl ?_
      refine i37 c_161_24 r6 (rge_ K5 rfl) rfl (fun hc => ?_) (fun hc => ?_)
      · have t := iT t hc
        have ha7 : x3 < (σ 2 8) := hc
        refine i1 c_161_45 (i6 (L' := [.ref 1, .int (wI x1), .int (wI x2), .int (wI x3), .int (wI x4), .int (wI 0)]) c_161_46 rfl (i3 c_161_48 rfl (i36k (pc1 := 68) c_161_50 (by decide) (i1 c_161_68 ?_))))
        exact i90 c_161_69 t
      · have t := iF t hc
        have ha7 : ¬ (x3 < (σ 2 8)) := hc
        obtain ⟨r8, t⟩ := t
        refine i3 c_161_27 rfl (i3 c_161_29 rfl ?_)
        refine i37 c_161_30 r8 r6 rfl (fun hc => ?_) (fun hc => ?_)
        · have t := iT t hc
          have ha9 : x4 < x3 := hc
          refine i1 c_161_45 (i6 (L' := [.ref 1, .int (wI x1), .int (wI x2), .int (wI x3), .int (wI x4), .int (wI 0)]) c_161_46 rfl (i3 c_161_48 rfl (i36k (pc1 := 68) c_161_50 (by decide) (i1 c_161_68 ?_))))
          exact i90 c_161_69 t
        · have t := iF t hc
          have ha9 : ¬ (x4 < x3) := hc
          refine i3 c_161_33 rfl (i1 c_161_35 ?_)
          refine i37 c_161_38 r8 (by decide) rfl (fun hc => ?_) (fun hc => ?_)
          · have t := iT t hc
            have ha10 : (400 : Int) ≤ x4 := hc
            refine i1 c_161_45 (i6 (L' := [.ref 1, .int (wI x1), .int (wI x2), .int (wI x3), .int (wI x4), .int (wI 0)]) c_161_46 rfl (i3 c_161_48 rfl (i36k (pc1 := 68) c_161_50 (by decide) (i1 c_161_68 ?_))))
            exact i90 c_161_69 t
          · have t := iF t hc
            have ha10 : ¬ ((400 : Int) ≤ x4) := hc
            refine i1 c_161_41 (i38 c_161_42 rfl (i6 (L' := [.ref 1, .int (wI x1), .int (wI x2), .int (wI x3), .int (wI x4), .int (wI 1)]) c_161_46 rfl (i3 c_161_48 rfl (i36k (pc1 := 53) c_161_50 (by decide) (i5 c_161_53 rfl (i45 c_161_54 (lo (c := 1) (kd := 111) (n := 0) rfl (by decide)) (lro (c := 1) (k := 0) (j := 2) (by decide)) (i45 c_161_57 (lo (c := 2) (kd := 108) (n := 0) rfl (by decide)) (lro (c := 2) (k := 7) (j := 17) (by decide)) (i43 (v := σ 17 2) c_161_60 (lo (c := 17) (kd := 104) (n := 0) rfl (by decide)) rfl (i1 c_161_63 ?_)))))))))
            refine i37 c_161_65 (rge_ K5 rfl) (by decide) rfl (fun hc => ?_) (fun hc => ?_)
            · have t := iT t hc
              have ha11 : (σ 17 2) < 60 := hc
              refine i5 c_161_70 rfl (i45 c_161_71 (lo (c := 1) (kd := 111) (n := 0) rfl (by decide)) (lro (c := 1) (k := 0) (j := 2) (by decide)) (i3 c_161_74 rfl (i3 c_161_75 rfl (i3 c_161_76 rfl (i3 c_161_77 rfl ?_)))))
              refine i80 (As := [.int (wI x1), .int (wI x2), .int (wI x3), .int (wI x4)]) (rest := []) c_161_79 mi_95 rfl rfl (Nat.le_of_ble_eq_true rfl) (Nat.le_of_ble_eq_true rfl) (lo (c := 2) (kd := 108) (n := 0) rfl (by decide)) (q_95 tw_2 r1 r3 r6 r8 ?_)
              show wi (d + 8) 161 82 [.ref 1, .int (wI x1), .int (wI x2), .int (wI x3), .int (wI x4), .int (wI 1)] [.int (wI (if σ 17 2 < 61 then σ 17 2 else -1))] S (uc (uc σ 18 (if (σ 17) 2 < 61 then u1 (u1 (u1 (u1 (u1 (fl_ ((σ 18)) ((σ 17) 2 * 5) ((σ 17) 2 * 5 + 5) 0) ((σ 17) 2 * 5 + 0) (x1)) ((σ 17) 2 * 5 + 1) (x2)) ((σ 17) 2 * 5 + 2) (x3)) ((σ 17) 2 * 5 + 3) (x4)) ((σ 17) 2 * 5 + 4) ((σ 2) 8) else (σ 18))) 17 (if (σ 17) 2 < 61 then u1 ((σ 17)) 2 ((σ 17) 2 + 1) else (σ 17))) τ Q
              exact i90 c_161_82 t
            · have t := iF t hc
              have ha11 : ¬ ((σ 17 2) < 60) := hc
              refine i1 c_161_68 ?_
              exact i90 c_161_69 t
    · have t := iF t hc
      have ha4 : ¬ (x2 = -1 ∨ 0 ≤ x2 ∧ x2 < σ 7 2) := hc
      refine i1 c_161_45 (i6 (L' := [.ref 1, .int (wI x1), .int (wI x2), .int (wI x3), .int (wI x4), .int (wI 0)]) c_161_46 rfl (i3 c_161_48 rfl (i36k (pc1 := 68) c_161_50 (by decide) (i1 c_161_68 ?_))))
      exact i90 c_161_69 t
  · have t := iF t hc
    have ha2 : ¬ (0 ≤ x1 ∧ x1 < σ 2 9) := hc
    refine i1 c_161_45 (i6 (L' := [.ref 1, .int (wI x1), .int (wI x2), .int (wI x3), .int (wI x4), .int (wI 0)]) c_161_46 rfl (i3 c_161_48 rfl (i36k (pc1 := 68) c_161_50 (by decide) (i1 c_161_68 ?_))))
    exact i90 c_161_69 t
theorem q_161 {d : Nat} {S : zS} {σ τ : zI} {Q : zQ} {text : Int} {mill : Int} {from_ : Int} {to : Int} {a : Int → Int} (p0 : RT σ 2 a) (p1 : Jv a) (p2 : jv_Z a) (p3 : a 6 ≤ 60) (p4 : rg text) (p5 : rg mill) (p6 : rg from_) (p7 : rg to) (t : ∀ (σ1 : zI), RT σ1 2 (r_force a text mill from_ to) → F2 σ σ1 → Q (some (.int (wI (v_force a text mill from_ to)))) S σ1 τ) : wc (d + 8) 161 [.ref 1, .int (wI text), .int (wI mill), .int (wI from_), .int (wI to)] S σ τ Q := by
  have hC := jC p1
  have hC' := hC
  unfold jv_C at hC
  have l2 := tl_2 p0
  have lS := tl_S p0
  refine wc_of mi_161 rfl (u_161_0 ?_)
  by_cases hk : k_force a text mill from_ to
  · unfold v_force at t
    rw [if_pos hk] at t
    have er : r_force a text mill from_ to = _ := if_pos hk
    simp only [k_force] at hk
    repeat' (first | refine ⟨a, p0, ?_⟩ | refine ⟨by assumption, ?_⟩ | refine ⟨_, rfl, by omega, ?_⟩ | refine ⟨by omega, ?_⟩ | rw [if_pos (by omega)] | rw [if_neg (by omega)])
    rw [show a 6 = σ 17 2 by omega] at t
    refine t _ ?_ ?_
    · rw [er]
      exact XFp p0 hC' (by omega)
    · intro c hc
      simp (disch := omega) only [uc_n]
  · unfold v_force at t
    rw [if_neg hk] at t
    have er : r_force a text mill from_ to = a := if_neg hk
    have t := t σ (by rw [er]; exact p0) (fun _ _ => rfl)
    simp only [k_force] at hk
    repeat' (first | exact t | refine ⟨a, p0, ?_⟩ | refine ⟨by assumption, ?_⟩ | refine ⟨_, rfl, by omega, ?_⟩ | refine ⟨by omega, ?_⟩ | refine ifI (fun _ => ?_) (fun _ => ?_) | (rw [if_neg (show ¬ σ 17 2 < 61 by omega), if_neg (show ¬ σ 17 2 < 61 by omega), if_neg (show ¬ σ 17 2 < 61 by omega), uc_id, uc_id]; exact t) | (exfalso; omega))
-- method 167: MillTown.terms(II)Z
theorem c_167_0 : pg_cd 167 0 = (3, 1, 0, 1, 0) := by decide +kernel
theorem c_167_1 : pg_cd 167 1 = (1, 1, 0, 0, 0) := by decide +kernel
theorem c_167_2 : pg_cd 167 2 = (1, 3, 0, 0, 1000) := by decide +kernel
theorem c_167_5 : pg_cd 167 5 = (81, 141, 85, 0, 0) := by decide +kernel
theorem c_167_8 : pg_cd 167 8 = (36, 3, 0, 0, 13) := by decide +kernel
theorem c_167_11 : pg_cd 167 11 = (3, 1, 0, 2, 0) := by decide +kernel
theorem c_167_12 : pg_cd 167 12 = (1, 1, 0, 0, 1) := by decide +kernel
theorem c_167_13 : pg_cd 167 13 = (1, 2, 100, 0, 100000) := by decide +kernel
theorem c_167_15 : pg_cd 167 15 = (81, 141, 85, 0, 0) := by decide +kernel
theorem c_167_18 : pg_cd 167 18 = (36, 3, 0, 1, 5) := by decide +kernel
theorem c_167_21 : pg_cd 167 21 = (1, 1, 0, 0, 0) := by decide +kernel
theorem c_167_22 : pg_cd 167 22 = (91, 0, 0, 0, 0) := by decide +kernel
theorem c_167_23 : pg_cd 167 23 = (5, 1, 0, 0, 0) := by decide +kernel
theorem c_167_24 : pg_cd 167 24 = (45, 11, 12, 0, 0) := by decide +kernel
theorem c_167_27 : pg_cd 167 27 = (3, 1, 0, 1, 0) := by decide +kernel
theorem c_167_28 : pg_cd 167 28 = (46, 8, 225, 11, 0) := by decide +kernel
theorem c_167_31 : pg_cd 167 31 = (5, 1, 0, 0, 0) := by decide +kernel
theorem c_167_32 : pg_cd 167 32 = (45, 11, 12, 0, 0) := by decide +kernel
theorem c_167_35 : pg_cd 167 35 = (3, 1, 0, 2, 0) := by decide +kernel
theorem c_167_36 : pg_cd 167 36 = (46, 8, 228, 12, 0) := by decide +kernel
theorem c_167_39 : pg_cd 167 39 = (1, 1, 0, 0, 1) := by decide +kernel
theorem c_167_40 : pg_cd 167 40 = (91, 0, 0, 0, 0) := by decide +kernel
theorem mi_167 : pg_mc 167 = 11 ∧ pg_na 167 = 2 ∧ pg_mx 167 = 3 := by decide +kernel
set_option maxRecDepth 20000 in
theorem u_167_0 {d : Nat} {S : zS} {σ τ : zI} {Q : zQ} {x1 : Int} {x2 : Int} (t : (rg x1) ∧ if 0 ≤ x1 ∧ x1 ≤ 1000 then ((rg x2) ∧ if 1 ≤ x2 ∧ x2 ≤ 100000 then (Q (some (.int (wI 1))) S (uc σ 2 (u1 (u1 (σ 2) 11 x1) 12 x2)) τ) else (Q (some (.int (wI 0))) S σ τ)) else (Q (some (.int (wI 0))) S σ τ)) : wi (d + 8) 167 0 [.ref 1, .int (wI x1), .int (wI x2)] [] S σ τ Q := by
  obtain ⟨r1, t⟩ := t
  refine i3 c_167_0 rfl (i1 c_167_1 (i1 c_167_2 ?_))
  refine i81 (As := [.int (wI x1), .int (wI 0), .int (wI 1000)]) (rest := []) c_167_5 mi_141 rfl rfl (Nat.le_of_ble_eq_true rfl) (Nat.le_of_ble_eq_true rfl) (q_141 r1 (by decide) (by decide) ?_)
  show wi (d + 8) 167 8 [.ref 1, .int (wI x1), .int (wI x2)] [.int (wI (if 0 ≤ x1 ∧ x1 ≤ 1000 then 1 else 0))] S σ τ Q
  refine i36e c_167_8 rfl (fun hc => ?_) (fun hc => ?_)
  · have t := iT t hc
    have ha2 : 0 ≤ x1 ∧ x1 ≤ 1000 := hc
    obtain ⟨r3, t⟩ := t
    refine i3 c_167_11 rfl (i1 c_167_12 (i1 c_167_13 ?_))
    refine i81 (As := [.int (wI x2), .int (wI 1), .int (wI 100000)]) (rest := []) c_167_15 mi_141 rfl rfl (Nat.le_of_ble_eq_true rfl) (Nat.le_of_ble_eq_true rfl) (q_141 r3 (by decide) (by decide) ?_)
    show wi (d + 8) 167 18 [.ref 1, .int (wI x1), .int (wI x2)] [.int (wI (if 1 ≤ x2 ∧ x2 ≤ 100000 then 1 else 0))] S σ τ Q
    refine i36f c_167_18 rfl (fun hc => ?_) (fun hc => ?_)
    · have t := iT t hc
      have ha4 : 1 ≤ x2 ∧ x2 ≤ 100000 := hc
      refine i5 c_167_23 rfl (i45 c_167_24 (lo (c := 1) (kd := 111) (n := 0) rfl (by decide)) (lro (c := 1) (k := 0) (j := 2) (by decide)) (i3 c_167_27 rfl (i46 (σ1 := uc σ 2 (u1 (σ 2) 11 x1)) c_167_28 (lo (c := 2) (kd := 108) (n := 0) rfl (by decide)) (by decide) rfl r1 (wr_ rfl rfl) (i5 c_167_31 rfl (i45 c_167_32 (lo (c := 1) (kd := 111) (n := 0) rfl (by decide)) (lro (c := 1) (k := 0) (j := 2) (by decide)) (i3 c_167_35 rfl (i46 (σ1 := uc σ 2 (u1 (u1 (σ 2) 11 x1) 12 x2)) c_167_36 (lo (c := 2) (kd := 108) (n := 0) rfl (by decide)) (by decide) rfl r3 (wr_ (uc_s _ _ _) (uc_uc _ _ _ _)) (i1 c_167_39 ?_))))))))
      exact i91 c_167_40 (by decide) t
    · have t := iF t hc
      have ha4 : ¬ (1 ≤ x2 ∧ x2 ≤ 100000) := hc
      refine i1 c_167_21 ?_
      exact i91 c_167_22 (by decide) t
  · have t := iF t hc
    have ha2 : ¬ (0 ≤ x1 ∧ x1 ≤ 1000) := hc
    refine i1 c_167_21 ?_
    exact i91 c_167_22 (by decide) t
theorem q_167 {d : Nat} {S : zS} {σ τ : zI} {Q : zQ} {rail : Int} {dear : Int} {a : Int → Int} (p0 : RT σ 2 a) (p1 : Jv a) (p2 : jv_Z a) (p3 : rg rail) (p4 : rg dear) (t : ∀ (σ1 : zI), RT σ1 2 (r_terms a rail dear) → F2 σ σ1 → Q (some (.int (wI (if k_terms a rail dear then 1 else 0)))) S σ1 τ) : wc (d + 8) 167 [.ref 1, .int (wI rail), .int (wI dear)] S σ τ Q := by
  have hC := jC p1
  have hC' := hC
  unfold jv_C at hC
  have l2 := tl_2 p0
  have lS := tl_S p0
  refine wc_of mi_167 rfl (u_167_0 ?_)
  by_cases hk : k_terms a rail dear
  · rw [if_pos hk] at t
    have er : r_terms a rail dear = _ := if_pos hk
    simp only [k_terms] at hk
    repeat' (first | refine ⟨a, p0, ?_⟩ | refine ⟨by assumption, ?_⟩ | refine ⟨_, rfl, by omega, ?_⟩ | refine ⟨by omega, ?_⟩ | rw [if_pos (by omega)] | rw [if_neg (by omega)])
    refine t _ ?_ ?_
    · rw [er]
      refine XS p0 hC' (fun c h1 => uc_n h1) ?_ (fun k hk => by simp (disch := omega) only [u1_n])
      unfold rT_S
      rw [uc_s]
      simp (disch := omega) only [u1_n, u1_s]
      simp [lS]
    · intro c hc
      simp (disch := omega) only [uc_n]
  · rw [if_neg hk] at t
    have er : r_terms a rail dear = a := if_neg hk
    have t := t σ (by rw [er]; exact p0) (fun _ _ => rfl)
    simp only [k_terms] at hk
    repeat' (first | exact t | refine ⟨a, p0, ?_⟩ | refine ⟨by assumption, ?_⟩ | refine ⟨_, rfl, by omega, ?_⟩ | refine ⟨by omega, ?_⟩ | refine ifI (fun _ => ?_) (fun _ => ?_) | (exfalso; omega))
-- method 168: MillTown.fund(III)Z
theorem c_168_0 : pg_cd 168 0 = (3, 1, 0, 1, 0) := by decide +kernel
theorem c_168_1 : pg_cd 168 1 = (1, 1, 0, 0, 0) := by decide +kernel
theorem c_168_2 : pg_cd 168 2 = (1, 2, 100, 0, 100000) := by decide +kernel
theorem c_168_4 : pg_cd 168 4 = (81, 141, 85, 0, 0) := by decide +kernel
theorem c_168_7 : pg_cd 168 7 = (36, 3, 0, 0, 24) := by decide +kernel
theorem c_168_10 : pg_cd 168 10 = (3, 1, 0, 2, 0) := by decide +kernel
theorem c_168_11 : pg_cd 168 11 = (1, 1, 0, 0, 0) := by decide +kernel
theorem c_168_12 : pg_cd 168 12 = (1, 2, 0, 0, 50) := by decide +kernel
theorem c_168_14 : pg_cd 168 14 = (81, 141, 85, 0, 0) := by decide +kernel
theorem c_168_17 : pg_cd 168 17 = (36, 3, 0, 0, 14) := by decide +kernel
theorem c_168_20 : pg_cd 168 20 = (3, 1, 0, 3, 0) := by decide +kernel
theorem c_168_21 : pg_cd 168 21 = (1, 1, 0, 0, 0) := by decide +kernel
theorem c_168_22 : pg_cd 168 22 = (1, 3, 0, 0, 500) := by decide +kernel
theorem c_168_25 : pg_cd 168 25 = (81, 141, 85, 0, 0) := by decide +kernel
theorem c_168_28 : pg_cd 168 28 = (36, 3, 0, 1, 5) := by decide +kernel
theorem c_168_31 : pg_cd 168 31 = (1, 1, 0, 0, 0) := by decide +kernel
theorem c_168_32 : pg_cd 168 32 = (91, 0, 0, 0, 0) := by decide +kernel
theorem c_168_33 : pg_cd 168 33 = (5, 1, 0, 0, 0) := by decide +kernel
theorem c_168_34 : pg_cd 168 34 = (45, 11, 12, 0, 0) := by decide +kernel
theorem c_168_37 : pg_cd 168 37 = (33, 1, 0, 0, 0) := by decide +kernel
theorem c_168_38 : pg_cd 168 38 = (43, 8, 231, 13, 0) := by decide +kernel
theorem c_168_41 : pg_cd 168 41 = (3, 1, 0, 1, 0) := by decide +kernel
theorem c_168_42 : pg_cd 168 42 = (10, 1, 0, 0, 0) := by decide +kernel
theorem c_168_43 : pg_cd 168 43 = (46, 8, 231, 13, 0) := by decide +kernel
theorem c_168_46 : pg_cd 168 46 = (5, 1, 0, 0, 0) := by decide +kernel
theorem c_168_47 : pg_cd 168 47 = (45, 11, 12, 0, 0) := by decide +kernel
theorem c_168_50 : pg_cd 168 50 = (3, 1, 0, 2, 0) := by decide +kernel
theorem c_168_51 : pg_cd 168 51 = (46, 8, 234, 14, 0) := by decide +kernel
theorem c_168_54 : pg_cd 168 54 = (5, 1, 0, 0, 0) := by decide +kernel
theorem c_168_55 : pg_cd 168 55 = (45, 11, 12, 0, 0) := by decide +kernel
theorem c_168_58 : pg_cd 168 58 = (3, 1, 0, 3, 0) := by decide +kernel
theorem c_168_59 : pg_cd 168 59 = (46, 8, 237, 15, 0) := by decide +kernel
theorem c_168_62 : pg_cd 168 62 = (1, 1, 0, 0, 1) := by decide +kernel
theorem c_168_63 : pg_cd 168 63 = (91, 0, 0, 0, 0) := by decide +kernel
theorem mi_168 : pg_mc 168 = 11 ∧ pg_na 168 = 3 ∧ pg_mx 168 = 4 := by decide +kernel
set_option maxRecDepth 20000 in
theorem u_168_0 {d : Nat} {S : zS} {σ τ : zI} {Q : zQ} {x1 : Int} {x2 : Int} {x3 : Int} (t : (rg x1) ∧ if 0 ≤ x1 ∧ x1 ≤ 100000 then ((rg x2) ∧ if 0 ≤ x2 ∧ x2 ≤ 50 then ((rg x3) ∧ if 0 ≤ x3 ∧ x3 ≤ 500 then (∃ w8 : Int, wI w8 = wI ((σ 2 13) + x1) ∧ rg w8 ∧ Q (some (.int (wI 1))) S (uc σ 2 (u1 (u1 (u1 (σ 2) 13 w8) 14 x2) 15 x3)) τ) else (Q (some (.int (wI 0))) S σ τ)) else (Q (some (.int (wI 0))) S σ τ)) else (Q (some (.int (wI 0))) S σ τ)) : wi (d + 8) 168 0 [.ref 1, .int (wI x1), .int (wI x2), .int (wI x3)] [] S σ τ Q := by
  obtain ⟨r1, t⟩ := t
  refine i3 c_168_0 rfl (i1 c_168_1 (i1 c_168_2 ?_))
  refine i81 (As := [.int (wI x1), .int (wI 0), .int (wI 100000)]) (rest := []) c_168_4 mi_141 rfl rfl (Nat.le_of_ble_eq_true rfl) (Nat.le_of_ble_eq_true rfl) (q_141 r1 (by decide) (by decide) ?_)
  show wi (d + 8) 168 7 [.ref 1, .int (wI x1), .int (wI x2), .int (wI x3)] [.int (wI (if 0 ≤ x1 ∧ x1 ≤ 100000 then 1 else 0))] S σ τ Q
  refine i36e c_168_7 rfl (fun hc => ?_) (fun hc => ?_)
  · have t := iT t hc
    have ha2 : 0 ≤ x1 ∧ x1 ≤ 100000 := hc
    obtain ⟨r3, t⟩ := t
    refine i3 c_168_10 rfl (i1 c_168_11 (i1 c_168_12 ?_))
    refine i81 (As := [.int (wI x2), .int (wI 0), .int (wI 50)]) (rest := []) c_168_14 mi_141 rfl rfl (Nat.le_of_ble_eq_true rfl) (Nat.le_of_ble_eq_true rfl) (q_141 r3 (by decide) (by decide) ?_)
    show wi (d + 8) 168 17 [.ref 1, .int (wI x1), .int (wI x2), .int (wI x3)] [.int (wI (if 0 ≤ x2 ∧ x2 ≤ 50 then 1 else 0))] S σ τ Q
    refine i36e c_168_17 rfl (fun hc => ?_) (fun hc => ?_)
    · have t := iT t hc
      have ha4 : 0 ≤ x2 ∧ x2 ≤ 50 := hc
      obtain ⟨r5, t⟩ := t
      refine i3 c_168_20 rfl (i1 c_168_21 (i1 c_168_22 ?_))
      refine i81 (As := [.int (wI x3), .int (wI 0), .int (wI 500)]) (rest := []) c_168_25 mi_141 rfl rfl (Nat.le_of_ble_eq_true rfl) (Nat.le_of_ble_eq_true rfl) (q_141 r5 (by decide) (by decide) ?_)
      show wi (d + 8) 168 28 [.ref 1, .int (wI x1), .int (wI x2), .int (wI x3)] [.int (wI (if 0 ≤ x3 ∧ x3 ≤ 500 then 1 else 0))] S σ τ Q
      refine i36f c_168_28 rfl (fun hc => ?_) (fun hc => ?_)
      · have t := iT t hc
        have ha6 : 0 ≤ x3 ∧ x3 ≤ 500 := hc
        refine i5 c_168_33 rfl (i45 c_168_34 (lo (c := 1) (kd := 111) (n := 0) rfl (by decide)) (lro (c := 1) (k := 0) (j := 2) (by decide)) (i33a c_168_37 (wi_ok (fun K7 => ?_))))
        obtain ⟨w8, e9, r10, t⟩ := t
        refine i43 (v := σ 2 13) c_168_38 (lo (c := 2) (kd := 108) (n := 0) rfl (by decide)) rfl (i3 c_168_41 rfl (i10 c_168_42 (i46 (σ1 := uc σ 2 (u1 (σ 2) 13 w8)) c_168_43 (lo (c := 2) (kd := 108) (n := 0) rfl (by decide)) (by decide) e9 r10 (wr_ rfl rfl) (i5 c_168_46 rfl (i45 c_168_47 (lo (c := 1) (kd := 111) (n := 0) rfl (by decide)) (lro (c := 1) (k := 0) (j := 2) (by decide)) (i3 c_168_50 rfl (i46 (σ1 := uc σ 2 (u1 (u1 (σ 2) 13 w8) 14 x2)) c_168_51 (lo (c := 2) (kd := 108) (n := 0) rfl (by decide)) (by decide) rfl r3 (wr_ (uc_s _ _ _) (uc_uc _ _ _ _)) (i5 c_168_54 rfl (i45 c_168_55 (lo (c := 1) (kd := 111) (n := 0) rfl (by decide)) (lro (c := 1) (k := 0) (j := 2) (by decide)) (i3 c_168_58 rfl (i46 (σ1 := uc σ 2 (u1 (u1 (u1 (σ 2) 13 w8) 14 x2) 15 x3)) c_168_59 (lo (c := 2) (kd := 108) (n := 0) rfl (by decide)) (by decide) rfl r5 (wr_ (uc_s _ _ _) (uc_uc _ _ _ _)) (i1 c_168_62 ?_))))))))))))
        exact i91 c_168_63 (by decide) t
      · have t := iF t hc
        have ha6 : ¬ (0 ≤ x3 ∧ x3 ≤ 500) := hc
        refine i1 c_168_31 ?_
        exact i91 c_168_32 (by decide) t
    · have t := iF t hc
      have ha4 : ¬ (0 ≤ x2 ∧ x2 ≤ 50) := hc
      refine i1 c_168_31 ?_
      exact i91 c_168_32 (by decide) t
  · have t := iF t hc
    have ha2 : ¬ (0 ≤ x1 ∧ x1 ≤ 100000) := hc
    refine i1 c_168_31 ?_
    exact i91 c_168_32 (by decide) t
theorem q_168 {d : Nat} {S : zS} {σ τ : zI} {Q : zQ} {more : Int} {levy : Int} {relief : Int} {a : Int → Int} (p0 : RT σ 2 a) (p1 : Jv a) (p2 : jv_Z a) (p3 : rg more) (p4 : rg levy) (p5 : rg relief) (t : ∀ (σ1 : zI), RT σ1 2 (r_fund a more levy relief) → F2 σ σ1 → Q (some (.int (wI (if k_fund more levy relief then 1 else 0)))) S σ1 τ) : wc (d + 8) 168 [.ref 1, .int (wI more), .int (wI levy), .int (wI relief)] S σ τ Q := by
  have hC' := jC p1
  have lS := tl_S p0
  refine wc_of mi_168 rfl (u_168_0 ?_)
  by_cases hk : k_fund more levy relief
  · rw [if_pos hk] at t
    have er : r_fund a more levy relief = _ := if_pos hk
    simp only [k_fund] at hk
    have t := t (uc σ 2 (u1 (u1 (u1 (σ 2) 13 (zw (σ 2 13 + more))) 14 levy) 15 relief)) (by
      rw [er]
      refine XS p0 hC' (fun c h1 => uc_n h1) ?_ (fun k hk => by simp (disch := omega) only [u1_n])
      unfold rT_S
      rw [uc_s]
      simp (disch := omega) only [u1_n, u1_s]
      simp [lS]) (fun c hc => uc_n (by omega))
    repeat' (first | exact t | refine ⟨zw _, wI_zw _, rg_zw _, ?_⟩ | refine ⟨by omega, ?_⟩ | refine ifI (fun _ => ?_) (fun _ => ?_) | (exfalso; omega))
  · rw [if_neg hk] at t
    have er : r_fund a more levy relief = a := if_neg hk
    have t := t σ (by rw [er]; exact p0) (fun _ _ => rfl)
    simp only [k_fund] at hk
    repeat' (first | exact t | (exfalso; omega) | refine ⟨by omega, ?_⟩ | refine ifI (fun _ => ?_) (fun _ => ?_))
