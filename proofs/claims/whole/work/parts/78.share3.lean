/-! ===== half time shared: the class, what it gathers (segments printed by wip/whole, contracts own work) ===== -/
theorem q_90i {d : Nat} {S : zS} {σ τ : zI} {Q : zQ} {tn : Nat} {what : Int} {week : Int} {a : Int → Int} (htn : tw tn) (p0 : RT σ tn a) (p1 : ((0 : Int) ≤ what ∧ what ≤ (7 : Int)) ∧ (-1 : Int) ≤ week ∧ week ≤ (399 : Int)) (t : Q (some (.int (wI (r_pr a what week)))) S σ τ) : wc (d + 1) 90 [.ref tn, .int (wI what), .int (wI week)] S σ τ Q := by
  exact q_90 htn p0 p1 t
-- method 62: MillTown$Sharing.bestRun(I)I
theorem c_62_0 : pg_cd 62 0 = (3, 1, 0, 1, 0) := by decide +kernel
theorem c_62_1 : pg_cd 62 1 = (36, 3, 0, 2, 18) := by decide +kernel
theorem c_62_4 : pg_cd 62 4 = (3, 1, 0, 1, 0) := by decide +kernel
theorem c_62_5 : pg_cd 62 5 = (1, 2, 0, 0, 8) := by decide +kernel
theorem c_62_7 : pg_cd 62 7 = (37, 3, 0, 3, 12) := by decide +kernel
theorem c_62_10 : pg_cd 62 10 = (5, 1, 0, 0, 0) := by decide +kernel
theorem c_62_11 : pg_cd 62 11 = (45, 5, 34, 7, 0) := by decide +kernel
theorem c_62_14 : pg_cd 62 14 = (3, 1, 0, 1, 0) := by decide +kernel
theorem c_62_15 : pg_cd 62 15 = (50, 1, 0, 0, 0) := by decide +kernel
theorem c_62_16 : pg_cd 62 16 = (38, 3, 0, 0, 4) := by decide +kernel
theorem c_62_19 : pg_cd 62 19 = (1, 1, 0, 0, (-1)) := by decide +kernel
theorem c_62_20 : pg_cd 62 20 = (90, 0, 0, 0, 0) := by decide +kernel
theorem mi_62 : pg_mc 62 = 5 ∧ pg_na 62 = 1 ∧ pg_mx 62 = 2 := by decide +kernel
set_option maxRecDepth 20000 in
theorem u_62_0 {d : Nat} {S : zS} {σ τ : zI} {Q : zQ} {x1 : Int} (t : (rg x1) ∧ if x1 < 0 then (Q (some (.int (wI (-1)))) S σ τ) else (if (8 : Int) ≤ x1 then (Q (some (.int (wI (-1)))) S σ τ) else ((0 ≤ x1 ∧ x1 < 8) ∧ Q (some (.int (wI (σ 75 x1)))) S σ τ))) : wi (d + 0) 62 0 [.ref 67, .int (wI x1)] [] S σ τ Q := by
  obtain ⟨r1, t⟩ := t
  refine i3 c_62_0 rfl ?_
  refine i36 c_62_1 r1 rfl (fun hc => ?_) (fun hc => ?_)
  · have t := iT t hc
    have ha2 : x1 < 0 := hc
    refine i1 c_62_19 ?_
    exact i90 c_62_20 t
  · have t := iF t hc
    have ha2 : ¬ (x1 < 0) := hc
    refine i3 c_62_4 rfl (i1 c_62_5 ?_)
    refine i37 c_62_7 r1 (by decide) rfl (fun hc => ?_) (fun hc => ?_)
    · have t := iT t hc
      have ha3 : (8 : Int) ≤ x1 := hc
      refine i1 c_62_19 ?_
      exact i90 c_62_20 t
    · have t := iF t hc
      have ha3 : ¬ ((8 : Int) ≤ x1) := hc
      obtain ⟨r4, t⟩ := t
      refine i5 c_62_10 rfl (i45 c_62_11 (lo (c := 67) (kd := 105) (n := 0) rfl (by decide)) (lro (c := 67) (k := 7) (j := 75) (by decide)) (i3 c_62_14 rfl (wi_ok (fun K5 => ?_))))
      refine i50 (v := σ 75 x1) c_62_15 (lo (c := 75) (kd := 0) (n := 8) rfl (by decide)) (by decide) r4 rfl (i38 c_62_16 rfl ?_)
      exact i90 c_62_20 t
theorem q_62 {d : Nat} {S : zS} {σ τ : zI} {Q : zQ} {mill : Int} (p0 : 0 ≤ mill ∧ mill < (8 : Int)) (t : Q (some (.int (wI (σ 75 (mill))))) S σ τ) : wc (d + 0) 62 [.ref 67, .int (wI mill)] S σ τ Q := by
  refine wc_of mi_62 rfl (u_62_0 ⟨by omega, ?_⟩)
  rw [if_neg (by omega), if_neg (by omega)]
  exact ⟨by omega, t⟩
/-- what earn adds -/
def EA (τ τ1 : zI) (mill run home coins : Int) : Prop := (∀ c, c ≠ 68 → τ1 c = τ c) ∧ ∀ k, τ1 68 k = τ 68 k + (if 0 ≤ home ∧ k = (mill * 3 + run) * 24 + home then coins else 0)
/-- what a PERSON's run adds -/
def ED (τ τ1 : zI) (a : Int → Int) (m run p : Int) : Prop := (∀ c, c ≠ 68 → τ1 c = τ c) ∧ (∀ h, 0 ≤ h → h < 24 → τ1 68 ((m * 3 + run) * 24 + h) = τ 68 ((m * 3 + run) * 24 + h) + s_e1 a m run h p) ∧ ∀ k, k < (m * 3 + run) * 24 ∨ (m * 3 + run) * 24 + 24 ≤ k → τ1 68 k = τ 68 k
-- method 68: MillTown$Sharing.earn(IIIJ)V
theorem c_68_0 : pg_cd 68 0 = (3, 1, 0, 1, 0) := by decide +kernel
theorem c_68_1 : pg_cd 68 1 = (1, 1, 0, 0, 3) := by decide +kernel
theorem c_68_2 : pg_cd 68 2 = (12, 1, 0, 0, 0) := by decide +kernel
theorem c_68_3 : pg_cd 68 3 = (3, 1, 0, 2, 0) := by decide +kernel
theorem c_68_4 : pg_cd 68 4 = (10, 1, 0, 0, 0) := by decide +kernel
theorem c_68_5 : pg_cd 68 5 = (1, 2, 0, 0, 24) := by decide +kernel
theorem c_68_7 : pg_cd 68 7 = (12, 1, 0, 0, 0) := by decide +kernel
theorem c_68_8 : pg_cd 68 8 = (3, 1, 0, 3, 0) := by decide +kernel
theorem c_68_9 : pg_cd 68 9 = (10, 1, 0, 0, 0) := by decide +kernel
theorem c_68_10 : pg_cd 68 10 = (6, 2, 0, 6, 0) := by decide +kernel
theorem c_68_12 : pg_cd 68 12 = (3, 1, 0, 3, 0) := by decide +kernel
theorem c_68_13 : pg_cd 68 13 = (36, 3, 0, 2, 30) := by decide +kernel
theorem c_68_16 : pg_cd 68 16 = (3, 2, 0, 6, 0) := by decide +kernel
theorem c_68_18 : pg_cd 68 18 = (36, 3, 0, 2, 25) := by decide +kernel
theorem c_68_21 : pg_cd 68 21 = (3, 2, 0, 6, 0) := by decide +kernel
theorem c_68_23 : pg_cd 68 23 = (5, 1, 0, 0, 0) := by decide +kernel
theorem c_68_24 : pg_cd 68 24 = (45, 5, 11, 0, 0) := by decide +kernel
theorem c_68_27 : pg_cd 68 27 = (58, 1, 0, 0, 0) := by decide +kernel
theorem c_68_28 : pg_cd 68 28 = (37, 3, 0, 3, 15) := by decide +kernel
theorem c_68_31 : pg_cd 68 31 = (5, 1, 0, 0, 0) := by decide +kernel
theorem c_68_32 : pg_cd 68 32 = (45, 5, 11, 0, 0) := by decide +kernel
theorem c_68_35 : pg_cd 68 35 = (3, 2, 0, 6, 0) := by decide +kernel
theorem c_68_37 : pg_cd 68 37 = (34, 1, 0, 0, 0) := by decide +kernel
theorem c_68_38 : pg_cd 68 38 = (52, 1, 0, 0, 0) := by decide +kernel
theorem c_68_39 : pg_cd 68 39 = (4, 2, 0, 4, 0) := by decide +kernel
theorem c_68_41 : pg_cd 68 41 = (22, 1, 0, 0, 0) := by decide +kernel
theorem c_68_42 : pg_cd 68 42 = (56, 1, 0, 0, 0) := by decide +kernel
theorem c_68_43 : pg_cd 68 43 = (94, 0, 0, 0, 0) := by decide +kernel
theorem mi_68 : pg_mc 68 = 5 ∧ pg_na 68 = 4 ∧ pg_mx 68 = 7 := by decide +kernel
set_option maxRecDepth 20000 in
theorem u_68_0 {d : Nat} {S : zS} {σ τ : zI} {Q : zQ} {x1 : Int} {x2 : Int} {x3 : Int} {x4 : Int} (t : (rg x3) ∧ if x3 < 0 then (Q none S σ τ) else ((rg ((((x1 * 3) + x2) * 24) + x3)) ∧ if ((((x1 * 3) + x2) * 24) + x3) < 0 then (Q none S σ τ) else (if (576 : Int) ≤ ((((x1 * 3) + x2) * 24) + x3) then (Q none S σ τ) else ((0 ≤ (((x1 * 3) + x2) * 24) + x3 ∧ (((x1 * 3) + x2) * 24) + x3 < 576) ∧ ∃ w8 : Int, wJ w8 = wJ ((τ 68 ((((x1 * 3) + x2) * 24) + x3)) + x4) ∧ rj w8 ∧ Q none S σ (uc τ 68 (u1 (τ 68) ((((x1 * 3) + x2) * 24) + x3) w8)))))) : wi (d + 0) 68 0 [.ref 67, .int (wI x1), .int (wI x2), .int (wI x3), .long (wJ x4), .retAddr 0, .retAddr 0] [] S σ τ Q := by
  obtain ⟨r1, t⟩ := t
  refine i3 c_68_0 rfl (i1 c_68_1 (i12 c_68_2 (i3 c_68_3 rfl (i10 c_68_4 (i1 c_68_5 (i12 c_68_7 (i3 c_68_8 rfl (i10 c_68_9 (i6 (L' := [.ref 67, .int (wI x1), .int (wI x2), .int (wI x3), .long (wJ x4), .retAddr 0, .int (wI ((((x1 * 3) + x2) * 24) + x3))]) c_68_10 rfl (i3 c_68_12 rfl ?_))))))))))
  refine i36 c_68_13 r1 rfl (fun hc => ?_) (fun hc => ?_)
  · have t := iT t hc
    have ha2 : x3 < 0 := hc
    exact i94 c_68_43 t
  · have t := iF t hc
    have ha2 : ¬ (x3 < 0) := hc
    obtain ⟨r3, t⟩ := t
    refine i3 c_68_16 rfl ?_
    refine i36 c_68_18 r3 rfl (fun hc => ?_) (fun hc => ?_)
    · have t := iT t hc
      have ha4 : ((((x1 * 3) + x2) * 24) + x3) < 0 := hc
      exact i94 c_68_43 t
    · have t := iF t hc
      have ha4 : ¬ (((((x1 * 3) + x2) * 24) + x3) < 0) := hc
      refine i3 c_68_21 rfl (i5 c_68_23 rfl (i45 c_68_24 (lo (c := 67) (kd := 105) (n := 0) rfl (by decide)) (lro (c := 67) (k := 0) (j := 68) (by decide)) (i58 (v := 576) c_68_27 (lo (c := 68) (kd := 1) (n := 576) rfl (by decide)) rfl ?_)))
      refine i37 c_68_28 r3 (by decide) rfl (fun hc => ?_) (fun hc => ?_)
      · have t := iT t hc
        have ha5 : (576 : Int) ≤ ((((x1 * 3) + x2) * 24) + x3) := hc
        exact i94 c_68_43 t
      · have t := iF t hc
        have ha5 : ¬ ((576 : Int) ≤ ((((x1 * 3) + x2) * 24) + x3)) := hc
        obtain ⟨r6, t⟩ := t
        refine i5 c_68_31 rfl (i45 c_68_32 (lo (c := 67) (kd := 105) (n := 0) rfl (by decide)) (lro (c := 67) (k := 0) (j := 68) (by decide)) (i3 c_68_35 rfl (i34a c_68_37 (wi_ok (fun K7 => ?_)))))
        obtain ⟨w8, e9, r10, t⟩ := t
        refine i52 (v := τ 68 ((((x1 * 3) + x2) * 24) + x3)) c_68_38 (lo (c := 68) (kd := 1) (n := 576) rfl (by decide)) (by decide) r6 rfl (i4 c_68_39 rfl (i22 c_68_41 (i56 (τ1 := uc τ 68 (u1 (τ 68) ((((x1 * 3) + x2) * 24) + x3) w8)) c_68_42 (lo (c := 68) (kd := 1) (n := 576) rfl (by decide)) (by decide) r6 e9 r10 (wr_ rfl rfl) ?_)))
        exact i94 c_68_43 t
theorem q_68 {d : Nat} {S : zS} {σ τ : zI} {Q : zQ} {mill : Int} {run : Int} {home : Int} {coins : Int} (p0 : 0 ≤ mill ∧ mill < (8 : Int)) (p1 : 0 ≤ run ∧ run < (3 : Int)) (p2 : -1 ≤ home ∧ home < (24 : Int)) (p3 : 0 ≤ coins ∧ coins ≤ (1000000000 : Int)) (p4 : (∀ k, 0 ≤ k → k < 576 → 0 ≤ τ 68 k ∧ τ 68 k ≤ 1000000000000000)) (t : ∀ (τ1 : zI), EA τ τ1 mill run home coins → Q none S σ τ1) : wc (d + 0) 68 [.ref 67, .int (wI mill), .int (wI run), .int (wI home), .long (wJ coins)] S σ τ Q := by
  refine wc_of mi_68 rfl (u_68_0 ?_)
  refine ⟨by omega, ifI (fun e => ?_) (fun e => ?_)⟩
  · exact t τ ⟨fun _ _ => rfl, fun k => by rw [if_neg (by omega), Int.add_zero]⟩
  · refine ⟨by omega, ?_⟩
    rw [if_neg (by omega), if_neg (by omega)]
    have b := p4 ((mill * 3 + run) * 24 + home) (by omega) (by omega)
    refine ⟨by omega, τ 68 ((mill * 3 + run) * 24 + home) + coins, rfl, by omega, ?_⟩
    refine t _ ⟨fun c hc => uc_n hc, fun k => ?_⟩
    rw [uc_s]
    by_cases c : k = (mill * 3 + run) * 24 + home
    · subst c; rw [u1_s, if_pos ⟨by omega, rfl⟩]
    · rw [u1_n c, if_neg (fun h => c h.2), Int.add_zero]
-- method 67: MillTown$Sharing.addPieces(LMillTown$Town;III)V
theorem c_67_0 : pg_cd 67 0 = (5, 1, 0, 1, 0) := by decide +kernel
theorem c_67_1 : pg_cd 67 1 = (45, 8, 67, 5, 0) := by decide +kernel
theorem c_67_4 : pg_cd 67 4 = (3, 1, 0, 2, 0) := by decide +kernel
theorem c_67_5 : pg_cd 67 5 = (1, 1, 0, 0, 4) := by decide +kernel
theorem c_67_6 : pg_cd 67 6 = (80, 55, 78, 0, 0) := by decide +kernel
theorem c_67_9 : pg_cd 67 9 = (6, 2, 0, 5, 0) := by decide +kernel
theorem c_67_11 : pg_cd 67 11 = (5, 1, 0, 1, 0) := by decide +kernel
theorem c_67_12 : pg_cd 67 12 = (45, 8, 67, 5, 0) := by decide +kernel
theorem c_67_15 : pg_cd 67 15 = (3, 1, 0, 2, 0) := by decide +kernel
theorem c_67_16 : pg_cd 67 16 = (1, 2, 0, 0, 6) := by decide +kernel
theorem c_67_18 : pg_cd 67 18 = (80, 55, 78, 0, 0) := by decide +kernel
theorem c_67_21 : pg_cd 67 21 = (6, 2, 0, 6, 0) := by decide +kernel
theorem c_67_23 : pg_cd 67 23 = (3, 2, 0, 5, 0) := by decide +kernel
theorem c_67_25 : pg_cd 67 25 = (36, 3, 0, 2, 10) := by decide +kernel
theorem c_67_28 : pg_cd 67 28 = (3, 2, 0, 5, 0) := by decide +kernel
theorem c_67_30 : pg_cd 67 30 = (1, 2, 0, 0, 8) := by decide +kernel
theorem c_67_32 : pg_cd 67 32 = (37, 3, 0, 2, 4) := by decide +kernel
theorem c_67_35 : pg_cd 67 35 = (94, 0, 0, 0, 0) := by decide +kernel
theorem c_67_36 : pg_cd 67 36 = (3, 2, 0, 4, 0) := by decide +kernel
theorem c_67_38 : pg_cd 67 38 = (31, 1, 0, 0, 0) := by decide +kernel
theorem c_67_39 : pg_cd 67 39 = (5, 1, 0, 0, 0) := by decide +kernel
theorem c_67_40 : pg_cd 67 40 = (45, 5, 28, 5, 0) := by decide +kernel
theorem c_67_43 : pg_cd 67 43 = (3, 2, 0, 5, 0) := by decide +kernel
theorem c_67_45 : pg_cd 67 45 = (50, 1, 0, 0, 0) := by decide +kernel
theorem c_67_46 : pg_cd 67 46 = (31, 1, 0, 0, 0) := by decide +kernel
theorem c_67_47 : pg_cd 67 47 = (24, 1, 0, 0, 0) := by decide +kernel
theorem c_67_48 : pg_cd 67 48 = (7, 2, 0, 7, 0) := by decide +kernel
theorem c_67_50 : pg_cd 67 50 = (3, 2, 0, 6, 0) := by decide +kernel
theorem c_67_52 : pg_cd 67 52 = (1, 1, 0, 0, (-1)) := by decide +kernel
theorem c_67_53 : pg_cd 67 53 = (37, 3, 0, 1, 8) := by decide +kernel
theorem c_67_56 : pg_cd 67 56 = (4, 2, 0, 7, 0) := by decide +kernel
theorem c_67_58 : pg_cd 67 58 = (38, 3, 0, 0, 9) := by decide +kernel
theorem c_67_61 : pg_cd 67 61 = (4, 2, 0, 7, 0) := by decide +kernel
theorem c_67_63 : pg_cd 67 63 = (2, 3, 131, 0, 3) := by decide +kernel
theorem c_67_66 : pg_cd 67 66 = (26, 1, 0, 0, 0) := by decide +kernel
theorem c_67_67 : pg_cd 67 67 = (7, 2, 0, 9, 0) := by decide +kernel
theorem c_67_69 : pg_cd 67 69 = (5, 1, 0, 0, 0) := by decide +kernel
theorem c_67_70 : pg_cd 67 70 = (3, 2, 0, 5, 0) := by decide +kernel
theorem c_67_72 : pg_cd 67 72 = (3, 1, 0, 3, 0) := by decide +kernel
theorem c_67_73 : pg_cd 67 73 = (5, 1, 0, 1, 0) := by decide +kernel
theorem c_67_74 : pg_cd 67 74 = (45, 8, 67, 5, 0) := by decide +kernel
theorem c_67_77 : pg_cd 67 77 = (3, 1, 0, 2, 0) := by decide +kernel
theorem c_67_78 : pg_cd 67 78 = (1, 1, 0, 0, 0) := by decide +kernel
theorem c_67_79 : pg_cd 67 79 = (80, 55, 78, 0, 0) := by decide +kernel
theorem c_67_82 : pg_cd 67 82 = (4, 2, 0, 9, 0) := by decide +kernel
theorem c_67_84 : pg_cd 67 84 = (80, 68, 119, 0, 0) := by decide +kernel
theorem c_67_87 : pg_cd 67 87 = (5, 1, 0, 0, 0) := by decide +kernel
theorem c_67_88 : pg_cd 67 88 = (3, 2, 0, 5, 0) := by decide +kernel
theorem c_67_90 : pg_cd 67 90 = (3, 1, 0, 3, 0) := by decide +kernel
theorem c_67_91 : pg_cd 67 91 = (5, 1, 0, 1, 0) := by decide +kernel
theorem c_67_92 : pg_cd 67 92 = (45, 8, 67, 5, 0) := by decide +kernel
theorem c_67_95 : pg_cd 67 95 = (3, 2, 0, 6, 0) := by decide +kernel
theorem c_67_97 : pg_cd 67 97 = (1, 1, 0, 0, 0) := by decide +kernel
theorem c_67_98 : pg_cd 67 98 = (80, 55, 78, 0, 0) := by decide +kernel
theorem c_67_101 : pg_cd 67 101 = (4, 2, 0, 7, 0) := by decide +kernel
theorem c_67_103 : pg_cd 67 103 = (4, 2, 0, 9, 0) := by decide +kernel
theorem c_67_105 : pg_cd 67 105 = (23, 1, 0, 0, 0) := by decide +kernel
theorem c_67_106 : pg_cd 67 106 = (80, 68, 119, 0, 0) := by decide +kernel
theorem c_67_109 : pg_cd 67 109 = (3, 1, 0, 3, 0) := by decide +kernel
theorem c_67_110 : pg_cd 67 110 = (1, 1, 0, 0, 2) := by decide +kernel
theorem c_67_111 : pg_cd 67 111 = (37, 3, 0, 1, 43) := by decide +kernel
theorem c_67_114 : pg_cd 67 114 = (5, 1, 0, 0, 0) := by decide +kernel
theorem c_67_115 : pg_cd 67 115 = (45, 5, 15, 1, 0) := by decide +kernel
theorem c_67_118 : pg_cd 67 118 = (3, 2, 0, 5, 0) := by decide +kernel
theorem c_67_120 : pg_cd 67 120 = (1, 1, 0, 0, 3) := by decide +kernel
theorem c_67_121 : pg_cd 67 121 = (12, 1, 0, 0, 0) := by decide +kernel
theorem c_67_122 : pg_cd 67 122 = (1, 1, 0, 0, 2) := by decide +kernel
theorem c_67_123 : pg_cd 67 123 = (10, 1, 0, 0, 0) := by decide +kernel
theorem c_67_124 : pg_cd 67 124 = (34, 1, 0, 0, 0) := by decide +kernel
theorem c_67_125 : pg_cd 67 125 = (50, 1, 0, 0, 0) := by decide +kernel
theorem c_67_126 : pg_cd 67 126 = (3, 2, 0, 4, 0) := by decide +kernel
theorem c_67_128 : pg_cd 67 128 = (10, 1, 0, 0, 0) := by decide +kernel
theorem c_67_129 : pg_cd 67 129 = (54, 1, 0, 0, 0) := by decide +kernel
theorem c_67_130 : pg_cd 67 130 = (5, 1, 0, 0, 0) := by decide +kernel
theorem c_67_131 : pg_cd 67 131 = (45, 5, 15, 1, 0) := by decide +kernel
theorem c_67_134 : pg_cd 67 134 = (3, 2, 0, 5, 0) := by decide +kernel
theorem c_67_136 : pg_cd 67 136 = (1, 1, 0, 0, 3) := by decide +kernel
theorem c_67_137 : pg_cd 67 137 = (12, 1, 0, 0, 0) := by decide +kernel
theorem c_67_138 : pg_cd 67 138 = (1, 1, 0, 0, 1) := by decide +kernel
theorem c_67_139 : pg_cd 67 139 = (10, 1, 0, 0, 0) := by decide +kernel
theorem c_67_140 : pg_cd 67 140 = (5, 1, 0, 0, 0) := by decide +kernel
theorem c_67_141 : pg_cd 67 141 = (45, 5, 15, 1, 0) := by decide +kernel
theorem c_67_144 : pg_cd 67 144 = (3, 2, 0, 5, 0) := by decide +kernel
theorem c_67_146 : pg_cd 67 146 = (1, 1, 0, 0, 3) := by decide +kernel
theorem c_67_147 : pg_cd 67 147 = (12, 1, 0, 0, 0) := by decide +kernel
theorem c_67_148 : pg_cd 67 148 = (1, 1, 0, 0, 2) := by decide +kernel
theorem c_67_149 : pg_cd 67 149 = (10, 1, 0, 0, 0) := by decide +kernel
theorem c_67_150 : pg_cd 67 150 = (50, 1, 0, 0, 0) := by decide +kernel
theorem c_67_151 : pg_cd 67 151 = (1, 1, 0, 0, 2) := by decide +kernel
theorem c_67_152 : pg_cd 67 152 = (16, 1, 0, 0, 0) := by decide +kernel
theorem c_67_153 : pg_cd 67 153 = (54, 1, 0, 0, 0) := by decide +kernel
theorem c_67_154 : pg_cd 67 154 = (94, 0, 0, 0, 0) := by decide +kernel
theorem mi_67 : pg_mc 67 = 5 ∧ pg_na 67 = 4 ∧ pg_mx 67 = 11 := by decide +kernel
set_option maxRecDepth 20000 in
theorem u_67_0 {d : Nat} {S : zS} {σ τ : zI} {Q : zQ} {x1 : Nat} {x2 : Int} {x3 : Int} {x4 : Int} (hx1 : tw x1) (t : (rg x2) ∧ if (rt_ (σ (x1 + 11) 2) (σ (x1 + 12)) 9 4 x2) < 0 then (Q none S σ τ) else (if (rt_ (σ (x1 + 11) 2) (σ (x1 + 12)) 9 4 x2) < 8 then ((rg x4) ∧ (0 ≤ rt_ (σ (x1 + 11) 2) (σ (x1 + 12)) 9 4 x2 ∧ rt_ (σ (x1 + 11) 2) (σ (x1 + 12)) 9 4 x2 < 8) ∧ if (rt_ (σ (x1 + 11) 2) (σ (x1 + 12)) 9 6 x2) = (-1) then ((0 ≤ (rt_ (σ (x1 + 11) 2) (σ (x1 + 12)) 9 4 x2) ∧ (rt_ (σ (x1 + 11) 2) (σ (x1 + 12)) 9 4 x2) < (8 : Int)) ∧ (0 ≤ x3 ∧ x3 < (3 : Int)) ∧ (-1 ≤ (rt_ (σ (x1 + 11) 2) (σ (x1 + 12)) 9 0 x2) ∧ (rt_ (σ (x1 + 11) 2) (σ (x1 + 12)) 9 0 x2) < (24 : Int)) ∧ (0 ≤ (x4 * (σ 73 (rt_ (σ (x1 + 11) 2) (σ (x1 + 12)) 9 4 x2))) ∧ (x4 * (σ 73 (rt_ (σ (x1 + 11) 2) (σ (x1 + 12)) 9 4 x2))) ≤ (1000000000 : Int)) ∧ (∀ k, 0 ≤ k → k < 576 → 0 ≤ τ 68 k ∧ τ 68 k ≤ 1000000000000000) ∧ ∀ (τ139 : zI), EA τ τ139 (rt_ (σ (x1 + 11) 2) (σ (x1 + 12)) 9 4 x2) x3 (rt_ (σ (x1 + 11) 2) (σ (x1 + 12)) 9 0 x2) (x4 * (σ 73 (rt_ (σ (x1 + 11) 2) (σ (x1 + 12)) 9 4 x2))) → (-1 ≤ (rt_ (σ (x1 + 11) 2) (σ (x1 + 12)) 9 0 (rt_ (σ (x1 + 11) 2) (σ (x1 + 12)) 9 6 x2)) ∧ (rt_ (σ (x1 + 11) 2) (σ (x1 + 12)) 9 0 (rt_ (σ (x1 + 11) 2) (σ (x1 + 12)) 9 6 x2)) < (24 : Int)) ∧ (0 ≤ ((x4 * (σ 73 (rt_ (σ (x1 + 11) 2) (σ (x1 + 12)) 9 4 x2))) - (x4 * (σ 73 (rt_ (σ (x1 + 11) 2) (σ (x1 + 12)) 9 4 x2)))) ∧ ((x4 * (σ 73 (rt_ (σ (x1 + 11) 2) (σ (x1 + 12)) 9 4 x2))) - (x4 * (σ 73 (rt_ (σ (x1 + 11) 2) (σ (x1 + 12)) 9 4 x2)))) ≤ (1000000000 : Int)) ∧ (∀ k, 0 ≤ k → k < 576 → 0 ≤ τ139 68 k ∧ τ139 68 k ≤ 1000000000000000) ∧ ∀ (τ145 : zI), EA τ139 τ145 (rt_ (σ (x1 + 11) 2) (σ (x1 + 12)) 9 4 x2) x3 (rt_ (σ (x1 + 11) 2) (σ (x1 + 12)) 9 0 (rt_ (σ (x1 + 11) 2) (σ (x1 + 12)) 9 6 x2)) ((x4 * (σ 73 (rt_ (σ (x1 + 11) 2) (σ (x1 + 12)) 9 4 x2))) - (x4 * (σ 73 (rt_ (σ (x1 + 11) 2) (σ (x1 + 12)) 9 4 x2)))) → (rg x3) ∧ if x3 = 2 then ((0 ≤ ((rt_ (σ (x1 + 11) 2) (σ (x1 + 12)) 9 4 x2) * 3) + 2 ∧ ((rt_ (σ (x1 + 11) 2) (σ (x1 + 12)) 9 4 x2) * 3) + 2 < 24) ∧ ∃ w51 : Int, wI w51 = wI ((σ 69 (((rt_ (σ (x1 + 11) 2) (σ (x1 + 12)) 9 4 x2) * 3) + 2)) + x4) ∧ rg w51 ∧ (0 ≤ ((rt_ (σ (x1 + 11) 2) (σ (x1 + 12)) 9 4 x2) * 3) + 1 ∧ ((rt_ (σ (x1 + 11) 2) (σ (x1 + 12)) 9 4 x2) * 3) + 1 < 24) ∧ ∃ w56 : Int, wI w56 = wI (Int.tdiv w51 2) ∧ rg w56 ∧ Q none S (uc σ 69 (u1 (u1 (σ 69) (((rt_ (σ (x1 + 11) 2) (σ (x1 + 12)) 9 4 x2) * 3) + 2) w51) (((rt_ (σ (x1 + 11) 2) (σ (x1 + 12)) 9 4 x2) * 3) + 1) w56)) τ145) else (Q none S σ τ145)) else ((rj (x4 * (σ 73 (rt_ (σ (x1 + 11) 2) (σ (x1 + 12)) 9 4 x2)))) ∧ (0 ≤ (rt_ (σ (x1 + 11) 2) (σ (x1 + 12)) 9 4 x2) ∧ (rt_ (σ (x1 + 11) 2) (σ (x1 + 12)) 9 4 x2) < (8 : Int)) ∧ (0 ≤ x3 ∧ x3 < (3 : Int)) ∧ (-1 ≤ (rt_ (σ (x1 + 11) 2) (σ (x1 + 12)) 9 0 x2) ∧ (rt_ (σ (x1 + 11) 2) (σ (x1 + 12)) 9 0 x2) < (24 : Int)) ∧ (0 ≤ (Int.tdiv (x4 * (σ 73 (rt_ (σ (x1 + 11) 2) (σ (x1 + 12)) 9 4 x2))) 3) ∧ (Int.tdiv (x4 * (σ 73 (rt_ (σ (x1 + 11) 2) (σ (x1 + 12)) 9 4 x2))) 3) ≤ (1000000000 : Int)) ∧ (∀ k, 0 ≤ k → k < 576 → 0 ≤ τ 68 k ∧ τ 68 k ≤ 1000000000000000) ∧ ∀ (τ114 : zI), EA τ τ114 (rt_ (σ (x1 + 11) 2) (σ (x1 + 12)) 9 4 x2) x3 (rt_ (σ (x1 + 11) 2) (σ (x1 + 12)) 9 0 x2) (Int.tdiv (x4 * (σ 73 (rt_ (σ (x1 + 11) 2) (σ (x1 + 12)) 9 4 x2))) 3) → (-1 ≤ (rt_ (σ (x1 + 11) 2) (σ (x1 + 12)) 9 0 (rt_ (σ (x1 + 11) 2) (σ (x1 + 12)) 9 6 x2)) ∧ (rt_ (σ (x1 + 11) 2) (σ (x1 + 12)) 9 0 (rt_ (σ (x1 + 11) 2) (σ (x1 + 12)) 9 6 x2)) < (24 : Int)) ∧ (0 ≤ ((x4 * (σ 73 (rt_ (σ (x1 + 11) 2) (σ (x1 + 12)) 9 4 x2))) - (Int.tdiv (x4 * (σ 73 (rt_ (σ (x1 + 11) 2) (σ (x1 + 12)) 9 4 x2))) 3)) ∧ ((x4 * (σ 73 (rt_ (σ (x1 + 11) 2) (σ (x1 + 12)) 9 4 x2))) - (Int.tdiv (x4 * (σ 73 (rt_ (σ (x1 + 11) 2) (σ (x1 + 12)) 9 4 x2))) 3)) ≤ (1000000000 : Int)) ∧ (∀ k, 0 ≤ k → k < 576 → 0 ≤ τ114 68 k ∧ τ114 68 k ≤ 1000000000000000) ∧ ∀ (τ120 : zI), EA τ114 τ120 (rt_ (σ (x1 + 11) 2) (σ (x1 + 12)) 9 4 x2) x3 (rt_ (σ (x1 + 11) 2) (σ (x1 + 12)) 9 0 (rt_ (σ (x1 + 11) 2) (σ (x1 + 12)) 9 6 x2)) ((x4 * (σ 73 (rt_ (σ (x1 + 11) 2) (σ (x1 + 12)) 9 4 x2))) - (Int.tdiv (x4 * (σ 73 (rt_ (σ (x1 + 11) 2) (σ (x1 + 12)) 9 4 x2))) 3)) → (rg x3) ∧ if x3 = 2 then ((0 ≤ ((rt_ (σ (x1 + 11) 2) (σ (x1 + 12)) 9 4 x2) * 3) + 2 ∧ ((rt_ (σ (x1 + 11) 2) (σ (x1 + 12)) 9 4 x2) * 3) + 2 < 24) ∧ ∃ w26 : Int, wI w26 = wI ((σ 69 (((rt_ (σ (x1 + 11) 2) (σ (x1 + 12)) 9 4 x2) * 3) + 2)) + x4) ∧ rg w26 ∧ (0 ≤ ((rt_ (σ (x1 + 11) 2) (σ (x1 + 12)) 9 4 x2) * 3) + 1 ∧ ((rt_ (σ (x1 + 11) 2) (σ (x1 + 12)) 9 4 x2) * 3) + 1 < 24) ∧ ∃ w31 : Int, wI w31 = wI (Int.tdiv w26 2) ∧ rg w31 ∧ Q none S (uc σ 69 (u1 (u1 (σ 69) (((rt_ (σ (x1 + 11) 2) (σ (x1 + 12)) 9 4 x2) * 3) + 2) w26) (((rt_ (σ (x1 + 11) 2) (σ (x1 + 12)) 9 4 x2) * 3) + 1) w31)) τ120) else (Q none S σ τ120))) else (Q none S σ τ))) : wi (d + 1) 67 0 [.ref 67, .ref x1, .int (wI x2), .int (wI x3), .int (wI x4), .retAddr 0, .retAddr 0, .retAddr 0, .retAddr 0, .retAddr 0, .retAddr 0] [] S σ τ Q := by
  obtain ⟨r1, t⟩ := t
  refine i5 c_67_0 rfl (i45 c_67_1 (lo (lyt_0 hx1) (by have := tw_b hx1; omega)) (lro (lrt_5 hx1)) (i3 c_67_4 rfl (i1 c_67_5 (wi_ok (fun K2 => ?_)))))
  refine i80 (As := [.int (wI x2), .int (wI 4)]) (rest := []) c_67_6 mi_55 rfl rfl (Nat.le_of_ble_eq_true rfl) (Nat.le_of_ble_eq_true rfl) (lo (lyt_11 hx1) (by have := tw_b hx1; omega)) (q_at (ow_persons hx1) r1 (by decide) ?_)
  show wi (d + 1) 67 9 [.ref 67, .ref x1, .int (wI x2), .int (wI x3), .int (wI x4), .retAddr 0, .retAddr 0, .retAddr 0, .retAddr 0, .retAddr 0, .retAddr 0] [.int (wI (rt_ (σ (x1 + 11) 2) (σ (x1 + 12)) 9 4 x2))] S σ τ Q
  refine i6 (L' := [.ref 67, .ref x1, .int (wI x2), .int (wI x3), .int (wI x4), .int (wI (rt_ (σ (x1 + 11) 2) (σ (x1 + 12)) 9 4 x2)), .retAddr 0, .retAddr 0, .retAddr 0, .retAddr 0, .retAddr 0]) c_67_9 rfl (i5 c_67_11 rfl (i45 c_67_12 (lo (lyt_0 hx1) (by have := tw_b hx1; omega)) (lro (lrt_5 hx1)) (i3 c_67_15 rfl (i1 c_67_16 ?_))))
  refine i80 (As := [.int (wI x2), .int (wI 6)]) (rest := []) c_67_18 mi_55 rfl rfl (Nat.le_of_ble_eq_true rfl) (Nat.le_of_ble_eq_true rfl) (lo (lyt_11 hx1) (by have := tw_b hx1; omega)) (q_at (ow_persons hx1) r1 (by decide) ?_)
  show wi (d + 1) 67 21 [.ref 67, .ref x1, .int (wI x2), .int (wI x3), .int (wI x4), .int (wI (rt_ (σ (x1 + 11) 2) (σ (x1 + 12)) 9 4 x2)), .retAddr 0, .retAddr 0, .retAddr 0, .retAddr 0, .retAddr 0] [.int (wI (rt_ (σ (x1 + 11) 2) (σ (x1 + 12)) 9 6 x2))] S σ τ Q
  refine i6 (L' := [.ref 67, .ref x1, .int (wI x2), .int (wI x3), .int (wI x4), .int (wI (rt_ (σ (x1 + 11) 2) (σ (x1 + 12)) 9 4 x2)), .int (wI (rt_ (σ (x1 + 11) 2) (σ (x1 + 12)) 9 6 x2)), .retAddr 0, .retAddr 0, .retAddr 0, .retAddr 0]) c_67_21 rfl (i3 c_67_23 rfl ?_)
  refine i36 c_67_25 (rg_rt_ (fun k => kO_r K2 _ k) _ _ _ _) rfl (fun hc => ?_) (fun hc => ?_)
  · have t := iT t hc
    have ha3 : (rt_ (σ (x1 + 11) 2) (σ (x1 + 12)) 9 4 x2) < 0 := hc
    exact i94 c_67_35 t
  · have t := iF t hc
    have ha3 : ¬ ((rt_ (σ (x1 + 11) 2) (σ (x1 + 12)) 9 4 x2) < 0) := hc
    refine i3 c_67_28 rfl (i1 c_67_30 ?_)
    refine i37 c_67_32 (rg_rt_ (fun k => kO_r K2 _ k) _ _ _ _) (by decide) rfl (fun hc => ?_) (fun hc => ?_)
    · have t := iT t hc
      have ha4 : (rt_ (σ (x1 + 11) 2) (σ (x1 + 12)) 9 4 x2) < 8 := hc
      obtain ⟨r5, t⟩ := t
      obtain ⟨r6, t⟩ := t
      refine i3 c_67_36 rfl (i31 c_67_38 r5 (i5 c_67_39 rfl (i45 c_67_40 (lo (c := 67) (kd := 105) (n := 0) rfl (by decide)) (lro (c := 67) (k := 5) (j := 73) (by decide)) (i3 c_67_43 rfl (i50 (v := σ 73 (rt_ (σ (x1 + 11) 2) (σ (x1 + 12)) 9 4 x2)) c_67_45 (lo (c := 73) (kd := 0) (n := 8) rfl (by decide)) (by decide) r6 rfl (i31 c_67_46 (rge_ K2 rfl) (i24 c_67_47 (i7 (L' := [.ref 67, .ref x1, .int (wI x2), .int (wI x3), .int (wI x4), .int (wI (rt_ (σ (x1 + 11) 2) (σ (x1 + 12)) 9 4 x2)), .int (wI (rt_ (σ (x1 + 11) 2) (σ (x1 + 12)) 9 6 x2)), .long (wJ (x4 * (σ 73 (rt_ (σ (x1 + 11) 2) (σ (x1 + 12)) 9 4 x2)))), .retAddr 0, .retAddr 0, .retAddr 0]) c_67_48 rfl (i3 c_67_50 rfl (i1 c_67_52 ?_))))))))))
      refine i37 c_67_53 (rg_rt_ (fun k => kO_r K2 _ k) _ _ _ _) (by decide) rfl (fun hc => ?_) (fun hc => ?_)
      · have t := iF t hc
        have ha7 : ¬ ((rt_ (σ (x1 + 11) 2) (σ (x1 + 12)) 9 6 x2) = (-1)) := hc
        obtain ⟨r8, t⟩ := t
        refine i4 c_67_61 rfl (i2 c_67_63 (i26 c_67_66 r8 (by decide) (by decide) (i7 (L' := [.ref 67, .ref x1, .int (wI x2), .int (wI x3), .int (wI x4), .int (wI (rt_ (σ (x1 + 11) 2) (σ (x1 + 12)) 9 4 x2)), .int (wI (rt_ (σ (x1 + 11) 2) (σ (x1 + 12)) 9 6 x2)), .long (wJ (x4 * (σ 73 (rt_ (σ (x1 + 11) 2) (σ (x1 + 12)) 9 4 x2)))), .retAddr 0, .long (wJ (Int.tdiv (x4 * (σ 73 (rt_ (σ (x1 + 11) 2) (σ (x1 + 12)) 9 4 x2))) 3)), .retAddr 0]) c_67_67 rfl (i5 c_67_69 rfl (i3 c_67_70 rfl (i3 c_67_72 rfl (i5 c_67_73 rfl (i45 c_67_74 (lo (lyt_0 hx1) (by have := tw_b hx1; omega)) (lro (lrt_5 hx1)) (i3 c_67_77 rfl (i1 c_67_78 ?_))))))))))
        refine i80 (As := [.int (wI x2), .int (wI 0)]) (rest := [.int (wI x3), .int (wI (rt_ (σ (x1 + 11) 2) (σ (x1 + 12)) 9 4 x2)), .ref 67]) c_67_79 mi_55 rfl rfl (Nat.le_of_ble_eq_true rfl) (Nat.le_of_ble_eq_true rfl) (lo (lyt_11 hx1) (by have := tw_b hx1; omega)) (q_at (ow_persons hx1) r1 (by decide) ?_)
        show wi (d + 1) 67 82 [.ref 67, .ref x1, .int (wI x2), .int (wI x3), .int (wI x4), .int (wI (rt_ (σ (x1 + 11) 2) (σ (x1 + 12)) 9 4 x2)), .int (wI (rt_ (σ (x1 + 11) 2) (σ (x1 + 12)) 9 6 x2)), .long (wJ (x4 * (σ 73 (rt_ (σ (x1 + 11) 2) (σ (x1 + 12)) 9 4 x2)))), .retAddr 0, .long (wJ (Int.tdiv (x4 * (σ 73 (rt_ (σ (x1 + 11) 2) (σ (x1 + 12)) 9 4 x2))) 3)), .retAddr 0] [.int (wI (rt_ (σ (x1 + 11) 2) (σ (x1 + 12)) 9 0 x2)), .int (wI x3), .int (wI (rt_ (σ (x1 + 11) 2) (σ (x1 + 12)) 9 4 x2)), .ref 67] S σ τ Q
        obtain ⟨p9, t⟩ := t
        obtain ⟨p10, t⟩ := t
        obtain ⟨p11, t⟩ := t
        obtain ⟨p12, t⟩ := t
        obtain ⟨p13, t⟩ := t
        refine i4 c_67_82 rfl ?_
        refine i80 (As := [.int (wI (rt_ (σ (x1 + 11) 2) (σ (x1 + 12)) 9 4 x2)), .int (wI x3), .int (wI (rt_ (σ (x1 + 11) 2) (σ (x1 + 12)) 9 0 x2)), .long (wJ (Int.tdiv (x4 * (σ 73 (rt_ (σ (x1 + 11) 2) (σ (x1 + 12)) 9 4 x2))) 3))]) (rest := []) c_67_84 mi_68 rfl rfl (Nat.le_of_ble_eq_true rfl) (Nat.le_of_ble_eq_true rfl) (lo (c := 67) (kd := 105) (n := 0) rfl (by decide)) (q_68 p9 p10 p11 p12 p13 (fun τ114 q15 => ?_))
        have t := t τ114 q15
        show wi (d + 1) 67 87 [.ref 67, .ref x1, .int (wI x2), .int (wI x3), .int (wI x4), .int (wI (rt_ (σ (x1 + 11) 2) (σ (x1 + 12)) 9 4 x2)), .int (wI (rt_ (σ (x1 + 11) 2) (σ (x1 + 12)) 9 6 x2)), .long (wJ (x4 * (σ 73 (rt_ (σ (x1 + 11) 2) (σ (x1 + 12)) 9 4 x2)))), .retAddr 0, .long (wJ (Int.tdiv (x4 * (σ 73 (rt_ (σ (x1 + 11) 2) (σ (x1 + 12)) 9 4 x2))) 3)), .retAddr 0] [] S σ τ114 Q
        refine i5 c_67_87 rfl (i3 c_67_88 rfl (i3 c_67_90 rfl (i5 c_67_91 rfl (i45 c_67_92 (lo (lyt_0 hx1) (by have := tw_b hx1; omega)) (lro (lrt_5 hx1)) (i3 c_67_95 rfl (i1 c_67_97 (wi_ok (fun K16 => ?_))))))))
        refine i80 (As := [.int (wI (rt_ (σ (x1 + 11) 2) (σ (x1 + 12)) 9 6 x2)), .int (wI 0)]) (rest := [.int (wI x3), .int (wI (rt_ (σ (x1 + 11) 2) (σ (x1 + 12)) 9 4 x2)), .ref 67]) c_67_98 mi_55 rfl rfl (Nat.le_of_ble_eq_true rfl) (Nat.le_of_ble_eq_true rfl) (lo (lyt_11 hx1) (by have := tw_b hx1; omega)) (q_at (ow_persons hx1) (rg_rt_ (fun k => kO_r K2 _ k) _ _ _ _) (by decide) ?_)
        show wi (d + 1) 67 101 [.ref 67, .ref x1, .int (wI x2), .int (wI x3), .int (wI x4), .int (wI (rt_ (σ (x1 + 11) 2) (σ (x1 + 12)) 9 4 x2)), .int (wI (rt_ (σ (x1 + 11) 2) (σ (x1 + 12)) 9 6 x2)), .long (wJ (x4 * (σ 73 (rt_ (σ (x1 + 11) 2) (σ (x1 + 12)) 9 4 x2)))), .retAddr 0, .long (wJ (Int.tdiv (x4 * (σ 73 (rt_ (σ (x1 + 11) 2) (σ (x1 + 12)) 9 4 x2))) 3)), .retAddr 0] [.int (wI (rt_ (σ (x1 + 11) 2) (σ (x1 + 12)) 9 0 (rt_ (σ (x1 + 11) 2) (σ (x1 + 12)) 9 6 x2))), .int (wI x3), .int (wI (rt_ (σ (x1 + 11) 2) (σ (x1 + 12)) 9 4 x2)), .ref 67] S σ τ114 Q
        obtain ⟨p17, t⟩ := t
        obtain ⟨p18, t⟩ := t
        obtain ⟨p19, t⟩ := t
        refine i4 c_67_101 rfl (i4 c_67_103 rfl (i23 c_67_105 ?_))
        refine i80 (As := [.int (wI (rt_ (σ (x1 + 11) 2) (σ (x1 + 12)) 9 4 x2)), .int (wI x3), .int (wI (rt_ (σ (x1 + 11) 2) (σ (x1 + 12)) 9 0 (rt_ (σ (x1 + 11) 2) (σ (x1 + 12)) 9 6 x2))), .long (wJ ((x4 * (σ 73 (rt_ (σ (x1 + 11) 2) (σ (x1 + 12)) 9 4 x2))) - (Int.tdiv (x4 * (σ 73 (rt_ (σ (x1 + 11) 2) (σ (x1 + 12)) 9 4 x2))) 3)))]) (rest := []) c_67_106 mi_68 rfl rfl (Nat.le_of_ble_eq_true rfl) (Nat.le_of_ble_eq_true rfl) (lo (c := 67) (kd := 105) (n := 0) rfl (by decide)) (q_68 p9 p10 p17 p18 p19 (fun τ120 q21 => ?_))
        have t := t τ120 q21
        show wi (d + 1) 67 109 [.ref 67, .ref x1, .int (wI x2), .int (wI x3), .int (wI x4), .int (wI (rt_ (σ (x1 + 11) 2) (σ (x1 + 12)) 9 4 x2)), .int (wI (rt_ (σ (x1 + 11) 2) (σ (x1 + 12)) 9 6 x2)), .long (wJ (x4 * (σ 73 (rt_ (σ (x1 + 11) 2) (σ (x1 + 12)) 9 4 x2)))), .retAddr 0, .long (wJ (Int.tdiv (x4 * (σ 73 (rt_ (σ (x1 + 11) 2) (σ (x1 + 12)) 9 4 x2))) 3)), .retAddr 0] [] S σ τ120 Q
        obtain ⟨r22, t⟩ := t
        refine i3 c_67_109 rfl (i1 c_67_110 ?_)
        refine i37 c_67_111 r22 (by decide) rfl (fun hc => ?_) (fun hc => ?_)
        · have t := iF t hc
          have ha23 : ¬ (x3 = 2) := hc
          exact i94 c_67_154 t
        · have t := iT t (Decidable.not_not.mp hc)
          have ha23 : x3 = 2 := Decidable.not_not.mp hc
          obtain ⟨r24, t⟩ := t
          refine i5 c_67_114 rfl (i45 c_67_115 (lo (c := 67) (kd := 105) (n := 0) rfl (by decide)) (lro (c := 67) (k := 1) (j := 69) (by decide)) (i3 c_67_118 rfl (i1 c_67_120 (i12 c_67_121 (i1 c_67_122 (i10 c_67_123 (i34a c_67_124 (wi_ok (fun K25 => ?_)))))))))
          obtain ⟨w26, e27, r28, t⟩ := t
          refine i50 (v := σ 69 (((rt_ (σ (x1 + 11) 2) (σ (x1 + 12)) 9 4 x2) * 3) + 2)) c_67_125 (lo (c := 69) (kd := 0) (n := 24) rfl (by decide)) (by decide) r24 rfl (i3 c_67_126 rfl (i10 c_67_128 (i54 (σ1 := uc σ 69 (u1 (σ 69) (((rt_ (σ (x1 + 11) 2) (σ (x1 + 12)) 9 4 x2) * 3) + 2) w26)) c_67_129 (lo (c := 69) (kd := 0) (n := 24) rfl (by decide)) (by decide) r24 (by decide) e27 r28 (wr_ rfl rfl) (i5 c_67_130 rfl (i45 c_67_131 (lo (c := 67) (kd := 105) (n := 0) rfl (by decide)) (lro (c := 67) (k := 1) (j := 69) (by decide)) (i3 c_67_134 rfl (i1 c_67_136 (i12 c_67_137 (i1 c_67_138 (i10 c_67_139 (i5 c_67_140 rfl (i45 c_67_141 (lo (c := 67) (kd := 105) (n := 0) rfl (by decide)) (lro (c := 67) (k := 1) (j := 69) (by decide)) (i3 c_67_144 rfl (i1 c_67_146 (i12 c_67_147 (i1 c_67_148 (i10 c_67_149 (wi_ok (fun K29 => ?_)))))))))))))))))))
          obtain ⟨r30, t⟩ := t
          obtain ⟨w31, e32, r33, t⟩ := t
          refine i50 (v := w26) c_67_150 (lo (c := 69) (kd := 0) (n := 24) rfl (by decide)) (by decide) r24 ((congrFun (uc_s _ _ _) _).trans (u1_s _ _ _)) (i1 c_67_151 (i16 c_67_152 r28 (by decide) (by decide) (i54 (σ1 := uc σ 69 (u1 (u1 (σ 69) (((rt_ (σ (x1 + 11) 2) (σ (x1 + 12)) 9 4 x2) * 3) + 2) w26) (((rt_ (σ (x1 + 11) 2) (σ (x1 + 12)) 9 4 x2) * 3) + 1) w31)) c_67_153 (lo (c := 69) (kd := 0) (n := 24) rfl (by decide)) (by decide) r30 (by decide) e32 r33 (wr_ (uc_s _ _ _) (uc_uc _ _ _ _)) ?_)))
          exact i94 c_67_154 t
      · have t := iT t (Decidable.not_not.mp hc)
        have ha7 : (rt_ (σ (x1 + 11) 2) (σ (x1 + 12)) 9 6 x2) = (-1) := Decidable.not_not.mp hc
        refine i4 c_67_56 rfl (i38 c_67_58 rfl (i7 (L' := [.ref 67, .ref x1, .int (wI x2), .int (wI x3), .int (wI x4), .int (wI (rt_ (σ (x1 + 11) 2) (σ (x1 + 12)) 9 4 x2)), .int (wI (rt_ (σ (x1 + 11) 2) (σ (x1 + 12)) 9 6 x2)), .long (wJ (x4 * (σ 73 (rt_ (σ (x1 + 11) 2) (σ (x1 + 12)) 9 4 x2)))), .retAddr 0, .long (wJ (x4 * (σ 73 (rt_ (σ (x1 + 11) 2) (σ (x1 + 12)) 9 4 x2)))), .retAddr 0]) c_67_67 rfl (i5 c_67_69 rfl (i3 c_67_70 rfl (i3 c_67_72 rfl (i5 c_67_73 rfl (i45 c_67_74 (lo (lyt_0 hx1) (by have := tw_b hx1; omega)) (lro (lrt_5 hx1)) (i3 c_67_77 rfl (i1 c_67_78 ?_)))))))))
        refine i80 (As := [.int (wI x2), .int (wI 0)]) (rest := [.int (wI x3), .int (wI (rt_ (σ (x1 + 11) 2) (σ (x1 + 12)) 9 4 x2)), .ref 67]) c_67_79 mi_55 rfl rfl (Nat.le_of_ble_eq_true rfl) (Nat.le_of_ble_eq_true rfl) (lo (lyt_11 hx1) (by have := tw_b hx1; omega)) (q_at (ow_persons hx1) r1 (by decide) ?_)
        show wi (d + 1) 67 82 [.ref 67, .ref x1, .int (wI x2), .int (wI x3), .int (wI x4), .int (wI (rt_ (σ (x1 + 11) 2) (σ (x1 + 12)) 9 4 x2)), .int (wI (rt_ (σ (x1 + 11) 2) (σ (x1 + 12)) 9 6 x2)), .long (wJ (x4 * (σ 73 (rt_ (σ (x1 + 11) 2) (σ (x1 + 12)) 9 4 x2)))), .retAddr 0, .long (wJ (x4 * (σ 73 (rt_ (σ (x1 + 11) 2) (σ (x1 + 12)) 9 4 x2)))), .retAddr 0] [.int (wI (rt_ (σ (x1 + 11) 2) (σ (x1 + 12)) 9 0 x2)), .int (wI x3), .int (wI (rt_ (σ (x1 + 11) 2) (σ (x1 + 12)) 9 4 x2)), .ref 67] S σ τ Q
        obtain ⟨p34, t⟩ := t
        obtain ⟨p35, t⟩ := t
        obtain ⟨p36, t⟩ := t
        obtain ⟨p37, t⟩ := t
        obtain ⟨p38, t⟩ := t
        refine i4 c_67_82 rfl ?_
        refine i80 (As := [.int (wI (rt_ (σ (x1 + 11) 2) (σ (x1 + 12)) 9 4 x2)), .int (wI x3), .int (wI (rt_ (σ (x1 + 11) 2) (σ (x1 + 12)) 9 0 x2)), .long (wJ (x4 * (σ 73 (rt_ (σ (x1 + 11) 2) (σ (x1 + 12)) 9 4 x2))))]) (rest := []) c_67_84 mi_68 rfl rfl (Nat.le_of_ble_eq_true rfl) (Nat.le_of_ble_eq_true rfl) (lo (c := 67) (kd := 105) (n := 0) rfl (by decide)) (q_68 p34 p35 p36 p37 p38 (fun τ139 q40 => ?_))
        have t := t τ139 q40
        show wi (d + 1) 67 87 [.ref 67, .ref x1, .int (wI x2), .int (wI x3), .int (wI x4), .int (wI (rt_ (σ (x1 + 11) 2) (σ (x1 + 12)) 9 4 x2)), .int (wI (rt_ (σ (x1 + 11) 2) (σ (x1 + 12)) 9 6 x2)), .long (wJ (x4 * (σ 73 (rt_ (σ (x1 + 11) 2) (σ (x1 + 12)) 9 4 x2)))), .retAddr 0, .long (wJ (x4 * (σ 73 (rt_ (σ (x1 + 11) 2) (σ (x1 + 12)) 9 4 x2)))), .retAddr 0] [] S σ τ139 Q
        refine i5 c_67_87 rfl (i3 c_67_88 rfl (i3 c_67_90 rfl (i5 c_67_91 rfl (i45 c_67_92 (lo (lyt_0 hx1) (by have := tw_b hx1; omega)) (lro (lrt_5 hx1)) (i3 c_67_95 rfl (i1 c_67_97 (wi_ok (fun K41 => ?_))))))))
        refine i80 (As := [.int (wI (rt_ (σ (x1 + 11) 2) (σ (x1 + 12)) 9 6 x2)), .int (wI 0)]) (rest := [.int (wI x3), .int (wI (rt_ (σ (x1 + 11) 2) (σ (x1 + 12)) 9 4 x2)), .ref 67]) c_67_98 mi_55 rfl rfl (Nat.le_of_ble_eq_true rfl) (Nat.le_of_ble_eq_true rfl) (lo (lyt_11 hx1) (by have := tw_b hx1; omega)) (q_at (ow_persons hx1) (rg_rt_ (fun k => kO_r K2 _ k) _ _ _ _) (by decide) ?_)
        show wi (d + 1) 67 101 [.ref 67, .ref x1, .int (wI x2), .int (wI x3), .int (wI x4), .int (wI (rt_ (σ (x1 + 11) 2) (σ (x1 + 12)) 9 4 x2)), .int (wI (rt_ (σ (x1 + 11) 2) (σ (x1 + 12)) 9 6 x2)), .long (wJ (x4 * (σ 73 (rt_ (σ (x1 + 11) 2) (σ (x1 + 12)) 9 4 x2)))), .retAddr 0, .long (wJ (x4 * (σ 73 (rt_ (σ (x1 + 11) 2) (σ (x1 + 12)) 9 4 x2)))), .retAddr 0] [.int (wI (rt_ (σ (x1 + 11) 2) (σ (x1 + 12)) 9 0 (rt_ (σ (x1 + 11) 2) (σ (x1 + 12)) 9 6 x2))), .int (wI x3), .int (wI (rt_ (σ (x1 + 11) 2) (σ (x1 + 12)) 9 4 x2)), .ref 67] S σ τ139 Q
        obtain ⟨p42, t⟩ := t
        obtain ⟨p43, t⟩ := t
        obtain ⟨p44, t⟩ := t
        refine i4 c_67_101 rfl (i4 c_67_103 rfl (i23 c_67_105 ?_))
        refine i80 (As := [.int (wI (rt_ (σ (x1 + 11) 2) (σ (x1 + 12)) 9 4 x2)), .int (wI x3), .int (wI (rt_ (σ (x1 + 11) 2) (σ (x1 + 12)) 9 0 (rt_ (σ (x1 + 11) 2) (σ (x1 + 12)) 9 6 x2))), .long (wJ ((x4 * (σ 73 (rt_ (σ (x1 + 11) 2) (σ (x1 + 12)) 9 4 x2))) - (x4 * (σ 73 (rt_ (σ (x1 + 11) 2) (σ (x1 + 12)) 9 4 x2)))))]) (rest := []) c_67_106 mi_68 rfl rfl (Nat.le_of_ble_eq_true rfl) (Nat.le_of_ble_eq_true rfl) (lo (c := 67) (kd := 105) (n := 0) rfl (by decide)) (q_68 p34 p35 p42 p43 p44 (fun τ145 q46 => ?_))
        have t := t τ145 q46
        show wi (d + 1) 67 109 [.ref 67, .ref x1, .int (wI x2), .int (wI x3), .int (wI x4), .int (wI (rt_ (σ (x1 + 11) 2) (σ (x1 + 12)) 9 4 x2)), .int (wI (rt_ (σ (x1 + 11) 2) (σ (x1 + 12)) 9 6 x2)), .long (wJ (x4 * (σ 73 (rt_ (σ (x1 + 11) 2) (σ (x1 + 12)) 9 4 x2)))), .retAddr 0, .long (wJ (x4 * (σ 73 (rt_ (σ (x1 + 11) 2) (σ (x1 + 12)) 9 4 x2)))), .retAddr 0] [] S σ τ145 Q
        obtain ⟨r47, t⟩ := t
        refine i3 c_67_109 rfl (i1 c_67_110 ?_)
        refine i37 c_67_111 r47 (by decide) rfl (fun hc => ?_) (fun hc => ?_)
        · have t := iF t hc
          have ha48 : ¬ (x3 = 2) := hc
          exact i94 c_67_154 t
        · have t := iT t (Decidable.not_not.mp hc)
          have ha48 : x3 = 2 := Decidable.not_not.mp hc
          obtain ⟨r49, t⟩ := t
          refine i5 c_67_114 rfl (i45 c_67_115 (lo (c := 67) (kd := 105) (n := 0) rfl (by decide)) (lro (c := 67) (k := 1) (j := 69) (by decide)) (i3 c_67_118 rfl (i1 c_67_120 (i12 c_67_121 (i1 c_67_122 (i10 c_67_123 (i34a c_67_124 (wi_ok (fun K50 => ?_)))))))))
          obtain ⟨w51, e52, r53, t⟩ := t
          refine i50 (v := σ 69 (((rt_ (σ (x1 + 11) 2) (σ (x1 + 12)) 9 4 x2) * 3) + 2)) c_67_125 (lo (c := 69) (kd := 0) (n := 24) rfl (by decide)) (by decide) r49 rfl (i3 c_67_126 rfl (i10 c_67_128 (i54 (σ1 := uc σ 69 (u1 (σ 69) (((rt_ (σ (x1 + 11) 2) (σ (x1 + 12)) 9 4 x2) * 3) + 2) w51)) c_67_129 (lo (c := 69) (kd := 0) (n := 24) rfl (by decide)) (by decide) r49 (by decide) e52 r53 (wr_ rfl rfl) (i5 c_67_130 rfl (i45 c_67_131 (lo (c := 67) (kd := 105) (n := 0) rfl (by decide)) (lro (c := 67) (k := 1) (j := 69) (by decide)) (i3 c_67_134 rfl (i1 c_67_136 (i12 c_67_137 (i1 c_67_138 (i10 c_67_139 (i5 c_67_140 rfl (i45 c_67_141 (lo (c := 67) (kd := 105) (n := 0) rfl (by decide)) (lro (c := 67) (k := 1) (j := 69) (by decide)) (i3 c_67_144 rfl (i1 c_67_146 (i12 c_67_147 (i1 c_67_148 (i10 c_67_149 (wi_ok (fun K54 => ?_)))))))))))))))))))
          obtain ⟨r55, t⟩ := t
          obtain ⟨w56, e57, r58, t⟩ := t
          refine i50 (v := w51) c_67_150 (lo (c := 69) (kd := 0) (n := 24) rfl (by decide)) (by decide) r49 ((congrFun (uc_s _ _ _) _).trans (u1_s _ _ _)) (i1 c_67_151 (i16 c_67_152 r53 (by decide) (by decide) (i54 (σ1 := uc σ 69 (u1 (u1 (σ 69) (((rt_ (σ (x1 + 11) 2) (σ (x1 + 12)) 9 4 x2) * 3) + 2) w51) (((rt_ (σ (x1 + 11) 2) (σ (x1 + 12)) 9 4 x2) * 3) + 1) w56)) c_67_153 (lo (c := 69) (kd := 0) (n := 24) rfl (by decide)) (by decide) r55 (by decide) e57 r58 (wr_ (uc_s _ _ _) (uc_uc _ _ _ _)) ?_)))
          exact i94 c_67_154 t
    · have t := iF t hc
      have ha4 : ¬ ((rt_ (σ (x1 + 11) 2) (σ (x1 + 12)) 9 4 x2) < 8) := hc
      exact i94 c_67_35 t
theorem q_67 {d : Nat} {S : zS} {σ τ : zI} {Q : zQ} {tn : Nat} {p : Int} {run : Int} {made : Int} {a : Int → Int} {m : Int} (htn : tw tn) (p0 : RT σ tn a) (p1 : Jv a) (p2 : jv_T a) (p3 : 0 ≤ p ∧ p < a 4) (p4 : a (3652 + 12 * p + 4) = m ∧ 0 ≤ m) (p5 : 1 ≤ a (3652 + 12 * p + 3) ∧ a (3652 + 12 * p + 3) ≤ 2) (p6 : 1 ≤ run ∧ run ≤ (2 : Int)) (p7 : made = s_mk a m p run) (p8 : σ 73 m = s_py a m) (p9 : (∀ k, 0 ≤ k → k < 576 → 0 ≤ τ 68 k ∧ τ 68 k ≤ 100000000000000)) (p10 : 0 ≤ σ 69 (m * 3 + 2) ∧ σ 69 (m * 3 + 2) ≤ 1000000) (t : ∀ (τ1 : zI), ED τ τ1 a m run p → Q none S (uc σ 69 (if run = 2 then u1 (u1 (σ 69) (m * 3 + 2) (σ 69 (m * 3 + 2) + made)) (m * 3 + 1) ((σ 69 (m * 3 + 2) + made).tdiv 2) else σ 69)) τ1) : wc (d + 1) 67 [.ref 67, .ref tn, .int (wI p), .int (wI run), .int (wI made)] S σ τ Q := by
  have hC := jC p1
  unfold jv_C at hC
  have hP := jP p1 p p3.1 p3.2
  have hm : 0 ≤ m ∧ m < a 1 := by omega
  have vb := s_v_b (how := run) p1 p2 hm p3 p4.1
  have ob := s_own_b (how := run) p1 p2 hm p3 p4.1
  have mb := s_mk_b (how := run) p1 p2 hm p3 p4.1
  have ev : s_v a m p run = s_mk a m p run * s_py a m := by unfold s_v; rw [if_neg (by omega)]
  have cn := cP p0
  have v4 := vP p0 (p := p) (k := 4) p3 (by omega)
  have v6 := vP p0 (p := p) (k := 6) p3 (by omega)
  have v0 := vP p0 (p := p) (k := 0) p3 (by omega)
  refine wc_of mi_67 rfl (u_67_0 htn ?_)
  rw [v4, v6, v0, p4.1, p8, p7, ← ev]
  rw [p7] at t
  have fin : ∀ h2 τ1 τ2, EA τ τ1 m run (a (3652 + 12 * p + 0)) (s_own a m p run) → EA τ1 τ2 m run h2 (s_v a m p run - s_own a m p run) → (a (3652 + 12 * p + 3) = 2 → h2 = a (3652 + 12 * a (3652 + 12 * p + 6) + 0)) → (a (3652 + 12 * p + 3) ≠ 2 → h2 = -1) → ED τ τ2 a m run p := fun h2 τ1 τ2 e1 e2 q1 q2 => by
    refine ⟨fun c hc => by rw [e2.1 c hc, e1.1 c hc], fun h h0 h1 => ?_, fun k hk => ?_⟩
    · rw [e2.2, e1.2, Int.add_assoc]
      congr 1
      unfold s_e1
      have c1 : (0 ≤ a (3652 + 12 * p + 0) ∧ (m * 3 + run) * 24 + h = (m * 3 + run) * 24 + a (3652 + 12 * p + 0)) ↔ a (3652 + 12 * p + 0) = h := by omega
      simp only [c1]
      congr 1
      by_cases c : a (3652 + 12 * p + 3) = 2
      · have tc := hP.2.2.2.2.2.2.2.2.2.2.2.1 c
        have hq := (jP p1 (a (3652 + 12 * p + 6)) tc.2.1 (by omega)).1
        rw [if_pos c, q1 c]
        have c2 : (0 ≤ a (3652 + 12 * a (3652 + 12 * p + 6) + 0) ∧ (m * 3 + run) * 24 + h = (m * 3 + run) * 24 + a (3652 + 12 * a (3652 + 12 * p + 6) + 0)) ↔ a (3652 + 12 * a (3652 + 12 * p + 6) + 0) = h := by omega
        simp only [c2]
      · rw [if_neg c, q2 c, if_neg (by omega)]
    · rw [e2.2, e1.2, if_neg (by omega), if_neg (show ¬ (0 ≤ h2 ∧ k = (m * 3 + run) * 24 + h2) by
        by_cases c : a (3652 + 12 * p + 3) = 2
        · have tc := hP.2.2.2.2.2.2.2.2.2.2.2.1 c
          have hq := (jP p1 (a (3652 + 12 * p + 6)) tc.2.1 (by omega)).1
          have := q1 c
          omega
        · have := q2 c
          omega), Int.add_zero, Int.add_zero]
  have bnd : ∀ τ1 h2 c, EA τ τ1 m run h2 c → 0 ≤ c ∧ c ≤ 1000000000 → ∀ k, 0 ≤ k → k < 576 → 0 ≤ τ1 68 k ∧ τ1 68 k ≤ 1000000000000000 := fun τ1 h2 c e bc k k0 k1 => by
    have := p9 k k0 k1
    rw [e.2 k]
    split <;> omega
  have td : 0 ≤ (σ 69 (m * 3 + 2) + s_mk a m p run).tdiv 2 ∧ (σ 69 (m * 3 + 2) + s_mk a m p run).tdiv 2 ≤ 2000000 := by
    rw [Int.tdiv_eq_ediv_of_nonneg (by omega)]; omega
  have last : ∀ τ2, ED τ τ2 a m run p → (rg run) ∧ if run = 2 then ((0 ≤ (m * 3) + 2 ∧ (m * 3) + 2 < 24) ∧ ∃ w : Int, wI w = wI ((σ 69 ((m * 3) + 2)) + s_mk a m p run) ∧ rg w ∧ (0 ≤ (m * 3) + 1 ∧ (m * 3) + 1 < 24) ∧ ∃ w2 : Int, wI w2 = wI (Int.tdiv w 2) ∧ rg w2 ∧ Q none S (uc σ 69 (u1 (u1 (σ 69) ((m * 3) + 2) w) ((m * 3) + 1) w2)) τ2) else (Q none S σ τ2) := fun τ2 ed => by
    have t := t τ2 ed
    refine ⟨by omega, ifI (fun e => ?_) (fun e => ?_)⟩
    · rw [if_pos e] at t
      exact ⟨by omega, _, rfl, by omega, by omega, _, rfl, by omega, t⟩
    · rw [if_neg e, uc_id] at t
      exact t
  clear t
  refine ⟨by omega, ?_⟩
  rw [if_neg (by omega), if_pos (by omega)]
  refine ⟨by omega, by omega, ifI (fun e => ?_) (fun e => ?_)⟩
  · have c2 : a (3652 + 12 * p + 3) ≠ 2 := fun c => by have := hP.2.2.2.2.2.2.2.2.2.2.2.1 c; omega
    have eo : s_own a m p run = s_v a m p run := by unfold s_own; rw [if_neg c2]
    refine ⟨by omega, by omega, by omega, by omega, fun k k0 k1 => by have := p9 k k0 k1; omega, fun τ1 e1 => ?_⟩
    rw [e, rt_n (by omega)]
    refine ⟨by omega, by omega, bnd τ1 _ _ e1 (by omega), fun τ2 e2 => last τ2 (fin (-1) τ1 τ2 (by rw [eo]; exact e1) (by rw [eo]; exact e2) (fun c => absurd c c2) (fun _ => rfl))⟩
  · have c2 : a (3652 + 12 * p + 3) = 2 := by
      by_cases c : a (3652 + 12 * p + 3) = 2
      · exact c
      · have := hP.2.2.2.2.2.2.2.2.2.2.2.2.1 c
        omega
    have eo : s_own a m p run = (s_v a m p run).tdiv 3 := by unfold s_own; rw [if_pos c2]
    have tc := hP.2.2.2.2.2.2.2.2.2.2.2.1 c2
    have hq := (jP p1 (a (3652 + 12 * p + 6)) tc.2.1 (by omega)).1
    have vt := vP p0 (p := a (3652 + 12 * p + 6)) (k := 0) (by omega) (by omega)
    rw [vt, ← eo]
    refine ⟨by omega, by omega, by omega, by omega, by omega, fun k k0 k1 => by have := p9 k k0 k1; omega, fun τ1 e1 => ?_⟩
    exact ⟨by omega, by omega, bnd τ1 _ _ e1 (by omega), fun τ2 e2 => last τ2 (fin _ τ1 τ2 e1 e2 (fun _ => rfl) (fun c => absurd c2 c))⟩
/-- what a PERSON adds -/
def ED2 (τ τ1 : zI) (a : Int → Int) (m p : Int) : Prop := (∀ c, c ≠ 68 → τ1 c = τ c) ∧ (∀ run, 1 ≤ run → run ≤ 2 → ∀ h, 0 ≤ h → h < 24 → τ1 68 ((m * 3 + run) * 24 + h) = τ 68 ((m * 3 + run) * 24 + h) + s_e1 a m run h p) ∧ ∀ k, k < (m * 3 + 1) * 24 ∨ (m * 3 + 3) * 24 ≤ k → τ1 68 k = τ 68 k
def U69 (σ σ1 : zI) (a : Int → Int) (m p : Int) : Prop := (∀ c, c ≠ 69 → σ1 c = σ c) ∧ σ1 69 (m * 3 + 2) = σ 69 (m * 3 + 2) + s_mk a m p 2 ∧ (σ 69 (m * 3 + 1) = (σ 69 (m * 3 + 2)).tdiv 2 → σ1 69 (m * 3 + 1) = (σ1 69 (m * 3 + 2)).tdiv 2) ∧ ∀ k, k < m * 3 + 1 ∨ m * 3 + 2 < k → σ1 69 k = σ 69 k
theorem ED_2 {τ τ1 τ2 : zI} {a : Int → Int} {m p : Int} (h1 : ED τ τ1 a m 1 p) (h2 : ED τ1 τ2 a m 2 p) : ED2 τ τ2 a m p := by
  refine ⟨fun c hc => by rw [h2.1 c hc, h1.1 c hc], fun run r0 r1 h a0 a1 => ?_, fun k hk => ?_⟩
  · by_cases e : run = 1
    · subst e
      rw [h2.2.2 _ (by omega), h1.2.1 h a0 a1]
    · have e : run = 2 := by omega
      subst e
      rw [h2.2.1 h a0 a1, h1.2.2 _ (by omega)]
  · rw [h2.2.2 k (by omega), h1.2.2 k (by omega)]
-- method 66: MillTown$Sharing.addEarnings(LMillTown$Town;LMillTown$Law;II)V
theorem c_66_0 : pg_cd 66 0 = (5, 1, 0, 1, 0) := by decide +kernel
theorem c_66_1 : pg_cd 66 1 = (45, 8, 82, 2, 0) := by decide +kernel
theorem c_66_4 : pg_cd 66 4 = (3, 2, 0, 4, 0) := by decide +kernel
theorem c_66_6 : pg_cd 66 6 = (1, 2, 0, 0, 6) := by decide +kernel
theorem c_66_8 : pg_cd 66 8 = (80, 55, 78, 0, 0) := by decide +kernel
theorem c_66_11 : pg_cd 66 11 = (6, 2, 0, 5, 0) := by decide +kernel
theorem c_66_13 : pg_cd 66 13 = (5, 1, 0, 2, 0) := by decide +kernel
theorem c_66_14 : pg_cd 66 14 = (5, 1, 0, 1, 0) := by decide +kernel
theorem c_66_15 : pg_cd 66 15 = (5, 1, 0, 1, 0) := by decide +kernel
theorem c_66_16 : pg_cd 66 16 = (45, 8, 67, 5, 0) := by decide +kernel
theorem c_66_19 : pg_cd 66 19 = (3, 1, 0, 3, 0) := by decide +kernel
theorem c_66_20 : pg_cd 66 20 = (1, 1, 0, 0, 1) := by decide +kernel
theorem c_66_21 : pg_cd 66 21 = (80, 55, 78, 0, 0) := by decide +kernel
theorem c_66_24 : pg_cd 66 24 = (3, 2, 0, 4, 0) := by decide +kernel
theorem c_66_26 : pg_cd 66 26 = (5, 1, 0, 1, 0) := by decide +kernel
theorem c_66_27 : pg_cd 66 27 = (43, 8, 97, 8, 0) := by decide +kernel
theorem c_66_30 : pg_cd 66 30 = (5, 1, 0, 1, 0) := by decide +kernel
theorem c_66_31 : pg_cd 66 31 = (43, 8, 97, 8, 0) := by decide +kernel
theorem c_66_34 : pg_cd 66 34 = (80, 14, 112, 0, 0) := by decide +kernel
theorem c_66_37 : pg_cd 66 37 = (6, 2, 0, 6, 0) := by decide +kernel
theorem c_66_39 : pg_cd 66 39 = (5, 1, 0, 1, 0) := by decide +kernel
theorem c_66_40 : pg_cd 66 40 = (45, 8, 67, 5, 0) := by decide +kernel
theorem c_66_43 : pg_cd 66 43 = (3, 1, 0, 3, 0) := by decide +kernel
theorem c_66_44 : pg_cd 66 44 = (1, 1, 0, 0, 0) := by decide +kernel
theorem c_66_45 : pg_cd 66 45 = (80, 55, 78, 0, 0) := by decide +kernel
theorem c_66_48 : pg_cd 66 48 = (6, 2, 0, 7, 0) := by decide +kernel
theorem c_66_50 : pg_cd 66 50 = (1, 1, 0, 0, 1) := by decide +kernel
theorem c_66_51 : pg_cd 66 51 = (6, 2, 0, 8, 0) := by decide +kernel
theorem c_66_53 : pg_cd 66 53 = (3, 2, 0, 8, 0) := by decide +kernel
theorem c_66_55 : pg_cd 66 55 = (1, 1, 0, 0, 2) := by decide +kernel
theorem c_66_56 : pg_cd 66 56 = (37, 3, 0, 4, 84) := by decide +kernel
theorem c_66_59 : pg_cd 66 59 = (3, 2, 0, 8, 0) := by decide +kernel
theorem c_66_61 : pg_cd 66 61 = (1, 1, 0, 0, 2) := by decide +kernel
theorem c_66_62 : pg_cd 66 62 = (37, 3, 0, 1, 8) := by decide +kernel
theorem c_66_65 : pg_cd 66 65 = (3, 2, 0, 6, 0) := by decide +kernel
theorem c_66_67 : pg_cd 66 67 = (38, 3, 0, 0, 7) := by decide +kernel
theorem c_66_70 : pg_cd 66 70 = (3, 2, 0, 6, 0) := by decide +kernel
theorem c_66_72 : pg_cd 66 72 = (1, 1, 0, 0, 2) := by decide +kernel
theorem c_66_73 : pg_cd 66 73 = (16, 1, 0, 0, 0) := by decide +kernel
theorem c_66_74 : pg_cd 66 74 = (6, 2, 0, 9, 0) := by decide +kernel
theorem c_66_76 : pg_cd 66 76 = (5, 1, 0, 1, 0) := by decide +kernel
theorem c_66_77 : pg_cd 66 77 = (3, 1, 0, 3, 0) := by decide +kernel
theorem c_66_78 : pg_cd 66 78 = (80, 97, 115, 0, 0) := by decide +kernel
theorem c_66_81 : pg_cd 66 81 = (36, 3, 0, 1, 30) := by decide +kernel
theorem c_66_84 : pg_cd 66 84 = (5, 1, 0, 0, 0) := by decide +kernel
theorem c_66_85 : pg_cd 66 85 = (3, 2, 0, 4, 0) := by decide +kernel
theorem c_66_87 : pg_cd 66 87 = (3, 2, 0, 8, 0) := by decide +kernel
theorem c_66_89 : pg_cd 66 89 = (3, 2, 0, 7, 0) := by decide +kernel
theorem c_66_91 : pg_cd 66 91 = (3, 2, 0, 9, 0) := by decide +kernel
theorem c_66_93 : pg_cd 66 93 = (31, 1, 0, 0, 0) := by decide +kernel
theorem c_66_94 : pg_cd 66 94 = (5, 1, 0, 1, 0) := by decide +kernel
theorem c_66_95 : pg_cd 66 95 = (45, 8, 67, 5, 0) := by decide +kernel
theorem c_66_98 : pg_cd 66 98 = (3, 1, 0, 3, 0) := by decide +kernel
theorem c_66_99 : pg_cd 66 99 = (1, 1, 0, 0, 5) := by decide +kernel
theorem c_66_100 : pg_cd 66 100 = (80, 55, 78, 0, 0) := by decide +kernel
theorem c_66_103 : pg_cd 66 103 = (31, 1, 0, 0, 0) := by decide +kernel
theorem c_66_104 : pg_cd 66 104 = (24, 1, 0, 0, 0) := by decide +kernel
theorem c_66_105 : pg_cd 66 105 = (80, 68, 119, 0, 0) := by decide +kernel
theorem c_66_108 : pg_cd 66 108 = (38, 3, 0, 0, 26) := by decide +kernel
theorem c_66_111 : pg_cd 66 111 = (3, 2, 0, 5, 0) := by decide +kernel
theorem c_66_113 : pg_cd 66 113 = (1, 1, 0, 0, (-1)) := by decide +kernel
theorem c_66_114 : pg_cd 66 114 = (37, 3, 0, 0, 20) := by decide +kernel
theorem c_66_117 : pg_cd 66 117 = (5, 1, 0, 0, 0) := by decide +kernel
theorem c_66_118 : pg_cd 66 118 = (5, 1, 0, 1, 0) := by decide +kernel
theorem c_66_119 : pg_cd 66 119 = (3, 1, 0, 3, 0) := by decide +kernel
theorem c_66_120 : pg_cd 66 120 = (3, 2, 0, 8, 0) := by decide +kernel
theorem c_66_122 : pg_cd 66 122 = (5, 1, 0, 1, 0) := by decide +kernel
theorem c_66_123 : pg_cd 66 123 = (3, 1, 0, 3, 0) := by decide +kernel
theorem c_66_124 : pg_cd 66 124 = (3, 2, 0, 9, 0) := by decide +kernel
theorem c_66_126 : pg_cd 66 126 = (3, 2, 0, 5, 0) := by decide +kernel
theorem c_66_128 : pg_cd 66 128 = (80, 106, 123, 0, 0) := by decide +kernel
theorem c_66_131 : pg_cd 66 131 = (80, 67, 127, 0, 0) := by decide +kernel
theorem c_66_134 : pg_cd 66 134 = (9, 3, 0, 8, 1) := by decide +kernel
theorem c_66_137 : pg_cd 66 137 = (38, 3, 0, 0, (-84)) := by decide +kernel
theorem c_66_140 : pg_cd 66 140 = (94, 0, 0, 0, 0) := by decide +kernel
theorem mi_66 : pg_mc 66 = 5 ∧ pg_na 66 = 4 ∧ pg_mx 66 = 10 := by decide +kernel
set_option maxRecDepth 20000 in
theorem u_66_0 {d : Nat} {S : zS} {σ τ : zI} {Q : zQ} {x1 : Nat} {x3 : Int} {x4 : Int} (hx1 : tw x1) (t : (rg x4) ∧ (rg x3) ∧ ∃ a4 : Int → Int, (RT σ x1 a4) ∧ (RX S σ a4) ∧ (Jl a4) ∧ (jv_T a4) ∧ wi (d + 13) 66 53 [.ref 67, .ref x1, .ref 54, .int (wI x3), .int (wI x4), .int (wI (rt_ (σ (x1 + 5) 2) (σ (x1 + 6)) 13 6 x4)), .int (wI (r_hours a4 (rt_ (σ (x1 + 11) 2) (σ (x1 + 12)) 9 1 x3) x4 (σ x1 8) (σ x1 8))), .int (wI (rt_ (σ (x1 + 11) 2) (σ (x1 + 12)) 9 0 x3)), .int (wI 1), .retAddr 0] [] S σ τ Q) : wi (d + 13) 66 0 [.ref 67, .ref x1, .ref 54, .int (wI x3), .int (wI x4), .retAddr 0, .retAddr 0, .retAddr 0, .retAddr 0, .retAddr 0] [] S σ τ Q := by
  obtain ⟨r1, t⟩ := t
  refine i5 c_66_0 rfl (i45 c_66_1 (lo (lyt_0 hx1) (by have := tw_b hx1; omega)) (lro (lrt_2 hx1)) (i3 c_66_4 rfl (i1 c_66_6 (wi_ok (fun K2 => ?_)))))
  refine i80 (As := [.int (wI x4), .int (wI 6)]) (rest := []) c_66_8 mi_55 rfl rfl (Nat.le_of_ble_eq_true rfl) (Nat.le_of_ble_eq_true rfl) (lo (lyt_5 hx1) (by have := tw_b hx1; omega)) (q_at (ow_mills hx1) r1 (by decide) ?_)
  show wi (d + 13) 66 11 [.ref 67, .ref x1, .ref 54, .int (wI x3), .int (wI x4), .retAddr 0, .retAddr 0, .retAddr 0, .retAddr 0, .retAddr 0] [.int (wI (rt_ (σ (x1 + 5) 2) (σ (x1 + 6)) 13 6 x4))] S σ τ Q
  obtain ⟨r3, t⟩ := t
  refine i6 (L' := [.ref 67, .ref x1, .ref 54, .int (wI x3), .int (wI x4), .int (wI (rt_ (σ (x1 + 5) 2) (σ (x1 + 6)) 13 6 x4)), .retAddr 0, .retAddr 0, .retAddr 0, .retAddr 0]) c_66_11 rfl (i5 c_66_13 rfl (i5 c_66_14 rfl (i5 c_66_15 rfl (i45 c_66_16 (lo (lyt_0 hx1) (by have := tw_b hx1; omega)) (lro (lrt_5 hx1)) (i3 c_66_19 rfl (i1 c_66_20 ?_))))))
  refine i80 (As := [.int (wI x3), .int (wI 1)]) (rest := [.ref x1, .ref 54]) c_66_21 mi_55 rfl rfl (Nat.le_of_ble_eq_true rfl) (Nat.le_of_ble_eq_true rfl) (lo (lyt_11 hx1) (by have := tw_b hx1; omega)) (q_at (ow_persons hx1) r3 (by decide) ?_)
  show wi (d + 13) 66 24 [.ref 67, .ref x1, .ref 54, .int (wI x3), .int (wI x4), .int (wI (rt_ (σ (x1 + 5) 2) (σ (x1 + 6)) 13 6 x4)), .retAddr 0, .retAddr 0, .retAddr 0, .retAddr 0] [.int (wI (rt_ (σ (x1 + 11) 2) (σ (x1 + 12)) 9 1 x3)), .ref x1, .ref 54] S σ τ Q
  obtain ⟨a4, t⟩ := t
  obtain ⟨p5, t⟩ := t
  obtain ⟨p6, t⟩ := t
  obtain ⟨p7, t⟩ := t
  obtain ⟨p8, t⟩ := t
  refine i3 c_66_24 rfl (i5 c_66_26 rfl (i43 (v := σ x1 8) c_66_27 (lo (lyt_0 hx1) (by have := tw_b hx1; omega)) rfl (i5 c_66_30 rfl (i43 (v := σ x1 8) c_66_31 (lo (lyt_0 hx1) (by have := tw_b hx1; omega)) rfl ?_))))
  refine i80 (As := [.ref x1, .int (wI (rt_ (σ (x1 + 11) 2) (σ (x1 + 12)) 9 1 x3)), .int (wI x4), .int (wI (σ x1 8)), .int (wI (σ x1 8))]) (rest := []) c_66_34 mi_14 rfl rfl (Nat.le_of_ble_eq_true rfl) (Nat.le_of_ble_eq_true rfl) (lo (c := 54) (kd := 101) (n := 0) rfl (by decide)) (q_14 (a := a4) hx1 p5 p6 p7 p8 (rg_rt_ (fun k => kO_r K2 _ k) _ _ _ _) r1 (rge_ K2 rfl) (rge_ K2 rfl) ?_)
  show wi (d + 13) 66 37 [.ref 67, .ref x1, .ref 54, .int (wI x3), .int (wI x4), .int (wI (rt_ (σ (x1 + 5) 2) (σ (x1 + 6)) 13 6 x4)), .retAddr 0, .retAddr 0, .retAddr 0, .retAddr 0] [.int (wI (r_hours a4 (rt_ (σ (x1 + 11) 2) (σ (x1 + 12)) 9 1 x3) x4 (σ x1 8) (σ x1 8)))] S σ τ Q
  refine i6 (L' := [.ref 67, .ref x1, .ref 54, .int (wI x3), .int (wI x4), .int (wI (rt_ (σ (x1 + 5) 2) (σ (x1 + 6)) 13 6 x4)), .int (wI (r_hours a4 (rt_ (σ (x1 + 11) 2) (σ (x1 + 12)) 9 1 x3) x4 (σ x1 8) (σ x1 8))), .retAddr 0, .retAddr 0, .retAddr 0]) c_66_37 rfl (i5 c_66_39 rfl (i45 c_66_40 (lo (lyt_0 hx1) (by have := tw_b hx1; omega)) (lro (lrt_5 hx1)) (i3 c_66_43 rfl (i1 c_66_44 ?_))))
  refine i80 (As := [.int (wI x3), .int (wI 0)]) (rest := []) c_66_45 mi_55 rfl rfl (Nat.le_of_ble_eq_true rfl) (Nat.le_of_ble_eq_true rfl) (lo (lyt_11 hx1) (by have := tw_b hx1; omega)) (q_at (ow_persons hx1) r3 (by decide) ?_)
  show wi (d + 13) 66 48 [.ref 67, .ref x1, .ref 54, .int (wI x3), .int (wI x4), .int (wI (rt_ (σ (x1 + 5) 2) (σ (x1 + 6)) 13 6 x4)), .int (wI (r_hours a4 (rt_ (σ (x1 + 11) 2) (σ (x1 + 12)) 9 1 x3) x4 (σ x1 8) (σ x1 8))), .retAddr 0, .retAddr 0, .retAddr 0] [.int (wI (rt_ (σ (x1 + 11) 2) (σ (x1 + 12)) 9 0 x3))] S σ τ Q
  refine i6 (L' := [.ref 67, .ref x1, .ref 54, .int (wI x3), .int (wI x4), .int (wI (rt_ (σ (x1 + 5) 2) (σ (x1 + 6)) 13 6 x4)), .int (wI (r_hours a4 (rt_ (σ (x1 + 11) 2) (σ (x1 + 12)) 9 1 x3) x4 (σ x1 8) (σ x1 8))), .int (wI (rt_ (σ (x1 + 11) 2) (σ (x1 + 12)) 9 0 x3)), .retAddr 0, .retAddr 0]) c_66_48 rfl (i1 c_66_50 (i6 (L' := [.ref 67, .ref x1, .ref 54, .int (wI x3), .int (wI x4), .int (wI (rt_ (σ (x1 + 5) 2) (σ (x1 + 6)) 13 6 x4)), .int (wI (r_hours a4 (rt_ (σ (x1 + 11) 2) (σ (x1 + 12)) 9 1 x3) x4 (σ x1 8) (σ x1 8))), .int (wI (rt_ (σ (x1 + 11) 2) (σ (x1 + 12)) 9 0 x3)), .int (wI 1), .retAddr 0]) c_66_51 rfl t))
set_option maxRecDepth 20000 in
theorem u_66_53 {d : Nat} {S : zS} {σ τ : zI} {Q : zQ} {x1 : Nat} {x3 : Int} {x4 : Int} {x5 : Int} {x6 : Int} {x7 : Int} {x8 : Int} {y9 : Value} (hx1 : tw x1) (t : (rg x8) ∧ if (2 : Int) < x8 then (Q none S σ τ) else (if x8 = 2 then ((rg x3) ∧ if rt_ (σ (x1 + 11) 2) (σ (x1 + 12)) 9 3 x3 = 1 ∨ rt_ (σ (x1 + 11) 2) (σ (x1 + 12)) 9 3 x3 = 2 then ((rg x5) ∧ if x5 = (-1) then (wi (d + 13) 66 53 [.ref 67, .ref x1, .ref 54, .int (wI x3), .int (wI x4), .int (wI x5), .int (wI x6), .int (wI x7), .int (wI (x8 + 1)), .int (wI x6)] [] S σ τ Q) else (∃ a47 : Int → Int, (RT σ x1 a47) ∧ (Jv a47) ∧ (0 ≤ x3 ∧ x3 < a47 4) ∧ (0 ≤ a47 (3652 + 12 * x3 + 4)) ∧ (0 ≤ x6 ∧ x6 ≤ 80) ∧ (0 ≤ x5 ∧ x5 ≤ 5) ∧ ∀ (v54 : Int), v54 = Int.tdiv (a47 (3652 + 12 * x3 + 7) + r_pts a47 x3 x6) (r_cost a47 x5) → 0 ≤ v54 ∧ v54 ≤ 10000000 → ∃ a57 : Int → Int, ∃ m58 : Int, (RT σ x1 a57) ∧ (Jv a57) ∧ (jv_T a57) ∧ (0 ≤ x3 ∧ x3 < a57 4) ∧ (a57 (3652 + 12 * x3 + 4) = m58 ∧ 0 ≤ m58) ∧ (1 ≤ a57 (3652 + 12 * x3 + 3) ∧ a57 (3652 + 12 * x3 + 3) ≤ 2) ∧ (1 ≤ x8 ∧ x8 ≤ (2 : Int)) ∧ (v54 = s_mk a57 m58 x3 x8) ∧ (σ 73 m58 = s_py a57 m58) ∧ (∀ k, 0 ≤ k → k < 576 → 0 ≤ τ 68 k ∧ τ 68 k ≤ 100000000000000) ∧ (0 ≤ σ 69 (m58 * 3 + 2) ∧ σ 69 (m58 * 3 + 2) ≤ 1000000) ∧ ∀ (τ170 : zI), ED τ τ170 a57 m58 x8 x3 → wi (d + 13) 66 53 [.ref 67, .ref x1, .ref 54, .int (wI x3), .int (wI x4), .int (wI x5), .int (wI x6), .int (wI x7), .int (wI (x8 + 1)), .int (wI x6)] [] S (uc σ 69 (if x8 = 2 then u1 (u1 ((σ 69)) (m58 * 3 + 2) ((σ 69) (m58 * 3 + 2) + v54)) (m58 * 3 + 1) (((σ 69) (m58 * 3 + 2) + v54).tdiv 2) else (σ 69))) τ170 Q)) else ((rg x6) ∧ (0 ≤ x4 ∧ x4 < (8 : Int)) ∧ (0 ≤ x8 ∧ x8 < (3 : Int)) ∧ (-1 ≤ x7 ∧ x7 < (24 : Int)) ∧ (0 ≤ (x6 * (rt_ (σ (x1 + 11) 2) (σ (x1 + 12)) 9 5 x3)) ∧ (x6 * (rt_ (σ (x1 + 11) 2) (σ (x1 + 12)) 9 5 x3)) ≤ (1000000000 : Int)) ∧ (∀ k, 0 ≤ k → k < 576 → 0 ≤ τ 68 k ∧ τ 68 k ≤ 1000000000000000) ∧ ∀ (τ179 : zI), EA τ τ179 x4 x8 x7 (x6 * (rt_ (σ (x1 + 11) 2) (σ (x1 + 12)) 9 5 x3)) → wi (d + 13) 66 53 [.ref 67, .ref x1, .ref 54, .int (wI x3), .int (wI x4), .int (wI x5), .int (wI x6), .int (wI x7), .int (wI (x8 + 1)), .int (wI x6)] [] S σ τ179 Q)) else ((rg x6) ∧ (rg x3) ∧ if rt_ (σ (x1 + 11) 2) (σ (x1 + 12)) 9 3 x3 = 1 ∨ rt_ (σ (x1 + 11) 2) (σ (x1 + 12)) 9 3 x3 = 2 then ((rg x5) ∧ if x5 = (-1) then (wi (d + 13) 66 53 [.ref 67, .ref x1, .ref 54, .int (wI x3), .int (wI x4), .int (wI x5), .int (wI x6), .int (wI x7), .int (wI (x8 + 1)), .int (wI (Int.tdiv x6 2))] [] S σ τ Q) else (∃ a9 : Int → Int, (RT σ x1 a9) ∧ (Jv a9) ∧ (0 ≤ x3 ∧ x3 < a9 4) ∧ (0 ≤ a9 (3652 + 12 * x3 + 4)) ∧ (0 ≤ (Int.tdiv x6 2) ∧ (Int.tdiv x6 2) ≤ 80) ∧ (0 ≤ x5 ∧ x5 ≤ 5) ∧ ∀ (v16 : Int), v16 = Int.tdiv (a9 (3652 + 12 * x3 + 7) + r_pts a9 x3 (Int.tdiv x6 2)) (r_cost a9 x5) → 0 ≤ v16 ∧ v16 ≤ 10000000 → ∃ a19 : Int → Int, ∃ m20 : Int, (RT σ x1 a19) ∧ (Jv a19) ∧ (jv_T a19) ∧ (0 ≤ x3 ∧ x3 < a19 4) ∧ (a19 (3652 + 12 * x3 + 4) = m20 ∧ 0 ≤ m20) ∧ (1 ≤ a19 (3652 + 12 * x3 + 3) ∧ a19 (3652 + 12 * x3 + 3) ≤ 2) ∧ (1 ≤ x8 ∧ x8 ≤ (2 : Int)) ∧ (v16 = s_mk a19 m20 x3 x8) ∧ (σ 73 m20 = s_py a19 m20) ∧ (∀ k, 0 ≤ k → k < 576 → 0 ≤ τ 68 k ∧ τ 68 k ≤ 100000000000000) ∧ (0 ≤ σ 69 (m20 * 3 + 2) ∧ σ 69 (m20 * 3 + 2) ≤ 1000000) ∧ ∀ (τ132 : zI), ED τ τ132 a19 m20 x8 x3 → wi (d + 13) 66 53 [.ref 67, .ref x1, .ref 54, .int (wI x3), .int (wI x4), .int (wI x5), .int (wI x6), .int (wI x7), .int (wI (x8 + 1)), .int (wI (Int.tdiv x6 2))] [] S (uc σ 69 (if x8 = 2 then u1 (u1 ((σ 69)) (m20 * 3 + 2) ((σ 69) (m20 * 3 + 2) + v16)) (m20 * 3 + 1) (((σ 69) (m20 * 3 + 2) + v16).tdiv 2) else (σ 69))) τ132 Q)) else ((rg (Int.tdiv x6 2)) ∧ (0 ≤ x4 ∧ x4 < (8 : Int)) ∧ (0 ≤ x8 ∧ x8 < (3 : Int)) ∧ (-1 ≤ x7 ∧ x7 < (24 : Int)) ∧ (0 ≤ ((Int.tdiv x6 2) * (rt_ (σ (x1 + 11) 2) (σ (x1 + 12)) 9 5 x3)) ∧ ((Int.tdiv x6 2) * (rt_ (σ (x1 + 11) 2) (σ (x1 + 12)) 9 5 x3)) ≤ (1000000000 : Int)) ∧ (∀ k, 0 ≤ k → k < 576 → 0 ≤ τ 68 k ∧ τ 68 k ≤ 1000000000000000) ∧ ∀ (τ141 : zI), EA τ τ141 x4 x8 x7 ((Int.tdiv x6 2) * (rt_ (σ (x1 + 11) 2) (σ (x1 + 12)) 9 5 x3)) → wi (d + 13) 66 53 [.ref 67, .ref x1, .ref 54, .int (wI x3), .int (wI x4), .int (wI x5), .int (wI x6), .int (wI x7), .int (wI (x8 + 1)), .int (wI (Int.tdiv x6 2))] [] S σ τ141 Q)))) : wi (d + 13) 66 53 [.ref 67, .ref x1, .ref 54, .int (wI x3), .int (wI x4), .int (wI x5), .int (wI x6), .int (wI x7), .int (wI x8), y9] [] S σ τ Q := by
  obtain ⟨r1, t⟩ := t
  refine i3 c_66_53 rfl (i1 c_66_55 ?_)
  refine i37 c_66_56 r1 (by decide) rfl (fun hc => ?_) (fun hc => ?_)
  · have t := iT t hc
    have ha2 : (2 : Int) < x8 := hc
    exact i94 c_66_140 t
  · have t := iF t hc
    have ha2 : ¬ ((2 : Int) < x8) := hc
    refine i3 c_66_59 rfl (i1 c_66_61 ?_)
    refine i37 c_66_62 r1 (by decide) rfl (fun hc => ?_) (fun hc => ?_)
    · have t := iF t hc
      have ha3 : ¬ (x8 = 2) := hc
      obtain ⟨r4, t⟩ := t
      obtain ⟨r5, t⟩ := t
      refine i3 c_66_70 rfl (i1 c_66_72 (i16 c_66_73 r4 (by decide) (by decide) (i6 (L' := [.ref 67, .ref x1, .ref 54, .int (wI x3), .int (wI x4), .int (wI x5), .int (wI x6), .int (wI x7), .int (wI x8), .int (wI (Int.tdiv x6 2))]) c_66_74 rfl (i5 c_66_76 rfl (i3 c_66_77 rfl ?_)))))
      refine i80 (As := [.int (wI x3)]) (rest := []) c_66_78 mi_97 rfl rfl (Nat.le_of_ble_eq_true rfl) (Nat.le_of_ble_eq_true rfl) (lo (lyt_0 hx1) (by have := tw_b hx1; omega)) (q_97 hx1 r5 ?_)
      show wi (d + 13) 66 81 [.ref 67, .ref x1, .ref 54, .int (wI x3), .int (wI x4), .int (wI x5), .int (wI x6), .int (wI x7), .int (wI x8), .int (wI (Int.tdiv x6 2))] [.int (wI (if rt_ (σ (x1 + 11) 2) (σ (x1 + 12)) 9 3 x3 = 1 ∨ rt_ (σ (x1 + 11) 2) (σ (x1 + 12)) 9 3 x3 = 2 then 1 else 0))] S σ τ Q
      refine i36f c_66_81 rfl (fun hc => ?_) (fun hc => ?_)
      · have t := iT t hc
        have ha6 : rt_ (σ (x1 + 11) 2) (σ (x1 + 12)) 9 3 x3 = 1 ∨ rt_ (σ (x1 + 11) 2) (σ (x1 + 12)) 9 3 x3 = 2 := hc
        obtain ⟨r7, t⟩ := t
        refine i3 c_66_111 rfl (i1 c_66_113 ?_)
        refine i37 c_66_114 r7 (by decide) rfl (fun hc => ?_) (fun hc => ?_)
        · have t := iT t hc
          have ha8 : x5 = (-1) := hc
          refine i9 (L' := [.ref 67, .ref x1, .ref 54, .int (wI x3), .int (wI x4), .int (wI x5), .int (wI x6), .int (wI x7), .int (wI (x8 + 1)), .int (wI (Int.tdiv x6 2))]) c_66_134 rfl rfl (i38 c_66_137 rfl t)
        · have t := iF t hc
          have ha8 : ¬ (x5 = (-1)) := hc
          obtain ⟨a9, t⟩ := t
          obtain ⟨p10, t⟩ := t
          obtain ⟨p11, t⟩ := t
          obtain ⟨p12, t⟩ := t
          obtain ⟨p13, t⟩ := t
          obtain ⟨p14, t⟩ := t
          obtain ⟨p15, t⟩ := t
          refine i5 c_66_117 rfl (i5 c_66_118 rfl (i3 c_66_119 rfl (i3 c_66_120 rfl (i5 c_66_122 rfl (i3 c_66_123 rfl (i3 c_66_124 rfl (i3 c_66_126 rfl ?_)))))))
          refine i80 (As := [.int (wI x3), .int (wI (Int.tdiv x6 2)), .int (wI x5)]) (rest := [.int (wI x8), .int (wI x3), .ref x1, .ref 67]) c_66_128 mi_106 rfl rfl (Nat.le_of_ble_eq_true rfl) (Nat.le_of_ble_eq_true rfl) (lo (lyt_0 hx1) (by have := tw_b hx1; omega)) (q_106 (a := a9) hx1 p10 p11 p12 p13 p14 p15 (fun v16 q17 q18 => ?_))
          have t := t v16 q17 q18
          show wi (d + 13) 66 131 [.ref 67, .ref x1, .ref 54, .int (wI x3), .int (wI x4), .int (wI x5), .int (wI x6), .int (wI x7), .int (wI x8), .int (wI (Int.tdiv x6 2))] [.int (wI v16), .int (wI x8), .int (wI x3), .ref x1, .ref 67] S σ τ Q
          obtain ⟨a19, t⟩ := t
          obtain ⟨m20, t⟩ := t
          obtain ⟨p21, t⟩ := t
          obtain ⟨p22, t⟩ := t
          obtain ⟨p23, t⟩ := t
          obtain ⟨p24, t⟩ := t
          obtain ⟨p25, t⟩ := t
          obtain ⟨p26, t⟩ := t
          obtain ⟨p27, t⟩ := t
          obtain ⟨p28, t⟩ := t
          obtain ⟨p29, t⟩ := t
          obtain ⟨p30, t⟩ := t
          obtain ⟨p31, t⟩ := t
          refine i80 (As := [.ref x1, .int (wI x3), .int (wI x8), .int (wI v16)]) (rest := []) c_66_131 mi_67 rfl rfl (Nat.le_of_ble_eq_true rfl) (Nat.le_of_ble_eq_true rfl) (lo (c := 67) (kd := 105) (n := 0) rfl (by decide)) (q_67 (a := a19) (m := m20) hx1 p21 p22 p23 p24 p25 p26 p27 p28 p29 p30 p31 (fun τ132 q33 => ?_))
          have t := t τ132 q33
          show wi (d + 13) 66 134 [.ref 67, .ref x1, .ref 54, .int (wI x3), .int (wI x4), .int (wI x5), .int (wI x6), .int (wI x7), .int (wI x8), .int (wI (Int.tdiv x6 2))] [] S (uc σ 69 (if x8 = 2 then u1 (u1 ((σ 69)) (m20 * 3 + 2) ((σ 69) (m20 * 3 + 2) + v16)) (m20 * 3 + 1) (((σ 69) (m20 * 3 + 2) + v16).tdiv 2) else (σ 69))) τ132 Q
          refine i9 (L' := [.ref 67, .ref x1, .ref 54, .int (wI x3), .int (wI x4), .int (wI x5), .int (wI x6), .int (wI x7), .int (wI (x8 + 1)), .int (wI (Int.tdiv x6 2))]) c_66_134 rfl rfl (i38 c_66_137 rfl t)
      · have t := iF t hc
        have ha6 : ¬ (rt_ (σ (x1 + 11) 2) (σ (x1 + 12)) 9 3 x3 = 1 ∨ rt_ (σ (x1 + 11) 2) (σ (x1 + 12)) 9 3 x3 = 2) := hc
        obtain ⟨r34, t⟩ := t
        refine i5 c_66_84 rfl (i3 c_66_85 rfl (i3 c_66_87 rfl (i3 c_66_89 rfl (i3 c_66_91 rfl (i31 c_66_93 r34 (i5 c_66_94 rfl (i45 c_66_95 (lo (lyt_0 hx1) (by have := tw_b hx1; omega)) (lro (lrt_5 hx1)) (i3 c_66_98 rfl (i1 c_66_99 (wi_ok (fun K35 => ?_)))))))))))
        refine i80 (As := [.int (wI x3), .int (wI 5)]) (rest := [.long (wJ (Int.tdiv x6 2)), .int (wI x7), .int (wI x8), .int (wI x4), .ref 67]) c_66_100 mi_55 rfl rfl (Nat.le_of_ble_eq_true rfl) (Nat.le_of_ble_eq_true rfl) (lo (lyt_11 hx1) (by have := tw_b hx1; omega)) (q_at (ow_persons hx1) r5 (by decide) ?_)
        show wi (d + 13) 66 103 [.ref 67, .ref x1, .ref 54, .int (wI x3), .int (wI x4), .int (wI x5), .int (wI x6), .int (wI x7), .int (wI x8), .int (wI (Int.tdiv x6 2))] [.int (wI (rt_ (σ (x1 + 11) 2) (σ (x1 + 12)) 9 5 x3)), .long (wJ (Int.tdiv x6 2)), .int (wI x7), .int (wI x8), .int (wI x4), .ref 67] S σ τ Q
        obtain ⟨p36, t⟩ := t
        obtain ⟨p37, t⟩ := t
        obtain ⟨p38, t⟩ := t
        obtain ⟨p39, t⟩ := t
        obtain ⟨p40, t⟩ := t
        refine i31 c_66_103 (rg_rt_ (fun k => kO_r K35 _ k) _ _ _ _) (i24 c_66_104 ?_)
        refine i80 (As := [.int (wI x4), .int (wI x8), .int (wI x7), .long (wJ ((Int.tdiv x6 2) * (rt_ (σ (x1 + 11) 2) (σ (x1 + 12)) 9 5 x3)))]) (rest := []) c_66_105 mi_68 rfl rfl (Nat.le_of_ble_eq_true rfl) (Nat.le_of_ble_eq_true rfl) (lo (c := 67) (kd := 105) (n := 0) rfl (by decide)) (q_68 p36 p37 p38 p39 p40 (fun τ141 q42 => ?_))
        have t := t τ141 q42
        show wi (d + 13) 66 108 [.ref 67, .ref x1, .ref 54, .int (wI x3), .int (wI x4), .int (wI x5), .int (wI x6), .int (wI x7), .int (wI x8), .int (wI (Int.tdiv x6 2))] [] S σ τ141 Q
        refine i38 c_66_108 rfl (i9 (L' := [.ref 67, .ref x1, .ref 54, .int (wI x3), .int (wI x4), .int (wI x5), .int (wI x6), .int (wI x7), .int (wI (x8 + 1)), .int (wI (Int.tdiv x6 2))]) c_66_134 rfl rfl (i38 c_66_137 rfl t))
    · have t := iT t (Decidable.not_not.mp hc)
      have ha3 : x8 = 2 := Decidable.not_not.mp hc
      obtain ⟨r43, t⟩ := t
      refine i3 c_66_65 rfl (i38 c_66_67 rfl (i6 (L' := [.ref 67, .ref x1, .ref 54, .int (wI x3), .int (wI x4), .int (wI x5), .int (wI x6), .int (wI x7), .int (wI x8), .int (wI x6)]) c_66_74 rfl (i5 c_66_76 rfl (i3 c_66_77 rfl ?_))))
      refine i80 (As := [.int (wI x3)]) (rest := []) c_66_78 mi_97 rfl rfl (Nat.le_of_ble_eq_true rfl) (Nat.le_of_ble_eq_true rfl) (lo (lyt_0 hx1) (by have := tw_b hx1; omega)) (q_97 hx1 r43 ?_)
      show wi (d + 13) 66 81 [.ref 67, .ref x1, .ref 54, .int (wI x3), .int (wI x4), .int (wI x5), .int (wI x6), .int (wI x7), .int (wI x8), .int (wI x6)] [.int (wI (if rt_ (σ (x1 + 11) 2) (σ (x1 + 12)) 9 3 x3 = 1 ∨ rt_ (σ (x1 + 11) 2) (σ (x1 + 12)) 9 3 x3 = 2 then 1 else 0))] S σ τ Q
      refine i36f c_66_81 rfl (fun hc => ?_) (fun hc => ?_)
      · have t := iT t hc
        have ha44 : rt_ (σ (x1 + 11) 2) (σ (x1 + 12)) 9 3 x3 = 1 ∨ rt_ (σ (x1 + 11) 2) (σ (x1 + 12)) 9 3 x3 = 2 := hc
        obtain ⟨r45, t⟩ := t
        refine i3 c_66_111 rfl (i1 c_66_113 ?_)
        refine i37 c_66_114 r45 (by decide) rfl (fun hc => ?_) (fun hc => ?_)
        · have t := iT t hc
          have ha46 : x5 = (-1) := hc
          refine i9 (L' := [.ref 67, .ref x1, .ref 54, .int (wI x3), .int (wI x4), .int (wI x5), .int (wI x6), .int (wI x7), .int (wI (x8 + 1)), .int (wI x6)]) c_66_134 rfl rfl (i38 c_66_137 rfl t)
        · have t := iF t hc
          have ha46 : ¬ (x5 = (-1)) := hc
          obtain ⟨a47, t⟩ := t
          obtain ⟨p48, t⟩ := t
          obtain ⟨p49, t⟩ := t
          obtain ⟨p50, t⟩ := t
          obtain ⟨p51, t⟩ := t
          obtain ⟨p52, t⟩ := t
          obtain ⟨p53, t⟩ := t
          refine i5 c_66_117 rfl (i5 c_66_118 rfl (i3 c_66_119 rfl (i3 c_66_120 rfl (i5 c_66_122 rfl (i3 c_66_123 rfl (i3 c_66_124 rfl (i3 c_66_126 rfl ?_)))))))
          refine i80 (As := [.int (wI x3), .int (wI x6), .int (wI x5)]) (rest := [.int (wI x8), .int (wI x3), .ref x1, .ref 67]) c_66_128 mi_106 rfl rfl (Nat.le_of_ble_eq_true rfl) (Nat.le_of_ble_eq_true rfl) (lo (lyt_0 hx1) (by have := tw_b hx1; omega)) (q_106 (a := a47) hx1 p48 p49 p50 p51 p52 p53 (fun v54 q55 q56 => ?_))
          have t := t v54 q55 q56
          show wi (d + 13) 66 131 [.ref 67, .ref x1, .ref 54, .int (wI x3), .int (wI x4), .int (wI x5), .int (wI x6), .int (wI x7), .int (wI x8), .int (wI x6)] [.int (wI v54), .int (wI x8), .int (wI x3), .ref x1, .ref 67] S σ τ Q
          obtain ⟨a57, t⟩ := t
          obtain ⟨m58, t⟩ := t
          obtain ⟨p59, t⟩ := t
          obtain ⟨p60, t⟩ := t
          obtain ⟨p61, t⟩ := t
          obtain ⟨p62, t⟩ := t
          obtain ⟨p63, t⟩ := t
          obtain ⟨p64, t⟩ := t
          obtain ⟨p65, t⟩ := t
          obtain ⟨p66, t⟩ := t
          obtain ⟨p67, t⟩ := t
          obtain ⟨p68, t⟩ := t
          obtain ⟨p69, t⟩ := t
          refine i80 (As := [.ref x1, .int (wI x3), .int (wI x8), .int (wI v54)]) (rest := []) c_66_131 mi_67 rfl rfl (Nat.le_of_ble_eq_true rfl) (Nat.le_of_ble_eq_true rfl) (lo (c := 67) (kd := 105) (n := 0) rfl (by decide)) (q_67 (a := a57) (m := m58) hx1 p59 p60 p61 p62 p63 p64 p65 p66 p67 p68 p69 (fun τ170 q71 => ?_))
          have t := t τ170 q71
          show wi (d + 13) 66 134 [.ref 67, .ref x1, .ref 54, .int (wI x3), .int (wI x4), .int (wI x5), .int (wI x6), .int (wI x7), .int (wI x8), .int (wI x6)] [] S (uc σ 69 (if x8 = 2 then u1 (u1 ((σ 69)) (m58 * 3 + 2) ((σ 69) (m58 * 3 + 2) + v54)) (m58 * 3 + 1) (((σ 69) (m58 * 3 + 2) + v54).tdiv 2) else (σ 69))) τ170 Q
          refine i9 (L' := [.ref 67, .ref x1, .ref 54, .int (wI x3), .int (wI x4), .int (wI x5), .int (wI x6), .int (wI x7), .int (wI (x8 + 1)), .int (wI x6)]) c_66_134 rfl rfl (i38 c_66_137 rfl t)
      · have t := iF t hc
        have ha44 : ¬ (rt_ (σ (x1 + 11) 2) (σ (x1 + 12)) 9 3 x3 = 1 ∨ rt_ (σ (x1 + 11) 2) (σ (x1 + 12)) 9 3 x3 = 2) := hc
        obtain ⟨r72, t⟩ := t
        refine i5 c_66_84 rfl (i3 c_66_85 rfl (i3 c_66_87 rfl (i3 c_66_89 rfl (i3 c_66_91 rfl (i31 c_66_93 r72 (i5 c_66_94 rfl (i45 c_66_95 (lo (lyt_0 hx1) (by have := tw_b hx1; omega)) (lro (lrt_5 hx1)) (i3 c_66_98 rfl (i1 c_66_99 (wi_ok (fun K73 => ?_)))))))))))
        refine i80 (As := [.int (wI x3), .int (wI 5)]) (rest := [.long (wJ x6), .int (wI x7), .int (wI x8), .int (wI x4), .ref 67]) c_66_100 mi_55 rfl rfl (Nat.le_of_ble_eq_true rfl) (Nat.le_of_ble_eq_true rfl) (lo (lyt_11 hx1) (by have := tw_b hx1; omega)) (q_at (ow_persons hx1) r43 (by decide) ?_)
        show wi (d + 13) 66 103 [.ref 67, .ref x1, .ref 54, .int (wI x3), .int (wI x4), .int (wI x5), .int (wI x6), .int (wI x7), .int (wI x8), .int (wI x6)] [.int (wI (rt_ (σ (x1 + 11) 2) (σ (x1 + 12)) 9 5 x3)), .long (wJ x6), .int (wI x7), .int (wI x8), .int (wI x4), .ref 67] S σ τ Q
        obtain ⟨p74, t⟩ := t
        obtain ⟨p75, t⟩ := t
        obtain ⟨p76, t⟩ := t
        obtain ⟨p77, t⟩ := t
        obtain ⟨p78, t⟩ := t
        refine i31 c_66_103 (rg_rt_ (fun k => kO_r K73 _ k) _ _ _ _) (i24 c_66_104 ?_)
        refine i80 (As := [.int (wI x4), .int (wI x8), .int (wI x7), .long (wJ (x6 * (rt_ (σ (x1 + 11) 2) (σ (x1 + 12)) 9 5 x3)))]) (rest := []) c_66_105 mi_68 rfl rfl (Nat.le_of_ble_eq_true rfl) (Nat.le_of_ble_eq_true rfl) (lo (c := 67) (kd := 105) (n := 0) rfl (by decide)) (q_68 p74 p75 p76 p77 p78 (fun τ179 q80 => ?_))
        have t := t τ179 q80
        show wi (d + 13) 66 108 [.ref 67, .ref x1, .ref 54, .int (wI x3), .int (wI x4), .int (wI x5), .int (wI x6), .int (wI x7), .int (wI x8), .int (wI x6)] [] S σ τ179 Q
        refine i38 c_66_108 rfl (i9 (L' := [.ref 67, .ref x1, .ref 54, .int (wI x3), .int (wI x4), .int (wI x5), .int (wI x6), .int (wI x7), .int (wI (x8 + 1)), .int (wI x6)]) c_66_134 rfl rfl (i38 c_66_137 rfl t))
theorem q_66 {d : Nat} {S : zS} {σ τ : zI} {Q : zQ} {tn : Nat} {p : Int} {m : Int} {a : Int → Int} (htn : tw tn) (p0 : RT σ tn a) (p1 : RX S σ a) (p2 : Jv a) (p3 : jv_T a) (p4 : 0 ≤ p ∧ p < a 4) (p5 : a (3652 + 12 * p + 4) = m ∧ 0 ≤ m) (p6 : σ 73 m = s_py a m) (p7 : (∀ k, 0 ≤ k → k < 576 → 0 ≤ τ 68 k ∧ τ 68 k ≤ 10000000000000)) (p8 : 0 ≤ σ 69 (m * 3 + 2) ∧ σ 69 (m * 3 + 2) ≤ 1000000) (t : ∀ (σ1 : zI) (τ1 : zI), ED2 τ τ1 a m p → U69 σ σ1 a m p → Q none S σ1 τ1) : wc (d + 13) 66 [.ref 67, .ref tn, .ref 54, .int (wI p), .int (wI m)] S σ τ Q := by
  have hC := jC p2
  unfold jv_C at hC
  have hl := Jl_of p2
  have tb := tw_b htn
  have hP := jP p2 p p4.1 p4.2
  have hm : 0 ≤ m ∧ m < a 1 := by omega
  have hM := jM p2 m hm.1 hm.2
  have c0 : σ tn 8 = a 0 := (tS p0).1
  have hrb := r_hours_b (age := a (3652 + 12 * p + 1)) (mill := m) (week := a 0) (known := a 0) hl p3
  refine wc_of mi_66 rfl (u_66_0 htn ?_)
  rw [vM6 p0 (r := m) hm, vP p0 p4 (by omega), vP p0 p4 (by omega), c0]
  refine ⟨by omega, by omega, a, p0, p1, hl, p3, ?_⟩
  -- one way to run
  have stp : ∀ run, 1 ≤ run → run ≤ 2 → ∀ (σ' τ' : zI), (∀ c, c ≠ 69 → σ' c = σ c) → (∀ k, 0 ≤ k → k < 576 → 0 ≤ τ' 68 k ∧ τ' 68 k ≤ 100000000000000) → (0 ≤ σ' 69 (m * 3 + 2) ∧ σ' 69 (m * 3 + 2) ≤ 1000000) → (∀ σ2 τ2, (∀ c, c ≠ 69 → σ2 c = σ' c) → (run = 1 → σ2 = σ') → (run = 2 → U69 σ' σ2 a m p) → ED τ' τ2 a m run p → ∀ y9, wi (d + 13) 66 53 [.ref 67, .ref tn, .ref 54, .int (wI p), .int (wI m), .int (wI (a (3300 + 16 * m + 7))), .int (wI (r_hours a (a (3652 + 12 * p + 1)) m (a 0) (a 0))), .int (wI (a (3652 + 12 * p + 0))), .int (wI (run + 1)), y9] [] S σ2 τ2 Q) → ∀ y9, wi (d + 13) 66 53 [.ref 67, .ref tn, .ref 54, .int (wI p), .int (wI m), .int (wI (a (3300 + 16 * m + 7))), .int (wI (r_hours a (a (3652 + 12 * p + 1)) m (a 0) (a 0))), .int (wI (a (3652 + 12 * p + 0))), .int (wI run), y9] [] S σ' τ' Q := fun run r0 r1 σ' τ' f b68 b69 out y9 => by
    have rt : RT σ' tn a := RT_σ (fun c h1 h2 => f c (by omega)) p0
    have vb := s_v_b (how := run) p2 p3 hm p4 p5.1
    have sh : s_h a p run = if run = 2 then r_hours a (a (3652 + 12 * p + 1)) m (a 0) (a 0) else (r_hours a (a (3652 + 12 * p + 1)) m (a 0) (a 0)).tdiv 2 := by
      unfold s_h
      rw [p5.1]
      by_cases c : run = 2
      · rw [if_pos c, if_neg (by omega)]
      · rw [if_neg c, if_pos (by omega)]
    have shb := s_h_b (p := p) (how := run) hl p3
    -- not a weaver
    have day : 3 ≤ a (3652 + 12 * p + 3) → (0 ≤ s_h a p run * a (3652 + 12 * p + 5) ∧ s_h a p run * a (3652 + 12 * p + 5) ≤ (1000000000 : Int)) ∧ ∀ (τ2 : zI), EA τ' τ2 m run (a (3652 + 12 * p + 0)) (s_h a p run * a (3652 + 12 * p + 5)) → ∀ y9, wi (d + 13) 66 53 [.ref 67, .ref tn, .ref 54, .int (wI p), .int (wI m), .int (wI (a (3300 + 16 * m + 7))), .int (wI (r_hours a (a (3652 + 12 * p + 1)) m (a 0) (a 0))), .int (wI (a (3652 + 12 * p + 0))), .int (wI (run + 1)), y9] [] S σ' τ2 Q := fun h3 => by
      have ev : s_v a m p run = s_h a p run * a (3652 + 12 * p + 5) := by unfold s_v; rw [if_pos h3]
      rw [← ev]
      refine ⟨by omega, fun τ2 ea => out σ' τ2 (fun _ _ => rfl) (fun _ => rfl) (fun _ => ⟨fun _ _ => rfl, ?_, fun h => h, fun _ _ => rfl⟩) ⟨ea.1, fun h h0 h1 => ?_, fun k hk => ?_⟩⟩
      · have : s_mk a m p 2 = 0 := by
          unfold s_mk
          split
          · rfl
          · rw [if_neg (by omega)]
        rw [this, Int.add_zero]
      · rw [ea.2]
        congr 1
        unfold s_e1 s_own
        rw [if_neg (show ¬ a (3652 + 12 * p + 3) = 2 by omega), if_neg (show ¬ a (3652 + 12 * p + 3) = 2 by omega)]
        by_cases c : a (3652 + 12 * p + 0) = h
        · rw [if_pos c, if_pos (by omega)]; omega
        · rw [if_neg c, if_neg (by omega)]; omega
      · rw [ea.2, if_neg (by omega), Int.add_zero]
    -- without a KIND
    have idle : (1 ≤ a (3652 + 12 * p + 3) ∧ a (3652 + 12 * p + 3) ≤ 2) → a (3300 + 16 * m + 7) = -1 → ∀ y9, wi (d + 13) 66 53 [.ref 67, .ref tn, .ref 54, .int (wI p), .int (wI m), .int (wI (a (3300 + 16 * m + 7))), .int (wI (r_hours a (a (3652 + 12 * p + 1)) m (a 0) (a 0))), .int (wI (a (3652 + 12 * p + 0))), .int (wI (run + 1)), y9] [] S σ' τ' Q := fun hw hk => by
      have z : ∀ w, s_mk a m p w = 0 := fun w => by unfold s_mk; rw [if_pos (by omega)]
      have zv : s_v a m p run = 0 := by unfold s_v; rw [if_neg (by omega), z, Int.zero_mul]
      have zo : s_own a m p run = 0 := by
        unfold s_own
        rw [zv]
        split <;> rfl
      refine out σ' τ' (fun _ _ => rfl) (fun _ => rfl) (fun _ => ⟨fun _ _ => rfl, by rw [z, Int.add_zero], fun h => h, fun _ _ => rfl⟩) ⟨fun _ _ => rfl, fun h h0 h1 => ?_, fun _ _ => rfl⟩
      have : s_e1 a m run h p = 0 := by
        unfold s_e1
        rw [zo, zv]
        repeat' split
        all_goals rfl
      rw [this, Int.add_zero]
    -- a weaver
    have wea : (1 ≤ a (3652 + 12 * p + 3) ∧ a (3652 + 12 * p + 3) ≤ 2) → a (3300 + 16 * m + 7) ≠ -1 → ∀ v, v = Int.tdiv (a (3652 + 12 * p + 7) + r_pts a p (s_h a p run)) (r_cost a (a (3300 + 16 * m + 7))) → v = s_mk a m p run ∧ ∀ τ2, ED τ' τ2 a m run p → ∀ y9, wi (d + 13) 66 53 [.ref 67, .ref tn, .ref 54, .int (wI p), .int (wI m), .int (wI (a (3300 + 16 * m + 7))), .int (wI (r_hours a (a (3652 + 12 * p + 1)) m (a 0) (a 0))), .int (wI (a (3652 + 12 * p + 0))), .int (wI (run + 1)), y9] [] S (uc σ' 69 (if run = 2 then u1 (u1 (σ' 69) (m * 3 + 2) (σ' 69 (m * 3 + 2) + v)) (m * 3 + 1) ((σ' 69 (m * 3 + 2) + v).tdiv 2) else σ' 69)) τ2 Q := fun hw hk v hv => by
      have e : v = s_mk a m p run := by rw [hv]; unfold s_mk; rw [if_neg (by omega), if_pos hw]
      refine ⟨e, fun τ2 ed => out _ τ2 (fun c hc => uc_n hc) (fun e1 => ?_) (fun e2 => ?_) ed⟩
      · rw [if_neg (by omega), uc_id]
      · rw [if_pos e2]
        refine ⟨fun c hc => uc_n hc, ?_, fun _ => ?_, fun k hk => ?_⟩
        · rw [uc_s, u1_n (by omega), u1_s, e, e2]
        · rw [uc_s, u1_s, u1_n (by omega), u1_s]
        · rw [uc_s, u1_n (by omega), u1_n (by omega)]
    clear out
    refine u_66_53 htn ?_
    rw [vP rt p4 (by omega), vP rt p4 (by omega)]
    have td : 0 ≤ (r_hours a (a (3652 + 12 * p + 1)) m (a 0) (a 0)).tdiv 2 ∧ (r_hours a (a (3652 + 12 * p + 1)) m (a 0) (a 0)).tdiv 2 ≤ 80 := by rw [Int.tdiv_eq_ediv_of_nonneg hrb.1]; omega
    refine ⟨by omega, ?_⟩
    rw [if_neg (by omega)]
    refine ifI (fun e => ?_) (fun e => ?_)
    · rw [if_pos e] at sh
      rw [sh] at day wea shb
      refine ⟨by omega, ifI (fun hw => ⟨by omega, ifI (fun hk => idle (by omega) hk _) (fun hk => ?_)⟩) (fun hw => ?_)⟩
      · refine ⟨a, rt, p2, p4, by omega, by omega, by omega, fun v hv bv => ⟨a, m, rt, p2, p3, p4, p5, by omega, by omega, (wea (by omega) hk v hv).1, (by rw [f 73 (by decide)]; exact p6), b68, b69, fun τ2 ed => (wea (by omega) hk v hv).2 τ2 ed _⟩⟩
      · have dd := day (by omega)
        exact ⟨by omega, by omega, by omega, by omega, dd.1, fun k k0 k1 => by have := b68 k k0 k1; omega, fun τ2 ea => dd.2 τ2 ea _⟩
    · rw [if_neg e] at sh
      rw [sh] at day wea shb
      refine ⟨by omega, by omega, ifI (fun hw => ⟨by omega, ifI (fun hk => idle (by omega) hk _) (fun hk => ?_)⟩) (fun hw => ?_)⟩
      · refine ⟨a, rt, p2, p4, by omega, by omega, by omega, fun v hv bv => ⟨a, m, rt, p2, p3, p4, p5, by omega, by omega, (wea (by omega) hk v hv).1, (by rw [f 73 (by decide)]; exact p6), b68, b69, fun τ2 ed => (wea (by omega) hk v hv).2 τ2 ed _⟩⟩
      · have dd := day (by omega)
        exact ⟨by omega, by omega, by omega, by omega, dd.1, fun k k0 k1 => by have := b68 k k0 k1; omega, fun τ2 ea => dd.2 τ2 ea _⟩
  have e1b := fun h => s_e1_b (how := 1) (h := h) p2 p3 hm p4 p5.1
  refine stp 1 (by omega) (by omega) σ τ (fun _ _ => rfl) (fun k k0 k1 => by have := p7 k k0 k1; omega) p8 (fun σ2 τ2 g1 g2 _ ed1 y9 => ?_) _
  have g2 := g2 rfl
  subst g2
  refine stp 2 (by omega) (by omega) σ2 τ2 (fun _ _ => rfl) (fun k k0 k1 => ?_) p8 (fun σ3 τ3 g3 _ g4 ed2 y9 => ?_) _
  · by_cases c : k < (m * 3 + 1) * 24 ∨ (m * 3 + 1) * 24 + 24 ≤ k
    · rw [ed1.2.2 k c]; have := p7 k k0 k1; omega
    · have h1 := ed1.2.1 (k - (m * 3 + 1) * 24) (by omega) (by omega)
      rw [show (m * 3 + 1) * 24 + (k - (m * 3 + 1) * 24) = k by omega] at h1
      have := e1b (k - (m * 3 + 1) * 24)
      have := p7 k k0 k1
      rw [h1]; omega
  · refine u_66_53 htn ⟨by omega, ?_⟩
    rw [if_pos (by omega)]
    exact t σ3 τ3 (ED_2 ed1 ed2) (g4 rfl)
