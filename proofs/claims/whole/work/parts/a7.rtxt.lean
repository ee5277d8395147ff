/-! ===== the reference reads a TEXT (segments printed by wip/whole, contracts own work) ===== -/
/-- fault, place, CLAUSES, code, places -/
abbrev RT5 := Int × Int × Int × List (Int × Int) × List (Int × Int)
section RDS
variable (T : Int → Int) (n b : Int)
def rdO : Nat → Int → Int → List (Int × Int) → List (Int × Int) → RT5
  | 0, m, s, _, _ => (1, s, m, [], [])
  | k + 1, m, s, L, W => if tk T n s = 1 then (0, s, m, L, W) else if (clsO T n m (b + 1 + 8 * m) L.length s).1 ≠ 0 then ((clsO T n m (b + 1 + 8 * m) L.length s).1, (clsO T n m (b + 1 + 8 * m) L.length s).2.1, m, [], []) else rdO k (m + 1) (clsO T n m (b + 1 + 8 * m) L.length s).2.1 (L ++ (clsO T n m (b + 1 + 8 * m) L.length s).2.2.1) (W ++ (clsO T n m (b + 1 + 8 * m) L.length s).2.2.2)
end RDS
def rd0 (σ : zI) : zI := uc σ 83 (u1 (u1 (u1 (u1 (u1 (σ 83) 12 (5500 + (840 * (σ 84 5)))) 13 0) 14 0) 17 0) 7 0)
/-- a whole TEXT read -/
abbrev rdX (σ : zI) : RT5 := rdO (σ 87) (σ 83 4) (5500 + (840 * (σ 84 5))) 302 0 (sk (σ 87) (σ 83 4) 0) [] []
theorem clsO_24 {T : Int → Int} {n m q c s : Int} (h : (clsO T n m q c s).1 = 0) : m ≠ 24 := by
  intro e
  unfold clsO at h
  by_cases c1 : srtO (tk T n s) = 0
  · rw [if_pos c1] at h
    exact absurd (show (1 : Int) = 0 from h) (by decide)
  · rw [if_neg c1, if_pos e] at h
    exact absurd (show (4 : Int) = 0 from h) (by decide)
-- method 258: MillTownModel.readText()I
theorem c_258_0 : pg_cd 258 0 = (5, 1, 0, 0, 0) := by decide +kernel
theorem c_258_1 : pg_cd 258 1 = (1, 3, 0, 0, 5500) := by decide +kernel
theorem c_258_4 : pg_cd 258 4 = (1, 3, 0, 0, 840) := by decide +kernel
theorem c_258_7 : pg_cd 258 7 = (5, 1, 0, 0, 0) := by decide +kernel
theorem c_258_8 : pg_cd 258 8 = (45, 12, 8, 0, 0) := by decide +kernel
theorem c_258_11 : pg_cd 258 11 = (1, 1, 0, 0, 5) := by decide +kernel
theorem c_258_12 : pg_cd 258 12 = (50, 1, 0, 0, 0) := by decide +kernel
theorem c_258_13 : pg_cd 258 13 = (12, 1, 0, 0, 0) := by decide +kernel
theorem c_258_14 : pg_cd 258 14 = (10, 1, 0, 0, 0) := by decide +kernel
theorem c_258_15 : pg_cd 258 15 = (46, 12, 171, 12, 0) := by decide +kernel
theorem c_258_18 : pg_cd 258 18 = (5, 1, 0, 0, 0) := by decide +kernel
theorem c_258_19 : pg_cd 258 19 = (1, 1, 0, 0, 0) := by decide +kernel
theorem c_258_20 : pg_cd 258 20 = (46, 12, 259, 13, 0) := by decide +kernel
theorem c_258_23 : pg_cd 258 23 = (5, 1, 0, 0, 0) := by decide +kernel
theorem c_258_24 : pg_cd 258 24 = (1, 1, 0, 0, 0) := by decide +kernel
theorem c_258_25 : pg_cd 258 25 = (46, 12, 174, 14, 0) := by decide +kernel
theorem c_258_28 : pg_cd 258 28 = (5, 1, 0, 0, 0) := by decide +kernel
theorem c_258_29 : pg_cd 258 29 = (1, 1, 0, 0, 0) := by decide +kernel
theorem c_258_30 : pg_cd 258 30 = (46, 12, 184, 17, 0) := by decide +kernel
theorem c_258_33 : pg_cd 258 33 = (5, 1, 0, 0, 0) := by decide +kernel
theorem c_258_34 : pg_cd 258 34 = (1, 1, 0, 0, 0) := by decide +kernel
theorem c_258_35 : pg_cd 258 35 = (46, 12, 134, 7, 0) := by decide +kernel
theorem c_258_38 : pg_cd 258 38 = (5, 1, 0, 0, 0) := by decide +kernel
theorem c_258_39 : pg_cd 258 39 = (80, 231, 168, 0, 0) := by decide +kernel
theorem c_258_42 : pg_cd 258 42 = (5, 1, 0, 0, 0) := by decide +kernel
theorem c_258_43 : pg_cd 258 43 = (43, 12, 144, 9, 0) := by decide +kernel
theorem c_258_46 : pg_cd 258 46 = (36, 3, 0, 0, 17) := by decide +kernel
theorem c_258_49 : pg_cd 258 49 = (5, 1, 0, 0, 0) := by decide +kernel
theorem c_258_50 : pg_cd 258 50 = (80, 257, 271, 0, 0) := by decide +kernel
theorem c_258_53 : pg_cd 258 53 = (6, 1, 0, 1, 0) := by decide +kernel
theorem c_258_54 : pg_cd 258 54 = (3, 1, 0, 1, 0) := by decide +kernel
theorem c_258_55 : pg_cd 258 55 = (36, 3, 0, 0, 5) := by decide +kernel
theorem c_258_58 : pg_cd 258 58 = (3, 1, 0, 1, 0) := by decide +kernel
theorem c_258_59 : pg_cd 258 59 = (90, 0, 0, 0, 0) := by decide +kernel
theorem c_258_60 : pg_cd 258 60 = (38, 3, 0, 0, (-18)) := by decide +kernel
theorem c_258_63 : pg_cd 258 63 = (1, 1, 0, 0, 0) := by decide +kernel
theorem c_258_64 : pg_cd 258 64 = (90, 0, 0, 0, 0) := by decide +kernel
theorem mi_258 : pg_mc 258 = 12 ∧ pg_na 258 = 0 ∧ pg_mx 258 = 2 := by decide +kernel
set_option maxRecDepth 20000 in
theorem u_258_0 {d : Nat} {S : zS} {σ τ : zI} {Q : zQ} (t : ∃ w2 : Int, wI w2 = wI (5500 + (840 * (σ 84 5))) ∧ rg w2 ∧ (TB ((uc σ 83 (u1 (u1 (u1 (u1 (u1 (σ 83) 12 w2) 13 0) 14 0) 17 0) 7 0)) 87) ((uc σ 83 (u1 (u1 (u1 (u1 (u1 (σ 83) 12 w2) 13 0) 14 0) 17 0) 7 0)) 83 4)) ∧ (0 ≤ (uc σ 83 (u1 (u1 (u1 (u1 (u1 (σ 83) 12 w2) 13 0) 14 0) 17 0) 7 0)) 83 7 ∧ (uc σ 83 (u1 (u1 (u1 (u1 (u1 (σ 83) 12 w2) 13 0) 14 0) 17 0) 7 0)) 83 7 ≤ (uc σ 83 (u1 (u1 (u1 (u1 (u1 (σ 83) 12 w2) 13 0) 14 0) 17 0) 7 0)) 83 4) ∧ ∀ (σ17 : zI) (τ18 : zI), FK (uc σ 83 (u1 (u1 (u1 (u1 (u1 (σ 83) 12 w2) 13 0) 14 0) 17 0) 7 0)) σ17 τ τ18 → TR ((uc σ 83 (u1 (u1 (u1 (u1 (u1 (σ 83) 12 w2) 13 0) 14 0) 17 0) 7 0)) 87) ((uc σ 83 (u1 (u1 (u1 (u1 (u1 (σ 83) 12 w2) 13 0) 14 0) 17 0) 7 0)) 83 4) (sk ((uc σ 83 (u1 (u1 (u1 (u1 (u1 (σ 83) 12 w2) 13 0) 14 0) 17 0) 7 0)) 87) ((uc σ 83 (u1 (u1 (u1 (u1 (u1 (σ 83) 12 w2) 13 0) 14 0) 17 0) 7 0)) 83 4) ((uc σ 83 (u1 (u1 (u1 (u1 (u1 (σ 83) 12 w2) 13 0) 14 0) 17 0) 7 0)) 83 7)) σ17 τ18 → wi (d + 14) 258 42 [.ref 83, .retAddr 0] [] S σ17 τ18 Q) : wi (d + 14) 258 0 [.ref 83, .retAddr 0] [] S σ τ Q := by
  refine i5 c_258_0 rfl (i1 c_258_1 (i1 c_258_4 (i5 c_258_7 rfl (i45 c_258_8 (lo (c := 83) (kd := 112) (n := 0) rfl (by decide)) (lro (c := 83) (k := 0) (j := 84) (by decide)) (i1 c_258_11 (wi_ok (fun K1 => ?_)))))))
  obtain ⟨w2, e3, r4, t⟩ := t
  obtain ⟨p5, t⟩ := t
  obtain ⟨p6, t⟩ := t
  refine i50 (v := σ 84 5) c_258_12 (lo (c := 84) (kd := 0) (n := 112300) rfl (by decide)) (by decide) (by decide) rfl (i12 c_258_13 (i10 c_258_14 (i46 (σ1 := uc σ 83 (u1 (σ 83) 12 w2)) c_258_15 (lo (c := 83) (kd := 112) (n := 0) rfl (by decide)) (by decide) e3 r4 (wr_ rfl rfl) (i5 c_258_18 rfl (i1 c_258_19 (i46 (σ1 := uc σ 83 (u1 (u1 (σ 83) 12 w2) 13 0)) c_258_20 (lo (c := 83) (kd := 112) (n := 0) rfl (by decide)) (by decide) rfl (by decide) (wr_ (uc_s _ _ _) (uc_uc _ _ _ _)) (i5 c_258_23 rfl (i1 c_258_24 (i46 (σ1 := uc σ 83 (u1 (u1 (u1 (σ 83) 12 w2) 13 0) 14 0)) c_258_25 (lo (c := 83) (kd := 112) (n := 0) rfl (by decide)) (by decide) rfl (by decide) (wr_ (uc_s _ _ _) (uc_uc _ _ _ _)) (i5 c_258_28 rfl (i1 c_258_29 (i46 (σ1 := uc σ 83 (u1 (u1 (u1 (u1 (σ 83) 12 w2) 13 0) 14 0) 17 0)) c_258_30 (lo (c := 83) (kd := 112) (n := 0) rfl (by decide)) (by decide) rfl (by decide) (wr_ (uc_s _ _ _) (uc_uc _ _ _ _)) (i5 c_258_33 rfl (i1 c_258_34 (i46 (σ1 := uc σ 83 (u1 (u1 (u1 (u1 (u1 (σ 83) 12 w2) 13 0) 14 0) 17 0) 7 0)) c_258_35 (lo (c := 83) (kd := 112) (n := 0) rfl (by decide)) (by decide) rfl (by decide) (wr_ (uc_s _ _ _) (uc_uc _ _ _ _)) (i5 c_258_38 rfl ?_))))))))))))))))
  refine i80 (As := []) (rest := []) c_258_39 mi_231 rfl rfl (Nat.le_of_ble_eq_true rfl) (Nat.le_of_ble_eq_true rfl) (lo (c := 83) (kd := 112) (n := 0) rfl (by decide)) (q_231 p5 p6 (fun σ17 τ18 q9 q10 => ?_))
  have t := t σ17 τ18 q9 q10
  show wi (d + 14) 258 42 [.ref 83, .retAddr 0] [] S σ17 τ18 Q
  exact t
set_option maxRecDepth 20000 in
theorem u_258_42 {d : Nat} {S : zS} {σ τ : zI} {Q : zQ} {y1 : Value} (t : if (σ 83 9) = 0 then (Q (some (.int (wI 0))) S σ τ) else (∃ T3 : Int → Int, ∃ n4 : Int, ∃ s5 : Int, (TB T3 n4) ∧ (TR T3 n4 s5 σ τ) ∧ (EB σ) ∧ (σ 83 14 ≤ s5) ∧ (σ 83 17 = 0) ∧ (0 ≤ σ 83 13 ∧ σ 83 13 ≤ 24) ∧ ∀ (σ112 : zI) (τ113 : zI), 0 ≤ (clsO T3 n4 (σ 83 13) (((σ 83 12) + 1) + (8 * (σ 83 13))) (σ 83 14) s5).1 ∧ (clsO T3 n4 (σ 83 13) (((σ 83 12) + 1) + (8 * (σ 83 13))) (σ 83 14) s5).1 ≤ 4 → CF T3 n4 σ τ (clsO T3 n4 (σ 83 13) (((σ 83 12) + 1) + (8 * (σ 83 13))) (σ 83 14) s5) σ112 τ113 → (rg ((clsO T3 n4 (σ 83 13) (((σ 83 12) + 1) + (8 * (σ 83 13))) (σ 83 14) s5).1)) ∧ if ((clsO T3 n4 (σ 83 13) (((σ 83 12) + 1) + (8 * (σ 83 13))) (σ 83 14) s5).1) = 0 then (wi (d + 14) 258 42 [.ref 83, .int (wI ((clsO T3 n4 (σ 83 13) (((σ 83 12) + 1) + (8 * (σ 83 13))) (σ 83 14) s5).1))] [] S σ112 τ113 Q) else (Q (some (.int (wI ((clsO T3 n4 (σ 83 13) (((σ 83 12) + 1) + (8 * (σ 83 13))) (σ 83 14) s5).1)))) S σ112 τ113))) : wi (d + 14) 258 42 [.ref 83, y1] [] S σ τ Q := by
  refine i5 c_258_42 rfl (wi_ok (fun K1 => ?_))
  refine i43 (v := σ 83 9) c_258_43 (lo (c := 83) (kd := 112) (n := 0) rfl (by decide)) rfl ?_
  refine i36 c_258_46 (rge_ K1 rfl) rfl (fun hc => ?_) (fun hc => ?_)
  · have t := iT t hc
    have ha2 : (σ 83 9) = 0 := hc
    refine i1 c_258_63 ?_
    exact i90 c_258_64 t
  · have t := iF t hc
    have ha2 : ¬ ((σ 83 9) = 0) := hc
    obtain ⟨T3, t⟩ := t
    obtain ⟨n4, t⟩ := t
    obtain ⟨s5, t⟩ := t
    obtain ⟨p6, t⟩ := t
    obtain ⟨p7, t⟩ := t
    obtain ⟨p8, t⟩ := t
    obtain ⟨p9, t⟩ := t
    obtain ⟨p10, t⟩ := t
    obtain ⟨p11, t⟩ := t
    refine i5 c_258_49 rfl ?_
    refine i80 (As := []) (rest := []) c_258_50 mi_257 rfl rfl (Nat.le_of_ble_eq_true rfl) (Nat.le_of_ble_eq_true rfl) (lo (c := 83) (kd := 112) (n := 0) rfl (by decide)) (q_257 (T := T3) (n := n4) (s := s5) p6 p7 p8 p9 p10 p11 (fun σ112 τ113 q14 q15 => ?_))
    have t := t σ112 τ113 q14 q15
    show wi (d + 14) 258 53 [.ref 83, y1] [.int (wI ((clsO T3 n4 (σ 83 13) (((σ 83 12) + 1) + (8 * (σ 83 13))) (σ 83 14) s5).1))] S σ112 τ113 Q
    obtain ⟨r16, t⟩ := t
    refine i6 (L' := [.ref 83, .int (wI ((clsO T3 n4 (σ 83 13) (((σ 83 12) + 1) + (8 * (σ 83 13))) (σ 83 14) s5).1))]) c_258_53 rfl (i3 c_258_54 rfl ?_)
    refine i36 c_258_55 r16 rfl (fun hc => ?_) (fun hc => ?_)
    · have t := iT t hc
      have ha17 : ((clsO T3 n4 (σ 83 13) (((σ 83 12) + 1) + (8 * (σ 83 13))) (σ 83 14) s5).1) = 0 := hc
      refine i38 c_258_60 rfl t
    · have t := iF t hc
      have ha17 : ¬ (((clsO T3 n4 (σ 83 13) (((σ 83 12) + 1) + (8 * (σ 83 13))) (σ 83 14) s5).1) = 0) := hc
      refine i3 c_258_58 rfl ?_
      exact i90 c_258_59 t
theorem q_258 {d : Nat} {S : zS} {σ τ : zI} {Q : zQ} (p0 : TB (σ 87) (σ 83 4)) (p1 : 0 ≤ σ 84 5 ∧ σ 84 5 ≤ 19) (t : ∀ (σ1 : zI) (τ1 : zI), 0 ≤ (rdX σ).1 ∧ (rdX σ).1 ≤ 4 → TR (σ 87) (σ 83 4) (rdX σ).2.1 σ1 τ1 → ((rdX σ).1 = 0 → PGc (rd0 σ) σ1 τ τ1 (rdX σ).2.2.2.1 (rdX σ).2.2.2.2 (rdX σ).2.2.1 ∧ 0 ≤ (rdX σ).2.2.1 ∧ (rdX σ).2.2.1 ≤ 24 ∧ ((rdX σ).2.2.2.1.length : Int) ≤ 300) → (∃ L W e, PGc (rd0 σ) σ1 τ τ1 L W e ∧ σ1 83 14 ≤ 310) → Q (some (.int (wI ((rdX σ).1)))) S σ1 τ1) : wc (d + 14) 258 [.ref 83] S σ τ Q := by
  obtain ⟨T, hT⟩ : ∃ T, T = σ 87 := ⟨_, rfl⟩
  obtain ⟨n, hn⟩ : ∃ n, n = σ 83 4 := ⟨_, rfl⟩
  obtain ⟨b, hb⟩ : ∃ b, b = 5500 + 840 * σ 84 5 := ⟨_, rfl⟩
  have pT : TB T n := by rw [hT, hn]; exact p0
  have n3 := pT.1.2
  have hX : rdX σ = rdO T n b 302 0 (sk T n 0) [] [] := by rw [hT, hn, hb]
  have fin : ∀ (X : RT5) (σ1 τ1 : zI), rdX σ = X → 0 ≤ X.1 ∧ X.1 ≤ 4 → TR T n X.2.1 σ1 τ1 → (X.1 = 0 → PGc (rd0 σ) σ1 τ τ1 X.2.2.2.1 X.2.2.2.2 X.2.2.1 ∧ 0 ≤ X.2.2.1 ∧ X.2.2.1 ≤ 24 ∧ (X.2.2.2.1.length : Int) ≤ 300) → (∃ L W e, PGc (rd0 σ) σ1 τ τ1 L W e ∧ σ1 83 14 ≤ 310) → Q (some (.int (wI X.1))) S σ1 τ1 := by
    intro X σ1 τ1 h r tr ok gen
    have h1 := t σ1 τ1
    rw [h, ← hT, ← hn] at h1
    exact h1 r tr ok gen
  have z12 : rd0 σ 83 12 = b := by unfold rd0; rw [uc_s, u1_n (by omega), u1_n (by omega), u1_n (by omega), u1_n (by omega), u1_s, hb]
  have z13 : rd0 σ 83 13 = 0 := by unfold rd0; rw [uc_s, u1_n (by omega), u1_n (by omega), u1_n (by omega), u1_s]
  have z14 : rd0 σ 83 14 = 0 := by unfold rd0; rw [uc_s, u1_n (by omega), u1_n (by omega), u1_s]
  have z17 : rd0 σ 83 17 = 0 := by unfold rd0; rw [uc_s, u1_n (by omega), u1_s]
  have z7 : rd0 σ 83 7 = 0 := by unfold rd0; rw [uc_s, u1_s]
  have z4 : rd0 σ 83 4 = n := by unfold rd0; rw [uc_s, u1_n (by omega), u1_n (by omega), u1_n (by omega), u1_n (by omega), u1_n (by omega), hn]
  have z87 : rd0 σ 87 = T := by unfold rd0; rw [uc_n (by decide), hT]
  have b0 : 0 ≤ rd0 σ 83 14 := by omega
  have lp : ∀ (k : Nat) (m s : Int) (L W : List (Int × Int)) (σ' τ' : zI) (y : Value), n - s < k → rdX σ = rdO T n b k m s L W → 0 ≤ m ∧ m ≤ 24 → TR T n s σ' τ' → PGc (rd0 σ) σ' τ τ' L W m → σ' 83 17 = 0 → (L.length : Int) ≤ s → wi (d + 14) 258 42 [.ref 83, y] [] S σ' τ' Q := by
    intro k
    induction k with
    | zero =>
      intro m s L W σ' τ' y hk _ _ tr
      have := tr.1
      omega
    | succ k ih =>
      intro m s L W σ' τ' y hk hr hm tr pg h17 hL
      have s01 := tr.1
      have e14 : σ' 83 14 = L.length := by rw [pg.1.1, z14]; omega
      have e13 : σ' 83 13 = m := by rw [pg.2.2.2.2.2, z13]; omega
      have e12 : σ' 83 12 = b := by rw [pg.2.2.1 12 (by omega), z12]
      have r0 := (rk_tk pT s01).1.1
      refine u_258_42 (ifI (fun e => ?_) (fun e => ?_))
      · have k1 : tk T n s = 1 := r0.mp (by rw [← tr.2.2.2.2.1]; exact e)
        refine fin (0, s, m, L, W) σ' τ' (by rw [hr]; exact if_pos k1) (by show (0 : Int) ≤ 0 ∧ (0 : Int) ≤ 4; omega) tr (fun _ => ⟨pg, hm.1, hm.2, ?_⟩) ⟨L, W, m, pg, by omega⟩
        show (L.length : Int) ≤ 300
        omega
      · have k1 : tk T n s ≠ 1 := fun z => e (by rw [tr.2.2.2.2.1]; exact r0.mpr z)
        refine ⟨T, n, s, pT, tr, ⟨by omega, by omega⟩, by omega, h17, by omega, ?_⟩
        rw [e12, e13, e14]
        have hr1 : rdX σ = if (clsO T n m (b + 1 + 8 * m) L.length s).1 ≠ 0 then ((clsO T n m (b + 1 + 8 * m) L.length s).1, (clsO T n m (b + 1 + 8 * m) L.length s).2.1, m, [], []) else rdO T n b k (m + 1) (clsO T n m (b + 1 + 8 * m) L.length s).2.1 (L ++ (clsO T n m (b + 1 + 8 * m) L.length s).2.2.1) (W ++ (clsO T n m (b + 1 + 8 * m) L.length s).2.2.2) := by
          rw [hr]
          conv => lhs; unfold rdO
          exact if_neg k1
        have ck := clsO_k (T := T) n3 (m := m) (q := b + 1 + 8 * m) (c := L.length) (s := s) s01.1
        have c24 := clsO_24 (T := T) (n := n) (m := m) (q := b + 1 + 8 * m) (c := L.length) (s := s)
        generalize clsO T n m (b + 1 + 8 * m) L.length s = R at hr1 ck c24 ⊢
        intro σ2 τ2 rb cf
        obtain ⟨tr2, ok, L2, W2, e2, pg2, b2⟩ := cf
        refine ⟨by omega, ifI (fun c => ?_) (fun c => ?_)⟩
        · obtain ⟨pgR, g17⟩ := ok c
          have c1 := ck c
          have := c24 c
          rw [if_neg (show ¬ R.1 ≠ 0 by omega)] at hr1
          refine ih (m + 1) R.2.1 _ _ σ2 τ2 _ (by omega) hr1 (by omega) tr2 (PGc_t pg pgR b0) (by rw [g17]; exact h17) ?_
          rw [List.length_append]
          omega
        · rw [if_pos (show R.1 ≠ 0 from c)] at hr1
          exact fin (R.1, R.2.1, m, [], []) σ2 τ2 hr1 rb tr2 (fun z => absurd z c) ⟨_, _, _, PGc_t pg pg2 b0, b2⟩
  refine wc_of mi_258 rfl (u_258_0 ⟨5500 + (840 * (σ 84 5)), rfl, by omega, ?_⟩)
  rw [← show rd0 σ = uc σ 83 (u1 (u1 (u1 (u1 (u1 (σ 83) 12 (5500 + (840 * (σ 84 5)))) 13 0) 14 0) 17 0) 7 0) from rfl]
  refine ⟨by rw [z87, z4]; exact pT, by rw [z7, z4]; have := pT.1; omega, fun σ2 τ2 fk tr => ?_⟩
  rw [z87, z4, z7] at tr
  have ts := tr.1
  refine lp 302 0 (sk T n 0) [] [] σ2 τ2 _ (by omega) hX (by omega) tr (PGc_P (PF_F fk)) (by rw [fk.2.1 17 (by omega)]; exact z17) ?_
  rw [List.length_nil]
  exact ts.1
