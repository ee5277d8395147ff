/-! ===== the reference reads a TEXT (segments printed by wip/whole, contracts own work) ===== -/
/-- fault, place, CLAUSES, code, places -/
abbrev RT5 := Int × Int × Int × List (Int × Int) × List (Int × Int)
section RDS
variable (T : Int → Int) (n b : Int)
def rdO : Nat → Int → Int → List (Int × Int) → List (Int × Int) → RT5
  | 0, m, s, _, _ => (1, s, m, [], [])
  | k + 1, m, s, L, W => if tk T n s = 1 then (0, s, m, L, W) else if (clsO T n m (b + 1 + 8 * m) L.length s).1 ≠ 0 then ((clsO T n m (b + 1 + 8 * m) L.length s).1, (clsO T n m (b + 1 + 8 * m) L.length s).2.1, m, [], []) else rdO k (m + 1) (clsO T n m (b + 1 + 8 * m) L.length s).2.1 (L ++ (clsO T n m (b + 1 + 8 * m) L.length s).2.2.1) (W ++ (clsO T n m (b + 1 + 8 * m) L.length s).2.2.2)
end RDS
def rd0 (σ : zI) : zI := uc σ 83 (u1 (u1 (u1 (u1 (u1 (σ 83) 12 (5500 + (840 * (σ 84 5)))) 13 0) 14 0) 17 0) 7 0)
/-- a whole TEXT read -/
abbrev rdX (σ : zI) : RT5 := rdO (σ 87) (σ 83 4) (5500 + (840 * (σ 84 5))) 302 0 (sk (σ 87) (σ 83 4) 0) [] []
theorem clsO_24 {T : Int → Int} {n m q c s : Int} (h : (clsO T n m q c s).1 = 0) : m ≠ 24 := by
  intro e
  unfold clsO at h
  by_cases c1 : srtO (tk T n s) = 0
  · rw [if_pos c1] at h
    exact absurd (show (1 : Int) = 0 from h) (by decide)
  · rw [if_neg c1, if_pos e] at h
    exact absurd (show (4 : Int) = 0 from h) (by decide)
-- method 258: MillTownModel.readText()I
theorem c_258_0 : pg_cd 258 0 = (5, 1, 0, 0, 0) := by decide +kernel
theorem c_258_1 : pg_cd 258 1 = (1, 3, 0, 0, 5500) := by decide +kernel
theorem c_258_4 : pg_cd 258 4 = (1, 3, 0, 0, 840) := by decide +kernel
theorem c_258_7 : pg_cd 258 7 = (5, 1, 0, 0, 0) := by decide +kernel
theorem c_258_8 : pg_cd 258 8 = (45, 12, 8, 0, 0) := by decide +kernel
theorem c_258_11 : pg_cd 258 11 = (1, 1, 0, 0, 5) := by decide +kernel
theorem c_258_12 : pg_cd 258 12 = (50, 1, 0, 0, 0) := by decide +kernel
theorem c_258_13 : pg_cd 258 13 = (12, 1, 0, 0, 0) := by decide +kernel
theorem c_258_14 : pg_cd 258 14 = (10, 1, 0, 0, 0) := by decide +kernel
theorem c_258_15 : pg_cd 258 15 = (46, 12, 171, 12, 0) := by decide +kernel
theorem c_258_18 : pg_cd 258 18 = (5, 1, 0, 0, 0) := by decide +kernel
theorem c_258_19 : pg_cd 258 19 = (1, 1, 0, 0, 0) := by decide +kernel
theorem c_258_20 : pg_cd 258 20 = (46, 12, 259, 13, 0) := by decide +kernel
theorem c_258_23 : pg_cd 258 23 = (5, 1, 0, 0, 0) := by decide +kernel
theorem c_258_24 : pg_cd 258 24 = (1, 1, 0, 0, 0) := by decide +kernel
theorem c_258_25 : pg_cd 258 25 = (46, 12, 174, 14, 0) := by decide +kernel
theorem c_258_28 : pg_cd 258 28 = (5, 1, 0, 0, 0) := by decide +kernel
theorem c_258_29 : pg_cd 258 29 = (1, 1, 0, 0, 0) := by decide +kernel
theorem c_258_30 : pg_cd 258 30 = (46, 12, 184, 17, 0) := by decide +kernel
theorem c_258_33 : pg_cd 258 33 = (5, 1, 0, 0, 0) := by decide +kernel
theorem c_258_34 : pg_cd 258 34 = (1, 1, 0, 0, 0) := by decide +kernel
theorem c_258_35 : pg_cd 258 35 = (46, 12, 134, 7, 0) := by decide +kernel
theorem c_258_38 : pg_cd 258 38 = (5, 1, 0, 0, 0) := by decide +kernel
theorem c_258_39 : pg_cd 258 39 = (80, 231, 168, 0, 0) := by decide +kernel
theorem c_258_42 : pg_cd 258 42 = (5, 1, 0, 0, 0) := by decide +kernel
theorem c_258_43 : pg_cd 258 43 = (43, 12, 144, 9, 0) := by decide +kernel
theorem c_258_46 : pg_cd 258 46 = (36, 3, 0, 0, 17) := by decide +kernel
theorem c_258_49 : pg_cd 258 49 = (5, 1, 0, 0, 0) := by decide +kernel
theorem c_258_50 : pg_cd 258 50 = (80, 257, 271, 0, 0) := by decide +kernel
theorem c_258_53 : pg_cd 258 53 = (6, 1, 0, 1, 0) := by decide +kernel
theorem c_258_54 : pg_cd 258 54 = (3, 1, 0, 1, 0) := by decide +kernel
theorem c_258_55 : pg_cd 258 55 = (36, 3, 0, 0, 5) := by decide +kernel
theorem c_258_58 : pg_cd 258 58 = (3, 1, 0, 1, 0) := by decide +kernel
theorem c_258_59 : pg_cd 258 59 = (90, 0, 0, 0, 0) := by decide +kernel
theorem c_258_60 : pg_cd 258 60 = (38, 3, 0, 0, (-18)) := by decide +kernel
theorem c_258_63 : pg_cd 258 63 = (1, 1, 0, 0, 0) := by decide +kernel
theorem c_258_64 : pg_cd 258 64 = (90, 0, 0, 0, 0) := by decide +kernel
theorem mi_258 : pg_mc 258 = 12 ∧ pg_na 258 = 0 ∧ pg_mx 258 = 2 := by decide +kernel
set_option maxRecDepth 20000 in
theorem u_258_0 {d : Nat} {S : zS} {σ τ : zI} {Q : zQ} (t : ∃ w2 : Int, wI w2 = wI (5500 + (840 * (σ 84 5))) ∧ rg w2 ∧ (TB ((uc σ 83 (u1 (u1 (u1 (u1 (u1 (σ 83) 12 w2) 13 0) 14 0) 17 0) 7 0)) 87) ((uc σ 83 (u1 (u1 (u1 (u1 (u1 (σ 83) 12 w2) 13 0) 14 0) 17 0) 7 0)) 83 4)) ∧ (0 ≤ (uc σ 83 (u1 (u1 (u1 (u1 (u1 (σ 83) 12 w2) 13 0) 14 0) 17 0) 7 0)) 83 7 ∧ (uc σ 83 (u1 (u1 (u1 (u1 (u1 (σ 83) 12 w2) 13 0) 14 0) 17 0) 7 0)) 83 7 ≤ (uc σ 83 (u1 (u1 (u1 (u1 (u1 (σ 83) 12 w2) 13 0) 14 0) 17 0) 7 0)) 83 4) ∧ ∀ (σ17 : zI) (τ18 : zI), FK (uc σ 83 (u1 (u1 (u1 (u1 (u1 (σ 83) 12 w2) 13 0) 14 0) 17 0) 7 0)) σ17 τ τ18 → TR ((uc σ 83 (u1 (u1 (u1 (u1 (u1 (σ 83) 12 w2) 13 0) 14 0) 17 0) 7 0)) 87) ((uc σ 83 (u1 (u1 (u1 (u1 (u1 (σ 83) 12 w2) 13 0) 14 0) 17 0) 7 0)) 83 4) (sk ((uc σ 83 (u1 (u1 (u1 (u1 (u1 (σ 83) 12 w2) 13 0) 14 0) 17 0) 7 0)) 87) ((uc σ 83 (u1 (u1 (u1 (u1 (u1 (σ 83) 12 w2) 13 0) 14 0) 17 0) 7 0)) 83 4) ((uc σ 83 (u1 (u1 (u1 (u1 (u1 (σ 83) 12 w2) 13 0) 14 0) 17 0) 7 0)) 83 7)) σ17 τ18 → wi (d + 14) 258 42 [.ref 83, .retAddr 0] [] S σ17 τ18 Q) : wi (d + 14) 258 0 [.ref 83, .retAddr 0] [] S σ τ Q := by
  refine i5 c_258_0 rfl (i1 c_258_1 (i1 c_258_4 (i5 c_258_7 rfl (i45 c_258_8 (lo (c := 83) (kd := 112) (n := 0) rfl (by decide)) (lro (c := 83) (k := 0) (j := 84) (by decide)) (i1 c_258_11 (wi_ok (fun K1 => ?_)))))))
  obtain ⟨w2, e3, r4, t⟩ := t
  obtain ⟨p5, t⟩ := t
  obtain ⟨p6, t⟩ := t
  refine i50 (v := σ 84 5) c_258_12 (lo (c := 84) (kd := 0) (n := 112300) rfl (by decide)) (by decide) (by decide) rfl (i12 c_258_13 (i10 c_258_14 (i46 (σ1 := uc σ 83 (u1 (σ 83) 12 w2)) c_258_15 (lo (c := 83) (kd := 112) (n := 0) rfl (by decide)) (by decide) e3 r4 (wr_ rfl rfl) (i5 c_258_18 rfl (i1 c_258_19 (i46 (σ1 := uc σ 83 (u1 (u1 (σ 83) 12 w2) 13 0)) c_258_20 (lo (c := 83) (kd := 112) (n := 0) rfl (by decide)) (by decide) rfl (by decide) (wr_ (uc_s _ _ _) (uc_uc _ _ _ _)) (i5 c_258_23 rfl (i1 c_258_24 (i46 (σ1 := uc σ 83 (u1 (u1 (u1 (σ 83) 12 w2) 13 0) 14 0)) c_258_25 (lo (c := 83) (kd := 112) (n := 0) rfl (by decide)) (by decide) rfl (by decide) (wr_ (uc_s _ _ _) (uc_uc _ _ _ _)) (i5 c_258_28 rfl (i1 c_258_29 (i46 (σ1 := uc σ 83 (u1 (u1 (u1 (u1 (σ 83) 12 w2) 13 0) 14 0) 17 0)) c_258_30 (lo (c := 83) (kd := 112) (n := 0) rfl (by decide)) (by decide) rfl (by decide) (wr_ (uc_s _ _ _) (uc_uc _ _ _ _)) (i5 c_258_33 rfl (i1 c_258_34 (i46 (σ1 := uc σ 83 (u1 (u1 (u1 (u1 (u1 (σ 83) 12 w2) 13 0) 14 0) 17 0) 7 0)) c_258_35 (lo (c := 83) (kd := 112) (n := 0) rfl (by decide)) (by decide) rfl (by decide) (wr_ (uc_s _ _ _) (uc_uc _ _ _ _)) (i5 c_258_38 rfl ?_))))))))))))))))
  refine i80 (As := []) (rest := []) c_258_39 mi_231 rfl rfl (Nat.le_of_ble_eq_true rfl) (Nat.le_of_ble_eq_true rfl) (lo (c := 83) (kd := 112) (n := 0) rfl (by decide)) (q_231 p5 p6 (fun σ17 τ18 q9 q10 => ?_))
  have t := t σ17 τ18 q9 q10
  show wi (d + 14) 258 42 [.ref 83, .retAddr 0] [] S σ17 τ18 Q
  exact t
set_option maxRecDepth 20000 in
theorem u_258_42 {d : Nat} {S : zS} {σ τ : zI} {Q : zQ} {y1 : Value} (t : if (σ 83 9) = 0 then (Q (some (.int (wI 0))) S σ τ) else (∃ T3 : Int → Int, ∃ n4 : Int, ∃ s5 : Int, (TB T3 n4) ∧ (TR T3 n4 s5 σ τ) ∧ (EB σ) ∧ (σ 83 14 ≤ s5) ∧ (σ 83 17 = 0) ∧ (0 ≤ σ 83 13 ∧ σ 83 13 ≤ 24) ∧ ∀ (σ112 : zI) (τ113 : zI), 0 ≤ (clsO T3 n4 (σ 83 13) (((σ 83 12) + 1) + (8 * (σ 83 13))) (σ 83 14) s5).1 ∧ (clsO T3 n4 (σ 83 13) (((σ 83 12) + 1) + (8 * (σ 83 13))) (σ 83 14) s5).1 ≤ 4 → CF T3 n4 σ τ (clsO T3 n4 (σ 83 13) (((σ 83 12) + 1) + (8 * (σ 83 13))) (σ 83 14) s5) σ112 τ113 → (rg ((clsO T3 n4 (σ 83 13) (((σ 83 12) + 1) + (8 * (σ 83 13))) (σ 83 14) s5).1)) ∧ if ((clsO T3 n4 (σ 83 13) (((σ 83 12) + 1) + (8 * (σ 83 13))) (σ 83 14) s5).1) = 0 then (wi (d + 14) 258 42 [.ref 83, .int (wI ((clsO T3 n4 (σ 83 13) (((σ 83 12) + 1) + (8 * (σ 83 13))) (σ 83 14) s5).1))] [] S σ112 τ113 Q) else (Q (some (.int (wI ((clsO T3 n4 (σ 83 13) (((σ 83 12) + 1) + (8 * (σ 83 13))) (σ 83 14) s5).1)))) S σ112 τ113))) : wi (d + 14) 258 42 [.ref 83, y1] [] S σ τ Q := by
  refine i5 c_258_42 rfl (wi_ok (fun K1 => ?_))
  refine i43 (v := σ 83 9) c_258_43 (lo (c := 83) (kd := 112) (n := 0) rfl (by decide)) rfl ?_
  refine i36 c_258_46 (rge_ K1 rfl) rfl (fun hc => ?_) (fun hc => ?_)
  · have t := iT t hc
    have ha2 : (σ 83 9) = 0 := hc
    refine i1 c_258_63 ?_
    exact i90 c_258_64 t
  · have t := iF t hc
    have ha2 : ¬ ((σ 83 9) = 0) := hc
    obtain ⟨T3, t⟩ := t
    obtain ⟨n4, t⟩ := t
    obtain ⟨s5, t⟩ := t
    obtain ⟨p6, t⟩ := t
    obtain ⟨p7, t⟩ := t
    obtain ⟨p8, t⟩ := t
    obtain ⟨p9, t⟩ := t
    obtain ⟨p10, t⟩ := t
    obtain ⟨p11, t⟩ := t
    refine i5 c_258_49 rfl ?_
    refine i80 (As := []) (rest := []) c_258_50 mi_257 rfl rfl (Nat.le_of_ble_eq_true rfl) (Nat.le_of_ble_eq_true rfl) (lo (c := 83) (kd := 112) (n := 0) rfl (by decide)) (q_257 (T := T3) (n := n4) (s := s5) p6 p7 p8 p9 p10 p11 (fun σ112 τ113 q14 q15 => ?_))
    have t := t σ112 τ113 q14 q15
    show wi (d + 14) 258 53 [.ref 83, y1] [.int (wI ((clsO T3 n4 (σ 83 13) (((σ 83 12) + 1) + (8 * (σ 83 13))) (σ 83 14) s5).1))] S σ112 τ113 Q
    obtain ⟨r16, t⟩ := t
    refine i6 (L' := [.ref 83, .int (wI ((clsO T3 n4 (σ 83 13) (((σ 83 12) + 1) + (8 * (σ 83 13))) (σ 83 14) s5).1))]) c_258_53 rfl (i3 c_258_54 rfl ?_)
    refine i36 c_258_55 r16 rfl (fun hc => ?_) (fun hc => ?_)
    · have t := iT t hc
      have ha17 : ((clsO T3 n4 (σ 83 13) (((σ 83 12) + 1) + (8 * (σ 83 13))) (σ 83 14) s5).1) = 0 := hc
      refine i38 c_258_60 rfl t
    · have t := iF t hc
      have ha17 : ¬ (((clsO T3 n4 (σ 83 13) (((σ 83 12) + 1) + (8 * (σ 83 13))) (σ 83 14) s5).1) = 0) := hc
      refine i3 c_258_58 rfl ?_
      exact i90 c_258_59 t
theorem q_258 {d : Nat} {S : zS} {σ τ : zI} {Q : zQ} (p0 : TB (σ 87) (σ 83 4)) (p1 : 0 ≤ σ 84 5 ∧ σ 84 5 ≤ 19) (t : ∀ (σ1 : zI) (τ1 : zI), 0 ≤ (rdX σ).1 ∧ (rdX σ).1 ≤ 4 → TR (σ 87) (σ 83 4) (rdX σ).2.1 σ1 τ1 → ((rdX σ).1 = 0 → PGc (rd0 σ) σ1 τ τ1 (rdX σ).2.2.2.1 (rdX σ).2.2.2.2 (rdX σ).2.2.1 ∧ 0 ≤ (rdX σ).2.2.1 ∧ (rdX σ).2.2.1 ≤ 24 ∧ ((rdX σ).2.2.2.1.length : Int) ≤ 300) → (∃ L W e, PGc (rd0 σ) σ1 τ τ1 L W e ∧ σ1 83 14 ≤ 310) → Q (some (.int (wI ((rdX σ).1)))) S σ1 τ1) : wc (d + 14) 258 [.ref 83] S σ τ Q := by
  obtain ⟨T, hT⟩ : ∃ T, T = σ 87 := ⟨_, rfl⟩
  obtain ⟨n, hn⟩ : ∃ n, n = σ 83 4 := ⟨_, rfl⟩
  obtain ⟨b, hb⟩ : ∃ b, b = 5500 + 840 * σ 84 5 := ⟨_, rfl⟩
  have pT : TB T n := by rw [hT, hn]; exact p0
  have n3 := pT.1.2
  have hX : rdX σ = rdO T n b 302 0 (sk T n 0) [] [] := by rw [hT, hn, hb]
  have fin : ∀ (X : RT5) (σ1 τ1 : zI), rdX σ = X → 0 ≤ X.1 ∧ X.1 ≤ 4 → TR T n X.2.1 σ1 τ1 → (X.1 = 0 → PGc (rd0 σ) σ1 τ τ1 X.2.2.2.1 X.2.2.2.2 X.2.2.1 ∧ 0 ≤ X.2.2.1 ∧ X.2.2.1 ≤ 24 ∧ (X.2.2.2.1.length : Int) ≤ 300) → (∃ L W e, PGc (rd0 σ) σ1 τ τ1 L W e ∧ σ1 83 14 ≤ 310) → Q (some (.int (wI X.1))) S σ1 τ1 := by
    intro X σ1 τ1 h r tr ok gen
    have h1 := t σ1 τ1
    rw [h, ← hT, ← hn] at h1
    exact h1 r tr ok gen
  have z12 : rd0 σ 83 12 = b := by unfold rd0; rw [uc_s, u1_n (by omega), u1_n (by omega), u1_n (by omega), u1_n (by omega), u1_s, hb]
  have z13 : rd0 σ 83 13 = 0 := by unfold rd0; rw [uc_s, u1_n (by omega), u1_n (by omega), u1_n (by omega), u1_s]
  have z14 : rd0 σ 83 14 = 0 := by unfold rd0; rw [uc_s, u1_n (by omega), u1_n (by omega), u1_s]
  have z17 : rd0 σ 83 17 = 0 := by unfold rd0; rw [uc_s, u1_n (by omega), u1_s]
  have z7 : rd0 σ 83 7 = 0 := by unfold rd0; rw [uc_s, u1_s]
  have z4 : rd0 σ 83 4 = n := by unfold rd0; rw [uc_s, u1_n (by omega), u1_n (by omega), u1_n (by omega), u1_n (by omega), u1_n (by omega), hn]
  have z87 : rd0 σ 87 = T := by unfold rd0; rw [uc_n (by decide), hT]
  have b0 : 0 ≤ rd0 σ 83 14 := by omega
  have lp : ∀ (k : Nat) (m s : Int) (L W : List (Int × Int)) (σ' τ' : zI) (y : Value), n - s < k → rdX σ = rdO T n b k m s L W → 0 ≤ m ∧ m ≤ 24 → TR T n s σ' τ' → PGc (rd0 σ) σ' τ τ' L W m → σ' 83 17 = 0 → (L.length : Int) ≤ s → wi (d + 14) 258 42 [.ref 83, y] [] S σ' τ' Q := by
    intro k
    induction k with
    | zero =>
      intro m s L W σ' τ' y hk _ _ tr
      have := tr.1
      omega
    | succ k ih =>
      intro m s L W σ' τ' y hk hr hm tr pg h17 hL
      have s01 := tr.1
      have e14 : σ' 83 14 = L.length := by rw [pg.1.1, z14]; omega
      have e13 : σ' 83 13 = m := by rw [pg.2.2.2.2.2, z13]; omega
      have e12 : σ' 83 12 = b := by rw [pg.2.2.1 12 (by omega), z12]
      have r0 := (rk_tk pT s01).1.1
      refine u_258_42 (ifI (fun e => ?_) (fun e => ?_))
      · have k1 : tk T n s = 1 := r0.mp (by rw [← tr.2.2.2.2.1]; exact e)
        refine fin (0, s, m, L, W) σ' τ' (by rw [hr]; exact if_pos k1) (by show (0 : Int) ≤ 0 ∧ (0 : Int) ≤ 4; omega) tr (fun _ => ⟨pg, hm.1, hm.2, ?_⟩) ⟨L, W, m, pg, by omega⟩
        show (L.length : Int) ≤ 300
        omega
      · have k1 : tk T n s ≠ 1 := fun z => e (by rw [tr.2.2.2.2.1]; exact r0.mpr z)
        refine ⟨T, n, s, pT, tr, ⟨by omega, by omega⟩, by omega, h17, by omega, ?_⟩
        rw [e12, e13, e14]
        have hr1 : rdX σ = if (clsO T n m (b + 1 + 8 * m) L.length s).1 ≠ 0 then ((clsO T n m (b + 1 + 8 * m) L.length s).1, (clsO T n m (b + 1 + 8 * m) L.length s).2.1, m, [], []) else rdO T n b k (m + 1) (clsO T n m (b + 1 + 8 * m) L.length s).2.1 (L ++ (clsO T n m (b + 1 + 8 * m) L.length s).2.2.1) (W ++ (clsO T n m (b + 1 + 8 * m) L.length s).2.2.2) := by
          rw [hr]
          conv => lhs; unfold rdO
          exact if_neg k1
        have ck := clsO_k (T := T) n3 (m := m) (q := b + 1 + 8 * m) (c := L.length) (s := s) s01.1
        have c24 := clsO_24 (T := T) (n := n) (m := m) (q := b + 1 + 8 * m) (c := L.length) (s := s)
        generalize clsO T n m (b + 1 + 8 * m) L.length s = R at hr1 ck c24 ⊢
        intro σ2 τ2 rb cf
        obtain ⟨tr2, ok, L2, W2, e2, pg2, b2⟩ := cf
        refine ⟨by omega, ifI (fun c => ?_) (fun c => ?_)⟩
        · obtain ⟨pgR, g17⟩ := ok c
          have c1 := ck c
          have := c24 c
          rw [if_neg (show ¬ R.1 ≠ 0 by omega)] at hr1
          refine ih (m + 1) R.2.1 _ _ σ2 τ2 _ (by omega) hr1 (by omega) tr2 (PGc_t pg pgR b0) (by rw [g17]; exact h17) ?_
          rw [List.length_append]
          omega
        · rw [if_pos (show R.1 ≠ 0 from c)] at hr1
          exact fin (R.1, R.2.1, m, [], []) σ2 τ2 hr1 rb tr2 (fun z => absurd z c) ⟨_, _, _, PGc_t pg pg2 b0, b2⟩
  refine wc_of mi_258 rfl (u_258_0 ⟨5500 + (840 * (σ 84 5)), rfl, by omega, ?_⟩)
  rw [← show rd0 σ = uc σ 83 (u1 (u1 (u1 (u1 (u1 (σ 83) 12 (5500 + (840 * (σ 84 5)))) 13 0) 14 0) 17 0) 7 0) from rfl]
  refine ⟨by rw [z87, z4]; exact pT, by rw [z7, z4]; have := pT.1; omega, fun σ2 τ2 fk tr => ?_⟩
  rw [z87, z4, z7] at tr
  have ts := tr.1
  refine lp 302 0 (sk T n 0) [] [] σ2 τ2 _ (by omega) hX (by omega) tr (PGc_P (PF_F fk)) (by rw [fk.2.1 17 (by omega)]; exact z17) ?_
  rw [List.length_nil]
  exact ts.1
/-- what text of the reference leaves -/
def TXR (σ τ σ1 τ1 : zI) : Prop := (σ 84 5 = 20 → σ1 = σ ∧ τ1 = τ) ∧ (σ 84 5 ≠ 20 → (rdX σ).1 = 0 → ∃ σ', (PGc (rd0 σ) σ' τ τ1 (rdX σ).2.2.2.1 (rdX σ).2.2.2.2 (rdX σ).2.2.1 ∧ (0 ≤ (rdX σ).2.2.1 ∧ (rdX σ).2.2.1 ≤ 24) ∧ ((rdX σ).2.2.2.1.length : Int) ≤ 300) ∧ σ1 = uc (uc σ' 83 (u1 (u1 (u1 (σ' 83) 5 0) 6 (-1)) 4 0)) 84 (u1 (u1 (σ' 84) (5500 + 840 * σ 84 5) (rdX σ).2.2.1) 5 (σ 84 5 + 1))) ∧ (σ 84 5 ≠ 20 → (rdX σ).1 ≠ 0 → ∃ σ' L W e, PGc (rd0 σ) σ' τ τ1 L W e ∧ σ' 83 14 ≤ 310 ∧ σ1 = uc σ' 83 (u1 (u1 (u1 (σ' 83) 5 (rdX σ).1) 6 (rdX σ).2.1) 4 0))
-- method 259: MillTownModel.text()I
theorem c_259_0 : pg_cd 259 0 = (5, 1, 0, 0, 0) := by decide +kernel
theorem c_259_1 : pg_cd 259 1 = (45, 12, 8, 0, 0) := by decide +kernel
theorem c_259_4 : pg_cd 259 4 = (1, 1, 0, 0, 5) := by decide +kernel
theorem c_259_5 : pg_cd 259 5 = (50, 1, 0, 0, 0) := by decide +kernel
theorem c_259_6 : pg_cd 259 6 = (1, 2, 0, 0, 20) := by decide +kernel
theorem c_259_8 : pg_cd 259 8 = (37, 3, 0, 1, 5) := by decide +kernel
theorem c_259_11 : pg_cd 259 11 = (1, 1, 0, 0, (-1)) := by decide +kernel
theorem c_259_12 : pg_cd 259 12 = (90, 0, 0, 0, 0) := by decide +kernel
theorem c_259_13 : pg_cd 259 13 = (5, 1, 0, 0, 0) := by decide +kernel
theorem c_259_14 : pg_cd 259 14 = (5, 1, 0, 0, 0) := by decide +kernel
theorem c_259_15 : pg_cd 259 15 = (80, 258, 274, 0, 0) := by decide +kernel
theorem c_259_18 : pg_cd 259 18 = (46, 12, 23, 5, 0) := by decide +kernel
theorem c_259_21 : pg_cd 259 21 = (5, 1, 0, 0, 0) := by decide +kernel
theorem c_259_22 : pg_cd 259 22 = (5, 1, 0, 0, 0) := by decide +kernel
theorem c_259_23 : pg_cd 259 23 = (43, 12, 23, 5, 0) := by decide +kernel
theorem c_259_26 : pg_cd 259 26 = (36, 3, 0, 1, 7) := by decide +kernel
theorem c_259_29 : pg_cd 259 29 = (1, 1, 0, 0, (-1)) := by decide +kernel
theorem c_259_30 : pg_cd 259 30 = (38, 3, 0, 0, 7) := by decide +kernel
theorem c_259_33 : pg_cd 259 33 = (5, 1, 0, 0, 0) := by decide +kernel
theorem c_259_34 : pg_cd 259 34 = (43, 12, 141, 8, 0) := by decide +kernel
theorem c_259_37 : pg_cd 259 37 = (46, 12, 27, 6, 0) := by decide +kernel
theorem c_259_40 : pg_cd 259 40 = (5, 1, 0, 0, 0) := by decide +kernel
theorem c_259_41 : pg_cd 259 41 = (1, 1, 0, 0, 0) := by decide +kernel
theorem c_259_42 : pg_cd 259 42 = (46, 12, 128, 4, 0) := by decide +kernel
theorem c_259_45 : pg_cd 259 45 = (5, 1, 0, 0, 0) := by decide +kernel
theorem c_259_46 : pg_cd 259 46 = (43, 12, 23, 5, 0) := by decide +kernel
theorem c_259_49 : pg_cd 259 49 = (36, 3, 0, 0, 5) := by decide +kernel
theorem c_259_52 : pg_cd 259 52 = (1, 1, 0, 0, (-1)) := by decide +kernel
theorem c_259_53 : pg_cd 259 53 = (90, 0, 0, 0, 0) := by decide +kernel
theorem c_259_54 : pg_cd 259 54 = (5, 1, 0, 0, 0) := by decide +kernel
theorem c_259_55 : pg_cd 259 55 = (45, 12, 8, 0, 0) := by decide +kernel
theorem c_259_58 : pg_cd 259 58 = (5, 1, 0, 0, 0) := by decide +kernel
theorem c_259_59 : pg_cd 259 59 = (43, 12, 171, 12, 0) := by decide +kernel
theorem c_259_62 : pg_cd 259 62 = (5, 1, 0, 0, 0) := by decide +kernel
theorem c_259_63 : pg_cd 259 63 = (43, 12, 259, 13, 0) := by decide +kernel
theorem c_259_66 : pg_cd 259 66 = (54, 1, 0, 0, 0) := by decide +kernel
theorem c_259_67 : pg_cd 259 67 = (5, 1, 0, 0, 0) := by decide +kernel
theorem c_259_68 : pg_cd 259 68 = (45, 12, 8, 0, 0) := by decide +kernel
theorem c_259_71 : pg_cd 259 71 = (1, 1, 0, 0, 5) := by decide +kernel
theorem c_259_72 : pg_cd 259 72 = (34, 1, 0, 0, 0) := by decide +kernel
theorem c_259_73 : pg_cd 259 73 = (50, 1, 0, 0, 0) := by decide +kernel
theorem c_259_74 : pg_cd 259 74 = (1, 1, 0, 0, 1) := by decide +kernel
theorem c_259_75 : pg_cd 259 75 = (10, 1, 0, 0, 0) := by decide +kernel
theorem c_259_76 : pg_cd 259 76 = (54, 1, 0, 0, 0) := by decide +kernel
theorem c_259_77 : pg_cd 259 77 = (5, 1, 0, 0, 0) := by decide +kernel
theorem c_259_78 : pg_cd 259 78 = (45, 12, 8, 0, 0) := by decide +kernel
theorem c_259_81 : pg_cd 259 81 = (1, 1, 0, 0, 5) := by decide +kernel
theorem c_259_82 : pg_cd 259 82 = (50, 1, 0, 0, 0) := by decide +kernel
theorem c_259_83 : pg_cd 259 83 = (1, 1, 0, 0, 1) := by decide +kernel
theorem c_259_84 : pg_cd 259 84 = (11, 1, 0, 0, 0) := by decide +kernel
theorem c_259_85 : pg_cd 259 85 = (90, 0, 0, 0, 0) := by decide +kernel
theorem mi_259 : pg_mc 259 = 12 ∧ pg_na 259 = 0 ∧ pg_mx 259 = 1 := by decide +kernel
set_option maxRecDepth 20000 in
theorem u_259_0 {d : Nat} {S : zS} {σ τ : zI} {Q : zQ} (t : if (σ 84 5) = 20 then (Q (some (.int (wI (-1)))) S σ τ) else ((TB (σ 87) (σ 83 4)) ∧ (0 ≤ σ 84 5 ∧ σ 84 5 ≤ 19) ∧ ∀ (σ15 : zI) (τ16 : zI), 0 ≤ (rdX σ).1 ∧ (rdX σ).1 ≤ 4 → TR (σ 87) (σ 83 4) (rdX σ).2.1 σ15 τ16 → ((rdX σ).1 = 0 → PGc (rd0 σ) σ15 τ τ16 (rdX σ).2.2.2.1 (rdX σ).2.2.2.2 (rdX σ).2.2.1 ∧ 0 ≤ (rdX σ).2.2.1 ∧ (rdX σ).2.2.1 ≤ 24 ∧ ((rdX σ).2.2.2.1.length : Int) ≤ 300) → (∃ L W e, PGc (rd0 σ) σ15 τ τ16 L W e ∧ σ15 83 14 ≤ 310) → ∃ w11 : Int, wI w11 = wI ((rdX σ).1) ∧ rg w11 ∧ if w11 = 0 then ((0 ≤ σ15 83 12 ∧ σ15 83 12 < 112300) ∧ ((5 : Int) ≠ (σ15 83 12)) ∧ ∃ w23 : Int, wI w23 = wI ((σ15 84 5) + 1) ∧ rg w23 ∧ Q (some (.int (wI (w23 - 1)))) S (uc (uc σ15 83 (u1 (u1 (u1 (σ15 83) 5 w11) 6 (-1)) 4 0)) 84 (u1 (u1 (σ15 84) (σ15 83 12) (σ15 83 13)) 5 w23)) τ16) else (Q (some (.int (wI (-1)))) S (uc σ15 83 (u1 (u1 (u1 (σ15 83) 5 w11) 6 (σ15 83 8)) 4 0)) τ16))) : wi (d + 15) 259 0 [.ref 83] [] S σ τ Q := by
  refine i5 c_259_0 rfl (i45 c_259_1 (lo (c := 83) (kd := 112) (n := 0) rfl (by decide)) (lro (c := 83) (k := 0) (j := 84) (by decide)) (i1 c_259_4 (wi_ok (fun K1 => ?_))))
  refine i50 (v := σ 84 5) c_259_5 (lo (c := 84) (kd := 0) (n := 112300) rfl (by decide)) (by decide) (by decide) rfl (i1 c_259_6 ?_)
  refine i37 c_259_8 (rge_ K1 rfl) (by decide) rfl (fun hc => ?_) (fun hc => ?_)
  · have t := iF t hc
    have ha2 : ¬ ((σ 84 5) = 20) := hc
    obtain ⟨p3, t⟩ := t
    obtain ⟨p4, t⟩ := t
    refine i5 c_259_13 rfl (i5 c_259_14 rfl ?_)
    refine i80 (As := []) (rest := [.ref 83]) c_259_15 mi_258 rfl rfl (Nat.le_of_ble_eq_true rfl) (Nat.le_of_ble_eq_true rfl) (lo (c := 83) (kd := 112) (n := 0) rfl (by decide)) (q_258 p3 p4 (fun σ15 τ16 q7 q8 q9 q10 => ?_))
    have t := t σ15 τ16 q7 q8 q9 q10
    show wi (d + 15) 259 18 [.ref 83] [.int (wI ((rdX σ).1)), .ref 83] S σ15 τ16 Q
    obtain ⟨w11, e12, r13, t⟩ := t
    refine i46 (σ1 := uc σ15 83 (u1 (σ15 83) 5 w11)) c_259_18 (lo (c := 83) (kd := 112) (n := 0) rfl (by decide)) (by decide) e12 r13 (wr_ rfl rfl) (i5 c_259_21 rfl (i5 c_259_22 rfl (wi_ok (fun K14 => ?_))))
    refine i43 (v := w11) c_259_23 (lo (c := 83) (kd := 112) (n := 0) rfl (by decide)) ((congrFun (uc_s _ _ _) _).trans (u1_s _ _ _)) ?_
    refine i36 c_259_26 r13 rfl (fun hc => ?_) (fun hc => ?_)
    · have t := iF t hc
      have ha15 : ¬ (w11 = 0) := hc
      refine i5 c_259_33 rfl (i43 (v := σ15 83 8) c_259_34 (lo (c := 83) (kd := 112) (n := 0) rfl (by decide)) ((congrFun (uc_s _ _ _) _).trans (u1_n (by decide))) (i46 (σ1 := uc σ15 83 (u1 (u1 (σ15 83) 5 w11) 6 (σ15 83 8))) c_259_37 (lo (c := 83) (kd := 112) (n := 0) rfl (by decide)) (by decide) rfl (rge_ K14 ((congrFun (uc_s _ _ _) _).trans (u1_n (by decide)))) (wr_ (uc_s _ _ _) (uc_uc _ _ _ _)) (i5 c_259_40 rfl (i1 c_259_41 (i46 (σ1 := uc σ15 83 (u1 (u1 (u1 (σ15 83) 5 w11) 6 (σ15 83 8)) 4 0)) c_259_42 (lo (c := 83) (kd := 112) (n := 0) rfl (by decide)) (by decide) rfl (by decide) (wr_ (uc_s _ _ _) (uc_uc _ _ _ _)) (i5 c_259_45 rfl (wi_ok (fun K16 => ?_))))))))
      refine i43 (v := w11) c_259_46 (lo (c := 83) (kd := 112) (n := 0) rfl (by decide)) ((((congrFun (uc_s _ _ _) _).trans (u1_n (by decide))).trans (u1_n (by decide))).trans (u1_s _ _ _)) ?_
      refine i36 c_259_49 r13 rfl (fun hc => absurd hc (show ¬ (w11 = 0) by omega)) (fun _ => ?_)
      refine i1 c_259_52 ?_
      exact i90 c_259_53 t
    · have t := iT t (Decidable.not_not.mp hc)
      have ha15 : w11 = 0 := Decidable.not_not.mp hc
      refine i1 c_259_29 (i38 c_259_30 rfl (i46 (σ1 := uc σ15 83 (u1 (u1 (σ15 83) 5 w11) 6 (-1))) c_259_37 (lo (c := 83) (kd := 112) (n := 0) rfl (by decide)) (by decide) rfl (by decide) (wr_ (uc_s _ _ _) (uc_uc _ _ _ _)) (i5 c_259_40 rfl (i1 c_259_41 (i46 (σ1 := uc σ15 83 (u1 (u1 (u1 (σ15 83) 5 w11) 6 (-1)) 4 0)) c_259_42 (lo (c := 83) (kd := 112) (n := 0) rfl (by decide)) (by decide) rfl (by decide) (wr_ (uc_s _ _ _) (uc_uc _ _ _ _)) (i5 c_259_45 rfl (wi_ok (fun K18 => ?_))))))))
      refine i43 (v := w11) c_259_46 (lo (c := 83) (kd := 112) (n := 0) rfl (by decide)) ((((congrFun (uc_s _ _ _) _).trans (u1_n (by decide))).trans (u1_n (by decide))).trans (u1_s _ _ _)) ?_
      refine i36 c_259_49 r13 rfl (fun _ => ?_) (fun hc => absurd (show w11 = 0 by omega) hc)
      obtain ⟨r20, t⟩ := t
      obtain ⟨n21, t⟩ := t
      refine i5 c_259_54 rfl (i45 c_259_55 (lo (c := 83) (kd := 112) (n := 0) rfl (by decide)) (lro (c := 83) (k := 0) (j := 84) (by decide)) (i5 c_259_58 rfl (i43 (v := σ15 83 12) c_259_59 (lo (c := 83) (kd := 112) (n := 0) rfl (by decide)) ((((congrFun (uc_s _ _ _) _).trans (u1_n (by decide))).trans (u1_n (by decide))).trans (u1_n (by decide))) (i5 c_259_62 rfl (i43 (v := σ15 83 13) c_259_63 (lo (c := 83) (kd := 112) (n := 0) rfl (by decide)) ((((congrFun (uc_s _ _ _) _).trans (u1_n (by decide))).trans (u1_n (by decide))).trans (u1_n (by decide))) (i54 (σ1 := uc (uc σ15 83 (u1 (u1 (u1 (σ15 83) 5 w11) 6 (-1)) 4 0)) 84 (u1 (σ15 84) (σ15 83 12) (σ15 83 13))) c_259_66 (lo (c := 84) (kd := 0) (n := 112300) rfl (by decide)) (by decide) r20 (by decide) rfl (rge_ K18 ((((congrFun (uc_s _ _ _) _).trans (u1_n (by decide))).trans (u1_n (by decide))).trans (u1_n (by decide)))) (wr_ (uc_ns rfl (by decide)) rfl) (i5 c_259_67 rfl (i45 c_259_68 (lo (c := 83) (kd := 112) (n := 0) rfl (by decide)) (lro (c := 83) (k := 0) (j := 84) (by decide)) (i1 c_259_71 (i34a c_259_72 (wi_ok (fun K22 => ?_))))))))))))
      obtain ⟨w23, e24, r25, t⟩ := t
      refine i50 (v := σ15 84 5) c_259_73 (lo (c := 84) (kd := 0) (n := 112300) rfl (by decide)) (by decide) (by decide) ((congrFun (uc_s _ _ _) _).trans (u1_n n21)) (i1 c_259_74 (i10 c_259_75 (i54 (σ1 := uc (uc σ15 83 (u1 (u1 (u1 (σ15 83) 5 w11) 6 (-1)) 4 0)) 84 (u1 (u1 (σ15 84) (σ15 83 12) (σ15 83 13)) 5 w23)) c_259_76 (lo (c := 84) (kd := 0) (n := 112300) rfl (by decide)) (by decide) (by decide) (by decide) e24 r25 (wr_ (uc_s _ _ _) (uc_uc _ _ _ _)) (i5 c_259_77 rfl (i45 c_259_78 (lo (c := 83) (kd := 112) (n := 0) rfl (by decide)) (lro (c := 83) (k := 0) (j := 84) (by decide)) (i1 c_259_81 (wi_ok (fun K26 => ?_))))))))
      refine i50 (v := w23) c_259_82 (lo (c := 84) (kd := 0) (n := 112300) rfl (by decide)) (by decide) (by decide) ((congrFun (uc_s _ _ _) _).trans (u1_s _ _ _)) (i1 c_259_83 (i11 c_259_84 ?_))
      exact i90 c_259_85 t
  · have t := iT t (Decidable.not_not.mp hc)
    have ha2 : (σ 84 5) = 20 := Decidable.not_not.mp hc
    refine i1 c_259_11 ?_
    exact i90 c_259_12 t
theorem q_259 {d : Nat} {S : zS} {σ τ : zI} {Q : zQ} (p0 : TB (σ 87) (σ 83 4)) (p1 : 0 ≤ σ 84 5 ∧ σ 84 5 ≤ 20) (t : ∀ (σ1 : zI) (τ1 : zI), TXR σ τ σ1 τ1 → Q (some (.int (wI (if σ 84 5 = 20 then -1 else if (rdX σ).1 = 0 then σ 84 5 else -1)))) S σ1 τ1) : wc (d + 15) 259 [.ref 83] S σ τ Q := by
  refine wc_of mi_259 rfl (u_259_0 (ifI (fun e => ?_) (fun e => ⟨p0, by omega, fun σ1 τ1 rb tr ok gen => ⟨(rdX σ).1, rfl, by omega, ifI (fun c => ?_) (fun c => ?_)⟩⟩)))
  · have h := t σ τ
    rw [if_pos e] at h
    exact h ⟨fun _ => ⟨rfl, rfl⟩, fun z => absurd e z, fun z => absurd e z⟩
  · obtain ⟨pg, m0, m1, ml⟩ := ok c
    have z12 : rd0 σ 83 12 = 5500 + 840 * σ 84 5 := by unfold rd0; rw [uc_s, u1_n (by omega), u1_n (by omega), u1_n (by omega), u1_n (by omega), u1_s]
    have z13 : rd0 σ 83 13 = 0 := by unfold rd0; rw [uc_s, u1_n (by omega), u1_n (by omega), u1_n (by omega), u1_s]
    have z14 : rd0 σ 83 14 = 0 := by unfold rd0; rw [uc_s, u1_n (by omega), u1_n (by omega), u1_s]
    have z84 : rd0 σ 84 = σ 84 := by unfold rd0; rw [uc_n (by decide)]
    have e12 : σ1 83 12 = 5500 + 840 * σ 84 5 := by rw [pg.2.2.1 12 (by omega), z12]
    have e13 : σ1 83 13 = (rdX σ).2.2.1 := by rw [pg.2.2.2.2.2, z13]; omega
    have e5 : σ1 84 5 = σ 84 5 := by
      rw [pg.1.2.2.2 5 (by omega), wrs_n _ _ (fun x hx z => by have := pg.1.2.2.1 x hx; omega), z84]
    rw [e12, e13, e5, c]
    refine ⟨by omega, by omega, σ 84 5 + 1, rfl, by omega, ?_⟩
    rw [show σ 84 5 + 1 - 1 = σ 84 5 by omega]
    have h := t (uc (uc σ1 83 (u1 (u1 (u1 (σ1 83) 5 0) 6 (-1)) 4 0)) 84 (u1 (u1 (σ1 84) (5500 + 840 * σ 84 5) (rdX σ).2.2.1) 5 (σ 84 5 + 1))) τ1
    rw [if_neg e, if_pos c] at h
    exact h ⟨fun z => absurd z e, fun _ _ => ⟨σ1, ⟨pg, ⟨m0, m1⟩, ml⟩, rfl⟩, fun _ z => absurd c z⟩
  · obtain ⟨L, W, e2, pg, b⟩ := gen
    rw [tr.2.2.1]
    have h := t (uc σ1 83 (u1 (u1 (u1 (σ1 83) 5 (rdX σ).1) 6 (rdX σ).2.1) 4 0)) τ1
    rw [if_neg e, if_neg c] at h
    exact h ⟨fun z => absurd z e, fun _ z => absurd z c, fun _ _ => ⟨σ1, L, W, e2, pg, b, rfl⟩⟩
