/-! ===== the reference reads: CLAUSES (segments printed by wip/whole, contracts own work) ===== -/
section CLV
variable (T : Int → Int) (n : Int)
def addO (q c v s : Int) : RW := if tk T n s = 10 then bnd (0, nx T n s, [], []) (smO T n q c) else if tk T n s = 11 then bnd (0, nx T n s, [], [(q, v + 1)]) (smO T n q c) else (1, s, [], [])
def eitW (q c s : Int) : RW := if (eitO T n 301 s [] 0 0).1 ≠ 0 then ((eitO T n 301 s [] 0 0).1, (eitO T n 301 s [] 0 0).2.1, [], []) else (0, (eitO T n 301 s [] 0 0).2.1, (eitO T n 301 s [] 0 0).2.2, [(q + 4, c), (q + 5, c + (eitO T n 301 s [] 0 0).2.2.length)])
def bodyO (q c t s : Int) : RW := if t = 3 then smO T n q c s else if t = 4 then bnd (numO T n 0 29 (q + 1) s) (addO T n q c 2) else if t = 5 then bnd (eitW T n q c s) (addO T n q (c + (eitO T n 301 s [] 0 0).2.2.length) 4) else if t = 6 then numO T n 0 9999 (q + 1) s else if t = 7 then ageO T n q s else numO T n 0 20 (q + 1) s
def clsO (m q c s : Int) : RW := if srtO (tk T n s) = 0 then (1, s, [], []) else if m = 24 then (4, s, [], []) else bnd (0, nx T n s, [], [(q, srtO (tk T n s))]) fun s1 => bnd (bodyO T n q c (tk T n s) s1) fun s2 => nedO T n 36 s2
end CLV
-- method 254: MillTownModel.addOrTake(I)I
theorem c_254_0 : pg_cd 254 0 = (5, 1, 0, 0, 0) := by decide +kernel
theorem c_254_1 : pg_cd 254 1 = (5, 1, 0, 0, 0) := by decide +kernel
theorem c_254_2 : pg_cd 254 2 = (80, 251, 236, 0, 0) := by decide +kernel
theorem c_254_5 : pg_cd 254 5 = (80, 235, 164, 0, 0) := by decide +kernel
theorem c_254_8 : pg_cd 254 8 = (36, 3, 0, 1, 16) := by decide +kernel
theorem c_254_11 : pg_cd 254 11 = (5, 1, 0, 0, 0) := by decide +kernel
theorem c_254_12 : pg_cd 254 12 = (5, 1, 0, 0, 0) := by decide +kernel
theorem c_254_13 : pg_cd 254 13 = (80, 252, 240, 0, 0) := by decide +kernel
theorem c_254_16 : pg_cd 254 16 = (80, 235, 164, 0, 0) := by decide +kernel
theorem c_254_19 : pg_cd 254 19 = (36, 3, 0, 1, 5) := by decide +kernel
theorem c_254_22 : pg_cd 254 22 = (1, 1, 0, 0, 1) := by decide +kernel
theorem c_254_23 : pg_cd 254 23 = (90, 0, 0, 0, 0) := by decide +kernel
theorem c_254_24 : pg_cd 254 24 = (5, 1, 0, 0, 0) := by decide +kernel
theorem c_254_25 : pg_cd 254 25 = (5, 1, 0, 0, 0) := by decide +kernel
theorem c_254_26 : pg_cd 254 26 = (80, 252, 240, 0, 0) := by decide +kernel
theorem c_254_29 : pg_cd 254 29 = (80, 235, 164, 0, 0) := by decide +kernel
theorem c_254_32 : pg_cd 254 32 = (36, 3, 0, 0, 13) := by decide +kernel
theorem c_254_35 : pg_cd 254 35 = (5, 1, 0, 0, 0) := by decide +kernel
theorem c_254_36 : pg_cd 254 36 = (45, 12, 8, 0, 0) := by decide +kernel
theorem c_254_39 : pg_cd 254 39 = (3, 1, 0, 1, 0) := by decide +kernel
theorem c_254_40 : pg_cd 254 40 = (34, 1, 0, 0, 0) := by decide +kernel
theorem c_254_41 : pg_cd 254 41 = (50, 1, 0, 0, 0) := by decide +kernel
theorem c_254_42 : pg_cd 254 42 = (1, 1, 0, 0, 1) := by decide +kernel
theorem c_254_43 : pg_cd 254 43 = (10, 1, 0, 0, 0) := by decide +kernel
theorem c_254_44 : pg_cd 254 44 = (54, 1, 0, 0, 0) := by decide +kernel
theorem c_254_45 : pg_cd 254 45 = (5, 1, 0, 0, 0) := by decide +kernel
theorem c_254_46 : pg_cd 254 46 = (80, 231, 168, 0, 0) := by decide +kernel
theorem c_254_49 : pg_cd 254 49 = (5, 1, 0, 0, 0) := by decide +kernel
theorem c_254_50 : pg_cd 254 50 = (3, 1, 0, 1, 0) := by decide +kernel
theorem c_254_51 : pg_cd 254 51 = (80, 253, 243, 0, 0) := by decide +kernel
theorem c_254_54 : pg_cd 254 54 = (90, 0, 0, 0, 0) := by decide +kernel
theorem mi_254 : pg_mc 254 = 12 ∧ pg_na 254 = 1 ∧ pg_mx 254 = 2 := by decide +kernel
set_option maxRecDepth 20000 in
theorem u_254_0 {d : Nat} {S : zS} {σ τ : zI} {Q : zQ} {x1 : Int} (t : (rj 6382692) ∧ if σ 83 9 = 2 ∧ τ 83 11 = 6382692 then ((rj 1952541541) ∧ ∃ T5 : Int → Int, ∃ n6 : Int, ∃ s7 : Int, (TB T5 n6) ∧ (TR T5 n6 s7 σ τ) ∧ (s7 < n6) ∧ ∀ (σ111 : zI) (τ112 : zI), FK σ σ111 τ τ112 → TR T5 n6 (nx T5 n6 s7) σ111 τ112 → ∃ T15 : Int → Int, ∃ n16 : Int, ∃ s17 : Int, (TB T15 n16) ∧ (TR T15 n16 s17 σ111 τ112) ∧ (EB σ111) ∧ (σ111 83 12 ≤ x1 ∧ x1 + 8 ≤ σ111 83 12 + 200) ∧ (σ111 83 14 < s17) ∧ (σ111 83 17 = 0) ∧ ∀ (σ124 : zI) (τ125 : zI), 0 ≤ (smO T15 n16 x1 (σ111 83 14) s17).1 ∧ (smO T15 n16 x1 (σ111 83 14) s17).1 ≤ 4 → GF T15 n16 σ111 τ112 (smO T15 n16 x1 (σ111 83 14) s17) σ124 τ125 → Q (some (.int (wI ((smO T15 n16 x1 (σ111 83 14) s17).1)))) S σ124 τ125) else ((rj 1952541541) ∧ if σ 83 9 = 2 ∧ τ 83 11 = 1952541541 then ((0 ≤ x1 ∧ x1 < 112300) ∧ ∃ w33 : Int, wI w33 = wI ((σ 84 x1) + 1) ∧ rg w33 ∧ ∃ T36 : Int → Int, ∃ n37 : Int, ∃ s38 : Int, (TB T36 n37) ∧ (TR T36 n37 s38 (uc σ 84 (u1 (σ 84) x1 w33)) τ) ∧ (s38 < n37) ∧ ∀ (σ142 : zI) (τ143 : zI), FK (uc σ 84 (u1 (σ 84) x1 w33)) σ142 τ τ143 → TR T36 n37 (nx T36 n37 s38) σ142 τ143 → ∃ T46 : Int → Int, ∃ n47 : Int, ∃ s48 : Int, (TB T46 n47) ∧ (TR T46 n47 s48 σ142 τ143) ∧ (EB σ142) ∧ (σ142 83 12 ≤ x1 ∧ x1 + 8 ≤ σ142 83 12 + 200) ∧ (σ142 83 14 < s48) ∧ (σ142 83 17 = 0) ∧ ∀ (σ155 : zI) (τ156 : zI), 0 ≤ (smO T46 n47 x1 (σ142 83 14) s48).1 ∧ (smO T46 n47 x1 (σ142 83 14) s48).1 ≤ 4 → GF T46 n47 σ142 τ143 (smO T46 n47 x1 (σ142 83 14) s48) σ155 τ156 → Q (some (.int (wI ((smO T46 n47 x1 (σ142 83 14) s48).1)))) S σ155 τ156) else (Q (some (.int (wI 1))) S σ τ))) : wi (d + 12) 254 0 [.ref 83, .int (wI x1)] [] S σ τ Q := by
  refine i5 c_254_0 rfl (i5 c_254_1 rfl ?_)
  refine i80 (As := []) (rest := [.ref 83]) c_254_2 mi_251 rfl rfl (Nat.le_of_ble_eq_true rfl) (Nat.le_of_ble_eq_true rfl) (lo (c := 83) (kd := 112) (n := 0) rfl (by decide)) (q_251 ?_)
  show wi (d + 12) 254 5 [.ref 83, .int (wI x1)] [.long (wJ 6382692), .ref 83] S σ τ Q
  obtain ⟨p1, t⟩ := t
  refine i80 (As := [.long (wJ 6382692)]) (rest := []) c_254_5 mi_235 rfl rfl (Nat.le_of_ble_eq_true rfl) (Nat.le_of_ble_eq_true rfl) (lo (c := 83) (kd := 112) (n := 0) rfl (by decide)) (q_235 p1 ?_)
  show wi (d + 12) 254 8 [.ref 83, .int (wI x1)] [.int (wI (if σ 83 9 = 2 ∧ τ 83 11 = 6382692 then 1 else 0))] S σ τ Q
  refine i36f c_254_8 rfl (fun hc => ?_) (fun hc => ?_)
  · have t := iT t hc
    have ha2 : σ 83 9 = 2 ∧ τ 83 11 = 6382692 := hc
    refine i5 c_254_24 rfl (i5 c_254_25 rfl ?_)
    refine i80 (As := []) (rest := [.ref 83]) c_254_26 mi_252 rfl rfl (Nat.le_of_ble_eq_true rfl) (Nat.le_of_ble_eq_true rfl) (lo (c := 83) (kd := 112) (n := 0) rfl (by decide)) (q_252 ?_)
    show wi (d + 12) 254 29 [.ref 83, .int (wI x1)] [.long (wJ 1952541541), .ref 83] S σ τ Q
    obtain ⟨p3, t⟩ := t
    refine i80 (As := [.long (wJ 1952541541)]) (rest := []) c_254_29 mi_235 rfl rfl (Nat.le_of_ble_eq_true rfl) (Nat.le_of_ble_eq_true rfl) (lo (c := 83) (kd := 112) (n := 0) rfl (by decide)) (q_235 p3 ?_)
    show wi (d + 12) 254 32 [.ref 83, .int (wI x1)] [.int (wI (if σ 83 9 = 2 ∧ τ 83 11 = 1952541541 then 1 else 0))] S σ τ Q
    refine i36e c_254_32 rfl (fun hc => absurd hc (show ¬ (σ 83 9 = 2 ∧ τ 83 11 = 1952541541) by omega)) (fun _ => ?_)
    obtain ⟨T5, t⟩ := t
    obtain ⟨n6, t⟩ := t
    obtain ⟨s7, t⟩ := t
    obtain ⟨p8, t⟩ := t
    obtain ⟨p9, t⟩ := t
    obtain ⟨p10, t⟩ := t
    refine i5 c_254_45 rfl ?_
    refine i80 (As := []) (rest := []) c_254_46 mi_231 rfl rfl (Nat.le_of_ble_eq_true rfl) (Nat.le_of_ble_eq_true rfl) (lo (c := 83) (kd := 112) (n := 0) rfl (by decide)) (q_231t (T := T5) (n := n6) (s := s7) p8 p9 p10 (fun σ111 τ112 q13 q14 => ?_))
    have t := t σ111 τ112 q13 q14
    show wi (d + 12) 254 49 [.ref 83, .int (wI x1)] [] S σ111 τ112 Q
    obtain ⟨T15, t⟩ := t
    obtain ⟨n16, t⟩ := t
    obtain ⟨s17, t⟩ := t
    obtain ⟨p18, t⟩ := t
    obtain ⟨p19, t⟩ := t
    obtain ⟨p20, t⟩ := t
    obtain ⟨p21, t⟩ := t
    obtain ⟨p22, t⟩ := t
    obtain ⟨p23, t⟩ := t
    refine i5 c_254_49 rfl (i3 c_254_50 rfl ?_)
    refine i80 (As := [.int (wI x1)]) (rest := []) c_254_51 mi_253 rfl rfl (Nat.le_of_ble_eq_true rfl) (Nat.le_of_ble_eq_true rfl) (lo (c := 83) (kd := 112) (n := 0) rfl (by decide)) (q_253 (T := T15) (n := n16) (s := s17) p18 p19 p20 p21 p22 p23 (fun σ124 τ125 q26 q27 => ?_))
    have t := t σ124 τ125 q26 q27
    show wi (d + 12) 254 54 [.ref 83, .int (wI x1)] [.int (wI ((smO T15 n16 x1 (σ111 83 14) s17).1))] S σ124 τ125 Q
    exact i90 c_254_54 t
  · have t := iF t hc
    have ha2 : ¬ (σ 83 9 = 2 ∧ τ 83 11 = 6382692) := hc
    refine i5 c_254_11 rfl (i5 c_254_12 rfl ?_)
    refine i80 (As := []) (rest := [.ref 83]) c_254_13 mi_252 rfl rfl (Nat.le_of_ble_eq_true rfl) (Nat.le_of_ble_eq_true rfl) (lo (c := 83) (kd := 112) (n := 0) rfl (by decide)) (q_252 ?_)
    show wi (d + 12) 254 16 [.ref 83, .int (wI x1)] [.long (wJ 1952541541), .ref 83] S σ τ Q
    obtain ⟨p28, t⟩ := t
    refine i80 (As := [.long (wJ 1952541541)]) (rest := []) c_254_16 mi_235 rfl rfl (Nat.le_of_ble_eq_true rfl) (Nat.le_of_ble_eq_true rfl) (lo (c := 83) (kd := 112) (n := 0) rfl (by decide)) (q_235 p28 ?_)
    show wi (d + 12) 254 19 [.ref 83, .int (wI x1)] [.int (wI (if σ 83 9 = 2 ∧ τ 83 11 = 1952541541 then 1 else 0))] S σ τ Q
    refine i36f c_254_19 rfl (fun hc => ?_) (fun hc => ?_)
    · have t := iT t hc
      have ha29 : σ 83 9 = 2 ∧ τ 83 11 = 1952541541 := hc
      refine i5 c_254_24 rfl (i5 c_254_25 rfl ?_)
      refine i80 (As := []) (rest := [.ref 83]) c_254_26 mi_252 rfl rfl (Nat.le_of_ble_eq_true rfl) (Nat.le_of_ble_eq_true rfl) (lo (c := 83) (kd := 112) (n := 0) rfl (by decide)) (q_252 ?_)
      show wi (d + 12) 254 29 [.ref 83, .int (wI x1)] [.long (wJ 1952541541), .ref 83] S σ τ Q
      refine i80 (As := [.long (wJ 1952541541)]) (rest := []) c_254_29 mi_235 rfl rfl (Nat.le_of_ble_eq_true rfl) (Nat.le_of_ble_eq_true rfl) (lo (c := 83) (kd := 112) (n := 0) rfl (by decide)) (q_235 p28 ?_)
      show wi (d + 12) 254 32 [.ref 83, .int (wI x1)] [.int (wI (if σ 83 9 = 2 ∧ τ 83 11 = 1952541541 then 1 else 0))] S σ τ Q
      refine i36e c_254_32 rfl (fun _ => ?_) (fun hc => absurd (show σ 83 9 = 2 ∧ τ 83 11 = 1952541541 by omega) hc)
      obtain ⟨r31, t⟩ := t
      refine i5 c_254_35 rfl (i45 c_254_36 (lo (c := 83) (kd := 112) (n := 0) rfl (by decide)) (lro (c := 83) (k := 0) (j := 84) (by decide)) (i3 c_254_39 rfl (i34a c_254_40 (wi_ok (fun K32 => ?_)))))
      obtain ⟨w33, e34, r35, t⟩ := t
      obtain ⟨T36, t⟩ := t
      obtain ⟨n37, t⟩ := t
      obtain ⟨s38, t⟩ := t
      obtain ⟨p39, t⟩ := t
      obtain ⟨p40, t⟩ := t
      obtain ⟨p41, t⟩ := t
      refine i50 (v := σ 84 x1) c_254_41 (lo (c := 84) (kd := 0) (n := 112300) rfl (by decide)) (by decide) r31 rfl (i1 c_254_42 (i10 c_254_43 (i54 (σ1 := uc σ 84 (u1 (σ 84) x1 w33)) c_254_44 (lo (c := 84) (kd := 0) (n := 112300) rfl (by decide)) (by decide) r31 (by decide) e34 r35 (wr_ rfl rfl) (i5 c_254_45 rfl ?_))))
      refine i80 (As := []) (rest := []) c_254_46 mi_231 rfl rfl (Nat.le_of_ble_eq_true rfl) (Nat.le_of_ble_eq_true rfl) (lo (c := 83) (kd := 112) (n := 0) rfl (by decide)) (q_231t (T := T36) (n := n37) (s := s38) p39 p40 p41 (fun σ142 τ143 q44 q45 => ?_))
      have t := t σ142 τ143 q44 q45
      show wi (d + 12) 254 49 [.ref 83, .int (wI x1)] [] S σ142 τ143 Q
      obtain ⟨T46, t⟩ := t
      obtain ⟨n47, t⟩ := t
      obtain ⟨s48, t⟩ := t
      obtain ⟨p49, t⟩ := t
      obtain ⟨p50, t⟩ := t
      obtain ⟨p51, t⟩ := t
      obtain ⟨p52, t⟩ := t
      obtain ⟨p53, t⟩ := t
      obtain ⟨p54, t⟩ := t
      refine i5 c_254_49 rfl (i3 c_254_50 rfl ?_)
      refine i80 (As := [.int (wI x1)]) (rest := []) c_254_51 mi_253 rfl rfl (Nat.le_of_ble_eq_true rfl) (Nat.le_of_ble_eq_true rfl) (lo (c := 83) (kd := 112) (n := 0) rfl (by decide)) (q_253 (T := T46) (n := n47) (s := s48) p49 p50 p51 p52 p53 p54 (fun σ155 τ156 q57 q58 => ?_))
      have t := t σ155 τ156 q57 q58
      show wi (d + 12) 254 54 [.ref 83, .int (wI x1)] [.int (wI ((smO T46 n47 x1 (σ142 83 14) s48).1))] S σ155 τ156 Q
      exact i90 c_254_54 t
    · have t := iF t hc
      have ha29 : ¬ (σ 83 9 = 2 ∧ τ 83 11 = 1952541541) := hc
      refine i1 c_254_22 ?_
      exact i90 c_254_23 t
theorem q_254 {d : Nat} {S : zS} {σ τ : zI} {Q : zQ} {q : Int} {T : Int → Int} {n : Int} {s : Int} {v : Int} (p0 : TB T n) (p1 : TR T n s σ τ) (p2 : EB σ) (p3 : σ 83 12 ≤ q ∧ q + 8 ≤ σ 83 12 + 200) (p4 : σ 83 14 < s) (p5 : σ 83 17 = 0) (p6 : σ 84 q = v) (p7 : rg (v + 1)) (t : ∀ (σ1 : zI) (τ1 : zI), 0 ≤ (addO T n q (σ 83 14) v s).1 ∧ (addO T n q (σ 83 14) v s).1 ≤ 4 → GF T n σ τ (addO T n q (σ 83 14) v s) σ1 τ1 → Q (some (.int (wI ((addO T n q (σ 83 14) v s).1)))) S σ1 τ1) : wc (d + 12) 254 [.ref 83, .int (wI q)] S σ τ Q := by
  have w10 := TR_w p1 p0 (t := 10) (v := 6382692) (by omega) (fun x => by rw [wcd_10])
  have w11 := TR_w p1 p0 (t := 11) (v := 1952541541) (by omega) (fun x => by rw [wcd_11])
  have b0 := p2.2.1
  refine wc_of mi_254 rfl (u_254_0 ⟨by decide, ifI (fun e => ⟨by decide, T, n, s, p0, p1, tk_n (T := T) (by have := w10.mp e; omega), fun σ2 τ2 fk tr => ?_⟩) (fun e => ⟨by decide, ifI (fun e2 => ?_) (fun e2 => ?_)⟩)⟩)
  · have k10 := w10.mp e
    have nb := nx_b (T := T) (tk_n (T := T) (n := n) (s := s) (by omega))
    have f14 : σ2 83 14 = σ 83 14 := fk.2.1 14 (by omega)
    have f12 : σ2 83 12 = σ 83 12 := fk.2.1 12 (by omega)
    have g0 : GF T n σ τ (0, nx T n s, [], []) σ2 τ2 := GF_v tr (PGc_P (PF_F fk)) (fk.2.1 17 (by omega)) p2.2.2
    refine ⟨T, n, _, p0, tr, FK_EB p2 fk, by omega, by omega, by rw [fk.2.1 17 (by omega)]; exact p5, fun σ3 τ3 rb g => ?_⟩
    rw [f14] at rb g ⊢
    have ev : addO T n q (σ 83 14) v s = bnd (0, nx T n s, [], []) (smO T n q (σ 83 14)) := if_pos k10
    have h := t σ3 τ3
    rw [ev, bnd_2 rfl] at h
    exact h rb (GF_2 rfl g0 b0 g)
  · have k11 := w11.mp e2
    have nb := nx_b (T := T) (tk_n (T := T) (n := n) (s := s) (by omega))
    refine ⟨by have := p2.1; omega, σ 84 q + 1, rfl, by rw [p6]; exact p7, T, n, s, p0, TR_84 p1, tk_n (T := T) (by omega), fun σ2 τ2 fk tr => ?_⟩
    have q83 : (uc σ 84 (u1 (σ 84) q (σ 84 q + 1))) 83 = σ 83 := uc_n (by decide)
    have f14 : σ2 83 14 = σ 83 14 := by rw [fk.2.1 14 (by omega), q83]
    have f12 : σ2 83 12 = σ 83 12 := by rw [fk.2.1 12 (by omega), q83]
    have f17 : σ2 83 17 = σ 83 17 := by rw [fk.2.1 17 (by omega), q83]
    have pg : PGc σ σ2 τ τ2 [] [(q, v + 1)] 0 := by
      have := PGc_n (PGc_w (σ := σ) (τ := τ) (j := q) (v := σ 84 q + 1) (by omega)) (PF_F fk) b0
      rw [p6] at this
      rw [p6] at *
      exact this
    have g0 : GF T n σ τ (0, nx T n s, [], [(q, v + 1)]) σ2 τ2 := GF_v tr pg f17 p2.2.2
    refine ⟨T, n, _, p0, tr, EB_f p2 f12 (by rw [f14]; exact p2.2), by omega, by omega, by omega, fun σ3 τ3 rb g => ?_⟩
    rw [f14] at rb g ⊢
    have ev : addO T n q (σ 83 14) v s = bnd (0, nx T n s, [], [(q, v + 1)]) (smO T n q (σ 83 14)) := by
      unfold addO
      rw [if_neg (by omega), if_pos k11]
    have h := t σ3 τ3
    rw [ev, bnd_2 rfl] at h
    exact h rb (GF_2 rfl g0 b0 g)
  · have ev : addO T n q (σ 83 14) v s = (1, s, [], []) := by
      unfold addO
      rw [if_neg (fun z => e (w10.mpr z)), if_neg (fun z => e2 (w11.mpr z))]
    have h := t σ τ
    rw [ev] at h
    exact h (by show (0 : Int) ≤ 1 ∧ (1 : Int) ≤ 4; omega) (GF_e (by decide) p1 p2.2.2)
