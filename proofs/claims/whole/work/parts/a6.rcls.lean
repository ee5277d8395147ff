/-! ===== the reference reads: CLAUSES (segments printed by wip/whole, contracts own work) ===== -/
section CLV
variable (T : Int → Int) (n : Int)
def addO (q c v s : Int) : RW := if tk T n s = 10 then bnd (0, nx T n s, [], []) (smO T n q c) else if tk T n s = 11 then bnd (0, nx T n s, [], [(q, v + 1)]) (smO T n q c) else (1, s, [], [])
def eitW (q c s : Int) : RW := if (eitO T n 301 s [] 0 0).1 ≠ 0 then ((eitO T n 301 s [] 0 0).1, (eitO T n 301 s [] 0 0).2.1, [], []) else (0, (eitO T n 301 s [] 0 0).2.1, (eitO T n 301 s [] 0 0).2.2, [(q + 4, c), (q + 5, c + (eitO T n 301 s [] 0 0).2.2.length)])
def bodyO (q c t s : Int) : RW := if t = 3 then smO T n q c s else if t = 4 then bnd (numO T n 0 29 (q + 1) s) (addO T n q c 2) else if t = 5 then bnd (eitW T n q c s) (addO T n q (c + (eitO T n 301 s [] 0 0).2.2.length) 4) else if t = 6 then numO T n 0 9999 (q + 1) s else if t = 7 then ageO T n q s else numO T n 0 20 (q + 1) s
def clsO (m q c s : Int) : RW := if srtO (tk T n s) = 0 then (1, s, [], []) else if m = 24 then (4, s, [], []) else bnd (0, nx T n s, [], [(q, srtO (tk T n s))]) fun s1 => bnd (bodyO T n q c (tk T n s) s1) fun s2 => nedO T n 36 s2
end CLV
-- method 254: MillTownModel.addOrTake(I)I
theorem c_254_0 : pg_cd 254 0 = (5, 1, 0, 0, 0) := by decide +kernel
theorem c_254_1 : pg_cd 254 1 = (5, 1, 0, 0, 0) := by decide +kernel
theorem c_254_2 : pg_cd 254 2 = (80, 251, 236, 0, 0) := by decide +kernel
theorem c_254_5 : pg_cd 254 5 = (80, 235, 164, 0, 0) := by decide +kernel
theorem c_254_8 : pg_cd 254 8 = (36, 3, 0, 1, 16) := by decide +kernel
theorem c_254_11 : pg_cd 254 11 = (5, 1, 0, 0, 0) := by decide +kernel
theorem c_254_12 : pg_cd 254 12 = (5, 1, 0, 0, 0) := by decide +kernel
theorem c_254_13 : pg_cd 254 13 = (80, 252, 240, 0, 0) := by decide +kernel
theorem c_254_16 : pg_cd 254 16 = (80, 235, 164, 0, 0) := by decide +kernel
theorem c_254_19 : pg_cd 254 19 = (36, 3, 0, 1, 5) := by decide +kernel
theorem c_254_22 : pg_cd 254 22 = (1, 1, 0, 0, 1) := by decide +kernel
theorem c_254_23 : pg_cd 254 23 = (90, 0, 0, 0, 0) := by decide +kernel
theorem c_254_24 : pg_cd 254 24 = (5, 1, 0, 0, 0) := by decide +kernel
theorem c_254_25 : pg_cd 254 25 = (5, 1, 0, 0, 0) := by decide +kernel
theorem c_254_26 : pg_cd 254 26 = (80, 252, 240, 0, 0) := by decide +kernel
theorem c_254_29 : pg_cd 254 29 = (80, 235, 164, 0, 0) := by decide +kernel
theorem c_254_32 : pg_cd 254 32 = (36, 3, 0, 0, 13) := by decide +kernel
theorem c_254_35 : pg_cd 254 35 = (5, 1, 0, 0, 0) := by decide +kernel
theorem c_254_36 : pg_cd 254 36 = (45, 12, 8, 0, 0) := by decide +kernel
theorem c_254_39 : pg_cd 254 39 = (3, 1, 0, 1, 0) := by decide +kernel
theorem c_254_40 : pg_cd 254 40 = (34, 1, 0, 0, 0) := by decide +kernel
theorem c_254_41 : pg_cd 254 41 = (50, 1, 0, 0, 0) := by decide +kernel
theorem c_254_42 : pg_cd 254 42 = (1, 1, 0, 0, 1) := by decide +kernel
theorem c_254_43 : pg_cd 254 43 = (10, 1, 0, 0, 0) := by decide +kernel
theorem c_254_44 : pg_cd 254 44 = (54, 1, 0, 0, 0) := by decide +kernel
theorem c_254_45 : pg_cd 254 45 = (5, 1, 0, 0, 0) := by decide +kernel
theorem c_254_46 : pg_cd 254 46 = (80, 231, 168, 0, 0) := by decide +kernel
theorem c_254_49 : pg_cd 254 49 = (5, 1, 0, 0, 0) := by decide +kernel
theorem c_254_50 : pg_cd 254 50 = (3, 1, 0, 1, 0) := by decide +kernel
theorem c_254_51 : pg_cd 254 51 = (80, 253, 243, 0, 0) := by decide +kernel
theorem c_254_54 : pg_cd 254 54 = (90, 0, 0, 0, 0) := by decide +kernel
theorem mi_254 : pg_mc 254 = 12 ∧ pg_na 254 = 1 ∧ pg_mx 254 = 2 := by decide +kernel
set_option maxRecDepth 20000 in
theorem u_254_0 {d : Nat} {S : zS} {σ τ : zI} {Q : zQ} {x1 : Int} (t : (rj 6382692) ∧ if σ 83 9 = 2 ∧ τ 83 11 = 6382692 then ((rj 1952541541) ∧ ∃ T5 : Int → Int, ∃ n6 : Int, ∃ s7 : Int, (TB T5 n6) ∧ (TR T5 n6 s7 σ τ) ∧ (s7 < n6) ∧ ∀ (σ111 : zI) (τ112 : zI), FK σ σ111 τ τ112 → TR T5 n6 (nx T5 n6 s7) σ111 τ112 → ∃ T15 : Int → Int, ∃ n16 : Int, ∃ s17 : Int, (TB T15 n16) ∧ (TR T15 n16 s17 σ111 τ112) ∧ (EB σ111) ∧ (σ111 83 12 ≤ x1 ∧ x1 + 8 ≤ σ111 83 12 + 200) ∧ (σ111 83 14 < s17) ∧ (σ111 83 17 = 0) ∧ ∀ (σ124 : zI) (τ125 : zI), 0 ≤ (smO T15 n16 x1 (σ111 83 14) s17).1 ∧ (smO T15 n16 x1 (σ111 83 14) s17).1 ≤ 4 → GF T15 n16 σ111 τ112 (smO T15 n16 x1 (σ111 83 14) s17) σ124 τ125 → Q (some (.int (wI ((smO T15 n16 x1 (σ111 83 14) s17).1)))) S σ124 τ125) else ((rj 1952541541) ∧ if σ 83 9 = 2 ∧ τ 83 11 = 1952541541 then ((0 ≤ x1 ∧ x1 < 112300) ∧ ∃ w33 : Int, wI w33 = wI ((σ 84 x1) + 1) ∧ rg w33 ∧ ∃ T36 : Int → Int, ∃ n37 : Int, ∃ s38 : Int, (TB T36 n37) ∧ (TR T36 n37 s38 (uc σ 84 (u1 (σ 84) x1 w33)) τ) ∧ (s38 < n37) ∧ ∀ (σ142 : zI) (τ143 : zI), FK (uc σ 84 (u1 (σ 84) x1 w33)) σ142 τ τ143 → TR T36 n37 (nx T36 n37 s38) σ142 τ143 → ∃ T46 : Int → Int, ∃ n47 : Int, ∃ s48 : Int, (TB T46 n47) ∧ (TR T46 n47 s48 σ142 τ143) ∧ (EB σ142) ∧ (σ142 83 12 ≤ x1 ∧ x1 + 8 ≤ σ142 83 12 + 200) ∧ (σ142 83 14 < s48) ∧ (σ142 83 17 = 0) ∧ ∀ (σ155 : zI) (τ156 : zI), 0 ≤ (smO T46 n47 x1 (σ142 83 14) s48).1 ∧ (smO T46 n47 x1 (σ142 83 14) s48).1 ≤ 4 → GF T46 n47 σ142 τ143 (smO T46 n47 x1 (σ142 83 14) s48) σ155 τ156 → Q (some (.int (wI ((smO T46 n47 x1 (σ142 83 14) s48).1)))) S σ155 τ156) else (Q (some (.int (wI 1))) S σ τ))) : wi (d + 12) 254 0 [.ref 83, .int (wI x1)] [] S σ τ Q := by
  refine i5 c_254_0 rfl (i5 c_254_1 rfl ?_)
  refine i80 (As := []) (rest := [.ref 83]) c_254_2 mi_251 rfl rfl (Nat.le_of_ble_eq_true rfl) (Nat.le_of_ble_eq_true rfl) (lo (c := 83) (kd := 112) (n := 0) rfl (by decide)) (q_251 ?_)
  show wi (d + 12) 254 5 [.ref 83, .int (wI x1)] [.long (wJ 6382692), .ref 83] S σ τ Q
  obtain ⟨p1, t⟩ := t
  refine i80 (As := [.long (wJ 6382692)]) (rest := []) c_254_5 mi_235 rfl rfl (Nat.le_of_ble_eq_true rfl) (Nat.le_of_ble_eq_true rfl) (lo (c := 83) (kd := 112) (n := 0) rfl (by decide)) (q_235 p1 ?_)
  show wi (d + 12) 254 8 [.ref 83, .int (wI x1)] [.int (wI (if σ 83 9 = 2 ∧ τ 83 11 = 6382692 then 1 else 0))] S σ τ Q
  refine i36f c_254_8 rfl (fun hc => ?_) (fun hc => ?_)
  · have t := iT t hc
    have ha2 : σ 83 9 = 2 ∧ τ 83 11 = 6382692 := hc
    refine i5 c_254_24 rfl (i5 c_254_25 rfl ?_)
    refine i80 (As := []) (rest := [.ref 83]) c_254_26 mi_252 rfl rfl (Nat.le_of_ble_eq_true rfl) (Nat.le_of_ble_eq_true rfl) (lo (c := 83) (kd := 112) (n := 0) rfl (by decide)) (q_252 ?_)
    show wi (d + 12) 254 29 [.ref 83, .int (wI x1)] [.long (wJ 1952541541), .ref 83] S σ τ Q
    obtain ⟨p3, t⟩ := t
    refine i80 (As := [.long (wJ 1952541541)]) (rest := []) c_254_29 mi_235 rfl rfl (Nat.le_of_ble_eq_true rfl) (Nat.le_of_ble_eq_true rfl) (lo (c := 83) (kd := 112) (n := 0) rfl (by decide)) (q_235 p3 ?_)
    show wi (d + 12) 254 32 [.ref 83, .int (wI x1)] [.int (wI (if σ 83 9 = 2 ∧ τ 83 11 = 1952541541 then 1 else 0))] S σ τ Q
    refine i36e c_254_32 rfl (fun hc => absurd hc (show ¬ (σ 83 9 = 2 ∧ τ 83 11 = 1952541541) by omega)) (fun _ => ?_)
    obtain ⟨T5, t⟩ := t
    obtain ⟨n6, t⟩ := t
    obtain ⟨s7, t⟩ := t
    obtain ⟨p8, t⟩ := t
    obtain ⟨p9, t⟩ := t
    obtain ⟨p10, t⟩ := t
    refine i5 c_254_45 rfl ?_
    refine i80 (As := []) (rest := []) c_254_46 mi_231 rfl rfl (Nat.le_of_ble_eq_true rfl) (Nat.le_of_ble_eq_true rfl) (lo (c := 83) (kd := 112) (n := 0) rfl (by decide)) (q_231t (T := T5) (n := n6) (s := s7) p8 p9 p10 (fun σ111 τ112 q13 q14 => ?_))
    have t := t σ111 τ112 q13 q14
    show wi (d + 12) 254 49 [.ref 83, .int (wI x1)] [] S σ111 τ112 Q
    obtain ⟨T15, t⟩ := t
    obtain ⟨n16, t⟩ := t
    obtain ⟨s17, t⟩ := t
    obtain ⟨p18, t⟩ := t
    obtain ⟨p19, t⟩ := t
    obtain ⟨p20, t⟩ := t
    obtain ⟨p21, t⟩ := t
    obtain ⟨p22, t⟩ := t
    obtain ⟨p23, t⟩ := t
    refine i5 c_254_49 rfl (i3 c_254_50 rfl ?_)
    refine i80 (As := [.int (wI x1)]) (rest := []) c_254_51 mi_253 rfl rfl (Nat.le_of_ble_eq_true rfl) (Nat.le_of_ble_eq_true rfl) (lo (c := 83) (kd := 112) (n := 0) rfl (by decide)) (q_253 (T := T15) (n := n16) (s := s17) p18 p19 p20 p21 p22 p23 (fun σ124 τ125 q26 q27 => ?_))
    have t := t σ124 τ125 q26 q27
    show wi (d + 12) 254 54 [.ref 83, .int (wI x1)] [.int (wI ((smO T15 n16 x1 (σ111 83 14) s17).1))] S σ124 τ125 Q
    exact i90 c_254_54 t
  · have t := iF t hc
    have ha2 : ¬ (σ 83 9 = 2 ∧ τ 83 11 = 6382692) := hc
    refine i5 c_254_11 rfl (i5 c_254_12 rfl ?_)
    refine i80 (As := []) (rest := [.ref 83]) c_254_13 mi_252 rfl rfl (Nat.le_of_ble_eq_true rfl) (Nat.le_of_ble_eq_true rfl) (lo (c := 83) (kd := 112) (n := 0) rfl (by decide)) (q_252 ?_)
    show wi (d + 12) 254 16 [.ref 83, .int (wI x1)] [.long (wJ 1952541541), .ref 83] S σ τ Q
    obtain ⟨p28, t⟩ := t
    refine i80 (As := [.long (wJ 1952541541)]) (rest := []) c_254_16 mi_235 rfl rfl (Nat.le_of_ble_eq_true rfl) (Nat.le_of_ble_eq_true rfl) (lo (c := 83) (kd := 112) (n := 0) rfl (by decide)) (q_235 p28 ?_)
    show wi (d + 12) 254 19 [.ref 83, .int (wI x1)] [.int (wI (if σ 83 9 = 2 ∧ τ 83 11 = 1952541541 then 1 else 0))] S σ τ Q
    refine i36f c_254_19 rfl (fun hc => ?_) (fun hc => ?_)
    · have t := iT t hc
      have ha29 : σ 83 9 = 2 ∧ τ 83 11 = 1952541541 := hc
      refine i5 c_254_24 rfl (i5 c_254_25 rfl ?_)
      refine i80 (As := []) (rest := [.ref 83]) c_254_26 mi_252 rfl rfl (Nat.le_of_ble_eq_true rfl) (Nat.le_of_ble_eq_true rfl) (lo (c := 83) (kd := 112) (n := 0) rfl (by decide)) (q_252 ?_)
      show wi (d + 12) 254 29 [.ref 83, .int (wI x1)] [.long (wJ 1952541541), .ref 83] S σ τ Q
      refine i80 (As := [.long (wJ 1952541541)]) (rest := []) c_254_29 mi_235 rfl rfl (Nat.le_of_ble_eq_true rfl) (Nat.le_of_ble_eq_true rfl) (lo (c := 83) (kd := 112) (n := 0) rfl (by decide)) (q_235 p28 ?_)
      show wi (d + 12) 254 32 [.ref 83, .int (wI x1)] [.int (wI (if σ 83 9 = 2 ∧ τ 83 11 = 1952541541 then 1 else 0))] S σ τ Q
      refine i36e c_254_32 rfl (fun _ => ?_) (fun hc => absurd (show σ 83 9 = 2 ∧ τ 83 11 = 1952541541 by omega) hc)
      obtain ⟨r31, t⟩ := t
      refine i5 c_254_35 rfl (i45 c_254_36 (lo (c := 83) (kd := 112) (n := 0) rfl (by decide)) (lro (c := 83) (k := 0) (j := 84) (by decide)) (i3 c_254_39 rfl (i34a c_254_40 (wi_ok (fun K32 => ?_)))))
      obtain ⟨w33, e34, r35, t⟩ := t
      obtain ⟨T36, t⟩ := t
      obtain ⟨n37, t⟩ := t
      obtain ⟨s38, t⟩ := t
      obtain ⟨p39, t⟩ := t
      obtain ⟨p40, t⟩ := t
      obtain ⟨p41, t⟩ := t
      refine i50 (v := σ 84 x1) c_254_41 (lo (c := 84) (kd := 0) (n := 112300) rfl (by decide)) (by decide) r31 rfl (i1 c_254_42 (i10 c_254_43 (i54 (σ1 := uc σ 84 (u1 (σ 84) x1 w33)) c_254_44 (lo (c := 84) (kd := 0) (n := 112300) rfl (by decide)) (by decide) r31 (by decide) e34 r35 (wr_ rfl rfl) (i5 c_254_45 rfl ?_))))
      refine i80 (As := []) (rest := []) c_254_46 mi_231 rfl rfl (Nat.le_of_ble_eq_true rfl) (Nat.le_of_ble_eq_true rfl) (lo (c := 83) (kd := 112) (n := 0) rfl (by decide)) (q_231t (T := T36) (n := n37) (s := s38) p39 p40 p41 (fun σ142 τ143 q44 q45 => ?_))
      have t := t σ142 τ143 q44 q45
      show wi (d + 12) 254 49 [.ref 83, .int (wI x1)] [] S σ142 τ143 Q
      obtain ⟨T46, t⟩ := t
      obtain ⟨n47, t⟩ := t
      obtain ⟨s48, t⟩ := t
      obtain ⟨p49, t⟩ := t
      obtain ⟨p50, t⟩ := t
      obtain ⟨p51, t⟩ := t
      obtain ⟨p52, t⟩ := t
      obtain ⟨p53, t⟩ := t
      obtain ⟨p54, t⟩ := t
      refine i5 c_254_49 rfl (i3 c_254_50 rfl ?_)
      refine i80 (As := [.int (wI x1)]) (rest := []) c_254_51 mi_253 rfl rfl (Nat.le_of_ble_eq_true rfl) (Nat.le_of_ble_eq_true rfl) (lo (c := 83) (kd := 112) (n := 0) rfl (by decide)) (q_253 (T := T46) (n := n47) (s := s48) p49 p50 p51 p52 p53 p54 (fun σ155 τ156 q57 q58 => ?_))
      have t := t σ155 τ156 q57 q58
      show wi (d + 12) 254 54 [.ref 83, .int (wI x1)] [.int (wI ((smO T46 n47 x1 (σ142 83 14) s48).1))] S σ155 τ156 Q
      exact i90 c_254_54 t
    · have t := iF t hc
      have ha29 : ¬ (σ 83 9 = 2 ∧ τ 83 11 = 1952541541) := hc
      refine i1 c_254_22 ?_
      exact i90 c_254_23 t
theorem q_254 {d : Nat} {S : zS} {σ τ : zI} {Q : zQ} {q : Int} {T : Int → Int} {n : Int} {s : Int} {v : Int} (p0 : TB T n) (p1 : TR T n s σ τ) (p2 : EB σ) (p3 : σ 83 12 ≤ q ∧ q + 8 ≤ σ 83 12 + 200) (p4 : σ 83 14 < s) (p5 : σ 83 17 = 0) (p6 : σ 84 q = v) (p7 : rg (v + 1)) (t : ∀ (σ1 : zI) (τ1 : zI), 0 ≤ (addO T n q (σ 83 14) v s).1 ∧ (addO T n q (σ 83 14) v s).1 ≤ 4 → GF T n σ τ (addO T n q (σ 83 14) v s) σ1 τ1 → Q (some (.int (wI ((addO T n q (σ 83 14) v s).1)))) S σ1 τ1) : wc (d + 12) 254 [.ref 83, .int (wI q)] S σ τ Q := by
  have w10 := TR_w p1 p0 (t := 10) (v := 6382692) (by omega) (fun x => by rw [wcd_10])
  have w11 := TR_w p1 p0 (t := 11) (v := 1952541541) (by omega) (fun x => by rw [wcd_11])
  have b0 := p2.2.1
  refine wc_of mi_254 rfl (u_254_0 ⟨by decide, ifI (fun e => ⟨by decide, T, n, s, p0, p1, tk_n (T := T) (by have := w10.mp e; omega), fun σ2 τ2 fk tr => ?_⟩) (fun e => ⟨by decide, ifI (fun e2 => ?_) (fun e2 => ?_)⟩)⟩)
  · have k10 := w10.mp e
    have nb := nx_b (T := T) (tk_n (T := T) (n := n) (s := s) (by omega))
    have f14 : σ2 83 14 = σ 83 14 := fk.2.1 14 (by omega)
    have f12 : σ2 83 12 = σ 83 12 := fk.2.1 12 (by omega)
    have g0 : GF T n σ τ (0, nx T n s, [], []) σ2 τ2 := GF_v tr (PGc_P (PF_F fk)) (fk.2.1 17 (by omega)) p2.2.2
    refine ⟨T, n, _, p0, tr, FK_EB p2 fk, by omega, by omega, by rw [fk.2.1 17 (by omega)]; exact p5, fun σ3 τ3 rb g => ?_⟩
    rw [f14] at rb g ⊢
    have ev : addO T n q (σ 83 14) v s = bnd (0, nx T n s, [], []) (smO T n q (σ 83 14)) := if_pos k10
    have h := t σ3 τ3
    rw [ev, bnd_2 rfl] at h
    exact h rb (GF_2 rfl g0 b0 g)
  · have k11 := w11.mp e2
    have nb := nx_b (T := T) (tk_n (T := T) (n := n) (s := s) (by omega))
    refine ⟨by have := p2.1; omega, σ 84 q + 1, rfl, by rw [p6]; exact p7, T, n, s, p0, TR_84 p1, tk_n (T := T) (by omega), fun σ2 τ2 fk tr => ?_⟩
    have q83 : (uc σ 84 (u1 (σ 84) q (σ 84 q + 1))) 83 = σ 83 := uc_n (by decide)
    have f14 : σ2 83 14 = σ 83 14 := by rw [fk.2.1 14 (by omega), q83]
    have f12 : σ2 83 12 = σ 83 12 := by rw [fk.2.1 12 (by omega), q83]
    have f17 : σ2 83 17 = σ 83 17 := by rw [fk.2.1 17 (by omega), q83]
    have pg : PGc σ σ2 τ τ2 [] [(q, v + 1)] 0 := by
      have := PGc_n (PGc_w (σ := σ) (τ := τ) (j := q) (v := σ 84 q + 1) (by omega)) (PF_F fk) b0
      rw [p6] at this
      rw [p6] at *
      exact this
    have g0 : GF T n σ τ (0, nx T n s, [], [(q, v + 1)]) σ2 τ2 := GF_v tr pg f17 p2.2.2
    refine ⟨T, n, _, p0, tr, EB_f p2 f12 (by rw [f14]; exact p2.2), by omega, by omega, by omega, fun σ3 τ3 rb g => ?_⟩
    rw [f14] at rb g ⊢
    have ev : addO T n q (σ 83 14) v s = bnd (0, nx T n s, [], [(q, v + 1)]) (smO T n q (σ 83 14)) := by
      unfold addO
      rw [if_neg (by omega), if_pos k11]
    have h := t σ3 τ3
    rw [ev, bnd_2 rfl] at h
    exact h rb (GF_2 rfl g0 b0 g)
  · have ev : addO T n q (σ 83 14) v s = (1, s, [], []) := by
      unfold addO
      rw [if_neg (fun z => e (w10.mpr z)), if_neg (fun z => e2 (w11.mpr z))]
    have h := t σ τ
    rw [ev] at h
    exact h (by show (0 : Int) ≤ 1 ∧ (1 : Int) ≤ 4; omega) (GF_e (by decide) p1 p2.2.2)
section RKS
variable {T : Int → Int} {n : Int}
/-- it goes on, and writes no more than it reads -/
def RK (n s : Int) (R : RW) : Prop := R.1 = 0 → s < R.2.1 ∧ R.2.1 ≤ n ∧ (R.2.2.1.length : Int) ≤ R.2.1 - s
theorem RK_e {s r e : Int} (hr : r ≠ 0) : RK n s (r, e, [], []) := fun z => absurd z hr
theorem RK_v {s : Int} {W : List (Int × Int)} (h : tk T n s ≠ 1) : RK n s (0, nx T n s, [], W) := fun _ => by
  have nb := nx_b (T := T) (tk_n (T := T) (n := n) (s := s) h)
  refine ⟨nb.1, nb.2, ?_⟩
  show (([] : List (Int × Int)).length : Int) ≤ nx T n s - s
  rw [List.length_nil]; omega
theorem RK_b {s : Int} {A : RW} {f : Int → RW} (h : RK n s A) (g : ∀ s1, s < s1 → s1 ≤ n → RK n s1 (f s1)) : RK n s (bnd A f) := by
  unfold bnd
  by_cases e : A.1 ≠ 0
  · rw [if_pos e]; exact RK_e e
  rw [if_neg e]
  by_cases e2 : (f A.2.1).1 ≠ 0
  · rw [if_pos e2]; exact RK_e e2
  rw [if_neg e2]
  intro _
  have a := h (by omega)
  have b := g A.2.1 a.1 a.2.1 (by omega)
  refine ⟨?_, b.2.1, ?_⟩
  · show s < (f A.2.1).2.1; omega
  · show ((A.2.2.1 ++ (f A.2.1).2.2.1).length : Int) ≤ (f A.2.1).2.1 - s
    rw [List.length_append]; omega
theorem numO_k {lo hi j s : Int} : RK n s (numO T n lo hi j s) := by
  unfold numO
  by_cases c : tk T n s = 2
  · rw [if_pos c]
    by_cases c2 : lo ≤ nm T n s ∧ nm T n s ≤ hi
    · rw [if_pos c2]; exact RK_v (by omega)
    · rw [if_neg c2]; exact RK_e (by decide)
  · rw [if_neg c]; exact RK_e (by decide)
theorem nedO_k {t s : Int} (ht : t ≠ 1) : RK n s (nedO T n t s) := by
  unfold nedO
  by_cases c : tk T n s = t
  · rw [if_pos c]; exact RK_v (by omega)
  · rw [if_neg c]; exact RK_e (by decide)
theorem ageO_k {q s : Int} : RK n s (ageO T n q s) := RK_b numO_k fun s1 _ _ => RK_b (nedO_k (by decide)) fun s2 _ _ => RK_b numO_k fun s3 _ _ => RK_b (nedO_k (by decide)) fun s4 _ _ => numO_k
theorem smO_k (n3 : n ≤ 300) {q c s : Int} (h1 : 0 ≤ s) (h2 : s ≤ n) : RK n s (smO T n q c s) := by
  have so := sumO_ok (T := T) n3 (oneK_ok (T := T) n3 8 (by omega)) h1 h2
  unfold smO
  generalize sumO T n (oneK T n 8) s = R at so ⊢
  by_cases e : R.1 ≠ 0
  · rw [if_pos e]; exact RK_e e
  rw [if_neg e]
  have := so.1 (by omega)
  exact fun _ => ⟨this.1, this.2.1, this.2.2.1⟩
theorem addO_k (n3 : n ≤ 300) {q c v s : Int} (h1 : 0 ≤ s) : RK n s (addO T n q c v s) := by
  unfold addO
  by_cases c1 : tk T n s = 10
  · rw [if_pos c1]
    exact RK_b (RK_v (by omega)) fun s1 a b => smO_k n3 (by omega) b
  rw [if_neg c1]
  by_cases c2 : tk T n s = 11
  · rw [if_pos c2]
    exact RK_b (RK_v (by omega)) fun s1 a b => smO_k n3 (by omega) b
  · rw [if_neg c2]; exact RK_e (by decide)
theorem eitW_k (n3 : n ≤ 300) {q c s : Int} (h1 : 0 ≤ s) (h2 : s ≤ n) : RK n s (eitW T n q c s) := by
  have l0 : (([] : List (Int × Int)).length : Int) = 0 := rfl
  have la0 : ((anO 0).length : Int) = 0 := rfl
  have lo0 : ((orO 0).length : Int) = 0 := rfl
  have so := eitO_ok (T := T) n3 301 s [] 0 0 s h1 (by omega) h2 (by omega) (by omega)
  unfold eitW
  generalize eitO T n 301 s [] 0 0 = R at so ⊢
  by_cases e : R.1 ≠ 0
  · rw [if_pos e]; exact RK_e e
  rw [if_neg e]
  have := so.1 (by omega)
  exact fun _ => ⟨this.1, this.2.1, this.2.2⟩
theorem bodyO_k (n3 : n ≤ 300) {q c t s : Int} (h1 : 0 ≤ s) (h2 : s ≤ n) : RK n s (bodyO T n q c t s) := by
  unfold bodyO
  by_cases c1 : t = 3
  · rw [if_pos c1]; exact smO_k n3 h1 h2
  rw [if_neg c1]
  by_cases c1 : t = 4
  · rw [if_pos c1]; exact RK_b numO_k fun s1 a b => addO_k n3 (by omega)
  rw [if_neg c1]
  by_cases c1 : t = 5
  · rw [if_pos c1]; exact RK_b (eitW_k n3 h1 h2) fun s1 a b => addO_k n3 (by omega)
  rw [if_neg c1]
  by_cases c1 : t = 6
  · rw [if_pos c1]; exact numO_k
  rw [if_neg c1]
  by_cases c1 : t = 7
  · rw [if_pos c1]; exact ageO_k
  rw [if_neg c1]
  exact numO_k
theorem clsO_k (n3 : n ≤ 300) {m q c s : Int} (h1 : 0 ≤ s) : RK n s (clsO T n m q c s) := by
  unfold clsO
  by_cases c1 : srtO (tk T n s) = 0
  · rw [if_pos c1]; exact RK_e (by decide)
  rw [if_neg c1]
  by_cases c2 : m = 24
  · rw [if_pos c2]; exact RK_e (by decide)
  rw [if_neg c2]
  exact RK_b (RK_v (fun z => c1 (by rw [z]; decide))) fun s1 a b => RK_b (bodyO_k n3 (by omega) b) fun s2 _ _ => nedO_k (by decide)
end RKS
/-- what a CLAUSE comes to -/
def CF (T : Int → Int) (n : Int) (σ τ : zI) (R : RW) (σ1 τ1 : zI) : Prop := TR T n R.2.1 σ1 τ1 ∧ (R.1 = 0 → PGc σ σ1 τ τ1 R.2.2.1 R.2.2.2 1 ∧ σ1 83 17 = σ 83 17) ∧ ∃ L W e, PGc σ σ1 τ τ1 L W e ∧ σ1 83 14 ≤ 310
theorem bnd_3 {A X : RW} {f : Int → RW} (e : A.1 = 0) (h : f A.2.1 = X) (e2 : X.1 ≠ 0) : bnd A f = (X.1, X.2.1, [], []) := by
  subst h
  unfold bnd
  rw [if_neg (by omega), if_pos e2]
theorem bnd_4 {A X : RW} {f : Int → RW} (e : A.1 = 0) (h : f A.2.1 = X) (e2 : X.1 = 0) : bnd A f = (0, X.2.1, A.2.2.1 ++ X.2.2.1, A.2.2.2 ++ X.2.2.2) := by
  subst h
  unfold bnd
  rw [if_neg (by omega), if_neg (by omega)]
theorem PGc_13 {σ τ : zI} : PGc σ (uc σ 83 (u1 (σ 83) 13 (σ 83 13 + 1))) τ τ [] [] 1 := by
  refine ⟨⟨?_, trivial, fun x hx => (List.not_mem_nil hx).elim, fun k _ => ?_⟩, fun c c1 c2 c3 => uc_n c1, fun k hk => ?_, fun _ _ => rfl, fun _ _ => rfl, ?_⟩
  · rw [uc_s, u1_n (by omega), List.length_nil]; omega
  · rw [uc_n (by decide)]; rfl
  · rw [uc_s, u1_n (by omega)]
  · rw [uc_s, u1_s]
theorem srtO_b (t : Int) : 0 ≤ srtO t ∧ srtO t ≤ 9 ∧ (srtO t = 1 ↔ t = 3) ∧ (srtO t = 2 ↔ t = 4) ∧ (srtO t = 4 ↔ t = 5) ∧ (srtO t = 6 ↔ t = 6) ∧ (srtO t = 7 ↔ t = 7) ∧ (8 ≤ srtO t ↔ t = 8 ∨ t = 9) ∧ (srtO t ≠ 0 → 3 ≤ t ∧ t ≤ 9) := by
  unfold srtO
  by_cases c : t = 3
  · rw [if_pos c]; omega
  rw [if_neg c]
  by_cases c : t = 4
  · rw [if_pos c]; omega
  rw [if_neg c]
  by_cases c : t = 5
  · rw [if_pos c]; omega
  rw [if_neg c]
  by_cases c : 6 ≤ t ∧ t ≤ 9
  · rw [if_pos c]; omega
  rw [if_neg c]; omega
-- method 257: MillTownModel.clause()I
theorem c_257_0 : pg_cd 257 0 = (5, 1, 0, 0, 0) := by decide +kernel
theorem c_257_1 : pg_cd 257 1 = (80, 255, 256, 0, 0) := by decide +kernel
theorem c_257_4 : pg_cd 257 4 = (6, 1, 0, 1, 0) := by decide +kernel
theorem c_257_5 : pg_cd 257 5 = (3, 1, 0, 1, 0) := by decide +kernel
theorem c_257_6 : pg_cd 257 6 = (36, 3, 0, 1, 5) := by decide +kernel
theorem c_257_9 : pg_cd 257 9 = (1, 1, 0, 0, 1) := by decide +kernel
theorem c_257_10 : pg_cd 257 10 = (90, 0, 0, 0, 0) := by decide +kernel
theorem c_257_11 : pg_cd 257 11 = (5, 1, 0, 0, 0) := by decide +kernel
theorem c_257_12 : pg_cd 257 12 = (43, 12, 259, 13, 0) := by decide +kernel
theorem c_257_15 : pg_cd 257 15 = (1, 2, 0, 0, 24) := by decide +kernel
theorem c_257_17 : pg_cd 257 17 = (37, 3, 0, 1, 5) := by decide +kernel
theorem c_257_20 : pg_cd 257 20 = (1, 1, 0, 0, 4) := by decide +kernel
theorem c_257_21 : pg_cd 257 21 = (90, 0, 0, 0, 0) := by decide +kernel
theorem c_257_22 : pg_cd 257 22 = (5, 1, 0, 0, 0) := by decide +kernel
theorem c_257_23 : pg_cd 257 23 = (43, 12, 171, 12, 0) := by decide +kernel
theorem c_257_26 : pg_cd 257 26 = (1, 1, 0, 0, 1) := by decide +kernel
theorem c_257_27 : pg_cd 257 27 = (10, 1, 0, 0, 0) := by decide +kernel
theorem c_257_28 : pg_cd 257 28 = (1, 2, 0, 0, 8) := by decide +kernel
theorem c_257_30 : pg_cd 257 30 = (5, 1, 0, 0, 0) := by decide +kernel
theorem c_257_31 : pg_cd 257 31 = (43, 12, 259, 13, 0) := by decide +kernel
theorem c_257_34 : pg_cd 257 34 = (12, 1, 0, 0, 0) := by decide +kernel
theorem c_257_35 : pg_cd 257 35 = (10, 1, 0, 0, 0) := by decide +kernel
theorem c_257_36 : pg_cd 257 36 = (6, 1, 0, 2, 0) := by decide +kernel
theorem c_257_37 : pg_cd 257 37 = (5, 1, 0, 0, 0) := by decide +kernel
theorem c_257_38 : pg_cd 257 38 = (45, 12, 8, 0, 0) := by decide +kernel
theorem c_257_41 : pg_cd 257 41 = (3, 1, 0, 2, 0) := by decide +kernel
theorem c_257_42 : pg_cd 257 42 = (3, 1, 0, 1, 0) := by decide +kernel
theorem c_257_43 : pg_cd 257 43 = (54, 1, 0, 0, 0) := by decide +kernel
theorem c_257_44 : pg_cd 257 44 = (5, 1, 0, 0, 0) := by decide +kernel
theorem c_257_45 : pg_cd 257 45 = (80, 231, 168, 0, 0) := by decide +kernel
theorem c_257_48 : pg_cd 257 48 = (1, 1, 0, 0, 0) := by decide +kernel
theorem c_257_49 : pg_cd 257 49 = (6, 1, 0, 3, 0) := by decide +kernel
theorem c_257_50 : pg_cd 257 50 = (3, 1, 0, 1, 0) := by decide +kernel
theorem c_257_51 : pg_cd 257 51 = (1, 1, 0, 0, 1) := by decide +kernel
theorem c_257_52 : pg_cd 257 52 = (37, 3, 0, 1, 9) := by decide +kernel
theorem c_257_55 : pg_cd 257 55 = (5, 1, 0, 0, 0) := by decide +kernel
theorem c_257_56 : pg_cd 257 56 = (3, 1, 0, 2, 0) := by decide +kernel
theorem c_257_57 : pg_cd 257 57 = (80, 253, 243, 0, 0) := by decide +kernel
theorem c_257_60 : pg_cd 257 60 = (6, 1, 0, 3, 0) := by decide +kernel
theorem c_257_61 : pg_cd 257 61 = (3, 1, 0, 1, 0) := by decide +kernel
theorem c_257_62 : pg_cd 257 62 = (1, 1, 0, 0, 2) := by decide +kernel
theorem c_257_63 : pg_cd 257 63 = (37, 3, 0, 1, 24) := by decide +kernel
theorem c_257_66 : pg_cd 257 66 = (5, 1, 0, 0, 0) := by decide +kernel
theorem c_257_67 : pg_cd 257 67 = (1, 1, 0, 0, 0) := by decide +kernel
theorem c_257_68 : pg_cd 257 68 = (1, 2, 0, 0, 29) := by decide +kernel
theorem c_257_70 : pg_cd 257 70 = (3, 1, 0, 2, 0) := by decide +kernel
theorem c_257_71 : pg_cd 257 71 = (1, 1, 0, 0, 1) := by decide +kernel
theorem c_257_72 : pg_cd 257 72 = (10, 1, 0, 0, 0) := by decide +kernel
theorem c_257_73 : pg_cd 257 73 = (80, 237, 246, 0, 0) := by decide +kernel
theorem c_257_76 : pg_cd 257 76 = (6, 1, 0, 3, 0) := by decide +kernel
theorem c_257_77 : pg_cd 257 77 = (3, 1, 0, 3, 0) := by decide +kernel
theorem c_257_78 : pg_cd 257 78 = (36, 3, 0, 1, 9) := by decide +kernel
theorem c_257_81 : pg_cd 257 81 = (5, 1, 0, 0, 0) := by decide +kernel
theorem c_257_82 : pg_cd 257 82 = (3, 1, 0, 2, 0) := by decide +kernel
theorem c_257_83 : pg_cd 257 83 = (80, 254, 262, 0, 0) := by decide +kernel
theorem c_257_86 : pg_cd 257 86 = (6, 1, 0, 3, 0) := by decide +kernel
theorem c_257_87 : pg_cd 257 87 = (3, 1, 0, 1, 0) := by decide +kernel
theorem c_257_88 : pg_cd 257 88 = (1, 1, 0, 0, 4) := by decide +kernel
theorem c_257_89 : pg_cd 257 89 = (37, 3, 0, 1, 42) := by decide +kernel
theorem c_257_92 : pg_cd 257 92 = (5, 1, 0, 0, 0) := by decide +kernel
theorem c_257_93 : pg_cd 257 93 = (45, 12, 8, 0, 0) := by decide +kernel
theorem c_257_96 : pg_cd 257 96 = (3, 1, 0, 2, 0) := by decide +kernel
theorem c_257_97 : pg_cd 257 97 = (1, 1, 0, 0, 4) := by decide +kernel
theorem c_257_98 : pg_cd 257 98 = (10, 1, 0, 0, 0) := by decide +kernel
theorem c_257_99 : pg_cd 257 99 = (5, 1, 0, 0, 0) := by decide +kernel
theorem c_257_100 : pg_cd 257 100 = (43, 12, 174, 14, 0) := by decide +kernel
theorem c_257_103 : pg_cd 257 103 = (54, 1, 0, 0, 0) := by decide +kernel
theorem c_257_104 : pg_cd 257 104 = (5, 1, 0, 0, 0) := by decide +kernel
theorem c_257_105 : pg_cd 257 105 = (80, 250, 265, 0, 0) := by decide +kernel
theorem c_257_108 : pg_cd 257 108 = (6, 1, 0, 3, 0) := by decide +kernel
theorem c_257_109 : pg_cd 257 109 = (5, 1, 0, 0, 0) := by decide +kernel
theorem c_257_110 : pg_cd 257 110 = (45, 12, 8, 0, 0) := by decide +kernel
theorem c_257_113 : pg_cd 257 113 = (3, 1, 0, 2, 0) := by decide +kernel
theorem c_257_114 : pg_cd 257 114 = (1, 1, 0, 0, 5) := by decide +kernel
theorem c_257_115 : pg_cd 257 115 = (10, 1, 0, 0, 0) := by decide +kernel
theorem c_257_116 : pg_cd 257 116 = (5, 1, 0, 0, 0) := by decide +kernel
theorem c_257_117 : pg_cd 257 117 = (43, 12, 174, 14, 0) := by decide +kernel
theorem c_257_120 : pg_cd 257 120 = (54, 1, 0, 0, 0) := by decide +kernel
theorem c_257_121 : pg_cd 257 121 = (3, 1, 0, 3, 0) := by decide +kernel
theorem c_257_122 : pg_cd 257 122 = (36, 3, 0, 1, 9) := by decide +kernel
theorem c_257_125 : pg_cd 257 125 = (5, 1, 0, 0, 0) := by decide +kernel
theorem c_257_126 : pg_cd 257 126 = (3, 1, 0, 2, 0) := by decide +kernel
theorem c_257_127 : pg_cd 257 127 = (80, 254, 262, 0, 0) := by decide +kernel
theorem c_257_130 : pg_cd 257 130 = (6, 1, 0, 3, 0) := by decide +kernel
theorem c_257_131 : pg_cd 257 131 = (3, 1, 0, 1, 0) := by decide +kernel
theorem c_257_132 : pg_cd 257 132 = (1, 2, 0, 0, 6) := by decide +kernel
theorem c_257_134 : pg_cd 257 134 = (37, 3, 0, 1, 15) := by decide +kernel
theorem c_257_137 : pg_cd 257 137 = (5, 1, 0, 0, 0) := by decide +kernel
theorem c_257_138 : pg_cd 257 138 = (1, 1, 0, 0, 0) := by decide +kernel
theorem c_257_139 : pg_cd 257 139 = (1, 3, 0, 0, 9999) := by decide +kernel
theorem c_257_142 : pg_cd 257 142 = (3, 1, 0, 2, 0) := by decide +kernel
theorem c_257_143 : pg_cd 257 143 = (1, 1, 0, 0, 1) := by decide +kernel
theorem c_257_144 : pg_cd 257 144 = (10, 1, 0, 0, 0) := by decide +kernel
theorem c_257_145 : pg_cd 257 145 = (80, 237, 246, 0, 0) := by decide +kernel
theorem c_257_148 : pg_cd 257 148 = (6, 1, 0, 3, 0) := by decide +kernel
theorem c_257_149 : pg_cd 257 149 = (3, 1, 0, 1, 0) := by decide +kernel
theorem c_257_150 : pg_cd 257 150 = (1, 2, 0, 0, 7) := by decide +kernel
theorem c_257_152 : pg_cd 257 152 = (37, 3, 0, 1, 9) := by decide +kernel
theorem c_257_155 : pg_cd 257 155 = (5, 1, 0, 0, 0) := by decide +kernel
theorem c_257_156 : pg_cd 257 156 = (3, 1, 0, 2, 0) := by decide +kernel
theorem c_257_157 : pg_cd 257 157 = (80, 256, 268, 0, 0) := by decide +kernel
theorem c_257_160 : pg_cd 257 160 = (6, 1, 0, 3, 0) := by decide +kernel
theorem c_257_161 : pg_cd 257 161 = (3, 1, 0, 1, 0) := by decide +kernel
theorem c_257_162 : pg_cd 257 162 = (1, 2, 0, 0, 7) := by decide +kernel
theorem c_257_164 : pg_cd 257 164 = (37, 3, 0, 5, 14) := by decide +kernel
theorem c_257_167 : pg_cd 257 167 = (5, 1, 0, 0, 0) := by decide +kernel
theorem c_257_168 : pg_cd 257 168 = (1, 1, 0, 0, 0) := by decide +kernel
theorem c_257_169 : pg_cd 257 169 = (1, 2, 0, 0, 20) := by decide +kernel
theorem c_257_171 : pg_cd 257 171 = (3, 1, 0, 2, 0) := by decide +kernel
theorem c_257_172 : pg_cd 257 172 = (1, 1, 0, 0, 1) := by decide +kernel
theorem c_257_173 : pg_cd 257 173 = (10, 1, 0, 0, 0) := by decide +kernel
theorem c_257_174 : pg_cd 257 174 = (80, 237, 246, 0, 0) := by decide +kernel
theorem c_257_177 : pg_cd 257 177 = (6, 1, 0, 3, 0) := by decide +kernel
theorem c_257_178 : pg_cd 257 178 = (3, 1, 0, 3, 0) := by decide +kernel
theorem c_257_179 : pg_cd 257 179 = (36, 3, 0, 0, 5) := by decide +kernel
theorem c_257_182 : pg_cd 257 182 = (3, 1, 0, 3, 0) := by decide +kernel
theorem c_257_183 : pg_cd 257 183 = (90, 0, 0, 0, 0) := by decide +kernel
theorem c_257_184 : pg_cd 257 184 = (5, 1, 0, 0, 0) := by decide +kernel
theorem c_257_185 : pg_cd 257 185 = (43, 12, 144, 9, 0) := by decide +kernel
theorem c_257_188 : pg_cd 257 188 = (1, 2, 0, 0, 59) := by decide +kernel
theorem c_257_190 : pg_cd 257 190 = (37, 3, 0, 0, 5) := by decide +kernel
theorem c_257_193 : pg_cd 257 193 = (1, 1, 0, 0, 1) := by decide +kernel
theorem c_257_194 : pg_cd 257 194 = (90, 0, 0, 0, 0) := by decide +kernel
theorem c_257_195 : pg_cd 257 195 = (5, 1, 0, 0, 0) := by decide +kernel
theorem c_257_196 : pg_cd 257 196 = (33, 1, 0, 0, 0) := by decide +kernel
theorem c_257_197 : pg_cd 257 197 = (43, 12, 259, 13, 0) := by decide +kernel
theorem c_257_200 : pg_cd 257 200 = (1, 1, 0, 0, 1) := by decide +kernel
theorem c_257_201 : pg_cd 257 201 = (10, 1, 0, 0, 0) := by decide +kernel
theorem c_257_202 : pg_cd 257 202 = (46, 12, 259, 13, 0) := by decide +kernel
theorem c_257_205 : pg_cd 257 205 = (5, 1, 0, 0, 0) := by decide +kernel
theorem c_257_206 : pg_cd 257 206 = (80, 231, 168, 0, 0) := by decide +kernel
theorem c_257_209 : pg_cd 257 209 = (1, 1, 0, 0, 0) := by decide +kernel
theorem c_257_210 : pg_cd 257 210 = (90, 0, 0, 0, 0) := by decide +kernel
theorem mi_257 : pg_mc 257 = 12 ∧ pg_na 257 = 0 ∧ pg_mx 257 = 4 := by decide +kernel
set_option maxRecDepth 20000 in
theorem u_257_0 {d : Nat} {S : zS} {σ τ : zI} {Q : zQ} (t : ∃ T1 : Int → Int, ∃ n2 : Int, ∃ s3 : Int, (TB T1 n2) ∧ (TR T1 n2 s3 σ τ) ∧ (rg (srtO (tk T1 n2 s3))) ∧ if (srtO (tk T1 n2 s3)) = 0 then (Q (some (.int (wI 1))) S σ τ) else (if (σ 83 13) = 24 then (Q (some (.int (wI 4))) S σ τ) else ((0 ≤ ((σ 83 12) + 1) + (8 * (σ 83 13)) ∧ ((σ 83 12) + 1) + (8 * (σ 83 13)) < 112300) ∧ ∃ T11 : Int → Int, ∃ n12 : Int, ∃ s13 : Int, (TB T11 n12) ∧ (TR T11 n12 s13 (uc σ 84 (u1 (σ 84) (((σ 83 12) + 1) + (8 * (σ 83 13))) (srtO (tk T1 n2 s3)))) τ) ∧ (s13 < n12) ∧ ∀ (σ117 : zI) (τ118 : zI), FK (uc σ 84 (u1 (σ 84) (((σ 83 12) + 1) + (8 * (σ 83 13))) (srtO (tk T1 n2 s3)))) σ117 τ τ118 → TR T11 n12 (nx T11 n12 s13) σ117 τ118 → if (srtO (tk T1 n2 s3)) = 1 then (∃ T22 : Int → Int, ∃ n23 : Int, ∃ s24 : Int, (TB T22 n23) ∧ (TR T22 n23 s24 σ117 τ118) ∧ (EB σ117) ∧ (σ117 83 12 ≤ (((σ 83 12) + 1) + (8 * (σ 83 13))) ∧ (((σ 83 12) + 1) + (8 * (σ 83 13))) + 8 ≤ σ117 83 12 + 200) ∧ (σ117 83 14 < s24) ∧ (σ117 83 17 = 0) ∧ ∀ (σ131 : zI) (τ132 : zI), 0 ≤ (smO T22 n23 (((σ 83 12) + 1) + (8 * (σ 83 13))) (σ117 83 14) s24).1 ∧ (smO T22 n23 (((σ 83 12) + 1) + (8 * (σ 83 13))) (σ117 83 14) s24).1 ≤ 4 → GF T22 n23 σ117 τ118 (smO T22 n23 (((σ 83 12) + 1) + (8 * (σ 83 13))) (σ117 83 14) s24) σ131 τ132 → wi (d + 13) 257 61 [.ref 83, .int (wI (srtO (tk T1 n2 s3))), .int (wI (((σ 83 12) + 1) + (8 * (σ 83 13)))), .int (wI ((smO T22 n23 (((σ 83 12) + 1) + (8 * (σ 83 13))) (σ117 83 14) s24).1))] [] S σ131 τ132 Q) else (wi (d + 13) 257 61 [.ref 83, .int (wI (srtO (tk T1 n2 s3))), .int (wI (((σ 83 12) + 1) + (8 * (σ 83 13)))), .int (wI 0)] [] S σ117 τ118 Q)))) : wi (d + 13) 257 0 [.ref 83, .retAddr 0, .retAddr 0, .retAddr 0] [] S σ τ Q := by
  obtain ⟨T1, t⟩ := t
  obtain ⟨n2, t⟩ := t
  obtain ⟨s3, t⟩ := t
  obtain ⟨p4, t⟩ := t
  obtain ⟨p5, t⟩ := t
  refine i5 c_257_0 rfl ?_
  refine i80 (As := []) (rest := []) c_257_1 mi_255 rfl rfl (Nat.le_of_ble_eq_true rfl) (Nat.le_of_ble_eq_true rfl) (lo (c := 83) (kd := 112) (n := 0) rfl (by decide)) (q_255 (T := T1) (n := n2) (s := s3) p4 p5 ?_)
  show wi (d + 13) 257 4 [.ref 83, .retAddr 0, .retAddr 0, .retAddr 0] [.int (wI (srtO (tk T1 n2 s3)))] S σ τ Q
  obtain ⟨r6, t⟩ := t
  refine i6 (L' := [.ref 83, .int (wI (srtO (tk T1 n2 s3))), .retAddr 0, .retAddr 0]) c_257_4 rfl (i3 c_257_5 rfl ?_)
  refine i36 c_257_6 r6 rfl (fun hc => ?_) (fun hc => ?_)
  · have t := iF t hc
    have ha7 : ¬ ((srtO (tk T1 n2 s3)) = 0) := hc
    refine i5 c_257_11 rfl (wi_ok (fun K8 => ?_))
    refine i43 (v := σ 83 13) c_257_12 (lo (c := 83) (kd := 112) (n := 0) rfl (by decide)) rfl (i1 c_257_15 ?_)
    refine i37 c_257_17 (rge_ K8 rfl) (by decide) rfl (fun hc => ?_) (fun hc => ?_)
    · have t := iF t hc
      have ha9 : ¬ ((σ 83 13) = 24) := hc
      obtain ⟨r10, t⟩ := t
      obtain ⟨T11, t⟩ := t
      obtain ⟨n12, t⟩ := t
      obtain ⟨s13, t⟩ := t
      obtain ⟨p14, t⟩ := t
      obtain ⟨p15, t⟩ := t
      obtain ⟨p16, t⟩ := t
      refine i5 c_257_22 rfl (i43 (v := σ 83 12) c_257_23 (lo (c := 83) (kd := 112) (n := 0) rfl (by decide)) rfl (i1 c_257_26 (i10 c_257_27 (i1 c_257_28 (i5 c_257_30 rfl (i43 (v := σ 83 13) c_257_31 (lo (c := 83) (kd := 112) (n := 0) rfl (by decide)) rfl (i12 c_257_34 (i10 c_257_35 (i6 (L' := [.ref 83, .int (wI (srtO (tk T1 n2 s3))), .int (wI (((σ 83 12) + 1) + (8 * (σ 83 13)))), .retAddr 0]) c_257_36 rfl (i5 c_257_37 rfl (i45 c_257_38 (lo (c := 83) (kd := 112) (n := 0) rfl (by decide)) (lro (c := 83) (k := 0) (j := 84) (by decide)) (i3 c_257_41 rfl (i3 c_257_42 rfl (i54 (σ1 := uc σ 84 (u1 (σ 84) (((σ 83 12) + 1) + (8 * (σ 83 13))) (srtO (tk T1 n2 s3)))) c_257_43 (lo (c := 84) (kd := 0) (n := 112300) rfl (by decide)) (by decide) r10 (by decide) rfl r6 (wr_ rfl rfl) (i5 c_257_44 rfl ?_)))))))))))))))
      refine i80 (As := []) (rest := []) c_257_45 mi_231 rfl rfl (Nat.le_of_ble_eq_true rfl) (Nat.le_of_ble_eq_true rfl) (lo (c := 83) (kd := 112) (n := 0) rfl (by decide)) (q_231t (T := T11) (n := n12) (s := s13) p14 p15 p16 (fun σ117 τ118 q19 q20 => ?_))
      have t := t σ117 τ118 q19 q20
      show wi (d + 13) 257 48 [.ref 83, .int (wI (srtO (tk T1 n2 s3))), .int (wI (((σ 83 12) + 1) + (8 * (σ 83 13)))), .retAddr 0] [] S σ117 τ118 Q
      refine i1 c_257_48 (i6 (L' := [.ref 83, .int (wI (srtO (tk T1 n2 s3))), .int (wI (((σ 83 12) + 1) + (8 * (σ 83 13)))), .int (wI 0)]) c_257_49 rfl (i3 c_257_50 rfl (i1 c_257_51 ?_)))
      refine i37 c_257_52 r6 (by decide) rfl (fun hc => ?_) (fun hc => ?_)
      · have t := iF t hc
        have ha21 : ¬ ((srtO (tk T1 n2 s3)) = 1) := hc
        exact t
      · have t := iT t (Decidable.not_not.mp hc)
        have ha21 : (srtO (tk T1 n2 s3)) = 1 := Decidable.not_not.mp hc
        obtain ⟨T22, t⟩ := t
        obtain ⟨n23, t⟩ := t
        obtain ⟨s24, t⟩ := t
        obtain ⟨p25, t⟩ := t
        obtain ⟨p26, t⟩ := t
        obtain ⟨p27, t⟩ := t
        obtain ⟨p28, t⟩ := t
        obtain ⟨p29, t⟩ := t
        obtain ⟨p30, t⟩ := t
        refine i5 c_257_55 rfl (i3 c_257_56 rfl ?_)
        refine i80 (As := [.int (wI (((σ 83 12) + 1) + (8 * (σ 83 13))))]) (rest := []) c_257_57 mi_253 rfl rfl (Nat.le_of_ble_eq_true rfl) (Nat.le_of_ble_eq_true rfl) (lo (c := 83) (kd := 112) (n := 0) rfl (by decide)) (q_253 (T := T22) (n := n23) (s := s24) p25 p26 p27 p28 p29 p30 (fun σ131 τ132 q33 q34 => ?_))
        have t := t σ131 τ132 q33 q34
        show wi (d + 13) 257 60 [.ref 83, .int (wI (srtO (tk T1 n2 s3))), .int (wI (((σ 83 12) + 1) + (8 * (σ 83 13)))), .int (wI 0)] [.int (wI ((smO T22 n23 (((σ 83 12) + 1) + (8 * (σ 83 13))) (σ117 83 14) s24).1))] S σ131 τ132 Q
        refine i6 (L' := [.ref 83, .int (wI (srtO (tk T1 n2 s3))), .int (wI (((σ 83 12) + 1) + (8 * (σ 83 13)))), .int (wI ((smO T22 n23 (((σ 83 12) + 1) + (8 * (σ 83 13))) (σ117 83 14) s24).1))]) c_257_60 rfl t
    · have t := iT t (Decidable.not_not.mp hc)
      have ha9 : (σ 83 13) = 24 := Decidable.not_not.mp hc
      refine i1 c_257_20 ?_
      exact i90 c_257_21 t
  · have t := iT t (Decidable.not_not.mp hc)
    have ha7 : (srtO (tk T1 n2 s3)) = 0 := Decidable.not_not.mp hc
    refine i1 c_257_9 ?_
    exact i90 c_257_10 t
set_option maxRecDepth 20000 in
theorem u_257_61 {d : Nat} {S : zS} {σ τ : zI} {Q : zQ} {x1 : Int} {x2 : Int} {x3 : Int} (t : (rg x1) ∧ if x1 = 2 then (∃ T3 : Int → Int, ∃ n4 : Int, ∃ s5 : Int, (TB T3 n4) ∧ (TR T3 n4 s5 σ τ) ∧ (EB σ) ∧ (σ 83 12 ≤ (x2 + 1) ∧ (x2 + 1) < σ 83 12 + 200) ∧ ∀ (σ110 : zI) (τ111 : zI), 0 ≤ (numO T3 n4 0 29 (x2 + 1) s5).1 ∧ (numO T3 n4 0 29 (x2 + 1) s5).1 ≤ 4 → GF T3 n4 σ τ (numO T3 n4 0 29 (x2 + 1) s5) σ110 τ111 → (rg ((numO T3 n4 0 29 (x2 + 1) s5).1)) ∧ if ((numO T3 n4 0 29 (x2 + 1) s5).1) = 0 then (∃ T16 : Int → Int, ∃ n17 : Int, ∃ s18 : Int, ∃ v19 : Int, (TB T16 n17) ∧ (TR T16 n17 s18 σ110 τ111) ∧ (EB σ110) ∧ (σ110 83 12 ≤ x2 ∧ x2 + 8 ≤ σ110 83 12 + 200) ∧ (σ110 83 14 < s18) ∧ (σ110 83 17 = 0) ∧ (σ110 84 x2 = v19) ∧ (rg (v19 + 1)) ∧ ∀ (σ128 : zI) (τ129 : zI), 0 ≤ (addO T16 n17 x2 (σ110 83 14) v19 s18).1 ∧ (addO T16 n17 x2 (σ110 83 14) v19 s18).1 ≤ 4 → GF T16 n17 σ110 τ111 (addO T16 n17 x2 (σ110 83 14) v19 s18) σ128 τ129 → wi (d + 13) 257 87 [.ref 83, .int (wI x1), .int (wI x2), .int (wI ((addO T16 n17 x2 (σ110 83 14) v19 s18).1))] [] S σ128 τ129 Q) else (wi (d + 13) 257 87 [.ref 83, .int (wI x1), .int (wI x2), .int (wI ((numO T3 n4 0 29 (x2 + 1) s5).1))] [] S σ110 τ111 Q)) else (wi (d + 13) 257 87 [.ref 83, .int (wI x1), .int (wI x2), .int (wI x3)] [] S σ τ Q)) : wi (d + 13) 257 61 [.ref 83, .int (wI x1), .int (wI x2), .int (wI x3)] [] S σ τ Q := by
  obtain ⟨r1, t⟩ := t
  refine i3 c_257_61 rfl (i1 c_257_62 ?_)
  refine i37 c_257_63 r1 (by decide) rfl (fun hc => ?_) (fun hc => ?_)
  · have t := iF t hc
    have ha2 : ¬ (x1 = 2) := hc
    exact t
  · have t := iT t (Decidable.not_not.mp hc)
    have ha2 : x1 = 2 := Decidable.not_not.mp hc
    obtain ⟨T3, t⟩ := t
    obtain ⟨n4, t⟩ := t
    obtain ⟨s5, t⟩ := t
    obtain ⟨p6, t⟩ := t
    obtain ⟨p7, t⟩ := t
    obtain ⟨p8, t⟩ := t
    obtain ⟨p9, t⟩ := t
    refine i5 c_257_66 rfl (i1 c_257_67 (i1 c_257_68 (i3 c_257_70 rfl (i1 c_257_71 (i10 c_257_72 ?_)))))
    refine i80 (As := [.int (wI 0), .int (wI 29), .int (wI (x2 + 1))]) (rest := []) c_257_73 mi_237 rfl rfl (Nat.le_of_ble_eq_true rfl) (Nat.le_of_ble_eq_true rfl) (lo (c := 83) (kd := 112) (n := 0) rfl (by decide)) (q_237 (T := T3) (n := n4) (s := s5) p6 p7 p8 p9 (by decide) (by decide) (fun σ110 τ111 q12 q13 => ?_))
    have t := t σ110 τ111 q12 q13
    show wi (d + 13) 257 76 [.ref 83, .int (wI x1), .int (wI x2), .int (wI x3)] [.int (wI ((numO T3 n4 0 29 (x2 + 1) s5).1))] S σ110 τ111 Q
    obtain ⟨r14, t⟩ := t
    refine i6 (L' := [.ref 83, .int (wI x1), .int (wI x2), .int (wI ((numO T3 n4 0 29 (x2 + 1) s5).1))]) c_257_76 rfl (i3 c_257_77 rfl ?_)
    refine i36 c_257_78 r14 rfl (fun hc => ?_) (fun hc => ?_)
    · have t := iF t hc
      have ha15 : ¬ (((numO T3 n4 0 29 (x2 + 1) s5).1) = 0) := hc
      exact t
    · have t := iT t (Decidable.not_not.mp hc)
      have ha15 : ((numO T3 n4 0 29 (x2 + 1) s5).1) = 0 := Decidable.not_not.mp hc
      obtain ⟨T16, t⟩ := t
      obtain ⟨n17, t⟩ := t
      obtain ⟨s18, t⟩ := t
      obtain ⟨v19, t⟩ := t
      obtain ⟨p20, t⟩ := t
      obtain ⟨p21, t⟩ := t
      obtain ⟨p22, t⟩ := t
      obtain ⟨p23, t⟩ := t
      obtain ⟨p24, t⟩ := t
      obtain ⟨p25, t⟩ := t
      obtain ⟨p26, t⟩ := t
      obtain ⟨p27, t⟩ := t
      refine i5 c_257_81 rfl (i3 c_257_82 rfl ?_)
      refine i80 (As := [.int (wI x2)]) (rest := []) c_257_83 mi_254 rfl rfl (Nat.le_of_ble_eq_true rfl) (Nat.le_of_ble_eq_true rfl) (lo (c := 83) (kd := 112) (n := 0) rfl (by decide)) (q_254 (T := T16) (n := n17) (s := s18) (v := v19) p20 p21 p22 p23 p24 p25 p26 p27 (fun σ128 τ129 q30 q31 => ?_))
      have t := t σ128 τ129 q30 q31
      show wi (d + 13) 257 86 [.ref 83, .int (wI x1), .int (wI x2), .int (wI ((numO T3 n4 0 29 (x2 + 1) s5).1))] [.int (wI ((addO T16 n17 x2 (σ110 83 14) v19 s18).1))] S σ128 τ129 Q
      refine i6 (L' := [.ref 83, .int (wI x1), .int (wI x2), .int (wI ((addO T16 n17 x2 (σ110 83 14) v19 s18).1))]) c_257_86 rfl t
set_option maxRecDepth 20000 in
theorem u_257_87 {d : Nat} {S : zS} {σ τ : zI} {Q : zQ} {x1 : Int} {x2 : Int} {x3 : Int} (t : (rg x1) ∧ if x1 = 4 then ((0 ≤ x2 + 4 ∧ x2 + 4 < 112300) ∧ ∃ T5 : Int → Int, ∃ n6 : Int, ∃ s7 : Int, (TB T5 n6) ∧ (TR T5 n6 s7 (uc σ 84 (u1 (σ 84) (x2 + 4) (σ 83 14))) τ) ∧ (EB (uc σ 84 (u1 (σ 84) (x2 + 4) (σ 83 14)))) ∧ ((uc σ 84 (u1 (σ 84) (x2 + 4) (σ 83 14))) 83 14 < s7) ∧ ((uc σ 84 (u1 (σ 84) (x2 + 4) (σ 83 14))) 83 17 = 0) ∧ ∀ (σ113 : zI) (τ114 : zI), 0 ≤ (eitO T5 n6 301 s7 [] 0 0).1 ∧ (eitO T5 n6 301 s7 [] 0 0).1 ≤ 3 → OF T5 n6 (uc σ 84 (u1 (σ 84) (x2 + 4) (σ 83 14))) τ (eitO T5 n6 301 s7 [] 0 0) σ113 τ114 → (0 ≤ x2 + 5 ∧ x2 + 5 < 112300) ∧ (rg ((eitO T5 n6 301 s7 [] 0 0).1)) ∧ if ((eitO T5 n6 301 s7 [] 0 0).1) = 0 then (∃ T21 : Int → Int, ∃ n22 : Int, ∃ s23 : Int, ∃ v24 : Int, (TB T21 n22) ∧ (TR T21 n22 s23 (uc σ113 84 (u1 (σ113 84) (x2 + 5) (σ113 83 14))) τ114) ∧ (EB (uc σ113 84 (u1 (σ113 84) (x2 + 5) (σ113 83 14)))) ∧ ((uc σ113 84 (u1 (σ113 84) (x2 + 5) (σ113 83 14))) 83 12 ≤ x2 ∧ x2 + 8 ≤ (uc σ113 84 (u1 (σ113 84) (x2 + 5) (σ113 83 14))) 83 12 + 200) ∧ ((uc σ113 84 (u1 (σ113 84) (x2 + 5) (σ113 83 14))) 83 14 < s23) ∧ ((uc σ113 84 (u1 (σ113 84) (x2 + 5) (σ113 83 14))) 83 17 = 0) ∧ ((uc σ113 84 (u1 (σ113 84) (x2 + 5) (σ113 83 14))) 84 x2 = v24) ∧ (rg (v24 + 1)) ∧ ∀ (σ133 : zI) (τ134 : zI), 0 ≤ (addO T21 n22 x2 ((uc σ113 84 (u1 (σ113 84) (x2 + 5) (σ113 83 14))) 83 14) v24 s23).1 ∧ (addO T21 n22 x2 ((uc σ113 84 (u1 (σ113 84) (x2 + 5) (σ113 83 14))) 83 14) v24 s23).1 ≤ 4 → GF T21 n22 (uc σ113 84 (u1 (σ113 84) (x2 + 5) (σ113 83 14))) τ114 (addO T21 n22 x2 ((uc σ113 84 (u1 (σ113 84) (x2 + 5) (σ113 83 14))) 83 14) v24 s23) σ133 τ134 → wi (d + 13) 257 131 [.ref 83, .int (wI x1), .int (wI x2), .int (wI ((addO T21 n22 x2 ((uc σ113 84 (u1 (σ113 84) (x2 + 5) (σ113 83 14))) 83 14) v24 s23).1))] [] S σ133 τ134 Q) else (wi (d + 13) 257 131 [.ref 83, .int (wI x1), .int (wI x2), .int (wI ((eitO T5 n6 301 s7 [] 0 0).1))] [] S (uc σ113 84 (u1 (σ113 84) (x2 + 5) (σ113 83 14))) τ114 Q)) else (wi (d + 13) 257 131 [.ref 83, .int (wI x1), .int (wI x2), .int (wI x3)] [] S σ τ Q)) : wi (d + 13) 257 87 [.ref 83, .int (wI x1), .int (wI x2), .int (wI x3)] [] S σ τ Q := by
  obtain ⟨r1, t⟩ := t
  refine i3 c_257_87 rfl (i1 c_257_88 ?_)
  refine i37 c_257_89 r1 (by decide) rfl (fun hc => ?_) (fun hc => ?_)
  · have t := iF t hc
    have ha2 : ¬ (x1 = 4) := hc
    exact t
  · have t := iT t (Decidable.not_not.mp hc)
    have ha2 : x1 = 4 := Decidable.not_not.mp hc
    refine i5 c_257_92 rfl (i45 c_257_93 (lo (c := 83) (kd := 112) (n := 0) rfl (by decide)) (lro (c := 83) (k := 0) (j := 84) (by decide)) (i3 c_257_96 rfl (i1 c_257_97 (i10 c_257_98 (i5 c_257_99 rfl (wi_ok (fun K3 => ?_)))))))
    obtain ⟨r4, t⟩ := t
    obtain ⟨T5, t⟩ := t
    obtain ⟨n6, t⟩ := t
    obtain ⟨s7, t⟩ := t
    obtain ⟨p8, t⟩ := t
    obtain ⟨p9, t⟩ := t
    obtain ⟨p10, t⟩ := t
    obtain ⟨p11, t⟩ := t
    obtain ⟨p12, t⟩ := t
    refine i43 (v := σ 83 14) c_257_100 (lo (c := 83) (kd := 112) (n := 0) rfl (by decide)) rfl (i54 (σ1 := uc σ 84 (u1 (σ 84) (x2 + 4) (σ 83 14))) c_257_103 (lo (c := 84) (kd := 0) (n := 112300) rfl (by decide)) (by decide) r4 (by decide) rfl (rge_ K3 rfl) (wr_ rfl rfl) (i5 c_257_104 rfl ?_))
    refine i80 (As := []) (rest := []) c_257_105 mi_250 rfl rfl (Nat.le_of_ble_eq_true rfl) (Nat.le_of_ble_eq_true rfl) (lo (c := 83) (kd := 112) (n := 0) rfl (by decide)) (q_250 (T := T5) (n := n6) (s := s7) p8 p9 p10 p11 p12 (fun σ113 τ114 q15 q16 => ?_))
    have t := t σ113 τ114 q15 q16
    show wi (d + 13) 257 108 [.ref 83, .int (wI x1), .int (wI x2), .int (wI x3)] [.int (wI ((eitO T5 n6 301 s7 [] 0 0).1))] S σ113 τ114 Q
    refine i6 (L' := [.ref 83, .int (wI x1), .int (wI x2), .int (wI ((eitO T5 n6 301 s7 [] 0 0).1))]) c_257_108 rfl (i5 c_257_109 rfl (i45 c_257_110 (lo (c := 83) (kd := 112) (n := 0) rfl (by decide)) (lro (c := 83) (k := 0) (j := 84) (by decide)) (i3 c_257_113 rfl (i1 c_257_114 (i10 c_257_115 (i5 c_257_116 rfl (wi_ok (fun K17 => ?_))))))))
    obtain ⟨r18, t⟩ := t
    obtain ⟨r19, t⟩ := t
    refine i43 (v := σ113 83 14) c_257_117 (lo (c := 83) (kd := 112) (n := 0) rfl (by decide)) rfl (i54 (σ1 := uc σ113 84 (u1 (σ113 84) (x2 + 5) (σ113 83 14))) c_257_120 (lo (c := 84) (kd := 0) (n := 112300) rfl (by decide)) (by decide) r18 (by decide) rfl (rge_ K17 rfl) (wr_ rfl rfl) (i3 c_257_121 rfl ?_))
    refine i36 c_257_122 r19 rfl (fun hc => ?_) (fun hc => ?_)
    · have t := iF t hc
      have ha20 : ¬ (((eitO T5 n6 301 s7 [] 0 0).1) = 0) := hc
      exact t
    · have t := iT t (Decidable.not_not.mp hc)
      have ha20 : ((eitO T5 n6 301 s7 [] 0 0).1) = 0 := Decidable.not_not.mp hc
      obtain ⟨T21, t⟩ := t
      obtain ⟨n22, t⟩ := t
      obtain ⟨s23, t⟩ := t
      obtain ⟨v24, t⟩ := t
      obtain ⟨p25, t⟩ := t
      obtain ⟨p26, t⟩ := t
      obtain ⟨p27, t⟩ := t
      obtain ⟨p28, t⟩ := t
      obtain ⟨p29, t⟩ := t
      obtain ⟨p30, t⟩ := t
      obtain ⟨p31, t⟩ := t
      obtain ⟨p32, t⟩ := t
      refine i5 c_257_125 rfl (i3 c_257_126 rfl ?_)
      refine i80 (As := [.int (wI x2)]) (rest := []) c_257_127 mi_254 rfl rfl (Nat.le_of_ble_eq_true rfl) (Nat.le_of_ble_eq_true rfl) (lo (c := 83) (kd := 112) (n := 0) rfl (by decide)) (q_254 (T := T21) (n := n22) (s := s23) (v := v24) p25 p26 p27 p28 p29 p30 p31 p32 (fun σ133 τ134 q35 q36 => ?_))
      have t := t σ133 τ134 q35 q36
      show wi (d + 13) 257 130 [.ref 83, .int (wI x1), .int (wI x2), .int (wI ((eitO T5 n6 301 s7 [] 0 0).1))] [.int (wI ((addO T21 n22 x2 ((uc σ113 84 (u1 (σ113 84) (x2 + 5) (σ113 83 14))) 83 14) v24 s23).1))] S σ133 τ134 Q
      refine i6 (L' := [.ref 83, .int (wI x1), .int (wI x2), .int (wI ((addO T21 n22 x2 ((uc σ113 84 (u1 (σ113 84) (x2 + 5) (σ113 83 14))) 83 14) v24 s23).1))]) c_257_130 rfl t
set_option maxRecDepth 20000 in
theorem u_257_131 {d : Nat} {S : zS} {σ τ : zI} {Q : zQ} {x1 : Int} {x2 : Int} {x3 : Int} (t : (rg x1) ∧ if x1 = 6 then (∃ T3 : Int → Int, ∃ n4 : Int, ∃ s5 : Int, (TB T3 n4) ∧ (TR T3 n4 s5 σ τ) ∧ (EB σ) ∧ (σ 83 12 ≤ (x2 + 1) ∧ (x2 + 1) < σ 83 12 + 200) ∧ ∀ (σ110 : zI) (τ111 : zI), 0 ≤ (numO T3 n4 0 9999 (x2 + 1) s5).1 ∧ (numO T3 n4 0 9999 (x2 + 1) s5).1 ≤ 4 → GF T3 n4 σ τ (numO T3 n4 0 9999 (x2 + 1) s5) σ110 τ111 → wi (d + 13) 257 149 [.ref 83, .int (wI x1), .int (wI x2), .int (wI ((numO T3 n4 0 9999 (x2 + 1) s5).1))] [] S σ110 τ111 Q) else (wi (d + 13) 257 149 [.ref 83, .int (wI x1), .int (wI x2), .int (wI x3)] [] S σ τ Q)) : wi (d + 13) 257 131 [.ref 83, .int (wI x1), .int (wI x2), .int (wI x3)] [] S σ τ Q := by
  obtain ⟨r1, t⟩ := t
  refine i3 c_257_131 rfl (i1 c_257_132 ?_)
  refine i37 c_257_134 r1 (by decide) rfl (fun hc => ?_) (fun hc => ?_)
  · have t := iF t hc
    have ha2 : ¬ (x1 = 6) := hc
    exact t
  · have t := iT t (Decidable.not_not.mp hc)
    have ha2 : x1 = 6 := Decidable.not_not.mp hc
    obtain ⟨T3, t⟩ := t
    obtain ⟨n4, t⟩ := t
    obtain ⟨s5, t⟩ := t
    obtain ⟨p6, t⟩ := t
    obtain ⟨p7, t⟩ := t
    obtain ⟨p8, t⟩ := t
    obtain ⟨p9, t⟩ := t
    refine i5 c_257_137 rfl (i1 c_257_138 (i1 c_257_139 (i3 c_257_142 rfl (i1 c_257_143 (i10 c_257_144 ?_)))))
    refine i80 (As := [.int (wI 0), .int (wI 9999), .int (wI (x2 + 1))]) (rest := []) c_257_145 mi_237 rfl rfl (Nat.le_of_ble_eq_true rfl) (Nat.le_of_ble_eq_true rfl) (lo (c := 83) (kd := 112) (n := 0) rfl (by decide)) (q_237 (T := T3) (n := n4) (s := s5) p6 p7 p8 p9 (by decide) (by decide) (fun σ110 τ111 q12 q13 => ?_))
    have t := t σ110 τ111 q12 q13
    show wi (d + 13) 257 148 [.ref 83, .int (wI x1), .int (wI x2), .int (wI x3)] [.int (wI ((numO T3 n4 0 9999 (x2 + 1) s5).1))] S σ110 τ111 Q
    refine i6 (L' := [.ref 83, .int (wI x1), .int (wI x2), .int (wI ((numO T3 n4 0 9999 (x2 + 1) s5).1))]) c_257_148 rfl t
set_option maxRecDepth 20000 in
theorem u_257_149 {d : Nat} {S : zS} {σ τ : zI} {Q : zQ} {x1 : Int} {x2 : Int} {x3 : Int} (t : (rg x1) ∧ if x1 = 7 then (∃ T3 : Int → Int, ∃ n4 : Int, ∃ s5 : Int, (TB T3 n4) ∧ (TR T3 n4 s5 σ τ) ∧ (EB σ) ∧ (σ 83 12 ≤ x2 ∧ x2 + 8 ≤ σ 83 12 + 200) ∧ ∀ (σ110 : zI) (τ111 : zI), 0 ≤ (ageO T3 n4 x2 s5).1 ∧ (ageO T3 n4 x2 s5).1 ≤ 4 → GF T3 n4 σ τ (ageO T3 n4 x2 s5) σ110 τ111 → wi (d + 13) 257 161 [.ref 83, .int (wI x1), .int (wI x2), .int (wI ((ageO T3 n4 x2 s5).1))] [] S σ110 τ111 Q) else (wi (d + 13) 257 161 [.ref 83, .int (wI x1), .int (wI x2), .int (wI x3)] [] S σ τ Q)) : wi (d + 13) 257 149 [.ref 83, .int (wI x1), .int (wI x2), .int (wI x3)] [] S σ τ Q := by
  obtain ⟨r1, t⟩ := t
  refine i3 c_257_149 rfl (i1 c_257_150 ?_)
  refine i37 c_257_152 r1 (by decide) rfl (fun hc => ?_) (fun hc => ?_)
  · have t := iF t hc
    have ha2 : ¬ (x1 = 7) := hc
    exact t
  · have t := iT t (Decidable.not_not.mp hc)
    have ha2 : x1 = 7 := Decidable.not_not.mp hc
    obtain ⟨T3, t⟩ := t
    obtain ⟨n4, t⟩ := t
    obtain ⟨s5, t⟩ := t
    obtain ⟨p6, t⟩ := t
    obtain ⟨p7, t⟩ := t
    obtain ⟨p8, t⟩ := t
    obtain ⟨p9, t⟩ := t
    refine i5 c_257_155 rfl (i3 c_257_156 rfl ?_)
    refine i80 (As := [.int (wI x2)]) (rest := []) c_257_157 mi_256 rfl rfl (Nat.le_of_ble_eq_true rfl) (Nat.le_of_ble_eq_true rfl) (lo (c := 83) (kd := 112) (n := 0) rfl (by decide)) (q_256 (T := T3) (n := n4) (s := s5) p6 p7 p8 p9 (fun σ110 τ111 q12 q13 => ?_))
    have t := t σ110 τ111 q12 q13
    show wi (d + 13) 257 160 [.ref 83, .int (wI x1), .int (wI x2), .int (wI x3)] [.int (wI ((ageO T3 n4 x2 s5).1))] S σ110 τ111 Q
    refine i6 (L' := [.ref 83, .int (wI x1), .int (wI x2), .int (wI ((ageO T3 n4 x2 s5).1))]) c_257_160 rfl t
set_option maxRecDepth 20000 in
theorem u_257_161 {d : Nat} {S : zS} {σ τ : zI} {Q : zQ} {x1 : Int} {x2 : Int} {x3 : Int} (t : (rg x1) ∧ if x1 ≤ 7 then (wi (d + 13) 257 178 [.ref 83, .int (wI x1), .int (wI x2), .int (wI x3)] [] S σ τ Q) else (∃ T3 : Int → Int, ∃ n4 : Int, ∃ s5 : Int, (TB T3 n4) ∧ (TR T3 n4 s5 σ τ) ∧ (EB σ) ∧ (σ 83 12 ≤ (x2 + 1) ∧ (x2 + 1) < σ 83 12 + 200) ∧ ∀ (σ110 : zI) (τ111 : zI), 0 ≤ (numO T3 n4 0 20 (x2 + 1) s5).1 ∧ (numO T3 n4 0 20 (x2 + 1) s5).1 ≤ 4 → GF T3 n4 σ τ (numO T3 n4 0 20 (x2 + 1) s5) σ110 τ111 → wi (d + 13) 257 178 [.ref 83, .int (wI x1), .int (wI x2), .int (wI ((numO T3 n4 0 20 (x2 + 1) s5).1))] [] S σ110 τ111 Q)) : wi (d + 13) 257 161 [.ref 83, .int (wI x1), .int (wI x2), .int (wI x3)] [] S σ τ Q := by
  obtain ⟨r1, t⟩ := t
  refine i3 c_257_161 rfl (i1 c_257_162 ?_)
  refine i37 c_257_164 r1 (by decide) rfl (fun hc => ?_) (fun hc => ?_)
  · have t := iT t hc
    have ha2 : x1 ≤ 7 := hc
    exact t
  · have t := iF t hc
    have ha2 : ¬ (x1 ≤ 7) := hc
    obtain ⟨T3, t⟩ := t
    obtain ⟨n4, t⟩ := t
    obtain ⟨s5, t⟩ := t
    obtain ⟨p6, t⟩ := t
    obtain ⟨p7, t⟩ := t
    obtain ⟨p8, t⟩ := t
    obtain ⟨p9, t⟩ := t
    refine i5 c_257_167 rfl (i1 c_257_168 (i1 c_257_169 (i3 c_257_171 rfl (i1 c_257_172 (i10 c_257_173 ?_)))))
    refine i80 (As := [.int (wI 0), .int (wI 20), .int (wI (x2 + 1))]) (rest := []) c_257_174 mi_237 rfl rfl (Nat.le_of_ble_eq_true rfl) (Nat.le_of_ble_eq_true rfl) (lo (c := 83) (kd := 112) (n := 0) rfl (by decide)) (q_237 (T := T3) (n := n4) (s := s5) p6 p7 p8 p9 (by decide) (by decide) (fun σ110 τ111 q12 q13 => ?_))
    have t := t σ110 τ111 q12 q13
    show wi (d + 13) 257 177 [.ref 83, .int (wI x1), .int (wI x2), .int (wI x3)] [.int (wI ((numO T3 n4 0 20 (x2 + 1) s5).1))] S σ110 τ111 Q
    refine i6 (L' := [.ref 83, .int (wI x1), .int (wI x2), .int (wI ((numO T3 n4 0 20 (x2 + 1) s5).1))]) c_257_177 rfl t
set_option maxRecDepth 20000 in
theorem u_257_178 {d : Nat} {S : zS} {σ τ : zI} {Q : zQ} {x1 : Int} {x2 : Int} {x3 : Int} (t : (rg x3) ∧ if x3 = 0 then (if (σ 83 9) = 59 then (∃ w5 : Int, wI w5 = wI ((σ 83 13) + 1) ∧ rg w5 ∧ ∃ T8 : Int → Int, ∃ n9 : Int, ∃ s10 : Int, (TB T8 n9) ∧ (TR T8 n9 s10 (uc σ 83 (u1 (σ 83) 13 w5)) τ) ∧ (s10 < n9) ∧ ∀ (σ114 : zI) (τ115 : zI), FK (uc σ 83 (u1 (σ 83) 13 w5)) σ114 τ τ115 → TR T8 n9 (nx T8 n9 s10) σ114 τ115 → Q (some (.int (wI 0))) S σ114 τ115) else (Q (some (.int (wI 1))) S σ τ)) else (Q (some (.int (wI x3))) S σ τ)) : wi (d + 13) 257 178 [.ref 83, .int (wI x1), .int (wI x2), .int (wI x3)] [] S σ τ Q := by
  obtain ⟨r1, t⟩ := t
  refine i3 c_257_178 rfl ?_
  refine i36 c_257_179 r1 rfl (fun hc => ?_) (fun hc => ?_)
  · have t := iT t hc
    have ha2 : x3 = 0 := hc
    refine i5 c_257_184 rfl (wi_ok (fun K3 => ?_))
    refine i43 (v := σ 83 9) c_257_185 (lo (c := 83) (kd := 112) (n := 0) rfl (by decide)) rfl (i1 c_257_188 ?_)
    refine i37 c_257_190 (rge_ K3 rfl) (by decide) rfl (fun hc => ?_) (fun hc => ?_)
    · have t := iT t hc
      have ha4 : (σ 83 9) = 59 := hc
      obtain ⟨w5, e6, r7, t⟩ := t
      obtain ⟨T8, t⟩ := t
      obtain ⟨n9, t⟩ := t
      obtain ⟨s10, t⟩ := t
      obtain ⟨p11, t⟩ := t
      obtain ⟨p12, t⟩ := t
      obtain ⟨p13, t⟩ := t
      refine i5 c_257_195 rfl (i33a c_257_196 (i43 (v := σ 83 13) c_257_197 (lo (c := 83) (kd := 112) (n := 0) rfl (by decide)) rfl (i1 c_257_200 (i10 c_257_201 (i46 (σ1 := uc σ 83 (u1 (σ 83) 13 w5)) c_257_202 (lo (c := 83) (kd := 112) (n := 0) rfl (by decide)) (by decide) e6 r7 (wr_ rfl rfl) (i5 c_257_205 rfl ?_))))))
      refine i80 (As := []) (rest := []) c_257_206 mi_231 rfl rfl (Nat.le_of_ble_eq_true rfl) (Nat.le_of_ble_eq_true rfl) (lo (c := 83) (kd := 112) (n := 0) rfl (by decide)) (q_231t (T := T8) (n := n9) (s := s10) p11 p12 p13 (fun σ114 τ115 q16 q17 => ?_))
      have t := t σ114 τ115 q16 q17
      show wi (d + 13) 257 209 [.ref 83, .int (wI x1), .int (wI x2), .int (wI x3)] [] S σ114 τ115 Q
      refine i1 c_257_209 ?_
      exact i90 c_257_210 t
    · have t := iF t hc
      have ha4 : ¬ ((σ 83 9) = 59) := hc
      refine i1 c_257_193 ?_
      exact i90 c_257_194 t
  · have t := iF t hc
    have ha2 : ¬ (x3 = 0) := hc
    refine i3 c_257_182 rfl ?_
    exact i90 c_257_183 t
theorem q_257 {d : Nat} {S : zS} {σ τ : zI} {Q : zQ} {T : Int → Int} {n : Int} {s : Int} (p0 : TB T n) (p1 : TR T n s σ τ) (p2 : EB σ) (p3 : σ 83 14 ≤ s) (p4 : σ 83 17 = 0) (p5 : 0 ≤ σ 83 13 ∧ σ 83 13 ≤ 24) (t : ∀ (σ1 : zI) (τ1 : zI), 0 ≤ (clsO T n (σ 83 13) (((σ 83 12) + 1) + (8 * (σ 83 13))) (σ 83 14) s).1 ∧ (clsO T n (σ 83 13) (((σ 83 12) + 1) + (8 * (σ 83 13))) (σ 83 14) s).1 ≤ 4 → CF T n σ τ (clsO T n (σ 83 13) (((σ 83 12) + 1) + (8 * (σ 83 13))) (σ 83 14) s) σ1 τ1 → Q (some (.int (wI ((clsO T n (σ 83 13) (((σ 83 12) + 1) + (8 * (σ 83 13))) (σ 83 14) s).1)))) S σ1 τ1) : wc (d + 13) 257 [.ref 83] S σ τ Q := by
  have n3 := p0.1.2
  have s01 := p1.1
  have b0 := p2.2.1
  have sb := srtO_b (tk T n s)
  obtain ⟨q, hq⟩ : ∃ q, q = ((σ 83 12) + 1) + (8 * (σ 83 13)) := ⟨_, rfl⟩
  rw [← hq] at t
  have fin : ∀ (R : RW) (σ1 τ1 : zI), clsO T n (σ 83 13) q (σ 83 14) s = R → 0 ≤ R.1 ∧ R.1 ≤ 4 → CF T n σ τ R σ1 τ1 → Q (some (.int (wI R.1))) S σ1 τ1 := by
    intro R σ1 τ1 hR hr g
    have h := t σ1 τ1
    rw [hR] at h
    exact h hr g
  have flt : ∀ r e, r ≠ 0 → TR T n e σ τ → CF T n σ τ (r, e, [], []) σ τ := fun r e hr tr => ⟨tr, fun z => absurd z hr, [], [], 0, PGc_P PF_0, p2.2.2⟩
  refine wc_of mi_257 rfl (u_257_0 ?_)
  rw [← hq]
  refine ⟨T, n, s, p0, p1, by omega, ifI (fun e => fin (1, s, [], []) σ τ (if_pos e) (by show (0 : Int) ≤ 1 ∧ (1 : Int) ≤ 4; omega) (flt _ _ (by decide) p1)) (fun e => ifI (fun e2 => fin (4, s, [], []) σ τ (by unfold clsO; rw [if_neg e, if_pos e2]) (by show (0 : Int) ≤ 4 ∧ (4 : Int) ≤ 4; omega) (flt _ _ (by decide) p1)) (fun e2 => ⟨by have := p2.1; omega, T, n, s, p0, TR_84 p1, tk_n (T := T) (by have := sb.2.2.2.2.2.2.2.2 e; omega), fun σ1 τ1 fk tr => ?_⟩))⟩
  have t39 := sb.2.2.2.2.2.2.2.2 e
  have nb := nx_b (T := T) (tk_n (T := T) (n := n) (s := s) (by omega))
  have hcl : clsO T n (σ 83 13) q (σ 83 14) s = bnd (0, nx T n s, [], [(q, srtO (tk T n s))]) fun s1 => bnd (bodyO T n q (σ 83 14) (tk T n s) s1) fun s2 => nedO T n 36 s2 := by
    unfold clsO
    rw [if_neg e, if_neg e2]
  have q83 : (uc σ 84 (u1 (σ 84) q (srtO (tk T n s)))) 83 = σ 83 := uc_n (by decide)
  have f14 : σ1 83 14 = σ 83 14 := by rw [fk.2.1 14 (by omega), q83]
  have f12 : σ1 83 12 = σ 83 12 := by rw [fk.2.1 12 (by omega), q83]
  have f17 : σ1 83 17 = 0 := by rw [fk.2.1 17 (by omega), q83]; exact p4
  have cq : σ1 84 q = srtO (tk T n s) := by rw [fk.1 84 (by decide), uc_s, u1_s]
  have pg1 : PGc σ σ1 τ τ1 [] [(q, srtO (tk T n s))] 0 := PGc_n (PGc_w (by omega)) (PF_F fk) b0
  have EB1 : EB σ1 := EB_f p2 f12 (by rw [f14]; exact p2.2)
  have b1 := EB1.2.1
  have end178 : ∀ (x1 x2 : Int) (B : RW) (σ2 τ2 : zI), B = bodyO T n q (σ 83 14) (tk T n s) (nx T n s) → 0 ≤ B.1 ∧ B.1 ≤ 4 → GF T n σ1 τ1 B σ2 τ2 → wi (d + 13) 257 178 [.ref 83, .int (wI x1), .int (wI x2), .int (wI B.1)] [] S σ2 τ2 Q := by
    intro x1 x2 B σ2 τ2 hB rb g
    obtain ⟨tr2, ok2, L2, W2, pg2, bd2⟩ := g
    have gen := PGc_t pg1 pg2 b0
    have e13 : σ2 83 13 = σ 83 13 := by rw [gen.2.2.2.2.2]; omega
    refine u_257_178 ⟨by omega, ifI (fun e3 => ifI (fun e4 => ?_) (fun e4 => ?_)) (fun e3 => ?_)⟩
    · have k36 : tk T n B.2.1 = 36 := (rk_tk p0 tr2.1).1.2.2.2.2.2.2.2.2.2.2.2.2.2.2.2.mp (by rw [← tr2.2.2.2.2.1]; exact e4)
      refine ⟨σ2 83 13 + 1, rfl, by omega, T, n, _, p0, TR_u tr2 (fun k hk => u1_n (by omega)), tk_n (T := T) (by omega), fun σ3 τ3 fk3 tr3 => ?_⟩
      obtain ⟨pgB, h17⟩ := ok2 e3
      have pgC := PGc_n (PGc_t (PGc_t pg1 pgB b0) PGc_13 b0) (PF_F fk3) b0
      rw [List.nil_append, List.append_nil, List.append_nil] at pgC
      have ev : clsO T n (σ 83 13) q (σ 83 14) s = (0, nx T n B.2.1, B.2.2.1, (q, srtO (tk T n s)) :: B.2.2.2) := by
        have n36 : nedO T n 36 B.2.1 = (0, nx T n B.2.1, [], []) := if_pos k36
        have i1 : bnd (bodyO T n q (σ 83 14) (tk T n s) (nx T n s)) (fun s2 => nedO T n 36 s2) = (0, nx T n B.2.1, B.2.2.1 ++ [], B.2.2.2 ++ []) := by
          rw [← hB]
          exact bnd_4 e3 n36 rfl
        have i2 := bnd_4 (A := (0, nx T n s, [], [(q, srtO (tk T n s))])) (f := fun s1 => bnd (bodyO T n q (σ 83 14) (tk T n s) s1) fun s2 => nedO T n 36 s2) rfl i1 rfl
        rw [hcl, i2]
        show (0, nx T n B.2.1, [] ++ (B.2.2.1 ++ []), [(q, srtO (tk T n s))] ++ (B.2.2.2 ++ [])) = _
        rw [List.append_nil, List.append_nil]
        rfl
      refine fin _ σ3 τ3 ev (by show (0 : Int) ≤ 0 ∧ (0 : Int) ≤ 4; omega) ⟨tr3, fun _ => ⟨pgC, ?_⟩, _, _, _, pgC, ?_⟩
      · rw [fk3.2.1 17 (by omega), uc_s, u1_n (by omega), h17, f17, p4]
      · rw [fk3.2.1 14 (by omega), uc_s, u1_n (by omega)]; exact bd2
    · have k36 : tk T n B.2.1 ≠ 36 := fun z => e4 (by rw [tr2.2.2.2.2.1]; exact (rk_tk p0 tr2.1).1.2.2.2.2.2.2.2.2.2.2.2.2.2.2.2.mpr z)
      have ev : clsO T n (σ 83 13) q (σ 83 14) s = (1, B.2.1, [], []) := by
        have n36 : nedO T n 36 B.2.1 = (1, B.2.1, [], []) := if_neg k36
        have i1 : bnd (bodyO T n q (σ 83 14) (tk T n s) (nx T n s)) (fun s2 => nedO T n 36 s2) = (1, B.2.1, [], []) := by
          rw [← hB]
          exact bnd_3 e3 n36 (show (1 : Int) ≠ 0 by decide)
        rw [hcl]
        exact bnd_3 (A := (0, nx T n s, [], [(q, srtO (tk T n s))])) (f := fun s1 => bnd (bodyO T n q (σ 83 14) (tk T n s) s1) fun s2 => nedO T n 36 s2) rfl i1 (show (1 : Int) ≠ 0 by decide)
      exact fin _ σ2 τ2 ev (by show (0 : Int) ≤ 1 ∧ (1 : Int) ≤ 4; omega) ⟨tr2, fun z => absurd (show (1 : Int) = 0 from z) (by decide), _, _, _, gen, bd2⟩
    · have ev : clsO T n (σ 83 13) q (σ 83 14) s = (B.1, B.2.1, [], []) := by
        have i1 : bnd (bodyO T n q (σ 83 14) (tk T n s) (nx T n s)) (fun s2 => nedO T n 36 s2) = (B.1, B.2.1, [], []) := by
          rw [← hB]
          exact bnd_1 e3
        rw [hcl]
        exact bnd_3 (A := (0, nx T n s, [], [(q, srtO (tk T n s))])) (f := fun s1 => bnd (bodyO T n q (σ 83 14) (tk T n s) s1) fun s2 => nedO T n 36 s2) (X := (B.1, B.2.1, [], [])) rfl i1 e3
      exact fin (B.1, B.2.1, [], []) σ2 τ2 ev rb ⟨tr2, fun z => absurd z e3, _, _, _, gen, bd2⟩
  have t161 : ∀ (x1 x2 x3 : Int) (σ2 τ2 : zI), x1 ≤ 7 → rg x1 → wi (d + 13) 257 178 [.ref 83, .int (wI x1), .int (wI x2), .int (wI x3)] [] S σ2 τ2 Q → wi (d + 13) 257 161 [.ref 83, .int (wI x1), .int (wI x2), .int (wI x3)] [] S σ2 τ2 Q := fun x1 x2 x3 σ2 τ2 h1 h2 h => u_257_161 ⟨h2, ifI (fun _ => h) (fun z => absurd h1 z)⟩
  have t149 : ∀ (x1 x2 x3 : Int) (σ2 τ2 : zI), x1 < 7 → rg x1 → wi (d + 13) 257 178 [.ref 83, .int (wI x1), .int (wI x2), .int (wI x3)] [] S σ2 τ2 Q → wi (d + 13) 257 149 [.ref 83, .int (wI x1), .int (wI x2), .int (wI x3)] [] S σ2 τ2 Q := fun x1 x2 x3 σ2 τ2 h1 h2 h => u_257_149 ⟨h2, ifI (fun z => by omega) (fun _ => t161 x1 x2 x3 σ2 τ2 (by omega) h2 h)⟩
  have t131 : ∀ (x1 x2 x3 : Int) (σ2 τ2 : zI), x1 < 6 → rg x1 → wi (d + 13) 257 178 [.ref 83, .int (wI x1), .int (wI x2), .int (wI x3)] [] S σ2 τ2 Q → wi (d + 13) 257 131 [.ref 83, .int (wI x1), .int (wI x2), .int (wI x3)] [] S σ2 τ2 Q := fun x1 x2 x3 σ2 τ2 h1 h2 h => u_257_131 ⟨h2, ifI (fun z => by omega) (fun _ => t149 x1 x2 x3 σ2 τ2 (by omega) h2 h)⟩
  have t87 : ∀ (x1 x2 x3 : Int) (σ2 τ2 : zI), x1 < 4 → rg x1 → wi (d + 13) 257 178 [.ref 83, .int (wI x1), .int (wI x2), .int (wI x3)] [] S σ2 τ2 Q → wi (d + 13) 257 87 [.ref 83, .int (wI x1), .int (wI x2), .int (wI x3)] [] S σ2 τ2 Q := fun x1 x2 x3 σ2 τ2 h1 h2 h => u_257_87 ⟨h2, ifI (fun z => by omega) (fun _ => t131 x1 x2 x3 σ2 τ2 (by omega) h2 h)⟩
  refine ifI (fun c => ?_) (fun c => ?_)
  · have k := sb.2.2.1.mp c
    have hB : ∀ σ', σ' = σ 83 14 → smO T n q σ' (nx T n s) = bodyO T n q (σ 83 14) (tk T n s) (nx T n s) := fun σ' h => by rw [h]; exact (if_pos k).symm
    refine ⟨T, n, _, p0, tr, EB1, by omega, by omega, f17, fun σ2 τ2 rb g => ?_⟩
    exact u_257_61 ⟨by omega, ifI (fun z => by omega) (fun _ => t87 _ _ _ σ2 τ2 (by omega) (by omega) (end178 _ _ _ σ2 τ2 (hB _ f14) rb g))⟩
  by_cases c2 : srtO (tk T n s) = 2
  · have k := sb.2.2.2.1.mp c2
    have hB : bodyO T n q (σ 83 14) (tk T n s) (nx T n s) = bnd (numO T n 0 29 (q + 1) (nx T n s)) (addO T n q (σ 83 14) 2) := by
      unfold bodyO
      rw [if_neg (by omega), if_pos k]
    refine u_257_61 ⟨by omega, ifI (fun _ => ⟨T, n, _, p0, tr, EB1, by omega, fun σ2 τ2 rb g => ⟨by omega, ifI (fun e3 => ?_) (fun e3 => ?_)⟩⟩) (fun z => absurd c2 z)⟩
    · have v1 := numO_0 e3
      have B1 := GF_b EB1 g
      obtain ⟨pgn, g17⟩ := g.2.1 e3
      rw [v1.1] at pgn
      have h14 : σ2 83 14 = σ 83 14 := by
        have : σ2 83 14 = σ1 83 14 + (([] : List (Int × Int)).length : Int) := pgn.1.1
        rw [List.length_nil] at this
        omega
      have hq2 : σ2 84 q = 2 := by
        rw [pgn.1.2.2.2 q (by omega)]
        show u1 (σ1 84) (q + 1) (nm T n (nx T n s)) q = 2
        rw [u1_n (by omega), cq, c2]
      have nk := numO_k (T := T) (n := n) (lo := 0) (hi := 29) (j := q + 1) (s := nx T n s) e3
      refine ⟨T, n, _, 2, p0, g.1, B1.1, by omega, by omega, by rw [g17]; exact f17, hq2, by omega, fun σ3 τ3 rb3 g3 => ?_⟩
      rw [h14] at rb3 g3 ⊢
      have hg := GF_2 (f := addO T n q (σ 83 14) 2) e3 g b1 g3
      have hv := bnd_2 (f := addO T n q (σ 83 14) 2) e3
      rw [← hv] at rb3 ⊢
      exact t87 _ _ _ σ3 τ3 (by omega) (by omega) (end178 _ _ _ σ3 τ3 hB.symm rb3 hg)
    · have hg := GF_1 (f := addO T n q (σ 83 14) 2) e3 g
      have hv : (bnd (numO T n 0 29 (q + 1) (nx T n s)) (addO T n q (σ 83 14) 2)).1 = (numO T n 0 29 (q + 1) (nx T n s)).1 := by rw [bnd_1 e3]
      rw [← hv] at rb ⊢
      exact t87 _ _ _ σ2 τ2 (by omega) (by omega) (end178 _ _ _ σ2 τ2 hB.symm rb hg)
  refine u_257_61 ⟨by omega, ifI (fun z => absurd z c2) (fun _ => ?_)⟩
  by_cases c4 : srtO (tk T n s) = 4
  · have k := sb.2.2.2.2.1.mp c4
    have hB : bodyO T n q (σ 83 14) (tk T n s) (nx T n s) = bnd (eitW T n q (σ 83 14) (nx T n s)) (addO T n q (σ 83 14 + (eitO T n 301 (nx T n s) [] 0 0).2.2.length) 4) := by
      unfold bodyO
      rw [if_neg (by omega), if_neg (by omega), if_pos k]
    have w0 : PGc σ1 (uc σ1 84 (u1 (σ1 84) (q + 4) (σ1 83 14))) τ1 τ1 [] [(q + 4, σ1 83 14)] 0 := PGc_w (by omega)
    have k83 : (uc σ1 84 (u1 (σ1 84) (q + 4) (σ1 83 14))) 83 = σ1 83 := uc_n (by decide)
    refine u_257_87 ⟨by omega, ifI (fun _ => ⟨by have := p2.1; omega, T, n, _, p0, TR_84 tr, EB_f EB1 (by rw [k83]) (by rw [k83]; exact EB1.2), by rw [k83]; omega, by rw [k83]; exact f17, fun σ2 τ2 rb of => ⟨by have := p2.1; omega, by omega, ?_⟩⟩) (fun z => absurd c4 z)⟩
    obtain ⟨tr2, ok2, L2, pf2, bd2⟩ := of
    have g12 : σ2 83 12 = σ 83 12 := by rw [pf2.2.2.1 12 (by omega), k83, f12]
    have w1 : PGc σ2 (uc σ2 84 (u1 (σ2 84) (q + 5) (σ2 83 14))) τ2 τ2 [] [(q + 5, σ2 83 14)] 0 := PGc_w (by omega)
    have g83 : (uc σ2 84 (u1 (σ2 84) (q + 5) (σ2 83 14))) 83 = σ2 83 := uc_n (by decide)
    have tr3 : TR T n (eitO T n 301 (nx T n s) [] 0 0).2.1 (uc σ2 84 (u1 (σ2 84) (q + 5) (σ2 83 14))) τ2 := TR_84 tr2
    have gen : ∃ L W, PGc σ1 (uc σ2 84 (u1 (σ2 84) (q + 5) (σ2 83 14))) τ1 τ2 L W 0 ∧ (uc σ2 84 (u1 (σ2 84) (q + 5) (σ2 83 14))) 83 14 ≤ 310 := ⟨_, _, PGc_t (PGc_t w0 (PGc_P pf2) b1) w1 b1, by rw [g83]; exact bd2⟩
    refine ifI (fun e3 => ?_) (fun e3 => ?_)
    · obtain ⟨pf0, h17⟩ := ok2 e3
      have ev : eitW T n q (σ 83 14) (nx T n s) = (0, (eitO T n 301 (nx T n s) [] 0 0).2.1, (eitO T n 301 (nx T n s) [] 0 0).2.2, [(q + 4, σ 83 14), (q + 5, σ 83 14 + (eitO T n 301 (nx T n s) [] 0 0).2.2.length)]) := if_neg (by omega)
      have e14 : σ2 83 14 = σ 83 14 + (eitO T n 301 (nx T n s) [] 0 0).2.2.length := by rw [pf0.1.1, k83, f14]
      have pg := PGc_t (PGc_t w0 (PGc_P pf0) b1) w1 b1
      rw [List.nil_append, List.append_nil, e14, f14] at pg
      have gE : GF T n σ1 τ1 (eitW T n q (σ 83 14) (nx T n s)) (uc σ2 84 (u1 (σ2 84) (q + 5) (σ2 83 14))) τ2 := by
        rw [ev]
        refine ⟨tr3, fun _ => ⟨?_, by rw [g83, h17, k83]⟩, gen⟩
        rw [e14]
        exact pg
      have e0 : (eitW T n q (σ 83 14) (nx T n s)).1 = 0 := by rw [ev]
      have p0e : (eitW T n q (σ 83 14) (nx T n s)).2.1 = (eitO T n 301 (nx T n s) [] 0 0).2.1 := by rw [ev]
      have nk := eitW_k (T := T) n3 (q := q) (c := σ 83 14) (s := nx T n s) (by omega) (by omega) e0
      rw [ev] at nk
      have nk1 : nx T n s < (eitO T n 301 (nx T n s) [] 0 0).2.1 := nk.1
      have nk2 : ((eitO T n 301 (nx T n s) [] 0 0).2.2.length : Int) ≤ (eitO T n 301 (nx T n s) [] 0 0).2.1 - nx T n s := nk.2.2
      have hq4 : (uc σ2 84 (u1 (σ2 84) (q + 5) (σ2 83 14))) 84 q = 4 := by
        rw [uc_s, u1_n (by omega), pf0.1.2.2 q (by rw [k83]; omega), uc_s, u1_n (by omega), cq, c4]
      refine ⟨T, n, _, 4, p0, tr3, (GF_b EB1 gE).1, by rw [g83]; omega, by rw [g83]; omega, by rw [g83, h17, k83]; exact f17, hq4, by omega, fun σ3 τ3 rb3 g3 => ?_⟩
      have k14 : (uc σ2 84 (u1 (σ2 84) (q + 5) (σ2 83 14))) 83 14 = σ 83 14 + (eitO T n 301 (nx T n s) [] 0 0).2.2.length := by rw [g83]; exact e14
      rw [k14] at rb3 g3 ⊢
      rw [← p0e] at rb3 g3 ⊢
      have hg := GF_2 (f := addO T n q (σ 83 14 + (eitO T n 301 (nx T n s) [] 0 0).2.2.length) 4) e0 gE b1 g3
      have hv := bnd_2 (f := addO T n q (σ 83 14 + (eitO T n 301 (nx T n s) [] 0 0).2.2.length) 4) e0
      rw [← hv] at rb3 ⊢
      exact t131 _ _ _ σ3 τ3 (by omega) (by omega) (end178 _ _ _ σ3 τ3 hB.symm rb3 hg)
    · have ev : eitW T n q (σ 83 14) (nx T n s) = ((eitO T n 301 (nx T n s) [] 0 0).1, (eitO T n 301 (nx T n s) [] 0 0).2.1, [], []) := if_pos e3
      have ne : (eitW T n q (σ 83 14) (nx T n s)).1 ≠ 0 := by rw [ev]; exact e3
      have gE : GF T n σ1 τ1 (eitW T n q (σ 83 14) (nx T n s)) (uc σ2 84 (u1 (σ2 84) (q + 5) (σ2 83 14))) τ2 := by
        rw [ev]
        exact ⟨tr3, fun z => absurd z e3, gen⟩
      have hg := GF_1 (f := addO T n q (σ 83 14 + (eitO T n 301 (nx T n s) [] 0 0).2.2.length) 4) ne gE
      have hv : (bnd (eitW T n q (σ 83 14) (nx T n s)) (addO T n q (σ 83 14 + (eitO T n 301 (nx T n s) [] 0 0).2.2.length) 4)).1 = (eitO T n 301 (nx T n s) [] 0 0).1 := by rw [bnd_1 ne, ev]
      rw [← hv] at rb ⊢
      exact t131 _ _ _ _ τ2 (by omega) (by omega) (end178 _ _ _ _ τ2 hB.symm (by omega) hg)
  refine u_257_87 ⟨by omega, ifI (fun z => absurd z c4) (fun _ => ?_)⟩
  by_cases c6 : srtO (tk T n s) = 6
  · have k := sb.2.2.2.2.2.1.mp c6
    have hB : numO T n 0 9999 (q + 1) (nx T n s) = bodyO T n q (σ 83 14) (tk T n s) (nx T n s) := by
      unfold bodyO
      rw [if_neg (by omega), if_neg (by omega), if_neg (by omega), if_pos k]
    refine u_257_131 ⟨by omega, ifI (fun _ => ⟨T, n, _, p0, tr, EB1, by omega, fun σ2 τ2 rb g => t149 _ _ _ σ2 τ2 (by omega) (by omega) (end178 _ _ _ σ2 τ2 hB rb g)⟩) (fun z => absurd c6 z)⟩
  refine u_257_131 ⟨by omega, ifI (fun z => absurd z c6) (fun _ => ?_)⟩
  by_cases c7 : srtO (tk T n s) = 7
  · have k := sb.2.2.2.2.2.2.1.mp c7
    have hB : ageO T n q (nx T n s) = bodyO T n q (σ 83 14) (tk T n s) (nx T n s) := by
      unfold bodyO
      rw [if_neg (by omega), if_neg (by omega), if_neg (by omega), if_neg (by omega), if_pos k]
    refine u_257_149 ⟨by omega, ifI (fun _ => ⟨T, n, _, p0, tr, EB1, by omega, fun σ2 τ2 rb g => t161 _ _ _ σ2 τ2 (by omega) (by omega) (end178 _ _ _ σ2 τ2 hB rb g)⟩) (fun z => absurd c7 z)⟩
  refine u_257_149 ⟨by omega, ifI (fun z => absurd z c7) (fun _ => ?_)⟩
  have hB : numO T n 0 20 (q + 1) (nx T n s) = bodyO T n q (σ 83 14) (tk T n s) (nx T n s) := by
    unfold bodyO
    rw [if_neg (by omega), if_neg (by omega), if_neg (by omega), if_neg (by omega), if_neg (by omega)]
  exact u_257_161 ⟨by omega, ifI (fun z => by omega) (fun _ => ⟨T, n, _, p0, tr, EB1, by omega, fun σ2 τ2 rb g => end178 _ _ _ σ2 τ2 hB rb g⟩)⟩
