/-! ===== the class reads: one step (segments printed by wip/whole, contracts own work) ===== -/
/-- the class stands at a TOKEN -/
def CR (T : Int → Int) (n s : Int) (σ : zI) : Prop := ∃ cnt i : Int, CT T n σ cnt ∧ (0 ≤ i ∧ i ≤ cnt) ∧ s = sT T n i ∧ σ 63 3 = i ∧ σ 63 4 = tk T n s ∧ σ 63 5 = 0 ∧ σ 63 6 = -1
/-- the class has found a fault -/
def CD (r e : Int) (σ : zI) : Prop := σ 63 5 = r ∧ σ 63 6 = e ∧ 0 ≤ σ 63 3 ∧ 0 ≤ σ 63 4 ∧ σ 63 4 ≤ 36 ∧ σ 63 3 ≤ 300
/-- some fault -/
def CFS (σ : zI) : Prop := σ 63 5 ≠ 0 ∧ 0 ≤ σ 63 3 ∧ 0 ≤ σ 63 4 ∧ σ 63 4 ≤ 36
theorem CD_F {r e : Int} {σ : zI} (h : CD r e σ) (hr : r ≠ 0) : CFS σ := ⟨by rw [h.1]; exact hr, h.2.2.1, h.2.2.2.1, h.2.2.2.2.1⟩
def CK (σ σ1 : zI) : Prop := (∀ c, c ≠ 63 → σ1 c = σ c) ∧ ∀ k, k < 3 ∨ 6 < k → σ1 63 k = σ 63 k
theorem CK_0 {σ : zI} : CK σ σ := ⟨fun _ _ => rfl, fun _ _ => rfl⟩
theorem CK_t {σ σ1 σ2 : zI} (h : CK σ σ1) (g : CK σ1 σ2) : CK σ σ2 := ⟨fun c hc => (g.1 c hc).trans (h.1 c hc), fun k hk => (g.2 k hk).trans (h.2 k hk)⟩
theorem CT_f {T : Int → Int} {n cnt : Int} {σ σ1 : zI} (h : CT T n σ cnt) (e4 : σ1 64 = σ 64) (e5 : σ1 65 = σ 65) (e6 : σ1 66 = σ 66) : CT T n σ1 cnt := by
  obtain ⟨h1, h2, h3, h4⟩ := h
  refine ⟨h1, fun j j0 j1 => ?_, fun j j0 j1 => ?_, h4⟩
  · rw [e4, e5]; exact h2 j j0 j1
  · rw [e6]; exact h3 j j0 j1
theorem CR_b {T : Int → Int} {n s : Int} {σ : zI} (h : CR T n s σ) : (0 ≤ σ 63 3 ∧ σ 63 3 ≤ n) ∧ σ 65 (σ 63 3) = s ∧ σ 63 4 = tk T n s ∧ σ 63 5 = 0 ∧ (tk T n s ≠ 1 → σ 66 (σ 63 3) = nv T s (tE T n s)) := by
  obtain ⟨cnt, i, ct, hi, hs, h3, h4, h5⟩ := h
  have ct0 := ct.1
  have a := ct.2.1 i hi.1 hi.2
  refine ⟨by omega, by rw [h3, a.2, hs], h4, h5.1, fun k1 => ?_⟩
  have sn := tk_n (T := T) k1
  have ic : i ≠ cnt := fun z => by rw [hs, z, ct.2.2.2] at sn; omega
  rw [h3, hs]
  exact (ct.2.2.1 i hi.1 (by omega)).2
theorem CR_6 {T : Int → Int} {n s : Int} {σ : zI} (h : CR T n s σ) : σ 63 6 = -1 := by
  obtain ⟨cnt, i, ct, hi, hs, h3, h4, h5⟩ := h
  exact h5.2
theorem CR_s {T : Int → Int} {n s : Int} {σ : zI} (h : CR T n s σ) (hn : 0 ≤ n) : 0 ≤ s ∧ s ≤ n := by
  obtain ⟨cnt, i, ct, hi, hs, _⟩ := h
  have : ∀ j : Nat, (j : Int) ≤ cnt → 0 ≤ sT T n j ∧ sT T n j ≤ n := by
    intro j
    induction j with
    | zero =>
      intro _
      have := sk_b (T := T) (n := n) (p := 0) hn
      exact this
    | succ j ih =>
      intro hj
      have a := ih (by omega)
      have b := (ct.2.2.1 j (by omega) (by omega)).1
      have c := nx_b (T := T) b
      have e : sT T n ((j + 1 : Nat) : Int) = nx T n (sT T n j) := by
        rw [← sT_s (by omega)]
        rfl
      rw [e]
      omega
  have h1 := this i.toNat (by omega)
  rw [show ((i.toNat : Nat) : Int) = i by omega, ← hs] at h1
  exact h1
/-- what expecting a TOKEN comes to -/
def XP (T : Int → Int) (n s t : Int) (σ σ1 : zI) : Prop := CK σ σ1 ∧ (CFS σ → σ1 = σ) ∧ (CR T n s σ → (tk T n s = t → CR T n (nx T n s) σ1) ∧ (tk T n s ≠ t → CD 1 s σ1))
-- method 43: MillTown$Reader.fail(I)V
theorem c_43_0 : pg_cd 43 0 = (5, 1, 0, 0, 0) := by decide +kernel
theorem c_43_1 : pg_cd 43 1 = (43, 3, 21, 5, 0) := by decide +kernel
theorem c_43_4 : pg_cd 43 4 = (36, 3, 0, 1, 33) := by decide +kernel
theorem c_43_7 : pg_cd 43 7 = (5, 1, 0, 0, 0) := by decide +kernel
theorem c_43_8 : pg_cd 43 8 = (43, 3, 43, 3, 0) := by decide +kernel
theorem c_43_11 : pg_cd 43 11 = (5, 1, 0, 0, 0) := by decide +kernel
theorem c_43_12 : pg_cd 43 12 = (45, 3, 15, 1, 0) := by decide +kernel
theorem c_43_15 : pg_cd 43 15 = (58, 0, 0, 0, 0) := by decide +kernel
theorem c_43_16 : pg_cd 43 16 = (37, 3, 0, 3, 21) := by decide +kernel
theorem c_43_19 : pg_cd 43 19 = (5, 1, 0, 0, 0) := by decide +kernel
theorem c_43_20 : pg_cd 43 20 = (3, 1, 0, 1, 0) := by decide +kernel
theorem c_43_21 : pg_cd 43 21 = (46, 3, 21, 5, 0) := by decide +kernel
theorem c_43_24 : pg_cd 43 24 = (5, 1, 0, 0, 0) := by decide +kernel
theorem c_43_25 : pg_cd 43 25 = (5, 1, 0, 0, 0) := by decide +kernel
theorem c_43_26 : pg_cd 43 26 = (45, 3, 15, 1, 0) := by decide +kernel
theorem c_43_29 : pg_cd 43 29 = (5, 1, 0, 0, 0) := by decide +kernel
theorem c_43_30 : pg_cd 43 30 = (43, 3, 43, 3, 0) := by decide +kernel
theorem c_43_33 : pg_cd 43 33 = (50, 1, 0, 0, 0) := by decide +kernel
theorem c_43_34 : pg_cd 43 34 = (46, 3, 25, 6, 0) := by decide +kernel
theorem c_43_37 : pg_cd 43 37 = (94, 0, 0, 0, 0) := by decide +kernel
theorem mi_43 : pg_mc 43 = 3 ∧ pg_na 43 = 1 ∧ pg_mx 43 = 2 := by decide +kernel
set_option maxRecDepth 20000 in
theorem u_43_0 {d : Nat} {S : zS} {σ τ : zI} {Q : zQ} {x1 : Int} (t : if (σ 63 5) = 0 then (if (301 : Int) ≤ (σ 63 3) then (Q none S σ τ) else (∃ w4 : Int, wI w4 = wI x1 ∧ rg w4 ∧ (0 ≤ σ 63 3 ∧ σ 63 3 < 301) ∧ Q none S (uc σ 63 (u1 (u1 (σ 63) 5 w4) 6 (σ 65 (σ 63 3)))) τ)) else (Q none S σ τ)) : wi (d + 3) 43 0 [.ref 63, .int (wI x1)] [] S σ τ Q := by
  refine i5 c_43_0 rfl (wi_ok (fun K1 => ?_))
  refine i43 (v := σ 63 5) c_43_1 (lo (c := 63) (kd := 103) (n := 0) rfl (by decide)) rfl ?_
  refine i36 c_43_4 (rge_ K1 rfl) rfl (fun hc => ?_) (fun hc => ?_)
  · have t := iF t hc
    have ha2 : ¬ ((σ 63 5) = 0) := hc
    exact i94 c_43_37 t
  · have t := iT t (Decidable.not_not.mp hc)
    have ha2 : (σ 63 5) = 0 := Decidable.not_not.mp hc
    refine i5 c_43_7 rfl (i43 (v := σ 63 3) c_43_8 (lo (c := 63) (kd := 103) (n := 0) rfl (by decide)) rfl (i5 c_43_11 rfl (i45 c_43_12 (lo (c := 63) (kd := 103) (n := 0) rfl (by decide)) (lro (c := 63) (k := 1) (j := 65) (by decide)) (i58 (v := 301) c_43_15 (lo (c := 65) (kd := 0) (n := 301) rfl (by decide)) rfl ?_))))
    refine i37 c_43_16 (rge_ K1 rfl) (by decide) rfl (fun hc => ?_) (fun hc => ?_)
    · have t := iT t hc
      have ha3 : (301 : Int) ≤ (σ 63 3) := hc
      exact i94 c_43_37 t
    · have t := iF t hc
      have ha3 : ¬ ((301 : Int) ≤ (σ 63 3)) := hc
      obtain ⟨w4, e5, r6, t⟩ := t
      refine i5 c_43_19 rfl (i3 c_43_20 rfl (i46 (σ1 := uc σ 63 (u1 (σ 63) 5 w4)) c_43_21 (lo (c := 63) (kd := 103) (n := 0) rfl (by decide)) (by decide) e5 r6 (wr_ rfl rfl) (i5 c_43_24 rfl (i5 c_43_25 rfl (i45 c_43_26 (lo (c := 63) (kd := 103) (n := 0) rfl (by decide)) (lro (c := 63) (k := 1) (j := 65) (by decide)) (i5 c_43_29 rfl (wi_ok (fun K7 => ?_))))))))
      obtain ⟨r8, t⟩ := t
      refine i43 (v := σ 63 3) c_43_30 (lo (c := 63) (kd := 103) (n := 0) rfl (by decide)) ((congrFun (uc_s _ _ _) _).trans (u1_n (by decide))) (i50 (v := σ 65 (σ 63 3)) c_43_33 (lo (c := 65) (kd := 0) (n := 301) rfl (by decide)) (by decide) r8 (congrFun (uc_ns rfl (by decide)) _) (i46 (σ1 := uc σ 63 (u1 (u1 (σ 63) 5 w4) 6 (σ 65 (σ 63 3)))) c_43_34 (lo (c := 63) (kd := 103) (n := 0) rfl (by decide)) (by decide) rfl (rge_ K7 (congrFun (uc_ns rfl (by decide)) _)) (wr_ (uc_s _ _ _) (uc_uc _ _ _ _)) ?_))
      exact i94 c_43_37 t
theorem q_43 {d : Nat} {S : zS} {σ τ : zI} {Q : zQ} {r : Int} {T : Int → Int} {n : Int} {s : Int} (p0 : CR T n s σ ∨ CFS σ) (p1 : rg r) (p2 : TB T n) (t : ∀ (σ1 : zI), CK σ σ1 → (CFS σ → σ1 = σ) → (CR T n s σ → CD r s σ1) → Q none S σ1 τ) : wc (d + 3) 43 [.ref 63, .int (wI r)] S σ τ Q := by
  have n3 := p2.1.2
  rcases p0 with cr | fl
  · obtain ⟨b1, b2, b3, b4, b5⟩ := CR_b cr
    have tb := (rk_tk p2 (CR_s cr p2.1.1)).2.2.2.2.2.1
    refine wc_of mi_43 rfl (u_43_0 (ifI (fun _ => ifI (fun z => by omega) (fun _ => ⟨r, rfl, p1, by omega, t _ ⟨fun c hc => uc_n hc, fun k hk => ?_⟩ (fun z => absurd b4 z.1) (fun _ => ⟨?_, ?_, ?_, ?_, ?_, ?_⟩)⟩)) (fun z => absurd b4 z)))
    · rw [uc_s, u1_n (by omega), u1_n (by omega)]
    · rw [uc_s, u1_n (by omega), u1_s]
    · rw [uc_s, u1_s, b2]
    · rw [uc_s, u1_n (by omega), u1_n (by omega)]; exact b1.1
    · rw [uc_s, u1_n (by omega), u1_n (by omega), b3]; exact tb.1
    · rw [uc_s, u1_n (by omega), u1_n (by omega), b3]; exact tb.2
    · rw [uc_s, u1_n (by omega), u1_n (by omega)]; omega
  · exact wc_of mi_43 rfl (u_43_0 (ifI (fun z => absurd z fl.1) (fun _ => t σ CK_0 (fun _ => rfl) (fun z => absurd (CR_b z).2.2.2.1 fl.1))))
-- method 44: MillTown$Reader.expect(I)V
theorem c_44_0 : pg_cd 44 0 = (5, 1, 0, 0, 0) := by decide +kernel
theorem c_44_1 : pg_cd 44 1 = (43, 3, 21, 5, 0) := by decide +kernel
theorem c_44_4 : pg_cd 44 4 = (36, 3, 0, 1, 51) := by decide +kernel
theorem c_44_7 : pg_cd 44 7 = (5, 1, 0, 0, 0) := by decide +kernel
theorem c_44_8 : pg_cd 44 8 = (43, 3, 46, 4, 0) := by decide +kernel
theorem c_44_11 : pg_cd 44 11 = (3, 1, 0, 1, 0) := by decide +kernel
theorem c_44_12 : pg_cd 44 12 = (37, 3, 0, 1, 43) := by decide +kernel
theorem c_44_15 : pg_cd 44 15 = (5, 1, 0, 0, 0) := by decide +kernel
theorem c_44_16 : pg_cd 44 16 = (43, 3, 43, 3, 0) := by decide +kernel
theorem c_44_19 : pg_cd 44 19 = (1, 1, 0, 0, 1) := by decide +kernel
theorem c_44_20 : pg_cd 44 20 = (10, 1, 0, 0, 0) := by decide +kernel
theorem c_44_21 : pg_cd 44 21 = (5, 1, 0, 0, 0) := by decide +kernel
theorem c_44_22 : pg_cd 44 22 = (45, 3, 9, 0, 0) := by decide +kernel
theorem c_44_25 : pg_cd 44 25 = (58, 0, 0, 0, 0) := by decide +kernel
theorem c_44_26 : pg_cd 44 26 = (37, 3, 0, 3, 29) := by decide +kernel
theorem c_44_29 : pg_cd 44 29 = (5, 1, 0, 0, 0) := by decide +kernel
theorem c_44_30 : pg_cd 44 30 = (33, 1, 0, 0, 0) := by decide +kernel
theorem c_44_31 : pg_cd 44 31 = (43, 3, 43, 3, 0) := by decide +kernel
theorem c_44_34 : pg_cd 44 34 = (1, 1, 0, 0, 1) := by decide +kernel
theorem c_44_35 : pg_cd 44 35 = (10, 1, 0, 0, 0) := by decide +kernel
theorem c_44_36 : pg_cd 44 36 = (46, 3, 43, 3, 0) := by decide +kernel
theorem c_44_39 : pg_cd 44 39 = (5, 1, 0, 0, 0) := by decide +kernel
theorem c_44_40 : pg_cd 44 40 = (5, 1, 0, 0, 0) := by decide +kernel
theorem c_44_41 : pg_cd 44 41 = (45, 3, 9, 0, 0) := by decide +kernel
theorem c_44_44 : pg_cd 44 44 = (5, 1, 0, 0, 0) := by decide +kernel
theorem c_44_45 : pg_cd 44 45 = (43, 3, 43, 3, 0) := by decide +kernel
theorem c_44_48 : pg_cd 44 48 = (50, 1, 0, 0, 0) := by decide +kernel
theorem c_44_49 : pg_cd 44 49 = (46, 3, 46, 4, 0) := by decide +kernel
theorem c_44_52 : pg_cd 44 52 = (38, 3, 0, 0, 40) := by decide +kernel
theorem c_44_55 : pg_cd 44 55 = (5, 1, 0, 0, 0) := by decide +kernel
theorem c_44_56 : pg_cd 44 56 = (43, 3, 21, 5, 0) := by decide +kernel
theorem c_44_59 : pg_cd 44 59 = (36, 3, 0, 1, 33) := by decide +kernel
theorem c_44_62 : pg_cd 44 62 = (5, 1, 0, 0, 0) := by decide +kernel
theorem c_44_63 : pg_cd 44 63 = (43, 3, 43, 3, 0) := by decide +kernel
theorem c_44_66 : pg_cd 44 66 = (5, 1, 0, 0, 0) := by decide +kernel
theorem c_44_67 : pg_cd 44 67 = (45, 3, 15, 1, 0) := by decide +kernel
theorem c_44_70 : pg_cd 44 70 = (58, 0, 0, 0, 0) := by decide +kernel
theorem c_44_71 : pg_cd 44 71 = (37, 3, 0, 3, 21) := by decide +kernel
theorem c_44_74 : pg_cd 44 74 = (5, 1, 0, 0, 0) := by decide +kernel
theorem c_44_75 : pg_cd 44 75 = (1, 1, 0, 0, 1) := by decide +kernel
theorem c_44_76 : pg_cd 44 76 = (46, 3, 21, 5, 0) := by decide +kernel
theorem c_44_79 : pg_cd 44 79 = (5, 1, 0, 0, 0) := by decide +kernel
theorem c_44_80 : pg_cd 44 80 = (5, 1, 0, 0, 0) := by decide +kernel
theorem c_44_81 : pg_cd 44 81 = (45, 3, 15, 1, 0) := by decide +kernel
theorem c_44_84 : pg_cd 44 84 = (5, 1, 0, 0, 0) := by decide +kernel
theorem c_44_85 : pg_cd 44 85 = (43, 3, 43, 3, 0) := by decide +kernel
theorem c_44_88 : pg_cd 44 88 = (50, 1, 0, 0, 0) := by decide +kernel
theorem c_44_89 : pg_cd 44 89 = (46, 3, 25, 6, 0) := by decide +kernel
theorem c_44_92 : pg_cd 44 92 = (94, 0, 0, 0, 0) := by decide +kernel
theorem mi_44 : pg_mc 44 = 3 ∧ pg_na 44 = 1 ∧ pg_mx 44 = 2 := by decide +kernel
set_option maxRecDepth 20000 in
theorem u_44_0 {d : Nat} {S : zS} {σ τ : zI} {Q : zQ} {x1 : Int} (t : if (σ 63 5) = 0 then ((rg x1) ∧ if (σ 63 4) = x1 then ((rg ((σ 63 3) + 1)) ∧ if (301 : Int) ≤ ((σ 63 3) + 1) then (if (301 : Int) ≤ (σ 63 3) then (Q none S σ τ) else ((0 ≤ σ 63 3 ∧ σ 63 3 < 301) ∧ Q none S (uc σ 63 (u1 (u1 (σ 63) 5 1) 6 (σ 65 (σ 63 3)))) τ)) else ((0 ≤ (σ 63 3) + 1 ∧ (σ 63 3) + 1 < 301) ∧ Q none S (uc σ 63 (u1 (u1 (σ 63) 3 ((σ 63 3) + 1)) 4 (σ 64 ((σ 63 3) + 1)))) τ)) else (if (301 : Int) ≤ (σ 63 3) then (Q none S σ τ) else ((0 ≤ σ 63 3 ∧ σ 63 3 < 301) ∧ Q none S (uc σ 63 (u1 (u1 (σ 63) 5 1) 6 (σ 65 (σ 63 3)))) τ))) else (Q none S σ τ)) : wi (d + 3) 44 0 [.ref 63, .int (wI x1)] [] S σ τ Q := by
  refine i5 c_44_0 rfl (wi_ok (fun K1 => ?_))
  refine i43 (v := σ 63 5) c_44_1 (lo (c := 63) (kd := 103) (n := 0) rfl (by decide)) rfl ?_
  refine i36 c_44_4 (rge_ K1 rfl) rfl (fun hc => ?_) (fun hc => ?_)
  · have t := iF t hc
    have ha2 : ¬ ((σ 63 5) = 0) := hc
    refine i5 c_44_55 rfl (i43 (v := σ 63 5) c_44_56 (lo (c := 63) (kd := 103) (n := 0) rfl (by decide)) rfl ?_)
    refine i36 c_44_59 (rge_ K1 rfl) rfl (fun _ => ?_) (fun hc => absurd (show ¬ ((σ 63 5) = 0) by omega) hc)
    exact i94 c_44_92 t
  · have t := iT t (Decidable.not_not.mp hc)
    have ha2 : (σ 63 5) = 0 := Decidable.not_not.mp hc
    obtain ⟨r4, t⟩ := t
    refine i5 c_44_7 rfl (i43 (v := σ 63 4) c_44_8 (lo (c := 63) (kd := 103) (n := 0) rfl (by decide)) rfl (i3 c_44_11 rfl ?_))
    refine i37 c_44_12 (rge_ K1 rfl) r4 rfl (fun hc => ?_) (fun hc => ?_)
    · have t := iF t hc
      have ha5 : ¬ ((σ 63 4) = x1) := hc
      refine i5 c_44_55 rfl (i43 (v := σ 63 5) c_44_56 (lo (c := 63) (kd := 103) (n := 0) rfl (by decide)) rfl ?_)
      refine i36 c_44_59 (rge_ K1 rfl) rfl (fun hc => absurd (show (σ 63 5) = 0 by omega) hc) (fun _ => ?_)
      refine i5 c_44_62 rfl (i43 (v := σ 63 3) c_44_63 (lo (c := 63) (kd := 103) (n := 0) rfl (by decide)) rfl (i5 c_44_66 rfl (i45 c_44_67 (lo (c := 63) (kd := 103) (n := 0) rfl (by decide)) (lro (c := 63) (k := 1) (j := 65) (by decide)) (i58 (v := 301) c_44_70 (lo (c := 65) (kd := 0) (n := 301) rfl (by decide)) rfl ?_))))
      refine i37 c_44_71 (rge_ K1 rfl) (by decide) rfl (fun hc => ?_) (fun hc => ?_)
      · have t := iT t hc
        have ha7 : (301 : Int) ≤ (σ 63 3) := hc
        exact i94 c_44_92 t
      · have t := iF t hc
        have ha7 : ¬ ((301 : Int) ≤ (σ 63 3)) := hc
        refine i5 c_44_74 rfl (i1 c_44_75 (i46 (σ1 := uc σ 63 (u1 (σ 63) 5 1)) c_44_76 (lo (c := 63) (kd := 103) (n := 0) rfl (by decide)) (by decide) rfl (by decide) (wr_ rfl rfl) (i5 c_44_79 rfl (i5 c_44_80 rfl (i45 c_44_81 (lo (c := 63) (kd := 103) (n := 0) rfl (by decide)) (lro (c := 63) (k := 1) (j := 65) (by decide)) (i5 c_44_84 rfl (wi_ok (fun K8 => ?_))))))))
        obtain ⟨r9, t⟩ := t
        refine i43 (v := σ 63 3) c_44_85 (lo (c := 63) (kd := 103) (n := 0) rfl (by decide)) ((congrFun (uc_s _ _ _) _).trans (u1_n (by decide))) (i50 (v := σ 65 (σ 63 3)) c_44_88 (lo (c := 65) (kd := 0) (n := 301) rfl (by decide)) (by decide) r9 (congrFun (uc_ns rfl (by decide)) _) (i46 (σ1 := uc σ 63 (u1 (u1 (σ 63) 5 1) 6 (σ 65 (σ 63 3)))) c_44_89 (lo (c := 63) (kd := 103) (n := 0) rfl (by decide)) (by decide) rfl (rge_ K8 (congrFun (uc_ns rfl (by decide)) _)) (wr_ (uc_s _ _ _) (uc_uc _ _ _ _)) ?_))
        exact i94 c_44_92 t
    · have t := iT t (Decidable.not_not.mp hc)
      have ha5 : (σ 63 4) = x1 := Decidable.not_not.mp hc
      obtain ⟨r10, t⟩ := t
      refine i5 c_44_15 rfl (i43 (v := σ 63 3) c_44_16 (lo (c := 63) (kd := 103) (n := 0) rfl (by decide)) rfl (i1 c_44_19 (i10 c_44_20 (i5 c_44_21 rfl (i45 c_44_22 (lo (c := 63) (kd := 103) (n := 0) rfl (by decide)) (lro (c := 63) (k := 0) (j := 64) (by decide)) (i58 (v := 301) c_44_25 (lo (c := 64) (kd := 0) (n := 301) rfl (by decide)) rfl ?_))))))
      refine i37 c_44_26 r10 (by decide) rfl (fun hc => ?_) (fun hc => ?_)
      · have t := iT t hc
        have ha11 : (301 : Int) ≤ ((σ 63 3) + 1) := hc
        refine i5 c_44_55 rfl (i43 (v := σ 63 5) c_44_56 (lo (c := 63) (kd := 103) (n := 0) rfl (by decide)) rfl ?_)
        refine i36 c_44_59 (rge_ K1 rfl) rfl (fun hc => absurd (show (σ 63 5) = 0 by omega) hc) (fun _ => ?_)
        refine i5 c_44_62 rfl (i43 (v := σ 63 3) c_44_63 (lo (c := 63) (kd := 103) (n := 0) rfl (by decide)) rfl (i5 c_44_66 rfl (i45 c_44_67 (lo (c := 63) (kd := 103) (n := 0) rfl (by decide)) (lro (c := 63) (k := 1) (j := 65) (by decide)) (i58 (v := 301) c_44_70 (lo (c := 65) (kd := 0) (n := 301) rfl (by decide)) rfl ?_))))
        refine i37 c_44_71 (rge_ K1 rfl) (by decide) rfl (fun hc => ?_) (fun hc => ?_)
        · have t := iT t hc
          have ha13 : (301 : Int) ≤ (σ 63 3) := hc
          exact i94 c_44_92 t
        · have t := iF t hc
          have ha13 : ¬ ((301 : Int) ≤ (σ 63 3)) := hc
          refine i5 c_44_74 rfl (i1 c_44_75 (i46 (σ1 := uc σ 63 (u1 (σ 63) 5 1)) c_44_76 (lo (c := 63) (kd := 103) (n := 0) rfl (by decide)) (by decide) rfl (by decide) (wr_ rfl rfl) (i5 c_44_79 rfl (i5 c_44_80 rfl (i45 c_44_81 (lo (c := 63) (kd := 103) (n := 0) rfl (by decide)) (lro (c := 63) (k := 1) (j := 65) (by decide)) (i5 c_44_84 rfl (wi_ok (fun K14 => ?_))))))))
          obtain ⟨r15, t⟩ := t
          refine i43 (v := σ 63 3) c_44_85 (lo (c := 63) (kd := 103) (n := 0) rfl (by decide)) ((congrFun (uc_s _ _ _) _).trans (u1_n (by decide))) (i50 (v := σ 65 (σ 63 3)) c_44_88 (lo (c := 65) (kd := 0) (n := 301) rfl (by decide)) (by decide) r15 (congrFun (uc_ns rfl (by decide)) _) (i46 (σ1 := uc σ 63 (u1 (u1 (σ 63) 5 1) 6 (σ 65 (σ 63 3)))) c_44_89 (lo (c := 63) (kd := 103) (n := 0) rfl (by decide)) (by decide) rfl (rge_ K14 (congrFun (uc_ns rfl (by decide)) _)) (wr_ (uc_s _ _ _) (uc_uc _ _ _ _)) ?_))
          exact i94 c_44_92 t
      · have t := iF t hc
        have ha11 : ¬ ((301 : Int) ≤ ((σ 63 3) + 1)) := hc
        refine i5 c_44_29 rfl (i33a c_44_30 (i43 (v := σ 63 3) c_44_31 (lo (c := 63) (kd := 103) (n := 0) rfl (by decide)) rfl (i1 c_44_34 (i10 c_44_35 (i46 (σ1 := uc σ 63 (u1 (σ 63) 3 ((σ 63 3) + 1))) c_44_36 (lo (c := 63) (kd := 103) (n := 0) rfl (by decide)) (by decide) rfl r10 (wr_ rfl rfl) (i5 c_44_39 rfl (i5 c_44_40 rfl (i45 c_44_41 (lo (c := 63) (kd := 103) (n := 0) rfl (by decide)) (lro (c := 63) (k := 0) (j := 64) (by decide)) (i5 c_44_44 rfl (wi_ok (fun K16 => ?_)))))))))))
        obtain ⟨r17, t⟩ := t
        refine i43 (v := (σ 63 3) + 1) c_44_45 (lo (c := 63) (kd := 103) (n := 0) rfl (by decide)) ((congrFun (uc_s _ _ _) _).trans (u1_s _ _ _)) (i50 (v := σ 64 ((σ 63 3) + 1)) c_44_48 (lo (c := 64) (kd := 0) (n := 301) rfl (by decide)) (by decide) r17 (congrFun (uc_ns rfl (by decide)) _) (i46 (σ1 := uc σ 63 (u1 (u1 (σ 63) 3 ((σ 63 3) + 1)) 4 (σ 64 ((σ 63 3) + 1)))) c_44_49 (lo (c := 63) (kd := 103) (n := 0) rfl (by decide)) (by decide) rfl (rge_ K16 (congrFun (uc_ns rfl (by decide)) _)) (wr_ (uc_s _ _ _) (uc_uc _ _ _ _)) (i38 c_44_52 rfl ?_)))
        exact i94 c_44_92 t
theorem q_44 {d : Nat} {S : zS} {σ τ : zI} {Q : zQ} {tt : Int} {T : Int → Int} {n : Int} {s : Int} (p0 : CR T n s σ ∨ CFS σ) (p1 : CR T n s σ → (1 : Int) ≠ tt) (p2 : rg tt) (p3 : TB T n) (t : ∀ (σ1 : zI), XP T n s tt σ σ1 → Q none S σ1 τ) : wc (d + 3) 44 [.ref 63, .int (wI tt)] S σ τ Q := by
  have n3 := p3.1.2
  rcases p0 with cr | fl
  · obtain ⟨b1, b2, b3, b4, b5⟩ := CR_b cr
    have tb := (rk_tk p3 (CR_s cr p3.1.1)).2.2.2.2.2.1
    have bad : tk T n s ≠ tt → Q none S (uc σ 63 (u1 (u1 (σ 63) 5 1) 6 (σ 65 (σ 63 3)))) τ := fun h => t _ ⟨⟨fun c hc => uc_n hc, fun k hk => by rw [uc_s, u1_n (by omega), u1_n (by omega)]⟩, fun z => absurd b4 z.1, fun _ => ⟨fun z => absurd z h, fun _ => ⟨by rw [uc_s, u1_n (by omega), u1_s], by rw [uc_s, u1_s, b2], by rw [uc_s, u1_n (by omega), u1_n (by omega)]; exact b1.1, by rw [uc_s, u1_n (by omega), u1_n (by omega), b3]; exact tb.1, by rw [uc_s, u1_n (by omega), u1_n (by omega), b3]; exact tb.2, by rw [uc_s, u1_n (by omega), u1_n (by omega)]; omega⟩⟩⟩
    refine wc_of mi_44 rfl (u_44_0 (ifI (fun _ => ⟨p2, ifI (fun e => ?_) (fun e => ifI (fun z => by omega) (fun _ => ⟨by omega, bad (by rw [← b3]; exact e)⟩))⟩) (fun z => absurd b4 z)))
    have et : tk T n s = tt := by rw [← b3]; exact e
    have t1 : tk T n s ≠ 1 := by rw [et]; exact (p1 cr).symm
    have sn := tk_n (T := T) t1
    obtain ⟨cnt, i, ct, hi, hs, h3, h4, h5⟩ := cr
    have ct0 := ct.1
    have ic : i ≠ cnt := fun z => by rw [hs, z, ct.2.2.2] at sn; omega
    have a := ct.2.1 (i + 1) (by omega) (by omega)
    refine ⟨by omega, ifI (fun z => by omega) (fun _ => ⟨by omega, t _ ⟨⟨fun c hc => uc_n hc, fun k hk => ?_⟩, fun z => absurd b4 z.1, fun _ => ⟨fun _ => ⟨cnt, i + 1, CT_f ct (uc_n (by decide)) (uc_n (by decide)) (uc_n (by decide)), by omega, ?_, ?_, ?_, ?_⟩, fun z => absurd et z⟩⟩⟩)⟩
    · rw [uc_s, u1_n (by omega), u1_n (by omega)]
    · rw [sT_s hi.1, hs]
    · rw [uc_s, u1_n (by omega), u1_s, h3]
    · rw [uc_s, u1_s, h3, a.1, sT_s hi.1, hs]
    · rw [uc_s, u1_n (by omega), u1_n (by omega), u1_n (by omega), u1_n (by omega)]; exact h5
  · exact wc_of mi_44 rfl (u_44_0 (ifI (fun z => absurd z fl.1) (fun _ => t σ ⟨CK_0, fun _ => rfl, fun z => absurd (CR_b z).2.2.2.1 fl.1⟩)))
-- method 45: MillTown$Reader.readNumber(II)I
theorem c_45_0 : pg_cd 45 0 = (5, 1, 0, 0, 0) := by decide +kernel
theorem c_45_1 : pg_cd 45 1 = (43, 3, 43, 3, 0) := by decide +kernel
theorem c_45_4 : pg_cd 45 4 = (5, 1, 0, 0, 0) := by decide +kernel
theorem c_45_5 : pg_cd 45 5 = (45, 3, 18, 2, 0) := by decide +kernel
theorem c_45_8 : pg_cd 45 8 = (58, 0, 0, 0, 0) := by decide +kernel
theorem c_45_9 : pg_cd 45 9 = (37, 3, 0, 3, 15) := by decide +kernel
theorem c_45_12 : pg_cd 45 12 = (5, 1, 0, 0, 0) := by decide +kernel
theorem c_45_13 : pg_cd 45 13 = (45, 3, 18, 2, 0) := by decide +kernel
theorem c_45_16 : pg_cd 45 16 = (5, 1, 0, 0, 0) := by decide +kernel
theorem c_45_17 : pg_cd 45 17 = (43, 3, 43, 3, 0) := by decide +kernel
theorem c_45_20 : pg_cd 45 20 = (50, 1, 0, 0, 0) := by decide +kernel
theorem c_45_21 : pg_cd 45 21 = (38, 3, 0, 0, 4) := by decide +kernel
theorem c_45_24 : pg_cd 45 24 = (1, 1, 0, 0, 0) := by decide +kernel
theorem c_45_25 : pg_cd 45 25 = (6, 1, 0, 3, 0) := by decide +kernel
theorem c_45_26 : pg_cd 45 26 = (5, 1, 0, 0, 0) := by decide +kernel
theorem c_45_27 : pg_cd 45 27 = (43, 3, 46, 4, 0) := by decide +kernel
theorem c_45_30 : pg_cd 45 30 = (1, 1, 0, 0, 2) := by decide +kernel
theorem c_45_31 : pg_cd 45 31 = (37, 3, 0, 1, 18) := by decide +kernel
theorem c_45_34 : pg_cd 45 34 = (3, 1, 0, 3, 0) := by decide +kernel
theorem c_45_35 : pg_cd 45 35 = (3, 1, 0, 1, 0) := by decide +kernel
theorem c_45_36 : pg_cd 45 36 = (37, 3, 0, 2, 8) := by decide +kernel
theorem c_45_39 : pg_cd 45 39 = (3, 1, 0, 3, 0) := by decide +kernel
theorem c_45_40 : pg_cd 45 40 = (3, 1, 0, 2, 0) := by decide +kernel
theorem c_45_41 : pg_cd 45 41 = (37, 3, 0, 5, 8) := by decide +kernel
theorem c_45_44 : pg_cd 45 44 = (5, 1, 0, 0, 0) := by decide +kernel
theorem c_45_45 : pg_cd 45 45 = (1, 1, 0, 0, 2) := by decide +kernel
theorem c_45_46 : pg_cd 45 46 = (80, 43, 49, 0, 0) := by decide +kernel
theorem c_45_49 : pg_cd 45 49 = (5, 1, 0, 0, 0) := by decide +kernel
theorem c_45_50 : pg_cd 45 50 = (1, 1, 0, 0, 2) := by decide +kernel
theorem c_45_51 : pg_cd 45 51 = (80, 44, 101, 0, 0) := by decide +kernel
theorem c_45_54 : pg_cd 45 54 = (3, 1, 0, 3, 0) := by decide +kernel
theorem c_45_55 : pg_cd 45 55 = (90, 0, 0, 0, 0) := by decide +kernel
theorem mi_45 : pg_mc 45 = 3 ∧ pg_na 45 = 2 ∧ pg_mx 45 = 4 := by decide +kernel
set_option maxRecDepth 20000 in
theorem u_45_0 {d : Nat} {S : zS} {σ τ : zI} {Q : zQ} {x1 : Int} {x2 : Int} (t : if (301 : Int) ≤ (σ 63 3) then (if (σ 63 4) = 2 then ((rg x1) ∧ if (0 : Int) < x1 then (∃ T14 : Int → Int, ∃ n15 : Int, ∃ s16 : Int, (CR T14 n15 s16 σ ∨ CFS σ) ∧ (TB T14 n15) ∧ ∀ (σ119 : zI), CK σ σ119 → (CFS σ → σ119 = σ) → (CR T14 n15 s16 σ → CD 2 s16 σ119) → ∃ T23 : Int → Int, ∃ n24 : Int, ∃ s25 : Int, (CR T23 n24 s25 σ119 ∨ CFS σ119) ∧ (CR T23 n24 s25 σ119 → (1 : Int) ≠ 2) ∧ (TB T23 n24) ∧ ∀ (σ129 : zI), XP T23 n24 s25 2 σ119 σ129 → Q (some (.int (wI 0))) S σ129 τ) else ((rg x2) ∧ if (0 : Int) ≤ x2 then (∃ T33 : Int → Int, ∃ n34 : Int, ∃ s35 : Int, (CR T33 n34 s35 σ ∨ CFS σ) ∧ (CR T33 n34 s35 σ → (1 : Int) ≠ 2) ∧ (TB T33 n34) ∧ ∀ (σ139 : zI), XP T33 n34 s35 2 σ σ139 → Q (some (.int (wI 0))) S σ139 τ) else (∃ T41 : Int → Int, ∃ n42 : Int, ∃ s43 : Int, (CR T41 n42 s43 σ ∨ CFS σ) ∧ (TB T41 n42) ∧ ∀ (σ146 : zI), CK σ σ146 → (CFS σ → σ146 = σ) → (CR T41 n42 s43 σ → CD 2 s43 σ146) → ∃ T50 : Int → Int, ∃ n51 : Int, ∃ s52 : Int, (CR T50 n51 s52 σ146 ∨ CFS σ146) ∧ (CR T50 n51 s52 σ146 → (1 : Int) ≠ 2) ∧ (TB T50 n51) ∧ ∀ (σ156 : zI), XP T50 n51 s52 2 σ146 σ156 → Q (some (.int (wI 0))) S σ156 τ))) else (∃ T4 : Int → Int, ∃ n5 : Int, ∃ s6 : Int, (CR T4 n5 s6 σ ∨ CFS σ) ∧ (CR T4 n5 s6 σ → (1 : Int) ≠ 2) ∧ (TB T4 n5) ∧ ∀ (σ110 : zI), XP T4 n5 s6 2 σ σ110 → Q (some (.int (wI 0))) S σ110 τ)) else ((0 ≤ σ 63 3 ∧ σ 63 3 < 301) ∧ if (σ 63 4) = 2 then ((rg x1) ∧ if (σ 66 (σ 63 3)) < x1 then (∃ T70 : Int → Int, ∃ n71 : Int, ∃ s72 : Int, (CR T70 n71 s72 σ ∨ CFS σ) ∧ (TB T70 n71) ∧ ∀ (σ175 : zI), CK σ σ175 → (CFS σ → σ175 = σ) → (CR T70 n71 s72 σ → CD 2 s72 σ175) → ∃ T79 : Int → Int, ∃ n80 : Int, ∃ s81 : Int, (CR T79 n80 s81 σ175 ∨ CFS σ175) ∧ (CR T79 n80 s81 σ175 → (1 : Int) ≠ 2) ∧ (TB T79 n80) ∧ ∀ (σ185 : zI), XP T79 n80 s81 2 σ175 σ185 → Q (some (.int (wI (σ 66 (σ 63 3))))) S σ185 τ) else ((rg x2) ∧ if (σ 66 (σ 63 3)) ≤ x2 then (∃ T89 : Int → Int, ∃ n90 : Int, ∃ s91 : Int, (CR T89 n90 s91 σ ∨ CFS σ) ∧ (CR T89 n90 s91 σ → (1 : Int) ≠ 2) ∧ (TB T89 n90) ∧ ∀ (σ195 : zI), XP T89 n90 s91 2 σ σ195 → Q (some (.int (wI (σ 66 (σ 63 3))))) S σ195 τ) else (∃ T97 : Int → Int, ∃ n98 : Int, ∃ s99 : Int, (CR T97 n98 s99 σ ∨ CFS σ) ∧ (TB T97 n98) ∧ ∀ (σ1102 : zI), CK σ σ1102 → (CFS σ → σ1102 = σ) → (CR T97 n98 s99 σ → CD 2 s99 σ1102) → ∃ T106 : Int → Int, ∃ n107 : Int, ∃ s108 : Int, (CR T106 n107 s108 σ1102 ∨ CFS σ1102) ∧ (CR T106 n107 s108 σ1102 → (1 : Int) ≠ 2) ∧ (TB T106 n107) ∧ ∀ (σ1112 : zI), XP T106 n107 s108 2 σ1102 σ1112 → Q (some (.int (wI (σ 66 (σ 63 3))))) S σ1112 τ))) else (∃ T60 : Int → Int, ∃ n61 : Int, ∃ s62 : Int, (CR T60 n61 s62 σ ∨ CFS σ) ∧ (CR T60 n61 s62 σ → (1 : Int) ≠ 2) ∧ (TB T60 n61) ∧ ∀ (σ166 : zI), XP T60 n61 s62 2 σ σ166 → Q (some (.int (wI (σ 66 (σ 63 3))))) S σ166 τ))) : wi (d + 4) 45 0 [.ref 63, .int (wI x1), .int (wI x2), .retAddr 0] [] S σ τ Q := by
  refine i5 c_45_0 rfl (wi_ok (fun K1 => ?_))
  refine i43 (v := σ 63 3) c_45_1 (lo (c := 63) (kd := 103) (n := 0) rfl (by decide)) rfl (i5 c_45_4 rfl (i45 c_45_5 (lo (c := 63) (kd := 103) (n := 0) rfl (by decide)) (lro (c := 63) (k := 2) (j := 66) (by decide)) (i58 (v := 301) c_45_8 (lo (c := 66) (kd := 0) (n := 301) rfl (by decide)) rfl ?_)))
  refine i37 c_45_9 (rge_ K1 rfl) (by decide) rfl (fun hc => ?_) (fun hc => ?_)
  · have t := iT t hc
    have ha2 : (301 : Int) ≤ (σ 63 3) := hc
    refine i1 c_45_24 (i6 (L' := [.ref 63, .int (wI x1), .int (wI x2), .int (wI 0)]) c_45_25 rfl (i5 c_45_26 rfl (i43 (v := σ 63 4) c_45_27 (lo (c := 63) (kd := 103) (n := 0) rfl (by decide)) rfl (i1 c_45_30 ?_))))
    refine i37 c_45_31 (rge_ K1 rfl) (by decide) rfl (fun hc => ?_) (fun hc => ?_)
    · have t := iF t hc
      have ha3 : ¬ ((σ 63 4) = 2) := hc
      obtain ⟨T4, t⟩ := t
      obtain ⟨n5, t⟩ := t
      obtain ⟨s6, t⟩ := t
      obtain ⟨p7, t⟩ := t
      obtain ⟨p8, t⟩ := t
      obtain ⟨p9, t⟩ := t
      refine i5 c_45_49 rfl (i1 c_45_50 ?_)
      refine i80 (As := [.int (wI 2)]) (rest := []) c_45_51 mi_44 rfl rfl (Nat.le_of_ble_eq_true rfl) (Nat.le_of_ble_eq_true rfl) (lo (c := 63) (kd := 103) (n := 0) rfl (by decide)) (q_44 (T := T4) (n := n5) (s := s6) p7 p8 (by decide) p9 (fun σ110 q11 => ?_))
      have t := t σ110 q11
      show wi (d + 4) 45 54 [.ref 63, .int (wI x1), .int (wI x2), .int (wI 0)] [] S σ110 τ Q
      refine i3 c_45_54 rfl ?_
      exact i90 c_45_55 t
    · have t := iT t (Decidable.not_not.mp hc)
      have ha3 : (σ 63 4) = 2 := Decidable.not_not.mp hc
      obtain ⟨r12, t⟩ := t
      refine i3 c_45_34 rfl (i3 c_45_35 rfl ?_)
      refine i37 c_45_36 (by decide) r12 rfl (fun hc => ?_) (fun hc => ?_)
      · have t := iT t hc
        have ha13 : (0 : Int) < x1 := hc
        obtain ⟨T14, t⟩ := t
        obtain ⟨n15, t⟩ := t
        obtain ⟨s16, t⟩ := t
        obtain ⟨p17, t⟩ := t
        obtain ⟨p18, t⟩ := t
        refine i5 c_45_44 rfl (i1 c_45_45 ?_)
        refine i80 (As := [.int (wI 2)]) (rest := []) c_45_46 mi_43 rfl rfl (Nat.le_of_ble_eq_true rfl) (Nat.le_of_ble_eq_true rfl) (lo (c := 63) (kd := 103) (n := 0) rfl (by decide)) (q_43 (T := T14) (n := n15) (s := s16) p17 (by decide) p18 (fun σ119 q20 q21 q22 => ?_))
        have t := t σ119 q20 q21 q22
        show wi (d + 4) 45 49 [.ref 63, .int (wI x1), .int (wI x2), .int (wI 0)] [] S σ119 τ Q
        obtain ⟨T23, t⟩ := t
        obtain ⟨n24, t⟩ := t
        obtain ⟨s25, t⟩ := t
        obtain ⟨p26, t⟩ := t
        obtain ⟨p27, t⟩ := t
        obtain ⟨p28, t⟩ := t
        refine i5 c_45_49 rfl (i1 c_45_50 ?_)
        refine i80 (As := [.int (wI 2)]) (rest := []) c_45_51 mi_44 rfl rfl (Nat.le_of_ble_eq_true rfl) (Nat.le_of_ble_eq_true rfl) (lo (c := 63) (kd := 103) (n := 0) rfl (by decide)) (q_44 (T := T23) (n := n24) (s := s25) p26 p27 (by decide) p28 (fun σ129 q30 => ?_))
        have t := t σ129 q30
        show wi (d + 4) 45 54 [.ref 63, .int (wI x1), .int (wI x2), .int (wI 0)] [] S σ129 τ Q
        refine i3 c_45_54 rfl ?_
        exact i90 c_45_55 t
      · have t := iF t hc
        have ha13 : ¬ ((0 : Int) < x1) := hc
        obtain ⟨r31, t⟩ := t
        refine i3 c_45_39 rfl (i3 c_45_40 rfl ?_)
        refine i37 c_45_41 (by decide) r31 rfl (fun hc => ?_) (fun hc => ?_)
        · have t := iT t hc
          have ha32 : (0 : Int) ≤ x2 := hc
          obtain ⟨T33, t⟩ := t
          obtain ⟨n34, t⟩ := t
          obtain ⟨s35, t⟩ := t
          obtain ⟨p36, t⟩ := t
          obtain ⟨p37, t⟩ := t
          obtain ⟨p38, t⟩ := t
          refine i5 c_45_49 rfl (i1 c_45_50 ?_)
          refine i80 (As := [.int (wI 2)]) (rest := []) c_45_51 mi_44 rfl rfl (Nat.le_of_ble_eq_true rfl) (Nat.le_of_ble_eq_true rfl) (lo (c := 63) (kd := 103) (n := 0) rfl (by decide)) (q_44 (T := T33) (n := n34) (s := s35) p36 p37 (by decide) p38 (fun σ139 q40 => ?_))
          have t := t σ139 q40
          show wi (d + 4) 45 54 [.ref 63, .int (wI x1), .int (wI x2), .int (wI 0)] [] S σ139 τ Q
          refine i3 c_45_54 rfl ?_
          exact i90 c_45_55 t
        · have t := iF t hc
          have ha32 : ¬ ((0 : Int) ≤ x2) := hc
          obtain ⟨T41, t⟩ := t
          obtain ⟨n42, t⟩ := t
          obtain ⟨s43, t⟩ := t
          obtain ⟨p44, t⟩ := t
          obtain ⟨p45, t⟩ := t
          refine i5 c_45_44 rfl (i1 c_45_45 ?_)
          refine i80 (As := [.int (wI 2)]) (rest := []) c_45_46 mi_43 rfl rfl (Nat.le_of_ble_eq_true rfl) (Nat.le_of_ble_eq_true rfl) (lo (c := 63) (kd := 103) (n := 0) rfl (by decide)) (q_43 (T := T41) (n := n42) (s := s43) p44 (by decide) p45 (fun σ146 q47 q48 q49 => ?_))
          have t := t σ146 q47 q48 q49
          show wi (d + 4) 45 49 [.ref 63, .int (wI x1), .int (wI x2), .int (wI 0)] [] S σ146 τ Q
          obtain ⟨T50, t⟩ := t
          obtain ⟨n51, t⟩ := t
          obtain ⟨s52, t⟩ := t
          obtain ⟨p53, t⟩ := t
          obtain ⟨p54, t⟩ := t
          obtain ⟨p55, t⟩ := t
          refine i5 c_45_49 rfl (i1 c_45_50 ?_)
          refine i80 (As := [.int (wI 2)]) (rest := []) c_45_51 mi_44 rfl rfl (Nat.le_of_ble_eq_true rfl) (Nat.le_of_ble_eq_true rfl) (lo (c := 63) (kd := 103) (n := 0) rfl (by decide)) (q_44 (T := T50) (n := n51) (s := s52) p53 p54 (by decide) p55 (fun σ156 q57 => ?_))
          have t := t σ156 q57
          show wi (d + 4) 45 54 [.ref 63, .int (wI x1), .int (wI x2), .int (wI 0)] [] S σ156 τ Q
          refine i3 c_45_54 rfl ?_
          exact i90 c_45_55 t
  · have t := iF t hc
    have ha2 : ¬ ((301 : Int) ≤ (σ 63 3)) := hc
    obtain ⟨r58, t⟩ := t
    refine i5 c_45_12 rfl (i45 c_45_13 (lo (c := 63) (kd := 103) (n := 0) rfl (by decide)) (lro (c := 63) (k := 2) (j := 66) (by decide)) (i5 c_45_16 rfl (i43 (v := σ 63 3) c_45_17 (lo (c := 63) (kd := 103) (n := 0) rfl (by decide)) rfl (i50 (v := σ 66 (σ 63 3)) c_45_20 (lo (c := 66) (kd := 0) (n := 301) rfl (by decide)) (by decide) r58 rfl (i38 c_45_21 rfl (i6 (L' := [.ref 63, .int (wI x1), .int (wI x2), .int (wI (σ 66 (σ 63 3)))]) c_45_25 rfl (i5 c_45_26 rfl (i43 (v := σ 63 4) c_45_27 (lo (c := 63) (kd := 103) (n := 0) rfl (by decide)) rfl (i1 c_45_30 ?_)))))))))
    refine i37 c_45_31 (rge_ K1 rfl) (by decide) rfl (fun hc => ?_) (fun hc => ?_)
    · have t := iF t hc
      have ha59 : ¬ ((σ 63 4) = 2) := hc
      obtain ⟨T60, t⟩ := t
      obtain ⟨n61, t⟩ := t
      obtain ⟨s62, t⟩ := t
      obtain ⟨p63, t⟩ := t
      obtain ⟨p64, t⟩ := t
      obtain ⟨p65, t⟩ := t
      refine i5 c_45_49 rfl (i1 c_45_50 ?_)
      refine i80 (As := [.int (wI 2)]) (rest := []) c_45_51 mi_44 rfl rfl (Nat.le_of_ble_eq_true rfl) (Nat.le_of_ble_eq_true rfl) (lo (c := 63) (kd := 103) (n := 0) rfl (by decide)) (q_44 (T := T60) (n := n61) (s := s62) p63 p64 (by decide) p65 (fun σ166 q67 => ?_))
      have t := t σ166 q67
      show wi (d + 4) 45 54 [.ref 63, .int (wI x1), .int (wI x2), .int (wI (σ 66 (σ 63 3)))] [] S σ166 τ Q
      refine i3 c_45_54 rfl ?_
      exact i90 c_45_55 t
    · have t := iT t (Decidable.not_not.mp hc)
      have ha59 : (σ 63 4) = 2 := Decidable.not_not.mp hc
      obtain ⟨r68, t⟩ := t
      refine i3 c_45_34 rfl (i3 c_45_35 rfl ?_)
      refine i37 c_45_36 (rge_ K1 rfl) r68 rfl (fun hc => ?_) (fun hc => ?_)
      · have t := iT t hc
        have ha69 : (σ 66 (σ 63 3)) < x1 := hc
        obtain ⟨T70, t⟩ := t
        obtain ⟨n71, t⟩ := t
        obtain ⟨s72, t⟩ := t
        obtain ⟨p73, t⟩ := t
        obtain ⟨p74, t⟩ := t
        refine i5 c_45_44 rfl (i1 c_45_45 ?_)
        refine i80 (As := [.int (wI 2)]) (rest := []) c_45_46 mi_43 rfl rfl (Nat.le_of_ble_eq_true rfl) (Nat.le_of_ble_eq_true rfl) (lo (c := 63) (kd := 103) (n := 0) rfl (by decide)) (q_43 (T := T70) (n := n71) (s := s72) p73 (by decide) p74 (fun σ175 q76 q77 q78 => ?_))
        have t := t σ175 q76 q77 q78
        show wi (d + 4) 45 49 [.ref 63, .int (wI x1), .int (wI x2), .int (wI (σ 66 (σ 63 3)))] [] S σ175 τ Q
        obtain ⟨T79, t⟩ := t
        obtain ⟨n80, t⟩ := t
        obtain ⟨s81, t⟩ := t
        obtain ⟨p82, t⟩ := t
        obtain ⟨p83, t⟩ := t
        obtain ⟨p84, t⟩ := t
        refine i5 c_45_49 rfl (i1 c_45_50 ?_)
        refine i80 (As := [.int (wI 2)]) (rest := []) c_45_51 mi_44 rfl rfl (Nat.le_of_ble_eq_true rfl) (Nat.le_of_ble_eq_true rfl) (lo (c := 63) (kd := 103) (n := 0) rfl (by decide)) (q_44 (T := T79) (n := n80) (s := s81) p82 p83 (by decide) p84 (fun σ185 q86 => ?_))
        have t := t σ185 q86
        show wi (d + 4) 45 54 [.ref 63, .int (wI x1), .int (wI x2), .int (wI (σ 66 (σ 63 3)))] [] S σ185 τ Q
        refine i3 c_45_54 rfl ?_
        exact i90 c_45_55 t
      · have t := iF t hc
        have ha69 : ¬ ((σ 66 (σ 63 3)) < x1) := hc
        obtain ⟨r87, t⟩ := t
        refine i3 c_45_39 rfl (i3 c_45_40 rfl ?_)
        refine i37 c_45_41 (rge_ K1 rfl) r87 rfl (fun hc => ?_) (fun hc => ?_)
        · have t := iT t hc
          have ha88 : (σ 66 (σ 63 3)) ≤ x2 := hc
          obtain ⟨T89, t⟩ := t
          obtain ⟨n90, t⟩ := t
          obtain ⟨s91, t⟩ := t
          obtain ⟨p92, t⟩ := t
          obtain ⟨p93, t⟩ := t
          obtain ⟨p94, t⟩ := t
          refine i5 c_45_49 rfl (i1 c_45_50 ?_)
          refine i80 (As := [.int (wI 2)]) (rest := []) c_45_51 mi_44 rfl rfl (Nat.le_of_ble_eq_true rfl) (Nat.le_of_ble_eq_true rfl) (lo (c := 63) (kd := 103) (n := 0) rfl (by decide)) (q_44 (T := T89) (n := n90) (s := s91) p92 p93 (by decide) p94 (fun σ195 q96 => ?_))
          have t := t σ195 q96
          show wi (d + 4) 45 54 [.ref 63, .int (wI x1), .int (wI x2), .int (wI (σ 66 (σ 63 3)))] [] S σ195 τ Q
          refine i3 c_45_54 rfl ?_
          exact i90 c_45_55 t
        · have t := iF t hc
          have ha88 : ¬ ((σ 66 (σ 63 3)) ≤ x2) := hc
          obtain ⟨T97, t⟩ := t
          obtain ⟨n98, t⟩ := t
          obtain ⟨s99, t⟩ := t
          obtain ⟨p100, t⟩ := t
          obtain ⟨p101, t⟩ := t
          refine i5 c_45_44 rfl (i1 c_45_45 ?_)
          refine i80 (As := [.int (wI 2)]) (rest := []) c_45_46 mi_43 rfl rfl (Nat.le_of_ble_eq_true rfl) (Nat.le_of_ble_eq_true rfl) (lo (c := 63) (kd := 103) (n := 0) rfl (by decide)) (q_43 (T := T97) (n := n98) (s := s99) p100 (by decide) p101 (fun σ1102 q103 q104 q105 => ?_))
          have t := t σ1102 q103 q104 q105
          show wi (d + 4) 45 49 [.ref 63, .int (wI x1), .int (wI x2), .int (wI (σ 66 (σ 63 3)))] [] S σ1102 τ Q
          obtain ⟨T106, t⟩ := t
          obtain ⟨n107, t⟩ := t
          obtain ⟨s108, t⟩ := t
          obtain ⟨p109, t⟩ := t
          obtain ⟨p110, t⟩ := t
          obtain ⟨p111, t⟩ := t
          refine i5 c_45_49 rfl (i1 c_45_50 ?_)
          refine i80 (As := [.int (wI 2)]) (rest := []) c_45_51 mi_44 rfl rfl (Nat.le_of_ble_eq_true rfl) (Nat.le_of_ble_eq_true rfl) (lo (c := 63) (kd := 103) (n := 0) rfl (by decide)) (q_44 (T := T106) (n := n107) (s := s108) p109 p110 (by decide) p111 (fun σ1112 q113 => ?_))
          have t := t σ1112 q113
          show wi (d + 4) 45 54 [.ref 63, .int (wI x1), .int (wI x2), .int (wI (σ 66 (σ 63 3)))] [] S σ1112 τ Q
          refine i3 c_45_54 rfl ?_
          exact i90 c_45_55 t
theorem q_45 {d : Nat} {S : zS} {σ τ : zI} {Q : zQ} {lo : Int} {hi : Int} {T : Int → Int} {n : Int} {s : Int} (p0 : CR T n s σ ∨ CFS σ) (p1 : TB T n) (p2 : rg lo) (p3 : rg hi) (p4 : CR T n s σ → (0 : Int) ≤ lo ∧ hi ≤ (9999 : Int)) (t : ∀ (v : Int) (σ1 : zI), rg v → CK σ σ1 → (CFS σ → σ1 = σ) → (CR T n s σ → ((numO T n lo hi 0 s).1 = 0 → CR T n (nx T n s) σ1 ∧ v = nm T n s) ∧ ((numO T n lo hi 0 s).1 ≠ 0 → CD (numO T n lo hi 0 s).1 (numO T n lo hi 0 s).2.1 σ1)) → Q (some (.int (wI v))) S σ1 τ) : wc (d + 4) 45 [.ref 63, .int (wI lo), .int (wI hi)] S σ τ Q := by
  have n3 := p1.1.2
  refine wc_ok fun K => ?_
  have ir : rg (σ 66 (σ 63 3)) := kO_r K 66 (σ 63 3)
  refine wc_of mi_45 rfl (u_45_0 ?_)
  rcases p0 with cr | fl
  · have p4 := p4 cr
    obtain ⟨b1, b2, b3, b4, b5⟩ := CR_b cr
    have s01 := CR_s cr p1.1.1
    refine ifI (fun z => by omega) (fun _ => ⟨by omega, ?_⟩)
    by_cases e2 : tk T n s = 2
    · have v66 := b5 (by omega)
      have nn := nm_nv p1 s01 e2
      have yes : (lo ≤ nm T n s ∧ nm T n s ≤ hi) → ∀ σ1, XP T n s 2 σ σ1 → Q (some (.int (wI (σ 66 (σ 63 3))))) S σ1 τ := fun h σ1 xp => by
        have ev : numO T n lo hi 0 s = (0, nx T n s, [], [(0, nm T n s)]) := by unfold numO; rw [if_pos e2, if_pos h]
        refine t (σ 66 (σ 63 3)) σ1 (by omega) xp.1 (fun z => absurd b4 z.1) (fun _ => ⟨fun _ => ⟨(xp.2.2 cr).1 e2, by omega⟩, fun z => absurd (by rw [ev]) z⟩)
      have no : ¬ (lo ≤ nm T n s ∧ nm T n s ≤ hi) → ∀ σ1, CK σ σ1 → (CFS σ → σ1 = σ) → (CR T n s σ → CD 2 s σ1) → ∃ T23 : Int → Int, ∃ n24 : Int, ∃ s25 : Int, (CR T23 n24 s25 σ1 ∨ CFS σ1) ∧ (CR T23 n24 s25 σ1 → (1 : Int) ≠ 2) ∧ (TB T23 n24) ∧ ∀ (σ129 : zI), XP T23 n24 s25 2 σ1 σ129 → Q (some (.int (wI (σ 66 (σ 63 3))))) S σ129 τ := fun h σ1 ck _ cd => by
        have ev : numO T n lo hi 0 s = (2, s, [], []) := by unfold numO; rw [if_pos e2, if_neg h]
        have fs := CD_F (cd cr) (by decide)
        refine ⟨T, n, s, Or.inr fs, fun _ => by decide, p1, fun σ2 xp => ?_⟩
        have eq := xp.2.1 fs
        subst eq
        refine t (σ 66 (σ 63 3)) _ (by omega) ck (fun z => absurd b4 z.1) (fun _ => ⟨fun z => ?_, fun _ => by rw [ev]; exact cd cr⟩)
        rw [ev] at z
        exact absurd (show (2 : Int) = 0 from z) (by decide)
      refine ifI (fun _ => ⟨p2, ifI (fun c => ⟨T, n, s, Or.inl cr, p1, fun σ1 => no (by omega) σ1⟩) (fun c => ⟨p3, ifI (fun c2 => ⟨T, n, s, Or.inl cr, fun _ => by decide, p1, fun σ1 => yes (by omega) σ1⟩) (fun c2 => ⟨T, n, s, Or.inl cr, p1, fun σ1 => no (by omega) σ1⟩)⟩)⟩) (fun z => absurd (b3.trans e2) z)
    · have ev : numO T n lo hi 0 s = (1, s, [], []) := by unfold numO; rw [if_neg e2]
      refine ifI (fun z => absurd (b3.symm.trans z) e2) (fun _ => ⟨T, n, s, Or.inl cr, fun _ => by decide, p1, fun σ1 xp => ?_⟩)
      refine t (σ 66 (σ 63 3)) σ1 ir xp.1 (fun z => absurd b4 z.1) (fun _ => ⟨fun z => ?_, fun _ => by rw [ev]; exact (xp.2.2 cr).2 e2⟩)
      rw [ev] at z
      exact absurd (show (1 : Int) = 0 from z) (by decide)
  · have stop : ∀ v, rg v → Q (some (.int (wI v))) S σ τ := fun v hv => t v σ hv CK_0 (fun _ => rfl) (fun z => absurd (CR_b z).2.2.2.1 fl.1)
    have fe : ∀ v, rg v → ∃ T23 : Int → Int, ∃ n24 : Int, ∃ s25 : Int, (CR T23 n24 s25 σ ∨ CFS σ) ∧ (CR T23 n24 s25 σ → (1 : Int) ≠ 2) ∧ (TB T23 n24) ∧ ∀ (σ129 : zI), XP T23 n24 s25 2 σ σ129 → Q (some (.int (wI v))) S σ129 τ := fun v hv => ⟨T, n, s, Or.inr fl, fun _ => by decide, p1, fun σ' xp => by rw [xp.2.1 fl]; exact stop v hv⟩
    have ff : ∀ v, rg v → ∃ T14 : Int → Int, ∃ n15 : Int, ∃ s16 : Int, (CR T14 n15 s16 σ ∨ CFS σ) ∧ (TB T14 n15) ∧ ∀ (σ119 : zI), CK σ σ119 → (CFS σ → σ119 = σ) → (CR T14 n15 s16 σ → CD 2 s16 σ119) → ∃ T23 : Int → Int, ∃ n24 : Int, ∃ s25 : Int, (CR T23 n24 s25 σ119 ∨ CFS σ119) ∧ (CR T23 n24 s25 σ119 → (1 : Int) ≠ 2) ∧ (TB T23 n24) ∧ ∀ (σ129 : zI), XP T23 n24 s25 2 σ119 σ129 → Q (some (.int (wI v))) S σ129 τ := fun v hv => ⟨T, n, s, Or.inr fl, p1, fun σ1 _ h _ => by rw [h fl]; exact fe v hv⟩
    have fl2 := fl.2.1
    exact ifI (fun _ => ifI (fun _ => ⟨p2, ifI (fun _ => ff 0 (by omega)) (fun _ => ⟨p3, ifI (fun _ => fe 0 (by omega)) (fun _ => ff 0 (by omega))⟩)⟩) (fun _ => fe 0 (by omega))) (fun _ => ⟨by omega, ifI (fun _ => ⟨p2, ifI (fun _ => ff _ ir) (fun _ => ⟨p3, ifI (fun _ => fe _ ir) (fun _ => ff _ ir)⟩)⟩) (fun _ => fe _ ir)⟩)
