/-! ===== the class reads: one step (segments printed by wip/whole, contracts own work) ===== -/
/-- the class stands at a TOKEN -/
def CR (T : Int → Int) (n s : Int) (σ : zI) : Prop := ∃ cnt i : Int, CT T n σ cnt ∧ (0 ≤ i ∧ i ≤ cnt) ∧ s = sT T n i ∧ σ 63 3 = i ∧ σ 63 4 = tk T n s ∧ σ 63 5 = 0
/-- the class has found a fault -/
def CD (r e : Int) (σ : zI) : Prop := σ 63 5 = r ∧ σ 63 6 = e
def CK (σ σ1 : zI) : Prop := (∀ c, c ≠ 63 → σ1 c = σ c) ∧ ∀ k, k < 3 ∨ 6 < k → σ1 63 k = σ 63 k
theorem CK_0 {σ : zI} : CK σ σ := ⟨fun _ _ => rfl, fun _ _ => rfl⟩
theorem CK_t {σ σ1 σ2 : zI} (h : CK σ σ1) (g : CK σ1 σ2) : CK σ σ2 := ⟨fun c hc => (g.1 c hc).trans (h.1 c hc), fun k hk => (g.2 k hk).trans (h.2 k hk)⟩
theorem CT_f {T : Int → Int} {n cnt : Int} {σ σ1 : zI} (h : CT T n σ cnt) (e4 : σ1 64 = σ 64) (e5 : σ1 65 = σ 65) (e6 : σ1 66 = σ 66) : CT T n σ1 cnt := by
  obtain ⟨h1, h2, h3, h4⟩ := h
  refine ⟨h1, fun j j0 j1 => ?_, fun j j0 j1 => ?_, h4⟩
  · rw [e4, e5]; exact h2 j j0 j1
  · rw [e6]; exact h3 j j0 j1
theorem CR_b {T : Int → Int} {n s : Int} {σ : zI} (h : CR T n s σ) : (0 ≤ σ 63 3 ∧ σ 63 3 ≤ n) ∧ σ 65 (σ 63 3) = s ∧ σ 63 4 = tk T n s ∧ σ 63 5 = 0 ∧ (tk T n s ≠ 1 → σ 66 (σ 63 3) = nv T s (tE T n s)) := by
  obtain ⟨cnt, i, ct, hi, hs, h3, h4, h5⟩ := h
  have ct0 := ct.1
  have a := ct.2.1 i hi.1 hi.2
  refine ⟨by omega, by rw [h3, a.2, hs], h4, h5, fun k1 => ?_⟩
  have sn := tk_n (T := T) k1
  have ic : i ≠ cnt := fun z => by rw [hs, z, ct.2.2.2] at sn; omega
  rw [h3, hs]
  exact (ct.2.2.1 i hi.1 (by omega)).2
/-- what expecting a TOKEN comes to -/
def XP (T : Int → Int) (n s t : Int) (σ σ1 : zI) : Prop := CK σ σ1 ∧ (σ 63 5 ≠ 0 → σ1 = σ) ∧ (CR T n s σ → (tk T n s = t → CR T n (nx T n s) σ1) ∧ (tk T n s ≠ t → CD 1 s σ1))
-- method 43: MillTown$Reader.fail(I)V
theorem c_43_0 : pg_cd 43 0 = (5, 1, 0, 0, 0) := by decide +kernel
theorem c_43_1 : pg_cd 43 1 = (43, 3, 21, 5, 0) := by decide +kernel
theorem c_43_4 : pg_cd 43 4 = (36, 3, 0, 1, 33) := by decide +kernel
theorem c_43_7 : pg_cd 43 7 = (5, 1, 0, 0, 0) := by decide +kernel
theorem c_43_8 : pg_cd 43 8 = (43, 3, 43, 3, 0) := by decide +kernel
theorem c_43_11 : pg_cd 43 11 = (5, 1, 0, 0, 0) := by decide +kernel
theorem c_43_12 : pg_cd 43 12 = (45, 3, 15, 1, 0) := by decide +kernel
theorem c_43_15 : pg_cd 43 15 = (58, 0, 0, 0, 0) := by decide +kernel
theorem c_43_16 : pg_cd 43 16 = (37, 3, 0, 3, 21) := by decide +kernel
theorem c_43_19 : pg_cd 43 19 = (5, 1, 0, 0, 0) := by decide +kernel
theorem c_43_20 : pg_cd 43 20 = (3, 1, 0, 1, 0) := by decide +kernel
theorem c_43_21 : pg_cd 43 21 = (46, 3, 21, 5, 0) := by decide +kernel
theorem c_43_24 : pg_cd 43 24 = (5, 1, 0, 0, 0) := by decide +kernel
theorem c_43_25 : pg_cd 43 25 = (5, 1, 0, 0, 0) := by decide +kernel
theorem c_43_26 : pg_cd 43 26 = (45, 3, 15, 1, 0) := by decide +kernel
theorem c_43_29 : pg_cd 43 29 = (5, 1, 0, 0, 0) := by decide +kernel
theorem c_43_30 : pg_cd 43 30 = (43, 3, 43, 3, 0) := by decide +kernel
theorem c_43_33 : pg_cd 43 33 = (50, 1, 0, 0, 0) := by decide +kernel
theorem c_43_34 : pg_cd 43 34 = (46, 3, 25, 6, 0) := by decide +kernel
theorem c_43_37 : pg_cd 43 37 = (94, 0, 0, 0, 0) := by decide +kernel
theorem mi_43 : pg_mc 43 = 3 ∧ pg_na 43 = 1 ∧ pg_mx 43 = 2 := by decide +kernel
set_option maxRecDepth 20000 in
theorem u_43_0 {d : Nat} {S : zS} {σ τ : zI} {Q : zQ} {x1 : Int} (t : if (σ 63 5) = 0 then (if (301 : Int) ≤ (σ 63 3) then (Q none S σ τ) else (∃ w4 : Int, wI w4 = wI x1 ∧ rg w4 ∧ (0 ≤ σ 63 3 ∧ σ 63 3 < 301) ∧ Q none S (uc σ 63 (u1 (u1 (σ 63) 5 w4) 6 (σ 65 (σ 63 3)))) τ)) else (Q none S σ τ)) : wi (d + 3) 43 0 [.ref 63, .int (wI x1)] [] S σ τ Q := by
  refine i5 c_43_0 rfl (wi_ok (fun K1 => ?_))
  refine i43 (v := σ 63 5) c_43_1 (lo (c := 63) (kd := 103) (n := 0) rfl (by decide)) rfl ?_
  refine i36 c_43_4 (rge_ K1 rfl) rfl (fun hc => ?_) (fun hc => ?_)
  · have t := iF t hc
    have ha2 : ¬ ((σ 63 5) = 0) := hc
    exact i94 c_43_37 t
  · have t := iT t (Decidable.not_not.mp hc)
    have ha2 : (σ 63 5) = 0 := Decidable.not_not.mp hc
    refine i5 c_43_7 rfl (i43 (v := σ 63 3) c_43_8 (lo (c := 63) (kd := 103) (n := 0) rfl (by decide)) rfl (i5 c_43_11 rfl (i45 c_43_12 (lo (c := 63) (kd := 103) (n := 0) rfl (by decide)) (lro (c := 63) (k := 1) (j := 65) (by decide)) (i58 (v := 301) c_43_15 (lo (c := 65) (kd := 0) (n := 301) rfl (by decide)) rfl ?_))))
    refine i37 c_43_16 (rge_ K1 rfl) (by decide) rfl (fun hc => ?_) (fun hc => ?_)
    · have t := iT t hc
      have ha3 : (301 : Int) ≤ (σ 63 3) := hc
      exact i94 c_43_37 t
    · have t := iF t hc
      have ha3 : ¬ ((301 : Int) ≤ (σ 63 3)) := hc
      obtain ⟨w4, e5, r6, t⟩ := t
      refine i5 c_43_19 rfl (i3 c_43_20 rfl (i46 (σ1 := uc σ 63 (u1 (σ 63) 5 w4)) c_43_21 (lo (c := 63) (kd := 103) (n := 0) rfl (by decide)) (by decide) e5 r6 (wr_ rfl rfl) (i5 c_43_24 rfl (i5 c_43_25 rfl (i45 c_43_26 (lo (c := 63) (kd := 103) (n := 0) rfl (by decide)) (lro (c := 63) (k := 1) (j := 65) (by decide)) (i5 c_43_29 rfl (wi_ok (fun K7 => ?_))))))))
      obtain ⟨r8, t⟩ := t
      refine i43 (v := σ 63 3) c_43_30 (lo (c := 63) (kd := 103) (n := 0) rfl (by decide)) ((congrFun (uc_s _ _ _) _).trans (u1_n (by decide))) (i50 (v := σ 65 (σ 63 3)) c_43_33 (lo (c := 65) (kd := 0) (n := 301) rfl (by decide)) (by decide) r8 (congrFun (uc_ns rfl (by decide)) _) (i46 (σ1 := uc σ 63 (u1 (u1 (σ 63) 5 w4) 6 (σ 65 (σ 63 3)))) c_43_34 (lo (c := 63) (kd := 103) (n := 0) rfl (by decide)) (by decide) rfl (rge_ K7 (congrFun (uc_ns rfl (by decide)) _)) (wr_ (uc_s _ _ _) (uc_uc _ _ _ _)) ?_))
      exact i94 c_43_37 t
theorem q_43 {d : Nat} {S : zS} {σ τ : zI} {Q : zQ} {r : Int} {T : Int → Int} {n : Int} {s : Int} (p0 : CR T n s σ ∨ σ 63 5 ≠ 0) (p1 : rg r) (p2 : n ≤ 300) (t : ∀ (σ1 : zI), CK σ σ1 → (σ 63 5 ≠ 0 → σ1 = σ) → (CR T n s σ → CD r s σ1) → Q none S σ1 τ) : wc (d + 3) 43 [.ref 63, .int (wI r)] S σ τ Q := by
  rcases p0 with cr | fl
  · obtain ⟨b1, b2, b3, b4, b5⟩ := CR_b cr
    refine wc_of mi_43 rfl (u_43_0 (ifI (fun _ => ifI (fun z => by omega) (fun _ => ⟨r, rfl, p1, by omega, t _ ⟨fun c hc => uc_n hc, fun k hk => ?_⟩ (fun z => absurd b4 z) (fun _ => ⟨?_, ?_⟩)⟩)) (fun z => absurd b4 z)))
    · rw [uc_s, u1_n (by omega), u1_n (by omega)]
    · rw [uc_s, u1_n (by omega), u1_s]
    · rw [uc_s, u1_s, b2]
  · exact wc_of mi_43 rfl (u_43_0 (ifI (fun z => absurd z fl) (fun _ => t σ CK_0 (fun _ => rfl) (fun z => absurd (CR_b z).2.2.2.1 fl))))
-- method 44: MillTown$Reader.expect(I)V
theorem c_44_0 : pg_cd 44 0 = (5, 1, 0, 0, 0) := by decide +kernel
theorem c_44_1 : pg_cd 44 1 = (43, 3, 21, 5, 0) := by decide +kernel
theorem c_44_4 : pg_cd 44 4 = (36, 3, 0, 1, 51) := by decide +kernel
theorem c_44_7 : pg_cd 44 7 = (5, 1, 0, 0, 0) := by decide +kernel
theorem c_44_8 : pg_cd 44 8 = (43, 3, 46, 4, 0) := by decide +kernel
theorem c_44_11 : pg_cd 44 11 = (3, 1, 0, 1, 0) := by decide +kernel
theorem c_44_12 : pg_cd 44 12 = (37, 3, 0, 1, 43) := by decide +kernel
theorem c_44_15 : pg_cd 44 15 = (5, 1, 0, 0, 0) := by decide +kernel
theorem c_44_16 : pg_cd 44 16 = (43, 3, 43, 3, 0) := by decide +kernel
theorem c_44_19 : pg_cd 44 19 = (1, 1, 0, 0, 1) := by decide +kernel
theorem c_44_20 : pg_cd 44 20 = (10, 1, 0, 0, 0) := by decide +kernel
theorem c_44_21 : pg_cd 44 21 = (5, 1, 0, 0, 0) := by decide +kernel
theorem c_44_22 : pg_cd 44 22 = (45, 3, 9, 0, 0) := by decide +kernel
theorem c_44_25 : pg_cd 44 25 = (58, 0, 0, 0, 0) := by decide +kernel
theorem c_44_26 : pg_cd 44 26 = (37, 3, 0, 3, 29) := by decide +kernel
theorem c_44_29 : pg_cd 44 29 = (5, 1, 0, 0, 0) := by decide +kernel
theorem c_44_30 : pg_cd 44 30 = (33, 1, 0, 0, 0) := by decide +kernel
theorem c_44_31 : pg_cd 44 31 = (43, 3, 43, 3, 0) := by decide +kernel
theorem c_44_34 : pg_cd 44 34 = (1, 1, 0, 0, 1) := by decide +kernel
theorem c_44_35 : pg_cd 44 35 = (10, 1, 0, 0, 0) := by decide +kernel
theorem c_44_36 : pg_cd 44 36 = (46, 3, 43, 3, 0) := by decide +kernel
theorem c_44_39 : pg_cd 44 39 = (5, 1, 0, 0, 0) := by decide +kernel
theorem c_44_40 : pg_cd 44 40 = (5, 1, 0, 0, 0) := by decide +kernel
theorem c_44_41 : pg_cd 44 41 = (45, 3, 9, 0, 0) := by decide +kernel
theorem c_44_44 : pg_cd 44 44 = (5, 1, 0, 0, 0) := by decide +kernel
theorem c_44_45 : pg_cd 44 45 = (43, 3, 43, 3, 0) := by decide +kernel
theorem c_44_48 : pg_cd 44 48 = (50, 1, 0, 0, 0) := by decide +kernel
theorem c_44_49 : pg_cd 44 49 = (46, 3, 46, 4, 0) := by decide +kernel
theorem c_44_52 : pg_cd 44 52 = (38, 3, 0, 0, 40) := by decide +kernel
theorem c_44_55 : pg_cd 44 55 = (5, 1, 0, 0, 0) := by decide +kernel
theorem c_44_56 : pg_cd 44 56 = (43, 3, 21, 5, 0) := by decide +kernel
theorem c_44_59 : pg_cd 44 59 = (36, 3, 0, 1, 33) := by decide +kernel
theorem c_44_62 : pg_cd 44 62 = (5, 1, 0, 0, 0) := by decide +kernel
theorem c_44_63 : pg_cd 44 63 = (43, 3, 43, 3, 0) := by decide +kernel
theorem c_44_66 : pg_cd 44 66 = (5, 1, 0, 0, 0) := by decide +kernel
theorem c_44_67 : pg_cd 44 67 = (45, 3, 15, 1, 0) := by decide +kernel
theorem c_44_70 : pg_cd 44 70 = (58, 0, 0, 0, 0) := by decide +kernel
theorem c_44_71 : pg_cd 44 71 = (37, 3, 0, 3, 21) := by decide +kernel
theorem c_44_74 : pg_cd 44 74 = (5, 1, 0, 0, 0) := by decide +kernel
theorem c_44_75 : pg_cd 44 75 = (1, 1, 0, 0, 1) := by decide +kernel
theorem c_44_76 : pg_cd 44 76 = (46, 3, 21, 5, 0) := by decide +kernel
theorem c_44_79 : pg_cd 44 79 = (5, 1, 0, 0, 0) := by decide +kernel
theorem c_44_80 : pg_cd 44 80 = (5, 1, 0, 0, 0) := by decide +kernel
theorem c_44_81 : pg_cd 44 81 = (45, 3, 15, 1, 0) := by decide +kernel
theorem c_44_84 : pg_cd 44 84 = (5, 1, 0, 0, 0) := by decide +kernel
theorem c_44_85 : pg_cd 44 85 = (43, 3, 43, 3, 0) := by decide +kernel
theorem c_44_88 : pg_cd 44 88 = (50, 1, 0, 0, 0) := by decide +kernel
theorem c_44_89 : pg_cd 44 89 = (46, 3, 25, 6, 0) := by decide +kernel
theorem c_44_92 : pg_cd 44 92 = (94, 0, 0, 0, 0) := by decide +kernel
theorem mi_44 : pg_mc 44 = 3 ∧ pg_na 44 = 1 ∧ pg_mx 44 = 2 := by decide +kernel
set_option maxRecDepth 20000 in
theorem u_44_0 {d : Nat} {S : zS} {σ τ : zI} {Q : zQ} {x1 : Int} (t : if (σ 63 5) = 0 then ((rg x1) ∧ if (σ 63 4) = x1 then ((rg ((σ 63 3) + 1)) ∧ if (301 : Int) ≤ ((σ 63 3) + 1) then (if (301 : Int) ≤ (σ 63 3) then (Q none S σ τ) else ((0 ≤ σ 63 3 ∧ σ 63 3 < 301) ∧ Q none S (uc σ 63 (u1 (u1 (σ 63) 5 1) 6 (σ 65 (σ 63 3)))) τ)) else ((0 ≤ (σ 63 3) + 1 ∧ (σ 63 3) + 1 < 301) ∧ Q none S (uc σ 63 (u1 (u1 (σ 63) 3 ((σ 63 3) + 1)) 4 (σ 64 ((σ 63 3) + 1)))) τ)) else (if (301 : Int) ≤ (σ 63 3) then (Q none S σ τ) else ((0 ≤ σ 63 3 ∧ σ 63 3 < 301) ∧ Q none S (uc σ 63 (u1 (u1 (σ 63) 5 1) 6 (σ 65 (σ 63 3)))) τ))) else (Q none S σ τ)) : wi (d + 3) 44 0 [.ref 63, .int (wI x1)] [] S σ τ Q := by
  refine i5 c_44_0 rfl (wi_ok (fun K1 => ?_))
  refine i43 (v := σ 63 5) c_44_1 (lo (c := 63) (kd := 103) (n := 0) rfl (by decide)) rfl ?_
  refine i36 c_44_4 (rge_ K1 rfl) rfl (fun hc => ?_) (fun hc => ?_)
  · have t := iF t hc
    have ha2 : ¬ ((σ 63 5) = 0) := hc
    refine i5 c_44_55 rfl (i43 (v := σ 63 5) c_44_56 (lo (c := 63) (kd := 103) (n := 0) rfl (by decide)) rfl ?_)
    refine i36 c_44_59 (rge_ K1 rfl) rfl (fun _ => ?_) (fun hc => absurd (show ¬ ((σ 63 5) = 0) by omega) hc)
    exact i94 c_44_92 t
  · have t := iT t (Decidable.not_not.mp hc)
    have ha2 : (σ 63 5) = 0 := Decidable.not_not.mp hc
    obtain ⟨r4, t⟩ := t
    refine i5 c_44_7 rfl (i43 (v := σ 63 4) c_44_8 (lo (c := 63) (kd := 103) (n := 0) rfl (by decide)) rfl (i3 c_44_11 rfl ?_))
    refine i37 c_44_12 (rge_ K1 rfl) r4 rfl (fun hc => ?_) (fun hc => ?_)
    · have t := iF t hc
      have ha5 : ¬ ((σ 63 4) = x1) := hc
      refine i5 c_44_55 rfl (i43 (v := σ 63 5) c_44_56 (lo (c := 63) (kd := 103) (n := 0) rfl (by decide)) rfl ?_)
      refine i36 c_44_59 (rge_ K1 rfl) rfl (fun hc => absurd (show (σ 63 5) = 0 by omega) hc) (fun _ => ?_)
      refine i5 c_44_62 rfl (i43 (v := σ 63 3) c_44_63 (lo (c := 63) (kd := 103) (n := 0) rfl (by decide)) rfl (i5 c_44_66 rfl (i45 c_44_67 (lo (c := 63) (kd := 103) (n := 0) rfl (by decide)) (lro (c := 63) (k := 1) (j := 65) (by decide)) (i58 (v := 301) c_44_70 (lo (c := 65) (kd := 0) (n := 301) rfl (by decide)) rfl ?_))))
      refine i37 c_44_71 (rge_ K1 rfl) (by decide) rfl (fun hc => ?_) (fun hc => ?_)
      · have t := iT t hc
        have ha7 : (301 : Int) ≤ (σ 63 3) := hc
        exact i94 c_44_92 t
      · have t := iF t hc
        have ha7 : ¬ ((301 : Int) ≤ (σ 63 3)) := hc
        refine i5 c_44_74 rfl (i1 c_44_75 (i46 (σ1 := uc σ 63 (u1 (σ 63) 5 1)) c_44_76 (lo (c := 63) (kd := 103) (n := 0) rfl (by decide)) (by decide) rfl (by decide) (wr_ rfl rfl) (i5 c_44_79 rfl (i5 c_44_80 rfl (i45 c_44_81 (lo (c := 63) (kd := 103) (n := 0) rfl (by decide)) (lro (c := 63) (k := 1) (j := 65) (by decide)) (i5 c_44_84 rfl (wi_ok (fun K8 => ?_))))))))
        obtain ⟨r9, t⟩ := t
        refine i43 (v := σ 63 3) c_44_85 (lo (c := 63) (kd := 103) (n := 0) rfl (by decide)) ((congrFun (uc_s _ _ _) _).trans (u1_n (by decide))) (i50 (v := σ 65 (σ 63 3)) c_44_88 (lo (c := 65) (kd := 0) (n := 301) rfl (by decide)) (by decide) r9 (congrFun (uc_ns rfl (by decide)) _) (i46 (σ1 := uc σ 63 (u1 (u1 (σ 63) 5 1) 6 (σ 65 (σ 63 3)))) c_44_89 (lo (c := 63) (kd := 103) (n := 0) rfl (by decide)) (by decide) rfl (rge_ K8 (congrFun (uc_ns rfl (by decide)) _)) (wr_ (uc_s _ _ _) (uc_uc _ _ _ _)) ?_))
        exact i94 c_44_92 t
    · have t := iT t (Decidable.not_not.mp hc)
      have ha5 : (σ 63 4) = x1 := Decidable.not_not.mp hc
      obtain ⟨r10, t⟩ := t
      refine i5 c_44_15 rfl (i43 (v := σ 63 3) c_44_16 (lo (c := 63) (kd := 103) (n := 0) rfl (by decide)) rfl (i1 c_44_19 (i10 c_44_20 (i5 c_44_21 rfl (i45 c_44_22 (lo (c := 63) (kd := 103) (n := 0) rfl (by decide)) (lro (c := 63) (k := 0) (j := 64) (by decide)) (i58 (v := 301) c_44_25 (lo (c := 64) (kd := 0) (n := 301) rfl (by decide)) rfl ?_))))))
      refine i37 c_44_26 r10 (by decide) rfl (fun hc => ?_) (fun hc => ?_)
      · have t := iT t hc
        have ha11 : (301 : Int) ≤ ((σ 63 3) + 1) := hc
        refine i5 c_44_55 rfl (i43 (v := σ 63 5) c_44_56 (lo (c := 63) (kd := 103) (n := 0) rfl (by decide)) rfl ?_)
        refine i36 c_44_59 (rge_ K1 rfl) rfl (fun hc => absurd (show (σ 63 5) = 0 by omega) hc) (fun _ => ?_)
        refine i5 c_44_62 rfl (i43 (v := σ 63 3) c_44_63 (lo (c := 63) (kd := 103) (n := 0) rfl (by decide)) rfl (i5 c_44_66 rfl (i45 c_44_67 (lo (c := 63) (kd := 103) (n := 0) rfl (by decide)) (lro (c := 63) (k := 1) (j := 65) (by decide)) (i58 (v := 301) c_44_70 (lo (c := 65) (kd := 0) (n := 301) rfl (by decide)) rfl ?_))))
        refine i37 c_44_71 (rge_ K1 rfl) (by decide) rfl (fun hc => ?_) (fun hc => ?_)
        · have t := iT t hc
          have ha13 : (301 : Int) ≤ (σ 63 3) := hc
          exact i94 c_44_92 t
        · have t := iF t hc
          have ha13 : ¬ ((301 : Int) ≤ (σ 63 3)) := hc
          refine i5 c_44_74 rfl (i1 c_44_75 (i46 (σ1 := uc σ 63 (u1 (σ 63) 5 1)) c_44_76 (lo (c := 63) (kd := 103) (n := 0) rfl (by decide)) (by decide) rfl (by decide) (wr_ rfl rfl) (i5 c_44_79 rfl (i5 c_44_80 rfl (i45 c_44_81 (lo (c := 63) (kd := 103) (n := 0) rfl (by decide)) (lro (c := 63) (k := 1) (j := 65) (by decide)) (i5 c_44_84 rfl (wi_ok (fun K14 => ?_))))))))
          obtain ⟨r15, t⟩ := t
          refine i43 (v := σ 63 3) c_44_85 (lo (c := 63) (kd := 103) (n := 0) rfl (by decide)) ((congrFun (uc_s _ _ _) _).trans (u1_n (by decide))) (i50 (v := σ 65 (σ 63 3)) c_44_88 (lo (c := 65) (kd := 0) (n := 301) rfl (by decide)) (by decide) r15 (congrFun (uc_ns rfl (by decide)) _) (i46 (σ1 := uc σ 63 (u1 (u1 (σ 63) 5 1) 6 (σ 65 (σ 63 3)))) c_44_89 (lo (c := 63) (kd := 103) (n := 0) rfl (by decide)) (by decide) rfl (rge_ K14 (congrFun (uc_ns rfl (by decide)) _)) (wr_ (uc_s _ _ _) (uc_uc _ _ _ _)) ?_))
          exact i94 c_44_92 t
      · have t := iF t hc
        have ha11 : ¬ ((301 : Int) ≤ ((σ 63 3) + 1)) := hc
        refine i5 c_44_29 rfl (i33a c_44_30 (i43 (v := σ 63 3) c_44_31 (lo (c := 63) (kd := 103) (n := 0) rfl (by decide)) rfl (i1 c_44_34 (i10 c_44_35 (i46 (σ1 := uc σ 63 (u1 (σ 63) 3 ((σ 63 3) + 1))) c_44_36 (lo (c := 63) (kd := 103) (n := 0) rfl (by decide)) (by decide) rfl r10 (wr_ rfl rfl) (i5 c_44_39 rfl (i5 c_44_40 rfl (i45 c_44_41 (lo (c := 63) (kd := 103) (n := 0) rfl (by decide)) (lro (c := 63) (k := 0) (j := 64) (by decide)) (i5 c_44_44 rfl (wi_ok (fun K16 => ?_)))))))))))
        obtain ⟨r17, t⟩ := t
        refine i43 (v := (σ 63 3) + 1) c_44_45 (lo (c := 63) (kd := 103) (n := 0) rfl (by decide)) ((congrFun (uc_s _ _ _) _).trans (u1_s _ _ _)) (i50 (v := σ 64 ((σ 63 3) + 1)) c_44_48 (lo (c := 64) (kd := 0) (n := 301) rfl (by decide)) (by decide) r17 (congrFun (uc_ns rfl (by decide)) _) (i46 (σ1 := uc σ 63 (u1 (u1 (σ 63) 3 ((σ 63 3) + 1)) 4 (σ 64 ((σ 63 3) + 1)))) c_44_49 (lo (c := 63) (kd := 103) (n := 0) rfl (by decide)) (by decide) rfl (rge_ K16 (congrFun (uc_ns rfl (by decide)) _)) (wr_ (uc_s _ _ _) (uc_uc _ _ _ _)) (i38 c_44_52 rfl ?_)))
        exact i94 c_44_92 t
theorem q_44 {d : Nat} {S : zS} {σ τ : zI} {Q : zQ} {tt : Int} {T : Int → Int} {n : Int} {s : Int} (p0 : CR T n s σ ∨ σ 63 5 ≠ 0) (p1 : CR T n s σ → tt ≠ 1) (p2 : rg tt) (p3 : n ≤ 300) (t : ∀ (σ1 : zI), XP T n s tt σ σ1 → Q none S σ1 τ) : wc (d + 3) 44 [.ref 63, .int (wI tt)] S σ τ Q := by
  rcases p0 with cr | fl
  · obtain ⟨b1, b2, b3, b4, b5⟩ := CR_b cr
    have bad : tk T n s ≠ tt → Q none S (uc σ 63 (u1 (u1 (σ 63) 5 1) 6 (σ 65 (σ 63 3)))) τ := fun h => t _ ⟨⟨fun c hc => uc_n hc, fun k hk => by rw [uc_s, u1_n (by omega), u1_n (by omega)]⟩, fun z => absurd b4 z, fun _ => ⟨fun z => absurd z h, fun _ => ⟨by rw [uc_s, u1_n (by omega), u1_s], by rw [uc_s, u1_s, b2]⟩⟩⟩
    refine wc_of mi_44 rfl (u_44_0 (ifI (fun _ => ⟨p2, ifI (fun e => ?_) (fun e => ifI (fun z => by omega) (fun _ => ⟨by omega, bad (by rw [← b3]; exact e)⟩))⟩) (fun z => absurd b4 z)))
    have et : tk T n s = tt := by rw [← b3]; exact e
    have t1 : tk T n s ≠ 1 := by rw [et]; exact p1 cr
    have sn := tk_n (T := T) t1
    obtain ⟨cnt, i, ct, hi, hs, h3, h4, h5⟩ := cr
    have ct0 := ct.1
    have ic : i ≠ cnt := fun z => by rw [hs, z, ct.2.2.2] at sn; omega
    have a := ct.2.1 (i + 1) (by omega) (by omega)
    refine ⟨by omega, ifI (fun z => by omega) (fun _ => ⟨by omega, t _ ⟨⟨fun c hc => uc_n hc, fun k hk => ?_⟩, fun z => absurd b4 z, fun _ => ⟨fun _ => ⟨cnt, i + 1, CT_f ct (uc_n (by decide)) (uc_n (by decide)) (uc_n (by decide)), by omega, ?_, ?_, ?_, ?_⟩, fun z => absurd et z⟩⟩⟩)⟩
    · rw [uc_s, u1_n (by omega), u1_n (by omega)]
    · rw [sT_s hi.1, hs]
    · rw [uc_s, u1_n (by omega), u1_s, h3]
    · rw [uc_s, u1_s, h3, a.1, sT_s hi.1, hs]
    · rw [uc_s, u1_n (by omega), u1_n (by omega)]; exact h5
  · exact wc_of mi_44 rfl (u_44_0 (ifI (fun z => absurd z fl) (fun _ => t σ ⟨CK_0, fun _ => rfl, fun z => absurd (CR_b z).2.2.2.1 fl⟩)))
