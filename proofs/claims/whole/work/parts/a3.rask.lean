/-! ===== the reference reads: ASKS (segments printed by wip/whole, contracts own work) ===== -/
def cmpO (t : Int) : Int := if 23 ≤ t ∧ t ≤ 28 then t - 13 else -1
section GRW
variable (T : Int → Int) (n : Int)
/-- a compare behind c NOTS -/
def askK (k : Nat) (c s : Int) : RR := if (sumO T n (oneK T n k) s).1 ≠ 0 then ((sumO T n (oneK T n k) s).1, (sumO T n (oneK T n k) s).2.1, []) else if 23 ≤ tk T n (sumO T n (oneK T n k) s).2.1 ∧ tk T n (sumO T n (oneK T n k) s).2.1 ≤ 28 then (if (sumO T n (oneK T n k) (nx T n (sumO T n (oneK T n k) s).2.1)).1 ≠ 0 then ((sumO T n (oneK T n k) (nx T n (sumO T n (oneK T n k) s).2.1)).1, (sumO T n (oneK T n k) (nx T n (sumO T n (oneK T n k) s).2.1)).2.1, []) else (0, (sumO T n (oneK T n k) (nx T n (sumO T n (oneK T n k) s).2.1)).2.1, (sumO T n (oneK T n k) s).2.2 ++ (sumO T n (oneK T n k) (nx T n (sumO T n (oneK T n k) s).2.1)).2.2 ++ [(tk T n (sumO T n (oneK T n k) s).2.1 - 13, 0)] ++ List.replicate c.toNat (20, 0))) else (1, (sumO T n (oneK T n k) s).2.1, [])
def askO (s : Int) : RR := if (notO T n 8 s 0).1 ≠ 0 then ((notO T n 8 s 0).1, (notO T n 8 s 0).2.1, []) else askK T n (8 - (notO T n 8 s 0).2.2).toNat (notO T n 8 s 0).2.2 (notO T n 8 s 0).2.1
def anO (an : Int) : List (Int × Int) := if an = 0 then [] else [(21, 0)]
def orO (o : Int) : List (Int × Int) := if o = 0 then [] else [(22, 0)]
def eitO : Nat → Int → List (Int × Int) → Int → Int → RR
  | 0, s, _, _, _ => (1, s, [])
  | m + 1, s, L, an, o => if (askO T n s).1 ≠ 0 then ((askO T n s).1, (askO T n s).2.1, []) else if tk T n (askO T n s).2.1 = 15 then eitO m (nx T n (askO T n s).2.1) (L ++ (askO T n s).2.2 ++ anO an) 1 o else if tk T n (askO T n s).2.1 = 14 then eitO m (nx T n (askO T n s).2.1) (L ++ (askO T n s).2.2 ++ anO an ++ orO o) 0 1 else (0, (askO T n s).2.1, L ++ (askO T n s).2.2 ++ anO an ++ orO o)
end GRW
section GRX
variable {T : Int → Int} {n : Int}
theorem notO_ok : ∀ (k : Nat) (s c : Int), 0 ≤ s → s ≤ n → ((notO T n k s c).1 = 0 → s ≤ (notO T n k s c).2.1 ∧ (notO T n k s c).2.1 ≤ n ∧ c ≤ (notO T n k s c).2.2 ∧ (notO T n k s c).2.2 - c ≤ (notO T n k s c).2.1 - s ∧ (notO T n k s c).2.2 - c ≤ k) ∧ ((notO T n k s c).1 ≠ 0 → s ≤ (notO T n k s c).2.1 ∧ (notO T n k s c).2.1 ≤ n ∧ (notO T n k s c).1 = 3)
  | 0, s, c, h1, h2 => by
    unfold notO
    by_cases e : tk T n s = 16
    · rw [if_pos e]
      refine ⟨fun z => absurd (show (3 : Int) = 0 from z) (by decide), fun _ => ⟨?_, h2, rfl⟩⟩
      show s ≤ s; omega
    · rw [if_neg e]
      refine ⟨fun _ => ⟨?_, h2, ?_, ?_, ?_⟩, fun z => absurd rfl z⟩
      · show s ≤ s; omega
      · show c ≤ c; omega
      · show c - c ≤ s - s; omega
      · show c - c ≤ (0 : Nat); omega
  | k + 1, s, c, h1, h2 => by
    unfold notO
    by_cases e : tk T n s = 16
    · rw [if_pos e]
      have nb := nx_b (T := T) (tk_n (T := T) (n := n) (s := s) (by omega))
      have ih := notO_ok k (nx T n s) (c + 1) (by omega) (by omega)
      generalize notO T n k (nx T n s) (c + 1) = R at ih ⊢
      refine ⟨fun z => ?_, fun z => ?_⟩
      · have := ih.1 z
        omega
      · have := ih.2 z
        omega
    · rw [if_neg e]
      refine ⟨fun _ => ⟨?_, h2, ?_, ?_, ?_⟩, fun z => absurd rfl z⟩
      · show s ≤ s; omega
      · show c ≤ c; omega
      · show c - c ≤ s - s; omega
      · show c - c ≤ ((k + 1 : Nat) : Int); omega
theorem askK_ok (n3 : n ≤ 300) {k : Nat} (hk : k ≤ 8) {c s : Int} (h0 : 0 ≤ c) (h1 : 0 ≤ s) (h2 : s ≤ n) : ((askK T n k c s).1 = 0 → s < (askK T n k c s).2.1 ∧ (askK T n k c s).2.1 ≤ n ∧ ((askK T n k c s).2.2.length : Int) ≤ (askK T n k c s).2.1 - s + c) ∧ ((askK T n k c s).1 ≠ 0 → s ≤ (askK T n k c s).2.1 ∧ (askK T n k c s).2.1 ≤ n ∧ 1 ≤ (askK T n k c s).1 ∧ (askK T n k c s).1 ≤ 3) := by
  have ok := oneK_ok (T := T) n3 k hk
  have a := sumO_ok (T := T) n3 ok h1 h2
  unfold askK
  generalize sumO T n (oneK T n k) s = A at a ⊢
  by_cases e : A.1 ≠ 0
  · rw [if_pos e]
    exact ⟨fun z => absurd z e, fun _ => a.2 e⟩
  rw [if_neg e]
  have a1 := a.1 (by omega)
  by_cases c1 : 23 ≤ tk T n A.2.1 ∧ tk T n A.2.1 ≤ 28
  · rw [if_pos c1]
    have nb := nx_b (T := T) (tk_n (T := T) (n := n) (s := A.2.1) (by omega))
    have b := sumO_ok (T := T) n3 ok (s := nx T n A.2.1) (by omega) (by omega)
    generalize sumO T n (oneK T n k) (nx T n A.2.1) = B at b ⊢
    by_cases e2 : B.1 ≠ 0
    · rw [if_pos e2]
      have := b.2 e2
      refine ⟨fun z => absurd z e2, fun _ => ⟨?_, this.2⟩⟩
      show s ≤ B.2.1; omega
    rw [if_neg e2]
    have b1 := b.1 (by omega)
    refine ⟨fun _ => ⟨?_, b1.2.1, ?_⟩, fun z => absurd rfl z⟩
    · show s < B.2.1; omega
    · show ((A.2.2 ++ B.2.2 ++ [(tk T n A.2.1 - 13, (0 : Int))] ++ List.replicate c.toNat ((20 : Int), (0 : Int))).length : Int) ≤ B.2.1 - s + c
      rw [List.length_append, List.length_append, List.length_append, List.length_replicate]
      have : (([(tk T n A.2.1 - 13, (0 : Int))] : List (Int × Int)).length : Int) = 1 := rfl
      omega
  · rw [if_neg c1]
    refine ⟨fun z => absurd (show (1 : Int) = 0 from z) (by decide), fun _ => ⟨?_, a1.2.1, ?_, ?_⟩⟩
    · show s ≤ A.2.1; omega
    · show (1 : Int) ≤ 1; omega
    · show (1 : Int) ≤ 3; omega
theorem askO_ok (n3 : n ≤ 300) {s : Int} (h1 : 0 ≤ s) (h2 : s ≤ n) : ((askO T n s).1 = 0 → s < (askO T n s).2.1 ∧ (askO T n s).2.1 ≤ n ∧ ((askO T n s).2.2.length : Int) ≤ (askO T n s).2.1 - s) ∧ ((askO T n s).1 ≠ 0 → s ≤ (askO T n s).2.1 ∧ (askO T n s).2.1 ≤ n ∧ 1 ≤ (askO T n s).1 ∧ (askO T n s).1 ≤ 3) := by
  have a := notO_ok (T := T) 8 s 0 h1 h2
  unfold askO
  generalize notO T n 8 s 0 = N at a ⊢
  by_cases e : N.1 ≠ 0
  · rw [if_pos e]
    have := a.2 e
    refine ⟨fun z => absurd z e, fun _ => ⟨this.1, this.2.1, ?_, ?_⟩⟩
    · show 1 ≤ N.1; omega
    · show N.1 ≤ 3; omega
  rw [if_neg e]
  have a1 := a.1 (by omega)
  have b := askK_ok (T := T) n3 (k := (8 - N.2.2).toNat) (by omega) (c := N.2.2) (s := N.2.1) (by omega) (by omega) (by omega)
  generalize askK T n (8 - N.2.2).toNat N.2.2 N.2.1 = R at b ⊢
  refine ⟨fun z => ?_, fun z => ?_⟩
  · have := b.1 z
    omega
  · have := b.2 z
    omega
theorem rkC {T : Int → Int} {n s : Int} (hT : TB T n) (hs : 0 ≤ s ∧ s ≤ n) : (rk T n s = 60 ↔ tk T n s = 23) ∧ (rk T n s = 4 ↔ tk T n s = 24) ∧ (rk T n s = 62 ↔ tk T n s = 25) ∧ (rk T n s = 5 ↔ tk T n s = 26) ∧ (rk T n s = 61 ↔ tk T n s = 27) ∧ (rk T n s = 35 ↔ tk T n s = 28) ∧ (s < n ↔ tk T n s ≠ 1) := by
  obtain ⟨⟨r0, r1, r23, r24, r25, r26, r27, r28, r29, r30, r31, r32, r33, r34, r35, r36⟩, rw1, rw2, sn, n2, b1, b2⟩ := rk_tk hT hs
  exact ⟨r23, r24, r25, r26, r27, r28, sn⟩
/-- what reading comes to -/
def OF (T : Int → Int) (n : Int) (σ τ : zI) (R : RR) (σ1 τ1 : zI) : Prop := TR T n R.2.1 σ1 τ1 ∧ (R.1 = 0 → PF σ σ1 τ τ1 R.2.2 ∧ σ1 83 17 = σ 83 17) ∧ ∃ L, PF σ σ1 τ τ1 L ∧ σ1 83 14 ≤ 310
theorem PF_EB {σ σ1 τ τ1 : zI} {L : List (Int × Int)} (h : EB σ) (pf : PF σ σ1 τ τ1 L) (b : σ1 83 14 ≤ 310) : EB σ1 := EB_f h (pf.2.2.1 12 (by omega)) (by have := pf.1.1; have := h.2; omega)
end GRX
-- method 248: MillTownModel.compareOf()I
theorem c_248_0 : pg_cd 248 0 = (5, 1, 0, 0, 0) := by decide +kernel
theorem c_248_1 : pg_cd 248 1 = (43, 12, 144, 9, 0) := by decide +kernel
theorem c_248_4 : pg_cd 248 4 = (1, 2, 0, 0, 60) := by decide +kernel
theorem c_248_6 : pg_cd 248 6 = (37, 3, 0, 1, 8) := by decide +kernel
theorem c_248_9 : pg_cd 248 9 = (1, 2, 0, 0, 10) := by decide +kernel
theorem c_248_11 : pg_cd 248 11 = (38, 3, 0, 0, 72) := by decide +kernel
theorem c_248_14 : pg_cd 248 14 = (5, 1, 0, 0, 0) := by decide +kernel
theorem c_248_15 : pg_cd 248 15 = (43, 12, 144, 9, 0) := by decide +kernel
theorem c_248_18 : pg_cd 248 18 = (1, 1, 0, 0, 4) := by decide +kernel
theorem c_248_19 : pg_cd 248 19 = (37, 3, 0, 1, 8) := by decide +kernel
theorem c_248_22 : pg_cd 248 22 = (1, 2, 0, 0, 11) := by decide +kernel
theorem c_248_24 : pg_cd 248 24 = (38, 3, 0, 0, 59) := by decide +kernel
theorem c_248_27 : pg_cd 248 27 = (5, 1, 0, 0, 0) := by decide +kernel
theorem c_248_28 : pg_cd 248 28 = (43, 12, 144, 9, 0) := by decide +kernel
theorem c_248_31 : pg_cd 248 31 = (1, 2, 0, 0, 62) := by decide +kernel
theorem c_248_33 : pg_cd 248 33 = (37, 3, 0, 1, 8) := by decide +kernel
theorem c_248_36 : pg_cd 248 36 = (1, 2, 0, 0, 12) := by decide +kernel
theorem c_248_38 : pg_cd 248 38 = (38, 3, 0, 0, 45) := by decide +kernel
theorem c_248_41 : pg_cd 248 41 = (5, 1, 0, 0, 0) := by decide +kernel
theorem c_248_42 : pg_cd 248 42 = (43, 12, 144, 9, 0) := by decide +kernel
theorem c_248_45 : pg_cd 248 45 = (1, 1, 0, 0, 5) := by decide +kernel
theorem c_248_46 : pg_cd 248 46 = (37, 3, 0, 1, 8) := by decide +kernel
theorem c_248_49 : pg_cd 248 49 = (1, 2, 0, 0, 13) := by decide +kernel
theorem c_248_51 : pg_cd 248 51 = (38, 3, 0, 0, 32) := by decide +kernel
theorem c_248_54 : pg_cd 248 54 = (5, 1, 0, 0, 0) := by decide +kernel
theorem c_248_55 : pg_cd 248 55 = (43, 12, 144, 9, 0) := by decide +kernel
theorem c_248_58 : pg_cd 248 58 = (1, 2, 0, 0, 61) := by decide +kernel
theorem c_248_60 : pg_cd 248 60 = (37, 3, 0, 1, 8) := by decide +kernel
theorem c_248_63 : pg_cd 248 63 = (1, 2, 0, 0, 14) := by decide +kernel
theorem c_248_65 : pg_cd 248 65 = (38, 3, 0, 0, 18) := by decide +kernel
theorem c_248_68 : pg_cd 248 68 = (5, 1, 0, 0, 0) := by decide +kernel
theorem c_248_69 : pg_cd 248 69 = (43, 12, 144, 9, 0) := by decide +kernel
theorem c_248_72 : pg_cd 248 72 = (1, 2, 0, 0, 35) := by decide +kernel
theorem c_248_74 : pg_cd 248 74 = (37, 3, 0, 1, 8) := by decide +kernel
theorem c_248_77 : pg_cd 248 77 = (1, 2, 0, 0, 15) := by decide +kernel
theorem c_248_79 : pg_cd 248 79 = (38, 3, 0, 0, 4) := by decide +kernel
theorem c_248_82 : pg_cd 248 82 = (1, 1, 0, 0, (-1)) := by decide +kernel
theorem c_248_83 : pg_cd 248 83 = (90, 0, 0, 0, 0) := by decide +kernel
theorem mi_248 : pg_mc 248 = 12 ∧ pg_na 248 = 0 ∧ pg_mx 248 = 1 := by decide +kernel
set_option maxRecDepth 20000 in
theorem u_248_0 {d : Nat} {S : zS} {σ τ : zI} {Q : zQ} (t : if (σ 83 9) = 60 then (Q (some (.int (wI 10))) S σ τ) else (if (σ 83 9) = 4 then (Q (some (.int (wI 11))) S σ τ) else (if (σ 83 9) = 62 then (Q (some (.int (wI 12))) S σ τ) else (if (σ 83 9) = 5 then (Q (some (.int (wI 13))) S σ τ) else (if (σ 83 9) = 61 then (Q (some (.int (wI 14))) S σ τ) else (if (σ 83 9) = 35 then (Q (some (.int (wI 15))) S σ τ) else (Q (some (.int (wI (-1)))) S σ τ))))))) : wi (d + 3) 248 0 [.ref 83] [] S σ τ Q := by
  refine i5 c_248_0 rfl (wi_ok (fun K1 => ?_))
  refine i43 (v := σ 83 9) c_248_1 (lo (c := 83) (kd := 112) (n := 0) rfl (by decide)) rfl (i1 c_248_4 ?_)
  refine i37 c_248_6 (rge_ K1 rfl) (by decide) rfl (fun hc => ?_) (fun hc => ?_)
  · have t := iF t hc
    have ha2 : ¬ ((σ 83 9) = 60) := hc
    refine i5 c_248_14 rfl (i43 (v := σ 83 9) c_248_15 (lo (c := 83) (kd := 112) (n := 0) rfl (by decide)) rfl (i1 c_248_18 ?_))
    refine i37 c_248_19 (rge_ K1 rfl) (by decide) rfl (fun hc => ?_) (fun hc => ?_)
    · have t := iF t hc
      have ha3 : ¬ ((σ 83 9) = 4) := hc
      refine i5 c_248_27 rfl (i43 (v := σ 83 9) c_248_28 (lo (c := 83) (kd := 112) (n := 0) rfl (by decide)) rfl (i1 c_248_31 ?_))
      refine i37 c_248_33 (rge_ K1 rfl) (by decide) rfl (fun hc => ?_) (fun hc => ?_)
      · have t := iF t hc
        have ha4 : ¬ ((σ 83 9) = 62) := hc
        refine i5 c_248_41 rfl (i43 (v := σ 83 9) c_248_42 (lo (c := 83) (kd := 112) (n := 0) rfl (by decide)) rfl (i1 c_248_45 ?_))
        refine i37 c_248_46 (rge_ K1 rfl) (by decide) rfl (fun hc => ?_) (fun hc => ?_)
        · have t := iF t hc
          have ha5 : ¬ ((σ 83 9) = 5) := hc
          refine i5 c_248_54 rfl (i43 (v := σ 83 9) c_248_55 (lo (c := 83) (kd := 112) (n := 0) rfl (by decide)) rfl (i1 c_248_58 ?_))
          refine i37 c_248_60 (rge_ K1 rfl) (by decide) rfl (fun hc => ?_) (fun hc => ?_)
          · have t := iF t hc
            have ha6 : ¬ ((σ 83 9) = 61) := hc
            refine i5 c_248_68 rfl (i43 (v := σ 83 9) c_248_69 (lo (c := 83) (kd := 112) (n := 0) rfl (by decide)) rfl (i1 c_248_72 ?_))
            refine i37 c_248_74 (rge_ K1 rfl) (by decide) rfl (fun hc => ?_) (fun hc => ?_)
            · have t := iF t hc
              have ha7 : ¬ ((σ 83 9) = 35) := hc
              refine i1 c_248_82 ?_
              exact i90 c_248_83 t
            · have t := iT t (Decidable.not_not.mp hc)
              have ha7 : (σ 83 9) = 35 := Decidable.not_not.mp hc
              refine i1 c_248_77 (i38 c_248_79 rfl ?_)
              exact i90 c_248_83 t
          · have t := iT t (Decidable.not_not.mp hc)
            have ha6 : (σ 83 9) = 61 := Decidable.not_not.mp hc
            refine i1 c_248_63 (i38 c_248_65 rfl ?_)
            exact i90 c_248_83 t
        · have t := iT t (Decidable.not_not.mp hc)
          have ha5 : (σ 83 9) = 5 := Decidable.not_not.mp hc
          refine i1 c_248_49 (i38 c_248_51 rfl ?_)
          exact i90 c_248_83 t
      · have t := iT t (Decidable.not_not.mp hc)
        have ha4 : (σ 83 9) = 62 := Decidable.not_not.mp hc
        refine i1 c_248_36 (i38 c_248_38 rfl ?_)
        exact i90 c_248_83 t
    · have t := iT t (Decidable.not_not.mp hc)
      have ha3 : (σ 83 9) = 4 := Decidable.not_not.mp hc
      refine i1 c_248_22 (i38 c_248_24 rfl ?_)
      exact i90 c_248_83 t
  · have t := iT t (Decidable.not_not.mp hc)
    have ha2 : (σ 83 9) = 60 := Decidable.not_not.mp hc
    refine i1 c_248_9 (i38 c_248_11 rfl ?_)
    exact i90 c_248_83 t
theorem q_248 {d : Nat} {S : zS} {σ τ : zI} {Q : zQ} {T : Int → Int} {n : Int} {s : Int} (p0 : TB T n) (p1 : TR T n s σ τ) (t : Q (some (.int (wI (cmpO (tk T n s))))) S σ τ) : wc (d + 3) 248 [.ref 83] S σ τ Q := by
  obtain ⟨r23, r24, r25, r26, r27, r28, sn⟩ := rkC p0 p1.1
  have k9 := p1.2.2.2.2.1
  have yes : ∀ k, tk T n s = k → 23 ≤ k → k ≤ 28 → Q (some (.int (wI (k - 13)))) S σ τ := fun k e h1 h2 => by
    unfold cmpO at t
    rw [if_pos (by omega), e] at t; exact t
  refine wc_of mi_248 rfl (u_248_0 ?_)
  rw [k9]
  refine ifI (fun e => yes 23 (r23.mp e) (by omega) (by omega)) (fun e1 => ifI (fun e => yes 24 (r24.mp e) (by omega) (by omega)) (fun e2 => ifI (fun e => yes 25 (r25.mp e) (by omega) (by omega)) (fun e3 => ifI (fun e => yes 26 (r26.mp e) (by omega) (by omega)) (fun e4 => ifI (fun e => yes 27 (r27.mp e) (by omega) (by omega)) (fun e5 => ifI (fun e => yes 28 (r28.mp e) (by omega) (by omega)) (fun e6 => ?_))))))
  have n1 : tk T n s ≠ 23 := fun z => e1 (r23.mpr z)
  have n2 : tk T n s ≠ 24 := fun z => e2 (r24.mpr z)
  have n3 : tk T n s ≠ 25 := fun z => e3 (r25.mpr z)
  have n4 : tk T n s ≠ 26 := fun z => e4 (r26.mpr z)
  have n5 : tk T n s ≠ 27 := fun z => e5 (r27.mpr z)
  have n6 : tk T n s ≠ 28 := fun z => e6 (r28.mpr z)
  unfold cmpO at t
  rw [if_neg (by clear r23 r24 r25 r26 r27 r28 e1 e2 e3 e4 e5 e6; omega)] at t
  exact t
