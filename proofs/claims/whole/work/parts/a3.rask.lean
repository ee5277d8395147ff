/-! ===== the reference reads: ASKS (segments printed by wip/whole, contracts own work) ===== -/
def cmpO (t : Int) : Int := if 23 ≤ t ∧ t ≤ 28 then t - 13 else -1
section GRW
variable (T : Int → Int) (n : Int)
/-- a compare behind c NOTS -/
def askK (k : Nat) (c s : Int) : RR := if (sumO T n (oneK T n k) s).1 ≠ 0 then ((sumO T n (oneK T n k) s).1, (sumO T n (oneK T n k) s).2.1, []) else if 23 ≤ tk T n (sumO T n (oneK T n k) s).2.1 ∧ tk T n (sumO T n (oneK T n k) s).2.1 ≤ 28 then (if (sumO T n (oneK T n k) (nx T n (sumO T n (oneK T n k) s).2.1)).1 ≠ 0 then ((sumO T n (oneK T n k) (nx T n (sumO T n (oneK T n k) s).2.1)).1, (sumO T n (oneK T n k) (nx T n (sumO T n (oneK T n k) s).2.1)).2.1, []) else (0, (sumO T n (oneK T n k) (nx T n (sumO T n (oneK T n k) s).2.1)).2.1, (sumO T n (oneK T n k) s).2.2 ++ (sumO T n (oneK T n k) (nx T n (sumO T n (oneK T n k) s).2.1)).2.2 ++ [(tk T n (sumO T n (oneK T n k) s).2.1 - 13, 0)] ++ List.replicate c.toNat (20, 0))) else (1, (sumO T n (oneK T n k) s).2.1, [])
def askO (s : Int) : RR := if (notO T n 8 s 0).1 ≠ 0 then ((notO T n 8 s 0).1, (notO T n 8 s 0).2.1, []) else askK T n (8 - (notO T n 8 s 0).2.2).toNat (notO T n 8 s 0).2.2 (notO T n 8 s 0).2.1
def anO (an : Int) : List (Int × Int) := if an = 0 then [] else [(21, 0)]
def orO (o : Int) : List (Int × Int) := if o = 0 then [] else [(22, 0)]
def eitO : Nat → Int → List (Int × Int) → Int → Int → RR
  | 0, s, _, _, _ => (1, s, [])
  | m + 1, s, L, an, o => if (askO T n s).1 ≠ 0 then ((askO T n s).1, (askO T n s).2.1, []) else if tk T n (askO T n s).2.1 = 15 then eitO m (nx T n (askO T n s).2.1) (L ++ (askO T n s).2.2 ++ anO an) 1 o else if tk T n (askO T n s).2.1 = 14 then eitO m (nx T n (askO T n s).2.1) (L ++ (askO T n s).2.2 ++ anO an ++ orO o) 0 1 else (0, (askO T n s).2.1, L ++ (askO T n s).2.2 ++ anO an ++ orO o)
end GRW
section GRX
variable {T : Int → Int} {n : Int}
theorem notO_ok : ∀ (k : Nat) (s c : Int), 0 ≤ s → s ≤ n → ((notO T n k s c).1 = 0 → s ≤ (notO T n k s c).2.1 ∧ (notO T n k s c).2.1 ≤ n ∧ c ≤ (notO T n k s c).2.2 ∧ (notO T n k s c).2.2 - c ≤ (notO T n k s c).2.1 - s ∧ (notO T n k s c).2.2 - c ≤ k) ∧ ((notO T n k s c).1 ≠ 0 → s ≤ (notO T n k s c).2.1 ∧ (notO T n k s c).2.1 ≤ n ∧ (notO T n k s c).1 = 3)
  | 0, s, c, h1, h2 => by
    unfold notO
    by_cases e : tk T n s = 16
    · rw [if_pos e]
      refine ⟨fun z => absurd (show (3 : Int) = 0 from z) (by decide), fun _ => ⟨?_, h2, rfl⟩⟩
      show s ≤ s; omega
    · rw [if_neg e]
      refine ⟨fun _ => ⟨?_, h2, ?_, ?_, ?_⟩, fun z => absurd rfl z⟩
      · show s ≤ s; omega
      · show c ≤ c; omega
      · show c - c ≤ s - s; omega
      · show c - c ≤ (0 : Nat); omega
  | k + 1, s, c, h1, h2 => by
    unfold notO
    by_cases e : tk T n s = 16
    · rw [if_pos e]
      have nb := nx_b (T := T) (tk_n (T := T) (n := n) (s := s) (by omega))
      have ih := notO_ok k (nx T n s) (c + 1) (by omega) (by omega)
      generalize notO T n k (nx T n s) (c + 1) = R at ih ⊢
      refine ⟨fun z => ?_, fun z => ?_⟩
      · have := ih.1 z
        omega
      · have := ih.2 z
        omega
    · rw [if_neg e]
      refine ⟨fun _ => ⟨?_, h2, ?_, ?_, ?_⟩, fun z => absurd rfl z⟩
      · show s ≤ s; omega
      · show c ≤ c; omega
      · show c - c ≤ s - s; omega
      · show c - c ≤ ((k + 1 : Nat) : Int); omega
theorem askK_ok (n3 : n ≤ 300) {k : Nat} (hk : k ≤ 8) {c s : Int} (h0 : 0 ≤ c) (h1 : 0 ≤ s) (h2 : s ≤ n) : ((askK T n k c s).1 = 0 → s < (askK T n k c s).2.1 ∧ (askK T n k c s).2.1 ≤ n ∧ ((askK T n k c s).2.2.length : Int) ≤ (askK T n k c s).2.1 - s + c) ∧ ((askK T n k c s).1 ≠ 0 → s ≤ (askK T n k c s).2.1 ∧ (askK T n k c s).2.1 ≤ n ∧ 1 ≤ (askK T n k c s).1 ∧ (askK T n k c s).1 ≤ 3) := by
  have ok := oneK_ok (T := T) n3 k hk
  have a := sumO_ok (T := T) n3 ok h1 h2
  unfold askK
  generalize sumO T n (oneK T n k) s = A at a ⊢
  by_cases e : A.1 ≠ 0
  · rw [if_pos e]
    exact ⟨fun z => absurd z e, fun _ => a.2 e⟩
  rw [if_neg e]
  have a1 := a.1 (by omega)
  by_cases c1 : 23 ≤ tk T n A.2.1 ∧ tk T n A.2.1 ≤ 28
  · rw [if_pos c1]
    have nb := nx_b (T := T) (tk_n (T := T) (n := n) (s := A.2.1) (by omega))
    have b := sumO_ok (T := T) n3 ok (s := nx T n A.2.1) (by omega) (by omega)
    generalize sumO T n (oneK T n k) (nx T n A.2.1) = B at b ⊢
    by_cases e2 : B.1 ≠ 0
    · rw [if_pos e2]
      have := b.2 e2
      refine ⟨fun z => absurd z e2, fun _ => ⟨?_, this.2⟩⟩
      show s ≤ B.2.1; omega
    rw [if_neg e2]
    have b1 := b.1 (by omega)
    refine ⟨fun _ => ⟨?_, b1.2.1, ?_⟩, fun z => absurd rfl z⟩
    · show s < B.2.1; omega
    · show ((A.2.2 ++ B.2.2 ++ [(tk T n A.2.1 - 13, (0 : Int))] ++ List.replicate c.toNat ((20 : Int), (0 : Int))).length : Int) ≤ B.2.1 - s + c
      rw [List.length_append, List.length_append, List.length_append, List.length_replicate]
      have : (([(tk T n A.2.1 - 13, (0 : Int))] : List (Int × Int)).length : Int) = 1 := rfl
      omega
  · rw [if_neg c1]
    refine ⟨fun z => absurd (show (1 : Int) = 0 from z) (by decide), fun _ => ⟨?_, a1.2.1, ?_, ?_⟩⟩
    · show s ≤ A.2.1; omega
    · show (1 : Int) ≤ 1; omega
    · show (1 : Int) ≤ 3; omega
theorem askO_ok (n3 : n ≤ 300) {s : Int} (h1 : 0 ≤ s) (h2 : s ≤ n) : ((askO T n s).1 = 0 → s < (askO T n s).2.1 ∧ (askO T n s).2.1 ≤ n ∧ ((askO T n s).2.2.length : Int) ≤ (askO T n s).2.1 - s) ∧ ((askO T n s).1 ≠ 0 → s ≤ (askO T n s).2.1 ∧ (askO T n s).2.1 ≤ n ∧ 1 ≤ (askO T n s).1 ∧ (askO T n s).1 ≤ 3) := by
  have a := notO_ok (T := T) 8 s 0 h1 h2
  unfold askO
  generalize notO T n 8 s 0 = N at a ⊢
  by_cases e : N.1 ≠ 0
  · rw [if_pos e]
    have := a.2 e
    refine ⟨fun z => absurd z e, fun _ => ⟨this.1, this.2.1, ?_, ?_⟩⟩
    · show 1 ≤ N.1; omega
    · show N.1 ≤ 3; omega
  rw [if_neg e]
  have a1 := a.1 (by omega)
  have b := askK_ok (T := T) n3 (k := (8 - N.2.2).toNat) (by omega) (c := N.2.2) (s := N.2.1) (by omega) (by omega) (by omega)
  generalize askK T n (8 - N.2.2).toNat N.2.2 N.2.1 = R at b ⊢
  refine ⟨fun z => ?_, fun z => ?_⟩
  · have := b.1 z
    omega
  · have := b.2 z
    omega
theorem rkC {T : Int → Int} {n s : Int} (hT : TB T n) (hs : 0 ≤ s ∧ s ≤ n) : (rk T n s = 60 ↔ tk T n s = 23) ∧ (rk T n s = 4 ↔ tk T n s = 24) ∧ (rk T n s = 62 ↔ tk T n s = 25) ∧ (rk T n s = 5 ↔ tk T n s = 26) ∧ (rk T n s = 61 ↔ tk T n s = 27) ∧ (rk T n s = 35 ↔ tk T n s = 28) ∧ (s < n ↔ tk T n s ≠ 1) := by
  obtain ⟨⟨r0, r1, r23, r24, r25, r26, r27, r28, r29, r30, r31, r32, r33, r34, r35, r36⟩, rw1, rw2, sn, n2, b1, b2⟩ := rk_tk hT hs
  exact ⟨r23, r24, r25, r26, r27, r28, sn⟩
/-- what reading comes to -/
def OF (T : Int → Int) (n : Int) (σ τ : zI) (R : RR) (σ1 τ1 : zI) : Prop := TR T n R.2.1 σ1 τ1 ∧ (R.1 = 0 → PF σ σ1 τ τ1 R.2.2 ∧ σ1 83 17 = σ 83 17) ∧ ∃ L, PF σ σ1 τ τ1 L ∧ σ1 83 14 ≤ 310
theorem PF_EB {σ σ1 τ τ1 : zI} {L : List (Int × Int)} (h : EB σ) (pf : PF σ σ1 τ τ1 L) (b : σ1 83 14 ≤ 310) : EB σ1 := EB_f h (pf.2.2.1 12 (by omega)) (by have := pf.1.1; have := h.2; omega)
end GRX
-- method 248: MillTownModel.compareOf()I
theorem c_248_0 : pg_cd 248 0 = (5, 1, 0, 0, 0) := by decide +kernel
theorem c_248_1 : pg_cd 248 1 = (43, 12, 144, 9, 0) := by decide +kernel
theorem c_248_4 : pg_cd 248 4 = (1, 2, 0, 0, 60) := by decide +kernel
theorem c_248_6 : pg_cd 248 6 = (37, 3, 0, 1, 8) := by decide +kernel
theorem c_248_9 : pg_cd 248 9 = (1, 2, 0, 0, 10) := by decide +kernel
theorem c_248_11 : pg_cd 248 11 = (38, 3, 0, 0, 72) := by decide +kernel
theorem c_248_14 : pg_cd 248 14 = (5, 1, 0, 0, 0) := by decide +kernel
theorem c_248_15 : pg_cd 248 15 = (43, 12, 144, 9, 0) := by decide +kernel
theorem c_248_18 : pg_cd 248 18 = (1, 1, 0, 0, 4) := by decide +kernel
theorem c_248_19 : pg_cd 248 19 = (37, 3, 0, 1, 8) := by decide +kernel
theorem c_248_22 : pg_cd 248 22 = (1, 2, 0, 0, 11) := by decide +kernel
theorem c_248_24 : pg_cd 248 24 = (38, 3, 0, 0, 59) := by decide +kernel
theorem c_248_27 : pg_cd 248 27 = (5, 1, 0, 0, 0) := by decide +kernel
theorem c_248_28 : pg_cd 248 28 = (43, 12, 144, 9, 0) := by decide +kernel
theorem c_248_31 : pg_cd 248 31 = (1, 2, 0, 0, 62) := by decide +kernel
theorem c_248_33 : pg_cd 248 33 = (37, 3, 0, 1, 8) := by decide +kernel
theorem c_248_36 : pg_cd 248 36 = (1, 2, 0, 0, 12) := by decide +kernel
theorem c_248_38 : pg_cd 248 38 = (38, 3, 0, 0, 45) := by decide +kernel
theorem c_248_41 : pg_cd 248 41 = (5, 1, 0, 0, 0) := by decide +kernel
theorem c_248_42 : pg_cd 248 42 = (43, 12, 144, 9, 0) := by decide +kernel
theorem c_248_45 : pg_cd 248 45 = (1, 1, 0, 0, 5) := by decide +kernel
theorem c_248_46 : pg_cd 248 46 = (37, 3, 0, 1, 8) := by decide +kernel
theorem c_248_49 : pg_cd 248 49 = (1, 2, 0, 0, 13) := by decide +kernel
theorem c_248_51 : pg_cd 248 51 = (38, 3, 0, 0, 32) := by decide +kernel
theorem c_248_54 : pg_cd 248 54 = (5, 1, 0, 0, 0) := by decide +kernel
theorem c_248_55 : pg_cd 248 55 = (43, 12, 144, 9, 0) := by decide +kernel
theorem c_248_58 : pg_cd 248 58 = (1, 2, 0, 0, 61) := by decide +kernel
theorem c_248_60 : pg_cd 248 60 = (37, 3, 0, 1, 8) := by decide +kernel
theorem c_248_63 : pg_cd 248 63 = (1, 2, 0, 0, 14) := by decide +kernel
theorem c_248_65 : pg_cd 248 65 = (38, 3, 0, 0, 18) := by decide +kernel
theorem c_248_68 : pg_cd 248 68 = (5, 1, 0, 0, 0) := by decide +kernel
theorem c_248_69 : pg_cd 248 69 = (43, 12, 144, 9, 0) := by decide +kernel
theorem c_248_72 : pg_cd 248 72 = (1, 2, 0, 0, 35) := by decide +kernel
theorem c_248_74 : pg_cd 248 74 = (37, 3, 0, 1, 8) := by decide +kernel
theorem c_248_77 : pg_cd 248 77 = (1, 2, 0, 0, 15) := by decide +kernel
theorem c_248_79 : pg_cd 248 79 = (38, 3, 0, 0, 4) := by decide +kernel
theorem c_248_82 : pg_cd 248 82 = (1, 1, 0, 0, (-1)) := by decide +kernel
theorem c_248_83 : pg_cd 248 83 = (90, 0, 0, 0, 0) := by decide +kernel
theorem mi_248 : pg_mc 248 = 12 ∧ pg_na 248 = 0 ∧ pg_mx 248 = 1 := by decide +kernel
set_option maxRecDepth 20000 in
theorem u_248_0 {d : Nat} {S : zS} {σ τ : zI} {Q : zQ} (t : if (σ 83 9) = 60 then (Q (some (.int (wI 10))) S σ τ) else (if (σ 83 9) = 4 then (Q (some (.int (wI 11))) S σ τ) else (if (σ 83 9) = 62 then (Q (some (.int (wI 12))) S σ τ) else (if (σ 83 9) = 5 then (Q (some (.int (wI 13))) S σ τ) else (if (σ 83 9) = 61 then (Q (some (.int (wI 14))) S σ τ) else (if (σ 83 9) = 35 then (Q (some (.int (wI 15))) S σ τ) else (Q (some (.int (wI (-1)))) S σ τ))))))) : wi (d + 3) 248 0 [.ref 83] [] S σ τ Q := by
  refine i5 c_248_0 rfl (wi_ok (fun K1 => ?_))
  refine i43 (v := σ 83 9) c_248_1 (lo (c := 83) (kd := 112) (n := 0) rfl (by decide)) rfl (i1 c_248_4 ?_)
  refine i37 c_248_6 (rge_ K1 rfl) (by decide) rfl (fun hc => ?_) (fun hc => ?_)
  · have t := iF t hc
    have ha2 : ¬ ((σ 83 9) = 60) := hc
    refine i5 c_248_14 rfl (i43 (v := σ 83 9) c_248_15 (lo (c := 83) (kd := 112) (n := 0) rfl (by decide)) rfl (i1 c_248_18 ?_))
    refine i37 c_248_19 (rge_ K1 rfl) (by decide) rfl (fun hc => ?_) (fun hc => ?_)
    · have t := iF t hc
      have ha3 : ¬ ((σ 83 9) = 4) := hc
      refine i5 c_248_27 rfl (i43 (v := σ 83 9) c_248_28 (lo (c := 83) (kd := 112) (n := 0) rfl (by decide)) rfl (i1 c_248_31 ?_))
      refine i37 c_248_33 (rge_ K1 rfl) (by decide) rfl (fun hc => ?_) (fun hc => ?_)
      · have t := iF t hc
        have ha4 : ¬ ((σ 83 9) = 62) := hc
        refine i5 c_248_41 rfl (i43 (v := σ 83 9) c_248_42 (lo (c := 83) (kd := 112) (n := 0) rfl (by decide)) rfl (i1 c_248_45 ?_))
        refine i37 c_248_46 (rge_ K1 rfl) (by decide) rfl (fun hc => ?_) (fun hc => ?_)
        · have t := iF t hc
          have ha5 : ¬ ((σ 83 9) = 5) := hc
          refine i5 c_248_54 rfl (i43 (v := σ 83 9) c_248_55 (lo (c := 83) (kd := 112) (n := 0) rfl (by decide)) rfl (i1 c_248_58 ?_))
          refine i37 c_248_60 (rge_ K1 rfl) (by decide) rfl (fun hc => ?_) (fun hc => ?_)
          · have t := iF t hc
            have ha6 : ¬ ((σ 83 9) = 61) := hc
            refine i5 c_248_68 rfl (i43 (v := σ 83 9) c_248_69 (lo (c := 83) (kd := 112) (n := 0) rfl (by decide)) rfl (i1 c_248_72 ?_))
            refine i37 c_248_74 (rge_ K1 rfl) (by decide) rfl (fun hc => ?_) (fun hc => ?_)
            · have t := iF t hc
              have ha7 : ¬ ((σ 83 9) = 35) := hc
              refine i1 c_248_82 ?_
              exact i90 c_248_83 t
            · have t := iT t (Decidable.not_not.mp hc)
              have ha7 : (σ 83 9) = 35 := Decidable.not_not.mp hc
              refine i1 c_248_77 (i38 c_248_79 rfl ?_)
              exact i90 c_248_83 t
          · have t := iT t (Decidable.not_not.mp hc)
            have ha6 : (σ 83 9) = 61 := Decidable.not_not.mp hc
            refine i1 c_248_63 (i38 c_248_65 rfl ?_)
            exact i90 c_248_83 t
        · have t := iT t (Decidable.not_not.mp hc)
          have ha5 : (σ 83 9) = 5 := Decidable.not_not.mp hc
          refine i1 c_248_49 (i38 c_248_51 rfl ?_)
          exact i90 c_248_83 t
      · have t := iT t (Decidable.not_not.mp hc)
        have ha4 : (σ 83 9) = 62 := Decidable.not_not.mp hc
        refine i1 c_248_36 (i38 c_248_38 rfl ?_)
        exact i90 c_248_83 t
    · have t := iT t (Decidable.not_not.mp hc)
      have ha3 : (σ 83 9) = 4 := Decidable.not_not.mp hc
      refine i1 c_248_22 (i38 c_248_24 rfl ?_)
      exact i90 c_248_83 t
  · have t := iT t (Decidable.not_not.mp hc)
    have ha2 : (σ 83 9) = 60 := Decidable.not_not.mp hc
    refine i1 c_248_9 (i38 c_248_11 rfl ?_)
    exact i90 c_248_83 t
theorem q_248 {d : Nat} {S : zS} {σ τ : zI} {Q : zQ} {T : Int → Int} {n : Int} {s : Int} (p0 : TB T n) (p1 : TR T n s σ τ) (t : Q (some (.int (wI (cmpO (tk T n s))))) S σ τ) : wc (d + 3) 248 [.ref 83] S σ τ Q := by
  obtain ⟨r23, r24, r25, r26, r27, r28, sn⟩ := rkC p0 p1.1
  have k9 := p1.2.2.2.2.1
  have yes : ∀ k, tk T n s = k → 23 ≤ k → k ≤ 28 → Q (some (.int (wI (k - 13)))) S σ τ := fun k e h1 h2 => by
    unfold cmpO at t
    rw [if_pos (by omega), e] at t; exact t
  refine wc_of mi_248 rfl (u_248_0 ?_)
  rw [k9]
  refine ifI (fun e => yes 23 (r23.mp e) (by omega) (by omega)) (fun e1 => ifI (fun e => yes 24 (r24.mp e) (by omega) (by omega)) (fun e2 => ifI (fun e => yes 25 (r25.mp e) (by omega) (by omega)) (fun e3 => ifI (fun e => yes 26 (r26.mp e) (by omega) (by omega)) (fun e4 => ifI (fun e => yes 27 (r27.mp e) (by omega) (by omega)) (fun e5 => ifI (fun e => yes 28 (r28.mp e) (by omega) (by omega)) (fun e6 => ?_))))))
  have n1 : tk T n s ≠ 23 := fun z => e1 (r23.mpr z)
  have n2 : tk T n s ≠ 24 := fun z => e2 (r24.mpr z)
  have n3 : tk T n s ≠ 25 := fun z => e3 (r25.mpr z)
  have n4 : tk T n s ≠ 26 := fun z => e4 (r26.mpr z)
  have n5 : tk T n s ≠ 27 := fun z => e5 (r27.mpr z)
  have n6 : tk T n s ≠ 28 := fun z => e6 (r28.mpr z)
  unfold cmpO at t
  rw [if_neg (by clear r23 r24 r25 r26 r27 r28 e1 e2 e3 e4 e5 e6; omega)] at t
  exact t
-- method 249: MillTownModel.ask()I
theorem c_249_0 : pg_cd 249 0 = (1, 1, 0, 0, 0) := by decide +kernel
theorem c_249_1 : pg_cd 249 1 = (6, 1, 0, 1, 0) := by decide +kernel
theorem c_249_2 : pg_cd 249 2 = (5, 1, 0, 0, 0) := by decide +kernel
theorem c_249_3 : pg_cd 249 3 = (1, 2, 0, 0, 110) := by decide +kernel
theorem c_249_5 : pg_cd 249 5 = (1, 2, 0, 0, 111) := by decide +kernel
theorem c_249_7 : pg_cd 249 7 = (1, 2, 0, 0, 116) := by decide +kernel
theorem c_249_9 : pg_cd 249 9 = (81, 232, 160, 0, 0) := by decide +kernel
theorem c_249_12 : pg_cd 249 12 = (80, 235, 164, 0, 0) := by decide +kernel
theorem c_249_15 : pg_cd 249 15 = (36, 3, 0, 0, 34) := by decide +kernel
theorem c_249_18 : pg_cd 249 18 = (5, 1, 0, 0, 0) := by decide +kernel
theorem c_249_19 : pg_cd 249 19 = (43, 12, 184, 17, 0) := by decide +kernel
theorem c_249_22 : pg_cd 249 22 = (1, 2, 0, 0, 8) := by decide +kernel
theorem c_249_24 : pg_cd 249 24 = (37, 3, 0, 1, 5) := by decide +kernel
theorem c_249_27 : pg_cd 249 27 = (1, 1, 0, 0, 3) := by decide +kernel
theorem c_249_28 : pg_cd 249 28 = (90, 0, 0, 0, 0) := by decide +kernel
theorem c_249_29 : pg_cd 249 29 = (5, 1, 0, 0, 0) := by decide +kernel
theorem c_249_30 : pg_cd 249 30 = (33, 1, 0, 0, 0) := by decide +kernel
theorem c_249_31 : pg_cd 249 31 = (43, 12, 184, 17, 0) := by decide +kernel
theorem c_249_34 : pg_cd 249 34 = (1, 1, 0, 0, 1) := by decide +kernel
theorem c_249_35 : pg_cd 249 35 = (10, 1, 0, 0, 0) := by decide +kernel
theorem c_249_36 : pg_cd 249 36 = (46, 12, 184, 17, 0) := by decide +kernel
theorem c_249_39 : pg_cd 249 39 = (9, 3, 0, 1, 1) := by decide +kernel
theorem c_249_42 : pg_cd 249 42 = (5, 1, 0, 0, 0) := by decide +kernel
theorem c_249_43 : pg_cd 249 43 = (80, 231, 168, 0, 0) := by decide +kernel
theorem c_249_46 : pg_cd 249 46 = (38, 3, 0, 0, (-44)) := by decide +kernel
theorem c_249_49 : pg_cd 249 49 = (5, 1, 0, 0, 0) := by decide +kernel
theorem c_249_50 : pg_cd 249 50 = (80, 247, 225, 0, 0) := by decide +kernel
theorem c_249_53 : pg_cd 249 53 = (6, 1, 0, 2, 0) := by decide +kernel
theorem c_249_54 : pg_cd 249 54 = (3, 1, 0, 2, 0) := by decide +kernel
theorem c_249_55 : pg_cd 249 55 = (36, 3, 0, 0, 5) := by decide +kernel
theorem c_249_58 : pg_cd 249 58 = (3, 1, 0, 2, 0) := by decide +kernel
theorem c_249_59 : pg_cd 249 59 = (90, 0, 0, 0, 0) := by decide +kernel
theorem c_249_60 : pg_cd 249 60 = (5, 1, 0, 0, 0) := by decide +kernel
theorem c_249_61 : pg_cd 249 61 = (80, 248, 228, 0, 0) := by decide +kernel
theorem c_249_64 : pg_cd 249 64 = (6, 1, 0, 3, 0) := by decide +kernel
theorem c_249_65 : pg_cd 249 65 = (3, 1, 0, 3, 0) := by decide +kernel
theorem c_249_66 : pg_cd 249 66 = (36, 3, 0, 3, 5) := by decide +kernel
theorem c_249_69 : pg_cd 249 69 = (1, 1, 0, 0, 1) := by decide +kernel
theorem c_249_70 : pg_cd 249 70 = (90, 0, 0, 0, 0) := by decide +kernel
theorem c_249_71 : pg_cd 249 71 = (5, 1, 0, 0, 0) := by decide +kernel
theorem c_249_72 : pg_cd 249 72 = (80, 231, 168, 0, 0) := by decide +kernel
theorem c_249_75 : pg_cd 249 75 = (5, 1, 0, 0, 0) := by decide +kernel
theorem c_249_76 : pg_cd 249 76 = (80, 247, 225, 0, 0) := by decide +kernel
theorem c_249_79 : pg_cd 249 79 = (6, 1, 0, 2, 0) := by decide +kernel
theorem c_249_80 : pg_cd 249 80 = (3, 1, 0, 2, 0) := by decide +kernel
theorem c_249_81 : pg_cd 249 81 = (36, 3, 0, 0, 5) := by decide +kernel
theorem c_249_84 : pg_cd 249 84 = (3, 1, 0, 2, 0) := by decide +kernel
theorem c_249_85 : pg_cd 249 85 = (90, 0, 0, 0, 0) := by decide +kernel
theorem c_249_86 : pg_cd 249 86 = (5, 1, 0, 0, 0) := by decide +kernel
theorem c_249_87 : pg_cd 249 87 = (3, 1, 0, 3, 0) := by decide +kernel
theorem c_249_88 : pg_cd 249 88 = (1, 1, 0, 0, 0) := by decide +kernel
theorem c_249_89 : pg_cd 249 89 = (80, 238, 187, 0, 0) := by decide +kernel
theorem c_249_92 : pg_cd 249 92 = (5, 1, 0, 0, 0) := by decide +kernel
theorem c_249_93 : pg_cd 249 93 = (33, 1, 0, 0, 0) := by decide +kernel
theorem c_249_94 : pg_cd 249 94 = (43, 12, 184, 17, 0) := by decide +kernel
theorem c_249_97 : pg_cd 249 97 = (3, 1, 0, 1, 0) := by decide +kernel
theorem c_249_98 : pg_cd 249 98 = (11, 1, 0, 0, 0) := by decide +kernel
theorem c_249_99 : pg_cd 249 99 = (46, 12, 184, 17, 0) := by decide +kernel
theorem c_249_102 : pg_cd 249 102 = (1, 1, 0, 0, 0) := by decide +kernel
theorem c_249_103 : pg_cd 249 103 = (6, 2, 0, 4, 0) := by decide +kernel
theorem c_249_105 : pg_cd 249 105 = (3, 2, 0, 4, 0) := by decide +kernel
theorem c_249_107 : pg_cd 249 107 = (3, 1, 0, 1, 0) := by decide +kernel
theorem c_249_108 : pg_cd 249 108 = (37, 3, 0, 3, 16) := by decide +kernel
theorem c_249_111 : pg_cd 249 111 = (5, 1, 0, 0, 0) := by decide +kernel
theorem c_249_112 : pg_cd 249 112 = (1, 2, 0, 0, 20) := by decide +kernel
theorem c_249_114 : pg_cd 249 114 = (1, 1, 0, 0, 0) := by decide +kernel
theorem c_249_115 : pg_cd 249 115 = (80, 238, 187, 0, 0) := by decide +kernel
theorem c_249_118 : pg_cd 249 118 = (9, 3, 0, 4, 1) := by decide +kernel
theorem c_249_121 : pg_cd 249 121 = (38, 3, 0, 0, (-16)) := by decide +kernel
theorem c_249_124 : pg_cd 249 124 = (1, 1, 0, 0, 0) := by decide +kernel
theorem c_249_125 : pg_cd 249 125 = (90, 0, 0, 0, 0) := by decide +kernel
theorem mi_249 : pg_mc 249 = 12 ∧ pg_na 249 = 0 ∧ pg_mx 249 = 5 := by decide +kernel
set_option maxRecDepth 20000 in
theorem u_249_0 {d : Nat} {S : zS} {σ τ : zI} {Q : zQ} (t : wi (d + 10) 249 2 [.ref 83, .int (wI 0), .retAddr 0, .retAddr 0, .retAddr 0] [] S σ τ Q) : wi (d + 10) 249 0 [.ref 83, .retAddr 0, .retAddr 0, .retAddr 0, .retAddr 0] [] S σ τ Q := by
  refine i1 c_249_0 (i6 (L' := [.ref 83, .int (wI 0), .retAddr 0, .retAddr 0, .retAddr 0]) c_249_1 rfl t)
set_option maxRecDepth 20000 in
theorem u_249_2 {d : Nat} {S : zS} {σ τ : zI} {Q : zQ} {x1 : Int} {y2 : Value} {y3 : Value} {y4 : Value} (t : (((0 : Int) ≤ 110 ∧ 110 ≤ (127 : Int)) ∧ ((0 : Int) ≤ 111 ∧ 111 ≤ (127 : Int)) ∧ ((0 : Int) ≤ 116 ∧ 116 ≤ (127 : Int))) ∧ (rj (110 * 65536 + 111 * 256 + 116)) ∧ if σ 83 9 = 2 ∧ τ 83 11 = (110 * 65536 + 111 * 256 + 116) then (if (σ 83 17) = 8 then (Q (some (.int (wI 3))) S σ τ) else (∃ w6 : Int, wI w6 = wI ((σ 83 17) + 1) ∧ rg w6 ∧ ∃ T9 : Int → Int, ∃ n10 : Int, ∃ s11 : Int, (TB T9 n10) ∧ (TR T9 n10 s11 (uc σ 83 (u1 (σ 83) 17 w6)) τ) ∧ (s11 < n10) ∧ ∀ (σ115 : zI) (τ116 : zI), FK (uc σ 83 (u1 (σ 83) 17 w6)) σ115 τ τ116 → TR T9 n10 (nx T9 n10 s11) σ115 τ116 → wi (d + 10) 249 2 [.ref 83, .int (wI (x1 + 1)), y2, y3, y4] [] S σ115 τ116 Q)) else (∃ T19 : Int → Int, ∃ n20 : Int, ∃ s21 : Int, ∃ k22 : Nat, (TB T19 n20) ∧ (TR T19 n20 s21 σ τ) ∧ (EB σ) ∧ (σ 83 14 < s21) ∧ (k22 ≤ 8) ∧ (σ 83 17 = 8 - k22) ∧ ∀ (σ129 : zI) (τ130 : zI), 0 ≤ (sumO T19 n20 (oneK T19 n20 k22) s21).1 ∧ (sumO T19 n20 (oneK T19 n20 k22) s21).1 ≤ 3 → TR T19 n20 (sumO T19 n20 (oneK T19 n20 k22) s21).2.1 σ129 τ130 → ((sumO T19 n20 (oneK T19 n20 k22) s21).1 = 0 → PF σ σ129 τ τ130 (sumO T19 n20 (oneK T19 n20 k22) s21).2.2 ∧ σ129 83 17 = 8 - k22) → σ129 83 14 ≤ 310 → ((∀ c, c ≠ 83 → c ≠ 84 → c ≠ 88 → σ129 c = σ c) ∧ (∀ k22, k22 < 7 ∨ (11 ≤ k22 ∧ k22 < 14) ∨ k22 = 15 ∨ 18 < k22 → σ129 83 k22 = σ 83 k22) ∧ (∀ c, c ≠ 83 → τ130 c = τ c) ∧ ∀ k22, k22 ≠ 11 → τ130 83 k22 = τ 83 k22) → (∃ L, PF σ σ129 τ τ130 L) → (rg ((sumO T19 n20 (oneK T19 n20 k22) s21).1)) ∧ if ((sumO T19 n20 (oneK T19 n20 k22) s21).1) = 0 then (∃ T39 : Int → Int, ∃ n40 : Int, ∃ s41 : Int, (TB T39 n40) ∧ (TR T39 n40 s41 σ129 τ130) ∧ (rg (cmpO (tk T39 n40 s41))) ∧ if (0 : Int) ≤ (cmpO (tk T39 n40 s41)) then (∃ T46 : Int → Int, ∃ n47 : Int, ∃ s48 : Int, (TB T46 n47) ∧ (TR T46 n47 s48 σ129 τ130) ∧ (s48 < n47) ∧ ∀ (σ152 : zI) (τ153 : zI), FK σ129 σ152 τ130 τ153 → TR T46 n47 (nx T46 n47 s48) σ152 τ153 → ∃ T56 : Int → Int, ∃ n57 : Int, ∃ s58 : Int, ∃ k59 : Nat, (TB T56 n57) ∧ (TR T56 n57 s58 σ152 τ153) ∧ (EB σ152) ∧ (σ152 83 14 < s58) ∧ (k59 ≤ 8) ∧ (σ152 83 17 = 8 - k59) ∧ ∀ (σ166 : zI) (τ167 : zI), 0 ≤ (sumO T56 n57 (oneK T56 n57 k59) s58).1 ∧ (sumO T56 n57 (oneK T56 n57 k59) s58).1 ≤ 3 → TR T56 n57 (sumO T56 n57 (oneK T56 n57 k59) s58).2.1 σ166 τ167 → ((sumO T56 n57 (oneK T56 n57 k59) s58).1 = 0 → PF σ152 σ166 τ153 τ167 (sumO T56 n57 (oneK T56 n57 k59) s58).2.2 ∧ σ166 83 17 = 8 - k59) → σ166 83 14 ≤ 310 → ((∀ c, c ≠ 83 → c ≠ 84 → c ≠ 88 → σ166 c = σ152 c) ∧ (∀ k59, k59 < 7 ∨ (11 ≤ k59 ∧ k59 < 14) ∨ k59 = 15 ∨ 18 < k59 → σ166 83 k59 = σ152 83 k59) ∧ (∀ c, c ≠ 83 → τ167 c = τ153 c) ∧ ∀ k59, k59 ≠ 11 → τ167 83 k59 = τ153 83 k59) → (∃ L, PF σ152 σ166 τ153 τ167 L) → (rg ((sumO T56 n57 (oneK T56 n57 k59) s58).1)) ∧ if ((sumO T56 n57 (oneK T56 n57 k59) s58).1) = 0 then ((EB σ166) ∧ ∀ (σ177 : zI), EM σ166 σ177 (cmpO (tk T39 n40 s41)) 0 → ∃ w80 : Int, wI w80 = wI ((σ177 83 17) - x1) ∧ rg w80 ∧ wi (d + 10) 249 105 [.ref 83, .int (wI x1), .int (wI ((sumO T56 n57 (oneK T56 n57 k59) s58).1)), .int (wI (cmpO (tk T39 n40 s41))), .int (wI 0)] [] S (uc σ177 83 (u1 (σ177 83) 17 w80)) τ167 Q) else (Q (some (.int (wI ((sumO T56 n57 (oneK T56 n57 k59) s58).1)))) S σ166 τ167)) else (Q (some (.int (wI 1))) S σ129 τ130)) else (Q (some (.int (wI ((sumO T19 n20 (oneK T19 n20 k22) s21).1)))) S σ129 τ130))) : wi (d + 10) 249 2 [.ref 83, .int (wI x1), y2, y3, y4] [] S σ τ Q := by
  obtain ⟨p1, t⟩ := t
  refine i5 c_249_2 rfl (i1 c_249_3 (i1 c_249_5 (i1 c_249_7 ?_)))
  refine i81 (As := [.int (wI 110), .int (wI 111), .int (wI 116)]) (rest := [.ref 83]) c_249_9 mi_232 rfl rfl (Nat.le_of_ble_eq_true rfl) (Nat.le_of_ble_eq_true rfl) (q_232 p1 ?_)
  show wi (d + 10) 249 12 [.ref 83, .int (wI x1), y2, y3, y4] [.long (wJ (110 * 65536 + 111 * 256 + 116)), .ref 83] S σ τ Q
  obtain ⟨p2, t⟩ := t
  refine i80 (As := [.long (wJ (110 * 65536 + 111 * 256 + 116))]) (rest := []) c_249_12 mi_235 rfl rfl (Nat.le_of_ble_eq_true rfl) (Nat.le_of_ble_eq_true rfl) (lo (c := 83) (kd := 112) (n := 0) rfl (by decide)) (q_235 p2 ?_)
  show wi (d + 10) 249 15 [.ref 83, .int (wI x1), y2, y3, y4] [.int (wI (if σ 83 9 = 2 ∧ τ 83 11 = (110 * 65536 + 111 * 256 + 116) then 1 else 0))] S σ τ Q
  refine i36e c_249_15 rfl (fun hc => ?_) (fun hc => ?_)
  · have t := iT t hc
    have ha3 : σ 83 9 = 2 ∧ τ 83 11 = (110 * 65536 + 111 * 256 + 116) := hc
    refine i5 c_249_18 rfl (wi_ok (fun K4 => ?_))
    refine i43 (v := σ 83 17) c_249_19 (lo (c := 83) (kd := 112) (n := 0) rfl (by decide)) rfl (i1 c_249_22 ?_)
    refine i37 c_249_24 (rge_ K4 rfl) (by decide) rfl (fun hc => ?_) (fun hc => ?_)
    · have t := iF t hc
      have ha5 : ¬ ((σ 83 17) = 8) := hc
      obtain ⟨w6, e7, r8, t⟩ := t
      obtain ⟨T9, t⟩ := t
      obtain ⟨n10, t⟩ := t
      obtain ⟨s11, t⟩ := t
      obtain ⟨p12, t⟩ := t
      obtain ⟨p13, t⟩ := t
      obtain ⟨p14, t⟩ := t
      refine i5 c_249_29 rfl (i33a c_249_30 (i43 (v := σ 83 17) c_249_31 (lo (c := 83) (kd := 112) (n := 0) rfl (by decide)) rfl (i1 c_249_34 (i10 c_249_35 (i46 (σ1 := uc σ 83 (u1 (σ 83) 17 w6)) c_249_36 (lo (c := 83) (kd := 112) (n := 0) rfl (by decide)) (by decide) e7 r8 (wr_ rfl rfl) (i9 (L' := [.ref 83, .int (wI (x1 + 1)), y2, y3, y4]) c_249_39 rfl rfl (i5 c_249_42 rfl ?_)))))))
      refine i80 (As := []) (rest := []) c_249_43 mi_231 rfl rfl (Nat.le_of_ble_eq_true rfl) (Nat.le_of_ble_eq_true rfl) (lo (c := 83) (kd := 112) (n := 0) rfl (by decide)) (q_231t (T := T9) (n := n10) (s := s11) p12 p13 p14 (fun σ115 τ116 q17 q18 => ?_))
      have t := t σ115 τ116 q17 q18
      show wi (d + 10) 249 46 [.ref 83, .int (wI (x1 + 1)), y2, y3, y4] [] S σ115 τ116 Q
      refine i38 c_249_46 rfl t
    · have t := iT t (Decidable.not_not.mp hc)
      have ha5 : (σ 83 17) = 8 := Decidable.not_not.mp hc
      refine i1 c_249_27 ?_
      exact i90 c_249_28 t
  · have t := iF t hc
    have ha3 : ¬ (σ 83 9 = 2 ∧ τ 83 11 = (110 * 65536 + 111 * 256 + 116)) := hc
    obtain ⟨T19, t⟩ := t
    obtain ⟨n20, t⟩ := t
    obtain ⟨s21, t⟩ := t
    obtain ⟨k22, t⟩ := t
    obtain ⟨p23, t⟩ := t
    obtain ⟨p24, t⟩ := t
    obtain ⟨p25, t⟩ := t
    obtain ⟨p26, t⟩ := t
    obtain ⟨p27, t⟩ := t
    obtain ⟨p28, t⟩ := t
    refine i5 c_249_49 rfl ?_
    refine i80 (As := []) (rest := []) c_249_50 mi_247 rfl rfl (Nat.le_of_ble_eq_true rfl) (Nat.le_of_ble_eq_true rfl) (lo (c := 83) (kd := 112) (n := 0) rfl (by decide)) (q_247 (T := T19) (n := n20) (s := s21) (k := k22) p23 p24 p25 p26 p27 p28 (fun σ129 τ130 q31 q32 q33 q34 q35 q36 => ?_))
    have t := t σ129 τ130 q31 q32 q33 q34 q35 q36
    show wi (d + 10) 249 53 [.ref 83, .int (wI x1), y2, y3, y4] [.int (wI ((sumO T19 n20 (oneK T19 n20 k22) s21).1))] S σ129 τ130 Q
    obtain ⟨r37, t⟩ := t
    refine i6 (L' := [.ref 83, .int (wI x1), .int (wI ((sumO T19 n20 (oneK T19 n20 k22) s21).1)), y3, y4]) c_249_53 rfl (i3 c_249_54 rfl ?_)
    refine i36 c_249_55 r37 rfl (fun hc => ?_) (fun hc => ?_)
    · have t := iT t hc
      have ha38 : ((sumO T19 n20 (oneK T19 n20 k22) s21).1) = 0 := hc
      obtain ⟨T39, t⟩ := t
      obtain ⟨n40, t⟩ := t
      obtain ⟨s41, t⟩ := t
      obtain ⟨p42, t⟩ := t
      obtain ⟨p43, t⟩ := t
      refine i5 c_249_60 rfl ?_
      refine i80 (As := []) (rest := []) c_249_61 mi_248 rfl rfl (Nat.le_of_ble_eq_true rfl) (Nat.le_of_ble_eq_true rfl) (lo (c := 83) (kd := 112) (n := 0) rfl (by decide)) (q_248 (T := T39) (n := n40) (s := s41) p42 p43 ?_)
      show wi (d + 10) 249 64 [.ref 83, .int (wI x1), .int (wI ((sumO T19 n20 (oneK T19 n20 k22) s21).1)), y3, y4] [.int (wI (cmpO (tk T39 n40 s41)))] S σ129 τ130 Q
      obtain ⟨r44, t⟩ := t
      refine i6 (L' := [.ref 83, .int (wI x1), .int (wI ((sumO T19 n20 (oneK T19 n20 k22) s21).1)), .int (wI (cmpO (tk T39 n40 s41))), y4]) c_249_64 rfl (i3 c_249_65 rfl ?_)
      refine i36 c_249_66 r44 rfl (fun hc => ?_) (fun hc => ?_)
      · have t := iT t hc
        have ha45 : (0 : Int) ≤ (cmpO (tk T39 n40 s41)) := hc
        obtain ⟨T46, t⟩ := t
        obtain ⟨n47, t⟩ := t
        obtain ⟨s48, t⟩ := t
        obtain ⟨p49, t⟩ := t
        obtain ⟨p50, t⟩ := t
        obtain ⟨p51, t⟩ := t
        refine i5 c_249_71 rfl ?_
        refine i80 (As := []) (rest := []) c_249_72 mi_231 rfl rfl (Nat.le_of_ble_eq_true rfl) (Nat.le_of_ble_eq_true rfl) (lo (c := 83) (kd := 112) (n := 0) rfl (by decide)) (q_231t (T := T46) (n := n47) (s := s48) p49 p50 p51 (fun σ152 τ153 q54 q55 => ?_))
        have t := t σ152 τ153 q54 q55
        show wi (d + 10) 249 75 [.ref 83, .int (wI x1), .int (wI ((sumO T19 n20 (oneK T19 n20 k22) s21).1)), .int (wI (cmpO (tk T39 n40 s41))), y4] [] S σ152 τ153 Q
        obtain ⟨T56, t⟩ := t
        obtain ⟨n57, t⟩ := t
        obtain ⟨s58, t⟩ := t
        obtain ⟨k59, t⟩ := t
        obtain ⟨p60, t⟩ := t
        obtain ⟨p61, t⟩ := t
        obtain ⟨p62, t⟩ := t
        obtain ⟨p63, t⟩ := t
        obtain ⟨p64, t⟩ := t
        obtain ⟨p65, t⟩ := t
        refine i5 c_249_75 rfl ?_
        refine i80 (As := []) (rest := []) c_249_76 mi_247 rfl rfl (Nat.le_of_ble_eq_true rfl) (Nat.le_of_ble_eq_true rfl) (lo (c := 83) (kd := 112) (n := 0) rfl (by decide)) (q_247 (T := T56) (n := n57) (s := s58) (k := k59) p60 p61 p62 p63 p64 p65 (fun σ166 τ167 q68 q69 q70 q71 q72 q73 => ?_))
        have t := t σ166 τ167 q68 q69 q70 q71 q72 q73
        show wi (d + 10) 249 79 [.ref 83, .int (wI x1), .int (wI ((sumO T19 n20 (oneK T19 n20 k22) s21).1)), .int (wI (cmpO (tk T39 n40 s41))), y4] [.int (wI ((sumO T56 n57 (oneK T56 n57 k59) s58).1))] S σ166 τ167 Q
        obtain ⟨r74, t⟩ := t
        refine i6 (L' := [.ref 83, .int (wI x1), .int (wI ((sumO T56 n57 (oneK T56 n57 k59) s58).1)), .int (wI (cmpO (tk T39 n40 s41))), y4]) c_249_79 rfl (i3 c_249_80 rfl ?_)
        refine i36 c_249_81 r74 rfl (fun hc => ?_) (fun hc => ?_)
        · have t := iT t hc
          have ha75 : ((sumO T56 n57 (oneK T56 n57 k59) s58).1) = 0 := hc
          obtain ⟨p76, t⟩ := t
          refine i5 c_249_86 rfl (i3 c_249_87 rfl (i1 c_249_88 ?_))
          refine i80 (As := [.int (wI (cmpO (tk T39 n40 s41))), .int (wI 0)]) (rest := []) c_249_89 mi_238 rfl rfl (Nat.le_of_ble_eq_true rfl) (Nat.le_of_ble_eq_true rfl) (lo (c := 83) (kd := 112) (n := 0) rfl (by decide)) (q_238 r44 (by decide) p76 (fun σ177 q78 => ?_))
          have t := t σ177 q78
          show wi (d + 10) 249 92 [.ref 83, .int (wI x1), .int (wI ((sumO T56 n57 (oneK T56 n57 k59) s58).1)), .int (wI (cmpO (tk T39 n40 s41))), y4] [] S σ177 τ167 Q
          refine i5 c_249_92 rfl (i33a c_249_93 (wi_ok (fun K79 => ?_)))
          obtain ⟨w80, e81, r82, t⟩ := t
          refine i43 (v := σ177 83 17) c_249_94 (lo (c := 83) (kd := 112) (n := 0) rfl (by decide)) rfl (i3 c_249_97 rfl (i11 c_249_98 (i46 (σ1 := uc σ177 83 (u1 (σ177 83) 17 w80)) c_249_99 (lo (c := 83) (kd := 112) (n := 0) rfl (by decide)) (by decide) e81 r82 (wr_ rfl rfl) (i1 c_249_102 (i6 (L' := [.ref 83, .int (wI x1), .int (wI ((sumO T56 n57 (oneK T56 n57 k59) s58).1)), .int (wI (cmpO (tk T39 n40 s41))), .int (wI 0)]) c_249_103 rfl t)))))
        · have t := iF t hc
          have ha75 : ¬ (((sumO T56 n57 (oneK T56 n57 k59) s58).1) = 0) := hc
          refine i3 c_249_84 rfl ?_
          exact i90 c_249_85 t
      · have t := iF t hc
        have ha45 : ¬ ((0 : Int) ≤ (cmpO (tk T39 n40 s41))) := hc
        refine i1 c_249_69 ?_
        exact i90 c_249_70 t
    · have t := iF t hc
      have ha38 : ¬ (((sumO T19 n20 (oneK T19 n20 k22) s21).1) = 0) := hc
      refine i3 c_249_58 rfl ?_
      exact i90 c_249_59 t
set_option maxRecDepth 20000 in
theorem u_249_105 {d : Nat} {S : zS} {σ τ : zI} {Q : zQ} {x1 : Int} {x2 : Int} {x3 : Int} {x4 : Int} (t : (rg x4) ∧ (rg x1) ∧ if x1 ≤ x4 then (Q (some (.int (wI 0))) S σ τ) else ((EB σ) ∧ ∀ (σ15 : zI), EM σ σ15 20 0 → wi (d + 10) 249 105 [.ref 83, .int (wI x1), .int (wI x2), .int (wI x3), .int (wI (x4 + 1))] [] S σ15 τ Q)) : wi (d + 10) 249 105 [.ref 83, .int (wI x1), .int (wI x2), .int (wI x3), .int (wI x4)] [] S σ τ Q := by
  obtain ⟨r1, t⟩ := t
  obtain ⟨r2, t⟩ := t
  refine i3 c_249_105 rfl (i3 c_249_107 rfl ?_)
  refine i37 c_249_108 r1 r2 rfl (fun hc => ?_) (fun hc => ?_)
  · have t := iT t hc
    have ha3 : x1 ≤ x4 := hc
    refine i1 c_249_124 ?_
    exact i90 c_249_125 t
  · have t := iF t hc
    have ha3 : ¬ (x1 ≤ x4) := hc
    obtain ⟨p4, t⟩ := t
    refine i5 c_249_111 rfl (i1 c_249_112 (i1 c_249_114 ?_))
    refine i80 (As := [.int (wI 20), .int (wI 0)]) (rest := []) c_249_115 mi_238 rfl rfl (Nat.le_of_ble_eq_true rfl) (Nat.le_of_ble_eq_true rfl) (lo (c := 83) (kd := 112) (n := 0) rfl (by decide)) (q_238 (by decide) (by decide) p4 (fun σ15 q6 => ?_))
    have t := t σ15 q6
    show wi (d + 10) 249 118 [.ref 83, .int (wI x1), .int (wI x2), .int (wI x3), .int (wI x4)] [] S σ15 τ Q
    refine i9 (L' := [.ref 83, .int (wI x1), .int (wI x2), .int (wI x3), .int (wI (x4 + 1))]) c_249_118 rfl rfl (i38 c_249_121 rfl t)
theorem q_249 {d : Nat} {S : zS} {σ τ : zI} {Q : zQ} {T : Int → Int} {n : Int} {s : Int} (p0 : TB T n) (p1 : TR T n s σ τ) (p2 : EB σ) (p3 : σ 83 14 < s) (p4 : σ 83 17 = 0) (t : ∀ (σ1 : zI) (τ1 : zI), 0 ≤ (askO T n s).1 ∧ (askO T n s).1 ≤ 3 → OF T n σ τ (askO T n s) σ1 τ1 → Q (some (.int (wI ((askO T n s).1)))) S σ1 τ1) : wc (d + 10) 249 [.ref 83] S σ τ Q := by
  have n3 := p0.1.2
  have s01 := p1.1
  have ak := askO_ok (T := T) n3 s01.1 s01.2
  have no := notO_ok (T := T) 8 s 0 s01.1 s01.2
  have fin : ∀ (r e : Int) (σ1 τ1 : zI) (L : List (Int × Int)), askO T n s = (r, e, []) → 1 ≤ r ∧ r ≤ 3 → PF σ σ1 τ τ1 L → σ1 83 14 ≤ 310 → TR T n e σ1 τ1 → Q (some (.int (wI r))) S σ1 τ1 := by
    intro r e σ1 τ1 L ea hr pf b tr
    have h := t σ1 τ1
    rw [ea] at h
    exact h (by show 0 ≤ r ∧ r ≤ 3; omega) ⟨tr, fun z => by have : r = 0 := z; omega, L, pf, b⟩
  have tail : ∀ (m : Nat) (e c j x2 x3 : Int) (L : List (Int × Int)) (σ1 τ1 : zI), c - j = m → 0 ≤ j → c ≤ 8 → askO T n s = (0, e, L ++ List.replicate m (20, 0)) → PF σ σ1 τ τ1 L → σ1 83 17 = σ 83 17 → TR T n e σ1 τ1 → wi (d + 10) 249 105 [.ref 83, .int (wI c), .int (wI x2), .int (wI x3), .int (wI j)] [] S σ1 τ1 Q := by
    intro m
    induction m with
    | zero =>
      intro e c j x2 x3 L σ1 τ1 hm h0 h8 ea pf h17 tr
      have al := ak.1 (by rw [ea])
      rw [ea] at al
      have al2 : ((L ++ List.replicate 0 ((20 : Int), (0 : Int))).length : Int) ≤ e - s := al.2.2
      rw [List.length_append, List.length_replicate] at al2
      have te := tr.1
      have e14 := pf.1.1
      refine u_249_105 ⟨by omega, by omega, ifI (fun _ => ?_) (fun z => by omega)⟩
      have h := t σ1 τ1
      rw [ea, List.replicate_zero, List.append_nil] at h
      exact h (by show (0 : Int) ≤ 0 ∧ (0 : Int) ≤ 3; omega) ⟨tr, fun _ => ⟨pf, h17⟩, L, pf, by omega⟩
    | succ m ih =>
      intro e c j x2 x3 L σ1 τ1 hm h0 h8 ea pf h17 tr
      have al := ak.1 (by rw [ea])
      rw [ea] at al
      have al2 : ((L ++ List.replicate (m + 1) ((20 : Int), (0 : Int))).length : Int) ≤ e - s := al.2.2
      rw [List.length_append, List.length_replicate] at al2
      have te := tr.1
      have e14 := pf.1.1
      refine u_249_105 ⟨by omega, by omega, ifI (fun z => by omega) (fun _ => ⟨PF_EB p2 pf (by omega), fun σ2 em => ih e c (j + 1) x2 x3 (L ++ [(20, 0)]) σ2 τ1 (by omega) (by omega) h8 ?_ (PF_t pf (em.1 τ1)) ?_ (TR_em tr em)⟩)⟩
      · rw [ea, List.append_assoc, List.replicate_succ]; rfl
      · rw [em.2.2 17 (by omega)]; exact h17
  have rest : ∀ (c s' : Int) (σ' τ' : zI) (y2 y3 y4 : Value), notO T n 8 s 0 = (0, s', c) → 0 ≤ c → c ≤ 8 → TR T n s' σ' τ' → PF σ σ' τ τ' [] → σ' 83 17 = c → tk T n s' ≠ 16 → wi (d + 10) 249 2 [.ref 83, .int (wI c), y2, y3, y4] [] S σ' τ' Q := by
    intro c s' σ' τ' y2 y3 y4 hno c0 c8 tr pf h17 h16
    have l0 : (([] : List (Int × Int)).length : Int) = 0 := rfl
    have e14 := pf.1.1
    rw [l0] at e14
    have nk := no.1 (by rw [hno])
    rw [hno] at nk
    have ns : s ≤ s' := nk.1
    have ts := tr.1
    have w16 := TR_w tr p0 (t := 16) (v := 110 * 65536 + 111 * 256 + 116) (by omega) (fun x => by rw [wcd_16]; omega)
    have ea : askO T n s = askK T n (8 - c).toNat c s' := by
      unfold askO
      rw [hno]
      exact if_neg (fun z => z rfl)
    have hk : (8 - c).toNat ≤ 8 := by omega
    have ok1 := oneK_ok (T := T) n3 (8 - c).toNat hk
    have so := sumO_ok (T := T) n3 ok1 ts.1 ts.2
    refine u_249_2 ⟨by omega, by decide, ifI (fun z => absurd (w16.mp z) h16) (fun _ => ⟨T, n, s', (8 - c).toNat, p0, tr, PF_EB p2 pf (by have := p2.2; omega), by omega, hk, by omega, fun σ2 τ2 rb tr2 okf b2 fr ex => ⟨by omega, ifI (fun e => ?_) (fun e => ?_)⟩⟩)⟩
    · obtain ⟨pf2, g17⟩ := okf e
      have so1 := so.1 e
      have pfa := PF_t pf pf2
      have a14 := pf2.1.1
      by_cases c1 : 23 ≤ tk T n (sumO T n (oneK T n (8 - c).toNat) s').2.1 ∧ tk T n (sumO T n (oneK T n (8 - c).toNat) s').2.1 ≤ 28
      · have ec : cmpO (tk T n (sumO T n (oneK T n (8 - c).toNat) s').2.1) = tk T n (sumO T n (oneK T n (8 - c).toNat) s').2.1 - 13 := if_pos c1
        refine ⟨T, n, _, p0, tr2, by omega, ifI (fun _ => ?_) (fun z => by omega)⟩
        have sn := tk_n (T := T) (n := n) (s := (sumO T n (oneK T n (8 - c).toNat) s').2.1) (by omega)
        have nb := nx_b (T := T) sn
        refine ⟨T, n, _, p0, tr2, sn, fun σ3 τ3 fk tr3 => ?_⟩
        have pfb := PF_n pfa (PF_F fk)
        have f14 : σ3 83 14 = σ2 83 14 := fk.2.1 14 (by omega)
        have f17 : σ3 83 17 = σ2 83 17 := fk.2.1 17 (by omega)
        have sb := sumO_ok (T := T) n3 ok1 (s := nx T n (sumO T n (oneK T n (8 - c).toNat) s').2.1) (by omega) (by omega)
        refine ⟨T, n, _, (8 - c).toNat, p0, tr3, PF_EB p2 pfb (by omega), by omega, hk, by omega, fun σ4 τ4 rb4 tr4 ok4 b4 fr4 ex4 => ⟨by omega, ifI (fun e4 => ⟨?_, fun σ5 em => ?_⟩) (fun e4 => ?_)⟩⟩
        · exact PF_EB (PF_EB p2 pfb (by omega)) (ok4 e4).1 b4
        · obtain ⟨pf4, h4⟩ := ok4 e4
          have pfc := PF_t (PF_t pfb pf4) (em.1 τ4)
          have m17 : σ5 83 17 = c := by rw [em.2.2 17 (by omega), h4]; omega
          have kv : askK T n (8 - c).toNat c s' = (0, (sumO T n (oneK T n (8 - c).toNat) (nx T n (sumO T n (oneK T n (8 - c).toNat) s').2.1)).2.1, (sumO T n (oneK T n (8 - c).toNat) s').2.2 ++ (sumO T n (oneK T n (8 - c).toNat) (nx T n (sumO T n (oneK T n (8 - c).toNat) s').2.1)).2.2 ++ [(tk T n (sumO T n (oneK T n (8 - c).toNat) s').2.1 - 13, 0)] ++ List.replicate c.toNat (20, 0)) := by
            unfold askK
            rw [if_neg (by omega), if_pos c1, if_neg (by omega)]
          refine ⟨σ5 83 17 - c, rfl, by omega, ?_⟩
          rw [e4]
          refine tail c.toNat _ c 0 0 _ _ _ τ4 (by omega) (by omega) c8 (by rw [ea, kv]) ?_ ?_ ?_
          · have := PF_n pfc (PF_u (σ := σ5) (τ := τ4) (f := u1 (σ5 83) 17 (σ5 83 17 - c)) (fun k hk => u1_n (by omega)))
            rw [ec] at this
            exact this
          · rw [uc_s, u1_s]; omega
          · exact TR_u (TR_em tr4 em) (fun k hk => u1_n (by omega))
        · obtain ⟨L4, pf4⟩ := ex4
          refine fin _ _ σ4 τ4 _ ?_ (sb.2 e4).2.2 (PF_t pfb pf4) b4 tr4
          rw [ea]
          unfold askK
          rw [if_neg (by omega), if_pos c1, if_pos e4]
      · have ec : cmpO (tk T n (sumO T n (oneK T n (8 - c).toNat) s').2.1) = -1 := if_neg c1
        refine ⟨T, n, _, p0, tr2, by omega, ifI (fun z => by omega) (fun _ => fin 1 _ σ2 τ2 _ ?_ (by omega) pfa b2 tr2)⟩
        rw [ea]
        unfold askK
        rw [if_neg (by omega), if_neg c1]
    · obtain ⟨L2, pf2⟩ := ex
      refine fin _ _ σ2 τ2 _ ?_ (so.2 e).2.2 (PF_t pf pf2) b2 tr2
      rw [ea]
      unfold askK
      rw [if_pos e]
  have lp : ∀ (k : Nat) (c s' : Int) (σ' τ' : zI) (y2 y3 y4 : Value), c + k = 8 → 0 ≤ c → notO T n 8 s 0 = notO T n k s' c → TR T n s' σ' τ' → PF σ σ' τ τ' [] → σ' 83 17 = c → wi (d + 10) 249 2 [.ref 83, .int (wI c), y2, y3, y4] [] S σ' τ' Q := by
    intro k
    induction k with
    | zero =>
      intro c s' σ' τ' y2 y3 y4 hc c0 hno tr pf h17
      by_cases h16 : tk T n s' = 16
      · have w16 := TR_w tr p0 (t := 16) (v := 110 * 65536 + 111 * 256 + 116) (by omega) (fun x => by rw [wcd_16]; omega)
        have en : notO T n 0 s' c = (3, s', c) := if_pos h16
        refine u_249_2 ⟨by omega, by decide, ifI (fun _ => ifI (fun _ => fin 3 s' σ' τ' _ ?_ (by omega) pf ?_ tr) (fun z => by omega)) (fun z => absurd (w16.mpr h16) z)⟩
        · unfold askO
          rw [hno, en]
          exact if_pos (show (3 : Int) ≠ 0 by decide)
        · have e14 := pf.1.1
          have l0 : (([] : List (Int × Int)).length : Int) = 0 := rfl
          have := p2.2
          omega
      · exact rest c s' σ' τ' y2 y3 y4 (by rw [hno]; exact if_neg h16) c0 (by omega) tr pf h17 h16
    | succ k ih =>
      intro c s' σ' τ' y2 y3 y4 hc c0 hno tr pf h17
      by_cases h16 : tk T n s' = 16
      · have w16 := TR_w tr p0 (t := 16) (v := 110 * 65536 + 111 * 256 + 116) (by omega) (fun x => by rw [wcd_16]; omega)
        have en : notO T n (k + 1) s' c = notO T n k (nx T n s') (c + 1) := if_pos h16
        refine u_249_2 ⟨by omega, by decide, ifI (fun _ => ifI (fun z => by omega) (fun _ => ⟨σ' 83 17 + 1, rfl, by omega, T, n, s', p0, TR_u tr (fun k hk => u1_n (by omega)), tk_n (T := T) (by omega), fun σ2 τ2 fk tr2 => ?_⟩)) (fun z => absurd (w16.mpr h16) z)⟩
        refine ih (c + 1) _ σ2 τ2 y2 y3 y4 (by omega) (by omega) (by rw [hno, en]) tr2 ?_ ?_
        · exact PF_n (PF_n pf (PF_u (σ := σ') (τ := τ') (f := u1 (σ' 83) 17 (σ' 83 17 + 1)) (fun k hk => u1_n (by omega)))) (PF_F fk)
        · rw [fk.2.1 17 (by omega), uc_s, u1_s]; omega
      · exact rest c s' σ' τ' y2 y3 y4 (by rw [hno]; exact if_neg h16) c0 (by omega) tr pf h17 h16
  exact wc_of mi_249 rfl (u_249_0 (lp 8 0 s σ τ _ _ _ (by omega) (by omega) rfl p1 PF_0 p4))
